section
/-! what the cells hold at all times; the summaries of the methods, as a program found them; checked below -/
def yT1 : yT := ([[[(1, .inr (.ref 1)), (1, .inr (.ref 11)), (1, .inr (.ref 19)), (1, .inr (.ref 29)), (1, .inr (.ref 40)), (1, .inr (.ref 44)), (1, .inr (.ref 45)), (1, .inr (.ref 46)), (1, .inl [(.negSucc 2147483647, .ofNat 2147483647)])],
   [(1, .inr (.ref 2)), (1, .inr (.ref 3)), (1, .inl [(.ofNat 0, .ofNat 160)]), (3, .inl [(.negSucc 2147483647, .ofNat 2147483647)]), (1, .inl [(.ofNat 0, .ofNat 160)]), (1, .inl [(.negSucc 2147483647, .ofNat 2147483647)]), (1, .inl [(.ofNat 0, .ofNat 160)]), (2, .inl [(.negSucc 2147483647, .ofNat 2147483647)]), (2, .inl [(.ofNat 0, .ofNat 1)])],
   [(160, .inl [(.ofNat 0, .ofNat 127)])],
   [(1, .inr (.ref 4)), (1, .inr (.ref 5)), (1, .inl [(.ofNat 0, .ofNat 5)]), (1, .inl [(.ofNat 0, .ofNat 8)]), (1, .inl [(.ofNat 0, .ofNat 9)]), (1, .inl [(.ofNat 0, .ofNat 999)])],
   [(1, .inr (.ref 6)), (1, .inr (.ref 7)), (1, .inr (.ref 8)), (1, .inr (.ref 9)), (1, .inr (.ref 10))],
   [(8, .inl [(.ofNat 0, .ofNat 31)])],
   [(1, .inl [(.ofNat 0, .ofNat 3)]), (2, .inl [(.ofNat 0, .ofNat 99)]), (1, .inl [(.ofNat 0, .ofNat 1)])],
   [(1, .inl [(.ofNat 0, .ofNat 3)]), (2, .inl [(.ofNat 0, .ofNat 99)]), (1, .inl [(.ofNat 0, .ofNat 1)])],
   [(1, .inl [(.ofNat 0, .ofNat 3)]), (2, .inl [(.ofNat 0, .ofNat 99)]), (1, .inl [(.ofNat 0, .ofNat 1)])],
   [(1, .inl [(.ofNat 0, .ofNat 3)]), (2, .inl [(.ofNat 0, .ofNat 99)]), (1, .inl [(.ofNat 0, .ofNat 1)])]],
  [[(1, .inl [(.ofNat 0, .ofNat 3)]), (2, .inl [(.ofNat 0, .ofNat 99)]), (1, .inl [(.ofNat 0, .ofNat 1)])],
   [(1, .inr (.ref 12)), (1, .inr (.ref 13)), (1, .inl [(.ofNat 0, .ofNat 5)]), (1, .inl [(.ofNat 0, .ofNat 8)]), (1, .inl [(.ofNat 0, .ofNat 9)]), (1, .inl [(.ofNat 0, .ofNat 999)])],
   [(1, .inr (.ref 14)), (1, .inr (.ref 15)), (1, .inr (.ref 16)), (1, .inr (.ref 17)), (1, .inr (.ref 18))],
   [(8, .inl [(.ofNat 0, .ofNat 31)])],
   [(1, .inl [(.ofNat 0, .ofNat 3)]), (2, .inl [(.ofNat 0, .ofNat 99)]), (1, .inl [(.ofNat 0, .ofNat 1)])],
   [(1, .inl [(.ofNat 0, .ofNat 3)]), (2, .inl [(.ofNat 0, .ofNat 99)]), (1, .inl [(.ofNat 0, .ofNat 1)])],
   [(1, .inl [(.ofNat 0, .ofNat 3)]), (2, .inl [(.ofNat 0, .ofNat 99)]), (1, .inl [(.ofNat 0, .ofNat 1)])],
   [(1, .inl [(.ofNat 0, .ofNat 3)]), (2, .inl [(.ofNat 0, .ofNat 99)]), (1, .inl [(.ofNat 0, .ofNat 1)])],
   [(1, .inl [(.ofNat 0, .ofNat 3)]), (2, .inl [(.ofNat 0, .ofNat 99)]), (1, .inl [(.ofNat 0, .ofNat 1)])],
   [(1, .inr (.ref 20)), (1, .inr (.ref 28)), (3, .inl [(.negSucc 2147483647, .ofNat 2147483647)])]],
  [[(1, .inr (.ref 21)), (1, .inr (.ref 22)), (1, .inl [(.ofNat 0, .ofNat 5)]), (1, .inl [(.ofNat 0, .ofNat 8)]), (1, .inl [(.ofNat 0, .ofNat 9)]), (1, .inl [(.ofNat 0, .ofNat 999)])],
   [(1, .inr (.ref 23)), (1, .inr (.ref 24)), (1, .inr (.ref 25)), (1, .inr (.ref 26)), (1, .inr (.ref 27))],
   [(8, .inl [(.ofNat 0, .ofNat 31)])],
   [(1, .inl [(.ofNat 0, .ofNat 3)]), (2, .inl [(.ofNat 0, .ofNat 99)]), (1, .inl [(.ofNat 0, .ofNat 1)])],
   [(1, .inl [(.ofNat 0, .ofNat 3)]), (2, .inl [(.ofNat 0, .ofNat 99)]), (1, .inl [(.ofNat 0, .ofNat 1)])],
   [(1, .inl [(.ofNat 0, .ofNat 3)]), (2, .inl [(.ofNat 0, .ofNat 99)]), (1, .inl [(.ofNat 0, .ofNat 1)])],
   [(1, .inl [(.ofNat 0, .ofNat 3)]), (2, .inl [(.ofNat 0, .ofNat 99)]), (1, .inl [(.ofNat 0, .ofNat 1)])],
   [(1, .inl [(.ofNat 0, .ofNat 3)]), (2, .inl [(.ofNat 0, .ofNat 99)]), (1, .inl [(.ofNat 0, .ofNat 1)])],
   [(8, .inl [(.negSucc 3, .negSucc 3), (.ofNat 0, .ofNat 4)])],
   [(1, .inr (.ref 30)), (1, .inr (.ref 38)), (1, .inr (.ref 39)), (1, .inl [(.ofNat 0, .ofNat 5)]), (1, .inl [(.negSucc 2147483647, .ofNat 2147483647)])]],
  [[(1, .inr (.ref 31)), (1, .inr (.ref 32)), (1, .inl [(.ofNat 0, .ofNat 5)]), (1, .inl [(.ofNat 0, .ofNat 8)]), (1, .inl [(.ofNat 0, .ofNat 9)]), (1, .inl [(.ofNat 0, .ofNat 999)])],
   [(1, .inr (.ref 33)), (1, .inr (.ref 34)), (1, .inr (.ref 35)), (1, .inr (.ref 36)), (1, .inr (.ref 37))],
   [(8, .inl [(.ofNat 0, .ofNat 31)])],
   [(1, .inl [(.ofNat 0, .ofNat 3)]), (2, .inl [(.ofNat 0, .ofNat 99)]), (1, .inl [(.ofNat 0, .ofNat 1)])],
   [(1, .inl [(.ofNat 0, .ofNat 3)]), (2, .inl [(.ofNat 0, .ofNat 99)]), (1, .inl [(.ofNat 0, .ofNat 1)])],
   [(1, .inl [(.ofNat 0, .ofNat 3)]), (2, .inl [(.ofNat 0, .ofNat 99)]), (1, .inl [(.ofNat 0, .ofNat 1)])],
   [(1, .inl [(.ofNat 0, .ofNat 3)]), (2, .inl [(.ofNat 0, .ofNat 99)]), (1, .inl [(.ofNat 0, .ofNat 1)])],
   [(1, .inl [(.ofNat 0, .ofNat 3)]), (2, .inl [(.ofNat 0, .ofNat 99)]), (1, .inl [(.ofNat 0, .ofNat 1)])],
   [(5, .inl [(.ofNat 0, .ofNat 4)])],
   [(5, .inl [(.ofNat 0, .ofNat 4)])]],
  [[(1, .inr (.ref 41)), (1, .inr (.ref 42)), (1, .inr (.ref 43)), (1, .inl [(.ofNat 0, .ofNat 6)])],
   [(6, .inl [(.ofNat 0, .ofNat 7)])],
   [(6, .inl [(.negSucc 3, .negSucc 3), (.ofNat 0, .ofNat 4)])],
   [(48, .inl [(.negSucc 2147483647, .ofNat 2147483647)])],
   [(1, .inr (.ref 47)), (1, .inr (.ref 55))],
   [(2, .inl [(.ofNat 0, .ofNat 1)])],
   [(1, .inr (.ref 63)), (1, .inr (.ref 65)), (1, .inr (.ref 67)), (1, .inr (.ref 69))],
   [(1, .inr (.ref 48)), (1, .inr (.ref 49)), (1, .inl [(.ofNat 0, .ofNat 5)]), (1, .inl [(.ofNat 0, .ofNat 8)]), (1, .inl [(.ofNat 0, .ofNat 9)]), (1, .inl [(.ofNat 0, .ofNat 999)])],
   [(1, .inr (.ref 50)), (1, .inr (.ref 51)), (1, .inr (.ref 52)), (1, .inr (.ref 53)), (1, .inr (.ref 54))],
   [(8, .inl [(.ofNat 0, .ofNat 31)])]],
  [[(1, .inl [(.ofNat 0, .ofNat 3)]), (2, .inl [(.ofNat 0, .ofNat 99)]), (1, .inl [(.ofNat 0, .ofNat 1)])],
   [(1, .inl [(.ofNat 0, .ofNat 3)]), (2, .inl [(.ofNat 0, .ofNat 99)]), (1, .inl [(.ofNat 0, .ofNat 1)])],
   [(1, .inl [(.ofNat 0, .ofNat 3)]), (2, .inl [(.ofNat 0, .ofNat 99)]), (1, .inl [(.ofNat 0, .ofNat 1)])],
   [(1, .inl [(.ofNat 0, .ofNat 3)]), (2, .inl [(.ofNat 0, .ofNat 99)]), (1, .inl [(.ofNat 0, .ofNat 1)])],
   [(1, .inl [(.ofNat 0, .ofNat 3)]), (2, .inl [(.ofNat 0, .ofNat 99)]), (1, .inl [(.ofNat 0, .ofNat 1)])],
   [(1, .inr (.ref 56)), (1, .inr (.ref 57)), (1, .inl [(.ofNat 0, .ofNat 5)]), (1, .inl [(.ofNat 0, .ofNat 8)]), (1, .inl [(.ofNat 0, .ofNat 9)]), (1, .inl [(.ofNat 0, .ofNat 999)])],
   [(1, .inr (.ref 58)), (1, .inr (.ref 59)), (1, .inr (.ref 60)), (1, .inr (.ref 61)), (1, .inr (.ref 62))],
   [(8, .inl [(.ofNat 0, .ofNat 31)])],
   [(1, .inl [(.ofNat 0, .ofNat 3)]), (2, .inl [(.ofNat 0, .ofNat 99)]), (1, .inl [(.ofNat 0, .ofNat 1)])],
   [(1, .inl [(.ofNat 0, .ofNat 3)]), (2, .inl [(.ofNat 0, .ofNat 99)]), (1, .inl [(.ofNat 0, .ofNat 1)])]],
  [[(1, .inl [(.ofNat 0, .ofNat 3)]), (2, .inl [(.ofNat 0, .ofNat 99)]), (1, .inl [(.ofNat 0, .ofNat 1)])],
   [(1, .inl [(.ofNat 0, .ofNat 3)]), (2, .inl [(.ofNat 0, .ofNat 99)]), (1, .inl [(.ofNat 0, .ofNat 1)])],
   [(1, .inl [(.ofNat 0, .ofNat 3)]), (2, .inl [(.ofNat 0, .ofNat 99)]), (1, .inl [(.ofNat 0, .ofNat 1)])],
   [(1, .inr (.ref 64)), (1, .inl [(.ofNat 0, .ofNat 1)]), (1, .inl [(.ofNat 0, .ofNat 2)]), (1, .inl [(.ofNat 0, .ofNat 40)])],
   [(40, .inl [(.negSucc 2147483647, .ofNat 2147483647)])],
   [(1, .inr (.ref 66)), (1, .inl [(.ofNat 0, .ofNat 1)]), (1, .inl [(.ofNat 0, .ofNat 2)]), (1, .inl [(.ofNat 0, .ofNat 40)])],
   [(40, .inl [(.negSucc 2147483647, .ofNat 2147483647)])],
   [(1, .inr (.ref 68)), (1, .inl [(.ofNat 0, .ofNat 1)]), (1, .inl [(.ofNat 0, .ofNat 2)]), (1, .inl [(.ofNat 0, .ofNat 40)])],
   [(40, .inl [(.negSucc 2147483647, .ofNat 2147483647)])],
   [(1, .inr (.ref 70)), (1, .inl [(.ofNat 0, .ofNat 1)]), (1, .inl [(.ofNat 0, .ofNat 2)]), (1, .inl [(.ofNat 0, .ofNat 40)])]],
  [[(40, .inl [(.negSucc 2147483647, .ofNat 2147483647)])],
   [(1, .inr (.ref 72)), (1, .inr (.ref 73)), (1, .inl [(.ofNat 0, .ofNat 5)]), (1, .inr (.ref 74)), (1, .inl [(.ofNat 0, .ofNat 5)]), (2, .inl [(.negSucc 2147483647, .ofNat 2147483647)]), (1, .inr (.ref 75)), (1, .inl [(.ofNat 0, .ofNat 160)]), (1, .inl [(.negSucc 2147483647, .ofNat 2147483647)]), (1, .inl [(.ofNat 0, .ofNat 6)]), (1, .inl [(.negSucc 2147483647, .ofNat 2147483647)]), (2, .inl [(.ofNat 0, .ofNat 160)]), (1, .inl [(.negSucc 2147483647, .ofNat 2147483647)]), (1, .inl [(.ofNat 0, .ofNat 99)]), (1, .inr (.ref 76)), (1, .inr (.ref 77)), (3, .inl [(.negSucc 2147483647, .ofNat 2147483647)]), (1, .inr (.ref 78)), (1, .inr (.ref 79)), (1, .inl [(.ofNat 0, .ofNat 6)]), (1, .inr (.ref 80)), (1, .inr (.ref 81)), (1, .inr (.ref 82)), (1, .inr (.ref 83)), (1, .inr (.ref 84)), (1, .inr (.ref 85)), (1, .inl [(.negSucc 2147483647, .ofNat 2147483647)])],
   [(5, .inl [(.ofNat 0, .ofNat 3)]), (10, .inl [(.ofNat 0, .ofNat 99)]), (1, .inl [(.ofNat 0, .ofNat 31)]), (1, .inl [(.negSucc 0, .ofNat 8)]), (1, .inl [(.ofNat 0, .ofNat 999)]), (8, .inl [(.ofNat 0, .ofNat 31)]), (1, .inl [(.ofNat 0, .ofNat 8)]), (5, .inl [(.ofNat 0, .ofNat 3)]), (10, .inl [(.ofNat 0, .ofNat 99)]), (1, .inl [(.ofNat 0, .ofNat 31)]), (1, .inl [(.negSucc 0, .ofNat 8)]), (1, .inl [(.ofNat 0, .ofNat 999)]), (8, .inl [(.ofNat 0, .ofNat 31)]), (1, .inl [(.ofNat 0, .ofNat 8)]), (5, .inl [(.ofNat 0, .ofNat 3)]), (10, .inl [(.ofNat 0, .ofNat 99)]), (1, .inl [(.ofNat 0, .ofNat 31)]), (1, .inl [(.negSucc 0, .ofNat 8)]), (1, .inl [(.ofNat 0, .ofNat 999)]), (8, .inl [(.ofNat 0, .ofNat 31)]), (1, .inl [(.ofNat 0, .ofNat 8)]), (5, .inl [(.ofNat 0, .ofNat 3)]), (10, .inl [(.ofNat 0, .ofNat 99)]), (1, .inl [(.ofNat 0, .ofNat 31)]), (1, .inl [(.negSucc 0, .ofNat 8)]), (1, .inl [(.ofNat 0, .ofNat 999)]), (8, .inl [(.ofNat 0, .ofNat 31)]), (1, .inl [(.ofNat 0, .ofNat 8)]), (5, .inl [(.ofNat 0, .ofNat 3)]), (10, .inl [(.ofNat 0, .ofNat 99)]), (1, .inl [(.ofNat 0, .ofNat 31)]), (1, .inl [(.negSucc 0, .ofNat 8)]), (1, .inl [(.ofNat 0, .ofNat 999)]), (8, .inl [(.ofNat 0, .ofNat 31)]), (1, .inl [(.ofNat 0, .ofNat 8)])],
   [(4, .inl [(.ofNat 0, .ofNat 4)])],
   [(5, .inl [(.ofNat 0, .ofNat 3)]), (10, .inl [(.ofNat 0, .ofNat 99)]), (1, .inl [(.ofNat 0, .ofNat 31)]), (1, .inl [(.negSucc 0, .ofNat 8)]), (1, .inl [(.ofNat 0, .ofNat 999)]), (8, .inl [(.ofNat 0, .ofNat 31)]), (1, .inl [(.ofNat 0, .ofNat 8)])],
   [(160, .inl [(.ofNat 0, .ofNat 127)])],
   [(1, .inl [(.ofNat 0, .ofNat 0)]), (1, .inl [(.ofNat 5, .ofNat 5)]), (1, .inl [(.ofNat 11, .ofNat 11)]), (1, .inl [(.ofNat 16, .ofNat 16)]), (1, .inl [(.ofNat 22, .ofNat 22)]), (1, .inl [(.ofNat 26, .ofNat 26)]), (1, .inl [(.ofNat 31, .ofNat 31)]), (1, .inl [(.ofNat 35, .ofNat 35)])],
   [(1, .inl [(.ofNat 112, .ofNat 112)]), (1, .inl [(.ofNat 108, .ofNat 108)]), (1, .inl [(.ofNat 97, .ofNat 97)]), (1, .inl [(.ofNat 105, .ofNat 105)]), (1, .inl [(.ofNat 110, .ofNat 110)]), (1, .inl [(.ofNat 103, .ofNat 103)]), (1, .inl [(.ofNat 108, .ofNat 108)]), (1, .inl [(.ofNat 111, .ofNat 111)]), (1, .inl [(.ofNat 118, .ofNat 118)]), (1, .inl [(.ofNat 101, .ofNat 101)]), (1, .inl [(.ofNat 100, .ofNat 100)]), (1, .inl [(.ofNat 99, .ofNat 99)]), (1, .inl [(.ofNat 104, .ofNat 104)]), (1, .inl [(.ofNat 105, .ofNat 105)]), (1, .inl [(.ofNat 108, .ofNat 108)]), (1, .inl [(.ofNat 100, .ofNat 100)]), (1, .inl [(.ofNat 109, .ofNat 109)]), (1, .inl [(.ofNat 97, .ofNat 97)]), (1, .inl [(.ofNat 115, .ofNat 115)]), (1, .inl [(.ofNat 116, .ofNat 116)]), (1, .inl [(.ofNat 101, .ofNat 101)]), (1, .inl [(.ofNat 114, .ofNat 114)]), (1, .inl [(.ofNat 108, .ofNat 108)]), (1, .inl [(.ofNat 101, .ofNat 101)]), (1, .inl [(.ofNat 102, .ofNat 102)]), (1, .inl [(.ofNat 116, .ofNat 116)]), (1, .inl [(.ofNat 115, .ofNat 115)]), (1, .inl [(.ofNat 108, .ofNat 108)]), (1, .inl [(.ofNat 97, .ofNat 97)]), (1, .inl [(.ofNat 99, .ofNat 99)]), (1, .inl [(.ofNat 107, .ofNat 107)]), (1, .inl [(.ofNat 112, .ofNat 112)]), (1, .inl [(.ofNat 108, .ofNat 108)]), (1, .inl [(.ofNat 97, .ofNat 97)]), (1, .inl [(.ofNat 110, .ofNat 110)])],
   [(8, .inl [(.negSucc 3, .negSucc 3), (.ofNat 0, .ofNat 4)])],
   [(1, .inl [(.ofNat 0, .ofNat 7)]), (1, .inl [(.negSucc 3, .negSucc 3), (.ofNat 0, .ofNat 4)]), (1, .inl [(.ofNat 0, .ofNat 7)]), (1, .inl [(.negSucc 3, .negSucc 3), (.ofNat 0, .ofNat 4)]), (1, .inl [(.ofNat 0, .ofNat 7)]), (1, .inl [(.negSucc 3, .negSucc 3), (.ofNat 0, .ofNat 4)]), (1, .inl [(.ofNat 0, .ofNat 7)]), (1, .inl [(.negSucc 3, .negSucc 3), (.ofNat 0, .ofNat 4)]), (1, .inl [(.ofNat 0, .ofNat 7)]), (1, .inl [(.negSucc 3, .negSucc 3), (.ofNat 0, .ofNat 4)]), (1, .inl [(.ofNat 0, .ofNat 7)]), (1, .inl [(.negSucc 3, .negSucc 3), (.ofNat 0, .ofNat 4)])]],
  [[(168, .inl [(.negSucc 2147483647, .ofNat 2147483647)])],
   [(21, .inl [(.ofNat 0, .ofNat 1)])],
   [(2, .inl [(.ofNat 0, .ofNat 1)])],
   [(4, .inl [(.negSucc 3, .negSucc 3), (.ofNat 0, .ofNat 2)])],
   [(4, .inl [(.ofNat 0, .ofNat 40)])],
   [(160, .inl [(.negSucc 2147483647, .ofNat 2147483647)])]]],
  [[(Sum.inr 7, 9), (Sum.inr 2, 13), (Sum.inl 1, 160), (Sum.inr 0, 6), (Sum.inl 4, 5), (Sum.inl 0, 8), (Sum.inr 1, 4), (Sum.inr 1, 4), (Sum.inr 1, 4), (Sum.inr 1, 4)], [(Sum.inr 1, 4), (Sum.inr 0, 6), (Sum.inl 4, 5), (Sum.inl 0, 8), (Sum.inr 1, 4), (Sum.inr 1, 4), (Sum.inr 1, 4), (Sum.inr 1, 4), (Sum.inr 1, 4), (Sum.inr 3, 5)], [(Sum.inr 0, 6), (Sum.inl 4, 5), (Sum.inl 0, 8), (Sum.inr 1, 4), (Sum.inr 1, 4), (Sum.inr 1, 4), (Sum.inr 1, 4), (Sum.inr 1, 4), (Sum.inl 0, 8), (Sum.inr 4, 5)], [(Sum.inr 0, 6), (Sum.inl 4, 5), (Sum.inl 0, 8), (Sum.inr 1, 4), (Sum.inr 1, 4), (Sum.inr 1, 4), (Sum.inr 1, 4), (Sum.inr 1, 4), (Sum.inl 0, 5), (Sum.inl 0, 5)], [(Sum.inr 6, 4), (Sum.inl 0, 6), (Sum.inl 0, 6), (Sum.inl 0, 48), (Sum.inl 3, 2), (Sum.inl 2, 2), (Sum.inl 8, 4), (Sum.inr 0, 6), (Sum.inl 4, 5), (Sum.inl 0, 8)], [(Sum.inr 1, 4), (Sum.inr 1, 4), (Sum.inr 1, 4), (Sum.inr 1, 4), (Sum.inr 1, 4), (Sum.inr 0, 6), (Sum.inl 4, 5), (Sum.inl 0, 8), (Sum.inr 1, 4), (Sum.inr 1, 4)], [(Sum.inr 1, 4), (Sum.inr 1, 4), (Sum.inr 1, 4), (Sum.inr 5, 4), (Sum.inl 0, 40), (Sum.inr 5, 4), (Sum.inl 0, 40), (Sum.inr 5, 4), (Sum.inl 0, 40), (Sum.inr 5, 4)], [(Sum.inl 0, 40), (Sum.inr 8, 31), (Sum.inl 0, 135), (Sum.inl 0, 4), (Sum.inl 0, 27), (Sum.inl 0, 160), (Sum.inl 0, 8), (Sum.inl 0, 35), (Sum.inl 0, 8), (Sum.inl 0, 12)], [(Sum.inl 0, 168), (Sum.inl 2, 21), (Sum.inl 2, 2), (Sum.inl 0, 4), (Sum.inl 0, 4), (Sum.inl 0, 160)]])
def qP : List (Nat × Int × Int) := [(20, .ofNat 0, .ofNat 99), (22, .ofNat 0, .ofNat 4)]
/-- X7_feed_r0 -/
def qs0 : qSm := (65, 1, [(1, 2, 2), (2, 0, 159)], ([.inr (.inr (.ref 0)), .inl (1, .ofNat 0)], [[(.ofNat 0, .ofNat 0)], [(.negSucc 2147483647, .ofNat 2147483647)]], []), [(some (.inl (0, .negSucc 0)), [[(.ofNat 0, .ofNat 0)], [(.negSucc 2147483647, .negSucc 0), (.ofNat 128, .ofNat 2147483647)]], [], []),
  (some (.inl (0, .negSucc 2)), [[(.ofNat 0, .ofNat 0)], [(.ofNat 0, .ofNat 127)]], [], []),
  (some (.inl (2, .ofNat 0)), [[(.ofNat 0, .ofNat 0)], [(.ofNat 0, .ofNat 127)], [(.ofNat 1, .ofNat 160)]], [], [])])
/-- X7_end_r0 -/
def qs1 : qSm := (66, 1, [(1, 2, 2)], ([.inr (.inr (.ref 0)), .inl (1, .ofNat 0)], [[(.ofNat 0, .ofNat 0)], [(.negSucc 2147483647, .ofNat 2147483647)]], []), [(some (.inl (0, .negSucc 0)), [[(.ofNat 0, .ofNat 0)], [(.negSucc 2147483647, .negSucc 0), (.ofNat 1, .ofNat 2147483647)]], [], []),
  (some (.inl (2, .ofNat 0)), [[(.ofNat 0, .ofNat 0)], [(.ofNat 0, .ofNat 160)], [(.ofNat 0, .ofNat 160)]], [], [])])
/-- X2_next_r1 -/
def qs2 : qSm := (37, 2, [(1, 6, 9)], ([.inr (.inr (.ref 1))], [[(.ofNat 0, .ofNat 0)]], []), [(none, [[(.ofNat 0, .ofNat 0)]], [((1, 7), .inl (0, .ofNat 0)), ((1, 9), .inl (0, .ofNat 0))], []),
  (none, [[(.ofNat 0, .ofNat 0)]], [((1, 7), .inl (0, .ofNat 1)), ((1, 9), .inl (0, .ofNat 0))], []),
  (none, [[(.ofNat 0, .ofNat 0)], [(.ofNat 0, .ofNat 99)]], [((1, 7), .inl (0, .ofNat 2)), ((1, 9), .inl (1, .ofNat 0))], []),
  (none, [[(.ofNat 0, .ofNat 0)]], [((1, 7), .inl (0, .ofNat 3)), ((1, 9), .inl (0, .ofNat 0))], []),
  (none, [[(.ofNat 0, .ofNat 0)], [(.negSucc 2147483647, .ofNat 2147483647)]], [((1, 7), .inl (0, .ofNat 4)), ((1, 9), .inl (1, .ofNat 0))], [])])
/-- X0_useHands_r3 -/
def qs3 : qSm := (7, 1, [(6, 3, 3), (7, 3, 3), (8, 3, 3), (9, 3, 3), (10, 3, 3)], ([.inr (.inr (.ref 3)), .inl (1, .ofNat 0)], [[(.ofNat 0, .ofNat 0)], [(.negSucc 2147483647, .ofNat 2147483647)]], []), [(none, [[(.ofNat 0, .ofNat 0)], [(.negSucc 2147483647, .ofNat 2147483647)]], [], [])])
/-- X2_allAreThere_r1 -/
def qs4 : qSm := (28, 2, [(1, 4, 5), (6, 3, 3), (7, 3, 3), (8, 3, 3), (9, 3, 3), (10, 3, 3)], ([.inr (.inr (.ref 1))], [[(.ofNat 0, .ofNat 0)]], []), [(some (.inl (0, .ofNat 0)), [[(.ofNat 0, .ofNat 0)]], [], []),
  (some (.inl (0, .ofNat 1)), [[(.ofNat 0, .ofNat 0)]], [], [])])
/-- X2_spells_r1_r1 -/
def qs5 : qSm := (41, 5, [], ([.inr (.inr (.ref 1)), .inr (.inr (.retAddr 1))], [[(.ofNat 0, .ofNat 0)]], []), [(some (.inl (0, .ofNat 0)), [[(.ofNat 0, .ofNat 0)]], [], []),
  (some (.inl (0, .ofNat 1)), [[(.ofNat 0, .ofNat 0)]], [], [])])
/-- X2_spells_r1_r3 -/
def qs6 : qSm := (41, 5, [], ([.inr (.inr (.ref 1)), .inr (.inr (.retAddr 3))], [[(.ofNat 0, .ofNat 0)]], []), [(some (.inl (0, .ofNat 0)), [[(.ofNat 0, .ofNat 0)]], [], []),
  (some (.inl (0, .ofNat 1)), [[(.ofNat 0, .ofNat 0)]], [], [])])
/-- X2_spells_r1_r5 -/
def qs7 : qSm := (41, 5, [], ([.inr (.inr (.ref 1)), .inr (.inr (.retAddr 5))], [[(.ofNat 0, .ofNat 0)]], []), [(some (.inl (0, .ofNat 0)), [[(.ofNat 0, .ofNat 0)]], [], []),
  (some (.inl (0, .ofNat 1)), [[(.ofNat 0, .ofNat 0)]], [], [])])
/-- X2_spells_r1_r7 -/
def qs8 : qSm := (41, 5, [], ([.inr (.inr (.ref 1)), .inr (.inr (.retAddr 7))], [[(.ofNat 0, .ofNat 0)]], []), [(some (.inl (0, .ofNat 0)), [[(.ofNat 0, .ofNat 0)]], [], []),
  (some (.inl (0, .ofNat 1)), [[(.ofNat 0, .ofNat 0)]], [], [])])
/-- X2_spells_r1_r9 -/
def qs9 : qSm := (41, 5, [], ([.inr (.inr (.ref 1)), .inr (.inr (.retAddr 9))], [[(.ofNat 0, .ofNat 0)]], []), [(some (.inl (0, .ofNat 0)), [[(.ofNat 0, .ofNat 0)]], [], []),
  (some (.inl (0, .ofNat 1)), [[(.ofNat 0, .ofNat 0)]], [], [])])
/-- X2_spells_r1_r11 -/
def qs10 : qSm := (41, 5, [], ([.inr (.inr (.ref 1)), .inr (.inr (.retAddr 11))], [[(.ofNat 0, .ofNat 0)]], []), [(some (.inl (0, .ofNat 0)), [[(.ofNat 0, .ofNat 0)]], [], []),
  (some (.inl (0, .ofNat 1)), [[(.ofNat 0, .ofNat 0)]], [], [])])
/-- X2_spells_r1_r13 -/
def qs11 : qSm := (41, 5, [], ([.inr (.inr (.ref 1)), .inr (.inr (.retAddr 13))], [[(.ofNat 0, .ofNat 0)]], []), [(some (.inl (0, .ofNat 0)), [[(.ofNat 0, .ofNat 0)]], [], []),
  (some (.inl (0, .ofNat 1)), [[(.ofNat 0, .ofNat 0)]], [], [])])
/-- X2_word_r1 -/
def qs12 : qSm := (40, 6, [], ([.inr (.inr (.ref 1))], [[(.ofNat 0, .ofNat 0)]], []), [(some (.inl (0, .ofNat 0)), [[(.ofNat 0, .ofNat 0)]], [], []),
  (some (.inl (0, .ofNat 1)), [[(.ofNat 0, .ofNat 0)]], [], []),
  (some (.inl (0, .ofNat 2)), [[(.ofNat 0, .ofNat 0)]], [], []),
  (some (.inl (0, .ofNat 3)), [[(.ofNat 0, .ofNat 0)]], [], []),
  (some (.inl (0, .ofNat 4)), [[(.ofNat 0, .ofNat 0)]], [], []),
  (some (.inl (0, .ofNat 5)), [[(.ofNat 0, .ofNat 0)]], [], []),
  (some (.inl (0, .ofNat 6)), [[(.ofNat 0, .ofNat 0)]], [], []),
  (some (.inl (0, .ofNat 7)), [[(.ofNat 0, .ofNat 0)]], [], [])])
/-- X2_wantsNumber_r1_c99 -/
def qs13 : qSm := (32, 3, [(1, 4, 9)], ([.inr (.inr (.ref 1)), .inl (0, .ofNat 99)], [[(.ofNat 0, .ofNat 0)]], []), [(some (.inl (0, .ofNat 0)), [[(.ofNat 0, .ofNat 0)], [(.negSucc 2147483647, .ofNat 2147483647)]], [((1, 9), .inl (1, .ofNat 0))], []),
  (some (.inl (0, .ofNat 1)), [[(.ofNat 0, .ofNat 0)], [(.ofNat 0, .ofNat 99)]], [((1, 9), .inl (1, .ofNat 0))], [])])
/-- X2_wantsStop_r1 -/
def qs14 : qSm := (31, 3, [(1, 4, 9)], ([.inr (.inr (.ref 1))], [[(.ofNat 0, .ofNat 0)]], []), [(some (.inl (0, .ofNat 0)), [[(.ofNat 0, .ofNat 0)]], [], []),
  (some (.inl (0, .ofNat 1)), [[(.ofNat 0, .ofNat 0)]], [], [])])
/-- X2_wantsNumber_r1_c4 -/
def qs15 : qSm := (32, 3, [(1, 4, 9)], ([.inr (.inr (.ref 1)), .inl (0, .ofNat 4)], [[(.ofNat 0, .ofNat 0)]], []), [(some (.inl (0, .ofNat 0)), [[(.ofNat 0, .ofNat 0)], [(.negSucc 2147483647, .ofNat 2147483647)]], [((1, 9), .inl (1, .ofNat 0))], []),
  (some (.inl (0, .ofNat 1)), [[(.ofNat 0, .ofNat 0)], [(.ofNat 0, .ofNat 4)]], [((1, 9), .inl (1, .ofNat 0))], [])])
/-- X2_wantsNumber_r1_c9 -/
def qs16 : qSm := (32, 3, [(1, 4, 9)], ([.inr (.inr (.ref 1)), .inl (0, .ofNat 9)], [[(.ofNat 0, .ofNat 0)]], []), [(some (.inl (0, .ofNat 0)), [[(.ofNat 0, .ofNat 0)], [(.negSucc 2147483647, .ofNat 2147483647)]], [((1, 9), .inl (1, .ofNat 0))], []),
  (some (.inl (0, .ofNat 1)), [[(.ofNat 0, .ofNat 0)], [(.ofNat 0, .ofNat 9)]], [((1, 9), .inl (1, .ofNat 0))], [])])
/-- X2_readPlan_r1 -/
def qs17 : qSm := (36, 3, [(1, 4, 9), (1, 12, 12), (3, 3, 3), (5, 0, 7)], ([.inr (.inr (.ref 1))], [[(.ofNat 0, .ofNat 0)]], []), [(some (.inl (0, .ofNat 0)), [[(.ofNat 0, .ofNat 0)]], [], []),
  (some (.inl (0, .ofNat 1)), [[(.ofNat 0, .ofNat 0)]], [], [])])
/-- X2_readLine_r1 -/
def qs18 : qSm := (29, 7, [(1, 4, 12), (3, 2, 4), (5, 0, 7), (6, 0, 3), (7, 0, 3), (8, 0, 3), (9, 0, 3), (10, 0, 3)], ([.inr (.inr (.ref 1))], [[(.ofNat 0, .ofNat 0)]], []), [(some (.inl (0, .ofNat 0)), [[(.ofNat 0, .ofNat 0)]], [], []),
  (some (.inl (0, .ofNat 1)), [[(.ofNat 0, .ofNat 0)]], [], [])])
/-- X2_readAll_r1 -/
def qs19 : qSm := (26, 8, [(1, 3, 12), (3, 2, 5), (5, 0, 7), (6, 0, 3), (7, 0, 3), (8, 0, 3), (9, 0, 3), (10, 0, 3)], ([.inr (.inr (.ref 1))], [[(.ofNat 0, .ofNat 0)]], []), [(some (.inl (0, .ofNat 0)), [[(.ofNat 0, .ofNat 0)]], [], []),
  (some (.inl (0, .ofNat 1)), [[(.ofNat 0, .ofNat 0)]], [], [])])
/-- X0_become_r11_r3 -/
def qs20 : qSm := (2, 2, [(11, 2, 5), (13, 0, 7), (14, 0, 3), (15, 0, 3), (16, 0, 3), (17, 0, 3), (18, 0, 3)], ([.inr (.inr (.ref 11)), .inr (.inr (.ref 3))], [[(.ofNat 0, .ofNat 0)]], []), [(none, [[(.ofNat 0, .ofNat 0)]], [], [])])
/-- X7_text_r0 -/
def qs21 : qSm := (67, 9, [(1, 2, 12), (3, 2, 5), (5, 0, 7), (6, 0, 3), (7, 0, 3), (8, 0, 3), (9, 0, 3), (10, 0, 3), (11, 2, 5), (13, 0, 7), (14, 0, 3), (15, 0, 3), (16, 0, 3), (17, 0, 3), (18, 0, 3), (40, 3, 3), (45, 0, 1)], ([.inr (.inr (.ref 0))], [[(.ofNat 0, .ofNat 0)]], []), [(some (.inl (1, .ofNat 0)), [[(.ofNat 0, .ofNat 0)], [(.negSucc 2147483647, .ofNat 2147483647)]], [], [])])
/-- X7_fault_r0 -/
def qs22 : qSm := (68, 1, [], ([.inr (.inr (.ref 0))], [[(.ofNat 0, .ofNat 0)]], []), [(some (.inl (1, .ofNat 0)), [[(.ofNat 0, .ofNat 0)], [(.negSucc 2147483647, .ofNat 2147483647)]], [], [])])
/-- X0_lefts_r11 -/
def qs23 : qSm := (6, 1, [], ([.inr (.inr (.ref 11))], [[(.ofNat 0, .ofNat 0)]], []), [(some (.inl (1, .ofNat 0)), [[(.ofNat 0, .ofNat 0)], [(.ofNat 0, .ofNat 31)]], [], [])])
/-- X0_least_r11 -/
def qs24 : qSm := (10, 2, [], ([.inr (.inr (.ref 11))], [[(.ofNat 0, .ofNat 0)]], []), [(some (.inl (1, .ofNat 0)), [[(.ofNat 0, .ofNat 0)], [(.negSucc 3, .ofNat 99)]], [], [])])
/-- X0_opensTo_r11 -/
def qs25 : qSm := (15, 3, [], ([.inr (.inr (.ref 11)), .inl (1, .ofNat 0)], [[(.ofNat 0, .ofNat 0)], [(.ofNat 0, .ofNat 4)]], []), [(some (.inl (0, .ofNat 0)), [[(.ofNat 0, .ofNat 0)], [(.ofNat 0, .ofNat 4)]], [], []),
  (some (.inl (0, .ofNat 1)), [[(.ofNat 0, .ofNat 0)], [(.ofNat 0, .ofNat 4)]], [], [])])
/-- X0_welcome_r11 -/
def qs26 : qSm := (14, 4, [], ([.inr (.inr (.ref 11))], [[(.ofNat 0, .ofNat 0)]], []), [(some (.inl (1, .ofNat 0)), [[(.ofNat 0, .ofNat 0)], [(.ofNat 0, .ofNat 31)]], [], [])])
/-- X7_rule_r0 -/
def qs27 : qSm := (69, 5, [], ([.inr (.inr (.ref 0)), .inl (1, .ofNat 0)], [[(.ofNat 0, .ofNat 0)], [(.negSucc 2147483647, .ofNat 2147483647)]], []), [(some (.inl (0, .negSucc 0)), [[(.ofNat 0, .ofNat 0)], [(.negSucc 2147483647, .negSucc 0), (.ofNat 7, .ofNat 2147483647)]], [], []),
  (some (.inl (2, .ofNat 0)), [[(.ofNat 0, .ofNat 0)], [(.ofNat 0, .ofNat 6)], [(.negSucc 3, .ofNat 999)]], [], [])])
/-- X7_one_r0 -/
def qs28 : qSm := (70, 2, [], ([.inr (.inr (.ref 0)), .inl (1, .ofNat 0), .inl (2, .ofNat 0)], [[(.ofNat 0, .ofNat 0)], [(.negSucc 2147483647, .ofNat 2147483647)], [(.negSucc 2147483647, .ofNat 2147483647)]], []), [(some (.inl (0, .negSucc 0)), [[(.ofNat 0, .ofNat 0)], [(.negSucc 2147483647, .ofNat 2147483647)], [(.negSucc 2147483647, .ofNat 2147483647)]], [], []),
  (some (.inl (3, .ofNat 0)), [[(.ofNat 0, .ofNat 0)], [(.ofNat 0, .ofNat 4)], [(.ofNat 0, .ofNat 5)], [(.ofNat 0, .ofNat 99)]], [], [])])
/-- X7_act_r0 -/
def qs29 : qSm := (71, 1, [], ([.inr (.inr (.ref 0)), .inl (1, .ofNat 0)], [[(.ofNat 0, .ofNat 0)], [(.negSucc 2147483647, .ofNat 2147483647)]], []), [(some (.inl (0, .negSucc 0)), [[(.ofNat 0, .ofNat 0)], [(.negSucc 2147483647, .ofNat 2147483647)]], [], []),
  (some (.inl (2, .ofNat 0)), [[(.ofNat 0, .ofNat 0)], [(.ofNat 0, .ofNat 7)], [(.ofNat 0, .ofNat 31)]], [], [])])
/-- X7_alter_r0 -/
def qs30 : qSm := (72, 3, [(14, 0, 3), (15, 0, 3), (16, 0, 3), (17, 0, 3), (18, 0, 3)], ([.inr (.inr (.ref 0)), .inl (1, .ofNat 0), .inl (2, .ofNat 0), .inl (3, .ofNat 0)], [[(.ofNat 0, .ofNat 0)], [(.negSucc 2147483647, .ofNat 2147483647)], [(.negSucc 2147483647, .ofNat 2147483647)], [(.negSucc 2147483647, .ofNat 2147483647)]], []), [(some (.inl (0, .negSucc 0)), [[(.ofNat 0, .ofNat 0)], [(.negSucc 2147483647, .ofNat 2147483647)], [(.negSucc 2147483647, .ofNat 2147483647)], [(.negSucc 2147483647, .ofNat 2147483647)]], [], []),
  (some (.inl (4, .ofNat 0)), [[(.ofNat 0, .ofNat 0)], [(.ofNat 0, .ofNat 4)], [(.ofNat 0, .ofNat 3)], [(.ofNat 0, .ofNat 99)], [(.ofNat 0, .ofNat 99)]], [], [])])
/-- X7_slack_r0 -/
def qs31 : qSm := (74, 1, [(11, 4, 4)], ([.inr (.inr (.ref 0)), .inl (1, .ofNat 0)], [[(.ofNat 0, .ofNat 0)], [(.negSucc 2147483647, .ofNat 2147483647)]], []), [(some (.inl (0, .negSucc 0)), [[(.ofNat 0, .ofNat 0)], [(.negSucc 2147483647, .negSucc 0), (.ofNat 10, .ofNat 2147483647)]], [], []),
  (some (.inl (2, .ofNat 0)), [[(.ofNat 0, .ofNat 0)], [(.ofNat 0, .ofNat 9)], [(.ofNat 0, .ofNat 9)]], [], [])])
/-- X7_plan_r0 -/
def qs32 : qSm := (75, 2, [(11, 3, 3), (13, 0, 7)], ([.inr (.inr (.ref 0)), .inl (1, .ofNat 0)], [[(.ofNat 0, .ofNat 0)], [(.negSucc 2147483647, .ofNat 2147483647)]], []), [(some (.inl (0, .negSucc 0)), [[(.ofNat 0, .ofNat 0)], [(.negSucc 2147483647, .negSucc 0), (.ofNat 1, .ofNat 2147483647)]], [], []),
  (some (.inl (0, .negSucc 2)), [[(.ofNat 0, .ofNat 0)], [(.ofNat 0, .ofNat 31)]], [], []),
  (some (.inl (2, .ofNat 0)), [[(.ofNat 0, .ofNat 0)], [(.ofNat 0, .ofNat 31)], [(.ofNat 1, .ofNat 8)]], [], [])])
/-- X7_cut_r0 -/
def qs33 : qSm := (76, 1, [(11, 3, 3)], ([.inr (.inr (.ref 0)), .inl (1, .ofNat 0)], [[(.ofNat 0, .ofNat 0)], [(.negSucc 2147483647, .ofNat 2147483647)]], []), [(some (.inl (0, .negSucc 0)), [[(.ofNat 0, .ofNat 0)], [(.negSucc 2147483647, .negSucc 0), (.ofNat 1, .ofNat 2147483647)]], [], []),
  (some (.inl (2, .ofNat 0)), [[(.ofNat 0, .ofNat 0)], [(.ofNat 0, .ofNat 8)], [(.ofNat 0, .ofNat 8)]], [], [])])
/-- X0_leastOf_r11 -/
def qs34 : qSm := (9, 2, [], ([.inr (.inr (.ref 11)), .inl (1, .ofNat 0)], [[(.ofNat 0, .ofNat 0)], [(.negSucc 2147483647, .ofNat 2147483647)]], []), [(some (.inl (2, .ofNat 0)), [[(.ofNat 0, .ofNat 0)], [(.negSucc 2147483647, .ofNat 2147483647)], [(.negSucc 3, .negSucc 3), (.ofNat 0, .ofNat 4)]], [], [])])
/-- X0_attempt_r11 -/
def qs35 : qSm := (16, 3, [(11, 5, 5), (14, 1, 2), (15, 1, 2), (16, 1, 2), (17, 1, 2), (18, 1, 2)], ([.inr (.inr (.ref 11)), .inl (1, .ofNat 0)], [[(.ofNat 0, .ofNat 0)], [(.negSucc 2147483647, .ofNat 2147483647)]], []), [(some (.inl (2, .ofNat 0)), [[(.ofNat 0, .ofNat 0)], [(.negSucc 2147483647, .ofNat 2147483647)], [(.ofNat 0, .ofNat 4)]], [], []),
  (some (.inl (0, .negSucc 3)), [[(.ofNat 0, .ofNat 0)], [(.negSucc 2147483647, .ofNat 2147483647)]], [], [])])
/-- X7_turn_r0 -/
def qs36 : qSm := (77, 4, [(11, 5, 5), (14, 1, 2), (15, 1, 2), (16, 1, 2), (17, 1, 2), (18, 1, 2)], ([.inr (.inr (.ref 0)), .inl (1, .ofNat 0)], [[(.ofNat 0, .ofNat 0)], [(.negSucc 2147483647, .ofNat 2147483647)]], []), [(some (.inl (0, .negSucc 0)), [[(.ofNat 0, .ofNat 0)], [(.negSucc 2147483647, .ofNat 2147483647)]], [], []),
  (some (.inl (0, .negSucc 3)), [[(.ofNat 0, .ofNat 0)], [(.ofNat 1, .ofNat 31)]], [], []),
  (some (.inl (2, .ofNat 0)), [[(.ofNat 0, .ofNat 0)], [(.ofNat 1, .ofNat 31)], [(.ofNat 0, .ofNat 4)]], [], [])])
/-- X0_calm_r11 -/
def qs37 : qSm := (17, 2, [(14, 1, 2), (15, 1, 2), (16, 1, 2), (17, 1, 2), (18, 1, 2)], ([.inr (.inr (.ref 11))], [[(.ofNat 0, .ofNat 0)]], []), [(none, [[(.ofNat 0, .ofNat 0)]], [], [])])
/-- X7_rest_r0 -/
def qs38 : qSm := (78, 3, [(14, 1, 2), (15, 1, 2), (16, 1, 2), (17, 1, 2), (18, 1, 2)], ([.inr (.inr (.ref 0)), .inl (1, .ofNat 0)], [[(.ofNat 0, .ofNat 0)], [(.negSucc 2147483647, .ofNat 2147483647)]], []), [(some (.inl (0, .negSucc 0)), [[(.ofNat 0, .ofNat 0)], [(.negSucc 2147483647, .negSucc 0), (.ofNat 100, .ofNat 2147483647)]], [], []),
  (some (.inl (2, .ofNat 0)), [[(.ofNat 0, .ofNat 0)], [(.ofNat 0, .ofNat 99)], [(.negSucc 3, .ofNat 99)]], [], [])])
/-- X0_become_r20_r11 -/
def qs39 : qSm := (2, 2, [(20, 2, 5), (22, 0, 7), (23, 0, 3), (24, 0, 3), (25, 0, 3), (26, 0, 3), (27, 0, 3)], ([.inr (.inr (.ref 20)), .inr (.inr (.ref 11))], [[(.ofNat 0, .ofNat 0)]], []), [(none, [[(.ofNat 0, .ofNat 0)]], [], [])])
/-- J7_fill_53178_r28_cm4 -/
def qs40 : qSm := (193, 1, [(28, 0, 7)], ([.inr (.inr (.ref 28)), .inl (0, .negSucc 3)], [[(.ofNat 0, .ofNat 0)]], []), [(none, [[(.ofNat 0, .ofNat 0)]], [], [])])
/-- X0_leastOf_r20 -/
def qs41 : qSm := (9, 2, [], ([.inr (.inr (.ref 20)), .inl (1, .ofNat 0)], [[(.ofNat 0, .ofNat 0)], [(.negSucc 2147483647, .ofNat 2147483647)]], []), [(some (.inl (2, .ofNat 0)), [[(.ofNat 0, .ofNat 0)], [(.negSucc 2147483647, .ofNat 2147483647)], [(.negSucc 3, .negSucc 3), (.ofNat 0, .ofNat 4)]], [], [])])
/-- X0_least_r20 -/
def qs42 : qSm := (10, 2, [], ([.inr (.inr (.ref 20))], [[(.ofNat 0, .ofNat 0)]], []), [(some (.inl (1, .ofNat 0)), [[(.ofNat 0, .ofNat 0)], [(.negSucc 3, .ofNat 99)]], [], [])])
/-- X0_attempt_r20 -/
def qs43 : qSm := (16, 3, [(20, 5, 5), (23, 1, 2), (24, 1, 2), (25, 1, 2), (26, 1, 2), (27, 1, 2)], ([.inr (.inr (.ref 20)), .inl (1, .ofNat 0)], [[(.ofNat 0, .ofNat 0)], [(.negSucc 2147483647, .ofNat 2147483647)]], []), [(some (.inl (2, .ofNat 0)), [[(.ofNat 0, .ofNat 0)], [(.negSucc 2147483647, .ofNat 2147483647)], [(.ofNat 0, .ofNat 4)]], [], []),
  (some (.inl (0, .negSucc 3)), [[(.ofNat 0, .ofNat 0)], [(.negSucc 2147483647, .ofNat 2147483647)]], [], [])])
/-- X0_calm_r20 -/
def qs44 : qSm := (17, 2, [(23, 1, 2), (24, 1, 2), (25, 1, 2), (26, 1, 2), (27, 1, 2)], ([.inr (.inr (.ref 20))], [[(.ofNat 0, .ofNat 0)]], []), [(none, [[(.ofNat 0, .ofNat 0)]], [], [])])
/-- X3_play_r19 -/
def qs45 : qSm := (44, 4, [(19, 2, 4), (20, 5, 5), (23, 1, 2), (24, 1, 2), (25, 1, 2), (26, 1, 2), (27, 1, 2), (28, 0, 7)], ([.inr (.inr (.ref 19)), .inl (1, .ofNat 0)], [[(.ofNat 0, .ofNat 0)], [(.negSucc 2147483647, .ofNat 2147483647)]], []), [(some (.inl (2, .ofNat 0)), [[(.ofNat 0, .ofNat 0)], [(.negSucc 2147483647, .ofNat 2147483647)], [(.negSucc 2147483647, .ofNat 2147483647)]], [], [])])
/-- X0_greatest_r20 -/
def qs46 : qSm := (11, 2, [], ([.inr (.inr (.ref 20))], [[(.ofNat 0, .ofNat 0)]], []), [(some (.inl (1, .ofNat 0)), [[(.ofNat 0, .ofNat 0)], [(.negSucc 3, .negSucc 3), (.ofNat 0, .ofNat 99)]], [], [])])
/-- X7_runs_r0 -/
def qs47 : qSm := (79, 6, [(19, 2, 4), (20, 2, 5), (22, 0, 7), (23, 0, 3), (24, 0, 3), (25, 0, 3), (26, 0, 3), (27, 0, 3), (28, 0, 7)], ([.inr (.inr (.ref 0)), .inl (1, .ofNat 0)], [[(.ofNat 0, .ofNat 0)], [(.negSucc 2147483647, .ofNat 2147483647)]], []), [(some (.inl (0, .negSucc 0)), [[(.ofNat 0, .ofNat 0)], [(.negSucc 2147483647, .negSucc 0), (.ofNat 4, .ofNat 2147483647)]], [], []),
  (some (.inl (2, .ofNat 0)), [[(.ofNat 0, .ofNat 0)], [(.ofNat 0, .ofNat 3)], [(.negSucc 2147483647, .ofNat 2147483647)]], [], [])])
/-- X7_ahead_r0 -/
def qs48 : qSm := (80, 6, [(19, 2, 4), (20, 2, 5), (22, 0, 7), (23, 0, 3), (24, 0, 3), (25, 0, 3), (26, 0, 3), (27, 0, 3), (28, 0, 7)], ([.inr (.inr (.ref 0)), .inl (1, .ofNat 0)], [[(.ofNat 0, .ofNat 0)], [(.negSucc 2147483647, .ofNat 2147483647)]], []), [(some (.inl (0, .negSucc 0)), [[(.ofNat 0, .ofNat 0)], [(.negSucc 2147483647, .ofNat 2147483647)]], [], []),
  (some (.inl (2, .ofNat 0)), [[(.ofNat 0, .ofNat 0)], [(.ofNat 0, .ofNat 4)], [(.ofNat 0, .ofNat 99)]], [], [])])
/-- X7_round_r0 -/
def qs49 : qSm := (81, 5, [(19, 2, 4), (20, 2, 5), (22, 0, 7), (23, 0, 3), (24, 0, 3), (25, 0, 3), (26, 0, 3), (27, 0, 3), (28, 0, 7)], ([.inr (.inr (.ref 0))], [[(.ofNat 0, .ofNat 0)]], []), [(some (.inl (0, .negSucc 3)), [[(.ofNat 0, .ofNat 0)]], [], []),
  (some (.inl (1, .ofNat 0)), [[(.ofNat 0, .ofNat 0)], [(.ofNat 1, .ofNat 60)]], [], [])])
/-- X0_become_r30_r11 -/
def qs50 : qSm := (2, 2, [(30, 2, 5), (32, 0, 7), (33, 0, 3), (34, 0, 3), (35, 0, 3), (36, 0, 3), (37, 0, 3)], ([.inr (.inr (.ref 30)), .inr (.inr (.ref 11))], [[(.ofNat 0, .ofNat 0)]], []), [(none, [[(.ofNat 0, .ofNat 0)]], [], [])])
/-- J6_bitCount_0f7a4 -/
def qs51 : qSm := (182, 1, [], ([.inl (1, .ofNat 0)], [[(.ofNat 0, .ofNat 0)], [(.ofNat 1, .ofNat 31)]], []), [(some (.inl (2, .ofNat 0)), [[(.ofNat 0, .ofNat 0)], [(.ofNat 1, .ofNat 31)], [(.ofNat 1, .ofNat 5)]], [], [])])
/-- X4_takeIfBetter_r29 -/
def qs52 : qSm := (50, 1, [(29, 4, 4), (39, 0, 4)], ([.inr (.inr (.ref 29)), .inl (1, .ofNat 0)], [[(.ofNat 0, .ofNat 0)], [(.negSucc 2147483647, .ofNat 2147483647)]], []), [(none, [[(.ofNat 0, .ofNat 0)], [(.negSucc 2147483647, .ofNat 2147483647)]], [], [])])
/-- X0_leastOf_r30 -/
def qs53 : qSm := (9, 2, [], ([.inr (.inr (.ref 30)), .inl (1, .ofNat 0)], [[(.ofNat 0, .ofNat 0)], [(.negSucc 2147483647, .ofNat 2147483647)]], []), [(some (.inl (2, .ofNat 0)), [[(.ofNat 0, .ofNat 0)], [(.negSucc 2147483647, .ofNat 2147483647)], [(.negSucc 3, .negSucc 3), (.ofNat 0, .ofNat 4)]], [], [])])
/-- X0_least_r30 -/
def qs54 : qSm := (10, 2, [], ([.inr (.inr (.ref 30))], [[(.ofNat 0, .ofNat 0)]], []), [(some (.inl (1, .ofNat 0)), [[(.ofNat 0, .ofNat 0)], [(.negSucc 3, .ofNat 99)]], [], [])])
/-- X0_attempt_r30 -/
def qs55 : qSm := (16, 3, [(30, 5, 5), (33, 1, 2), (34, 1, 2), (35, 1, 2), (36, 1, 2), (37, 1, 2)], ([.inr (.inr (.ref 30)), .inl (1, .ofNat 0)], [[(.ofNat 0, .ofNat 0)], [(.negSucc 2147483647, .ofNat 2147483647)]], []), [(some (.inl (2, .ofNat 0)), [[(.ofNat 0, .ofNat 0)], [(.negSucc 2147483647, .ofNat 2147483647)], [(.ofNat 0, .ofNat 4)]], [], []),
  (some (.inl (0, .negSucc 3)), [[(.ofNat 0, .ofNat 0)], [(.negSucc 2147483647, .ofNat 2147483647)]], [], [])])
/-- X4_arrange_r29_c5 -/
def qs56 : qSm := (49, 2, [(29, 4, 4), (39, 0, 4)], ([.inr (.inr (.ref 29)), .inl (1, .ofNat 0), .inl (0, .ofNat 5), .inl (2, .ofNat 0)], [[(.ofNat 0, .ofNat 0)], [(.negSucc 2147483647, .ofNat 2147483647)], [(.negSucc 2147483647, .ofNat 2147483647)]], []), [(none, [[(.ofNat 0, .ofNat 0)], [(.negSucc 2147483647, .ofNat 2147483647)], [(.negSucc 2147483647, .ofNat 2147483647)]], [], [])])
/-- X4_arrange_r29_c4 -/
def qs57 : qSm := (49, 4, [(29, 4, 4), (30, 5, 5), (33, 1, 2), (34, 1, 2), (35, 1, 2), (36, 1, 2), (37, 1, 2), (38, 4, 4), (39, 0, 4)], ([.inr (.inr (.ref 29)), .inl (1, .ofNat 0), .inl (0, .ofNat 4), .inl (2, .ofNat 0)], [[(.ofNat 0, .ofNat 0)], [(.negSucc 2147483647, .ofNat 2147483647)], [(.negSucc 2147483647, .ofNat 2147483647)]], []), [(none, [[(.ofNat 0, .ofNat 0)], [(.negSucc 2147483647, .ofNat 2147483647)], [(.negSucc 2147483647, .ofNat 2147483647)]], [], [])])
/-- X4_arrange_r29_c3 -/
def qs58 : qSm := (49, 5, [(29, 4, 4), (30, 5, 5), (33, 1, 2), (34, 1, 2), (35, 1, 2), (36, 1, 2), (37, 1, 2), (38, 3, 4), (39, 0, 4)], ([.inr (.inr (.ref 29)), .inl (1, .ofNat 0), .inl (0, .ofNat 3), .inl (2, .ofNat 0)], [[(.ofNat 0, .ofNat 0)], [(.negSucc 2147483647, .ofNat 2147483647)], [(.negSucc 2147483647, .ofNat 2147483647)]], []), [(none, [[(.ofNat 0, .ofNat 0)], [(.negSucc 2147483647, .ofNat 2147483647)], [(.negSucc 2147483647, .ofNat 2147483647)]], [], [])])
/-- X4_arrange_r29_c2 -/
def qs59 : qSm := (49, 6, [(29, 4, 4), (30, 5, 5), (33, 1, 2), (34, 1, 2), (35, 1, 2), (36, 1, 2), (37, 1, 2), (38, 2, 4), (39, 0, 4)], ([.inr (.inr (.ref 29)), .inl (1, .ofNat 0), .inl (0, .ofNat 2), .inl (2, .ofNat 0)], [[(.ofNat 0, .ofNat 0)], [(.negSucc 2147483647, .ofNat 2147483647)], [(.negSucc 2147483647, .ofNat 2147483647)]], []), [(none, [[(.ofNat 0, .ofNat 0)], [(.negSucc 2147483647, .ofNat 2147483647)], [(.negSucc 2147483647, .ofNat 2147483647)]], [], [])])
/-- X4_arrange_r29_c1 -/
def qs60 : qSm := (49, 7, [(29, 4, 4), (30, 5, 5), (33, 1, 2), (34, 1, 2), (35, 1, 2), (36, 1, 2), (37, 1, 2), (38, 1, 4), (39, 0, 4)], ([.inr (.inr (.ref 29)), .inl (1, .ofNat 0), .inl (0, .ofNat 1), .inl (2, .ofNat 0)], [[(.ofNat 0, .ofNat 0)], [(.negSucc 2147483647, .ofNat 2147483647)], [(.negSucc 2147483647, .ofNat 2147483647)]], []), [(none, [[(.ofNat 0, .ofNat 0)], [(.negSucc 2147483647, .ofNat 2147483647)], [(.negSucc 2147483647, .ofNat 2147483647)]], [], [])])
/-- X4_arrange_r29_c0 -/
def qs61 : qSm := (49, 8, [(29, 4, 4), (30, 5, 5), (33, 1, 2), (34, 1, 2), (35, 1, 2), (36, 1, 2), (37, 1, 2), (38, 0, 4), (39, 0, 4)], ([.inr (.inr (.ref 29)), .inl (1, .ofNat 0), .inl (0, .ofNat 0), .inl (2, .ofNat 0)], [[(.ofNat 0, .ofNat 0)], [(.negSucc 2147483647, .ofNat 2147483647)], [(.negSucc 2147483647, .ofNat 2147483647)]], []), [(none, [[(.ofNat 0, .ofNat 0)], [(.negSucc 2147483647, .ofNat 2147483647)], [(.negSucc 2147483647, .ofNat 2147483647)]], [], [])])
/-- X7_order_r0 -/
def qs62 : qSm := (83, 10, [(29, 3, 4), (30, 2, 5), (32, 0, 7), (33, 0, 3), (34, 0, 3), (35, 0, 3), (36, 0, 3), (37, 0, 3), (38, 0, 4), (39, 0, 4)], ([.inr (.inr (.ref 0)), .inl (1, .ofNat 0), .inl (2, .ofNat 0)], [[(.ofNat 0, .ofNat 0)], [(.negSucc 2147483647, .ofNat 2147483647)], [(.negSucc 2147483647, .ofNat 2147483647)]], []), [(some (.inl (0, .negSucc 0)), [[(.ofNat 0, .ofNat 0)], [(.negSucc 2147483647, .ofNat 2147483647)], [(.negSucc 2147483647, .ofNat 2147483647)]], [], []),
  (some (.inl (0, .negSucc 3)), [[(.ofNat 0, .ofNat 0)], [(.ofNat 1, .ofNat 31)], [(.ofNat 11, .ofNat 2147483647)]], [], []),
  (some (.inl (3, .ofNat 0)), [[(.ofNat 0, .ofNat 0)], [(.ofNat 1, .ofNat 31)], [(.ofNat 0, .ofNat 0), (.ofNat 10, .ofNat 14)], [(.negSucc 2147483647, .ofNat 2147483647)]], [], [])])
/-- X0_opensTo_r30 -/
def qs63 : qSm := (15, 3, [], ([.inr (.inr (.ref 30)), .inl (1, .ofNat 0)], [[(.ofNat 0, .ofNat 0)], [(.ofNat 0, .ofNat 4)]], []), [(some (.inl (0, .ofNat 0)), [[(.ofNat 0, .ofNat 0)], [(.ofNat 0, .ofNat 4)]], [], []),
  (some (.inl (0, .ofNat 1)), [[(.ofNat 0, .ofNat 0)], [(.ofNat 0, .ofNat 4)]], [], [])])
/-- X4_makesWay_r29_c4 -/
def qs64 : qSm := (52, 4, [], ([.inr (.inr (.ref 29)), .inl (1, .ofNat 0), .inl (0, .ofNat 4)], [[(.ofNat 0, .ofNat 0)], [(.ofNat 0, .ofNat 4)]], []), [(some (.inl (0, .ofNat 0)), [[(.ofNat 0, .ofNat 0)], [(.ofNat 0, .ofNat 4)]], [], []),
  (some (.inl (0, .ofNat 1)), [[(.ofNat 0, .ofNat 0)], [(.ofNat 0, .ofNat 4)]], [], [])])
/-- X4_makesWay_r29_c3 -/
def qs65 : qSm := (52, 5, [(30, 5, 5), (33, 1, 2), (34, 1, 2), (35, 1, 2), (36, 1, 2), (37, 1, 2), (39, 3, 3)], ([.inr (.inr (.ref 29)), .inl (1, .ofNat 0), .inl (0, .ofNat 3)], [[(.ofNat 0, .ofNat 0)], [(.ofNat 0, .ofNat 4)]], []), [(some (.inl (0, .ofNat 0)), [[(.ofNat 0, .ofNat 0)], [(.ofNat 0, .ofNat 4)]], [], []),
  (some (.inl (0, .ofNat 1)), [[(.ofNat 0, .ofNat 0)], [(.ofNat 0, .ofNat 4)]], [], [])])
/-- X4_makesWay_r29_c2 -/
def qs66 : qSm := (52, 6, [(30, 5, 5), (33, 1, 2), (34, 1, 2), (35, 1, 2), (36, 1, 2), (37, 1, 2), (39, 2, 3)], ([.inr (.inr (.ref 29)), .inl (1, .ofNat 0), .inl (0, .ofNat 2)], [[(.ofNat 0, .ofNat 0)], [(.ofNat 0, .ofNat 4)]], []), [(some (.inl (0, .ofNat 0)), [[(.ofNat 0, .ofNat 0)], [(.ofNat 0, .ofNat 4)]], [], []),
  (some (.inl (0, .ofNat 1)), [[(.ofNat 0, .ofNat 0)], [(.ofNat 0, .ofNat 4)]], [], [])])
/-- X4_makesWay_r29_c1 -/
def qs67 : qSm := (52, 7, [(30, 5, 5), (33, 1, 2), (34, 1, 2), (35, 1, 2), (36, 1, 2), (37, 1, 2), (39, 1, 3)], ([.inr (.inr (.ref 29)), .inl (1, .ofNat 0), .inl (0, .ofNat 1)], [[(.ofNat 0, .ofNat 0)], [(.ofNat 0, .ofNat 4)]], []), [(some (.inl (0, .ofNat 0)), [[(.ofNat 0, .ofNat 0)], [(.ofNat 0, .ofNat 4)]], [], []),
  (some (.inl (0, .ofNat 1)), [[(.ofNat 0, .ofNat 0)], [(.ofNat 0, .ofNat 4)]], [], [])])
/-- X4_makesWay_r29_c0 -/
def qs68 : qSm := (52, 8, [(30, 5, 5), (33, 1, 2), (34, 1, 2), (35, 1, 2), (36, 1, 2), (37, 1, 2), (39, 0, 3)], ([.inr (.inr (.ref 29)), .inl (1, .ofNat 0), .inl (0, .ofNat 0)], [[(.ofNat 0, .ofNat 0)], [(.ofNat 0, .ofNat 4)]], []), [(some (.inl (0, .ofNat 0)), [[(.ofNat 0, .ofNat 0)], [(.ofNat 0, .ofNat 4)]], [], []),
  (some (.inl (0, .ofNat 1)), [[(.ofNat 0, .ofNat 0)], [(.ofNat 0, .ofNat 4)]], [], [])])
/-- X4_shortestWait_r29_r11 -/
def qs69 : qSm := (51, 9, [(29, 3, 3), (30, 2, 5), (32, 0, 7), (33, 0, 3), (34, 0, 3), (35, 0, 3), (36, 0, 3), (37, 0, 3), (39, 0, 3)], ([.inr (.inr (.ref 29)), .inr (.inr (.ref 11)), .inl (1, .ofNat 0)], [[(.ofNat 0, .ofNat 0)], [(.ofNat 0, .ofNat 4)]], []), [(some (.inl (0, .ofNat 0)), [[(.ofNat 0, .ofNat 0)], [(.ofNat 0, .ofNat 4)]], [], []),
  (some (.inl (0, .ofNat 1)), [[(.ofNat 0, .ofNat 0)], [(.ofNat 0, .ofNat 4)]], [], [])])
/-- X7_await_r0 -/
def qs70 : qSm := (84, 10, [(29, 3, 3), (30, 2, 5), (32, 0, 7), (33, 0, 3), (34, 0, 3), (35, 0, 3), (36, 0, 3), (37, 0, 3), (39, 0, 3)], ([.inr (.inr (.ref 0)), .inl (1, .ofNat 0), .inl (2, .ofNat 0)], [[(.ofNat 0, .ofNat 0)], [(.negSucc 2147483647, .ofNat 2147483647)], [(.negSucc 2147483647, .ofNat 2147483647)]], []), [(some (.inl (0, .negSucc 0)), [[(.ofNat 0, .ofNat 0)], [(.negSucc 2147483647, .ofNat 2147483647)], [(.negSucc 2147483647, .ofNat 2147483647)]], [], []),
  (some (.inl (0, .negSucc 3)), [[(.ofNat 0, .ofNat 0)], [(.ofNat 0, .ofNat 4)], [(.ofNat 0, .ofNat 0), (.ofNat 10, .ofNat 2147483647)]], [], []),
  (some (.inl (3, .ofNat 0)), [[(.ofNat 0, .ofNat 0)], [(.ofNat 0, .ofNat 4)], [(.ofNat 0, .ofNat 0), (.ofNat 10, .ofNat 14)], [(.ofNat 0, .ofNat 5)]], [], [])])
/-- X0_useHands_r20 -/
def qs71 : qSm := (7, 1, [(23, 3, 3), (24, 3, 3), (25, 3, 3), (26, 3, 3), (27, 3, 3)], ([.inr (.inr (.ref 20)), .inl (1, .ofNat 0)], [[(.ofNat 0, .ofNat 0)], [(.negSucc 2147483647, .ofNat 2147483647)]], []), [(none, [[(.ofNat 0, .ofNat 0)], [(.negSucc 2147483647, .ofNat 2147483647)]], [], [])])
/-- X7_hands_r0 -/
def qs72 : qSm := (86, 5, [(19, 2, 4), (20, 2, 5), (22, 0, 7), (23, 0, 3), (24, 0, 3), (25, 0, 3), (26, 0, 3), (27, 0, 3), (28, 0, 7)], ([.inr (.inr (.ref 0)), .inl (1, .ofNat 0)], [[(.ofNat 0, .ofNat 0)], [(.negSucc 2147483647, .ofNat 2147483647)]], []), [(some (.inl (0, .negSucc 0)), [[(.ofNat 0, .ofNat 0)], [(.negSucc 2147483647, .negSucc 0), (.ofNat 2, .ofNat 2147483647)]], [], []),
  (some (.inl (2, .ofNat 0)), [[(.ofNat 0, .ofNat 0)], [(.ofNat 0, .ofNat 1)], [(.negSucc 0, .ofNat 2147483647)]], [], [])])
/-- X7_clean_r0 -/
def qs73 : qSm := (87, 6, [(19, 2, 4), (20, 2, 5), (22, 0, 7), (23, 0, 3), (24, 0, 3), (25, 0, 3), (26, 0, 3), (27, 0, 3), (28, 0, 7)], ([.inr (.inr (.ref 0)), .inl (1, .ofNat 0)], [[(.ofNat 0, .ofNat 0)], [(.negSucc 2147483647, .ofNat 2147483647)]], []), [(some (.inl (0, .negSucc 0)), [[(.ofNat 0, .ofNat 0)], [(.negSucc 2147483647, .negSucc 0), (.ofNat 2, .ofNat 2147483647)]], [], []),
  (some (.inl (0, .negSucc 3)), [[(.ofNat 0, .ofNat 0)], [(.ofNat 1, .ofNat 1)]], [], []),
  (some (.inl (2, .ofNat 0)), [[(.ofNat 0, .ofNat 0)], [(.ofNat 0, .ofNat 1)], [(.negSucc 2147483647, .ofNat 2147483647)]], [], [])])
/-- X7_trade_r0 -/
def qs74 : qSm := (89, 6, [(19, 2, 4), (20, 2, 5), (22, 0, 7), (23, 0, 3), (24, 0, 3), (25, 0, 3), (26, 0, 3), (27, 0, 3), (28, 0, 7)], ([.inr (.inr (.ref 0)), .inl (1, .ofNat 0)], [[(.ofNat 0, .ofNat 0)], [(.negSucc 2147483647, .ofNat 2147483647)]], []), [(some (.inl (0, .negSucc 0)), [[(.ofNat 0, .ofNat 0)], [(.negSucc 2147483647, .negSucc 0), (.ofNat 2, .ofNat 2147483647)]], [], []),
  (some (.inl (0, .negSucc 3)), [[(.ofNat 0, .ofNat 0)], [(.ofNat 1, .ofNat 1)]], [], []),
  (some (.inl (2, .ofNat 0)), [[(.ofNat 0, .ofNat 0)], [(.ofNat 0, .ofNat 1)], [(.negSucc 2147483647, .ofNat 2147483647)]], [], [])])
/-- X7_loose_r0 -/
def qs75 : qSm := (90, 6, [(19, 2, 4), (20, 2, 5), (22, 0, 7), (23, 0, 3), (24, 0, 3), (25, 0, 3), (26, 0, 3), (27, 0, 3), (28, 0, 7)], ([.inr (.inr (.ref 0))], [[(.ofNat 0, .ofNat 0)]], []), [(some (.inl (0, .negSucc 3)), [[(.ofNat 0, .ofNat 0)]], [], []),
  (some (.inl (1, .ofNat 0)), [[(.ofNat 0, .ofNat 0)], [(.ofNat 0, .ofNat 9)]], [], [])])
/-- X7_odds_r0 -/
def qs76 : qSm := (95, 1, [], ([.inr (.inr (.ref 0)), .inl (1, .ofNat 0), .inl (2, .ofNat 0)], [[(.ofNat 0, .ofNat 0)], [(.negSucc 2147483647, .ofNat 2147483647)], [(.negSucc 2147483647, .ofNat 2147483647)]], []), [(some (.inr (.inl (3, .ofNat 0))), [[(.ofNat 0, .ofNat 0)], [(.negSucc 2147483647, .ofNat 2147483647)], [(.negSucc 2147483647, .ofNat 2147483647)], [(.negSucc 9223372036854775807, .ofNat 9223372036854775807)]], [], [])])
/-- X7_allOdds_r0 -/
def qs77 : qSm := (96, 1, [], ([.inr (.inr (.ref 0))], [[(.ofNat 0, .ofNat 0)]], []), [(some (.inr (.inl (1, .ofNat 0))), [[(.ofNat 0, .ofNat 0)], [(.negSucc 9223372036854775807, .ofNat 9223372036854775807)]], [], [])])
/-- X7_commonDivisor -/
def qs78 : qSm := (98, 1, [], ([.inr (.inl (1, .ofNat 0)), .inr (.inl (2, .ofNat 0))], [[(.ofNat 0, .ofNat 0)], [(.negSucc 9223372036854775807, .ofNat 9223372036854775807)], [(.negSucc 9223372036854775807, .ofNat 9223372036854775807)]], []), [(some (.inr (.inl (3, .ofNat 0))), [[(.ofNat 0, .ofNat 0)], [(.negSucc 9223372036854775807, .ofNat 9223372036854775807)], [(.negSucc 9223372036854775807, .ofNat 9223372036854775807)], [(.negSucc 9223372036854775807, .ofNat 9223372036854775807)]], [], [])])
/-- X7_mean_r0 -/
def qs79 : qSm := (92, 6, [(19, 2, 4), (20, 2, 5), (22, 0, 7), (23, 0, 3), (24, 0, 3), (25, 0, 3), (26, 0, 3), (27, 0, 3), (28, 0, 7)], ([.inr (.inr (.ref 0)), .inl (1, .ofNat 0), .inl (2, .ofNat 0)], [[(.ofNat 0, .ofNat 0)], [(.negSucc 2147483647, .ofNat 2147483647)], [(.negSucc 2147483647, .ofNat 2147483647)]], []), [(some (.inr (.inl (0, .negSucc 0))), [[(.ofNat 0, .ofNat 0)], [(.negSucc 2147483647, .ofNat 2147483647)], [(.negSucc 2147483647, .ofNat 2147483647)]], [], []),
  (some (.inr (.inl (3, .ofNat 0))), [[(.ofNat 0, .ofNat 0)], [(.ofNat 0, .ofNat 10)], [(.ofNat 0, .ofNat 1)], [(.negSucc 9223372036854775807, .ofNat 9223372036854775807)]], [], [])])
/-- X7_luck_r0 -/
def qs80 : qSm := (93, 6, [(19, 2, 4), (20, 2, 5), (22, 0, 7), (23, 0, 3), (24, 0, 3), (25, 0, 3), (26, 0, 3), (27, 0, 3), (28, 0, 7)], ([.inr (.inr (.ref 0)), .inl (1, .ofNat 0), .inl (2, .ofNat 0), .inl (3, .ofNat 0)], [[(.ofNat 0, .ofNat 0)], [(.negSucc 2147483647, .ofNat 2147483647)], [(.negSucc 2147483647, .ofNat 2147483647)], [(.negSucc 2147483647, .ofNat 2147483647)]], []), [(some (.inr (.inl (0, .negSucc 0))), [[(.ofNat 0, .ofNat 0)], [(.negSucc 2147483647, .ofNat 2147483647)], [(.negSucc 2147483647, .ofNat 2147483647)], [(.negSucc 2147483647, .ofNat 2147483647)]], [], []),
  (some (.inr (.inl (4, .ofNat 0))), [[(.ofNat 0, .ofNat 0)], [(.ofNat 0, .ofNat 10)], [(.ofNat 0, .ofNat 4)], [(.ofNat 0, .ofNat 1)], [(.negSucc 9223372036854775807, .ofNat 9223372036854775807)]], [], [])])
/-- X7_see_r0 -/
def qs81 : qSm := (99, 2, [(40, 3, 3), (41, 0, 5), (42, 0, 5)], ([.inr (.inr (.ref 0)), .inl (1, .ofNat 0), .inl (2, .ofNat 0)], [[(.ofNat 0, .ofNat 0)], [(.negSucc 2147483647, .ofNat 2147483647)], [(.negSucc 2147483647, .ofNat 2147483647)]], []), [(some (.inl (0, .negSucc 0)), [[(.ofNat 0, .ofNat 0)], [(.negSucc 2147483647, .ofNat 2147483647)], [(.negSucc 2147483647, .ofNat 2147483647)]], [], []),
  (some (.inl (0, .negSucc 2)), [[(.ofNat 0, .ofNat 0)], [(.ofNat 0, .ofNat 7)], [(.negSucc 3, .negSucc 3), (.ofNat 0, .ofNat 4)]], [], []),
  (some (.inl (3, .ofNat 0)), [[(.ofNat 0, .ofNat 0)], [(.ofNat 0, .ofNat 7)], [(.negSucc 3, .negSucc 3), (.ofNat 0, .ofNat 4)], [(.ofNat 1, .ofNat 6)]], [], [])])
/-- X7_forget_r0 -/
def qs82 : qSm := (100, 1, [(40, 3, 3)], ([.inr (.inr (.ref 0)), .inl (1, .ofNat 0)], [[(.ofNat 0, .ofNat 0)], [(.negSucc 2147483647, .ofNat 2147483647)]], []), [(some (.inl (0, .negSucc 0)), [[(.ofNat 0, .ofNat 0)], [(.negSucc 2147483647, .negSucc 0), (.ofNat 1, .ofNat 2147483647)]], [], []),
  (some (.inl (2, .ofNat 0)), [[(.ofNat 0, .ofNat 0)], [(.ofNat 0, .ofNat 6)], [(.ofNat 0, .ofNat 6)]], [], [])])
/-- X6_fits_r40_r19 -/
def qs83 : qSm := (60, 1, [], ([.inr (.inr (.ref 40)), .inr (.inr (.ref 19))], [[(.ofNat 0, .ofNat 0)]], []), [(some (.inl (0, .ofNat 0)), [[(.ofNat 0, .ofNat 0)]], [], []),
  (some (.inl (0, .ofNat 1)), [[(.ofNat 0, .ofNat 0)]], [], [])])
/-- X7_counts_r0 -/
def qs84 : qSm := (101, 6, [(19, 2, 4), (20, 2, 5), (22, 0, 7), (23, 0, 3), (24, 0, 3), (25, 0, 3), (26, 0, 3), (27, 0, 3), (28, 0, 7)], ([.inr (.inr (.ref 0)), .inl (1, .ofNat 0), .inl (2, .ofNat 0)], [[(.ofNat 0, .ofNat 0)], [(.negSucc 2147483647, .ofNat 2147483647)], [(.negSucc 2147483647, .ofNat 2147483647)]], []), [(some (.inl (0, .negSucc 0)), [[(.ofNat 0, .ofNat 0)], [(.negSucc 2147483647, .ofNat 2147483647)], [(.negSucc 2147483647, .ofNat 2147483647)]], [], []),
  (some (.inl (3, .ofNat 0)), [[(.ofNat 0, .ofNat 0)], [(.ofNat 0, .ofNat 4)], [(.ofNat 0, .ofNat 2)], [(.negSucc 2147483647, .ofNat 2147483647)]], [], [])])
/-- X7_slacks_r0 -/
def qs85 : qSm := (102, 6, [(19, 2, 4), (20, 2, 5), (22, 0, 7), (23, 0, 3), (24, 0, 3), (25, 0, 3), (26, 0, 3), (27, 0, 3), (28, 0, 7)], ([.inr (.inr (.ref 0))], [[(.ofNat 0, .ofNat 0)]], []), [(some (.inl (1, .ofNat 0)), [[(.ofNat 0, .ofNat 0)], [(.ofNat 0, .ofNat 32767)]], [], [])])
/-- J7_fill_53178_r43_c0 -/
def qs86 : qSm := (193, 1, [(43, 0, 47)], ([.inr (.inr (.ref 43)), .inl (0, .ofNat 0)], [[(.ofNat 0, .ofNat 0)]], []), [(none, [[(.ofNat 0, .ofNat 0)]], [], [])])
/-- X6_addToTally_r40_r19 -/
def qs87 : qSm := (62, 1, [(43, 0, 47)], ([.inr (.inr (.ref 40)), .inr (.inr (.ref 19))], [[(.ofNat 0, .ofNat 0)]], []), [(none, [[(.ofNat 0, .ofNat 0)]], [], [])])
/-- X7_tallyGuesses_r0 -/
def qs88 : qSm := (104, 6, [(19, 2, 4), (20, 2, 5), (22, 0, 7), (23, 0, 3), (24, 0, 3), (25, 0, 3), (26, 0, 3), (27, 0, 3), (28, 0, 7), (43, 0, 47)], ([.inr (.inr (.ref 0)), .inl (1, .ofNat 0)], [[(.ofNat 0, .ofNat 0)], [(.ofNat 0, .ofNat 4)]], []), [(some (.inl (2, .ofNat 0)), [[(.ofNat 0, .ofNat 0)], [(.ofNat 0, .ofNat 4)], [(.negSucc 2147483647, .ofNat 2147483647)]], [], [])])
/-- X6_worst_r40 -/
def qs89 : qSm := (63, 1, [], ([.inr (.inr (.ref 40)), .inl (1, .ofNat 0)], [[(.ofNat 0, .ofNat 0)], [(.ofNat 0, .ofNat 7)]], []), [(some (.inl (2, .ofNat 0)), [[(.ofNat 0, .ofNat 0)], [(.ofNat 0, .ofNat 7)], [(.ofNat 0, .ofNat 2147483647)]], [], [])])
/-- X7_look_r0 -/
def qs90 : qSm := (103, 7, [(19, 2, 4), (20, 2, 5), (22, 0, 7), (23, 0, 3), (24, 0, 3), (25, 0, 3), (26, 0, 3), (27, 0, 3), (28, 0, 7), (43, 0, 47)], ([.inr (.inr (.ref 0)), .inl (1, .ofNat 0), .inl (2, .ofNat 0)], [[(.ofNat 0, .ofNat 0)], [(.negSucc 2147483647, .ofNat 2147483647)], [(.negSucc 2147483647, .ofNat 2147483647)]], []), [(some (.inl (0, .negSucc 0)), [[(.ofNat 0, .ofNat 0)], [(.negSucc 2147483647, .ofNat 2147483647)], [(.negSucc 2147483647, .ofNat 2147483647)]], [], []),
  (some (.inl (0, .negSucc 3)), [[(.ofNat 0, .ofNat 0)], [(.ofNat 0, .ofNat 4)], [(.ofNat 1, .ofNat 1)]], [], []),
  (some (.inl (3, .ofNat 0)), [[(.ofNat 0, .ofNat 0)], [(.ofNat 0, .ofNat 4)], [(.ofNat 0, .ofNat 1)], [(.negSucc 2147483647, .ofNat 2147483647)]], [], [])])
/-- X7_drift_r0 -/
def qs91 : qSm := (105, 4, [(20, 2, 5), (22, 0, 7), (23, 0, 3), (24, 0, 3), (25, 0, 3), (26, 0, 3), (27, 0, 3)], ([.inr (.inr (.ref 0)), .inl (1, .ofNat 0), .inl (2, .ofNat 0), .inl (3, .ofNat 0)], [[(.ofNat 0, .ofNat 0)], [(.negSucc 2147483647, .ofNat 2147483647)], [(.negSucc 2147483647, .ofNat 2147483647)], [(.negSucc 2147483647, .ofNat 2147483647)]], []), [(some (.inl (0, .negSucc 0)), [[(.ofNat 0, .ofNat 0)], [(.negSucc 2147483647, .ofNat 2147483647)], [(.negSucc 2147483647, .ofNat 2147483647)], [(.negSucc 2147483647, .ofNat 2147483647)]], [], []),
  (some (.inl (0, .negSucc 1)), [[(.ofNat 0, .ofNat 0)], [(.negSucc 2147483647, .ofNat 2147483647)], [(.ofNat 1, .ofNat 60)], [(.ofNat 0, .ofNat 1)]], [], []),
  (some (.inl (4, .ofNat 0)), [[(.ofNat 0, .ofNat 0)], [(.negSucc 2147483647, .ofNat 2147483647)], [(.ofNat 1, .ofNat 60)], [(.ofNat 0, .ofNat 1)], [(.negSucc 2147483647, .ofNat 2147483647)]], [], [])])
/-- X0_become_r47_r11 -/
def qs92 : qSm := (2, 2, [(47, 2, 5), (49, 0, 7), (50, 0, 3), (51, 0, 3), (52, 0, 3), (53, 0, 3), (54, 0, 3)], ([.inr (.inr (.ref 47)), .inr (.inr (.ref 11))], [[(.ofNat 0, .ofNat 0)]], []), [(none, [[(.ofNat 0, .ofNat 0)]], [], [])])
/-- X0_become_r55_r11 -/
def qs93 : qSm := (2, 2, [(55, 2, 5), (57, 0, 7), (58, 0, 3), (59, 0, 3), (60, 0, 3), (61, 0, 3), (62, 0, 3)], ([.inr (.inr (.ref 55)), .inr (.inr (.ref 11))], [[(.ofNat 0, .ofNat 0)]], []), [(none, [[(.ofNat 0, .ofNat 0)]], [], [])])
/-- X7_keep_r0 -/
def qs94 : qSm := (106, 3, [(45, 0, 1), (47, 2, 5), (49, 0, 7), (50, 0, 3), (51, 0, 3), (52, 0, 3), (53, 0, 3), (54, 0, 3), (55, 2, 5), (57, 0, 7), (58, 0, 3), (59, 0, 3), (60, 0, 3), (61, 0, 3), (62, 0, 3)], ([.inr (.inr (.ref 0)), .inl (1, .ofNat 0)], [[(.ofNat 0, .ofNat 0)], [(.negSucc 2147483647, .ofNat 2147483647)]], []), [(some (.inl (0, .negSucc 0)), [[(.ofNat 0, .ofNat 0)], [(.negSucc 2147483647, .negSucc 0), (.ofNat 2, .ofNat 2147483647)]], [], []),
  (some (.inl (0, .ofNat 0)), [[(.ofNat 0, .ofNat 0)], [(.ofNat 0, .ofNat 1)]], [], []),
  (some (.inl (0, .ofNat 1)), [[(.ofNat 0, .ofNat 0)], [(.ofNat 0, .ofNat 1)]], [], [])])
/-- X0_become_r11_r47 -/
def qs95 : qSm := (2, 2, [(11, 2, 5), (13, 0, 7), (14, 0, 3), (15, 0, 3), (16, 0, 3), (17, 0, 3), (18, 0, 3)], ([.inr (.inr (.ref 11)), .inr (.inr (.ref 47))], [[(.ofNat 0, .ofNat 0)]], []), [(none, [[(.ofNat 0, .ofNat 0)]], [], [])])
/-- X0_become_r11_r55 -/
def qs96 : qSm := (2, 2, [(11, 2, 5), (13, 0, 7), (14, 0, 3), (15, 0, 3), (16, 0, 3), (17, 0, 3), (18, 0, 3)], ([.inr (.inr (.ref 11)), .inr (.inr (.ref 55))], [[(.ofNat 0, .ofNat 0)]], []), [(none, [[(.ofNat 0, .ofNat 0)]], [], [])])
/-- X7_back_r0 -/
def qs97 : qSm := (107, 3, [(11, 2, 5), (13, 0, 7), (14, 0, 3), (15, 0, 3), (16, 0, 3), (17, 0, 3), (18, 0, 3)], ([.inr (.inr (.ref 0)), .inl (1, .ofNat 0)], [[(.ofNat 0, .ofNat 0)], [(.negSucc 2147483647, .ofNat 2147483647)]], []), [(some (.inl (0, .negSucc 0)), [[(.ofNat 0, .ofNat 0)], [(.negSucc 2147483647, .negSucc 0), (.ofNat 2, .ofNat 2147483647)]], [], []),
  (some (.inl (0, .negSucc 1)), [[(.ofNat 0, .ofNat 0)], [(.ofNat 0, .ofNat 1)]], [], []),
  (some (.inl (2, .ofNat 0)), [[(.ofNat 0, .ofNat 0)], [(.ofNat 0, .ofNat 1)], [(.ofNat 0, .ofNat 999)]], [], [])])
/-- J7_fill_53178_r64_c0 -/
def qs98 : qSm := (193, 1, [(64, 0, 39)], ([.inr (.inr (.ref 64)), .inl (0, .ofNat 0)], [[(.ofNat 0, .ofNat 0)]], []), [(none, [[(.ofNat 0, .ofNat 0)]], [], [])])
/-- J7_fill_53178_r66_c0 -/
def qs99 : qSm := (193, 1, [(66, 0, 39)], ([.inr (.inr (.ref 66)), .inl (0, .ofNat 0)], [[(.ofNat 0, .ofNat 0)]], []), [(none, [[(.ofNat 0, .ofNat 0)]], [], [])])
/-- J7_fill_53178_r68_c0 -/
def qs100 : qSm := (193, 1, [(68, 0, 39)], ([.inr (.inr (.ref 68)), .inl (0, .ofNat 0)], [[(.ofNat 0, .ofNat 0)]], []), [(none, [[(.ofNat 0, .ofNat 0)]], [], [])])
/-- J7_fill_53178_r70_c0 -/
def qs101 : qSm := (193, 1, [(70, 0, 39)], ([.inr (.inr (.ref 70)), .inl (0, .ofNat 0)], [[(.ofNat 0, .ofNat 0)]], []), [(none, [[(.ofNat 0, .ofNat 0)]], [], [])])
/-- X7_sheet_r0 -/
def qs102 : qSm := (108, 3, [(63, 1, 3), (64, 0, 39), (65, 1, 3), (66, 0, 39), (67, 1, 3), (68, 0, 39), (69, 1, 3), (70, 0, 39)], ([.inr (.inr (.ref 0)), .inl (1, .ofNat 0), .inl (2, .ofNat 0), .inl (3, .ofNat 0)], [[(.ofNat 0, .ofNat 0)], [(.negSucc 2147483647, .ofNat 2147483647)], [(.negSucc 2147483647, .ofNat 2147483647)], [(.negSucc 2147483647, .ofNat 2147483647)]], []), [(some (.inl (0, .negSucc 0)), [[(.ofNat 0, .ofNat 0)], [(.negSucc 2147483647, .ofNat 2147483647)], [(.negSucc 2147483647, .ofNat 2147483647)], [(.negSucc 2147483647, .ofNat 2147483647)]], [], []),
  (some (.inl (0, .negSucc 13)), [[(.ofNat 0, .ofNat 0)], [(.ofNat 0, .ofNat 3)], [(.ofNat 0, .ofNat 2)], [(.negSucc 2147483647, .negSucc 0)]], [], []),
  (some (.inl (0, .ofNat 1)), [[(.ofNat 0, .ofNat 0)], [(.ofNat 0, .ofNat 3)], [(.ofNat 0, .ofNat 2)], [(.ofNat 0, .ofNat 40)]], [], [])])
/-- X7_lay_r0 -/
def qs103 : qSm := (109, 2, [(64, 0, 39), (66, 0, 39), (68, 0, 39), (70, 0, 39)], ([.inr (.inr (.ref 0)), .inl (1, .ofNat 0), .inl (2, .ofNat 0), .inl (3, .ofNat 0)], [[(.ofNat 0, .ofNat 0)], [(.negSucc 2147483647, .ofNat 2147483647)], [(.negSucc 2147483647, .ofNat 2147483647)], [(.negSucc 2147483647, .ofNat 2147483647)]], []), [(some (.inl (0, .negSucc 0)), [[(.ofNat 0, .ofNat 0)], [(.negSucc 2147483647, .negSucc 0), (.ofNat 4, .ofNat 2147483647)], [(.negSucc 2147483647, .ofNat 2147483647)], [(.negSucc 2147483647, .ofNat 2147483647)]], [], []),
  (some (.inl (0, .negSucc 10)), [[(.ofNat 0, .ofNat 0)], [(.ofNat 0, .ofNat 3)], [(.negSucc 2147483647, .ofNat 2147483647)], [(.negSucc 2147483647, .ofNat 2147483647)]], [], []),
  (some (.inl (0, .negSucc 11)), [[(.ofNat 0, .ofNat 0)], [(.ofNat 0, .ofNat 3)], [(.negSucc 2147483647, .ofNat 2147483647)], [(.negSucc 2147483647, .ofNat 2147483647)]], [], []),
  (some (.inl (0, .ofNat 1)), [[(.ofNat 0, .ofNat 0)], [(.ofNat 0, .ofNat 3)], [(.ofNat 0, .ofNat 39)], [(.negSucc 2147483647, .ofNat 2147483647)]], [], [])])
/-- X7_read_r0 -/
def qs104 : qSm := (110, 4, [(0, 8, 8), (11, 5, 5), (14, 1, 2), (15, 1, 2), (16, 1, 2), (17, 1, 2), (18, 1, 2)], ([.inr (.inr (.ref 0)), .inl (1, .ofNat 0), .inl (2, .ofNat 0), .inl (3, .ofNat 0), .inl (4, .ofNat 0)], [[(.ofNat 0, .ofNat 0)], [(.negSucc 2147483647, .ofNat 2147483647)], [(.negSucc 2147483647, .ofNat 2147483647)], [(.negSucc 2147483647, .ofNat 2147483647)], [(.negSucc 2147483647, .ofNat 2147483647)]], []), [(some (.inl (5, .ofNat 0)), [[(.ofNat 0, .ofNat 0)], [(.negSucc 2147483647, .ofNat 2147483647)], [(.negSucc 2147483647, .ofNat 2147483647)], [(.negSucc 2147483647, .ofNat 2147483647)], [(.negSucc 2147483647, .ofNat 2147483647)], [(.negSucc 38, .negSucc 19), (.negSucc 0, .ofNat 20)]], [], [])])
/-- X7_torn_r0 -/
def qs105 : qSm := (111, 1, [], ([.inr (.inr (.ref 0))], [[(.ofNat 0, .ofNat 0)]], []), [(some (.inl (1, .ofNat 0)), [[(.ofNat 0, .ofNat 0)], [(.negSucc 2147483647, .ofNat 2147483647)]], [], [])])
/-- X0_allTurned_r11 -/
def qs106 : qSm := (12, 2, [], ([.inr (.inr (.ref 11))], [[(.ofNat 0, .ofNat 0)]], []), [(some (.inl (1, .ofNat 0)), [[(.ofNat 0, .ofNat 0)], [(.negSucc 2147483647, .ofNat 2147483647)]], [], [])])
/-- X0_allMarks_r11 -/
def qs107 : qSm := (13, 2, [], ([.inr (.inr (.ref 11))], [[(.ofNat 0, .ofNat 0)]], []), [(some (.inl (1, .ofNat 0)), [[(.ofNat 0, .ofNat 0)], [(.negSucc 2147483647, .ofNat 2147483647)]], [], [])])
/-- X7_count_r0 -/
def qs108 : qSm := (112, 3, [], ([.inr (.inr (.ref 0)), .inl (1, .ofNat 0)], [[(.ofNat 0, .ofNat 0)], [(.negSucc 2147483647, .ofNat 2147483647)]], []), [(some (.inl (0, .negSucc 0)), [[(.ofNat 0, .ofNat 0)], [(.negSucc 2147483647, .negSucc 0), (.ofNat 6, .ofNat 2147483647)]], [], []),
  (some (.inl (0, .negSucc 3)), [[(.ofNat 0, .ofNat 0)], [(.ofNat 3, .ofNat 3)]], [], []),
  (some (.inl (0, .ofNat 0)), [[(.ofNat 0, .ofNat 0)], [(.ofNat 1, .ofNat 1)]], [], []),
  (some (.inl (0, .ofNat 1)), [[(.ofNat 0, .ofNat 0)], [(.ofNat 1, .ofNat 1)]], [], []),
  (some (.inl (0, .ofNat 2)), [[(.ofNat 0, .ofNat 0)], [(.ofNat 1, .ofNat 1)]], [], []),
  (some (.inl (2, .ofNat 0)), [[(.ofNat 0, .ofNat 0)], [(.ofNat 0, .ofNat 0), (.ofNat 2, .ofNat 5)], [(.negSucc 2147483647, .ofNat 2147483647)]], [], [])])
/-- X8_in_c0_c127 -/
def qs109 : qSm := (114, 1, [], ([.inr (.inl (1, .ofNat 0)), .inr (.inl (0, .ofNat 0)), .inr (.inl (0, .ofNat 127))], [[(.ofNat 0, .ofNat 0)], [(.negSucc 9223372036854775807, .ofNat 9223372036854775807)]], []), [(some (.inl (0, .ofNat 0)), [[(.ofNat 0, .ofNat 0)], [(.negSucc 9223372036854775807, .negSucc 0), (.ofNat 128, .ofNat 9223372036854775807)]], [], []),
  (some (.inl (0, .ofNat 1)), [[(.ofNat 0, .ofNat 0)], [(.ofNat 0, .ofNat 127)]], [], [])])
/-- X8_feed_r71 -/
def qs110 : qSm := (115, 2, [(71, 8, 8), (75, 0, 159)], ([.inr (.inr (.ref 71)), .inl (1, .ofNat 0)], [[(.ofNat 0, .ofNat 0)], [(.negSucc 2147483647, .ofNat 2147483647)]], []), [(some (.inl (0, .negSucc 0)), [[(.ofNat 0, .ofNat 0)], [(.negSucc 2147483647, .negSucc 0), (.ofNat 128, .ofNat 2147483647)]], [], []),
  (some (.inl (0, .negSucc 2)), [[(.ofNat 0, .ofNat 0)], [(.ofNat 0, .ofNat 127)]], [], []),
  (some (.inl (2, .ofNat 0)), [[(.ofNat 0, .ofNat 0)], [(.ofNat 0, .ofNat 127)], [(.ofNat 1, .ofNat 160)]], [], [])])
/-- X8_end_r71 -/
def qs111 : qSm := (116, 2, [(71, 8, 8)], ([.inr (.inr (.ref 71)), .inl (1, .ofNat 0)], [[(.ofNat 0, .ofNat 0)], [(.negSucc 2147483647, .ofNat 2147483647)]], []), [(some (.inl (0, .negSucc 0)), [[(.ofNat 0, .ofNat 0)], [(.negSucc 2147483647, .negSucc 0), (.ofNat 1, .ofNat 2147483647)]], [], []),
  (some (.inl (0, .ofNat 0)), [[(.ofNat 0, .ofNat 0)], [(.ofNat 0, .ofNat 0)]], [], []),
  (some (.inl (2, .ofNat 0)), [[(.ofNat 0, .ofNat 0)], [(.ofNat 0, .ofNat 160)], [(.ofNat 1, .ofNat 160)]], [], [])])
/-- X8_in_c97_c122 -/
def qs112 : qSm := (114, 1, [], ([.inr (.inl (1, .ofNat 0)), .inr (.inl (0, .ofNat 97)), .inr (.inl (0, .ofNat 122))], [[(.ofNat 0, .ofNat 0)], [(.negSucc 9223372036854775807, .ofNat 9223372036854775807)]], []), [(some (.inl (0, .ofNat 0)), [[(.ofNat 0, .ofNat 0)], [(.negSucc 9223372036854775807, .ofNat 96), (.ofNat 123, .ofNat 9223372036854775807)]], [], []),
  (some (.inl (0, .ofNat 1)), [[(.ofNat 0, .ofNat 0)], [(.ofNat 97, .ofNat 122)]], [], [])])
/-- X8_in_c48_c57 -/
def qs113 : qSm := (114, 1, [], ([.inr (.inl (1, .ofNat 0)), .inr (.inl (0, .ofNat 48)), .inr (.inl (0, .ofNat 57))], [[(.ofNat 0, .ofNat 0)], [(.negSucc 9223372036854775807, .ofNat 9223372036854775807)]], []), [(some (.inl (0, .ofNat 0)), [[(.ofNat 0, .ofNat 0)], [(.negSucc 9223372036854775807, .ofNat 47), (.ofNat 58, .ofNat 9223372036854775807)]], [], []),
  (some (.inl (0, .ofNat 1)), [[(.ofNat 0, .ofNat 0)], [(.ofNat 48, .ofNat 57)]], [], [])])
/-- X8_step_r71 -/
def qs114 : qSm := (120, 2, [(71, 10, 15)], ([.inr (.inr (.ref 71))], [[(.ofNat 0, .ofNat 0)], [(.ofNat 0, .ofNat 6)], [(.ofNat 0, .ofNat 160)]], [((71, 10), .inl (1, .ofNat 0)), ((71, 12), .inl (2, .ofNat 0))]), [(none, [[(.ofNat 0, .ofNat 0)], [(.ofNat 0, .ofNat 0)], [(.ofNat 0, .ofNat 160)], [(.ofNat 0, .ofNat 160)]], [((71, 14), .inl (0, .ofNat 0)), ((71, 12), .inl (3, .ofNat 0)), ((71, 10), .inl (0, .ofNat 0))], [.inl (3, 2, .ofNat 0)]),
  (none, [[(.ofNat 0, .ofNat 0)], [(.ofNat 0, .ofNat 0)], [(.ofNat 0, .ofNat 160)], [(.ofNat 1, .ofNat 160)]], [((71, 14), .inl (0, .ofNat 1)), ((71, 12), .inl (3, .ofNat 0)), ((71, 10), .inl (0, .ofNat 0))], [.inl (3, 2, .ofNat 1)]),
  (none, [[(.ofNat 0, .ofNat 0)], [(.ofNat 0, .ofNat 0)], [(.ofNat 0, .ofNat 160)], [(.ofNat 1, .ofNat 160)]], [((71, 14), .inl (0, .ofNat 2)), ((71, 12), .inl (3, .ofNat 0)), ((71, 10), .inl (0, .ofNat 0))], [.inl (3, 2, .ofNat 1)]),
  (none, [[(.ofNat 0, .ofNat 0)], [(.ofNat 0, .ofNat 0)], [(.ofNat 0, .ofNat 160)], [(.ofNat 1, .ofNat 160)]], [((71, 12), .inl (3, .ofNat 0)), ((71, 14), .inl (0, .ofNat 3)), ((71, 10), .inl (0, .ofNat 0))], [.inl (3, 2, .ofNat 1)]),
  (none, [[(.ofNat 0, .ofNat 0)], [(.ofNat 0, .ofNat 0)], [(.ofNat 0, .ofNat 160)], [(.ofNat 2, .ofNat 160)]], [((71, 10), .inl (0, .ofNat 1)), ((71, 14), .inl (0, .ofNat 2)), ((71, 12), .inl (3, .ofNat 0))], [.inl (3, 2, .ofNat 1)]),
  (none, [[(.ofNat 0, .ofNat 0)], [(.ofNat 0, .ofNat 0)], [(.ofNat 0, .ofNat 160)], [(.ofNat 1, .ofNat 160)]], [((71, 10), .inl (0, .ofNat 1)), ((71, 12), .inl (3, .ofNat 0)), ((71, 14), .inl (0, .ofNat 3))], [.inl (3, 2, .ofNat 1)]),
  (none, [[(.ofNat 0, .ofNat 0)], [(.ofNat 1, .ofNat 6)], [(.ofNat 0, .ofNat 160)], [(.negSucc 2147483647, .ofNat 2147483647)]], [((71, 14), .inl (3, .ofNat 0)), ((71, 10), .inl (1, .ofNat 0)), ((71, 12), .inl (2, .ofNat 0))], [])])
/-- X8_nameHere_r71 -/
def qs115 : qSm := (119, 2, [], ([.inr (.inr (.ref 71))], [[(.ofNat 0, .ofNat 0)]], []), [(some (.inl (0, .negSucc 3)), [[(.ofNat 0, .ofNat 0)]], [], []),
  (some (.inl (0, .ofNat 0)), [[(.ofNat 0, .ofNat 0)]], [], []),
  (some (.inl (0, .ofNat 1)), [[(.ofNat 0, .ofNat 0)]], [], []),
  (some (.inl (0, .ofNat 2)), [[(.ofNat 0, .ofNat 0)]], [], []),
  (some (.inl (0, .ofNat 3)), [[(.ofNat 0, .ofNat 0)]], [], []),
  (some (.inl (0, .ofNat 4)), [[(.ofNat 0, .ofNat 0)]], [], []),
  (some (.inl (0, .ofNat 5)), [[(.ofNat 0, .ofNat 0)]], [], []),
  (some (.inl (0, .ofNat 6)), [[(.ofNat 0, .ofNat 0)]], [], [])])
/-- X8_in_c0_c6 -/
def qs116 : qSm := (114, 1, [], ([.inr (.inl (1, .ofNat 0)), .inr (.inl (0, .ofNat 0)), .inr (.inl (0, .ofNat 6))], [[(.ofNat 0, .ofNat 0)], [(.negSucc 9223372036854775807, .ofNat 9223372036854775807)]], []), [(some (.inl (0, .ofNat 0)), [[(.ofNat 0, .ofNat 0)], [(.negSucc 9223372036854775807, .negSucc 0), (.ofNat 7, .ofNat 9223372036854775807)]], [], []),
  (some (.inl (0, .ofNat 1)), [[(.ofNat 0, .ofNat 0)], [(.ofNat 0, .ofNat 6)]], [], [])])
/-- X8_in_c0_c99 -/
def qs117 : qSm := (114, 1, [], ([.inr (.inl (1, .ofNat 0)), .inr (.inl (0, .ofNat 0)), .inr (.inl (0, .ofNat 99))], [[(.ofNat 0, .ofNat 0)], [(.negSucc 9223372036854775807, .ofNat 9223372036854775807)]], []), [(some (.inl (0, .ofNat 0)), [[(.ofNat 0, .ofNat 0)], [(.negSucc 9223372036854775807, .negSucc 0), (.ofNat 100, .ofNat 9223372036854775807)]], [], []),
  (some (.inl (0, .ofNat 1)), [[(.ofNat 0, .ofNat 0)], [(.ofNat 0, .ofNat 99)]], [], [])])
/-- X8_other_r71_c0_c99 -/
def qs118 : qSm := (121, 3, [(71, 10, 15)], ([.inr (.inr (.ref 71)), .inl (0, .ofNat 0), .inl (0, .ofNat 99), .inl (1, .ofNat 0)], [[(.ofNat 0, .ofNat 0)], [(.negSucc 2147483647, .ofNat 2147483647)], [(.ofNat 0, .ofNat 6)], [(.ofNat 0, .ofNat 160)], [(.negSucc 2147483647, .ofNat 2147483647)]], [((71, 10), .inl (2, .ofNat 0)), ((71, 12), .inl (3, .ofNat 0)), ((71, 14), .inl (4, .ofNat 0))]), [(some (.inl (5, .ofNat 0)), [[(.ofNat 0, .ofNat 0)], [(.negSucc 2147483647, .ofNat 2147483647)], [(.ofNat 0, .ofNat 0)], [(.ofNat 0, .ofNat 160)], [(.ofNat 2, .ofNat 2)], [(.ofNat 0, .ofNat 99)], [(.ofNat 0, .ofNat 160)]], [((71, 14), .inl (0, .ofNat 0)), ((71, 12), .inl (6, .ofNat 0)), ((71, 10), .inl (0, .ofNat 0))], [.inl (6, 3, .ofNat 0)]),
  (some (.inl (5, .ofNat 0)), [[(.ofNat 0, .ofNat 0)], [(.negSucc 2147483647, .ofNat 2147483647)], [(.ofNat 0, .ofNat 0)], [(.ofNat 0, .ofNat 160)], [(.ofNat 2, .ofNat 2)], [(.ofNat 0, .ofNat 99)], [(.ofNat 1, .ofNat 160)]], [((71, 14), .inl (0, .ofNat 1)), ((71, 12), .inl (6, .ofNat 0)), ((71, 10), .inl (0, .ofNat 0))], [.inl (6, 3, .ofNat 1)]),
  (some (.inl (5, .ofNat 0)), [[(.ofNat 0, .ofNat 0)], [(.negSucc 2147483647, .ofNat 2147483647)], [(.ofNat 0, .ofNat 0)], [(.ofNat 0, .ofNat 160)], [(.ofNat 2, .ofNat 2)], [(.ofNat 0, .ofNat 99)], [(.ofNat 1, .ofNat 160)]], [((71, 14), .inl (0, .ofNat 2)), ((71, 12), .inl (6, .ofNat 0)), ((71, 10), .inl (0, .ofNat 0))], [.inl (6, 3, .ofNat 1)]),
  (some (.inl (5, .ofNat 0)), [[(.ofNat 0, .ofNat 0)], [(.negSucc 2147483647, .ofNat 2147483647)], [(.ofNat 0, .ofNat 0)], [(.ofNat 0, .ofNat 160)], [(.ofNat 2, .ofNat 2)], [(.ofNat 0, .ofNat 99)], [(.ofNat 1, .ofNat 160)]], [((71, 12), .inl (6, .ofNat 0)), ((71, 14), .inl (0, .ofNat 3)), ((71, 10), .inl (0, .ofNat 0))], [.inl (6, 3, .ofNat 1)]),
  (some (.inl (5, .ofNat 0)), [[(.ofNat 0, .ofNat 0)], [(.negSucc 2147483647, .ofNat 2147483647)], [(.ofNat 0, .ofNat 0)], [(.ofNat 0, .ofNat 160)], [(.ofNat 2, .ofNat 2)], [(.ofNat 0, .ofNat 99)], [(.ofNat 2, .ofNat 160)]], [((71, 10), .inl (0, .ofNat 1)), ((71, 14), .inl (0, .ofNat 2)), ((71, 12), .inl (6, .ofNat 0))], [.inl (6, 3, .ofNat 1)]),
  (some (.inl (5, .ofNat 0)), [[(.ofNat 0, .ofNat 0)], [(.negSucc 2147483647, .ofNat 2147483647)], [(.ofNat 0, .ofNat 0)], [(.ofNat 0, .ofNat 160)], [(.ofNat 2, .ofNat 2)], [(.ofNat 0, .ofNat 99)], [(.ofNat 1, .ofNat 160)]], [((71, 10), .inl (0, .ofNat 1)), ((71, 12), .inl (6, .ofNat 0)), ((71, 14), .inl (0, .ofNat 3))], [.inl (6, 3, .ofNat 1)]),
  (some (.inl (0, .ofNat 0)), [[(.ofNat 0, .ofNat 0)], [(.negSucc 2147483647, .ofNat 2147483647)], [(.ofNat 0, .ofNat 6)], [(.ofNat 0, .ofNat 160)], [(.negSucc 2147483647, .ofNat 2147483647)], [(.negSucc 2147483647, .ofNat 2147483647)], [(.ofNat 1, .ofNat 6)]], [((71, 14), .inl (5, .ofNat 0)), ((71, 10), .inl (6, .ofNat 0)), ((71, 12), .inl (3, .ofNat 0))], [])])
/-- X8_in_c0_c4 -/
def qs119 : qSm := (114, 1, [], ([.inr (.inl (1, .ofNat 0)), .inr (.inl (0, .ofNat 0)), .inr (.inl (0, .ofNat 4))], [[(.ofNat 0, .ofNat 0)], [(.negSucc 9223372036854775807, .ofNat 9223372036854775807)]], []), [(some (.inl (0, .ofNat 0)), [[(.ofNat 0, .ofNat 0)], [(.negSucc 9223372036854775807, .negSucc 0), (.ofNat 5, .ofNat 9223372036854775807)]], [], []),
  (some (.inl (0, .ofNat 1)), [[(.ofNat 0, .ofNat 0)], [(.ofNat 0, .ofNat 4)]], [], [])])
/-- X8_other_r71_c0_c4 -/
def qs120 : qSm := (121, 3, [(71, 10, 15)], ([.inr (.inr (.ref 71)), .inl (0, .ofNat 0), .inl (0, .ofNat 4), .inl (1, .ofNat 0)], [[(.ofNat 0, .ofNat 0)], [(.negSucc 2147483647, .ofNat 2147483647)], [(.ofNat 0, .ofNat 6)], [(.ofNat 0, .ofNat 160)], [(.negSucc 2147483647, .ofNat 2147483647)]], [((71, 10), .inl (2, .ofNat 0)), ((71, 12), .inl (3, .ofNat 0)), ((71, 14), .inl (4, .ofNat 0))]), [(some (.inl (5, .ofNat 0)), [[(.ofNat 0, .ofNat 0)], [(.negSucc 2147483647, .ofNat 2147483647)], [(.ofNat 0, .ofNat 0)], [(.ofNat 0, .ofNat 160)], [(.ofNat 2, .ofNat 2)], [(.ofNat 0, .ofNat 4)], [(.ofNat 0, .ofNat 160)]], [((71, 14), .inl (0, .ofNat 0)), ((71, 12), .inl (6, .ofNat 0)), ((71, 10), .inl (0, .ofNat 0))], [.inl (6, 3, .ofNat 0)]),
  (some (.inl (5, .ofNat 0)), [[(.ofNat 0, .ofNat 0)], [(.negSucc 2147483647, .ofNat 2147483647)], [(.ofNat 0, .ofNat 0)], [(.ofNat 0, .ofNat 160)], [(.ofNat 2, .ofNat 2)], [(.ofNat 0, .ofNat 4)], [(.ofNat 1, .ofNat 160)]], [((71, 14), .inl (0, .ofNat 1)), ((71, 12), .inl (6, .ofNat 0)), ((71, 10), .inl (0, .ofNat 0))], [.inl (6, 3, .ofNat 1)]),
  (some (.inl (5, .ofNat 0)), [[(.ofNat 0, .ofNat 0)], [(.negSucc 2147483647, .ofNat 2147483647)], [(.ofNat 0, .ofNat 0)], [(.ofNat 0, .ofNat 160)], [(.ofNat 2, .ofNat 2)], [(.ofNat 0, .ofNat 4)], [(.ofNat 1, .ofNat 160)]], [((71, 14), .inl (0, .ofNat 2)), ((71, 12), .inl (6, .ofNat 0)), ((71, 10), .inl (0, .ofNat 0))], [.inl (6, 3, .ofNat 1)]),
  (some (.inl (5, .ofNat 0)), [[(.ofNat 0, .ofNat 0)], [(.negSucc 2147483647, .ofNat 2147483647)], [(.ofNat 0, .ofNat 0)], [(.ofNat 0, .ofNat 160)], [(.ofNat 2, .ofNat 2)], [(.ofNat 0, .ofNat 4)], [(.ofNat 1, .ofNat 160)]], [((71, 12), .inl (6, .ofNat 0)), ((71, 14), .inl (0, .ofNat 3)), ((71, 10), .inl (0, .ofNat 0))], [.inl (6, 3, .ofNat 1)]),
  (some (.inl (5, .ofNat 0)), [[(.ofNat 0, .ofNat 0)], [(.negSucc 2147483647, .ofNat 2147483647)], [(.ofNat 0, .ofNat 0)], [(.ofNat 0, .ofNat 160)], [(.ofNat 2, .ofNat 2)], [(.ofNat 0, .ofNat 4)], [(.ofNat 2, .ofNat 160)]], [((71, 10), .inl (0, .ofNat 1)), ((71, 14), .inl (0, .ofNat 2)), ((71, 12), .inl (6, .ofNat 0))], [.inl (6, 3, .ofNat 1)]),
  (some (.inl (5, .ofNat 0)), [[(.ofNat 0, .ofNat 0)], [(.negSucc 2147483647, .ofNat 2147483647)], [(.ofNat 0, .ofNat 0)], [(.ofNat 0, .ofNat 160)], [(.ofNat 2, .ofNat 2)], [(.ofNat 0, .ofNat 4)], [(.ofNat 1, .ofNat 160)]], [((71, 10), .inl (0, .ofNat 1)), ((71, 12), .inl (6, .ofNat 0)), ((71, 14), .inl (0, .ofNat 3))], [.inl (6, 3, .ofNat 1)]),
  (some (.inl (0, .ofNat 0)), [[(.ofNat 0, .ofNat 0)], [(.negSucc 2147483647, .ofNat 2147483647)], [(.ofNat 0, .ofNat 6)], [(.ofNat 0, .ofNat 160)], [(.negSucc 2147483647, .ofNat 2147483647)], [(.negSucc 2147483647, .ofNat 2147483647)], [(.ofNat 1, .ofNat 6)]], [((71, 14), .inl (5, .ofNat 0)), ((71, 10), .inl (6, .ofNat 0)), ((71, 12), .inl (3, .ofNat 0))], [])])
/-- X8_in_c0_c9 -/
def qs121 : qSm := (114, 1, [], ([.inr (.inl (1, .ofNat 0)), .inr (.inl (0, .ofNat 0)), .inr (.inl (0, .ofNat 9))], [[(.ofNat 0, .ofNat 0)], [(.negSucc 9223372036854775807, .ofNat 9223372036854775807)]], []), [(some (.inl (0, .ofNat 0)), [[(.ofNat 0, .ofNat 0)], [(.negSucc 9223372036854775807, .negSucc 0), (.ofNat 10, .ofNat 9223372036854775807)]], [], []),
  (some (.inl (0, .ofNat 1)), [[(.ofNat 0, .ofNat 0)], [(.ofNat 0, .ofNat 9)]], [], [])])
/-- X8_other_r71_c0_c9 -/
def qs122 : qSm := (121, 3, [(71, 10, 15)], ([.inr (.inr (.ref 71)), .inl (0, .ofNat 0), .inl (0, .ofNat 9), .inl (1, .ofNat 0)], [[(.ofNat 0, .ofNat 0)], [(.negSucc 2147483647, .ofNat 2147483647)], [(.ofNat 0, .ofNat 6)], [(.ofNat 0, .ofNat 160)], [(.negSucc 2147483647, .ofNat 2147483647)]], [((71, 10), .inl (2, .ofNat 0)), ((71, 12), .inl (3, .ofNat 0)), ((71, 14), .inl (4, .ofNat 0))]), [(some (.inl (5, .ofNat 0)), [[(.ofNat 0, .ofNat 0)], [(.negSucc 2147483647, .ofNat 2147483647)], [(.ofNat 0, .ofNat 0)], [(.ofNat 0, .ofNat 160)], [(.ofNat 2, .ofNat 2)], [(.ofNat 0, .ofNat 9)], [(.ofNat 0, .ofNat 160)]], [((71, 14), .inl (0, .ofNat 0)), ((71, 12), .inl (6, .ofNat 0)), ((71, 10), .inl (0, .ofNat 0))], [.inl (6, 3, .ofNat 0)]),
  (some (.inl (5, .ofNat 0)), [[(.ofNat 0, .ofNat 0)], [(.negSucc 2147483647, .ofNat 2147483647)], [(.ofNat 0, .ofNat 0)], [(.ofNat 0, .ofNat 160)], [(.ofNat 2, .ofNat 2)], [(.ofNat 0, .ofNat 9)], [(.ofNat 1, .ofNat 160)]], [((71, 14), .inl (0, .ofNat 1)), ((71, 12), .inl (6, .ofNat 0)), ((71, 10), .inl (0, .ofNat 0))], [.inl (6, 3, .ofNat 1)]),
  (some (.inl (5, .ofNat 0)), [[(.ofNat 0, .ofNat 0)], [(.negSucc 2147483647, .ofNat 2147483647)], [(.ofNat 0, .ofNat 0)], [(.ofNat 0, .ofNat 160)], [(.ofNat 2, .ofNat 2)], [(.ofNat 0, .ofNat 9)], [(.ofNat 1, .ofNat 160)]], [((71, 14), .inl (0, .ofNat 2)), ((71, 12), .inl (6, .ofNat 0)), ((71, 10), .inl (0, .ofNat 0))], [.inl (6, 3, .ofNat 1)]),
  (some (.inl (5, .ofNat 0)), [[(.ofNat 0, .ofNat 0)], [(.negSucc 2147483647, .ofNat 2147483647)], [(.ofNat 0, .ofNat 0)], [(.ofNat 0, .ofNat 160)], [(.ofNat 2, .ofNat 2)], [(.ofNat 0, .ofNat 9)], [(.ofNat 1, .ofNat 160)]], [((71, 12), .inl (6, .ofNat 0)), ((71, 14), .inl (0, .ofNat 3)), ((71, 10), .inl (0, .ofNat 0))], [.inl (6, 3, .ofNat 1)]),
  (some (.inl (5, .ofNat 0)), [[(.ofNat 0, .ofNat 0)], [(.negSucc 2147483647, .ofNat 2147483647)], [(.ofNat 0, .ofNat 0)], [(.ofNat 0, .ofNat 160)], [(.ofNat 2, .ofNat 2)], [(.ofNat 0, .ofNat 9)], [(.ofNat 2, .ofNat 160)]], [((71, 10), .inl (0, .ofNat 1)), ((71, 14), .inl (0, .ofNat 2)), ((71, 12), .inl (6, .ofNat 0))], [.inl (6, 3, .ofNat 1)]),
  (some (.inl (5, .ofNat 0)), [[(.ofNat 0, .ofNat 0)], [(.negSucc 2147483647, .ofNat 2147483647)], [(.ofNat 0, .ofNat 0)], [(.ofNat 0, .ofNat 160)], [(.ofNat 2, .ofNat 2)], [(.ofNat 0, .ofNat 9)], [(.ofNat 1, .ofNat 160)]], [((71, 10), .inl (0, .ofNat 1)), ((71, 12), .inl (6, .ofNat 0)), ((71, 14), .inl (0, .ofNat 3))], [.inl (6, 3, .ofNat 1)]),
  (some (.inl (0, .ofNat 0)), [[(.ofNat 0, .ofNat 0)], [(.negSucc 2147483647, .ofNat 2147483647)], [(.ofNat 0, .ofNat 6)], [(.ofNat 0, .ofNat 160)], [(.negSucc 2147483647, .ofNat 2147483647)], [(.negSucc 2147483647, .ofNat 2147483647)], [(.ofNat 1, .ofNat 6)]], [((71, 14), .inl (5, .ofNat 0)), ((71, 10), .inl (6, .ofNat 0)), ((71, 12), .inl (3, .ofNat 0))], [])])
/-- X8_in_c0_c31 -/
def qs123 : qSm := (114, 1, [], ([.inr (.inl (1, .ofNat 0)), .inr (.inl (0, .ofNat 0)), .inr (.inl (0, .ofNat 31))], [[(.ofNat 0, .ofNat 0)], [(.negSucc 9223372036854775807, .ofNat 9223372036854775807)]], []), [(some (.inl (0, .ofNat 0)), [[(.ofNat 0, .ofNat 0)], [(.negSucc 9223372036854775807, .negSucc 0), (.ofNat 32, .ofNat 9223372036854775807)]], [], []),
  (some (.inl (0, .ofNat 1)), [[(.ofNat 0, .ofNat 0)], [(.ofNat 0, .ofNat 31)]], [], [])])
/-- X8_other_r71_c0_c31 -/
def qs124 : qSm := (121, 3, [(71, 10, 15)], ([.inr (.inr (.ref 71)), .inl (0, .ofNat 0), .inl (0, .ofNat 31), .inl (1, .ofNat 0)], [[(.ofNat 0, .ofNat 0)], [(.negSucc 2147483647, .ofNat 2147483647)], [(.ofNat 0, .ofNat 6)], [(.ofNat 0, .ofNat 160)], [(.negSucc 2147483647, .ofNat 2147483647)]], [((71, 10), .inl (2, .ofNat 0)), ((71, 12), .inl (3, .ofNat 0)), ((71, 14), .inl (4, .ofNat 0))]), [(some (.inl (5, .ofNat 0)), [[(.ofNat 0, .ofNat 0)], [(.negSucc 2147483647, .ofNat 2147483647)], [(.ofNat 0, .ofNat 0)], [(.ofNat 0, .ofNat 160)], [(.ofNat 2, .ofNat 2)], [(.ofNat 0, .ofNat 31)], [(.ofNat 0, .ofNat 160)]], [((71, 14), .inl (0, .ofNat 0)), ((71, 12), .inl (6, .ofNat 0)), ((71, 10), .inl (0, .ofNat 0))], [.inl (6, 3, .ofNat 0)]),
  (some (.inl (5, .ofNat 0)), [[(.ofNat 0, .ofNat 0)], [(.negSucc 2147483647, .ofNat 2147483647)], [(.ofNat 0, .ofNat 0)], [(.ofNat 0, .ofNat 160)], [(.ofNat 2, .ofNat 2)], [(.ofNat 0, .ofNat 31)], [(.ofNat 1, .ofNat 160)]], [((71, 14), .inl (0, .ofNat 1)), ((71, 12), .inl (6, .ofNat 0)), ((71, 10), .inl (0, .ofNat 0))], [.inl (6, 3, .ofNat 1)]),
  (some (.inl (5, .ofNat 0)), [[(.ofNat 0, .ofNat 0)], [(.negSucc 2147483647, .ofNat 2147483647)], [(.ofNat 0, .ofNat 0)], [(.ofNat 0, .ofNat 160)], [(.ofNat 2, .ofNat 2)], [(.ofNat 0, .ofNat 31)], [(.ofNat 1, .ofNat 160)]], [((71, 14), .inl (0, .ofNat 2)), ((71, 12), .inl (6, .ofNat 0)), ((71, 10), .inl (0, .ofNat 0))], [.inl (6, 3, .ofNat 1)]),
  (some (.inl (5, .ofNat 0)), [[(.ofNat 0, .ofNat 0)], [(.negSucc 2147483647, .ofNat 2147483647)], [(.ofNat 0, .ofNat 0)], [(.ofNat 0, .ofNat 160)], [(.ofNat 2, .ofNat 2)], [(.ofNat 0, .ofNat 31)], [(.ofNat 1, .ofNat 160)]], [((71, 12), .inl (6, .ofNat 0)), ((71, 14), .inl (0, .ofNat 3)), ((71, 10), .inl (0, .ofNat 0))], [.inl (6, 3, .ofNat 1)]),
  (some (.inl (5, .ofNat 0)), [[(.ofNat 0, .ofNat 0)], [(.negSucc 2147483647, .ofNat 2147483647)], [(.ofNat 0, .ofNat 0)], [(.ofNat 0, .ofNat 160)], [(.ofNat 2, .ofNat 2)], [(.ofNat 0, .ofNat 31)], [(.ofNat 2, .ofNat 160)]], [((71, 10), .inl (0, .ofNat 1)), ((71, 14), .inl (0, .ofNat 2)), ((71, 12), .inl (6, .ofNat 0))], [.inl (6, 3, .ofNat 1)]),
  (some (.inl (5, .ofNat 0)), [[(.ofNat 0, .ofNat 0)], [(.negSucc 2147483647, .ofNat 2147483647)], [(.ofNat 0, .ofNat 0)], [(.ofNat 0, .ofNat 160)], [(.ofNat 2, .ofNat 2)], [(.ofNat 0, .ofNat 31)], [(.ofNat 1, .ofNat 160)]], [((71, 10), .inl (0, .ofNat 1)), ((71, 12), .inl (6, .ofNat 0)), ((71, 14), .inl (0, .ofNat 3))], [.inl (6, 3, .ofNat 1)]),
  (some (.inl (0, .ofNat 0)), [[(.ofNat 0, .ofNat 0)], [(.negSucc 2147483647, .ofNat 2147483647)], [(.ofNat 0, .ofNat 6)], [(.ofNat 0, .ofNat 160)], [(.negSucc 2147483647, .ofNat 2147483647)], [(.negSucc 2147483647, .ofNat 2147483647)], [(.ofNat 1, .ofNat 6)]], [((71, 14), .inl (5, .ofNat 0)), ((71, 10), .inl (6, .ofNat 0)), ((71, 12), .inl (3, .ofNat 0))], [])])
/-- X8_readPlan_r71 -/
def qs125 : qSm := (122, 4, [(71, 6, 6), (71, 10, 15), (74, 18, 26)], ([.inr (.inr (.ref 71))], [[(.ofNat 0, .ofNat 0)], [(.ofNat 0, .ofNat 6)], [(.ofNat 0, .ofNat 160)], [(.negSucc 2147483647, .ofNat 2147483647)]], [((71, 10), .inl (1, .ofNat 0)), ((71, 12), .inl (2, .ofNat 0)), ((71, 14), .inl (3, .ofNat 0))]), [(none, [[(.ofNat 0, .ofNat 0)], [(.ofNat 0, .ofNat 0)], [(.ofNat 0, .ofNat 160)], [(.ofNat 2, .ofNat 2)], [(.ofNat 0, .ofNat 160)]], [((71, 14), .inl (0, .ofNat 0)), ((71, 12), .inl (4, .ofNat 0)), ((71, 10), .inl (0, .ofNat 0))], [.inl (4, 2, .ofNat 0)]),
  (none, [[(.ofNat 0, .ofNat 0)], [(.ofNat 0, .ofNat 0)], [(.ofNat 0, .ofNat 160)], [(.ofNat 2, .ofNat 2)], [(.ofNat 1, .ofNat 160)]], [((71, 14), .inl (0, .ofNat 1)), ((71, 12), .inl (4, .ofNat 0)), ((71, 10), .inl (0, .ofNat 0))], [.inl (4, 2, .ofNat 1)]),
  (none, [[(.ofNat 0, .ofNat 0)], [(.ofNat 0, .ofNat 0)], [(.ofNat 0, .ofNat 160)], [(.ofNat 2, .ofNat 2)], [(.ofNat 1, .ofNat 160)]], [((71, 12), .inl (4, .ofNat 0)), ((71, 14), .inl (0, .ofNat 3)), ((71, 10), .inl (0, .ofNat 0))], [.inl (4, 2, .ofNat 1)]),
  (none, [[(.ofNat 0, .ofNat 0)], [(.ofNat 0, .ofNat 0)], [(.ofNat 0, .ofNat 160)], [(.negSucc 2147483647, .ofNat 1), (.ofNat 3, .ofNat 2147483647)]], [((71, 10), .inl (0, .ofNat 0)), ((71, 12), .inl (2, .ofNat 0)), ((71, 14), .inl (3, .ofNat 0))], []),
  (none, [[(.ofNat 0, .ofNat 0)], [(.ofNat 0, .ofNat 0)], [(.ofNat 0, .ofNat 160)], [(.ofNat 2, .ofNat 2)], [(.ofNat 1, .ofNat 1), (.ofNat 5, .ofNat 5)], [(.ofNat 0, .ofNat 160)]], [((71, 10), .inl (4, .ofNat 0)), ((71, 14), .inl (0, .ofNat 2)), ((71, 12), .inl (5, .ofNat 0))], [.inl (5, 2, .ofNat 0)]),
  (none, [[(.ofNat 0, .ofNat 0)], [(.ofNat 0, .ofNat 0)], [(.ofNat 0, .ofNat 160)], [(.ofNat 2, .ofNat 2)], [(.ofNat 1, .ofNat 160)]], [((71, 10), .inl (0, .ofNat 1)), ((71, 12), .inl (4, .ofNat 0)), ((71, 14), .inl (0, .ofNat 3))], [.inl (4, 2, .ofNat 1)]),
  (none, [[(.ofNat 0, .ofNat 0)], [(.ofNat 0, .ofNat 6)], [(.ofNat 0, .ofNat 160)], [(.negSucc 2147483647, .ofNat 2147483647)], [(.ofNat 1, .ofNat 6)], [(.ofNat 0, .ofNat 160)], [(.negSucc 2147483647, .ofNat 2147483647)]], [((71, 10), .inl (4, .ofNat 0)), ((71, 12), .inl (5, .ofNat 0)), ((71, 14), .inl (6, .ofNat 0))], [.inl (5, 2, .ofNat 0)])])
/-- X8_readLine_r71 -/
def qs126 : qSm := (124, 6, [(71, 4, 6), (71, 10, 15), (74, 0, 16), (74, 18, 26)], ([.inr (.inr (.ref 71))], [[(.ofNat 0, .ofNat 0)], [(.ofNat 0, .ofNat 6)], [(.ofNat 0, .ofNat 160)], [(.negSucc 2147483647, .ofNat 2147483647)]], [((71, 10), .inl (1, .ofNat 0)), ((71, 12), .inl (2, .ofNat 0)), ((71, 14), .inl (3, .ofNat 0))]), [(none, [[(.ofNat 0, .ofNat 0)], [(.ofNat 0, .ofNat 0)], [(.ofNat 0, .ofNat 160)], [(.negSucc 2147483647, .ofNat 2147483647)], [(.ofNat 0, .ofNat 160)]], [((71, 14), .inl (0, .ofNat 0)), ((71, 12), .inl (4, .ofNat 0)), ((71, 10), .inl (0, .ofNat 0))], [.inl (4, 2, .ofNat 1)]),
  (none, [[(.ofNat 0, .ofNat 0)], [(.ofNat 0, .ofNat 0)], [(.ofNat 0, .ofNat 160)], [(.negSucc 2147483647, .ofNat 2147483647)], [(.ofNat 1, .ofNat 160)]], [((71, 14), .inl (0, .ofNat 1)), ((71, 12), .inl (4, .ofNat 0)), ((71, 10), .inl (0, .ofNat 0))], [.inl (4, 2, .ofNat 1)]),
  (none, [[(.ofNat 0, .ofNat 0)], [(.ofNat 0, .ofNat 0)], [(.ofNat 0, .ofNat 160)], [(.negSucc 2147483647, .ofNat 2147483647)], [(.ofNat 1, .ofNat 160)]], [((71, 14), .inl (0, .ofNat 2)), ((71, 12), .inl (4, .ofNat 0)), ((71, 10), .inl (0, .ofNat 0))], [.inl (4, 2, .ofNat 1)]),
  (none, [[(.ofNat 0, .ofNat 0)], [(.ofNat 0, .ofNat 0)], [(.ofNat 0, .ofNat 160)], [(.negSucc 2147483647, .ofNat 2147483647)], [(.ofNat 1, .ofNat 160)]], [((71, 12), .inl (4, .ofNat 0)), ((71, 14), .inl (0, .ofNat 3)), ((71, 10), .inl (0, .ofNat 0))], [.inl (4, 2, .ofNat 1)]),
  (none, [[(.ofNat 0, .ofNat 0)], [(.ofNat 0, .ofNat 0)], [(.ofNat 0, .ofNat 160)], [(.negSucc 2147483647, .ofNat 2147483647)], [(.ofNat 2, .ofNat 160)]], [((71, 10), .inl (0, .ofNat 1)), ((71, 14), .inl (0, .ofNat 2)), ((71, 12), .inl (4, .ofNat 0))], [.inl (4, 2, .ofNat 1)]),
  (none, [[(.ofNat 0, .ofNat 0)], [(.ofNat 0, .ofNat 0)], [(.ofNat 0, .ofNat 160)], [(.negSucc 2147483647, .ofNat 2147483647)], [(.ofNat 1, .ofNat 160)]], [((71, 10), .inl (0, .ofNat 1)), ((71, 12), .inl (4, .ofNat 0)), ((71, 14), .inl (0, .ofNat 3))], [.inl (4, 2, .ofNat 1)]),
  (none, [[(.ofNat 0, .ofNat 0)], [(.ofNat 0, .ofNat 6)], [(.ofNat 0, .ofNat 160)], [(.negSucc 2147483647, .ofNat 2147483647)], [(.ofNat 1, .ofNat 6)], [(.ofNat 0, .ofNat 160)], [(.negSucc 2147483647, .ofNat 2147483647)]], [((71, 10), .inl (4, .ofNat 0)), ((71, 12), .inl (5, .ofNat 0)), ((71, 14), .inl (6, .ofNat 0))], [.inl (5, 2, .ofNat 0)])])
/-- X8_text_r71 -/
def qs127 : qSm := (125, 7, [(71, 2, 2), (71, 4, 6), (71, 8, 15), (71, 23, 23), (72, 0, 26), (74, 0, 26), (82, 0, 1)], ([.inr (.inr (.ref 71))], [[(.ofNat 0, .ofNat 0)]], []), [(some (.inl (1, .ofNat 0)), [[(.ofNat 0, .ofNat 0)], [(.negSucc 2147483647, .ofNat 2147483647)]], [], [])])
/-- X8_fault_r71 -/
def qs128 : qSm := (126, 1, [], ([.inr (.inr (.ref 71))], [[(.ofNat 0, .ofNat 0)]], []), [(some (.inl (1, .ofNat 0)), [[(.ofNat 0, .ofNat 0)], [(.negSucc 2147483647, .ofNat 2147483647)]], [], [])])
/-- X8_leastOn_r71_c0 -/
def qs129 : qSm := (130, 3, [], ([.inr (.inr (.ref 71)), .inl (0, .ofNat 0)], [[(.ofNat 0, .ofNat 0)]], []), [(some (.inl (1, .ofNat 0)), [[(.ofNat 0, .ofNat 0)], [(.negSucc 3, .negSucc 3), (.ofNat 0, .ofNat 99)]], [], [])])
/-- X8_rule_r71 -/
def qs130 : qSm := (133, 5, [], ([.inr (.inr (.ref 71)), .inl (1, .ofNat 0)], [[(.ofNat 0, .ofNat 0)], [(.negSucc 2147483647, .ofNat 2147483647)]], []), [(some (.inl (0, .negSucc 0)), [[(.ofNat 0, .ofNat 0)], [(.negSucc 2147483647, .negSucc 0), (.ofNat 7, .ofNat 2147483647)]], [], []),
  (some (.inl (2, .ofNat 0)), [[(.ofNat 0, .ofNat 0)], [(.ofNat 0, .ofNat 6)], [(.negSucc 3, .negSucc 3), (.ofNat 0, .ofNat 999)]], [], [])])
/-- X8_one_r71 -/
def qs131 : qSm := (134, 3, [], ([.inr (.inr (.ref 71)), .inl (1, .ofNat 0), .inl (2, .ofNat 0)], [[(.ofNat 0, .ofNat 0)], [(.negSucc 2147483647, .ofNat 2147483647)], [(.negSucc 2147483647, .ofNat 2147483647)]], []), [(some (.inl (0, .negSucc 0)), [[(.ofNat 0, .ofNat 0)], [(.negSucc 2147483647, .ofNat 2147483647)], [(.negSucc 2147483647, .ofNat 2147483647)]], [], []),
  (some (.inl (3, .ofNat 0)), [[(.ofNat 0, .ofNat 0)], [(.ofNat 0, .ofNat 4)], [(.ofNat 0, .ofNat 5)], [(.ofNat 0, .ofNat 99)]], [], [])])
/-- X8_act_r71 -/
def qs132 : qSm := (135, 2, [], ([.inr (.inr (.ref 71)), .inl (1, .ofNat 0)], [[(.ofNat 0, .ofNat 0)], [(.negSucc 2147483647, .ofNat 2147483647)]], []), [(some (.inl (0, .negSucc 0)), [[(.ofNat 0, .ofNat 0)], [(.negSucc 2147483647, .ofNat 2147483647)]], [], []),
  (some (.inl (2, .ofNat 0)), [[(.ofNat 0, .ofNat 0)], [(.ofNat 0, .ofNat 7)], [(.ofNat 0, .ofNat 31)]], [], [])])
/-- X8_in_c1_c2 -/
def qs133 : qSm := (114, 1, [], ([.inr (.inl (1, .ofNat 0)), .inr (.inl (0, .ofNat 1)), .inr (.inl (0, .ofNat 2))], [[(.ofNat 0, .ofNat 0)], [(.negSucc 9223372036854775807, .ofNat 9223372036854775807)]], []), [(some (.inl (0, .ofNat 0)), [[(.ofNat 0, .ofNat 0)], [(.negSucc 9223372036854775807, .ofNat 0), (.ofNat 3, .ofNat 9223372036854775807)]], [], []),
  (some (.inl (0, .ofNat 1)), [[(.ofNat 0, .ofNat 0)], [(.ofNat 1, .ofNat 2)]], [], [])])
/-- X8_in_c0_c3 -/
def qs134 : qSm := (114, 1, [], ([.inr (.inl (1, .ofNat 0)), .inr (.inl (0, .ofNat 0)), .inr (.inl (0, .ofNat 3))], [[(.ofNat 0, .ofNat 0)], [(.negSucc 9223372036854775807, .ofNat 9223372036854775807)]], []), [(some (.inl (0, .ofNat 0)), [[(.ofNat 0, .ofNat 0)], [(.negSucc 9223372036854775807, .negSucc 0), (.ofNat 4, .ofNat 9223372036854775807)]], [], []),
  (some (.inl (0, .ofNat 1)), [[(.ofNat 0, .ofNat 0)], [(.ofNat 0, .ofNat 3)]], [], [])])
/-- X8_in_c0_c1 -/
def qs135 : qSm := (114, 1, [], ([.inr (.inl (1, .ofNat 0)), .inr (.inl (0, .ofNat 0)), .inr (.inl (0, .ofNat 1))], [[(.ofNat 0, .ofNat 0)], [(.negSucc 9223372036854775807, .ofNat 9223372036854775807)]], []), [(some (.inl (0, .ofNat 0)), [[(.ofNat 0, .ofNat 0)], [(.negSucc 9223372036854775807, .negSucc 0), (.ofNat 2, .ofNat 9223372036854775807)]], [], []),
  (some (.inl (0, .ofNat 1)), [[(.ofNat 0, .ofNat 0)], [(.ofNat 0, .ofNat 1)]], [], [])])
/-- X8_in_c0_c0 -/
def qs136 : qSm := (114, 1, [], ([.inr (.inl (1, .ofNat 0)), .inr (.inl (0, .ofNat 0)), .inr (.inl (0, .ofNat 0))], [[(.ofNat 0, .ofNat 0)], [(.negSucc 9223372036854775807, .ofNat 9223372036854775807)]], []), [(some (.inl (0, .ofNat 0)), [[(.ofNat 0, .ofNat 0)], [(.negSucc 9223372036854775807, .negSucc 0), (.ofNat 1, .ofNat 9223372036854775807)]], [], []),
  (some (.inl (0, .ofNat 1)), [[(.ofNat 0, .ofNat 0)], [(.ofNat 0, .ofNat 0)]], [], [])])
/-- X8_in_c0_cm1 -/
def qs137 : qSm := (114, 1, [], ([.inr (.inl (1, .ofNat 0)), .inr (.inl (0, .ofNat 0)), .inr (.inl (0, .negSucc 0))], [[(.ofNat 0, .ofNat 0)], [(.negSucc 9223372036854775807, .ofNat 9223372036854775807)]], []), [(some (.inl (0, .ofNat 0)), [[(.ofNat 0, .ofNat 0)], [(.negSucc 9223372036854775807, .ofNat 9223372036854775807)]], [], [])])
/-- X8_alter_r71 -/
def qs138 : qSm := (137, 3, [(72, 0, 15)], ([.inr (.inr (.ref 71)), .inl (1, .ofNat 0), .inl (2, .ofNat 0), .inl (3, .ofNat 0)], [[(.ofNat 0, .ofNat 0)], [(.negSucc 2147483647, .ofNat 2147483647)], [(.negSucc 2147483647, .ofNat 2147483647)], [(.negSucc 2147483647, .ofNat 2147483647)]], []), [(some (.inl (0, .negSucc 0)), [[(.ofNat 0, .ofNat 0)], [(.negSucc 2147483647, .ofNat 2147483647)], [(.negSucc 2147483647, .ofNat 2147483647)], [(.negSucc 2147483647, .ofNat 2147483647)]], [], []),
  (some (.inl (4, .ofNat 0)), [[(.ofNat 0, .ofNat 0)], [(.ofNat 0, .ofNat 4)], [(.ofNat 0, .ofNat 3)], [(.ofNat 0, .ofNat 99)], [(.ofNat 0, .ofNat 99)]], [], [])])
/-- X8_slack_r71 -/
def qs139 : qSm := (138, 2, [(72, 16, 16)], ([.inr (.inr (.ref 71)), .inl (1, .ofNat 0)], [[(.ofNat 0, .ofNat 0)], [(.negSucc 2147483647, .ofNat 2147483647)]], []), [(some (.inl (0, .negSucc 0)), [[(.ofNat 0, .ofNat 0)], [(.negSucc 2147483647, .negSucc 0), (.ofNat 10, .ofNat 2147483647)]], [], []),
  (some (.inl (2, .ofNat 0)), [[(.ofNat 0, .ofNat 0)], [(.ofNat 0, .ofNat 9)], [(.ofNat 0, .ofNat 9)]], [], [])])
/-- X8_plan_r71 -/
def qs140 : qSm := (140, 2, [(72, 18, 26)], ([.inr (.inr (.ref 71)), .inl (1, .ofNat 0)], [[(.ofNat 0, .ofNat 0)], [(.negSucc 2147483647, .ofNat 2147483647)]], []), [(some (.inl (0, .negSucc 0)), [[(.ofNat 0, .ofNat 0)], [(.negSucc 2147483647, .negSucc 0), (.ofNat 1, .ofNat 2147483647)]], [], []),
  (some (.inl (0, .negSucc 2)), [[(.ofNat 0, .ofNat 0)], [(.ofNat 0, .ofNat 31)]], [], []),
  (some (.inl (2, .ofNat 0)), [[(.ofNat 0, .ofNat 0)], [(.ofNat 0, .ofNat 31)], [(.ofNat 1, .ofNat 8)]], [], [])])
/-- X8_cut_r71 -/
def qs141 : qSm := (141, 2, [(72, 26, 26)], ([.inr (.inr (.ref 71)), .inl (1, .ofNat 0)], [[(.ofNat 0, .ofNat 0)], [(.negSucc 2147483647, .ofNat 2147483647)]], []), [(some (.inl (0, .negSucc 0)), [[(.ofNat 0, .ofNat 0)], [(.negSucc 2147483647, .negSucc 0), (.ofNat 1, .ofNat 2147483647)]], [], []),
  (some (.inl (0, .ofNat 0)), [[(.ofNat 0, .ofNat 0)], [(.ofNat 0, .ofNat 0)]], [], []),
  (some (.inl (2, .ofNat 0)), [[(.ofNat 0, .ofNat 0)], [(.ofNat 0, .ofNat 8)], [(.ofNat 1, .ofNat 8)]], [], [])])
/-- X8_triesOn_r71_c0 -/
def qs142 : qSm := (142, 5, [(72, 5, 14), (72, 17, 17)], ([.inr (.inr (.ref 71)), .inl (0, .ofNat 0), .inl (1, .ofNat 0)], [[(.ofNat 0, .ofNat 0)], [(.negSucc 2147483647, .ofNat 2147483647)]], []), [(some (.inl (0, .negSucc 3)), [[(.ofNat 0, .ofNat 0)], [(.negSucc 2147483647, .ofNat 2147483647)]], [], []),
  (some (.inl (2, .ofNat 0)), [[(.ofNat 0, .ofNat 0)], [(.negSucc 2147483647, .ofNat 2147483647)], [(.ofNat 0, .ofNat 4)]], [], [])])
/-- X8_turns_r71 -/
def qs143 : qSm := (144, 6, [(72, 5, 14), (72, 17, 17)], ([.inr (.inr (.ref 71)), .inl (1, .ofNat 0)], [[(.ofNat 0, .ofNat 0)], [(.negSucc 2147483647, .ofNat 2147483647)]], []), [(some (.inl (2, .ofNat 0)), [[(.ofNat 0, .ofNat 0)], [(.ofNat 1, .ofNat 31)], [(.negSucc 3, .negSucc 3), (.ofNat 0, .ofNat 4)]], [], []),
  (some (.inl (0, .negSucc 0)), [[(.ofNat 0, .ofNat 0)], [(.negSucc 2147483647, .ofNat 2147483647)]], [], [])])
/-- X8_turn_r71 -/
def qs144 : qSm := (145, 7, [(72, 5, 14), (72, 17, 17)], ([.inr (.inr (.ref 71)), .inl (1, .ofNat 0)], [[(.ofNat 0, .ofNat 0)], [(.negSucc 2147483647, .ofNat 2147483647)]], []), [(some (.inl (0, .negSucc 0)), [[(.ofNat 0, .ofNat 0)], [(.negSucc 2147483647, .ofNat 2147483647)]], [], []),
  (some (.inl (2, .ofNat 0)), [[(.ofNat 0, .ofNat 0)], [(.ofNat 1, .ofNat 31)], [(.negSucc 3, .negSucc 3), (.ofNat 0, .ofNat 4)]], [], [])])
/-- X8_restsOn_r71_c0 -/
def qs145 : qSm := (143, 1, [(72, 5, 14)], ([.inr (.inr (.ref 71)), .inl (0, .ofNat 0)], [[(.ofNat 0, .ofNat 0)]], []), [(none, [[(.ofNat 0, .ofNat 0)]], [], [])])
/-- X8_rest_r71 -/
def qs146 : qSm := (146, 4, [(72, 5, 14)], ([.inr (.inr (.ref 71)), .inl (1, .ofNat 0)], [[(.ofNat 0, .ofNat 0)], [(.negSucc 2147483647, .ofNat 2147483647)]], []), [(some (.inl (0, .negSucc 0)), [[(.ofNat 0, .ofNat 0)], [(.negSucc 2147483647, .negSucc 0), (.ofNat 100, .ofNat 2147483647)]], [], []),
  (some (.inl (2, .ofNat 0)), [[(.ofNat 0, .ofNat 0)], [(.ofNat 0, .ofNat 99)], [(.negSucc 3, .negSucc 3), (.ofNat 0, .ofNat 99)]], [], [])])
/-- X8_copies_r71_c0_c108 -/
def qs147 : qSm := (147, 1, [(72, 108, 134)], ([.inr (.inr (.ref 71)), .inl (0, .ofNat 0), .inl (0, .ofNat 108)], [[(.ofNat 0, .ofNat 0)]], []), [(none, [[(.ofNat 0, .ofNat 0)]], [], [])])
/-- X8_leastOn_r71_c108 -/
def qs148 : qSm := (130, 3, [], ([.inr (.inr (.ref 71)), .inl (0, .ofNat 108)], [[(.ofNat 0, .ofNat 0)]], []), [(some (.inl (1, .ofNat 0)), [[(.ofNat 0, .ofNat 0)], [(.negSucc 3, .negSucc 3), (.ofNat 0, .ofNat 99)]], [], [])])
/-- X8_triesOn_r71_c108 -/
def qs149 : qSm := (142, 5, [(72, 113, 122), (72, 125, 125)], ([.inr (.inr (.ref 71)), .inl (0, .ofNat 108), .inl (1, .ofNat 0)], [[(.ofNat 0, .ofNat 0)], [(.negSucc 2147483647, .ofNat 2147483647)]], []), [(some (.inl (0, .negSucc 3)), [[(.ofNat 0, .ofNat 0)], [(.negSucc 2147483647, .ofNat 2147483647)]], [], []),
  (some (.inl (2, .ofNat 0)), [[(.ofNat 0, .ofNat 0)], [(.negSucc 2147483647, .ofNat 2147483647)], [(.ofNat 0, .ofNat 4)]], [], [])])
/-- X8_restsOn_r71_c108 -/
def qs150 : qSm := (143, 1, [(72, 113, 122)], ([.inr (.inr (.ref 71)), .inl (0, .ofNat 108)], [[(.ofNat 0, .ofNat 0)]], []), [(none, [[(.ofNat 0, .ofNat 0)]], [], [])])
/-- X8_planGoes_r71 -/
def qs151 : qSm := (148, 6, [(71, 18, 20), (72, 113, 122), (72, 125, 125), (78, 0, 7)], ([.inr (.inr (.ref 71)), .inl (1, .ofNat 0)], [[(.ofNat 0, .ofNat 0)], [(.negSucc 2147483647, .ofNat 2147483647)]], []), [(none, [[(.ofNat 0, .ofNat 0)], [(.negSucc 2147483647, .ofNat 2147483647)]], [], [])])
/-- X8_mostOn_r71_c108 -/
def qs152 : qSm := (131, 3, [], ([.inr (.inr (.ref 71)), .inl (0, .ofNat 108)], [[(.ofNat 0, .ofNat 0)]], []), [(some (.inl (1, .ofNat 0)), [[(.ofNat 0, .ofNat 0)], [(.negSucc 3, .negSucc 3), (.ofNat 0, .ofNat 99)]], [], [])])
/-- X8_runs_r71 -/
def qs153 : qSm := (150, 8, [(71, 18, 20), (72, 108, 134), (78, 0, 7)], ([.inr (.inr (.ref 71)), .inl (1, .ofNat 0)], [[(.ofNat 0, .ofNat 0)], [(.negSucc 2147483647, .ofNat 2147483647)]], []), [(some (.inl (0, .negSucc 0)), [[(.ofNat 0, .ofNat 0)], [(.negSucc 2147483647, .negSucc 0), (.ofNat 4, .ofNat 2147483647)]], [], []),
  (some (.inl (2, .ofNat 0)), [[(.ofNat 0, .ofNat 0)], [(.ofNat 0, .ofNat 3)], [(.negSucc 2147483647, .ofNat 2147483647)]], [], [])])
/-- X8_ahead_r71 -/
def qs154 : qSm := (151, 8, [(71, 18, 20), (72, 108, 134), (78, 0, 7)], ([.inr (.inr (.ref 71)), .inl (1, .ofNat 0)], [[(.ofNat 0, .ofNat 0)], [(.negSucc 2147483647, .ofNat 2147483647)]], []), [(some (.inl (0, .negSucc 0)), [[(.ofNat 0, .ofNat 0)], [(.negSucc 2147483647, .ofNat 2147483647)]], [], []),
  (some (.inl (2, .ofNat 0)), [[(.ofNat 0, .ofNat 0)], [(.ofNat 0, .ofNat 4)], [(.ofNat 0, .ofNat 99)]], [], [])])
/-- X8_round_r71 -/
def qs155 : qSm := (152, 7, [(71, 18, 20), (72, 108, 134), (78, 0, 7)], ([.inr (.inr (.ref 71))], [[(.ofNat 0, .ofNat 0)]], []), [(some (.inl (0, .negSucc 3)), [[(.ofNat 0, .ofNat 0)]], [], []),
  (some (.inl (1, .ofNat 0)), [[(.ofNat 0, .ofNat 0)], [(.ofNat 1, .ofNat 60)]], [], [])])
/-- X8_bitsOf -/
def qs156 : qSm := (153, 1, [], ([.inl (1, .ofNat 0)], [[(.ofNat 0, .ofNat 0)], [(.negSucc 2147483647, .ofNat 2147483647)]], []), [(some (.inl (2, .ofNat 0)), [[(.ofNat 0, .ofNat 0)], [(.negSucc 2147483647, .ofNat 2147483647)], [(.ofNat 0, .ofNat 5)]], [], [])])
/-- X8_in_c10_c14 -/
def qs157 : qSm := (114, 1, [], ([.inr (.inl (1, .ofNat 0)), .inr (.inl (0, .ofNat 10)), .inr (.inl (0, .ofNat 14))], [[(.ofNat 0, .ofNat 0)], [(.negSucc 9223372036854775807, .ofNat 9223372036854775807)]], []), [(some (.inl (0, .ofNat 0)), [[(.ofNat 0, .ofNat 0)], [(.negSucc 9223372036854775807, .ofNat 9), (.ofNat 15, .ofNat 9223372036854775807)]], [], []),
  (some (.inl (0, .ofNat 1)), [[(.ofNat 0, .ofNat 0)], [(.ofNat 10, .ofNat 14)]], [], [])])
/-- X8_powerOf -/
def qs158 : qSm := (154, 1, [], ([.inl (1, .ofNat 0)], [[(.ofNat 0, .ofNat 0)], [(.negSucc 2147483647, .ofNat 5)]], []), [(some (.inl (2, .ofNat 0)), [[(.ofNat 0, .ofNat 0)], [(.negSucc 2147483647, .ofNat 5)], [(.ofNat 1, .ofNat 1), (.ofNat 5, .ofNat 5), (.ofNat 25, .ofNat 25), (.ofNat 125, .ofNat 125), (.ofNat 625, .ofNat 625), (.ofNat 3125, .ofNat 3125)]], [], [])])
/-- X8_order_r71 -/
def qs159 : qSm := (156, 6, [(72, 108, 134)], ([.inr (.inr (.ref 71)), .inl (1, .ofNat 0), .inl (2, .ofNat 0)], [[(.ofNat 0, .ofNat 0)], [(.negSucc 2147483647, .ofNat 2147483647)], [(.negSucc 2147483647, .ofNat 2147483647)]], []), [(some (.inl (0, .negSucc 0)), [[(.ofNat 0, .ofNat 0)], [(.negSucc 2147483647, .ofNat 2147483647)], [(.negSucc 2147483647, .ofNat 2147483647)]], [], []),
  (some (.inl (0, .negSucc 3)), [[(.ofNat 0, .ofNat 0)], [(.ofNat 1, .ofNat 31)], [(.ofNat 10, .ofNat 14)]], [], []),
  (some (.inl (3, .ofNat 0)), [[(.ofNat 0, .ofNat 0)], [(.ofNat 1, .ofNat 31)], [(.ofNat 0, .ofNat 0), (.ofNat 10, .ofNat 14)], [(.negSucc 0, .ofNat 2147483647)]], [], [])])
/-- X8_in_c10_c13 -/
def qs160 : qSm := (114, 1, [], ([.inr (.inl (1, .ofNat 0)), .inr (.inl (0, .ofNat 10)), .inr (.inl (0, .ofNat 13))], [[(.ofNat 0, .ofNat 0)], [(.negSucc 9223372036854775807, .ofNat 9223372036854775807)]], []), [(some (.inl (0, .ofNat 0)), [[(.ofNat 0, .ofNat 0)], [(.negSucc 9223372036854775807, .ofNat 9), (.ofNat 14, .ofNat 9223372036854775807)]], [], []),
  (some (.inl (0, .ofNat 1)), [[(.ofNat 0, .ofNat 0)], [(.ofNat 10, .ofNat 13)]], [], [])])
/-- X8_isBehind_r71 -/
def qs161 : qSm := (157, 6, [(72, 108, 134)], ([.inr (.inr (.ref 71)), .inl (1, .ofNat 0), .inl (2, .ofNat 0), .inl (3, .ofNat 0)], [[(.ofNat 0, .ofNat 0)], [(.ofNat 0, .ofNat 4)], [(.ofNat 0, .ofNat 3124)], [(.ofNat 0, .ofNat 5)]], []), [(some (.inl (0, .ofNat 0)), [[(.ofNat 0, .ofNat 0)], [(.ofNat 0, .ofNat 4)], [(.ofNat 0, .ofNat 3124)], [(.ofNat 0, .ofNat 5)]], [], []),
  (some (.inl (0, .ofNat 1)), [[(.ofNat 0, .ofNat 0)], [(.ofNat 0, .ofNat 4)], [(.ofNat 0, .ofNat 3124)], [(.ofNat 0, .ofNat 5)]], [], [])])
/-- X8_await_r71 -/
def qs162 : qSm := (158, 7, [(72, 108, 134)], ([.inr (.inr (.ref 71)), .inl (1, .ofNat 0), .inl (2, .ofNat 0)], [[(.ofNat 0, .ofNat 0)], [(.negSucc 2147483647, .ofNat 2147483647)], [(.negSucc 2147483647, .ofNat 2147483647)]], []), [(some (.inl (0, .negSucc 0)), [[(.ofNat 0, .ofNat 0)], [(.negSucc 2147483647, .ofNat 2147483647)], [(.negSucc 2147483647, .ofNat 2147483647)]], [], []),
  (some (.inl (0, .negSucc 3)), [[(.ofNat 0, .ofNat 0)], [(.ofNat 0, .ofNat 4)], [(.ofNat 0, .ofNat 0), (.ofNat 10, .ofNat 13)]], [], []),
  (some (.inl (3, .ofNat 0)), [[(.ofNat 0, .ofNat 0)], [(.ofNat 0, .ofNat 4)], [(.ofNat 0, .ofNat 0), (.ofNat 10, .ofNat 13)], [(.ofNat 0, .ofNat 4)]], [], [])])
/-- X8_hands_r71 -/
def qs163 : qSm := (159, 7, [(71, 18, 20), (72, 108, 134), (78, 0, 7)], ([.inr (.inr (.ref 71)), .inl (1, .ofNat 0)], [[(.ofNat 0, .ofNat 0)], [(.negSucc 2147483647, .ofNat 2147483647)]], []), [(some (.inl (0, .negSucc 0)), [[(.ofNat 0, .ofNat 0)], [(.negSucc 2147483647, .negSucc 0), (.ofNat 2, .ofNat 2147483647)]], [], []),
  (some (.inl (2, .ofNat 0)), [[(.ofNat 0, .ofNat 0)], [(.ofNat 0, .ofNat 1)], [(.negSucc 0, .ofNat 2147483647)]], [], [])])
/-- X8_clean_r71 -/
def qs164 : qSm := (160, 8, [(71, 18, 20), (72, 108, 134), (78, 0, 7)], ([.inr (.inr (.ref 71)), .inl (1, .ofNat 0)], [[(.ofNat 0, .ofNat 0)], [(.negSucc 2147483647, .ofNat 2147483647)]], []), [(some (.inl (0, .negSucc 0)), [[(.ofNat 0, .ofNat 0)], [(.negSucc 2147483647, .negSucc 0), (.ofNat 2, .ofNat 2147483647)]], [], []),
  (some (.inl (0, .negSucc 3)), [[(.ofNat 0, .ofNat 0)], [(.ofNat 0, .ofNat 1)]], [], []),
  (some (.inl (2, .ofNat 0)), [[(.ofNat 0, .ofNat 0)], [(.ofNat 0, .ofNat 1)], [(.negSucc 2147483647, .ofNat 2147483647)]], [], [])])
/-- X8_trade_r71 -/
def qs165 : qSm := (161, 8, [(71, 18, 20), (72, 108, 134), (78, 0, 7)], ([.inr (.inr (.ref 71)), .inl (1, .ofNat 0)], [[(.ofNat 0, .ofNat 0)], [(.negSucc 2147483647, .ofNat 2147483647)]], []), [(some (.inl (0, .negSucc 0)), [[(.ofNat 0, .ofNat 0)], [(.negSucc 2147483647, .negSucc 0), (.ofNat 2, .ofNat 2147483647)]], [], []),
  (some (.inl (0, .negSucc 3)), [[(.ofNat 0, .ofNat 0)], [(.ofNat 0, .ofNat 1)]], [], []),
  (some (.inl (2, .ofNat 0)), [[(.ofNat 0, .ofNat 0)], [(.ofNat 0, .ofNat 1)], [(.negSucc 2147483647, .ofNat 2147483647)]], [], [])])
/-- X8_loose_r71 -/
def qs166 : qSm := (162, 7, [(71, 18, 20), (72, 108, 134), (78, 0, 7)], ([.inr (.inr (.ref 71))], [[(.ofNat 0, .ofNat 0)]], []), [(some (.inl (0, .negSucc 3)), [[(.ofNat 0, .ofNat 0)]], [], []),
  (some (.inl (1, .ofNat 0)), [[(.ofNat 0, .ofNat 0)], [(.ofNat 0, .ofNat 9)]], [], [])])
/-- X8_in_c0_c10 -/
def qs167 : qSm := (114, 1, [], ([.inr (.inl (1, .ofNat 0)), .inr (.inl (0, .ofNat 0)), .inr (.inl (0, .ofNat 10))], [[(.ofNat 0, .ofNat 0)], [(.negSucc 9223372036854775807, .ofNat 9223372036854775807)]], []), [(some (.inl (0, .ofNat 0)), [[(.ofNat 0, .ofNat 0)], [(.negSucc 9223372036854775807, .negSucc 0), (.ofNat 11, .ofNat 9223372036854775807)]], [], []),
  (some (.inl (0, .ofNat 1)), [[(.ofNat 0, .ofNat 0)], [(.ofNat 0, .ofNat 10)]], [], [])])
/-- X8_lowest -/
def qs168 : qSm := (163, 1, [], ([.inr (.inl (1, .ofNat 0)), .inr (.inl (2, .ofNat 0)), .inl (3, .ofNat 0)], [[(.ofNat 0, .ofNat 0)], [(.negSucc 9223372036854775807, .ofNat 9223372036854775807)], [(.ofNat 1, .ofNat 100000)], [(.negSucc 2147483647, .ofNat 2147483647)]], []), [(some (.inr (.inl (4, .ofNat 0))), [[(.ofNat 0, .ofNat 0)], [(.negSucc 9223372036854775807, .ofNat 9223372036854775807)], [(.ofNat 1, .ofNat 100000)], [(.negSucc 2147483647, .ofNat 2147483647)], [(.negSucc 9223372036854775807, .ofNat 9223372036854775807)]], [], [])])
/-- X8_byAway_r71 -/
def qs169 : qSm := (164, 7, [(71, 18, 20), (72, 108, 134), (78, 0, 7)], ([.inr (.inr (.ref 71)), .inl (1, .ofNat 0), .inl (2, .ofNat 0), .inl (3, .ofNat 0)], [[(.ofNat 0, .ofNat 0)], [(.negSucc 2147483647, .ofNat 2147483647)], [(.negSucc 2147483647, .ofNat 2147483647)], [(.negSucc 2147483647, .ofNat 2147483647)]], []), [(some (.inr (.inl (4, .ofNat 0))), [[(.ofNat 0, .ofNat 0)], [(.negSucc 2147483647, .ofNat 2147483647)], [(.negSucc 2147483647, .ofNat 2147483647)], [(.negSucc 2147483647, .ofNat 2147483647)], [(.negSucc 9223372036854775807, .ofNat 9223372036854775807)]], [], [])])
/-- X8_mean_r71 -/
def qs170 : qSm := (165, 8, [(71, 18, 20), (72, 108, 134), (78, 0, 7)], ([.inr (.inr (.ref 71)), .inl (1, .ofNat 0), .inl (2, .ofNat 0)], [[(.ofNat 0, .ofNat 0)], [(.negSucc 2147483647, .ofNat 2147483647)], [(.negSucc 2147483647, .ofNat 2147483647)]], []), [(some (.inr (.inl (0, .negSucc 0))), [[(.ofNat 0, .ofNat 0)], [(.negSucc 2147483647, .ofNat 2147483647)], [(.negSucc 2147483647, .ofNat 2147483647)]], [], []),
  (some (.inr (.inl (3, .ofNat 0))), [[(.ofNat 0, .ofNat 0)], [(.ofNat 0, .ofNat 10)], [(.ofNat 0, .ofNat 1)], [(.negSucc 9223372036854775807, .ofNat 9223372036854775807)]], [], [])])
/-- X8_luck_r71 -/
def qs171 : qSm := (166, 8, [(71, 18, 20), (72, 108, 134), (78, 0, 7)], ([.inr (.inr (.ref 71)), .inl (1, .ofNat 0), .inl (2, .ofNat 0), .inl (3, .ofNat 0)], [[(.ofNat 0, .ofNat 0)], [(.negSucc 2147483647, .ofNat 2147483647)], [(.negSucc 2147483647, .ofNat 2147483647)], [(.negSucc 2147483647, .ofNat 2147483647)]], []), [(some (.inr (.inl (0, .negSucc 0))), [[(.ofNat 0, .ofNat 0)], [(.negSucc 2147483647, .ofNat 2147483647)], [(.negSucc 2147483647, .ofNat 2147483647)], [(.negSucc 2147483647, .ofNat 2147483647)]], [], []),
  (some (.inr (.inl (4, .ofNat 0))), [[(.ofNat 0, .ofNat 0)], [(.ofNat 0, .ofNat 10)], [(.ofNat 0, .ofNat 4)], [(.ofNat 0, .ofNat 1)], [(.negSucc 9223372036854775807, .ofNat 9223372036854775807)]], [], [])])
/-- X8_in_c0_c7 -/
def qs172 : qSm := (114, 1, [], ([.inr (.inl (1, .ofNat 0)), .inr (.inl (0, .ofNat 0)), .inr (.inl (0, .ofNat 7))], [[(.ofNat 0, .ofNat 0)], [(.negSucc 9223372036854775807, .ofNat 9223372036854775807)]], []), [(some (.inl (0, .ofNat 0)), [[(.ofNat 0, .ofNat 0)], [(.negSucc 9223372036854775807, .negSucc 0), (.ofNat 8, .ofNat 9223372036854775807)]], [], []),
  (some (.inl (0, .ofNat 1)), [[(.ofNat 0, .ofNat 0)], [(.ofNat 0, .ofNat 7)]], [], [])])
/-- X8_see_r71 -/
def qs173 : qSm := (167, 3, [(71, 23, 23), (79, 0, 11)], ([.inr (.inr (.ref 71)), .inl (1, .ofNat 0), .inl (2, .ofNat 0)], [[(.ofNat 0, .ofNat 0)], [(.negSucc 2147483647, .ofNat 2147483647)], [(.negSucc 2147483647, .ofNat 2147483647)]], []), [(some (.inl (0, .negSucc 0)), [[(.ofNat 0, .ofNat 0)], [(.negSucc 2147483647, .ofNat 2147483647)], [(.negSucc 2147483647, .ofNat 2147483647)]], [], []),
  (some (.inl (0, .negSucc 2)), [[(.ofNat 0, .ofNat 0)], [(.ofNat 0, .ofNat 7)], [(.negSucc 3, .negSucc 3), (.ofNat 0, .ofNat 4)]], [], []),
  (some (.inl (0, .ofNat 1)), [[(.ofNat 0, .ofNat 0)], [(.ofNat 0, .ofNat 7)], [(.negSucc 3, .negSucc 3), (.ofNat 0, .ofNat 4)]], [], []),
  (some (.inl (0, .ofNat 2)), [[(.ofNat 0, .ofNat 0)], [(.ofNat 0, .ofNat 7)], [(.negSucc 3, .negSucc 3), (.ofNat 0, .ofNat 4)]], [], []),
  (some (.inl (0, .ofNat 3)), [[(.ofNat 0, .ofNat 0)], [(.ofNat 0, .ofNat 7)], [(.negSucc 3, .negSucc 3), (.ofNat 0, .ofNat 4)]], [], []),
  (some (.inl (0, .ofNat 4)), [[(.ofNat 0, .ofNat 0)], [(.ofNat 0, .ofNat 7)], [(.negSucc 3, .negSucc 3), (.ofNat 0, .ofNat 4)]], [], []),
  (some (.inl (0, .ofNat 5)), [[(.ofNat 0, .ofNat 0)], [(.ofNat 0, .ofNat 7)], [(.negSucc 3, .negSucc 3), (.ofNat 0, .ofNat 4)]], [], []),
  (some (.inl (0, .ofNat 6)), [[(.ofNat 0, .ofNat 0)], [(.ofNat 0, .ofNat 7)], [(.negSucc 3, .negSucc 3), (.ofNat 0, .ofNat 4)]], [], [])])
/-- X8_forget_r71 -/
def qs174 : qSm := (168, 2, [(71, 23, 23)], ([.inr (.inr (.ref 71)), .inl (1, .ofNat 0)], [[(.ofNat 0, .ofNat 0)], [(.negSucc 2147483647, .ofNat 2147483647)]], []), [(some (.inl (0, .negSucc 0)), [[(.ofNat 0, .ofNat 0)], [(.negSucc 2147483647, .negSucc 0), (.ofNat 1, .ofNat 2147483647)]], [], []),
  (some (.inl (0, .ofNat 0)), [[(.ofNat 0, .ofNat 0)], [(.ofNat 0, .ofNat 0)]], [], []),
  (some (.inl (2, .ofNat 0)), [[(.ofNat 0, .ofNat 0)], [(.ofNat 0, .ofNat 6)], [(.ofNat 1, .ofNat 6)]], [], [])])
/-- X8_in_c0_c2 -/
def qs175 : qSm := (114, 1, [], ([.inr (.inl (1, .ofNat 0)), .inr (.inl (0, .ofNat 0)), .inr (.inl (0, .ofNat 2))], [[(.ofNat 0, .ofNat 0)], [(.negSucc 9223372036854775807, .ofNat 9223372036854775807)]], []), [(some (.inl (0, .ofNat 0)), [[(.ofNat 0, .ofNat 0)], [(.negSucc 9223372036854775807, .negSucc 0), (.ofNat 3, .ofNat 9223372036854775807)]], [], []),
  (some (.inl (0, .ofNat 1)), [[(.ofNat 0, .ofNat 0)], [(.ofNat 0, .ofNat 2)]], [], [])])
/-- X8_isAsSeen_r71 -/
def qs176 : qSm := (169, 1, [], ([.inr (.inr (.ref 71))], [[(.ofNat 0, .ofNat 0)]], []), [(some (.inl (1, .ofNat 0)), [[(.ofNat 0, .ofNat 0)], [(.ofNat 0, .ofNat 1)]], [], [])])
/-- X8_fitsOf_r71 -/
def qs177 : qSm := (170, 7, [(71, 18, 20), (72, 108, 134), (78, 0, 7), (80, 0, 167), (81, 0, 20)], ([.inr (.inr (.ref 71)), .inl (1, .ofNat 0)], [[(.ofNat 0, .ofNat 0)], [(.ofNat 0, .ofNat 4)]], []), [(some (.inl (2, .ofNat 0)), [[(.ofNat 0, .ofNat 0)], [(.ofNat 0, .ofNat 4)], [(.negSucc 2147483647, .ofNat 2147483647)]], [], [])])
/-- X8_counts_r71 -/
def qs178 : qSm := (171, 8, [(71, 18, 20), (72, 108, 134), (78, 0, 7), (80, 0, 167), (81, 0, 20)], ([.inr (.inr (.ref 71)), .inl (1, .ofNat 0), .inl (2, .ofNat 0)], [[(.ofNat 0, .ofNat 0)], [(.negSucc 2147483647, .ofNat 2147483647)], [(.negSucc 2147483647, .ofNat 2147483647)]], []), [(some (.inl (0, .negSucc 0)), [[(.ofNat 0, .ofNat 0)], [(.negSucc 2147483647, .ofNat 2147483647)], [(.negSucc 2147483647, .ofNat 2147483647)]], [], []),
  (some (.inl (3, .ofNat 0)), [[(.ofNat 0, .ofNat 0)], [(.ofNat 0, .ofNat 4)], [(.ofNat 0, .ofNat 2)], [(.negSucc 2147483647, .ofNat 2147483647)]], [], [])])
/-- X8_slacks_r71 -/
def qs179 : qSm := (172, 7, [(71, 18, 20), (72, 108, 134), (78, 0, 7)], ([.inr (.inr (.ref 71))], [[(.ofNat 0, .ofNat 0)]], []), [(some (.inl (1, .ofNat 0)), [[(.ofNat 0, .ofNat 0)], [(.ofNat 0, .ofNat 32767)]], [], [])])
/-- X8_look_r71 -/
def qs180 : qSm := (173, 8, [(71, 18, 20), (72, 108, 134), (78, 0, 7), (80, 0, 167), (81, 0, 20)], ([.inr (.inr (.ref 71)), .inl (1, .ofNat 0), .inl (2, .ofNat 0)], [[(.ofNat 0, .ofNat 0)], [(.negSucc 2147483647, .ofNat 2147483647)], [(.negSucc 2147483647, .ofNat 2147483647)]], []), [(some (.inl (0, .negSucc 0)), [[(.ofNat 0, .ofNat 0)], [(.negSucc 2147483647, .ofNat 2147483647)], [(.negSucc 2147483647, .ofNat 2147483647)]], [], []),
  (some (.inl (0, .negSucc 3)), [[(.ofNat 0, .ofNat 0)], [(.ofNat 0, .ofNat 4)], [(.ofNat 0, .ofNat 1)]], [], []),
  (some (.inl (3, .ofNat 0)), [[(.ofNat 0, .ofNat 0)], [(.ofNat 0, .ofNat 4)], [(.ofNat 0, .ofNat 1)], [(.negSucc 2147483647, .ofNat 2147483647)]], [], [])])
/-- X8_in_c1_c60 -/
def qs181 : qSm := (114, 1, [], ([.inr (.inl (1, .ofNat 0)), .inr (.inl (0, .ofNat 1)), .inr (.inl (0, .ofNat 60))], [[(.ofNat 0, .ofNat 0)], [(.negSucc 9223372036854775807, .ofNat 9223372036854775807)]], []), [(some (.inl (0, .ofNat 0)), [[(.ofNat 0, .ofNat 0)], [(.negSucc 9223372036854775807, .ofNat 0), (.ofNat 61, .ofNat 9223372036854775807)]], [], []),
  (some (.inl (0, .ofNat 1)), [[(.ofNat 0, .ofNat 0)], [(.ofNat 1, .ofNat 60)]], [], [])])
/-- X8_drift_r71 -/
def qs182 : qSm := (174, 6, [(72, 108, 134)], ([.inr (.inr (.ref 71)), .inl (1, .ofNat 0), .inl (2, .ofNat 0), .inl (3, .ofNat 0)], [[(.ofNat 0, .ofNat 0)], [(.negSucc 2147483647, .ofNat 2147483647)], [(.negSucc 2147483647, .ofNat 2147483647)], [(.negSucc 2147483647, .ofNat 2147483647)]], []), [(some (.inl (0, .negSucc 0)), [[(.ofNat 0, .ofNat 0)], [(.negSucc 2147483647, .ofNat 2147483647)], [(.negSucc 2147483647, .ofNat 2147483647)], [(.negSucc 2147483647, .ofNat 2147483647)]], [], []),
  (some (.inl (0, .negSucc 1)), [[(.ofNat 0, .ofNat 0)], [(.negSucc 2147483647, .ofNat 2147483647)], [(.ofNat 1, .ofNat 60)], [(.ofNat 0, .ofNat 1)]], [], []),
  (some (.inl (4, .ofNat 0)), [[(.ofNat 0, .ofNat 0)], [(.negSucc 2147483647, .ofNat 2147483647)], [(.ofNat 1, .ofNat 60)], [(.ofNat 0, .ofNat 1)], [(.negSucc 2147483647, .ofNat 2147483647)]], [], [])])
/-- X8_copies_r71_c0_c27 -/
def qs183 : qSm := (147, 1, [(72, 27, 53)], ([.inr (.inr (.ref 71)), .inl (0, .ofNat 0), .inl (0, .ofNat 27)], [[(.ofNat 0, .ofNat 0)]], []), [(none, [[(.ofNat 0, .ofNat 0)]], [], [])])
/-- X8_copies_r71_c0_c54 -/
def qs184 : qSm := (147, 1, [(72, 54, 80)], ([.inr (.inr (.ref 71)), .inl (0, .ofNat 0), .inl (0, .ofNat 54)], [[(.ofNat 0, .ofNat 0)]], []), [(none, [[(.ofNat 0, .ofNat 0)]], [], [])])
/-- X8_keep_r71 -/
def qs185 : qSm := (175, 2, [(72, 27, 80), (82, 0, 1)], ([.inr (.inr (.ref 71)), .inl (1, .ofNat 0)], [[(.ofNat 0, .ofNat 0)], [(.negSucc 2147483647, .ofNat 2147483647)]], []), [(some (.inl (0, .negSucc 0)), [[(.ofNat 0, .ofNat 0)], [(.negSucc 2147483647, .negSucc 0), (.ofNat 2, .ofNat 2147483647)]], [], []),
  (some (.inl (0, .ofNat 0)), [[(.ofNat 0, .ofNat 0)], [(.ofNat 0, .ofNat 1)]], [], []),
  (some (.inl (0, .ofNat 1)), [[(.ofNat 0, .ofNat 0)], [(.ofNat 0, .ofNat 1)]], [], [])])
/-- X8_copies_r71_c27_c0 -/
def qs186 : qSm := (147, 1, [(72, 0, 26)], ([.inr (.inr (.ref 71)), .inl (0, .ofNat 27), .inl (0, .ofNat 0)], [[(.ofNat 0, .ofNat 0)]], []), [(none, [[(.ofNat 0, .ofNat 0)]], [], [])])
/-- X8_copies_r71_c54_c0 -/
def qs187 : qSm := (147, 1, [(72, 0, 26)], ([.inr (.inr (.ref 71)), .inl (0, .ofNat 54), .inl (0, .ofNat 0)], [[(.ofNat 0, .ofNat 0)]], []), [(none, [[(.ofNat 0, .ofNat 0)]], [], [])])
/-- X8_back_r71 -/
def qs188 : qSm := (176, 2, [(72, 0, 26)], ([.inr (.inr (.ref 71)), .inl (1, .ofNat 0)], [[(.ofNat 0, .ofNat 0)], [(.negSucc 2147483647, .ofNat 2147483647)]], []), [(some (.inl (0, .negSucc 0)), [[(.ofNat 0, .ofNat 0)], [(.negSucc 2147483647, .negSucc 0), (.ofNat 2, .ofNat 2147483647)]], [], []),
  (some (.inl (0, .negSucc 1)), [[(.ofNat 0, .ofNat 0)], [(.ofNat 0, .ofNat 1)]], [], []),
  (some (.inl (2, .ofNat 0)), [[(.ofNat 0, .ofNat 0)], [(.ofNat 0, .ofNat 1)], [(.ofNat 0, .ofNat 999)]], [], [])])
/-- X8_sheet_r71 -/
def qs189 : qSm := (177, 2, [(83, 0, 3), (84, 0, 3), (85, 0, 159)], ([.inr (.inr (.ref 71)), .inl (1, .ofNat 0), .inl (2, .ofNat 0), .inl (3, .ofNat 0)], [[(.ofNat 0, .ofNat 0)], [(.negSucc 2147483647, .ofNat 2147483647)], [(.negSucc 2147483647, .ofNat 2147483647)], [(.negSucc 2147483647, .ofNat 2147483647)]], []), [(some (.inl (0, .negSucc 0)), [[(.ofNat 0, .ofNat 0)], [(.negSucc 2147483647, .ofNat 2147483647)], [(.negSucc 2147483647, .ofNat 2147483647)], [(.negSucc 2147483647, .ofNat 2147483647)]], [], []),
  (some (.inl (0, .negSucc 13)), [[(.ofNat 0, .ofNat 0)], [(.ofNat 0, .ofNat 3)], [(.ofNat 0, .ofNat 2)], [(.negSucc 2147483647, .negSucc 0)]], [], []),
  (some (.inl (0, .ofNat 1)), [[(.ofNat 0, .ofNat 0)], [(.ofNat 0, .ofNat 3)], [(.ofNat 0, .ofNat 2)], [(.ofNat 0, .ofNat 40)]], [], [])])
/-- X8_lay_r71 -/
def qs190 : qSm := (178, 2, [(85, 0, 159)], ([.inr (.inr (.ref 71)), .inl (1, .ofNat 0), .inl (2, .ofNat 0), .inl (3, .ofNat 0)], [[(.ofNat 0, .ofNat 0)], [(.negSucc 2147483647, .ofNat 2147483647)], [(.negSucc 2147483647, .ofNat 2147483647)], [(.negSucc 2147483647, .ofNat 2147483647)]], []), [(some (.inl (0, .negSucc 0)), [[(.ofNat 0, .ofNat 0)], [(.negSucc 2147483647, .negSucc 0), (.ofNat 4, .ofNat 2147483647)], [(.negSucc 2147483647, .ofNat 2147483647)], [(.negSucc 2147483647, .ofNat 2147483647)]], [], []),
  (some (.inl (0, .negSucc 10)), [[(.ofNat 0, .ofNat 0)], [(.ofNat 0, .ofNat 3)], [(.negSucc 2147483647, .ofNat 2147483647)], [(.negSucc 2147483647, .ofNat 2147483647)]], [], []),
  (some (.inl (0, .negSucc 11)), [[(.ofNat 0, .ofNat 0)], [(.ofNat 0, .ofNat 3)], [(.negSucc 2147483647, .ofNat 2147483647)], [(.negSucc 2147483647, .ofNat 2147483647)]], [], []),
  (some (.inl (0, .ofNat 1)), [[(.ofNat 0, .ofNat 0)], [(.ofNat 0, .ofNat 3)], [(.ofNat 0, .ofNat 39)], [(.negSucc 2147483647, .ofNat 2147483647)]], [], [])])
/-- X8_in_c0_c20 -/
def qs191 : qSm := (114, 1, [], ([.inr (.inl (1, .ofNat 0)), .inr (.inl (0, .ofNat 0)), .inr (.inl (0, .ofNat 20))], [[(.ofNat 0, .ofNat 0)], [(.negSucc 9223372036854775807, .ofNat 9223372036854775807)]], []), [(some (.inl (0, .ofNat 0)), [[(.ofNat 0, .ofNat 0)], [(.negSucc 9223372036854775807, .negSucc 0), (.ofNat 21, .ofNat 9223372036854775807)]], [], []),
  (some (.inl (0, .ofNat 1)), [[(.ofNat 0, .ofNat 0)], [(.ofNat 0, .ofNat 20)]], [], [])])
/-- X8_copies_r71_c0_c81 -/
def qs192 : qSm := (147, 1, [(72, 81, 107)], ([.inr (.inr (.ref 71)), .inl (0, .ofNat 0), .inl (0, .ofNat 81)], [[(.ofNat 0, .ofNat 0)]], []), [(none, [[(.ofNat 0, .ofNat 0)]], [], [])])
/-- X8_copies_r71_c81_c0 -/
def qs193 : qSm := (147, 1, [(72, 0, 26)], ([.inr (.inr (.ref 71)), .inl (0, .ofNat 81), .inl (0, .ofNat 0)], [[(.ofNat 0, .ofNat 0)]], []), [(none, [[(.ofNat 0, .ofNat 0)]], [], [])])
/-- X8_read_r71 -/
def qs194 : qSm := (179, 7, [(71, 30, 30), (72, 0, 26), (72, 81, 107)], ([.inr (.inr (.ref 71)), .inl (1, .ofNat 0), .inl (2, .ofNat 0), .inl (3, .ofNat 0), .inl (4, .ofNat 0)], [[(.ofNat 0, .ofNat 0)], [(.negSucc 2147483647, .ofNat 2147483647)], [(.negSucc 2147483647, .ofNat 2147483647)], [(.negSucc 2147483647, .ofNat 2147483647)], [(.negSucc 2147483647, .ofNat 2147483647)]], []), [(some (.inl (5, .ofNat 0)), [[(.ofNat 0, .ofNat 0)], [(.negSucc 2147483647, .ofNat 2147483647)], [(.negSucc 2147483647, .ofNat 2147483647)], [(.negSucc 2147483647, .ofNat 2147483647)], [(.negSucc 2147483647, .ofNat 2147483647)], [(.negSucc 38, .negSucc 19), (.negSucc 0, .ofNat 20)]], [], [])])
/-- X8_torn_r71 -/
def qs195 : qSm := (180, 1, [], ([.inr (.inr (.ref 71))], [[(.ofNat 0, .ofNat 0)]], []), [(some (.inl (1, .ofNat 0)), [[(.ofNat 0, .ofNat 0)], [(.negSucc 2147483647, .ofNat 2147483647)]], [], [])])
/-- X8_count_r71 -/
def qs196 : qSm := (181, 3, [], ([.inr (.inr (.ref 71)), .inl (1, .ofNat 0)], [[(.ofNat 0, .ofNat 0)], [(.negSucc 2147483647, .ofNat 2147483647)]], []), [(some (.inl (0, .negSucc 0)), [[(.ofNat 0, .ofNat 0)], [(.negSucc 2147483647, .negSucc 0), (.ofNat 6, .ofNat 2147483647)]], [], []),
  (some (.inl (0, .negSucc 3)), [[(.ofNat 0, .ofNat 0)], [(.ofNat 3, .ofNat 3)]], [], []),
  (some (.inl (0, .ofNat 0)), [[(.ofNat 0, .ofNat 0)], [(.ofNat 1, .ofNat 1)]], [], []),
  (some (.inl (0, .ofNat 1)), [[(.ofNat 0, .ofNat 0)], [(.ofNat 1, .ofNat 1)]], [], []),
  (some (.inl (0, .ofNat 2)), [[(.ofNat 0, .ofNat 0)], [(.ofNat 1, .ofNat 1)]], [], []),
  (some (.inl (2, .ofNat 0)), [[(.ofNat 0, .ofNat 0)], [(.ofNat 0, .ofNat 0), (.ofNat 2, .ofNat 5)], [(.negSucc 2147483647, .ofNat 2147483647)]], [], [])])
end
section
/-! the reference's lowest: Euclid -/
def lwA (A B : Int64) (W : Int32) : zLo := [(0, .long A), (2, .long B), (4, .int W)]
def lwH (A B : Int64) (W : Int32) (a b c : Int64) : zLo := (7, .long b) :: (5, .long a) :: (9, .long c) :: lwA A B W
theorem lw_t : zm_X8_lowest.2.2.2.2.2 = zt_X8_lowest := by
  unfold zm_X8_lowest
  rfl
theorem lso {pc : Nat} {lo : zLo} {sk : List Value} {h : zHp} {q : Instr × Nat} {x : Option zR} (h1 : zin zt_X8_lowest pc = some q) (h2 : zst none zm_X8_lowest q.1 q.2 pc lo sk h = x) : zstep none zm_X8_lowest (pc, lo, sk, h) = x := by
  unfold zstep
  rw [lw_t]
  dsimp only
  rw [h1, Option.bind_some]
  exact h2
theorem lw_c0 : lg_cmp 0 0 = 0 := by decide +kernel
theorem lw_cn {b : Int64} (h : ¬ b = 0) : ¬ lg_cmp b 0 = 0 := by
  unfold lg_cmp
  by_cases h1 : b > 0
  · rw [if_pos h1]; decide
  · rw [if_neg h1, if_neg h]; decide
section LOW
variable {d : Nat} {A B a b c : Int64} {W : Int32} {hh : zHp} {r : Option Value} {h' : zHp}
set_option maxRecDepth 100000 in
theorem lw_it (hb : ¬ b = 0) (k : zEv none d zm_X8_lowest (6, lwH A B W b (a - a / b * b) (a - a / b * b), [], hh) r h') : zEv none d zm_X8_lowest (6, lwH A B W a b c, [], hh) r h' := by
  refine zEv_step (st' := (8, lwH A B W a b c, [.long b], hh)) (lso (q := (.lload 7, 2)) rfl rfl) ?_
  refine zEv_step (st' := (9, lwH A B W a b c, [.long 0, .long b], hh)) (lso (q := (.lconst 0, 1)) rfl rfl) ?_
  refine zEv_step (st' := (10, lwH A B W a b c, [.int (lg_cmp b 0)], hh)) (lso (q := (.lcmp, 1)) rfl rfl) ?_
  have h10 : zstep none zm_X8_lowest (10, lwH A B W a b c, [.int (lg_cmp b 0)], hh) = if zcd .eq (lg_cmp b 0) 0 = true then some (.inl (31, lwH A B W a b c, [], hh)) else some (.inl (13, lwH A B W a b c, [], hh)) := lso (q := (.ifCond .eq 21, 3)) rfl rfl
  have hz : ¬ zcd .eq (lg_cmp b 0) 0 = true := fun q => lw_cn hb (of_decide_eq_true q)
  rw [if_neg hz] at h10
  refine zEv_step h10 ?_
  refine zEv_step (st' := (15, lwH A B W a b c, [.long a], hh)) (lso (q := (.lload 5, 2)) rfl rfl) ?_
  refine zEv_step (st' := (17, lwH A B W a b c, [.long b, .long a], hh)) (lso (q := (.lload 7, 2)) rfl rfl) ?_
  have h17 : zstep none zm_X8_lowest (17, lwH A B W a b c, [.long b, .long a], hh) = (if b = 0 then none else some (a - a / b * b)).bind fun v => zN 18 (lwH A B W a b c) (.long v :: []) hh := lso (q := (.lrem, 1)) rfl rfl
  rw [if_neg hb] at h17
  refine zEv_step h17 ?_
  refine zEv_step (st' := (20, (9, .long (a - a / b * b)) :: (7, .long b) :: (5, .long a) :: lwA A B W, [], hh)) (lso (q := (.lstore 9, 2)) rfl rfl) ?_
  refine zEv_step (st' := (22, (9, .long (a - a / b * b)) :: (7, .long b) :: (5, .long a) :: lwA A B W, [.long b], hh)) (lso (q := (.lload 7, 2)) rfl rfl) ?_
  refine zEv_step (st' := (24, (5, .long b) :: (9, .long (a - a / b * b)) :: (7, .long b) :: lwA A B W, [], hh)) (lso (q := (.lstore 5, 2)) rfl rfl) ?_
  refine zEv_step (st' := (26, (5, .long b) :: (9, .long (a - a / b * b)) :: (7, .long b) :: lwA A B W, [.long (a - a / b * b)], hh)) (lso (q := (.lload 9, 2)) rfl rfl) ?_
  refine zEv_step (st' := (28, lwH A B W b (a - a / b * b) (a - a / b * b), [], hh)) (lso (q := (.lstore 7, 2)) rfl rfl) ?_
  refine zEv_step (st' := (6, lwH A B W b (a - a / b * b) (a - a / b * b), [], hh)) (lso (q := (.goto (-22), 3)) rfl rfl) ?_
  exact k
set_option maxRecDepth 100000 in
theorem lw_end (ha : ¬ a = 0) : ∃ R, zEv none d zm_X8_lowest (6, lwH A B W a 0 c, [], hh) (some (.long R)) hh := by
  have hdiv : ∀ x : Int64, zEv none d zm_X8_lowest (43, lwH A B W a 0 c, [.long a, .long x], hh) (some (.long (x / a))) hh := by
    intro x
    have h43 : zstep none zm_X8_lowest (43, lwH A B W a 0 c, [.long a, .long x], hh) = (if a = 0 then none else some (x / a)).bind fun v => zN 44 (lwH A B W a 0 c) (.long v :: []) hh := lso (q := (.ldiv, 1)) rfl rfl
    rw [if_neg ha] at h43
    refine zEv_step h43 ?_
    exact zEv_ret (r := some (.long (x / a))) (lso (q := (.lreturn, 1)) rfl rfl)
  have hpre : ∀ R, zEv none d zm_X8_lowest (33, lwH A B W a 0 c, [.int W], hh) (some (.long R)) hh → zEv none d zm_X8_lowest (6, lwH A B W a 0 c, [], hh) (some (.long R)) hh := by
    intro R k
    refine zEv_step (st' := (8, lwH A B W a 0 c, [.long 0], hh)) (lso (q := (.lload 7, 2)) rfl rfl) ?_
    refine zEv_step (st' := (9, lwH A B W a 0 c, [.long 0, .long 0], hh)) (lso (q := (.lconst 0, 1)) rfl rfl) ?_
    refine zEv_step (st' := (10, lwH A B W a 0 c, [.int (lg_cmp 0 0)], hh)) (lso (q := (.lcmp, 1)) rfl rfl) ?_
    rw [lw_c0]
    refine zEv_step (st' := (31, lwH A B W a 0 c, [], hh)) (lso (q := (.ifCond .eq 21, 3)) rfl rfl) ?_
    refine zEv_step (st' := (33, lwH A B W a 0 c, [.int W], hh)) (lso (q := (.iload 4, 2)) rfl rfl) ?_
    exact k
  have h33 : zstep none zm_X8_lowest (33, lwH A B W a 0 c, [.int W], hh) = if zcd .ne W 0 = true then some (.inl (40, lwH A B W a 0 c, [], hh)) else some (.inl (36, lwH A B W a 0 c, [], hh)) := lso (q := (.ifCond .ne 7, 3)) rfl rfl
  by_cases hq : zcd .ne W 0 = true
  · rw [if_pos hq] at h33
    refine ⟨B / a, hpre _ (zEv_step h33 ?_)⟩
    refine zEv_step (st' := (41, lwH A B W a 0 c, [.long B], hh)) (lso (q := (.lload_n 2, 1)) rfl rfl) ?_
    refine zEv_step (st' := (43, lwH A B W a 0 c, [.long a, .long B], hh)) (lso (q := (.lload 5, 2)) rfl rfl) ?_
    exact hdiv B
  · rw [if_neg hq] at h33
    refine ⟨A / a, hpre _ (zEv_step h33 ?_)⟩
    refine zEv_step (st' := (37, lwH A B W a 0 c, [.long A], hh)) (lso (q := (.lload_n 0, 1)) rfl rfl) ?_
    refine zEv_step (st' := (41, lwH A B W a 0 c, [.long A], hh)) (lso (q := (.goto 4, 3)) rfl rfl) ?_
    refine zEv_step (st' := (43, lwH A B W a 0 c, [.long a, .long A], hh)) (lso (q := (.lload 5, 2)) rfl rfl) ?_
    exact hdiv A
theorem lw_loop : ∀ (n : Nat) (a b c : Int64), b.toInt.natAbs ≤ n → (¬ a = 0 ∨ ¬ b = 0) → ∃ R, zEv none d zm_X8_lowest (6, lwH A B W a b c, [], hh) (some (.long R)) hh := by
  intro n
  induction n with
  | zero =>
    intro a b c hn hab
    have hb0 : b = 0 := Int64.toInt_inj.mp (by show b.toInt = 0; omega)
    subst hb0
    exact lw_end (hab.elim id (fun q => absurd rfl q))
  | succ n ih =>
    intro a b c hn hab
    by_cases hb : b = 0
    · subst hb
      exact lw_end (hab.elim id (fun q => absurd rfl q))
    · have hlt : (a - a / b * b).toInt.natAbs < b.toInt.natAbs := by
        rw [Jvm.Kit.i64_rem, Int.natAbs_tmod]
        refine Nat.mod_lt _ ?_
        have : b.toInt ≠ 0 := fun q => hb (Int64.toInt_inj.mp q)
        omega
      obtain ⟨R, hR⟩ := ih b (a - a / b * b) (a - a / b * b) (by omega) (Or.inl hb)
      exact ⟨R, lw_it hb hR⟩
end LOW
set_option maxRecDepth 100000 in
theorem qo168 : qOK yT1 86 1471 qs168 := by
  intro d hd ρ hh vals hE ha hH
  obtain ⟨v1, t1, hv1, k1, ha1⟩ := zF2_u ha
  obtain ⟨v2, t2, hv2, k2, ha2⟩ := zF2_u ha1
  obtain ⟨v3, t3, hv3, k3, ha3⟩ := zF2_u ha2
  have hv4 := zF2_n ha3
  subst hv4
  subst hv3
  subst hv2
  subst hv1
  obtain ⟨A, rfl, hA⟩ := yVG_l k1
  obtain ⟨B, rfl, hB⟩ := yVG_l k2
  obtain ⟨W, rfl, hW⟩ := yVG_i k3
  have hBn : ¬ B = 0 := fun q => by
    obtain ⟨iv, i1, i2⟩ := yE_get hE hB
    have e : iv = [(.ofNat 1, .ofNat 100000)] := by
      have : (qs168.2.2.2.1.2.1)[2]? = some [(.ofNat 1, .ofNat 100000)] := rfl
      rw [this] at i1
      exact (Option.some.inj i1).symm
    rw [e] at i2
    rcases yM_c.mp i2 with w | w
    · have w1 : (1 : Int) ≤ B.toInt - 0 := w.1
      rw [q] at w1
      have : (0 : Int64).toInt = 0 := rfl
      omega
    · exact absurd w yM_n
  obtain ⟨R, hR⟩ := lw_loop (d := d) (A := A) (B := B) (W := W) (hh := hh) _ B (A - A / B * B) (A - A / B * B) (Nat.le_refl _) (Or.inl hBn)
  have hpush := yE_push hE (yM_64 R)
  refine ⟨zm_X8_lowest, some (.long R), hh, rfl, ?_, yFr_rf, _, List.mem_cons_self, [R.toInt], yVG_ml hpush.2, hpush.1, ⟨hH.1, fun e he => absurd he List.not_mem_nil⟩, yFa_n⟩
  have h0 : zEv none d zm_X8_lowest (6, (7, .long B) :: (5, .long A) :: lwA A B W, [], hh) (some (.long R)) hh := by
    refine zEv_step (st' := (8, (7, .long B) :: (5, .long A) :: lwA A B W, [.long B], hh)) (lso (q := (.lload 7, 2)) rfl rfl) ?_
    refine zEv_step (st' := (9, (7, .long B) :: (5, .long A) :: lwA A B W, [.long 0, .long B], hh)) (lso (q := (.lconst 0, 1)) rfl rfl) ?_
    refine zEv_step (st' := (10, (7, .long B) :: (5, .long A) :: lwA A B W, [.int (lg_cmp B 0)], hh)) (lso (q := (.lcmp, 1)) rfl rfl) ?_
    have h10 : zstep none zm_X8_lowest (10, (7, .long B) :: (5, .long A) :: lwA A B W, [.int (lg_cmp B 0)], hh) = if zcd .eq (lg_cmp B 0) 0 = true then some (.inl (31, (7, .long B) :: (5, .long A) :: lwA A B W, [], hh)) else some (.inl (13, (7, .long B) :: (5, .long A) :: lwA A B W, [], hh)) := lso (q := (.ifCond .eq 21, 3)) rfl rfl
    have hz : ¬ zcd .eq (lg_cmp B 0) 0 = true := fun q => lw_cn hBn (of_decide_eq_true q)
    rw [if_neg hz] at h10
    refine zEv_step h10 ?_
    refine zEv_step (st' := (15, (7, .long B) :: (5, .long A) :: lwA A B W, [.long A], hh)) (lso (q := (.lload 5, 2)) rfl rfl) ?_
    refine zEv_step (st' := (17, (7, .long B) :: (5, .long A) :: lwA A B W, [.long B, .long A], hh)) (lso (q := (.lload 7, 2)) rfl rfl) ?_
    have h17 : zstep none zm_X8_lowest (17, (7, .long B) :: (5, .long A) :: lwA A B W, [.long B, .long A], hh) = (if B = 0 then none else some (A - A / B * B)).bind fun v => zN 18 ((7, .long B) :: (5, .long A) :: lwA A B W) (.long v :: []) hh := lso (q := (.lrem, 1)) rfl rfl
    rw [if_neg hBn] at h17
    refine zEv_step h17 ?_
    refine zEv_step (st' := (20, (9, .long (A - A / B * B)) :: (7, .long B) :: (5, .long A) :: lwA A B W, [], hh)) (lso (q := (.lstore 9, 2)) rfl rfl) ?_
    refine zEv_step (st' := (22, (9, .long (A - A / B * B)) :: (7, .long B) :: (5, .long A) :: lwA A B W, [.long B], hh)) (lso (q := (.lload 7, 2)) rfl rfl) ?_
    refine zEv_step (st' := (24, (5, .long B) :: (9, .long (A - A / B * B)) :: (7, .long B) :: lwA A B W, [], hh)) (lso (q := (.lstore 5, 2)) rfl rfl) ?_
    refine zEv_step (st' := (26, (5, .long B) :: (9, .long (A - A / B * B)) :: (7, .long B) :: lwA A B W, [.long (A - A / B * B)], hh)) (lso (q := (.lload 9, 2)) rfl rfl) ?_
    refine zEv_step (st' := (28, lwH A B W B (A - A / B * B) (A - A / B * B), [], hh)) (lso (q := (.lstore 7, 2)) rfl rfl) ?_
    refine zEv_step (st' := (6, lwH A B W B (A - A / B * B) (A - A / B * B), [], hh)) (lso (q := (.goto (-22), 3)) rfl rfl) ?_
    exact hR
  refine zEv_step (st' := (1, lwA A B W, [.long A], hh)) (lso (q := (.lload_n 0, 1)) rfl rfl) ?_
  refine zEv_step (st' := (3, (5, .long A) :: lwA A B W, [], hh)) (lso (q := (.lstore 5, 2)) rfl rfl) ?_
  refine zEv_step (st' := (4, (5, .long A) :: lwA A B W, [.long B], hh)) (lso (q := (.lload_n 2, 1)) rfl rfl) ?_
  refine zEv_step (st' := (6, (7, .long B) :: (5, .long A) :: lwA A B W, [], hh)) (lso (q := (.lstore 7, 2)) rfl rfl) ?_
  exact h0
end
