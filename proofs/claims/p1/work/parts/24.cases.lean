/-! the law's cases, run -/
def ygo (T : yT) : Nat → Option (List yV) → zMi → yS → Option (List yS)
  | 0, _, _, a => some [a]
  | n + 1, sc, mi, a => (yfin mi.2.2.2.2.2 a.1).bind fun q => match yst T sc mi q.1 q.2 a.1 a.2.1 a.2.2.1 a.2.2.2.1 a.2.2.2.2 with
    | some (.inl [b]) => ygo T n sc mi b
    | some (.inl sts) => some sts
    | _ => none
def yw0 : yS := (1189, yE0 ++ [[(37, 63)]], yL0, [], [])
def yw1 : yS := (196, yE0 ++ [[(0, 0)]], yL0, [], [])
def yw2 : yS := (219, yE0 ++ [[(1, 1)]], yL0, [], [])
def yw3 : yS := (242, yE0 ++ [[(2, 2)]], yL0, [], [])
def yw4 : yS := (255, yE0 ++ [[(3, 3)]], yL0, [], [])
def yw5 : yS := (268, yE0 ++ [[(4, 4)]], yL0, [], [])
def yw6 : yS := (291, yE0 ++ [[(5, 5)]], yL0, [], [])
def yw7 : yS := (324, yE0 ++ [[(6, 6)]], yL0, [], [])
def yw8 : yS := (347, yE0 ++ [[(7, 7)]], yL0, [], [])
def yw9 : yS := (390, yE0 ++ [[(8, 8)]], yL0, [], [])
def yw10 : yS := (413, yE0 ++ [[(9, 9)]], yL0, [], [])
def yw11 : yS := (436, yE0 ++ [[(10, 10)]], yL0, [], [])
def yw12 : yS := (459, yE0 ++ [[(11, 11)]], yL0, [], [])
def yw13 : yS := (482, yE0 ++ [[(12, 12)]], yL0, [], [])
def yw14 : yS := (505, yE0 ++ [[(13, 13)]], yL0, [], [])
def yw15 : yS := (528, yE0 ++ [[(14, 14)]], yL0, [], [])
def yw16 : yS := (551, yE0 ++ [[(15, 15)]], yL0, [], [])
def yw17 : yS := (564, yE0 ++ [[(16, 16)]], yL0, [], [])
def yw18 : yS := (597, yE0 ++ [[(17, 17)]], yL0, [], [])
def yw19 : yS := (630, yE0 ++ [[(18, 18)]], yL0, [], [])
def yw20 : yS := (653, yE0 ++ [[(19, 19)]], yL0, [], [])
def yw21 : yS := (676, yE0 ++ [[(20, 20)]], yL0, [], [])
def yw22 : yS := (699, yE0 ++ [[(21, 21)]], yL0, [], [])
def yw23 : yS := (712, yE0 ++ [[(22, 22)]], yL0, [], [])
def yw24 : yS := (746, yE0 ++ [[(23, 23)]], yL0, [], [])
def yw25 : yS := (790, yE0 ++ [[(24, 24)]], yL0, [], [])
def yw26 : yS := (823, yE0 ++ [[(25, 25)]], yL0, [], [])
def yw27 : yS := (846, yE0 ++ [[(26, 26)]], yL0, [], [])
def yw28 : yS := (879, yE0 ++ [[(27, 27)]], yL0, [], [])
def yw29 : yS := (892, yE0 ++ [[(28, 28)]], yL0, [], [])
def yw30 : yS := (925, yE0 ++ [[(29, 29)]], yL0, [], [])
def yw31 : yS := (968, yE0 ++ [[(30, 30)]], yL0, [], [])
def yw32 : yS := (991, yE0 ++ [[(31, 31)]], yL0, [], [])
def yw33 : yS := (1014, yE0 ++ [[(32, 32)]], yL0, [], [])
def yw34 : yS := (1057, yE0 ++ [[(33, 33)]], yL0, [], [])
def yw35 : yS := (1100, yE0 ++ [[(34, 34)]], yL0, [], [])
def yw36 : yS := (1153, yE0 ++ [[(35, 35)]], yL0, [], [])
def yw37 : yS := (1166, yE0 ++ [[(36, 36)]], yL0, [], [])
def ysw : List yS := [yw0, yw1, yw2, yw3, yw4, yw5, yw6, yw7, yw8, yw9, yw10, yw11, yw12, yw13, yw14, yw15, yw16, yw17, yw18, yw19, yw20, yw21, yw22, yw23, yw24, yw25, yw26, yw27, yw28, yw29, yw30, yw31, yw32, yw33, yw34, yw35, yw36, yw37]
def yseq (a b : yS) : Bool := decide (a.1 = b.1) && decide (a.2.1 = b.2.1) && decide (a.2.2.1 = b.2.2.1) && decide (a.2.2.2.1 = b.2.2.2.1) && decide (a.2.2.2.2 = b.2.2.2.2)
theorem yseq_eq {a b : yS} (h : yseq a b = true) : a = b := by
  simp only [yseq, Bool.and_eq_true, decide_eq_true_eq] at h
  obtain ⟨⟨⟨⟨h1, h2⟩, h3⟩, h4⟩, h5⟩ := h
  exact Prod.ext h1 (Prod.ext h2 (Prod.ext h3 (Prod.ext h4 h5)))
def yleq : List yS → List yS → Bool
  | [], [] => true
  | a :: r, b :: t => yseq a b && yleq r t
  | _, _ => false
theorem yleq_eq : ∀ {a b : List yS}, yleq a b = true → a = b
  | [], [], _ => rfl
  | a :: r, b :: t, h => by
    simp only [yleq, Bool.and_eq_true] at h
    rw [yseq_eq h.1, yleq_eq h.2]
set_option maxRecDepth 100000 in
theorem ysw_b : (match ygo yT0 20 yscr zm_L_law (18, yE0, yL0, [], []) with | some q => yleq q ysw | none => false) = true := by decide +kernel
theorem ysw_ok : ygo yT0 20 yscr zm_L_law (18, yE0, yL0, [], []) = some ysw := by
  have hb := ysw_b
  cases hg : ygo yT0 20 yscr zm_L_law (18, yE0, yL0, [], []) with
  | none => rw [hg] at hb; cases hb
  | some q => rw [hg] at hb; rw [yleq_eq hb]
theorem yca0 : yok1 (yrun yT0 100000 yscr 20 zm_L_law [yw0] []) = true := by decide +kernel
theorem yca1 : yok1 (yrun yT0 100000 yscr 20 zm_L_law [yw1] []) = true := by decide +kernel
theorem yca2 : yok1 (yrun yT0 100000 yscr 20 zm_L_law [yw2] []) = true := by decide +kernel
theorem yca3 : yok1 (yrun yT0 100000 yscr 20 zm_L_law [yw3] []) = true := by decide +kernel
theorem yca4 : yok1 (yrun yT0 100000 yscr 20 zm_L_law [yw4] []) = true := by decide +kernel
theorem yca5 : yok1 (yrun yT0 100000 yscr 20 zm_L_law [yw5] []) = true := by decide +kernel
theorem yca6 : yok1 (yrun yT0 100000 yscr 20 zm_L_law [yw6] []) = true := by decide +kernel
theorem yca7 : yok1 (yrun yT0 100000 yscr 20 zm_L_law [yw7] []) = true := by decide +kernel
theorem yca8 : yok1 (yrun yT0 100000 yscr 20 zm_L_law [yw8] []) = true := by decide +kernel
theorem yca9 : yok1 (yrun yT0 100000 yscr 20 zm_L_law [yw9] []) = true := by decide +kernel
theorem yca10 : yok1 (yrun yT0 100000 yscr 20 zm_L_law [yw10] []) = true := by decide +kernel
theorem yca11 : yok1 (yrun yT0 100000 yscr 20 zm_L_law [yw11] []) = true := by decide +kernel
theorem yca12 : yok1 (yrun yT0 100000 yscr 20 zm_L_law [yw12] []) = true := by decide +kernel
theorem yca14 : yok1 (yrun yT0 100000 yscr 20 zm_L_law [yw14] []) = true := by decide +kernel
theorem yca15 : yok1 (yrun yT0 100000 yscr 20 zm_L_law [yw15] []) = true := by decide +kernel
theorem yca17 : yok1 (yrun yT0 100000 yscr 20 zm_L_law [yw17] []) = true := by decide +kernel
theorem yca18 : yok1 (yrun yT0 100000 yscr 20 zm_L_law [yw18] []) = true := by decide +kernel
theorem yca19 : yok1 (yrun yT0 100000 yscr 20 zm_L_law [yw19] []) = true := by decide +kernel
theorem yca20 : yok1 (yrun yT0 100000 yscr 20 zm_L_law [yw20] []) = true := by decide +kernel
theorem yca21 : yok1 (yrun yT0 100000 yscr 20 zm_L_law [yw21] []) = true := by decide +kernel
theorem yca22 : yok1 (yrun yT0 100000 yscr 20 zm_L_law [yw22] []) = true := by decide +kernel
theorem yca23 : yok1 (yrun yT0 100000 yscr 20 zm_L_law [yw23] []) = true := by decide +kernel
theorem yca24 : yok1 (yrun yT0 100000 yscr 20 zm_L_law [yw24] []) = true := by decide +kernel
theorem yca25 : yok1 (yrun yT0 100000 yscr 20 zm_L_law [yw25] []) = true := by decide +kernel
theorem yca26 : yok1 (yrun yT0 100000 yscr 20 zm_L_law [yw26] []) = true := by decide +kernel
theorem yca27 : yok1 (yrun yT0 100000 yscr 20 zm_L_law [yw27] []) = true := by decide +kernel
theorem yca28 : yok1 (yrun yT0 100000 yscr 20 zm_L_law [yw28] []) = true := by decide +kernel
theorem yca29 : yok1 (yrun yT0 100000 yscr 20 zm_L_law [yw29] []) = true := by decide +kernel
theorem yca30 : yok1 (yrun yT0 100000 yscr 20 zm_L_law [yw30] []) = true := by decide +kernel
theorem yca31 : yok1 (yrun yT0 100000 yscr 20 zm_L_law [yw31] []) = true := by decide +kernel
theorem yca32 : yok1 (yrun yT0 100000 yscr 20 zm_L_law [yw32] []) = true := by decide +kernel
theorem yca33 : yok1 (yrun yT0 100000 yscr 20 zm_L_law [yw33] []) = true := by decide +kernel
theorem yca34 : yok1 (yrun yT0 100000 yscr 20 zm_L_law [yw34] []) = true := by decide +kernel
theorem yca35 : yok1 (yrun yT0 100000 yscr 20 zm_L_law [yw35] []) = true := by decide +kernel
theorem yca36 : yok1 (yrun yT0 100000 yscr 20 zm_L_law [yw36] []) = true := by decide +kernel
theorem yca37 : yok1 (yrun yT0 100000 yscr 20 zm_L_law [yw37] []) = true := by decide +kernel
