/-! the law of this row: its loop from each head comes to a head again, or ends with true -/
/-- X7_text_v -/
def qs1000 : qSm := (67, 9, [(1, 2, 12), (3, 2, 5), (5, 0, 7), (6, 0, 3), (7, 0, 3), (8, 0, 3), (9, 0, 3), (10, 0, 3), (11, 2, 5), (13, 0, 7), (14, 0, 3), (15, 0, 3), (16, 0, 3), (17, 0, 3), (18, 0, 3), (40, 3, 3), (45, 0, 1)], ([.inr (.inr (.ref 0))], [[(.ofNat 0, .ofNat 0)]], []), [(some (.inl (1, .ofNat 0)), [[(.ofNat 0, .ofNat 0)], [(.negSucc 2147483647, .ofNat 2147483647)]], [((1, 2), .inl (0, .ofNat 0))], [])])
def qc1000 : List qCt := [((55, [[(.ofNat 0, .ofNat 0)], [(.ofNat 0, .ofNat 2)]], [(0, .inr (.inr (.ref 0))), (1, .inl (0, .ofNat 1)), (2, .inl (1, .ofNat 0))], [], [((40, 3), .inl (0, .ofNat 0)), ((1, 2), .inl (0, .ofNat 0))]), [], [(false, .ofNat 4945, (0, .ofNat 0)), (false, .ofNat 3, (1, .ofNat 0)), (false, .ofNat 9000, (0, .ofNat 0)), (false, .ofNat 0, (0, .ofNat 0))])]
set_option maxRecDepth 100000 in
theorem qe1000 : qck0 yT1 [qs19, qs20] qP 20000 [] qc1000 qs1000 = true := by decide +kernel
set_option maxRecDepth 100000 in
theorem qf1000 : qc1000.all (qck1 yT1 [qs19, qs20] qP 20000 [] qc1000 qs1000) = true := by decide +kernel
set_option maxRecDepth 100000 in
theorem qo1000 : qOK yT1 86 1471 qs1000 := qck_ok (m := 4) (qall_c qo19 (qall_c qo20 qall_n)) rfl qe1000 qf1000 (by decide +kernel) (by decide +kernel)
/-- X8_text_v -/
def qs1001 : qSm := (125, 7, [(71, 2, 2), (71, 4, 6), (71, 8, 15), (71, 23, 23), (72, 0, 26), (74, 0, 26), (82, 0, 1)], ([.inr (.inr (.ref 71))], [[(.ofNat 0, .ofNat 0)]], []), [(some (.inl (1, .ofNat 0)), [[(.ofNat 0, .ofNat 0)], [(.negSucc 2147483647, .ofNat 2147483647)]], [((71, 8), .inl (0, .ofNat 0))], [])])
def qc1001 : List qCt := [((52, [[(.ofNat 0, .ofNat 0)], [(.negSucc 2147483647, .ofNat 2147483647)], [(.ofNat 0, .ofNat 3)], [(.ofNat 0, .ofNat 160)]], [(0, .inr (.inr (.ref 71))), (1, .inl (1, .ofNat 0)), (2, .inl (0, .ofNat 27))], [], [((71, 14), .inl (2, .ofNat 0)), ((71, 12), .inl (3, .ofNat 0)), ((71, 10), .inl (0, .ofNat 0)), ((74, 17), .inl (0, .ofNat 0))]), [], [(false, .ofNat 4948, (0, .ofNat 0)), (false, .ofNat 7, (0, .ofNat 0)), (false, .ofNat 161, (3, .ofNat 0)), (false, .ofNat 9000, (0, .ofNat 0)), (false, .ofNat 0, (0, .ofNat 0)), (false, .ofNat 0, (0, .ofNat 0))]),
  ((52, [[(.ofNat 0, .ofNat 0)], [(.negSucc 2147483647, .ofNat 2147483647)], [(.ofNat 1, .ofNat 6)], [(.negSucc 2147483647, .ofNat 2147483647)], [(.ofNat 0, .ofNat 160)]], [(0, .inr (.inr (.ref 71))), (1, .inl (1, .ofNat 0)), (2, .inl (0, .ofNat 27))], [], [((71, 10), .inl (2, .ofNat 0)), ((71, 14), .inl (3, .ofNat 0)), ((71, 12), .inl (4, .ofNat 0)), ((74, 17), .inl (0, .ofNat 0))]), [], [(false, .ofNat 4948, (0, .ofNat 0)), (false, .ofNat 7, (2, .ofNat 0)), (false, .ofNat 161, (4, .ofNat 0)), (false, .ofNat 9000, (0, .ofNat 0)), (false, .ofNat 0, (0, .ofNat 0)), (false, .ofNat 0, (0, .ofNat 0))])]
set_option maxRecDepth 100000 in
theorem qe1001 : qck0 yT1 [qs114, qs126] qP 20000 [] qc1001 qs1001 = true := by decide +kernel
set_option maxRecDepth 100000 in
theorem qf1001 : qc1001.all (qck1 yT1 [qs114, qs126] qP 20000 [] qc1001 qs1001) = true := by decide +kernel
set_option maxRecDepth 100000 in
theorem qo1001 : qOK yT1 86 1471 qs1001 := qck_ok (m := 6) (qall_c qo114 (qall_c qo126 qall_n)) rfl qe1001 qf1001 (by decide +kernel) (by decide +kernel)
def qSgs : List qSm := [qs1000, qs1001, qs21, qs22, qs27, qs28, qs29, qs30, qs31, qs32, qs33, qs36, qs38, qs47, qs48, qs49, qs62, qs70, qs72, qs73, qs74, qs75, qs79, qs80, qs81, qs82, qs84, qs85, qs90, qs91, qs94, qs97, qs102, qs103, qs104, qs105, qs108, qs127, qs128, qs130, qs131, qs132, qs137, qs138, qs139, qs140, qs143, qs145, qs152, qs153, qs154, qs158, qs161, qs162, qs163, qs164, qs165, qs169, qs170, qs172, qs173, qs177, qs178, qs179, qs181, qs184, qs187, qs188, qs189, qs193, qs194, qs195, qs109]
set_option maxRecDepth 100000 in
theorem qSgs_ok : ∀ s ∈ qSgs, qOK yT1 86 1471 s := (qall_c qo1000 (qall_c qo1001 (qall_c qo21 (qall_c qo22 (qall_c qo27 (qall_c qo28 (qall_c qo29 (qall_c qo30 (qall_c qo31 (qall_c qo32 (qall_c qo33 (qall_c qo36 (qall_c qo38 (qall_c qo47 (qall_c qo48 (qall_c qo49 (qall_c qo62 (qall_c qo70 (qall_c qo72 (qall_c qo73 (qall_c qo74 (qall_c qo75 (qall_c qo79 (qall_c qo80 (qall_c qo81 (qall_c qo82 (qall_c qo84 (qall_c qo85 (qall_c qo90 (qall_c qo91 (qall_c qo94 (qall_c qo97 (qall_c qo102 (qall_c qo103 (qall_c qo104 (qall_c qo105 (qall_c qo108 (qall_c qo127 (qall_c qo128 (qall_c qo130 (qall_c qo131 (qall_c qo132 (qall_c qo137 (qall_c qo138 (qall_c qo139 (qall_c qo140 (qall_c qo143 (qall_c qo145 (qall_c qo152 (qall_c qo153 (qall_c qo154 (qall_c qo158 (qall_c qo161 (qall_c qo162 (qall_c qo163 (qall_c qo164 (qall_c qo165 (qall_c qo169 (qall_c qo170 (qall_c qo172 (qall_c qo173 (qall_c qo177 (qall_c qo178 (qall_c qo179 (qall_c qo181 (qall_c qo184 (qall_c qo187 (qall_c qo188 (qall_c qo189 (qall_c qo193 (qall_c qo194 (qall_c qo195 (qall_c qo109 qall_n)))))))))))))))))))))))))))))))))))))))))))))))))))))))))))))))))))))))))
def qAl : yMd := [(0, 0, 8), (1, 0, 12), (2, 0, 159), (3, 0, 5), (4, 0, 4), (5, 0, 7), (6, 0, 3), (7, 0, 3), (8, 0, 3), (9, 0, 3), (10, 0, 3), (11, 0, 5), (12, 0, 4), (13, 0, 7), (14, 0, 3), (15, 0, 3), (16, 0, 3), (17, 0, 3), (18, 0, 3), (19, 0, 4), (20, 0, 5), (21, 0, 4), (22, 0, 7), (23, 0, 3), (24, 0, 3), (25, 0, 3), (26, 0, 3), (27, 0, 3), (28, 0, 7), (29, 0, 4), (30, 0, 5), (31, 0, 4), (32, 0, 7), (33, 0, 3), (34, 0, 3), (35, 0, 3), (36, 0, 3), (37, 0, 3), (38, 0, 4), (39, 0, 4), (40, 0, 3), (41, 0, 5), (42, 0, 5), (43, 0, 47), (44, 0, 1), (45, 0, 1), (46, 0, 3), (47, 0, 5), (48, 0, 4), (49, 0, 7), (50, 0, 3), (51, 0, 3), (52, 0, 3), (53, 0, 3), (54, 0, 3), (55, 0, 5), (56, 0, 4), (57, 0, 7), (58, 0, 3), (59, 0, 3), (60, 0, 3), (61, 0, 3), (62, 0, 3), (63, 0, 3), (64, 0, 39), (65, 0, 3), (66, 0, 39), (67, 0, 3), (68, 0, 39), (69, 0, 3), (70, 0, 39), (71, 0, 30), (72, 0, 134), (73, 0, 3), (74, 0, 26), (75, 0, 159), (76, 0, 7), (77, 0, 34), (78, 0, 7), (79, 0, 11), (80, 0, 167), (81, 0, 20), (82, 0, 1), (83, 0, 3), (84, 0, 3), (85, 0, 159)]
def qh0 : qCt := ((18, [[(0, 0)], [(0, 2560)], [(0, 2560)], [(0, 160)]], [(3, .inl (2, 0)), (2, .inr (.inr (.ref 71))), (1, .inr (.inr (.ref 0))), (0, .inr (.inr (.retAddr 0)))], [], [((1, 2), .inl (3, 0)), ((71, 8), .inl (3, 0))]), [], [])
def qhs : List qCt := [qh0]
theorem qhs_1 : qhs.all qhd = true := by decide +kernel
set_option maxRecDepth 100000 in
theorem qha0 : qlc yT1 qSgs qP 20000 qAl qhs qh0 = true := by decide +kernel
set_option maxRecDepth 100000 in
theorem qhb0 : (List.range 5).all (qlx yT1 qSgs qP 20000 qAl qh0) = true := by decide +kernel
theorem qhs_2 : qhs.all (qlc yT1 qSgs qP 20000 qAl qhs) = true := List.all_eq_true.mpr (fun c hc => by
  rw [List.mem_singleton.mp hc]
  exact qha0)
theorem qhs_3 : qhs.all (fun c => (List.range 5).all (qlx yT1 qSgs qP 20000 qAl c)) = true := List.all_eq_true.mpr (fun c hc => by
  rw [List.mem_singleton.mp hc]
  exact qhb0)
theorem law_E (ys : List Int32) (hL : ys.length ≤ 2560) : yE [0, (ys.length : Int), 0, 0] [[(0, 0)], [(0, 2560)], [(0, 2560)], [(0, 160)]] := by
  refine ⟨rfl, rfl, fun s iv hs => ?_⟩
  match s, hs with
    | 0, hs => cases hs; exact ⟨0, rfl, yM_1 (by omega) (by omega)⟩
    | 1, hs => cases hs; exact ⟨(ys.length : Int), rfl, yM_1 (by omega) (by omega)⟩
    | 2, hs => cases hs; exact ⟨0, rfl, yM_1 (by omega) (by omega)⟩
    | 3, hs => cases hs; exact ⟨0, rfl, yM_1 (by omega) (by omega)⟩
    | s + 4, hs => simp at hs
theorem law_runs (ys : List Int32) (hL : ys.length ≤ 2560) : ∃ n h', zex n (some ys) 20 zm_L_law (0, [(0, .retAddr 0)], [], []) = some (some (.int 1), h') ∧ h'.length ≤ 600000 ∧ zsz h' ≤ 7302250 := by
  have hE := law_E ys hL
  have hG : qG yT1 qAl 86 1471 [0, (ys.length : Int), 0, 0] (((18, [[(0, 0)], [(0, 2560)], [(0, 2560)], [(0, 160)]], [(3, .inl (2, 0)), (2, .inr (.inr (.ref 71))), (1, .inr (.inr (.ref 0))), (0, .inr (.inr (.retAddr 0)))], [], [((1, 2), .inl (3, 0)), ((71, 8), .inl (3, 0))]) : yS), []) (18, zL0, [], zh0) := by
    refine ⟨⟨rfl, hE, yF2_LR (zF2_c ⟨rfl, yVG_mi (X := 0) ⟨0, rfl, rfl⟩⟩ (zF2_c ⟨rfl, yVG_mw _⟩ (zF2_c ⟨rfl, yVG_mw _⟩ (zF2_c ⟨rfl, yVG_mw _⟩ True.intro)))), True.intro, yfresh, fun e he => by
    simp only [List.mem_cons, List.not_mem_nil, or_false] at he
    rcases he with rfl | rfl
    · exact ⟨.int (0), by decide +kernel, yVG_mi (X := 0) ⟨0, rfl, by decide⟩⟩
    · exact ⟨.int (0), by decide +kernel, yVG_mi (X := 0) ⟨0, rfl, by decide⟩⟩⟩, yFa_n⟩
  obtain ⟨h', x1, x2, x3⟩ := q_law qSgs_ok qhs_1 qhs_2 qhs_3 ys hL ys.length qh0 List.mem_cons_self _ _ 0 (by omega) (by omega) hG rfl rfl
  obtain ⟨n, hn⟩ := zpre ys x1
  exact ⟨n, h', hn, by omega, by omega⟩
