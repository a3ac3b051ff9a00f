/-! the law from its entry -/
theorem qhs_2 : qhs.all (qlc yT1 qSgs qP 20000 qAl [1080] qhs) = true := List.all_eq_true.mpr (fun c hc => by
  simp only [qhs, List.mem_cons, List.not_mem_nil, or_false] at hc
  rcases hc with rfl | rfl | rfl | rfl | rfl | rfl | rfl | rfl | rfl | rfl | rfl | rfl | rfl | rfl | rfl | rfl
  · exact qha0
  · exact qha1
  · exact qha2
  · exact qha3
  · exact qha4
  · exact qha5
  · exact qha6
  · exact qha7
  · exact qha8
  · exact qha9
  · exact qha10
  · exact qha11
  · exact qha12
  · exact qha13
  · exact qha14
  · exact qha15)
theorem qhs_3 : qhs.all (fun c => (List.range 5).all (qlx yT1 qSgs qP 20000 qAl c)) = true := List.all_eq_true.mpr (fun c hc => by
  simp only [qhs, List.mem_cons, List.not_mem_nil, or_false] at hc
  rcases hc with rfl | rfl | rfl | rfl | rfl | rfl | rfl | rfl | rfl | rfl | rfl | rfl | rfl | rfl | rfl | rfl
  · exact qhb0
  · exact qhb1
  · exact qhb2
  · exact qhb3
  · exact qhb4
  · exact qhb5
  · exact qhb6
  · exact qhb7
  · exact qhb8
  · exact qhb9
  · exact qhb10
  · exact qhb11
  · exact qhb12
  · exact qhb13
  · exact qhb14
  · exact qhb15)
theorem law_E (ys : List Int32) (hL : ys.length ≤ 2560) : yE [0, (ys.length : Int), 0] [[(0, 0)], [(0, 2560)], [(0, 2560)]] := by
  refine ⟨rfl, rfl, fun s iv hs => ?_⟩
  match s, hs with
    | 0, hs => cases hs; exact ⟨0, rfl, yM_1 (by omega) (by omega)⟩
    | 1, hs => cases hs; exact ⟨(ys.length : Int), rfl, yM_1 (by omega) (by omega)⟩
    | 2, hs => cases hs; exact ⟨0, rfl, yM_1 (by omega) (by omega)⟩
    | s + 3, hs => simp at hs
theorem law_runs (ys : List Int32) (hL : ys.length ≤ 2560) : ∃ n h', zex n (some ys) 20 zm_L_law (0, [(0, .retAddr 0)], [], []) = some (some (.int 1), h') ∧ h'.length ≤ 600000 ∧ zsz h' ≤ 7302250 := by
  have hE := law_E ys hL
  have hG : qG yT1 qAl 86 1471 [0, (ys.length : Int), 0] (((18, [[(0, 0)], [(0, 2560)], [(0, 2560)]], [(3, .inl (2, 0)), (2, .inr (.inr (.ref 71))), (1, .inr (.inr (.ref 0))), (0, .inr (.inr (.retAddr 0)))], [], [((63, 1), .inl (0, 0)), ((83, 0), .inl (0, (-4))), ((65, 1), .inl (0, 0)), ((83, 1), .inl (0, (-4))), ((67, 1), .inl (0, 0)), ((83, 2), .inl (0, (-4))), ((69, 1), .inl (0, 0)), ((83, 3), .inl (0, (-4)))]) : yS), []) (18, zL0, [], zh0) := by
    refine ⟨⟨rfl, hE, yF2_LR (zF2_c ⟨rfl, yVG_mi (X := 0) ⟨0, rfl, rfl⟩⟩ (zF2_c ⟨rfl, yVG_mw _⟩ (zF2_c ⟨rfl, yVG_mw _⟩ (zF2_c ⟨rfl, yVG_mw _⟩ True.intro)))), True.intro, yfresh, fun e he => by
    simp only [List.mem_cons, List.not_mem_nil, or_false] at he
    rcases he with rfl | rfl | rfl | rfl | rfl | rfl | rfl | rfl
    · exact ⟨.int (0), by decide +kernel, yVG_mi (X := 0) ⟨0, rfl, by decide⟩⟩
    · exact ⟨.int (-4), by decide +kernel, yVG_mi (X := -4) ⟨0, rfl, by decide⟩⟩
    · exact ⟨.int (0), by decide +kernel, yVG_mi (X := 0) ⟨0, rfl, by decide⟩⟩
    · exact ⟨.int (-4), by decide +kernel, yVG_mi (X := -4) ⟨0, rfl, by decide⟩⟩
    · exact ⟨.int (0), by decide +kernel, yVG_mi (X := 0) ⟨0, rfl, by decide⟩⟩
    · exact ⟨.int (-4), by decide +kernel, yVG_mi (X := -4) ⟨0, rfl, by decide⟩⟩
    · exact ⟨.int (0), by decide +kernel, yVG_mi (X := 0) ⟨0, rfl, by decide⟩⟩
    · exact ⟨.int (-4), by decide +kernel, yVG_mi (X := -4) ⟨0, rfl, by decide⟩⟩⟩, yFa_n⟩
  obtain ⟨h', x1, x2, x3⟩ := q_law qSgs_ok qhs_1 qhs_2 qhs_3 ys hL ys.length qh0 List.mem_cons_self _ _ 0 (by omega) (by omega) hG rfl rfl
  obtain ⟨n, hn⟩ := zpre ys x1
  exact ⟨n, h', hn, by omega, by omega⟩
