/-! the law from its entry -/
theorem q_law2 {T : yT} {N1 N2 n : Nat} {Sg : List qSm} {P : List (Nat × Int × Int)} {md : yMd} {heads : List qCt} (hSg : ∀ s ∈ Sg, qOK T N1 N2 s) (hh : heads.all qhd = true) (hc : ∀ c ∈ heads, qLc T md N1 N2 heads c) (hx : heads.all (fun c => (List.range 5).all (qlx T Sg P n md c)) = true) (ys : List Int32) (hL : ys.length ≤ 2560) : ∀ (m : Nat) (c : qCt), c ∈ heads → ∀ (ρ : List Int) (st : zSt) (i : Nat), ys.length - i ≤ m → i ≤ ys.length → qG T md N1 N2 ρ (c.1, []) st → ρ[1]? = some (ys.length : Int) → ρ[2]? = some (i : Int) → ∃ h', zEv (some ys) 20 zm_L_law st (some (.int 1)) h' ∧ h'.length = N1 ∧ zsz h' = N2 := by
  intro m
  induction m with
  | zero =>
    intro c hcm ρ st i hm hi hG h1 h2
    exact q_exit hSg (List.all_eq_true.mp hh c hcm) (List.all_eq_true.mp hx c hcm) ys hL hi (by omega) hG h1 h2
  | succ m ih =>
    intro c hcm ρ st i hm hi hG h1 h2
    by_cases h5 : ys.length < i + 5
    · exact q_exit hSg (List.all_eq_true.mp hh c hcm) (List.all_eq_true.mp hx c hcm) ys hL hi h5 hG h1 h2
    · have hhd := List.all_eq_true.mp hh c hcm
      simp only [qhd, Bool.and_eq_true, nbq, List.isEmpty_iff, Nat.ble_eq] at hhd
      obtain ⟨⟨⟨⟨p1, p2⟩, p3⟩, p4⟩, p5⟩ := hhd
      obtain ⟨⟨g1, g2, g3, g4, g5⟩, g6⟩ := hG
      dsimp only at g1 g2 g3 g4 g5
      rw [p2] at g4
      have hwl : ((List.range 5).map (fun j => (ys.getD (i + j) 0).toInt)).length = 5 := rfl
      have hwg : ∀ j, j < 5 → ((List.range 5).map (fun j => (ys.getD (i + j) 0).toInt))[j]? = some (ys.getD (i + j) 0).toInt := fun j hj => by
        rw [List.getElem?_map, List.getElem?_range hj]; rfl
      have hE2 : yE (ρ ++ (List.range 5).map (fun j => (ys.getD (i + j) 0).toInt)) (c.1.2.1 ++ List.replicate 5 yI32) := by
        refine yE_app g2 rfl (fun j iv hjv => ?_)
        rw [List.getElem?_replicate] at hjv
        split at hjv
        · rename_i hj5
          cases hjv
          exact ⟨_, hwg j hj5, yM_32 _⟩
        · cases hjv
      obtain ⟨o, t, hq, o2⟩ := hc c hcm (ρ ++ (List.range 5).map (fun j => (ys.getD (i + j) 0).toInt)) st ys (fun xs hxs => by
        cases hxs
        refine ⟨ys, rfl, by omega, i, ⟨_, yg_more _ h2, by show (i : Int) = i + 0; omega⟩, ⟨_, yg_more _ h1, by show (ys.length : Int) = ys.length + 0; omega⟩, fun j v hjv => ?_⟩
        change (qwin c.1.2.1.length)[j]? = some v at hjv
        unfold qwin at hjv
        rw [List.getElem?_map] at hjv
        have hj5 : j < 5 := by
          rcases Nat.lt_or_ge j 5 with w | w
          · exact w
          · rw [List.getElem?_eq_none (by rw [List.length_range]; exact w)] at hjv; cases hjv
        rw [List.getElem?_range hj5] at hjv
        simp only [Option.map_some, Option.some.injEq] at hjv
        subst hjv
        have hij : i + j < ys.length := by omega
        refine ⟨ys[i + j], List.getElem?_eq_getElem hij, ys[i + j], rfl, (ys[i + j]).toInt, ?_, by show _ = _ + (0 : Int); omega⟩
        show (ρ ++ _)[c.1.2.1.length + j]? = _
        rw [g2.1, List.getElem?_append_right (by omega), show ρ.length + j - ρ.length = j by omega, hwg j hj5, List.getD_eq_getElem?_getD, List.getElem?_eq_getElem hij]
        rfl) ⟨⟨g1.trans p1, hE2, yL_more _ g3, yS_more _ g4, yHG_more _ g5⟩, yFa_n⟩
      match o, o2, hq with
      | .inl q, o2, hq =>
        obtain ⟨r, h', x1, x2, x3⟩ := o2
        have e := qis1_ok (show qis1 q = true from hq) x3
        subst e
        exact ⟨h', x1, x3.2.2.1.1.1, x3.2.2.1.1.2.1⟩
      | .inr a, o2, hq =>
        obtain ⟨st', ⟨⟨y1, y2, y3, y4, y5⟩, y6⟩, x2, x3⟩ := o2
        simp only [qlo, Bool.and_eq_true] at hq
        obtain ⟨hq5, hq⟩ := hq
        obtain ⟨c', c1, c2⟩ := List.any_eq_true.mp hq
        unfold qtoc at c2
        rw [Bool.and_eq_true] at c2
        obtain ⟨c2, c3⟩ := c2
        have hpc := (nbq _ _).mp c2
        split at c3
        · rename_i g hg
          simp only [Option.bind_eq_some_iff] at hg
          obtain ⟨q1, k1, q2, k2, k3⟩ := hg
          have hv : ∀ q ∈ q1 ++ q2, ∃ v, yVG ((ρ ++ (List.range 5).map (fun j => (ys.getD (i + j) 0).toInt)) ++ t) q.2 v := fun q hm => by
            rcases List.mem_append.mp hm with w | w
            · exact qzl_mem y3 k1 q w
            · exact qzp_mem k2 y4 q w
          have hlen : 2 ≤ ((ρ ++ (List.range 5).map (fun j => (ys.getD (i + j) 0).toInt)) ++ t).length := by
            have := (List.getElem?_eq_some_iff.mp h2).1
            rw [List.length_append, List.length_append]
            omega
          obtain ⟨t2, ρb, m1, m2, m3, m4, m5, m6, m7⟩ := qmt_ok (by omega) hlen y2 y5 y6 hv k3
          have hhd' := List.all_eq_true.mp hh c' c1
          simp only [qhd, Bool.and_eq_true, nbq, List.isEmpty_iff, Nat.ble_eq] at hhd'
          obtain ⟨⟨⟨⟨p1', p2'⟩, p3'⟩, p4'⟩, p5'⟩ := hhd'
          have hG' : qG T md N1 N2 ρb (c'.1, []) st' := by
            refine ⟨⟨by rw [y1]; exact hpc, m3, fun j v hjv => ?_, qzp_F2 k2 (fun q hm v hv => m5 q (List.mem_append_right _ hm) v hv) y4, m6⟩, yFa_n⟩
            obtain ⟨u, u1, u2⟩ := qzl_ok k1 j v hjv
            obtain ⟨w, w1, w2⟩ := y3 _ _ u1
            exact ⟨w, w1, m5 _ (List.mem_append_left _ u2) w w2⟩
          have hb1 : ρb[1]? = some (ys.length : Int) := by
            rw [m4 1 (by omega)]
            exact yg_more _ (yg_more _ h1)
          have hb2 : ρb[2]? = some ((i + 5 : Nat) : Int) := by
            obtain ⟨w, w1, w2⟩ := hG'.1.2.2.1 _ _ (qi5_ok p3')
            obtain ⟨X, hw, z, z1, z2⟩ := yVG_i w2
            obtain ⟨w', w3, w4⟩ := y3 _ _ (qi5_ok hq5)
            obtain ⟨X', hw', z', z3, z4⟩ := yVG_i w4
            rw [w1] at w3
            cases w3
            rw [hw] at hw'
            cases hw'
            dsimp only at z1 z2 z3 z4
            rw [yg_more _ (yg_more _ h2)] at z3
            cases z3
            rw [z1]
            congr 1
            push_cast
            omega
          obtain ⟨h', x4, x5, x6⟩ := ih c' c1 ρb st' (i + 5) (by omega) (by omega) hG' hb1 hb2
          exact ⟨h', x3 _ _ x4, x5, x6⟩
        · cases c3
theorem qhs_2 : ∀ c ∈ qhs, qLc yT1 qAl 86 1471 qhs c := (fun c hc => by
  simp only [qhs, List.mem_cons, List.not_mem_nil, or_false] at hc
  rcases hc with rfl | rfl | rfl | rfl | rfl | rfl | rfl | rfl | rfl | rfl | rfl | rfl | rfl | rfl | rfl | rfl
  · exact qlc_ok qSgs_ok qha0
  · exact qlc_ok qSgs_ok qha1
  · exact qlc_ok qSgs_ok qha2
  · exact qlc_ok qSgs_ok qha3
  · exact qlc_ok qSgs_ok qha4
  · exact qlc_ok qSgs_ok qha5
  · exact qlc_ok qSgs_ok qha6
  · exact qlc_ok qSgs_ok qha7
  · exact qlc_ok qSgs_ok qha8
  · exact qlc_ok qSgs_ok qha9
  · exact qlc_ok qSgs_ok qha10
  · exact qlc_ok qSgs_ok qha11
  · exact qlc_ok qSgs_ok qha12
  · exact qlc_ok qSgs_ok qha13
  · exact qlc_ok qSgs_ok qha14
  · refine qlg_ok (n := 20000) (P := qP) (sp := [1080]) (cps := [1012, 1055, 1074, 1031]) qSgs_ok (fun x hx => ?_)
    simp only [List.mem_cons, List.not_mem_nil, or_false] at hx
    rcases hx with rfl | rfl | rfl | rfl | rfl
    · exact qhg15_18
    · exact qhg15_1012
    · exact qhg15_1055
    · exact qhg15_1074
    · exact qhg15_1031)
theorem qhs_3 : qhs.all (fun c => (List.range 5).all (qlx yT1 qSgs qP 20000 qAl c)) = true := List.all_eq_true.mpr (fun c hc => by
  simp only [qhs, List.mem_cons, List.not_mem_nil, or_false] at hc
  rcases hc with rfl | rfl | rfl | rfl | rfl | rfl | rfl | rfl | rfl | rfl | rfl | rfl | rfl | rfl | rfl | rfl
  · exact qhb0
  · exact qhb1
  · exact qhb2
  · exact qhb3
  · exact qhb4
  · exact qhb5
  · exact qhb6
  · exact qhb7
  · exact qhb8
  · exact qhb9
  · exact qhb10
  · exact qhb11
  · exact qhb12
  · exact qhb13
  · exact qhb14
  · exact qhb15)
theorem law_E (ys : List Int32) (hL : ys.length ≤ 2560) : yE [0, (ys.length : Int), 0] [[(0, 0)], [(0, 2560)], [(0, 2560)]] := by
  refine ⟨rfl, rfl, fun s iv hs => ?_⟩
  match s, hs with
    | 0, hs => cases hs; exact ⟨0, rfl, yM_1 (by omega) (by omega)⟩
    | 1, hs => cases hs; exact ⟨(ys.length : Int), rfl, yM_1 (by omega) (by omega)⟩
    | 2, hs => cases hs; exact ⟨0, rfl, yM_1 (by omega) (by omega)⟩
    | s + 3, hs => simp at hs
theorem law_runs (ys : List Int32) (hL : ys.length ≤ 2560) : ∃ n h', zex n (some ys) 20 zm_L_law (0, [(0, .retAddr 0)], [], []) = some (some (.int 1), h') ∧ h'.length ≤ 600000 ∧ zsz h' ≤ 7302250 := by
  have hE := law_E ys hL
  have hG : qG yT1 qAl 86 1471 [0, (ys.length : Int), 0] (((18, [[(0, 0)], [(0, 2560)], [(0, 2560)]], [(3, .inl (2, 0)), (2, .inr (.inr (.ref 71))), (1, .inr (.inr (.ref 0))), (0, .inr (.inr (.retAddr 0)))], [], [((63, 1), .inl (0, 0)), ((83, 0), .inl (0, (-4))), ((65, 1), .inl (0, 0)), ((83, 1), .inl (0, (-4))), ((67, 1), .inl (0, 0)), ((83, 2), .inl (0, (-4))), ((69, 1), .inl (0, 0)), ((83, 3), .inl (0, (-4)))]) : yS), []) (18, zL0, [], zh0) := by
    refine ⟨⟨rfl, hE, yF2_LR (zF2_c ⟨rfl, yVG_mi (X := 0) ⟨0, rfl, rfl⟩⟩ (zF2_c ⟨rfl, yVG_mw _⟩ (zF2_c ⟨rfl, yVG_mw _⟩ (zF2_c ⟨rfl, yVG_mw _⟩ True.intro)))), True.intro, yfresh, fun e he => by
    simp only [List.mem_cons, List.not_mem_nil, or_false] at he
    rcases he with rfl | rfl | rfl | rfl | rfl | rfl | rfl | rfl
    · exact ⟨.int (0), by decide +kernel, yVG_mi (X := 0) ⟨0, rfl, by decide⟩⟩
    · exact ⟨.int (-4), by decide +kernel, yVG_mi (X := -4) ⟨0, rfl, by decide⟩⟩
    · exact ⟨.int (0), by decide +kernel, yVG_mi (X := 0) ⟨0, rfl, by decide⟩⟩
    · exact ⟨.int (-4), by decide +kernel, yVG_mi (X := -4) ⟨0, rfl, by decide⟩⟩
    · exact ⟨.int (0), by decide +kernel, yVG_mi (X := 0) ⟨0, rfl, by decide⟩⟩
    · exact ⟨.int (-4), by decide +kernel, yVG_mi (X := -4) ⟨0, rfl, by decide⟩⟩
    · exact ⟨.int (0), by decide +kernel, yVG_mi (X := 0) ⟨0, rfl, by decide⟩⟩
    · exact ⟨.int (-4), by decide +kernel, yVG_mi (X := -4) ⟨0, rfl, by decide⟩⟩⟩, yFa_n⟩
  obtain ⟨h', x1, x2, x3⟩   := q_law2 (n := 20000) (P := qP) qSgs_ok qhs_1 qhs_2 qhs_3 ys hL ys.length qh0 List.mem_cons_self _ _ 0 (by omega) (by omega) hG rfl rfl
  obtain ⟨n, hn⟩ := zpre ys x1
  exact ⟨n, h', hn, by omega, by omega⟩
