/-! the law comes to an end -/
def qlo3 (T : yT) (heads : List qCt) : qQ ⊕ qS → Bool
  | .inl _ => true
  | .inr a => qi5 a.1.2.2.1 (2, 5) && heads.any (qtoc T 2 a none)
def qlc3 (T : yT) (Sg : List qSm) (P : List (Nat × Int × Int)) (n : Nat) (md : yMd) (sp : List Nat) (heads : List qCt) (c : qCt) : Bool := match qrun T Sg P n md [18] sp (some (2, 1, qwin c.1.2.1.length)) 20 zm_L_law [(true, (18, c.1.2.1 ++ List.replicate 5 yI32, c.1.2.2.1, [], c.1.2.2.2.2), [])] [] with
  | some os => os.all (qlo3 T heads)
  | none => false
theorem q_law3 {T : yT} {N1 N2 n : Nat} {Sg : List qSm} {P : List (Nat × Int × Int)} {md : yMd} {sp : List Nat} {heads : List qCt} (hSg : ∀ s ∈ Sg, qOK T N1 N2 s) (hh : heads.all qhd = true) (hc : heads.all (qlc3 T Sg P n md sp heads) = true) (hx : heads.all (fun c => (List.range 5).all (qlx T Sg P n md c)) = true) (ys : List Int32) (hL : ys.length ≤ 2560) : ∀ (m : Nat) (c : qCt), c ∈ heads → ∀ (ρ : List Int) (st : zSt) (i : Nat), ys.length - i ≤ m → i ≤ ys.length → qG T md N1 N2 ρ (c.1, []) st → ρ[1]? = some (ys.length : Int) → ρ[2]? = some (i : Int) → ∃ r h', zEv (some ys) 20 zm_L_law st r h' ∧ h'.length = N1 ∧ zsz h' = N2 := by
  intro m
  induction m with
  | zero =>
    intro c hcm ρ st i hm hi hG h1 h2
    exact ⟨_, q_exit hSg (List.all_eq_true.mp hh c hcm) (List.all_eq_true.mp hx c hcm) ys hL hi (by omega) hG h1 h2⟩
  | succ m ih =>
    intro c hcm ρ st i hm hi hG h1 h2
    by_cases h5 : ys.length < i + 5
    · exact ⟨_, q_exit hSg (List.all_eq_true.mp hh c hcm) (List.all_eq_true.mp hx c hcm) ys hL hi h5 hG h1 h2⟩
    · have hhd := List.all_eq_true.mp hh c hcm
      simp only [qhd, Bool.and_eq_true, nbq, List.isEmpty_iff, Nat.ble_eq] at hhd
      obtain ⟨⟨⟨⟨p1, p2⟩, p3⟩, p4⟩, p5⟩ := hhd
      obtain ⟨⟨g1, g2, g3, g4, g5⟩, g6⟩ := hG
      dsimp only at g1 g2 g3 g4 g5
      rw [p2] at g4
      have hj := List.all_eq_true.mp hc c hcm
      unfold qlc3 at hj
      split at hj
      · rename_i os hos
        obtain ⟨_, _, j3⟩ := q_run T N1 N2 Sg hSg P n _ _ _ _ _ _ _ _ _ hos
        have hwl : ((List.range 5).map (fun j => (ys.getD (i + j) 0).toInt)).length = 5 := rfl
        have hwg : ∀ j, j < 5 → ((List.range 5).map (fun j => (ys.getD (i + j) 0).toInt))[j]? = some (ys.getD (i + j) 0).toInt := fun j hj => by
          rw [List.getElem?_map, List.getElem?_range hj]; rfl
        have hE2 : yE (ρ ++ (List.range 5).map (fun j => (ys.getD (i + j) 0).toInt)) (c.1.2.1 ++ List.replicate 5 yI32) := by
          refine yE_app g2 rfl (fun j iv hjv => ?_)
          rw [List.getElem?_replicate] at hjv
          split at hjv
          · rename_i hj5
            cases hjv
            exact ⟨_, hwg j hj5, yM_32 _⟩
          · cases hjv
        obtain ⟨o, o1, t, o2⟩ := j3 _ List.mem_cons_self (ρ ++ (List.range 5).map (fun j => (ys.getD (i + j) 0).toInt)) st (some ys) (fun xs hxs => by
          cases hxs
          refine ⟨ys, rfl, by omega, i, ⟨_, yg_more _ h2, by show (i : Int) = i + 0; omega⟩, ⟨_, yg_more _ h1, by show (ys.length : Int) = ys.length + 0; omega⟩, fun j v hjv => ?_⟩
          change (qwin c.1.2.1.length)[j]? = some v at hjv
          unfold qwin at hjv
          rw [List.getElem?_map] at hjv
          have hj5 : j < 5 := by
            rcases Nat.lt_or_ge j 5 with w | w
            · exact w
            · rw [List.getElem?_eq_none (by rw [List.length_range]; exact w)] at hjv; cases hjv
          rw [List.getElem?_range hj5] at hjv
          simp only [Option.map_some, Option.some.injEq] at hjv
          subst hjv
          have hij : i + j < ys.length := by omega
          refine ⟨ys[i + j], List.getElem?_eq_getElem hij, ys[i + j], rfl, (ys[i + j]).toInt, ?_, by show _ = _ + (0 : Int); omega⟩
          show (ρ ++ _)[c.1.2.1.length + j]? = _
          rw [g2.1, List.getElem?_append_right (by omega), show ρ.length + j - ρ.length = j by omega, hwg j hj5, List.getD_eq_getElem?_getD, List.getElem?_eq_getElem hij]
          rfl) ⟨⟨g1.trans p1, hE2, yL_more _ g3, yS_more _ g4, yHG_more _ g5⟩, yFa_n⟩
        have hq := List.all_eq_true.mp hj o o1
        match o, o2, hq with
        | .inl q, o2, hq =>
          obtain ⟨r, h', x1, x2, x3⟩ := o2
          exact ⟨r, h', x1, x3.2.2.1.1.1, x3.2.2.1.1.2.1⟩
        | .inr a, o2, hq =>
          obtain ⟨st', ⟨⟨y1, y2, y3, y4, y5⟩, y6⟩, x2, x3⟩ := o2
          simp only [qlo3, Bool.and_eq_true] at hq
          obtain ⟨hq5, hq⟩ := hq
          obtain ⟨c', c1, c2⟩ := List.any_eq_true.mp hq
          unfold qtoc at c2
          rw [Bool.and_eq_true] at c2
          obtain ⟨c2, c3⟩ := c2
          have hpc := (nbq _ _).mp c2
          split at c3
          · rename_i g hg
            simp only [Option.bind_eq_some_iff] at hg
            obtain ⟨q1, k1, q2, k2, k3⟩ := hg
            have hv : ∀ q ∈ q1 ++ q2, ∃ v, yVG ((ρ ++ (List.range 5).map (fun j => (ys.getD (i + j) 0).toInt)) ++ t) q.2 v := fun q hm => by
              rcases List.mem_append.mp hm with w | w
              · exact qzl_mem y3 k1 q w
              · exact qzp_mem k2 y4 q w
            have hlen : 2 ≤ ((ρ ++ (List.range 5).map (fun j => (ys.getD (i + j) 0).toInt)) ++ t).length := by
              have := (List.getElem?_eq_some_iff.mp h2).1
              rw [List.length_append, List.length_append]
              omega
            obtain ⟨t2, ρb, m1, m2, m3, m4, m5, m6, m7⟩ := qmt_ok (by omega) hlen y2 y5 y6 hv k3
            have hhd' := List.all_eq_true.mp hh c' c1
            simp only [qhd, Bool.and_eq_true, nbq, List.isEmpty_iff, Nat.ble_eq] at hhd'
            obtain ⟨⟨⟨⟨p1', p2'⟩, p3'⟩, p4'⟩, p5'⟩ := hhd'
            have hG' : qG T md N1 N2 ρb (c'.1, []) st' := by
              refine ⟨⟨by rw [y1]; exact hpc, m3, fun j v hjv => ?_, qzp_F2 k2 (fun q hm v hv => m5 q (List.mem_append_right _ hm) v hv) y4, m6⟩, yFa_n⟩
              obtain ⟨u, u1, u2⟩ := qzl_ok k1 j v hjv
              obtain ⟨w, w1, w2⟩ := y3 _ _ u1
              exact ⟨w, w1, m5 _ (List.mem_append_left _ u2) w w2⟩
            have hb1 : ρb[1]? = some (ys.length : Int) := by
              rw [m4 1 (by omega)]
              exact yg_more _ (yg_more _ h1)
            have hb2 : ρb[2]? = some ((i + 5 : Nat) : Int) := by
              obtain ⟨w, w1, w2⟩ := hG'.1.2.2.1 _ _ (qi5_ok p3')
              obtain ⟨X, hw, z, z1, z2⟩ := yVG_i w2
              obtain ⟨w', w3, w4⟩ := y3 _ _ (qi5_ok hq5)
              obtain ⟨X', hw', z', z3, z4⟩ := yVG_i w4
              rw [w1] at w3
              cases w3
              rw [hw] at hw'
              cases hw'
              dsimp only at z1 z2 z3 z4
              rw [yg_more _ (yg_more _ h2)] at z3
              cases z3
              rw [z1]
              congr 1
              push_cast
              omega
            obtain ⟨r, h', x4, x5, x6⟩ := ih c' c1 ρb st' (i + 5) (by omega) (by omega) hG' hb1 hb2
            exact ⟨r, h', x3 _ _ x4, x5, x6⟩
          · cases c3
      · cases hj
def qSgs : List qSm := [qs0, qs1, qs21, qs22, qs27, qs28, qs29, qs30, qs31, qs32, qs33, qs36, qs38, qs47, qs48, qs49, qs62, qs70, qs72, qs73, qs74, qs75, qs79, qs80, qs81, qs82, qs84, qs85, qs90, qs91, qs94, qs97, qs102, qs103, qs104, qs105, qs108, qs110, qs111, qs127, qs128, qs130, qs131, qs132, qs138, qs139, qs140, qs141, qs144, qs146, qs153, qs154, qs155, qs159, qs162, qs163, qs164, qs165, qs166, qs170, qs171, qs173, qs174, qs178, qs179, qs180, qs182, qs185, qs188, qs189, qs190, qs194, qs195, qs196]
set_option maxRecDepth 100000 in
theorem qSgs_ok : ∀ s ∈ qSgs, qOK yT1 86 1471 s := (qall_c qo0 (qall_c qo1 (qall_c qo21 (qall_c qo22 (qall_c qo27 (qall_c qo28 (qall_c qo29 (qall_c qo30 (qall_c qo31 (qall_c qo32 (qall_c qo33 (qall_c qo36 (qall_c qo38 (qall_c qo47 (qall_c qo48 (qall_c qo49 (qall_c qo62 (qall_c qo70 (qall_c qo72 (qall_c qo73 (qall_c qo74 (qall_c qo75 (qall_c qo79 (qall_c qo80 (qall_c qo81 (qall_c qo82 (qall_c qo84 (qall_c qo85 (qall_c qo90 (qall_c qo91 (qall_c qo94 (qall_c qo97 (qall_c qo102 (qall_c qo103 (qall_c qo104 (qall_c qo105 (qall_c qo108 (qall_c qo110 (qall_c qo111 (qall_c qo127 (qall_c qo128 (qall_c qo130 (qall_c qo131 (qall_c qo132 (qall_c qo138 (qall_c qo139 (qall_c qo140 (qall_c qo141 (qall_c qo144 (qall_c qo146 (qall_c qo153 (qall_c qo154 (qall_c qo155 (qall_c qo159 (qall_c qo162 (qall_c qo163 (qall_c qo164 (qall_c qo165 (qall_c qo166 (qall_c qo170 (qall_c qo171 (qall_c qo173 (qall_c qo174 (qall_c qo178 (qall_c qo179 (qall_c qo180 (qall_c qo182 (qall_c qo185 (qall_c qo188 (qall_c qo189 (qall_c qo190 (qall_c qo194 (qall_c qo195 (qall_c qo196 qall_n))))))))))))))))))))))))))))))))))))))))))))))))))))))))))))))))))))))))))
def qAl : yMd := [(0, 0, 8), (1, 0, 12), (2, 0, 159), (3, 0, 5), (4, 0, 4), (5, 0, 7), (6, 0, 3), (7, 0, 3), (8, 0, 3), (9, 0, 3), (10, 0, 3), (11, 0, 5), (12, 0, 4), (13, 0, 7), (14, 0, 3), (15, 0, 3), (16, 0, 3), (17, 0, 3), (18, 0, 3), (19, 0, 4), (20, 0, 5), (21, 0, 4), (22, 0, 7), (23, 0, 3), (24, 0, 3), (25, 0, 3), (26, 0, 3), (27, 0, 3), (28, 0, 7), (29, 0, 4), (30, 0, 5), (31, 0, 4), (32, 0, 7), (33, 0, 3), (34, 0, 3), (35, 0, 3), (36, 0, 3), (37, 0, 3), (38, 0, 4), (39, 0, 4), (40, 0, 3), (41, 0, 5), (42, 0, 5), (43, 0, 47), (44, 0, 1), (45, 0, 1), (46, 0, 3), (47, 0, 5), (48, 0, 4), (49, 0, 7), (50, 0, 3), (51, 0, 3), (52, 0, 3), (53, 0, 3), (54, 0, 3), (55, 0, 5), (56, 0, 4), (57, 0, 7), (58, 0, 3), (59, 0, 3), (60, 0, 3), (61, 0, 3), (62, 0, 3), (63, 0, 3), (64, 0, 39), (65, 0, 3), (66, 0, 39), (67, 0, 3), (68, 0, 39), (69, 0, 3), (70, 0, 39), (71, 0, 30), (72, 0, 134), (73, 0, 3), (74, 0, 26), (75, 0, 159), (76, 0, 7), (77, 0, 34), (78, 0, 7), (79, 0, 11), (80, 0, 167), (81, 0, 20), (82, 0, 1), (83, 0, 3), (84, 0, 3), (85, 0, 159)]
def qh0 : qCt := ((18, [[(0, 0)], [(0, 2560)], [(0, 2560)]], [(3, .inl (2, 0)), (2, .inr (.inr (.ref 71))), (1, .inr (.inr (.ref 0))), (0, .inr (.inr (.retAddr 0)))], [], []), [], [])
def qhs : List qCt := [qh0]
theorem qhs_1 : qhs.all qhd = true := by decide +kernel
set_option maxRecDepth 100000 in
theorem qha0 : qlc3 yT1 qSgs qP 20000 qAl [] qhs qh0 = true := by decide +kernel
set_option maxRecDepth 100000 in
theorem qhb0 : (List.range 5).all (qlx yT1 qSgs qP 20000 qAl qh0) = true := by decide +kernel
theorem qhs_2 : qhs.all (qlc3 yT1 qSgs qP 20000 qAl [] qhs) = true := List.all_eq_true.mpr (fun c hc => by
  rw [List.mem_singleton.mp hc]
  exact qha0)
theorem qhs_3 : qhs.all (fun c => (List.range 5).all (qlx yT1 qSgs qP 20000 qAl c)) = true := List.all_eq_true.mpr (fun c hc => by
  rw [List.mem_singleton.mp hc]
  exact qhb0)
theorem law_E (ys : List Int32) (hL : ys.length ≤ 2560) : yE [0, (ys.length : Int), 0] [[(0, 0)], [(0, 2560)], [(0, 2560)]] := by
  refine ⟨rfl, rfl, fun s iv hs => ?_⟩
  match s, hs with
    | 0, hs => cases hs; exact ⟨0, rfl, yM_1 (by omega) (by omega)⟩
    | 1, hs => cases hs; exact ⟨(ys.length : Int), rfl, yM_1 (by omega) (by omega)⟩
    | 2, hs => cases hs; exact ⟨0, rfl, yM_1 (by omega) (by omega)⟩
    | s + 3, hs => simp at hs
theorem law_term (ys : List Int32) (hL : ys.length ≤ 2560) : ∃ r h', zEv (some ys) 20 zm_L_law (18, zL0, [], zh0) r h' ∧ h'.length = 86 ∧ zsz h' = 1471 := by
  have hE := law_E ys hL
  have hG : qG yT1 qAl 86 1471 [0, (ys.length : Int), 0] (((18, [[(0, 0)], [(0, 2560)], [(0, 2560)]], [(3, .inl (2, 0)), (2, .inr (.inr (.ref 71))), (1, .inr (.inr (.ref 0))), (0, .inr (.inr (.retAddr 0)))], [], []) : yS), []) (18, zL0, [], zh0) := by
    refine ⟨⟨rfl, hE, yF2_LR (zF2_c ⟨rfl, yVG_mi (X := 0) ⟨0, rfl, rfl⟩⟩ (zF2_c ⟨rfl, yVG_mw _⟩ (zF2_c ⟨rfl, yVG_mw _⟩ (zF2_c ⟨rfl, yVG_mw _⟩ True.intro)))), True.intro, yfresh, fun e he => absurd he List.not_mem_nil⟩, yFa_n⟩
  exact q_law3 qSgs_ok qhs_1 qhs_2 qhs_3 ys hL ys.length qh0 List.mem_cons_self _ _ 0 (by omega) (by omega) hG rfl rfl
