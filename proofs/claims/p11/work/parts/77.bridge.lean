/-! the bridge to the engine -/
theorem Zm_65 : zms[65]? = some zm_X7_feed := rfl
theorem Zm_66 : zms[66]? = some zm_X7_end := rfl
theorem Zm_67 : zms[67]? = some zm_X7_text := rfl
theorem Zm_68 : zms[68]? = some zm_X7_fault := rfl
theorem Zm_69 : zms[69]? = some zm_X7_rule := rfl
theorem Zm_70 : zms[70]? = some zm_X7_one := rfl
theorem Zm_71 : zms[71]? = some zm_X7_act := rfl
theorem Zm_72 : zms[72]? = some zm_X7_alter := rfl
theorem Zm_74 : zms[74]? = some zm_X7_slack := rfl
theorem Zm_75 : zms[75]? = some zm_X7_plan := rfl
theorem Zm_76 : zms[76]? = some zm_X7_cut := rfl
theorem Zm_77 : zms[77]? = some zm_X7_turn := rfl
theorem Zm_78 : zms[78]? = some zm_X7_rest := rfl
theorem Zm_79 : zms[79]? = some zm_X7_runs := rfl
theorem Zm_80 : zms[80]? = some zm_X7_ahead := rfl
theorem Zm_81 : zms[81]? = some zm_X7_round := rfl
theorem Zm_83 : zms[83]? = some zm_X7_order := rfl
theorem Zm_84 : zms[84]? = some zm_X7_await := rfl
theorem Zm_86 : zms[86]? = some zm_X7_hands := rfl
theorem Zm_87 : zms[87]? = some zm_X7_clean := rfl
theorem Zm_89 : zms[89]? = some zm_X7_trade := rfl
theorem Zm_90 : zms[90]? = some zm_X7_loose := rfl
theorem Zm_92 : zms[92]? = some zm_X7_mean := rfl
theorem Zm_93 : zms[93]? = some zm_X7_luck := rfl
theorem Zm_99 : zms[99]? = some zm_X7_see := rfl
theorem Zm_100 : zms[100]? = some zm_X7_forget := rfl
theorem Zm_101 : zms[101]? = some zm_X7_counts := rfl
theorem Zm_102 : zms[102]? = some zm_X7_slacks := rfl
theorem Zm_103 : zms[103]? = some zm_X7_look := rfl
theorem Zm_105 : zms[105]? = some zm_X7_drift := rfl
theorem Zm_106 : zms[106]? = some zm_X7_keep := rfl
theorem Zm_107 : zms[107]? = some zm_X7_back := rfl
theorem Zm_108 : zms[108]? = some zm_X7_sheet := rfl
theorem Zm_109 : zms[109]? = some zm_X7_lay := rfl
theorem Zm_110 : zms[110]? = some zm_X7_read := rfl
theorem Zm_111 : zms[111]? = some zm_X7_torn := rfl
theorem Zm_112 : zms[112]? = some zm_X7_count := rfl
theorem Zm_115 : zms[115]? = some zm_X8_feed := rfl
theorem Zm_116 : zms[116]? = some zm_X8_end := rfl
theorem Zm_125 : zms[125]? = some zm_X8_text := rfl
theorem Zm_126 : zms[126]? = some zm_X8_fault := rfl
theorem Zm_133 : zms[133]? = some zm_X8_rule := rfl
theorem Zm_134 : zms[134]? = some zm_X8_one := rfl
theorem Zm_135 : zms[135]? = some zm_X8_act := rfl
theorem Zm_137 : zms[137]? = some zm_X8_alter := rfl
theorem Zm_138 : zms[138]? = some zm_X8_slack := rfl
theorem Zm_140 : zms[140]? = some zm_X8_plan := rfl
theorem Zm_141 : zms[141]? = some zm_X8_cut := rfl
theorem Zm_145 : zms[145]? = some zm_X8_turn := rfl
theorem Zm_146 : zms[146]? = some zm_X8_rest := rfl
theorem Zm_150 : zms[150]? = some zm_X8_runs := rfl
theorem Zm_151 : zms[151]? = some zm_X8_ahead := rfl
theorem Zm_152 : zms[152]? = some zm_X8_round := rfl
theorem Zm_156 : zms[156]? = some zm_X8_order := rfl
theorem Zm_158 : zms[158]? = some zm_X8_await := rfl
theorem Zm_159 : zms[159]? = some zm_X8_hands := rfl
theorem Zm_160 : zms[160]? = some zm_X8_clean := rfl
theorem Zm_161 : zms[161]? = some zm_X8_trade := rfl
theorem Zm_162 : zms[162]? = some zm_X8_loose := rfl
theorem Zm_165 : zms[165]? = some zm_X8_mean := rfl
theorem Zm_166 : zms[166]? = some zm_X8_luck := rfl
theorem Zm_167 : zms[167]? = some zm_X8_see := rfl
theorem Zm_168 : zms[168]? = some zm_X8_forget := rfl
theorem Zm_171 : zms[171]? = some zm_X8_counts := rfl
theorem Zm_172 : zms[172]? = some zm_X8_slacks := rfl
theorem Zm_173 : zms[173]? = some zm_X8_look := rfl
theorem Zm_174 : zms[174]? = some zm_X8_drift := rfl
theorem Zm_175 : zms[175]? = some zm_X8_keep := rfl
theorem Zm_176 : zms[176]? = some zm_X8_back := rfl
theorem Zm_177 : zms[177]? = some zm_X8_sheet := rfl
theorem Zm_178 : zms[178]? = some zm_X8_lay := rfl
theorem Zm_179 : zms[179]? = some zm_X8_read := rfl
theorem Zm_180 : zms[180]? = some zm_X8_torn := rfl
theorem Zm_181 : zms[181]? = some zm_X8_count := rfl
theorem zEv_det {sc : Option (List Int32)} {d : Nat} {mi : zMi} {st : zSt} {r1 r2 : Option Value} {h1 h2 : zHp} (a : zEv sc d mi st r1 h1) (b : zEv sc d mi st r2 h2) : r1 = r2 ∧ h1 = h2 := by
  obtain ⟨n, hn⟩ := a
  obtain ⟨k, hk⟩ := b
  have x := zex_le (Nat.le_max_left n k) hn
  have y := zex_le (Nat.le_max_right n k) hk
  rw [x] at y
  simp only [Option.some.injEq, Prod.mk.injEq] at y
  exact y
/-- a place of an int -/
def zpl1 (k i : Nat) : Prop := ∃ c, zLY[k]? = some c ∧ c.2[i]? = some none
theorem zplc_hp {m : zM} {k i : Nat} (h : zpl1 k i) : zplc (zhp m) k i = some (.int (m k i)) := by
  obtain ⟨c, c1, c2⟩ := h
  unfold zplc
  rw [zhp_get c1, Option.bind_some]
  show (zhpc (m k) 0 c.2)[i]? = _
  rw [zhpc_get, c2, Nat.zero_add]
  rfl
theorem zhp_inj {m m1 : zM} (h : zhp m = zhp m1) {k i : Nat} (hp : zpl1 k i) : m k i = m1 k i := by
  have h1 := zplc_hp (m := m) hp
  rw [h, zplc_hp hp] at h1
  simp only [Option.some.injEq, Value.int.injEq] at h1
  exact h1.symm
def zTy (m : zM) : Prop := yTp yT1 86 1471 (zhp m)
def zfm (md : yMd) (m m1 : zM) : Prop := ∀ k i, zpl1 k i → ymd md k i = false → m1 k i = m k i
def zlyc (k : Nat) : Bool := match yki yT1 k, zLY[k]? with
  | some x, some c => decide (x.1 = c.1) && decide (x.2 = c.2.length) && (List.range c.2.length).all (fun i => match ydf yT1 k i, c.2[i]? with
    | some (.inl _), some none => true
    | some (.inr w), some (some v) => decide (v = w)
    | _, _ => false)
  | _, _ => false
set_option maxRecDepth 100000 in
theorem zlyc_ok : (List.range 86).all zlyc = true := by decide +kernel
theorem zLY_len : zLY.length = 86 := by decide +kernel
def zmof (h : zHp) : zM := fun k i => match zplc h k i with
  | some (.int x) => x
  | _ => 0
theorem zTy_of {h : zHp} (ht : yTp yT1 86 1471 h) : h = zhp (zmof h) := by
  apply List.ext_getElem?
  intro k
  by_cases hk : k < 86
  · have h1 := List.all_eq_true.mp zlyc_ok k (List.mem_range.mpr hk)
    unfold zlyc at h1
    cases hy : yki yT1 k with
    | none => rw [hy] at h1; cases h1
    | some x =>
      cases hc : zLY[k]? with
      | none => rw [hy, hc] at h1; cases h1
      | some c =>
        rw [hy, hc] at h1
        simp only [Bool.and_eq_true, decide_eq_true_eq] at h1
        obtain ⟨⟨a1, a2⟩, a3⟩ := h1
        obtain ⟨vs, g1, g2, g3⟩ := ht.2.2 k x hy
        rw [g1, zhp_get hc]
        congr 1
        refine Prod.ext a1 ?_
        apply List.ext_getElem?
        intro i
        show vs[i]? = (zhpc (zmof h k) 0 c.2)[i]?
        rw [zhpc_get]
        by_cases hi : i < c.2.length
        · have hv : vs[i]? = some vs[i] := List.getElem?_eq_getElem (by omega)
          have h5 := List.all_eq_true.mp a3 i (List.mem_range.mpr hi)
          have h6 := g3 i _ hv
          have hpl : zplc h k i = some vs[i] := by
            unfold zplc
            rw [g1, Option.bind_some]
            exact hv
          unfold yDf at h6
          cases hd : ydf yT1 k i with
          | none => rw [hd] at h5; cases h5
          | some q =>
            cases hcc : c.2[i]? with
            | none => rw [hd, hcc] at h5; cases q <;> cases h5
            | some o =>
              rw [hd, hcc] at h5
              rw [hd] at h6
              match q, o, h5, h6 with
              | .inl iv, none, h5, h6 =>
                obtain ⟨X, e, _⟩ := h6
                rw [hv, e]
                simp only [Option.map_some, Option.getD_none, Nat.zero_add]
                congr 1
                unfold zmof
                rw [hpl, e]
              | .inr w, some v, h5, h6 =>
                have e1 : v = w := of_decide_eq_true h5
                have e2 : vs[i] = w := h6
                rw [hv, e2, e1]
                rfl
              | .inl iv, some v, h5, h6 => cases h5
              | .inr w, none, h5, h6 => cases h5
        · rw [List.getElem?_eq_none (by omega), List.getElem?_eq_none (by omega)]
          rfl
  · rw [List.getElem?_eq_none (by rw [ht.1]; omega), zhp_g0, List.getElem?_eq_none (by rw [zLY_len]; omega)]
    rfl
theorem zTy_b {m : zM} {k i : Nat} {x : (Nat ⊕ Nat) × Nat} {iv : yI} (ht : zTy m) (hk : yki yT1 k = some x) (hp : zpl1 k i) (hd : ydf yT1 k i = some (.inl iv)) : yM iv (m k i).toInt := by
  obtain ⟨vs, h1, h2, h3⟩ := ht.2.2 k x hk
  obtain ⟨c, c1, c2⟩ := hp
  rw [zhp_get c1] at h1
  simp only [Option.some.injEq, Prod.mk.injEq] at h1
  have h4 := h3 i (.int (m k i)) (by rw [← h1.2, zhpc_get, c2, Nat.zero_add]; rfl)
  unfold yDf at h4
  rw [hd] at h4
  obtain ⟨X, e, y⟩ := h4
  cases e
  exact y
theorem zTy_r {m : zM} {k i : Nat} {x : (Nat ⊕ Nat) × Nat} {a b : Int} (ht : zTy m) (hk : yki yT1 k = some x) (hp : zpl1 k i) (hd : ydf yT1 k i = some (.inl [(a, b)])) : a ≤ (m k i).toInt ∧ (m k i).toInt ≤ b := by
  obtain ⟨p, p1, p2⟩ := zTy_b ht hk hp hd
  rw [List.mem_singleton.mp p1] at p2
  exact p2
theorem zpl_r {k n i : Nat} {t : Nat ⊕ Nat} (h : zLY[k]? = some (t, List.replicate n none)) (hi : i < n) : zpl1 k i := ⟨_, h, zrp_get hi⟩
theorem zeA {ρ : List Int} : ∀ (xs : List Int32) (k : Nat), (∀ (j : Nat) (x : Int32), xs[j]? = some x → ρ[k + j + 1]? = some x.toInt) → zF2 (yVG ρ) ((List.range' k xs.length).map (fun j => (.inl (j + 1, (0 : Int)) : yV))) (xs.map Value.int)
  | [], k, _ => True.intro
  | x :: xs, k, h => by
    simp only [List.length_cons, List.range'_succ, List.map_cons]
    refine zF2_c ⟨x, rfl, x.toInt, ?_, by show _ = _ + (0 : Int); omega⟩ (zeA xs (k + 1) (fun j y hj => ?_))
    · have := h 0 x rfl
      rw [Nat.add_zero] at this
      exact this
    · have := h (j + 1) y hj
      rw [show k + 1 + j + 1 = k + (j + 1) + 1 by omega]
      exact this
theorem eng_call {s : qSm} {mi : zMi} {a d n : Nat} {xs : List Int32} {m : zM} {r : Option Value} {h' : zHp} (hs : qOK yT1 86 1471 s) (hm : zms[s.1]? = some mi) (hd : s.2.1 ≤ d) (hn : xs.length = n) (he : s.2.2.2.1 = (.inr (.inr (.ref a)) :: (List.range n).map (fun j => (.inl (j + 1, (0 : Int)) : yV)), [((0 : Int), (0 : Int))] :: List.replicate n yI32, [])) (ht : zTy m) (H : zEv none d mi (0, lv_args 0 (.ref a :: xs.map Value.int), [], zhp m) r h') : ∃ m1, h' = zhp m1 ∧ zTy m1 ∧ zfm s.2.2.1 m m1 ∧ ∃ o ∈ s.2.2.2.2, ∃ ρ, yOv ρ o.1 r := by
  subst hn
  have h0 := hs d hd (0 :: xs.map (fun x => x.toInt)) (zhp m) (.ref a :: xs.map Value.int)
  rw [he] at h0
  have hE : yE (0 :: xs.map (fun x => x.toInt)) ([((0 : Int), (0 : Int))] :: List.replicate xs.length yI32) := by
    refine ⟨by simp, rfl, fun k iv hk => ?_⟩
    cases k with
    | zero =>
      simp only [List.getElem?_cons_zero, Option.some.injEq] at hk
      subst hk
      exact ⟨0, rfl, yM_1 (by omega) (by omega)⟩
    | succ k =>
      simp only [List.getElem?_cons_succ] at hk
      rw [List.getElem?_replicate] at hk
      split at hk
      · rename_i hl
        cases hk
        refine ⟨(xs[k]).toInt, ?_, yM_32 _⟩
        simp only [List.getElem?_cons_succ, List.getElem?_map, List.getElem?_eq_getElem hl, Option.map_some]
      · cases hk
  have hA : zF2 (yVG (0 :: xs.map (fun x => x.toInt))) (.inr (.inr (.ref a)) :: (List.range xs.length).map (fun j => (.inl (j + 1, (0 : Int)) : yV))) (.ref a :: xs.map Value.int) := by
    refine zF2_c (yVG_mw _) ?_
    rw [List.range_eq_range']
    refine zeA xs 0 (fun j x hj => ?_)
    rw [Nat.zero_add, List.getElem?_cons_succ, List.getElem?_map, hj]
    rfl
  obtain ⟨mi2, r2, h2, x1, x2, x3, o, o1, t, x4⟩ := h0 hE hA ⟨ht, fun e he => absurd he List.not_mem_nil⟩
  rw [hm] at x1
  cases x1
  obtain ⟨e1, e2⟩ := zEv_det H x2
  subst e1
  subst e2
  have hty := x4.2.2.1.1
  have hof := zTy_of hty
  refine ⟨zmof h', hof, by unfold zTy; rw [← hof]; exact hty, fun k i hp hmd => ?_, o, o1, _, x4.1⟩
  have h7 := x3 k i hmd
  rw [hof, zplc_hp hp, zplc_hp hp] at h7
  simp only [Option.some.injEq, Value.int.injEq] at h7
  exact h7
def qrI (s : qSm) : Bool := s.2.2.2.2.all (fun o => match o.1 with
  | some (.inl _) => true
  | _ => false)
def qrL (s : qSm) : Bool := s.2.2.2.2.all (fun o => match o.1 with
  | some (.inr (.inl _)) => true
  | _ => false)
theorem eng_i {s : qSm} {mi : zMi} {a d n : Nat} {xs : List Int32} {m : zM} {r : Option Value} {h' : zHp} (hs : qOK yT1 86 1471 s) (hm : zms[s.1]? = some mi) (hd : s.2.1 ≤ d) (hn : xs.length = n) (he : s.2.2.2.1 = (.inr (.inr (.ref a)) :: (List.range n).map (fun j => (.inl (j + 1, (0 : Int)) : yV)), [((0 : Int), (0 : Int))] :: List.replicate n yI32, [])) (hr : qrI s = true) (ht : zTy m) (H : zEv none d mi (0, lv_args 0 (.ref a :: xs.map Value.int), [], zhp m) r h') : ∃ m1 v, r = some (.int v) ∧ h' = zhp m1 ∧ zTy m1 ∧ zfm s.2.2.1 m m1 := by
  obtain ⟨m1, x1, x2, x3, o, o1, ρ, x4⟩ := eng_call hs hm hd hn he ht H
  have h1 := List.all_eq_true.mp hr o o1
  split at h1
  · rename_i y hy
    rw [hy] at x4
    cases r with
    | none => exact absurd x4 (fun w => w)
    | some v =>
      obtain ⟨X, e, _⟩ := yVG_i (show yVG ρ (.inl y) v from x4)
      rw [e]
      exact ⟨m1, X, rfl, x1, x2, x3⟩
  · cases h1
theorem eng_l {s : qSm} {mi : zMi} {a d n : Nat} {xs : List Int32} {m : zM} {r : Option Value} {h' : zHp} (hs : qOK yT1 86 1471 s) (hm : zms[s.1]? = some mi) (hd : s.2.1 ≤ d) (hn : xs.length = n) (he : s.2.2.2.1 = (.inr (.inr (.ref a)) :: (List.range n).map (fun j => (.inl (j + 1, (0 : Int)) : yV)), [((0 : Int), (0 : Int))] :: List.replicate n yI32, [])) (hr : qrL s = true) (ht : zTy m) (H : zEv none d mi (0, lv_args 0 (.ref a :: xs.map Value.int), [], zhp m) r h') : ∃ m1 v, r = some (.long v) ∧ h' = zhp m1 ∧ zTy m1 ∧ zfm s.2.2.1 m m1 := by
  obtain ⟨m1, x1, x2, x3, o, o1, ρ, x4⟩ := eng_call hs hm hd hn he ht H
  have h1 := List.all_eq_true.mp hr o o1
  split at h1
  · rename_i y hy
    rw [hy] at x4
    cases r with
    | none => exact absurd x4 (fun w => w)
    | some v =>
      obtain ⟨X, e, _⟩ := yVG_l (show yVG ρ (.inr (.inl y)) v from x4)
      rw [e]
      exact ⟨m1, X, rfl, x1, x2, x3⟩
  · cases h1
theorem e_X7_feed {m : zM} {r : Option Value} {h' : zHp} {x0 : Int32} (ht : zTy m) (H : zEv none 19 zm_X7_feed (0, lv_args 0 [.ref 0, .int x0], [], zhp m) r h') : ∃ m1 v, r = some (.int v) ∧ h' = zhp m1 ∧ zTy m1 ∧ zfm qs0.2.2.1 m m1 := eng_i (s := qs0) (a := 0) (n := 1) (xs := [x0]) qo0 Zm_65 (by decide) rfl rfl (by decide +kernel) ht H
theorem e_X7_end {m : zM} {r : Option Value} {h' : zHp} {x0 : Int32} (ht : zTy m) (H : zEv none 19 zm_X7_end (0, lv_args 0 [.ref 0, .int x0], [], zhp m) r h') : ∃ m1 v, r = some (.int v) ∧ h' = zhp m1 ∧ zTy m1 ∧ zfm qs1.2.2.1 m m1 := eng_i (s := qs1) (a := 0) (n := 1) (xs := [x0]) qo1 Zm_66 (by decide) rfl rfl (by decide +kernel) ht H
theorem e_X7_text {m : zM} {r : Option Value} {h' : zHp} (ht : zTy m) (H : zEv none 19 zm_X7_text (0, lv_args 0 [.ref 0], [], zhp m) r h') : ∃ m1 v, r = some (.int v) ∧ h' = zhp m1 ∧ zTy m1 ∧ zfm qs21.2.2.1 m m1 := eng_i (s := qs21) (a := 0) (n := 0) (xs := []) qo21 Zm_67 (by decide) rfl rfl (by decide +kernel) ht H
theorem e_X7_fault {m : zM} {r : Option Value} {h' : zHp} (ht : zTy m) (H : zEv none 19 zm_X7_fault (0, lv_args 0 [.ref 0], [], zhp m) r h') : ∃ m1 v, r = some (.int v) ∧ h' = zhp m1 ∧ zTy m1 ∧ zfm qs22.2.2.1 m m1 := eng_i (s := qs22) (a := 0) (n := 0) (xs := []) qo22 Zm_68 (by decide) rfl rfl (by decide +kernel) ht H
theorem e_X7_rule {m : zM} {r : Option Value} {h' : zHp} {x0 : Int32} (ht : zTy m) (H : zEv none 19 zm_X7_rule (0, lv_args 0 [.ref 0, .int x0], [], zhp m) r h') : ∃ m1 v, r = some (.int v) ∧ h' = zhp m1 ∧ zTy m1 ∧ zfm qs27.2.2.1 m m1 := eng_i (s := qs27) (a := 0) (n := 1) (xs := [x0]) qo27 Zm_69 (by decide) rfl rfl (by decide +kernel) ht H
theorem e_X7_one {m : zM} {r : Option Value} {h' : zHp} {x0 x1 : Int32} (ht : zTy m) (H : zEv none 19 zm_X7_one (0, lv_args 0 [.ref 0, .int x0, .int x1], [], zhp m) r h') : ∃ m1 v, r = some (.int v) ∧ h' = zhp m1 ∧ zTy m1 ∧ zfm qs28.2.2.1 m m1 := eng_i (s := qs28) (a := 0) (n := 2) (xs := [x0, x1]) qo28 Zm_70 (by decide) rfl rfl (by decide +kernel) ht H
theorem e_X7_act {m : zM} {r : Option Value} {h' : zHp} {x0 : Int32} (ht : zTy m) (H : zEv none 19 zm_X7_act (0, lv_args 0 [.ref 0, .int x0], [], zhp m) r h') : ∃ m1 v, r = some (.int v) ∧ h' = zhp m1 ∧ zTy m1 ∧ zfm qs29.2.2.1 m m1 := eng_i (s := qs29) (a := 0) (n := 1) (xs := [x0]) qo29 Zm_71 (by decide) rfl rfl (by decide +kernel) ht H
theorem e_X7_alter {m : zM} {r : Option Value} {h' : zHp} {x0 x1 x2 : Int32} (ht : zTy m) (H : zEv none 19 zm_X7_alter (0, lv_args 0 [.ref 0, .int x0, .int x1, .int x2], [], zhp m) r h') : ∃ m1 v, r = some (.int v) ∧ h' = zhp m1 ∧ zTy m1 ∧ zfm qs30.2.2.1 m m1 := eng_i (s := qs30) (a := 0) (n := 3) (xs := [x0, x1, x2]) qo30 Zm_72 (by decide) rfl rfl (by decide +kernel) ht H
theorem e_X7_slack {m : zM} {r : Option Value} {h' : zHp} {x0 : Int32} (ht : zTy m) (H : zEv none 19 zm_X7_slack (0, lv_args 0 [.ref 0, .int x0], [], zhp m) r h') : ∃ m1 v, r = some (.int v) ∧ h' = zhp m1 ∧ zTy m1 ∧ zfm qs31.2.2.1 m m1 := eng_i (s := qs31) (a := 0) (n := 1) (xs := [x0]) qo31 Zm_74 (by decide) rfl rfl (by decide +kernel) ht H
theorem e_X7_plan {m : zM} {r : Option Value} {h' : zHp} {x0 : Int32} (ht : zTy m) (H : zEv none 19 zm_X7_plan (0, lv_args 0 [.ref 0, .int x0], [], zhp m) r h') : ∃ m1 v, r = some (.int v) ∧ h' = zhp m1 ∧ zTy m1 ∧ zfm qs32.2.2.1 m m1 := eng_i (s := qs32) (a := 0) (n := 1) (xs := [x0]) qo32 Zm_75 (by decide) rfl rfl (by decide +kernel) ht H
theorem e_X7_cut {m : zM} {r : Option Value} {h' : zHp} {x0 : Int32} (ht : zTy m) (H : zEv none 19 zm_X7_cut (0, lv_args 0 [.ref 0, .int x0], [], zhp m) r h') : ∃ m1 v, r = some (.int v) ∧ h' = zhp m1 ∧ zTy m1 ∧ zfm qs33.2.2.1 m m1 := eng_i (s := qs33) (a := 0) (n := 1) (xs := [x0]) qo33 Zm_76 (by decide) rfl rfl (by decide +kernel) ht H
theorem e_X7_turn {m : zM} {r : Option Value} {h' : zHp} {x0 : Int32} (ht : zTy m) (H : zEv none 19 zm_X7_turn (0, lv_args 0 [.ref 0, .int x0], [], zhp m) r h') : ∃ m1 v, r = some (.int v) ∧ h' = zhp m1 ∧ zTy m1 ∧ zfm qs36.2.2.1 m m1 := eng_i (s := qs36) (a := 0) (n := 1) (xs := [x0]) qo36 Zm_77 (by decide) rfl rfl (by decide +kernel) ht H
theorem e_X7_rest {m : zM} {r : Option Value} {h' : zHp} {x0 : Int32} (ht : zTy m) (H : zEv none 19 zm_X7_rest (0, lv_args 0 [.ref 0, .int x0], [], zhp m) r h') : ∃ m1 v, r = some (.int v) ∧ h' = zhp m1 ∧ zTy m1 ∧ zfm qs38.2.2.1 m m1 := eng_i (s := qs38) (a := 0) (n := 1) (xs := [x0]) qo38 Zm_78 (by decide) rfl rfl (by decide +kernel) ht H
theorem e_X7_runs {m : zM} {r : Option Value} {h' : zHp} {x0 : Int32} (ht : zTy m) (H : zEv none 19 zm_X7_runs (0, lv_args 0 [.ref 0, .int x0], [], zhp m) r h') : ∃ m1 v, r = some (.int v) ∧ h' = zhp m1 ∧ zTy m1 ∧ zfm qs47.2.2.1 m m1 := eng_i (s := qs47) (a := 0) (n := 1) (xs := [x0]) qo47 Zm_79 (by decide) rfl rfl (by decide +kernel) ht H
theorem e_X7_ahead {m : zM} {r : Option Value} {h' : zHp} {x0 : Int32} (ht : zTy m) (H : zEv none 19 zm_X7_ahead (0, lv_args 0 [.ref 0, .int x0], [], zhp m) r h') : ∃ m1 v, r = some (.int v) ∧ h' = zhp m1 ∧ zTy m1 ∧ zfm qs48.2.2.1 m m1 := eng_i (s := qs48) (a := 0) (n := 1) (xs := [x0]) qo48 Zm_80 (by decide) rfl rfl (by decide +kernel) ht H
theorem e_X7_round {m : zM} {r : Option Value} {h' : zHp} (ht : zTy m) (H : zEv none 19 zm_X7_round (0, lv_args 0 [.ref 0], [], zhp m) r h') : ∃ m1 v, r = some (.int v) ∧ h' = zhp m1 ∧ zTy m1 ∧ zfm qs49.2.2.1 m m1 := eng_i (s := qs49) (a := 0) (n := 0) (xs := []) qo49 Zm_81 (by decide) rfl rfl (by decide +kernel) ht H
theorem e_X7_order {m : zM} {r : Option Value} {h' : zHp} {x0 x1 : Int32} (ht : zTy m) (H : zEv none 19 zm_X7_order (0, lv_args 0 [.ref 0, .int x0, .int x1], [], zhp m) r h') : ∃ m1 v, r = some (.int v) ∧ h' = zhp m1 ∧ zTy m1 ∧ zfm qs62.2.2.1 m m1 := eng_i (s := qs62) (a := 0) (n := 2) (xs := [x0, x1]) qo62 Zm_83 (by decide) rfl rfl (by decide +kernel) ht H
theorem e_X7_await {m : zM} {r : Option Value} {h' : zHp} {x0 x1 : Int32} (ht : zTy m) (H : zEv none 19 zm_X7_await (0, lv_args 0 [.ref 0, .int x0, .int x1], [], zhp m) r h') : ∃ m1 v, r = some (.int v) ∧ h' = zhp m1 ∧ zTy m1 ∧ zfm qs70.2.2.1 m m1 := eng_i (s := qs70) (a := 0) (n := 2) (xs := [x0, x1]) qo70 Zm_84 (by decide) rfl rfl (by decide +kernel) ht H
theorem e_X7_hands {m : zM} {r : Option Value} {h' : zHp} {x0 : Int32} (ht : zTy m) (H : zEv none 19 zm_X7_hands (0, lv_args 0 [.ref 0, .int x0], [], zhp m) r h') : ∃ m1 v, r = some (.int v) ∧ h' = zhp m1 ∧ zTy m1 ∧ zfm qs72.2.2.1 m m1 := eng_i (s := qs72) (a := 0) (n := 1) (xs := [x0]) qo72 Zm_86 (by decide) rfl rfl (by decide +kernel) ht H
theorem e_X7_clean {m : zM} {r : Option Value} {h' : zHp} {x0 : Int32} (ht : zTy m) (H : zEv none 19 zm_X7_clean (0, lv_args 0 [.ref 0, .int x0], [], zhp m) r h') : ∃ m1 v, r = some (.int v) ∧ h' = zhp m1 ∧ zTy m1 ∧ zfm qs73.2.2.1 m m1 := eng_i (s := qs73) (a := 0) (n := 1) (xs := [x0]) qo73 Zm_87 (by decide) rfl rfl (by decide +kernel) ht H
theorem e_X7_trade {m : zM} {r : Option Value} {h' : zHp} {x0 : Int32} (ht : zTy m) (H : zEv none 19 zm_X7_trade (0, lv_args 0 [.ref 0, .int x0], [], zhp m) r h') : ∃ m1 v, r = some (.int v) ∧ h' = zhp m1 ∧ zTy m1 ∧ zfm qs74.2.2.1 m m1 := eng_i (s := qs74) (a := 0) (n := 1) (xs := [x0]) qo74 Zm_89 (by decide) rfl rfl (by decide +kernel) ht H
theorem e_X7_loose {m : zM} {r : Option Value} {h' : zHp} (ht : zTy m) (H : zEv none 19 zm_X7_loose (0, lv_args 0 [.ref 0], [], zhp m) r h') : ∃ m1 v, r = some (.int v) ∧ h' = zhp m1 ∧ zTy m1 ∧ zfm qs75.2.2.1 m m1 := eng_i (s := qs75) (a := 0) (n := 0) (xs := []) qo75 Zm_90 (by decide) rfl rfl (by decide +kernel) ht H
theorem e_X7_mean {m : zM} {r : Option Value} {h' : zHp} {x0 x1 : Int32} (ht : zTy m) (H : zEv none 19 zm_X7_mean (0, lv_args 0 [.ref 0, .int x0, .int x1], [], zhp m) r h') : ∃ m1 v, r = some (.long v) ∧ h' = zhp m1 ∧ zTy m1 ∧ zfm qs79.2.2.1 m m1 := eng_l (s := qs79) (a := 0) (n := 2) (xs := [x0, x1]) qo79 Zm_92 (by decide) rfl rfl (by decide +kernel) ht H
theorem e_X7_luck {m : zM} {r : Option Value} {h' : zHp} {x0 x1 x2 : Int32} (ht : zTy m) (H : zEv none 19 zm_X7_luck (0, lv_args 0 [.ref 0, .int x0, .int x1, .int x2], [], zhp m) r h') : ∃ m1 v, r = some (.long v) ∧ h' = zhp m1 ∧ zTy m1 ∧ zfm qs80.2.2.1 m m1 := eng_l (s := qs80) (a := 0) (n := 3) (xs := [x0, x1, x2]) qo80 Zm_93 (by decide) rfl rfl (by decide +kernel) ht H
theorem e_X7_see {m : zM} {r : Option Value} {h' : zHp} {x0 x1 : Int32} (ht : zTy m) (H : zEv none 19 zm_X7_see (0, lv_args 0 [.ref 0, .int x0, .int x1], [], zhp m) r h') : ∃ m1 v, r = some (.int v) ∧ h' = zhp m1 ∧ zTy m1 ∧ zfm qs81.2.2.1 m m1 := eng_i (s := qs81) (a := 0) (n := 2) (xs := [x0, x1]) qo81 Zm_99 (by decide) rfl rfl (by decide +kernel) ht H
theorem e_X7_forget {m : zM} {r : Option Value} {h' : zHp} {x0 : Int32} (ht : zTy m) (H : zEv none 19 zm_X7_forget (0, lv_args 0 [.ref 0, .int x0], [], zhp m) r h') : ∃ m1 v, r = some (.int v) ∧ h' = zhp m1 ∧ zTy m1 ∧ zfm qs82.2.2.1 m m1 := eng_i (s := qs82) (a := 0) (n := 1) (xs := [x0]) qo82 Zm_100 (by decide) rfl rfl (by decide +kernel) ht H
theorem e_X7_counts {m : zM} {r : Option Value} {h' : zHp} {x0 x1 : Int32} (ht : zTy m) (H : zEv none 19 zm_X7_counts (0, lv_args 0 [.ref 0, .int x0, .int x1], [], zhp m) r h') : ∃ m1 v, r = some (.int v) ∧ h' = zhp m1 ∧ zTy m1 ∧ zfm qs84.2.2.1 m m1 := eng_i (s := qs84) (a := 0) (n := 2) (xs := [x0, x1]) qo84 Zm_101 (by decide) rfl rfl (by decide +kernel) ht H
theorem e_X7_slacks {m : zM} {r : Option Value} {h' : zHp} (ht : zTy m) (H : zEv none 19 zm_X7_slacks (0, lv_args 0 [.ref 0], [], zhp m) r h') : ∃ m1 v, r = some (.int v) ∧ h' = zhp m1 ∧ zTy m1 ∧ zfm qs85.2.2.1 m m1 := eng_i (s := qs85) (a := 0) (n := 0) (xs := []) qo85 Zm_102 (by decide) rfl rfl (by decide +kernel) ht H
theorem e_X7_look {m : zM} {r : Option Value} {h' : zHp} {x0 x1 : Int32} (ht : zTy m) (H : zEv none 19 zm_X7_look (0, lv_args 0 [.ref 0, .int x0, .int x1], [], zhp m) r h') : ∃ m1 v, r = some (.int v) ∧ h' = zhp m1 ∧ zTy m1 ∧ zfm qs90.2.2.1 m m1 := eng_i (s := qs90) (a := 0) (n := 2) (xs := [x0, x1]) qo90 Zm_103 (by decide) rfl rfl (by decide +kernel) ht H
theorem e_X7_drift {m : zM} {r : Option Value} {h' : zHp} {x0 x1 x2 : Int32} (ht : zTy m) (H : zEv none 19 zm_X7_drift (0, lv_args 0 [.ref 0, .int x0, .int x1, .int x2], [], zhp m) r h') : ∃ m1 v, r = some (.int v) ∧ h' = zhp m1 ∧ zTy m1 ∧ zfm qs91.2.2.1 m m1 := eng_i (s := qs91) (a := 0) (n := 3) (xs := [x0, x1, x2]) qo91 Zm_105 (by decide) rfl rfl (by decide +kernel) ht H
theorem e_X7_keep {m : zM} {r : Option Value} {h' : zHp} {x0 : Int32} (ht : zTy m) (H : zEv none 19 zm_X7_keep (0, lv_args 0 [.ref 0, .int x0], [], zhp m) r h') : ∃ m1 v, r = some (.int v) ∧ h' = zhp m1 ∧ zTy m1 ∧ zfm qs94.2.2.1 m m1 := eng_i (s := qs94) (a := 0) (n := 1) (xs := [x0]) qo94 Zm_106 (by decide) rfl rfl (by decide +kernel) ht H
theorem e_X7_back {m : zM} {r : Option Value} {h' : zHp} {x0 : Int32} (ht : zTy m) (H : zEv none 19 zm_X7_back (0, lv_args 0 [.ref 0, .int x0], [], zhp m) r h') : ∃ m1 v, r = some (.int v) ∧ h' = zhp m1 ∧ zTy m1 ∧ zfm qs97.2.2.1 m m1 := eng_i (s := qs97) (a := 0) (n := 1) (xs := [x0]) qo97 Zm_107 (by decide) rfl rfl (by decide +kernel) ht H
theorem e_X7_sheet {m : zM} {r : Option Value} {h' : zHp} {x0 x1 x2 : Int32} (ht : zTy m) (H : zEv none 19 zm_X7_sheet (0, lv_args 0 [.ref 0, .int x0, .int x1, .int x2], [], zhp m) r h') : ∃ m1 v, r = some (.int v) ∧ h' = zhp m1 ∧ zTy m1 ∧ zfm qs102.2.2.1 m m1 := eng_i (s := qs102) (a := 0) (n := 3) (xs := [x0, x1, x2]) qo102 Zm_108 (by decide) rfl rfl (by decide +kernel) ht H
theorem e_X7_lay {m : zM} {r : Option Value} {h' : zHp} {x0 x1 x2 : Int32} (ht : zTy m) (H : zEv none 19 zm_X7_lay (0, lv_args 0 [.ref 0, .int x0, .int x1, .int x2], [], zhp m) r h') : ∃ m1 v, r = some (.int v) ∧ h' = zhp m1 ∧ zTy m1 ∧ zfm qs103.2.2.1 m m1 := eng_i (s := qs103) (a := 0) (n := 3) (xs := [x0, x1, x2]) qo103 Zm_109 (by decide) rfl rfl (by decide +kernel) ht H
theorem e_X7_read {m : zM} {r : Option Value} {h' : zHp} {x0 x1 x2 x3 : Int32} (ht : zTy m) (H : zEv none 19 zm_X7_read (0, lv_args 0 [.ref 0, .int x0, .int x1, .int x2, .int x3], [], zhp m) r h') : ∃ m1 v, r = some (.int v) ∧ h' = zhp m1 ∧ zTy m1 ∧ zfm qs104.2.2.1 m m1 := eng_i (s := qs104) (a := 0) (n := 4) (xs := [x0, x1, x2, x3]) qo104 Zm_110 (by decide) rfl rfl (by decide +kernel) ht H
theorem e_X7_torn {m : zM} {r : Option Value} {h' : zHp} (ht : zTy m) (H : zEv none 19 zm_X7_torn (0, lv_args 0 [.ref 0], [], zhp m) r h') : ∃ m1 v, r = some (.int v) ∧ h' = zhp m1 ∧ zTy m1 ∧ zfm qs105.2.2.1 m m1 := eng_i (s := qs105) (a := 0) (n := 0) (xs := []) qo105 Zm_111 (by decide) rfl rfl (by decide +kernel) ht H
theorem e_X7_count {m : zM} {r : Option Value} {h' : zHp} {x0 : Int32} (ht : zTy m) (H : zEv none 19 zm_X7_count (0, lv_args 0 [.ref 0, .int x0], [], zhp m) r h') : ∃ m1 v, r = some (.int v) ∧ h' = zhp m1 ∧ zTy m1 ∧ zfm qs108.2.2.1 m m1 := eng_i (s := qs108) (a := 0) (n := 1) (xs := [x0]) qo108 Zm_112 (by decide) rfl rfl (by decide +kernel) ht H
theorem e_X8_feed {m : zM} {r : Option Value} {h' : zHp} {x0 : Int32} (ht : zTy m) (H : zEv none 19 zm_X8_feed (0, lv_args 0 [.ref 71, .int x0], [], zhp m) r h') : ∃ m1 v, r = some (.int v) ∧ h' = zhp m1 ∧ zTy m1 ∧ zfm qs110.2.2.1 m m1 := eng_i (s := qs110) (a := 71) (n := 1) (xs := [x0]) qo110 Zm_115 (by decide) rfl rfl (by decide +kernel) ht H
theorem e_X8_end {m : zM} {r : Option Value} {h' : zHp} {x0 : Int32} (ht : zTy m) (H : zEv none 19 zm_X8_end (0, lv_args 0 [.ref 71, .int x0], [], zhp m) r h') : ∃ m1 v, r = some (.int v) ∧ h' = zhp m1 ∧ zTy m1 ∧ zfm qs111.2.2.1 m m1 := eng_i (s := qs111) (a := 71) (n := 1) (xs := [x0]) qo111 Zm_116 (by decide) rfl rfl (by decide +kernel) ht H
theorem e_X8_text {m : zM} {r : Option Value} {h' : zHp} (ht : zTy m) (H : zEv none 19 zm_X8_text (0, lv_args 0 [.ref 71], [], zhp m) r h') : ∃ m1 v, r = some (.int v) ∧ h' = zhp m1 ∧ zTy m1 ∧ zfm qs127.2.2.1 m m1 := eng_i (s := qs127) (a := 71) (n := 0) (xs := []) qo127 Zm_125 (by decide) rfl rfl (by decide +kernel) ht H
theorem e_X8_fault {m : zM} {r : Option Value} {h' : zHp} (ht : zTy m) (H : zEv none 19 zm_X8_fault (0, lv_args 0 [.ref 71], [], zhp m) r h') : ∃ m1 v, r = some (.int v) ∧ h' = zhp m1 ∧ zTy m1 ∧ zfm qs128.2.2.1 m m1 := eng_i (s := qs128) (a := 71) (n := 0) (xs := []) qo128 Zm_126 (by decide) rfl rfl (by decide +kernel) ht H
theorem e_X8_rule {m : zM} {r : Option Value} {h' : zHp} {x0 : Int32} (ht : zTy m) (H : zEv none 19 zm_X8_rule (0, lv_args 0 [.ref 71, .int x0], [], zhp m) r h') : ∃ m1 v, r = some (.int v) ∧ h' = zhp m1 ∧ zTy m1 ∧ zfm qs130.2.2.1 m m1 := eng_i (s := qs130) (a := 71) (n := 1) (xs := [x0]) qo130 Zm_133 (by decide) rfl rfl (by decide +kernel) ht H
theorem e_X8_one {m : zM} {r : Option Value} {h' : zHp} {x0 x1 : Int32} (ht : zTy m) (H : zEv none 19 zm_X8_one (0, lv_args 0 [.ref 71, .int x0, .int x1], [], zhp m) r h') : ∃ m1 v, r = some (.int v) ∧ h' = zhp m1 ∧ zTy m1 ∧ zfm qs131.2.2.1 m m1 := eng_i (s := qs131) (a := 71) (n := 2) (xs := [x0, x1]) qo131 Zm_134 (by decide) rfl rfl (by decide +kernel) ht H
theorem e_X8_act {m : zM} {r : Option Value} {h' : zHp} {x0 : Int32} (ht : zTy m) (H : zEv none 19 zm_X8_act (0, lv_args 0 [.ref 71, .int x0], [], zhp m) r h') : ∃ m1 v, r = some (.int v) ∧ h' = zhp m1 ∧ zTy m1 ∧ zfm qs132.2.2.1 m m1 := eng_i (s := qs132) (a := 71) (n := 1) (xs := [x0]) qo132 Zm_135 (by decide) rfl rfl (by decide +kernel) ht H
theorem e_X8_alter {m : zM} {r : Option Value} {h' : zHp} {x0 x1 x2 : Int32} (ht : zTy m) (H : zEv none 19 zm_X8_alter (0, lv_args 0 [.ref 71, .int x0, .int x1, .int x2], [], zhp m) r h') : ∃ m1 v, r = some (.int v) ∧ h' = zhp m1 ∧ zTy m1 ∧ zfm qs138.2.2.1 m m1 := eng_i (s := qs138) (a := 71) (n := 3) (xs := [x0, x1, x2]) qo138 Zm_137 (by decide) rfl rfl (by decide +kernel) ht H
theorem e_X8_slack {m : zM} {r : Option Value} {h' : zHp} {x0 : Int32} (ht : zTy m) (H : zEv none 19 zm_X8_slack (0, lv_args 0 [.ref 71, .int x0], [], zhp m) r h') : ∃ m1 v, r = some (.int v) ∧ h' = zhp m1 ∧ zTy m1 ∧ zfm qs139.2.2.1 m m1 := eng_i (s := qs139) (a := 71) (n := 1) (xs := [x0]) qo139 Zm_138 (by decide) rfl rfl (by decide +kernel) ht H
theorem e_X8_plan {m : zM} {r : Option Value} {h' : zHp} {x0 : Int32} (ht : zTy m) (H : zEv none 19 zm_X8_plan (0, lv_args 0 [.ref 71, .int x0], [], zhp m) r h') : ∃ m1 v, r = some (.int v) ∧ h' = zhp m1 ∧ zTy m1 ∧ zfm qs140.2.2.1 m m1 := eng_i (s := qs140) (a := 71) (n := 1) (xs := [x0]) qo140 Zm_140 (by decide) rfl rfl (by decide +kernel) ht H
theorem e_X8_cut {m : zM} {r : Option Value} {h' : zHp} {x0 : Int32} (ht : zTy m) (H : zEv none 19 zm_X8_cut (0, lv_args 0 [.ref 71, .int x0], [], zhp m) r h') : ∃ m1 v, r = some (.int v) ∧ h' = zhp m1 ∧ zTy m1 ∧ zfm qs141.2.2.1 m m1 := eng_i (s := qs141) (a := 71) (n := 1) (xs := [x0]) qo141 Zm_141 (by decide) rfl rfl (by decide +kernel) ht H
theorem e_X8_turn {m : zM} {r : Option Value} {h' : zHp} {x0 : Int32} (ht : zTy m) (H : zEv none 19 zm_X8_turn (0, lv_args 0 [.ref 71, .int x0], [], zhp m) r h') : ∃ m1 v, r = some (.int v) ∧ h' = zhp m1 ∧ zTy m1 ∧ zfm qs144.2.2.1 m m1 := eng_i (s := qs144) (a := 71) (n := 1) (xs := [x0]) qo144 Zm_145 (by decide) rfl rfl (by decide +kernel) ht H
theorem e_X8_rest {m : zM} {r : Option Value} {h' : zHp} {x0 : Int32} (ht : zTy m) (H : zEv none 19 zm_X8_rest (0, lv_args 0 [.ref 71, .int x0], [], zhp m) r h') : ∃ m1 v, r = some (.int v) ∧ h' = zhp m1 ∧ zTy m1 ∧ zfm qs146.2.2.1 m m1 := eng_i (s := qs146) (a := 71) (n := 1) (xs := [x0]) qo146 Zm_146 (by decide) rfl rfl (by decide +kernel) ht H
theorem e_X8_runs {m : zM} {r : Option Value} {h' : zHp} {x0 : Int32} (ht : zTy m) (H : zEv none 19 zm_X8_runs (0, lv_args 0 [.ref 71, .int x0], [], zhp m) r h') : ∃ m1 v, r = some (.int v) ∧ h' = zhp m1 ∧ zTy m1 ∧ zfm qs153.2.2.1 m m1 := eng_i (s := qs153) (a := 71) (n := 1) (xs := [x0]) qo153 Zm_150 (by decide) rfl rfl (by decide +kernel) ht H
theorem e_X8_ahead {m : zM} {r : Option Value} {h' : zHp} {x0 : Int32} (ht : zTy m) (H : zEv none 19 zm_X8_ahead (0, lv_args 0 [.ref 71, .int x0], [], zhp m) r h') : ∃ m1 v, r = some (.int v) ∧ h' = zhp m1 ∧ zTy m1 ∧ zfm qs154.2.2.1 m m1 := eng_i (s := qs154) (a := 71) (n := 1) (xs := [x0]) qo154 Zm_151 (by decide) rfl rfl (by decide +kernel) ht H
theorem e_X8_round {m : zM} {r : Option Value} {h' : zHp} (ht : zTy m) (H : zEv none 19 zm_X8_round (0, lv_args 0 [.ref 71], [], zhp m) r h') : ∃ m1 v, r = some (.int v) ∧ h' = zhp m1 ∧ zTy m1 ∧ zfm qs155.2.2.1 m m1 := eng_i (s := qs155) (a := 71) (n := 0) (xs := []) qo155 Zm_152 (by decide) rfl rfl (by decide +kernel) ht H
theorem e_X8_order {m : zM} {r : Option Value} {h' : zHp} {x0 x1 : Int32} (ht : zTy m) (H : zEv none 19 zm_X8_order (0, lv_args 0 [.ref 71, .int x0, .int x1], [], zhp m) r h') : ∃ m1 v, r = some (.int v) ∧ h' = zhp m1 ∧ zTy m1 ∧ zfm qs159.2.2.1 m m1 := eng_i (s := qs159) (a := 71) (n := 2) (xs := [x0, x1]) qo159 Zm_156 (by decide) rfl rfl (by decide +kernel) ht H
theorem e_X8_await {m : zM} {r : Option Value} {h' : zHp} {x0 x1 : Int32} (ht : zTy m) (H : zEv none 19 zm_X8_await (0, lv_args 0 [.ref 71, .int x0, .int x1], [], zhp m) r h') : ∃ m1 v, r = some (.int v) ∧ h' = zhp m1 ∧ zTy m1 ∧ zfm qs162.2.2.1 m m1 := eng_i (s := qs162) (a := 71) (n := 2) (xs := [x0, x1]) qo162 Zm_158 (by decide) rfl rfl (by decide +kernel) ht H
theorem e_X8_hands {m : zM} {r : Option Value} {h' : zHp} {x0 : Int32} (ht : zTy m) (H : zEv none 19 zm_X8_hands (0, lv_args 0 [.ref 71, .int x0], [], zhp m) r h') : ∃ m1 v, r = some (.int v) ∧ h' = zhp m1 ∧ zTy m1 ∧ zfm qs163.2.2.1 m m1 := eng_i (s := qs163) (a := 71) (n := 1) (xs := [x0]) qo163 Zm_159 (by decide) rfl rfl (by decide +kernel) ht H
theorem e_X8_clean {m : zM} {r : Option Value} {h' : zHp} {x0 : Int32} (ht : zTy m) (H : zEv none 19 zm_X8_clean (0, lv_args 0 [.ref 71, .int x0], [], zhp m) r h') : ∃ m1 v, r = some (.int v) ∧ h' = zhp m1 ∧ zTy m1 ∧ zfm qs164.2.2.1 m m1 := eng_i (s := qs164) (a := 71) (n := 1) (xs := [x0]) qo164 Zm_160 (by decide) rfl rfl (by decide +kernel) ht H
theorem e_X8_trade {m : zM} {r : Option Value} {h' : zHp} {x0 : Int32} (ht : zTy m) (H : zEv none 19 zm_X8_trade (0, lv_args 0 [.ref 71, .int x0], [], zhp m) r h') : ∃ m1 v, r = some (.int v) ∧ h' = zhp m1 ∧ zTy m1 ∧ zfm qs165.2.2.1 m m1 := eng_i (s := qs165) (a := 71) (n := 1) (xs := [x0]) qo165 Zm_161 (by decide) rfl rfl (by decide +kernel) ht H
theorem e_X8_loose {m : zM} {r : Option Value} {h' : zHp} (ht : zTy m) (H : zEv none 19 zm_X8_loose (0, lv_args 0 [.ref 71], [], zhp m) r h') : ∃ m1 v, r = some (.int v) ∧ h' = zhp m1 ∧ zTy m1 ∧ zfm qs166.2.2.1 m m1 := eng_i (s := qs166) (a := 71) (n := 0) (xs := []) qo166 Zm_162 (by decide) rfl rfl (by decide +kernel) ht H
theorem e_X8_mean {m : zM} {r : Option Value} {h' : zHp} {x0 x1 : Int32} (ht : zTy m) (H : zEv none 19 zm_X8_mean (0, lv_args 0 [.ref 71, .int x0, .int x1], [], zhp m) r h') : ∃ m1 v, r = some (.long v) ∧ h' = zhp m1 ∧ zTy m1 ∧ zfm qs170.2.2.1 m m1 := eng_l (s := qs170) (a := 71) (n := 2) (xs := [x0, x1]) qo170 Zm_165 (by decide) rfl rfl (by decide +kernel) ht H
theorem e_X8_luck {m : zM} {r : Option Value} {h' : zHp} {x0 x1 x2 : Int32} (ht : zTy m) (H : zEv none 19 zm_X8_luck (0, lv_args 0 [.ref 71, .int x0, .int x1, .int x2], [], zhp m) r h') : ∃ m1 v, r = some (.long v) ∧ h' = zhp m1 ∧ zTy m1 ∧ zfm qs171.2.2.1 m m1 := eng_l (s := qs171) (a := 71) (n := 3) (xs := [x0, x1, x2]) qo171 Zm_166 (by decide) rfl rfl (by decide +kernel) ht H
theorem e_X8_see {m : zM} {r : Option Value} {h' : zHp} {x0 x1 : Int32} (ht : zTy m) (H : zEv none 19 zm_X8_see (0, lv_args 0 [.ref 71, .int x0, .int x1], [], zhp m) r h') : ∃ m1 v, r = some (.int v) ∧ h' = zhp m1 ∧ zTy m1 ∧ zfm qs173.2.2.1 m m1 := eng_i (s := qs173) (a := 71) (n := 2) (xs := [x0, x1]) qo173 Zm_167 (by decide) rfl rfl (by decide +kernel) ht H
theorem e_X8_forget {m : zM} {r : Option Value} {h' : zHp} {x0 : Int32} (ht : zTy m) (H : zEv none 19 zm_X8_forget (0, lv_args 0 [.ref 71, .int x0], [], zhp m) r h') : ∃ m1 v, r = some (.int v) ∧ h' = zhp m1 ∧ zTy m1 ∧ zfm qs174.2.2.1 m m1 := eng_i (s := qs174) (a := 71) (n := 1) (xs := [x0]) qo174 Zm_168 (by decide) rfl rfl (by decide +kernel) ht H
theorem e_X8_counts {m : zM} {r : Option Value} {h' : zHp} {x0 x1 : Int32} (ht : zTy m) (H : zEv none 19 zm_X8_counts (0, lv_args 0 [.ref 71, .int x0, .int x1], [], zhp m) r h') : ∃ m1 v, r = some (.int v) ∧ h' = zhp m1 ∧ zTy m1 ∧ zfm qs178.2.2.1 m m1 := eng_i (s := qs178) (a := 71) (n := 2) (xs := [x0, x1]) qo178 Zm_171 (by decide) rfl rfl (by decide +kernel) ht H
theorem e_X8_slacks {m : zM} {r : Option Value} {h' : zHp} (ht : zTy m) (H : zEv none 19 zm_X8_slacks (0, lv_args 0 [.ref 71], [], zhp m) r h') : ∃ m1 v, r = some (.int v) ∧ h' = zhp m1 ∧ zTy m1 ∧ zfm qs179.2.2.1 m m1 := eng_i (s := qs179) (a := 71) (n := 0) (xs := []) qo179 Zm_172 (by decide) rfl rfl (by decide +kernel) ht H
theorem e_X8_look {m : zM} {r : Option Value} {h' : zHp} {x0 x1 : Int32} (ht : zTy m) (H : zEv none 19 zm_X8_look (0, lv_args 0 [.ref 71, .int x0, .int x1], [], zhp m) r h') : ∃ m1 v, r = some (.int v) ∧ h' = zhp m1 ∧ zTy m1 ∧ zfm qs180.2.2.1 m m1 := eng_i (s := qs180) (a := 71) (n := 2) (xs := [x0, x1]) qo180 Zm_173 (by decide) rfl rfl (by decide +kernel) ht H
theorem e_X8_drift {m : zM} {r : Option Value} {h' : zHp} {x0 x1 x2 : Int32} (ht : zTy m) (H : zEv none 19 zm_X8_drift (0, lv_args 0 [.ref 71, .int x0, .int x1, .int x2], [], zhp m) r h') : ∃ m1 v, r = some (.int v) ∧ h' = zhp m1 ∧ zTy m1 ∧ zfm qs182.2.2.1 m m1 := eng_i (s := qs182) (a := 71) (n := 3) (xs := [x0, x1, x2]) qo182 Zm_174 (by decide) rfl rfl (by decide +kernel) ht H
theorem e_X8_keep {m : zM} {r : Option Value} {h' : zHp} {x0 : Int32} (ht : zTy m) (H : zEv none 19 zm_X8_keep (0, lv_args 0 [.ref 71, .int x0], [], zhp m) r h') : ∃ m1 v, r = some (.int v) ∧ h' = zhp m1 ∧ zTy m1 ∧ zfm qs185.2.2.1 m m1 := eng_i (s := qs185) (a := 71) (n := 1) (xs := [x0]) qo185 Zm_175 (by decide) rfl rfl (by decide +kernel) ht H
theorem e_X8_back {m : zM} {r : Option Value} {h' : zHp} {x0 : Int32} (ht : zTy m) (H : zEv none 19 zm_X8_back (0, lv_args 0 [.ref 71, .int x0], [], zhp m) r h') : ∃ m1 v, r = some (.int v) ∧ h' = zhp m1 ∧ zTy m1 ∧ zfm qs188.2.2.1 m m1 := eng_i (s := qs188) (a := 71) (n := 1) (xs := [x0]) qo188 Zm_176 (by decide) rfl rfl (by decide +kernel) ht H
theorem e_X8_sheet {m : zM} {r : Option Value} {h' : zHp} {x0 x1 x2 : Int32} (ht : zTy m) (H : zEv none 19 zm_X8_sheet (0, lv_args 0 [.ref 71, .int x0, .int x1, .int x2], [], zhp m) r h') : ∃ m1 v, r = some (.int v) ∧ h' = zhp m1 ∧ zTy m1 ∧ zfm qs189.2.2.1 m m1 := eng_i (s := qs189) (a := 71) (n := 3) (xs := [x0, x1, x2]) qo189 Zm_177 (by decide) rfl rfl (by decide +kernel) ht H
theorem e_X8_lay {m : zM} {r : Option Value} {h' : zHp} {x0 x1 x2 : Int32} (ht : zTy m) (H : zEv none 19 zm_X8_lay (0, lv_args 0 [.ref 71, .int x0, .int x1, .int x2], [], zhp m) r h') : ∃ m1 v, r = some (.int v) ∧ h' = zhp m1 ∧ zTy m1 ∧ zfm qs190.2.2.1 m m1 := eng_i (s := qs190) (a := 71) (n := 3) (xs := [x0, x1, x2]) qo190 Zm_178 (by decide) rfl rfl (by decide +kernel) ht H
theorem e_X8_read {m : zM} {r : Option Value} {h' : zHp} {x0 x1 x2 x3 : Int32} (ht : zTy m) (H : zEv none 19 zm_X8_read (0, lv_args 0 [.ref 71, .int x0, .int x1, .int x2, .int x3], [], zhp m) r h') : ∃ m1 v, r = some (.int v) ∧ h' = zhp m1 ∧ zTy m1 ∧ zfm qs194.2.2.1 m m1 := eng_i (s := qs194) (a := 71) (n := 4) (xs := [x0, x1, x2, x3]) qo194 Zm_179 (by decide) rfl rfl (by decide +kernel) ht H
theorem e_X8_torn {m : zM} {r : Option Value} {h' : zHp} (ht : zTy m) (H : zEv none 19 zm_X8_torn (0, lv_args 0 [.ref 71], [], zhp m) r h') : ∃ m1 v, r = some (.int v) ∧ h' = zhp m1 ∧ zTy m1 ∧ zfm qs195.2.2.1 m m1 := eng_i (s := qs195) (a := 71) (n := 0) (xs := []) qo195 Zm_180 (by decide) rfl rfl (by decide +kernel) ht H
theorem e_X8_count {m : zM} {r : Option Value} {h' : zHp} {x0 : Int32} (ht : zTy m) (H : zEv none 19 zm_X8_count (0, lv_args 0 [.ref 71, .int x0], [], zhp m) r h') : ∃ m1 v, r = some (.int v) ∧ h' = zhp m1 ∧ zTy m1 ∧ zfm qs196.2.2.1 m m1 := eng_i (s := qs196) (a := 71) (n := 1) (xs := [x0]) qo196 Zm_181 (by decide) rfl rfl (by decide +kernel) ht H
