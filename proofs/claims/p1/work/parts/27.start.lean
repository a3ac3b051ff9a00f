/-! the law from its entry -/
def zc7 : zC := (Sum.inr 7, [.null, .null, .null, .null, .null, .null, .null, .null, .int 0])
def zc8 : zC := (Sum.inr 8, (zfts.getD 8 []).map fun t => zdf t.1)
set_option maxRecDepth 100000 in
theorem zi7 : zex 3000 none 19 zm_X7_init (0, lv_args 0 [.ref 0], [], [zc7]) = some (none, zh0.take 71) := by decide +kernel
set_option maxRecDepth 100000 in
theorem zi8 : zex 3000 none 19 zm_X8_init (0, lv_args 0 [.ref 71], [], zh0.take 71 ++ [zc8]) = some (none, zh0) := by decide +kernel
def zl1 : zLo := [(1, .ref 0), (0, .retAddr 0)]
def zl2a : zLo := [(2, .ref 71), (1, .ref 0), (0, .retAddr 0)]
set_option maxRecDepth 100000 in
theorem zlen71 : (zh0.take 71).length = 71 := by decide +kernel
set_option maxRecDepth 100000 in
theorem zpre (ys : List Int32) {r : Option Value} {h' : zHp} (hx : zEv (some ys) 20 zm_L_law (18, zL0, [], zh0) r h') : zEv (some ys) 20 zm_L_law (0, [(0, .retAddr 0)], [], []) r h' := by
  refine zEv_step (st' := (3, [(0, .retAddr 0)], [.ref 0], [zc7])) rfl ?_
  refine zEv_step (st' := (4, [(0, .retAddr 0)], [.ref 0, .ref 0], [zc7])) rfl ?_
  refine zEv_call (kd := 2) (id := 64) (as := [.ref 0]) (rest := [.ref 0]) (mi' := zm_X7_init) rfl rfl (by decide +kernel) ⟨3000, zi7⟩ ?_
  show zEv (some ys) 20 zm_L_law (7, [(0, .retAddr 0)], [.ref 0], zh0.take 71) r h'
  refine zEv_step (st' := (8, zl1, [], zh0.take 71)) rfl ?_
  refine zEv_step (st' := (11, zl1, [.ref (zh0.take 71).length], zh0.take 71 ++ [zc8])) rfl ?_
  rw [zlen71]
  refine zEv_step (st' := (12, zl1, [.ref 71, .ref 71], zh0.take 71 ++ [zc8])) rfl ?_
  refine zEv_call (kd := 2) (id := 113) (as := [.ref 71]) (rest := [.ref 71]) (mi' := zm_X8_init) rfl rfl (by decide +kernel) ⟨3000, zi8⟩ ?_
  show zEv (some ys) 20 zm_L_law (15, zl1, [.ref 71], zh0) r h'
  refine zEv_step (st' := (16, zl2a, [], zh0)) rfl ?_
  refine zEv_step (st' := (17, zl2a, [.int 0], zh0)) rfl ?_
  refine zEv_step (st' := (18, zL0, [], zh0)) rfl ?_
  exact hx
theorem law_runs (ys : List Int32) (hL : ys.length ≤ 5) : ∃ n h', zex n (some ys) 20 zm_L_law (0, [(0, .retAddr 0)], [], []) = some (some (.int 1), h') ∧ h'.length ≤ 600000 ∧ zsz h' ≤ 7302250 := by
  have key : ∃ h', zEv (some ys) 20 zm_L_law (18, zL0, [], zh0) (some (.int 1)) h' ∧ h'.length = 86 ∧ zsz h' = 1471 := by
    match ys, hL with
    | [], _ => exact yf0
    | [a0], _ => exact yf1 a0
    | [a0, a1], _ => exact yf2 a0 a1
    | [a0, a1, a2], _ => exact yf3 a0 a1 a2
    | [a0, a1, a2, a3], _ => exact yf4 a0 a1 a2 a3
    | [a0, a1, a2, a3, a4], _ => exact yf5 a0 a1 a2 a3 a4
    | _ :: _ :: _ :: _ :: _ :: _ :: _, hL => simp at hL
  obtain ⟨h', x1, x2, x3⟩ := key
  obtain ⟨n, hn⟩ := zpre ys x1
  exact ⟨n, h', hn, by omega, by omega⟩
