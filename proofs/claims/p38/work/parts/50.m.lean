section
/-! the fresh objects: what they hold, and the law from its entry to its loop -/
def zh0 : zHp := [
(Sum.inr 7, ([.ref 1, .ref 11, .ref 19, .ref 29, .ref 40, .ref 44, .ref 45, .ref 46, .int 0] : List Value)),
  (Sum.inr 2, ([.ref 2, .ref 3] ++ List.replicate 11 (Value.int 0) : List Value)),
  (Sum.inl 1, (List.replicate 160 (Value.int 0) : List Value)),
  (Sum.inr 0, ([.ref 4, .ref 5, .int 0, .int 0, .int 1, .int 0] : List Value)),
  (Sum.inl 4, ([.ref 6, .ref 7, .ref 8, .ref 9, .ref 10] : List Value)),
  (Sum.inl 0, (List.replicate 8 (Value.int 0) : List Value)),
  (Sum.inr 1, ([.int 0, .int 0, .int 0, .int 0] : List Value)),
  (Sum.inr 1, ([.int 0, .int 0, .int 0, .int 0] : List Value)),
  (Sum.inr 1, ([.int 0, .int 0, .int 0, .int 0] : List Value)),
  (Sum.inr 1, ([.int 0, .int 0, .int 0, .int 0] : List Value)),
  (Sum.inr 1, ([.int 0, .int 0, .int 0, .int 0] : List Value)),
  (Sum.inr 0, ([.ref 12, .ref 13, .int 0, .int 0, .int 1, .int 0] : List Value)),
  (Sum.inl 4, ([.ref 14, .ref 15, .ref 16, .ref 17, .ref 18] : List Value)),
  (Sum.inl 0, (List.replicate 8 (Value.int 0) : List Value)),
  (Sum.inr 1, ([.int 0, .int 0, .int 0, .int 0] : List Value)),
  (Sum.inr 1, ([.int 0, .int 0, .int 0, .int 0] : List Value)),
  (Sum.inr 1, ([.int 0, .int 0, .int 0, .int 0] : List Value)),
  (Sum.inr 1, ([.int 0, .int 0, .int 0, .int 0] : List Value)),
  (Sum.inr 1, ([.int 0, .int 0, .int 0, .int 0] : List Value)),
  (Sum.inr 3, ([.ref 20, .ref 28, .int 0, .int 0, .int 0] : List Value)),
  (Sum.inr 0, ([.ref 21, .ref 22, .int 0, .int 0, .int 1, .int 0] : List Value)),
  (Sum.inl 4, ([.ref 23, .ref 24, .ref 25, .ref 26, .ref 27] : List Value)),
  (Sum.inl 0, (List.replicate 8 (Value.int 0) : List Value)),
  (Sum.inr 1, ([.int 0, .int 0, .int 0, .int 0] : List Value)),
  (Sum.inr 1, ([.int 0, .int 0, .int 0, .int 0] : List Value)),
  (Sum.inr 1, ([.int 0, .int 0, .int 0, .int 0] : List Value)),
  (Sum.inr 1, ([.int 0, .int 0, .int 0, .int 0] : List Value)),
  (Sum.inr 1, ([.int 0, .int 0, .int 0, .int 0] : List Value)),
  (Sum.inl 0, (List.replicate 8 (Value.int 0) : List Value)),
  (Sum.inr 4, ([.ref 30, .ref 38, .ref 39, .int 0, .int 0] : List Value)),
  (Sum.inr 0, ([.ref 31, .ref 32, .int 0, .int 0, .int 1, .int 0] : List Value)),
  (Sum.inl 4, ([.ref 33, .ref 34, .ref 35, .ref 36, .ref 37] : List Value)),
  (Sum.inl 0, (List.replicate 8 (Value.int 0) : List Value)),
  (Sum.inr 1, ([.int 0, .int 0, .int 0, .int 0] : List Value)),
  (Sum.inr 1, ([.int 0, .int 0, .int 0, .int 0] : List Value)),
  (Sum.inr 1, ([.int 0, .int 0, .int 0, .int 0] : List Value)),
  (Sum.inr 1, ([.int 0, .int 0, .int 0, .int 0] : List Value)),
  (Sum.inr 1, ([.int 0, .int 0, .int 0, .int 0] : List Value)),
  (Sum.inl 0, ([.int 0, .int 0, .int 0, .int 0, .int 0] : List Value)),
  (Sum.inl 0, ([.int 0, .int 0, .int 0, .int 0, .int 0] : List Value)),
  (Sum.inr 6, ([.ref 41, .ref 42, .ref 43, .int 0] : List Value)),
  (Sum.inl 0, (List.replicate 6 (Value.int 0) : List Value)),
  (Sum.inl 0, (List.replicate 6 (Value.int 0) : List Value)),
  (Sum.inl 0, (List.replicate 48 (Value.int 0) : List Value)),
  (Sum.inl 3, ([.ref 47, .ref 55] : List Value)),
  (Sum.inl 2, ([.int 0, .int 0] : List Value)),
  (Sum.inl 8, ([.ref 63, .ref 65, .ref 67, .ref 69] : List Value)),
  (Sum.inr 0, ([.ref 48, .ref 49, .int 0, .int 0, .int 1, .int 0] : List Value)),
  (Sum.inl 4, ([.ref 50, .ref 51, .ref 52, .ref 53, .ref 54] : List Value)),
  (Sum.inl 0, (List.replicate 8 (Value.int 0) : List Value)),
  (Sum.inr 1, ([.int 0, .int 0, .int 0, .int 0] : List Value)),
  (Sum.inr 1, ([.int 0, .int 0, .int 0, .int 0] : List Value)),
  (Sum.inr 1, ([.int 0, .int 0, .int 0, .int 0] : List Value)),
  (Sum.inr 1, ([.int 0, .int 0, .int 0, .int 0] : List Value)),
  (Sum.inr 1, ([.int 0, .int 0, .int 0, .int 0] : List Value)),
  (Sum.inr 0, ([.ref 56, .ref 57, .int 0, .int 0, .int 1, .int 0] : List Value)),
  (Sum.inl 4, ([.ref 58, .ref 59, .ref 60, .ref 61, .ref 62] : List Value)),
  (Sum.inl 0, (List.replicate 8 (Value.int 0) : List Value)),
  (Sum.inr 1, ([.int 0, .int 0, .int 0, .int 0] : List Value)),
  (Sum.inr 1, ([.int 0, .int 0, .int 0, .int 0] : List Value)),
  (Sum.inr 1, ([.int 0, .int 0, .int 0, .int 0] : List Value)),
  (Sum.inr 1, ([.int 0, .int 0, .int 0, .int 0] : List Value)),
  (Sum.inr 1, ([.int 0, .int 0, .int 0, .int 0] : List Value)),
  (Sum.inr 5, ([.ref 64, .int 0, .int 0, .int 0] : List Value)),
  (Sum.inl 0, (List.replicate 40 (Value.int 0) : List Value)),
  (Sum.inr 5, ([.ref 66, .int 0, .int 0, .int 0] : List Value)),
  (Sum.inl 0, (List.replicate 40 (Value.int 0) : List Value)),
  (Sum.inr 5, ([.ref 68, .int 0, .int 0, .int 0] : List Value)),
  (Sum.inl 0, (List.replicate 40 (Value.int 0) : List Value)),
  (Sum.inr 5, ([.ref 70, .int 0, .int 0, .int 0] : List Value)),
  (Sum.inl 0, (List.replicate 40 (Value.int 0) : List Value)),
  (Sum.inr 8, ([.ref 72, .ref 73, .int 0, .ref 74, .int 0, .int 0, .int 0, .ref 75] ++ List.replicate 8 (Value.int 0) ++ [.ref 76, .ref 77, .int 0, .int 0, .int 0, .ref 78, .ref 79, .int 0, .ref 80, .ref 81, .ref 82, .ref 83, .ref 84, .ref 85, .int 0] : List Value)),
  (Sum.inl 0, (List.replicate 135 (Value.int 0) : List Value)),
  (Sum.inl 0, ([.int 1, .int 2, .int 0, .int 4] : List Value)),
  (Sum.inl 0, (List.replicate 27 (Value.int 0) : List Value)),
  (Sum.inl 0, (List.replicate 160 (Value.int 0) : List Value)),
  (Sum.inl 0, ([.int 0, .int 5, .int 11, .int 16, .int 22, .int 26, .int 31, .int 35] : List Value)),
  (Sum.inl 0, ([.int 112, .int 108, .int 97, .int 105, .int 110, .int 103, .int 108, .int 111, .int 118, .int 101, .int 100, .int 99, .int 104, .int 105, .int 108, .int 100, .int 109, .int 97, .int 115, .int 116, .int 101, .int 114, .int 108, .int 101, .int 102, .int 116, .int 115, .int 108, .int 97, .int 99, .int 107, .int 112, .int 108, .int 97, .int 110] : List Value)),
  (Sum.inl 0, (List.replicate 8 (Value.int 0) : List Value)),
  (Sum.inl 0, (List.replicate 12 (Value.int 0) : List Value)),
  (Sum.inl 0, (List.replicate 168 (Value.int 0) : List Value)),
  (Sum.inl 2, (List.replicate 21 (Value.int 0) : List Value)),
  (Sum.inl 2, ([.int 0, .int 0] : List Value)),
  (Sum.inl 0, ([.int (-4), .int (-4), .int (-4), .int (-4)] : List Value)),
  (Sum.inl 0, ([.int 0, .int 0, .int 0, .int 0] : List Value)),
  (Sum.inl 0, (List.replicate 160 (Value.int 0) : List Value))]
def zL0 : zLo := [(3, .int 0), (2, .ref 71), (1, .ref 0), (0, .retAddr 0)]
def zc7 : zC := (Sum.inr 7, [.null, .null, .null, .null, .null, .null, .null, .null, .int 0])
def zc8 : zC := (Sum.inr 8, (zfts.getD 8 []).map fun t => zdf t.1)
set_option maxRecDepth 100000 in
theorem zi7 : zex 3000 none 19 zm_X7_init (0, lv_args 0 [.ref 0], [], [zc7]) = some (none, zh0.take 71) := by decide +kernel
set_option maxRecDepth 100000 in
theorem zi8 : zex 3000 none 19 zm_X8_init (0, lv_args 0 [.ref 71], [], zh0.take 71 ++ [zc8]) = some (none, zh0) := by decide +kernel
def zl1 : zLo := [(1, .ref 0), (0, .retAddr 0)]
def zl2a : zLo := [(2, .ref 71), (1, .ref 0), (0, .retAddr 0)]
set_option maxRecDepth 100000 in
theorem zlen71 : (zh0.take 71).length = 71 := by decide +kernel
set_option maxRecDepth 100000 in
theorem zpre (ys : List Int32) {r : Option Value} {h' : zHp} (hx : zEv (some ys) 20 zm_L_law (18, zL0, [], zh0) r h') : zEv (some ys) 20 zm_L_law (0, [(0, .retAddr 0)], [], []) r h' := by
  refine zEv_step (st' := (3, [(0, .retAddr 0)], [.ref 0], [zc7])) rfl ?_
  refine zEv_step (st' := (4, [(0, .retAddr 0)], [.ref 0, .ref 0], [zc7])) rfl ?_
  refine zEv_call (kd := 2) (id := 64) (as := [.ref 0]) (rest := [.ref 0]) (mi' := zm_X7_init) rfl rfl (by decide +kernel) ⟨3000, zi7⟩ ?_
  show zEv (some ys) 20 zm_L_law (7, [(0, .retAddr 0)], [.ref 0], zh0.take 71) r h'
  refine zEv_step (st' := (8, zl1, [], zh0.take 71)) rfl ?_
  refine zEv_step (st' := (11, zl1, [.ref (zh0.take 71).length], zh0.take 71 ++ [zc8])) rfl ?_
  rw [zlen71]
  refine zEv_step (st' := (12, zl1, [.ref 71, .ref 71], zh0.take 71 ++ [zc8])) rfl ?_
  refine zEv_call (kd := 2) (id := 113) (as := [.ref 71]) (rest := [.ref 71]) (mi' := zm_X8_init) rfl rfl (by decide +kernel) ⟨3000, zi8⟩ ?_
  show zEv (some ys) 20 zm_L_law (15, zl1, [.ref 71], zh0) r h'
  refine zEv_step (st' := (16, zl2a, [], zh0)) rfl ?_
  refine zEv_step (st' := (17, zl2a, [.int 0], zh0)) rfl ?_
  refine zEv_step (st' := (18, zL0, [], zh0)) rfl ?_
  exact hx
def ydv (T : yT) (k i : Nat) (v : Value) : Bool := match ydf T k i, v with
  | some (.inl iv), .int X => ysub [(X.toInt, X.toInt)] 0 iv
  | some (.inr w), v => decide (v = w)
  | none, _ => true
  | _, _ => false
theorem ydv_ok {T : yT} {k i : Nat} {v : Value} (h : ydv T k i v = true) : yDf T k i v := by
  unfold ydv at h
  unfold yDf
  split at h
  · rename_i iv X hd
    rw [hd]
    have := ysub_ok h (z := X.toInt) (yM_1 (Int.le_refl _) (Int.le_refl _))
    rw [show X.toInt + 0 = X.toInt by omega] at this
    exact ⟨X, rfl, this⟩
  · rename_i w v0 hd
    rw [hd]
    exact of_decide_eq_true h
  · rename_i v0 hd
    rw [hd]
    trivial
  · cases h
def ychk (k : Nat) : Bool := match yki yT1 k with
  | none => true
  | some x => (match zh0[k]? with
    | some c => decide (c.1 = x.1) && decide (c.2.length = x.2) && zall (fun i v => ydv yT1 k i v) 0 c.2
    | none => false)
set_option maxRecDepth 100000 in
theorem ychk_ok : (List.range 90).all ychk = true := by decide +kernel
theorem yT1_len : yT1.2.length = 9 := by decide +kernel
set_option maxRecDepth 100000 in
theorem zh0_len : zh0.length = 86 := by decide +kernel
set_option maxRecDepth 100000 in
theorem zh0_sz : zsz zh0 = 1471 := by decide +kernel
theorem yki_lt {k : Nat} {x : (Nat ⊕ Nat) × Nat} (h : yki yT1 k = some x) : k < 90 := by
  unfold yki yl3 at h
  rw [ylk_eq] at h
  cases hk : yT1.2[k / 10]? with
  | none => rw [hk] at h; cases h
  | some r =>
    have := (List.getElem?_eq_some_iff.mp hk).1
    rw [yT1_len] at this
    omega
theorem yfresh : yTp yT1 86 1471 zh0 := by
  refine ⟨zh0_len, zh0_sz, fun k x hk => ?_⟩
  have h1 := List.all_eq_true.mp ychk_ok k (List.mem_range.mpr (yki_lt hk))
  unfold ychk at h1
  rw [hk] at h1
  dsimp only at h1
  cases hc : zh0[k]? with
  | none => rw [hc] at h1; cases h1
  | some c =>
    rw [hc] at h1
    simp only [Bool.and_eq_true, decide_eq_true_eq] at h1
    obtain ⟨⟨a1, a2⟩, a3⟩ := h1
    obtain ⟨c1, c2⟩ := c
    dsimp only at a1 a2 a3
    refine ⟨c2, by rw [a1], a2, fun i v hi => ?_⟩
    have h5 := zall_get a3 i v hi
    rw [Nat.zero_add] at h5
    exact ydv_ok h5
end
section
/-! the heap as a memory of ints -/
abbrev zM : Type := Nat → Nat → Int32
abbrev zLc : Type := (Nat ⊕ Nat) × List (Option Value)
/-- kinds of the cells; their places: none, an int; some, a reference that stays -/
def zLY : List zLc := [
  (Sum.inr 7, [some (.ref 1), some (.ref 11), some (.ref 19), some (.ref 29), some (.ref 40), some (.ref 44), some (.ref 45), some (.ref 46), none]),
  (Sum.inr 2, [some (.ref 2), some (.ref 3), none, none, none, none, none, none, none, none, none, none, none]),
  (Sum.inl 1, List.replicate 160 none),
  (Sum.inr 0, [some (.ref 4), some (.ref 5), none, none, none, none]),
  (Sum.inl 4, [some (.ref 6), some (.ref 7), some (.ref 8), some (.ref 9), some (.ref 10)]),
  (Sum.inl 0, List.replicate 8 none),
  (Sum.inr 1, List.replicate 4 none),
  (Sum.inr 1, List.replicate 4 none),
  (Sum.inr 1, List.replicate 4 none),
  (Sum.inr 1, List.replicate 4 none),
  (Sum.inr 1, List.replicate 4 none),
  (Sum.inr 0, [some (.ref 12), some (.ref 13), none, none, none, none]),
  (Sum.inl 4, [some (.ref 14), some (.ref 15), some (.ref 16), some (.ref 17), some (.ref 18)]),
  (Sum.inl 0, List.replicate 8 none),
  (Sum.inr 1, List.replicate 4 none),
  (Sum.inr 1, List.replicate 4 none),
  (Sum.inr 1, List.replicate 4 none),
  (Sum.inr 1, List.replicate 4 none),
  (Sum.inr 1, List.replicate 4 none),
  (Sum.inr 3, [some (.ref 20), some (.ref 28), none, none, none]),
  (Sum.inr 0, [some (.ref 21), some (.ref 22), none, none, none, none]),
  (Sum.inl 4, [some (.ref 23), some (.ref 24), some (.ref 25), some (.ref 26), some (.ref 27)]),
  (Sum.inl 0, List.replicate 8 none),
  (Sum.inr 1, List.replicate 4 none),
  (Sum.inr 1, List.replicate 4 none),
  (Sum.inr 1, List.replicate 4 none),
  (Sum.inr 1, List.replicate 4 none),
  (Sum.inr 1, List.replicate 4 none),
  (Sum.inl 0, List.replicate 8 none),
  (Sum.inr 4, [some (.ref 30), some (.ref 38), some (.ref 39), none, none]),
  (Sum.inr 0, [some (.ref 31), some (.ref 32), none, none, none, none]),
  (Sum.inl 4, [some (.ref 33), some (.ref 34), some (.ref 35), some (.ref 36), some (.ref 37)]),
  (Sum.inl 0, List.replicate 8 none),
  (Sum.inr 1, List.replicate 4 none),
  (Sum.inr 1, List.replicate 4 none),
  (Sum.inr 1, List.replicate 4 none),
  (Sum.inr 1, List.replicate 4 none),
  (Sum.inr 1, List.replicate 4 none),
  (Sum.inl 0, List.replicate 5 none),
  (Sum.inl 0, List.replicate 5 none),
  (Sum.inr 6, [some (.ref 41), some (.ref 42), some (.ref 43), none]),
  (Sum.inl 0, List.replicate 6 none),
  (Sum.inl 0, List.replicate 6 none),
  (Sum.inl 0, List.replicate 48 none),
  (Sum.inl 3, [some (.ref 47), some (.ref 55)]),
  (Sum.inl 2, List.replicate 2 none),
  (Sum.inl 8, [some (.ref 63), some (.ref 65), some (.ref 67), some (.ref 69)]),
  (Sum.inr 0, [some (.ref 48), some (.ref 49), none, none, none, none]),
  (Sum.inl 4, [some (.ref 50), some (.ref 51), some (.ref 52), some (.ref 53), some (.ref 54)]),
  (Sum.inl 0, List.replicate 8 none),
  (Sum.inr 1, List.replicate 4 none),
  (Sum.inr 1, List.replicate 4 none),
  (Sum.inr 1, List.replicate 4 none),
  (Sum.inr 1, List.replicate 4 none),
  (Sum.inr 1, List.replicate 4 none),
  (Sum.inr 0, [some (.ref 56), some (.ref 57), none, none, none, none]),
  (Sum.inl 4, [some (.ref 58), some (.ref 59), some (.ref 60), some (.ref 61), some (.ref 62)]),
  (Sum.inl 0, List.replicate 8 none),
  (Sum.inr 1, List.replicate 4 none),
  (Sum.inr 1, List.replicate 4 none),
  (Sum.inr 1, List.replicate 4 none),
  (Sum.inr 1, List.replicate 4 none),
  (Sum.inr 1, List.replicate 4 none),
  (Sum.inr 5, [some (.ref 64), none, none, none]),
  (Sum.inl 0, List.replicate 40 none),
  (Sum.inr 5, [some (.ref 66), none, none, none]),
  (Sum.inl 0, List.replicate 40 none),
  (Sum.inr 5, [some (.ref 68), none, none, none]),
  (Sum.inl 0, List.replicate 40 none),
  (Sum.inr 5, [some (.ref 70), none, none, none]),
  (Sum.inl 0, List.replicate 40 none),
  (Sum.inr 8, [some (.ref 72), some (.ref 73), none, some (.ref 74), none, none, none, some (.ref 75), none, none, none, none, none, none, none, none, some (.ref 76), some (.ref 77), none, none, none, some (.ref 78), some (.ref 79), none, some (.ref 80), some (.ref 81), some (.ref 82), some (.ref 83), some (.ref 84), some (.ref 85), none]),
  (Sum.inl 0, List.replicate 135 none),
  (Sum.inl 0, List.replicate 4 none),
  (Sum.inl 0, List.replicate 27 none),
  (Sum.inl 0, List.replicate 160 none),
  (Sum.inl 0, List.replicate 8 none),
  (Sum.inl 0, List.replicate 35 none),
  (Sum.inl 0, List.replicate 8 none),
  (Sum.inl 0, List.replicate 12 none),
  (Sum.inl 0, List.replicate 168 none),
  (Sum.inl 2, List.replicate 21 none),
  (Sum.inl 2, List.replicate 2 none),
  (Sum.inl 0, List.replicate 4 none),
  (Sum.inl 0, List.replicate 4 none),
  (Sum.inl 0, List.replicate 160 none)]
def zhpc (f : Nat → Int32) : Nat → List (Option Value) → List Value
  | _, [] => []
  | i, o :: r => o.getD (.int (f i)) :: zhpc f (i + 1) r
def zhpg (m : zM) : Nat → List zLc → zHp
  | _, [] => []
  | k, c :: s => (c.1, zhpc (m k) 0 c.2) :: zhpg m (k + 1) s
/-- the heap in which the places of ints hold what m says -/
def zhp (m : zM) : zHp := zhpg m 0 zLY
theorem zhpc_get (f : Nat → Int32) : ∀ (r : List (Option Value)) (j i : Nat), (zhpc f j r)[i]? = (r[i]?).map (fun o => o.getD (.int (f (j + i))))
  | [], j, i => by simp [zhpc]
  | o :: r, j, 0 => by simp [zhpc]
  | o :: r, j, i + 1 => by
    simp only [zhpc, List.getElem?_cons_succ]
    rw [zhpc_get f r (j + 1) i, show j + 1 + i = j + (i + 1) by omega]
theorem zhpg_get (m : zM) : ∀ (s : List zLc) (j k : Nat), (zhpg m j s)[k]? = (s[k]?).map (fun c => (c.1, zhpc (m (j + k)) 0 c.2))
  | [], j, k => by simp [zhpg]
  | c :: s, j, 0 => by simp [zhpg]
  | c :: s, j, k + 1 => by
    simp only [zhpg, List.getElem?_cons_succ]
    rw [zhpg_get m s (j + 1) k, show j + 1 + k = j + (k + 1) by omega]
theorem zhpc_len (f : Nat → Int32) : ∀ (r : List (Option Value)) (j : Nat), (zhpc f j r).length = r.length
  | [], j => rfl
  | o :: r, j => by simp only [zhpc, List.length_cons]; rw [zhpc_len f r (j + 1)]
theorem zhp_g0 (m : zM) (k : Nat) : (zhp m)[k]? = (zLY[k]?).map (fun c => (c.1, zhpc (m k) 0 c.2)) := by
  unfold zhp
  rw [zhpg_get]
  simp only [Nat.zero_add]
theorem zhp_get {m : zM} {k : Nat} {c : zLc} (hc : zLY[k]? = some c) : (zhp m)[k]? = some (c.1, zhpc (m k) 0 c.2) := by
  rw [zhp_g0, hc]
  rfl
def zup (m : zM) (k i : Nat) (v : Int32) : zM := fun a b => if a = k ∧ b = i then v else m a b
theorem zhp_set {m : zM} {k i : Nat} {c : zLc} {v : Int32} (hc : zLY[k]? = some c) (hi : c.2[i]? = some none) : (zhp m).set k (c.1, (zhpc (m k) 0 c.2).set i (.int v)) = zhp (zup m k i v) := by
  apply List.ext_getElem?
  intro n
  rw [List.getElem?_set]
  by_cases hn : k = n
  · subst hn
    have hl : k < (zhp m).length := by
      rcases Nat.lt_or_ge k (zhp m).length with w | w
      · exact w
      · have := zhp_get (m := m) hc
        rw [List.getElem?_eq_none w] at this
        cases this
    rw [if_pos rfl, if_pos hl, zhp_get hc]
    congr 2
    apply List.ext_getElem?
    intro j
    have hil : i < (zhpc (m k) 0 c.2).length := by
      rw [zhpc_len]
      exact (List.getElem?_eq_some_iff.mp hi).1
    rw [List.getElem?_set, zhpc_get, zhpc_get]
    by_cases hj : i = j
    · subst hj
      rw [if_pos rfl, if_pos hil, hi]
      simp [zup]
    · rw [if_neg hj]
      have : zup m k i v k (0 + j) = m k (0 + j) := by
        simp only [zup, Nat.zero_add, true_and]
        rw [if_neg (fun w => hj w.symm)]
      rw [this]
  · rw [if_neg hn, zhp_g0, zhp_g0]
    have : zup m k i v n = m n := by
      funext b
      simp only [zup]
      rw [if_neg (fun w => hn w.1.symm)]
    rw [this]
theorem zup_s (m : zM) (k i : Nat) (v : Int32) : zup m k i v k i = v := by simp [zup]
theorem zup_n {m : zM} {k i a b : Nat} {v : Int32} (h : ¬ (a = k ∧ b = i)) : zup m k i v a b = m a b := by
  simp only [zup]
  rw [if_neg h]
/-! runs read backwards -/
theorem zEv_is {sc : Option (List Int32)} {d : Nat} {mi : zMi} {st : zSt} {r : Option Value} {h' : zHp} (H : zEv sc d mi st r h') : ∃ x, zstep sc mi st = some x := by
  obtain ⟨n, hn⟩ := H
  cases n with
  | zero => simp [zex] at hn
  | succ n =>
    rw [zex] at hn
    cases hs : zstep sc mi st with
    | none => rw [hs] at hn; cases hn
    | some x => exact ⟨x, rfl⟩
theorem zEv_i1 {sc : Option (List Int32)} {d : Nat} {mi : zMi} {st st' : zSt} {r : Option Value} {h' : zHp} (H : zEv sc d mi st r h') (hs : zstep sc mi st = some (.inl st')) : zEv sc d mi st' r h' := by
  obtain ⟨n, hn⟩ := H
  cases n with
  | zero => simp [zex] at hn
  | succ n =>
    rw [zex, hs] at hn
    exact ⟨n, hn⟩
theorem zEv_ir {sc : Option (List Int32)} {d : Nat} {mi : zMi} {st : zSt} {r q : Option Value} {h' : zHp} (H : zEv sc d mi st r h') (hs : zstep sc mi st = some (.inr (.inr q))) : r = q ∧ h' = st.2.2.2 := by
  obtain ⟨n, hn⟩ := H
  cases n with
  | zero => simp [zex] at hn
  | succ n =>
    rw [zex, hs] at hn
    simp only [Option.some.injEq, Prod.mk.injEq] at hn
    exact ⟨hn.1.symm, hn.2.symm⟩
theorem zEv_ic {sc : Option (List Int32)} {d kd id : Nat} {as rest : List Value} {mi mi' : zMi} {st : zSt} {r : Option Value} {h' : zHp} (H : zEv sc d mi st r h') (hs : zstep sc mi st = some (.inr (.inl (kd, id, as, rest)))) (hm : zms[id]? = some mi') : ∃ r1 h1, zEv none (d - 1) mi' (0, lv_args 0 as, [], st.2.2.2) r1 h1 ∧ zEv sc d mi (st.1 + 3, st.2.1, r1.toList ++ rest, h1) r h' := by
  obtain ⟨n, hn⟩ := H
  cases n with
  | zero => simp [zex] at hn
  | succ n =>
    rw [zex, hs] at hn
    simp only [hm, Option.bind_some, Option.bind_eq_some_iff] at hn
    obtain ⟨_, h1, q, h2, h3⟩ := hn
    exact ⟨q.1, q.2, ⟨n, h2⟩, ⟨n, h3⟩⟩
/-- the locals that are known; null: not known -/
def zcp (L : List Value) (lo : zLo) : Prop := ∀ (k : Nat) (v : Value), L[k]? = some v → v ≠ .null → zas2 lo k = some v
def zE (sc : Option (List Int32)) (d : Nat) (mi : zMi) (pc : Nat) (L sk : List Value) (m : zM) (r : Option Value) (h' : zHp) : Prop := ∃ lo, zcp L lo ∧ zEv sc d mi (pc, lo, sk, zhp m) r h'
theorem zstep_of {sc : Option (List Int32)} {mi : zMi} {pc len : Nat} {ins : Instr} {lo : zLo} {sk : List Value} {h : zHp} (hi : zin mi.2.2.2.2.2 pc = some (ins, len)) : zstep sc mi (pc, lo, sk, h) = zst sc mi ins len pc lo sk h := by
  unfold zstep
  dsimp only
  rw [hi]
  rfl
theorem zas2_flt {α : Type} {p : Nat × α → Bool} {k : Nat} {w : α} : ∀ {l : List (Nat × α)}, zas2 l k = some w → p (k, w) = true → zas2 (l.filter p) k = some w
  | [], h, _ => by simp [zas2] at h
  | (a, b) :: r, h, hp => by
    simp only [zas2] at h
    cases hb : Nat.beq a k with
    | true =>
      rw [hb] at h
      simp only [cond_true, Option.some.injEq] at h
      have e := Nat.eq_of_beq_eq_true hb
      subst e
      subst h
      rw [List.filter_cons_of_pos hp]
      simp [zas2]
    | false =>
      rw [hb] at h
      simp only [cond_false] at h
      by_cases hq : p (a, b) = true
      · rw [List.filter_cons_of_pos hq]
        simp only [zas2, hb, cond_false]
        exact zas2_flt h hp
      · rw [List.filter_cons_of_neg hq]
        exact zas2_flt h hp
theorem nbq_f {i k : Nat} (h : ¬ i = k) : Nat.beq i k = false := by
  cases hb : Nat.beq i k with
  | false => rfl
  | true => exact absurd (Nat.eq_of_beq_eq_true hb) h
/-- the place before this one holds no long -/
def zok1 (L : List Value) : Nat → Bool
  | 0 => true
  | j + 1 => match L[j]? with
    | some (.int _) => true
    | some (.ref _) => true
    | some (.retAddr _) => true
    | some .null => true
    | none => true
    | _ => false
theorem zok1_ok {L : List Value} {i k : Nat} {v : Value} (h : zok1 L i = true) (hk : L[k]? = some v) (hi : k + 1 = i) : v.category ≠ 2 := by
  subst hi
  simp only [zok1, hk] at h
  cases v <;> simp [Value.category] at h ⊢
theorem zcp_s1 {L : List Value} {lo : zLo} {i : Nat} {v : Value} (h : zcp L lo) (hk : zok1 L i = true) : zcp (L.set i v) (zs1 lo i v) := by
  intro k w hw hn
  rw [List.getElem?_set] at hw
  unfold zs1
  simp only [zas2]
  by_cases hik : i = k
  · subst hik
    rw [if_pos rfl] at hw
    split at hw
    · simp only [Option.some.injEq] at hw
      subst hw
      simp
    · cases hw
  · rw [if_neg hik] at hw
    rw [nbq_f hik]
    simp only [cond_false]
    refine zas2_flt (h k w hw hn) ?_
    have h2 : k ≠ i := fun e => hik e.symm
    by_cases h3 : k + 1 = i
    · have := zok1_ok hk hw h3
      simp [h2, this]
    · simp [h2, h3]
theorem zcp_s2 {L : List Value} {lo : zLo} {i : Nat} {v : Value} (h : zcp L lo) (hk : zok1 L i = true) : zcp ((L.set i v).set (i + 1) .null) (zs2 lo i v) := by
  intro k w hw hn
  rw [List.getElem?_set] at hw
  by_cases hik1 : i + 1 = k
  · rw [if_pos hik1] at hw
    split at hw
    · simp only [Option.some.injEq] at hw
      exact absurd hw.symm hn
    · cases hw
  · rw [if_neg hik1, List.getElem?_set] at hw
    unfold zs2
    simp only [zas2]
    by_cases hik : i = k
    · subst hik
      rw [if_pos rfl] at hw
      split at hw
      · simp only [Option.some.injEq] at hw
        subst hw
        simp
      · cases hw
    · rw [if_neg hik] at hw
      rw [nbq_f hik]
      simp only [cond_false]
      refine zas2_flt (h k w hw hn) ?_
      have h2 : k ≠ i := fun e => hik e.symm
      have h4 : k ≠ i + 1 := fun e => hik1 e.symm
      by_cases h3 : k + 1 = i
      · have := zok1_ok hk hw h3
        simp [h2, h4, this]
      · simp [h2, h3, h4]
theorem zcp_ar : ∀ (as : List Value) (j k : Nat) (v : Value), as.all (fun v => v.category == 1) = true → as[k]? = some v → zas2 (lv_args j as) (j + k) = some v
  | [], j, k, v, _, h => by simp at h
  | a :: as, j, 0, v, hc, h => by
    simp only [List.getElem?_cons_zero, Option.some.injEq] at h
    subst h
    simp [lv_args, zas2]
  | a :: as, j, k + 1, v, hc, h => by
    simp only [List.all_cons, Bool.and_eq_true, beq_iff_eq] at hc
    simp only [List.getElem?_cons_succ] at h
    have e : Nat.beq j (j + (k + 1)) = false := by
      cases hb : Nat.beq j (j + (k + 1)) with
      | false => rfl
      | true => have := Nat.eq_of_beq_eq_true hb; omega
    have ih := zcp_ar as (j + 1) k v hc.2 h
    rw [show j + 1 + k = j + (k + 1) by omega] at ih
    simp only [lv_args, zas2, e, cond_false, hc.1]
    exact ih
theorem zcp_args {as : List Value} (p : Nat) (hc : as.all (fun v => v.category == 1) = true) : zcp (as ++ List.replicate p .null) (lv_args 0 as) := by
  intro k v hk hn
  by_cases hl : k < as.length
  · rw [List.getElem?_append_left hl] at hk
    have := zcp_ar as 0 k v hc hk
    rw [Nat.zero_add] at this
    exact this
  · rw [List.getElem?_append_right (by omega), List.getElem?_replicate] at hk
    split at hk
    · simp only [Option.some.injEq] at hk
      exact absurd hk.symm hn
    · cases hk
end
section
/-! the steps, read backwards -/
section
variable {sc : Option (List Int32)} {d : Nat} {mi : zMi} {pc q : Nat} {L sk : List Value} {m : zM} {r : Option Value} {h' : zHp}
/-- a step that looks at neither locals nor places -/
theorem i_p {ins : Instr} {len : Nat} {sk1 : List Value} (H : zE sc d mi pc L sk m r h') (hi : zin mi.2.2.2.2.2 pc = some (ins, len)) (hz : ∀ lo, zst sc mi ins len pc lo sk (zhp m) = some (.inl (q, lo, sk1, zhp m))) : zE sc d mi q L sk1 m r h' := by
  obtain ⟨lo, h1, h2⟩ := H
  exact ⟨lo, h1, zEv_i1 h2 ((zstep_of hi).trans (hz lo))⟩
theorem i_w (bs : List Bool) (H : zE sc d mi pc L sk m r h') : zE sc d mi pc (List.zipWith (fun v b => bif b then v else .null) L bs) sk m r h' := by
  obtain ⟨lo, h1, h2⟩ := H
  refine ⟨lo, fun k v hk hn => ?_, h2⟩
  rw [List.getElem?_zipWith] at hk
  cases ha : L[k]? with
  | none => rw [ha] at hk; simp at hk
  | some a =>
    cases hb : bs[k]? with
    | none => rw [ha, hb] at hk; simp at hk
    | some b =>
      rw [ha, hb] at hk
      cases b with
      | false => simp only [cond_false, Option.some.injEq] at hk; exact absurd hk.symm hn
      | true => simp only [cond_true, Option.some.injEq] at hk; subst hk; exact h1 k _ ha hn
theorem i_iln {k : Fin 4} {x : Int32} (H : zE sc d mi pc L sk m r h') (hi : zin mi.2.2.2.2.2 pc = some (.iload_n k, 1)) (hl : L[k.val]? = some (.int x)) (hq : pc + 1 = q) : zE sc d mi q L (.int x :: sk) m r h' := by
  obtain ⟨lo, h1, h2⟩ := H
  refine ⟨lo, h1, zEv_i1 h2 ((zstep_of hi).trans ?_)⟩
  have e := h1 _ _ hl (by simp)
  subst hq
  simp [zst, zg, e, zpi]
theorem i_il {k : Nat} {x : Int32} (H : zE sc d mi pc L sk m r h') (hi : zin mi.2.2.2.2.2 pc = some (.iload k, 2)) (hl : L[k]? = some (.int x)) (hq : pc + 2 = q) : zE sc d mi q L (.int x :: sk) m r h' := by
  obtain ⟨lo, h1, h2⟩ := H
  refine ⟨lo, h1, zEv_i1 h2 ((zstep_of hi).trans ?_)⟩
  have e := h1 _ _ hl (by simp)
  subst hq
  simp [zst, zg, e, zpi]
theorem i_lln {k : Fin 4} {x : Int64} (H : zE sc d mi pc L sk m r h') (hi : zin mi.2.2.2.2.2 pc = some (.lload_n k, 1)) (hl : L[k.val]? = some (.long x)) (hq : pc + 1 = q) : zE sc d mi q L (.long x :: sk) m r h' := by
  obtain ⟨lo, h1, h2⟩ := H
  refine ⟨lo, h1, zEv_i1 h2 ((zstep_of hi).trans ?_)⟩
  have e := h1 _ _ hl (by simp)
  subst hq
  simp [zst, zg, e, zpl]
theorem i_ll {k : Nat} {x : Int64} (H : zE sc d mi pc L sk m r h') (hi : zin mi.2.2.2.2.2 pc = some (.lload k, 2)) (hl : L[k]? = some (.long x)) (hq : pc + 2 = q) : zE sc d mi q L (.long x :: sk) m r h' := by
  obtain ⟨lo, h1, h2⟩ := H
  refine ⟨lo, h1, zEv_i1 h2 ((zstep_of hi).trans ?_)⟩
  have e := h1 _ _ hl (by simp)
  subst hq
  simp [zst, zg, e, zpl]
theorem i_aln {k : Fin 4} {x : Nat} (H : zE sc d mi pc L sk m r h') (hi : zin mi.2.2.2.2.2 pc = some (.aload_n k, 1)) (hl : L[k.val]? = some (.ref x)) (hq : pc + 1 = q) : zE sc d mi q L (.ref x :: sk) m r h' := by
  obtain ⟨lo, h1, h2⟩ := H
  refine ⟨lo, h1, zEv_i1 h2 ((zstep_of hi).trans ?_)⟩
  have e := h1 _ _ hl (by simp)
  subst hq
  simp [zst, zg, e, zisr, zgb]
theorem i_al {k : Nat} {x : Nat} (H : zE sc d mi pc L sk m r h') (hi : zin mi.2.2.2.2.2 pc = some (.aload k, 2)) (hl : L[k]? = some (.ref x)) (hq : pc + 2 = q) : zE sc d mi q L (.ref x :: sk) m r h' := by
  obtain ⟨lo, h1, h2⟩ := H
  refine ⟨lo, h1, zEv_i1 h2 ((zstep_of hi).trans ?_)⟩
  have e := h1 _ _ hl (by simp)
  subst hq
  simp [zst, zg, e, zisr, zgb]
theorem i_xln {k : Fin 4} {x : Nat} (H : zE sc d mi pc L sk m r h') (hi : zin mi.2.2.2.2.2 pc = some (.aload_n k, 1)) (hl : L[k.val]? = some (.retAddr x)) (hq : pc + 1 = q) : zE sc d mi q L (.retAddr x :: sk) m r h' := by
  obtain ⟨lo, h1, h2⟩ := H
  refine ⟨lo, h1, zEv_i1 h2 ((zstep_of hi).trans ?_)⟩
  have e := h1 _ _ hl (by simp)
  subst hq
  simp [zst, zg, e, zisr, zgb]
theorem i_isn {k : Fin 4} {x : Int32} (H : zE sc d mi pc L (.int x :: sk) m r h') (hi : zin mi.2.2.2.2.2 pc = some (.istore_n k, 1)) (hk : zok1 L k.val = true) (hq : pc + 1 = q) : zE sc d mi q (L.set k.val (.int x)) sk m r h' := by
  obtain ⟨lo, h1, h2⟩ := H
  obtain ⟨y, hy⟩ := zEv_is h2
  rw [zstep_of hi] at hy
  refine ⟨_, zcp_s1 h1 hk, zEv_i1 h2 ((zstep_of hi).trans ?_)⟩
  subst hq
  simp only [zst, zg, if_true, Option.bind_some, zpi, Option.bind_eq_some_iff] at hy ⊢
  obtain ⟨u, hu, _⟩ := hy
  exact ⟨u, hu, by trivial⟩
theorem i_is {k : Nat} {x : Int32} (H : zE sc d mi pc L (.int x :: sk) m r h') (hi : zin mi.2.2.2.2.2 pc = some (.istore k, 2)) (hk : zok1 L k = true) (hq : pc + 2 = q) : zE sc d mi q (L.set k (.int x)) sk m r h' := by
  obtain ⟨lo, h1, h2⟩ := H
  obtain ⟨y, hy⟩ := zEv_is h2
  rw [zstep_of hi] at hy
  refine ⟨_, zcp_s1 h1 hk, zEv_i1 h2 ((zstep_of hi).trans ?_)⟩
  subst hq
  simp only [zst, zg, if_true, Option.bind_some, zpi, Option.bind_eq_some_iff] at hy ⊢
  obtain ⟨u, hu, _⟩ := hy
  exact ⟨u, hu, by trivial⟩
theorem i_asn {k : Fin 4} {x : Nat} (H : zE sc d mi pc L (.ref x :: sk) m r h') (hi : zin mi.2.2.2.2.2 pc = some (.astore_n k, 1)) (hk : zok1 L k.val = true) (hq : pc + 1 = q) : zE sc d mi q (L.set k.val (.ref x)) sk m r h' := by
  obtain ⟨lo, h1, h2⟩ := H
  obtain ⟨y, hy⟩ := zEv_is h2
  rw [zstep_of hi] at hy
  refine ⟨_, zcp_s1 h1 hk, zEv_i1 h2 ((zstep_of hi).trans ?_)⟩
  subst hq
  simp only [zst, zg, if_true, Option.bind_some, zpr, Option.bind_eq_some_iff] at hy ⊢
  obtain ⟨u, hu, _⟩ := hy
  exact ⟨u, hu, by trivial⟩
theorem i_as {k : Nat} {x : Nat} (H : zE sc d mi pc L (.ref x :: sk) m r h') (hi : zin mi.2.2.2.2.2 pc = some (.astore k, 2)) (hk : zok1 L k = true) (hq : pc + 2 = q) : zE sc d mi q (L.set k (.ref x)) sk m r h' := by
  obtain ⟨lo, h1, h2⟩ := H
  obtain ⟨y, hy⟩ := zEv_is h2
  rw [zstep_of hi] at hy
  refine ⟨_, zcp_s1 h1 hk, zEv_i1 h2 ((zstep_of hi).trans ?_)⟩
  subst hq
  simp only [zst, zg, if_true, Option.bind_some, zpr, Option.bind_eq_some_iff] at hy ⊢
  obtain ⟨u, hu, _⟩ := hy
  exact ⟨u, hu, by trivial⟩
theorem i_lsn {k : Fin 4} {x : Int64} (H : zE sc d mi pc L (.long x :: sk) m r h') (hi : zin mi.2.2.2.2.2 pc = some (.lstore_n k, 1)) (hk : zok1 L k.val = true) (hq : pc + 1 = q) : zE sc d mi q ((L.set k.val (.long x)).set (k.val + 1) .null) sk m r h' := by
  obtain ⟨lo, h1, h2⟩ := H
  obtain ⟨y, hy⟩ := zEv_is h2
  rw [zstep_of hi] at hy
  refine ⟨_, zcp_s2 h1 hk, zEv_i1 h2 ((zstep_of hi).trans ?_)⟩
  subst hq
  simp only [zst, zg, if_true, Option.bind_some, zpl, Option.bind_eq_some_iff] at hy ⊢
  obtain ⟨u, hu, _⟩ := hy
  exact ⟨u, hu, by trivial⟩
theorem i_ls {k : Nat} {x : Int64} (H : zE sc d mi pc L (.long x :: sk) m r h') (hi : zin mi.2.2.2.2.2 pc = some (.lstore k, 2)) (hk : zok1 L k = true) (hq : pc + 2 = q) : zE sc d mi q ((L.set k (.long x)).set (k + 1) .null) sk m r h' := by
  obtain ⟨lo, h1, h2⟩ := H
  obtain ⟨y, hy⟩ := zEv_is h2
  rw [zstep_of hi] at hy
  refine ⟨_, zcp_s2 h1 hk, zEv_i1 h2 ((zstep_of hi).trans ?_)⟩
  subst hq
  simp only [zst, zg, if_true, Option.bind_some, zpl, Option.bind_eq_some_iff] at hy ⊢
  obtain ⟨u, hu, _⟩ := hy
  exact ⟨u, hu, by trivial⟩
theorem i_inc {k : Nat} {n : Int} {x : Int32} (H : zE sc d mi pc L sk m r h') (hi : zin mi.2.2.2.2.2 pc = some (.iinc k n, 3)) (hl : L[k]? = some (.int x)) (hk : zok1 L k = true) (hq : pc + 3 = q) : zE sc d mi q (L.set k (.int (x + Int32.ofInt n))) sk m r h' := by
  obtain ⟨lo, h1, h2⟩ := H
  obtain ⟨y, hy⟩ := zEv_is h2
  rw [zstep_of hi] at hy
  have e := h1 _ _ hl (by simp)
  refine ⟨_, zcp_s1 h1 hk, zEv_i1 h2 ((zstep_of hi).trans ?_)⟩
  subst hq
  simp only [zst, zg, if_true, Option.bind_some, e, zpi, Option.bind_eq_some_iff] at hy ⊢
  obtain ⟨u, hu, _⟩ := hy
  exact ⟨u, hu, by trivial⟩
theorem i_goto {off : Int} (H : zE sc d mi pc L sk m r h') (hi : zin mi.2.2.2.2.2 pc = some (.goto off, 3)) (ht : zjp pc off = some q) : zE sc d mi q L sk m r h' := by
  obtain ⟨lo, h1, h2⟩ := H
  refine ⟨lo, h1, zEv_i1 h2 ((zstep_of hi).trans ?_)⟩
  simp [zst, zg, ht]
theorem i_if0 {cd : Jvm.ClassFile.Cond} {off : Int} {x : Int32} {t : Nat} (H : zE sc d mi pc L (.int x :: sk) m r h') (hi : zin mi.2.2.2.2.2 pc = some (.ifCond cd off, 3)) (ht : zjp pc off = some t) (hq : pc + 3 = q) : (zcd cd x 0 = true ∧ zE sc d mi t L sk m r h') ∨ (zcd cd x 0 = false ∧ zE sc d mi q L sk m r h') := by
  obtain ⟨lo, h1, h2⟩ := H
  subst hq
  cases hc : zcd cd x 0 with
  | true =>
    refine Or.inl ⟨rfl, lo, h1, zEv_i1 h2 ((zstep_of hi).trans ?_)⟩
    simp [zst, zg, ht, zpi, hc]
  | false =>
    refine Or.inr ⟨rfl, lo, h1, zEv_i1 h2 ((zstep_of hi).trans ?_)⟩
    simp [zst, zg, ht, zpi, hc]
theorem i_ic0 {cd : Jvm.ClassFile.Cond} {off : Int} {x y : Int32} {t : Nat} (H : zE sc d mi pc L (.int y :: .int x :: sk) m r h') (hi : zin mi.2.2.2.2.2 pc = some (.if_icmp cd off, 3)) (ht : zjp pc off = some t) (hq : pc + 3 = q) : (zcd cd x y = true ∧ zE sc d mi t L sk m r h') ∨ (zcd cd x y = false ∧ zE sc d mi q L sk m r h') := by
  obtain ⟨lo, h1, h2⟩ := H
  subst hq
  cases hc : zcd cd x y with
  | true =>
    refine Or.inl ⟨rfl, lo, h1, zEv_i1 h2 ((zstep_of hi).trans ?_)⟩
    simp [zst, zg, ht, zpi, hc]
  | false =>
    refine Or.inr ⟨rfl, lo, h1, zEv_i1 h2 ((zstep_of hi).trans ?_)⟩
    simp [zst, zg, ht, zpi, hc]
theorem zcd_eq {x y : Int32} : (zcd .eq x y = true → x = y) ∧ (zcd .eq x y = false → ¬ x = y) := by
  constructor <;> (intro h; simp [zcd] at h ⊢; first | exact h | simpa using h)
theorem i_if_eq {off : Int} {x : Int32} {t : Nat} (H : zE sc d mi pc L (.int x :: sk) m r h') (hi : zin mi.2.2.2.2.2 pc = some (.ifCond .eq off, 3)) (ht : zjp pc off = some t) (hq : pc + 3 = q) : (x = 0 ∧ zE sc d mi t L sk m r h') ∨ (¬ x = 0 ∧ zE sc d mi q L sk m r h') := by
  rcases i_if0 H hi ht hq with ⟨c, H⟩ | ⟨c, H⟩
  · exact Or.inl ⟨zcd_eq.1 c, H⟩
  · exact Or.inr ⟨zcd_eq.2 c, H⟩
theorem i_ic_eq {off : Int} {x y : Int32} {t : Nat} (H : zE sc d mi pc L (.int y :: .int x :: sk) m r h') (hi : zin mi.2.2.2.2.2 pc = some (.if_icmp .eq off, 3)) (ht : zjp pc off = some t) (hq : pc + 3 = q) : (x = y ∧ zE sc d mi t L sk m r h') ∨ (¬ x = y ∧ zE sc d mi q L sk m r h') := by
  rcases i_ic0 H hi ht hq with ⟨c, H⟩ | ⟨c, H⟩
  · exact Or.inl ⟨zcd_eq.1 c, H⟩
  · exact Or.inr ⟨zcd_eq.2 c, H⟩
theorem zcd_ne {x y : Int32} : (zcd .ne x y = true → ¬ x = y) ∧ (zcd .ne x y = false → x = y) := by
  constructor <;> (intro h; simp [zcd] at h ⊢; first | exact h | simpa using h)
theorem i_if_ne {off : Int} {x : Int32} {t : Nat} (H : zE sc d mi pc L (.int x :: sk) m r h') (hi : zin mi.2.2.2.2.2 pc = some (.ifCond .ne off, 3)) (ht : zjp pc off = some t) (hq : pc + 3 = q) : (¬ x = 0 ∧ zE sc d mi t L sk m r h') ∨ (x = 0 ∧ zE sc d mi q L sk m r h') := by
  rcases i_if0 H hi ht hq with ⟨c, H⟩ | ⟨c, H⟩
  · exact Or.inl ⟨zcd_ne.1 c, H⟩
  · exact Or.inr ⟨zcd_ne.2 c, H⟩
theorem i_ic_ne {off : Int} {x y : Int32} {t : Nat} (H : zE sc d mi pc L (.int y :: .int x :: sk) m r h') (hi : zin mi.2.2.2.2.2 pc = some (.if_icmp .ne off, 3)) (ht : zjp pc off = some t) (hq : pc + 3 = q) : (¬ x = y ∧ zE sc d mi t L sk m r h') ∨ (x = y ∧ zE sc d mi q L sk m r h') := by
  rcases i_ic0 H hi ht hq with ⟨c, H⟩ | ⟨c, H⟩
  · exact Or.inl ⟨zcd_ne.1 c, H⟩
  · exact Or.inr ⟨zcd_ne.2 c, H⟩
theorem zcd_lt {x y : Int32} : (zcd .lt x y = true → x < y) ∧ (zcd .lt x y = false → ¬ x < y) := by
  constructor <;> (intro h; simp [zcd] at h ⊢; first | exact h | simpa using h)
theorem i_if_lt {off : Int} {x : Int32} {t : Nat} (H : zE sc d mi pc L (.int x :: sk) m r h') (hi : zin mi.2.2.2.2.2 pc = some (.ifCond .lt off, 3)) (ht : zjp pc off = some t) (hq : pc + 3 = q) : (x < 0 ∧ zE sc d mi t L sk m r h') ∨ (¬ x < 0 ∧ zE sc d mi q L sk m r h') := by
  rcases i_if0 H hi ht hq with ⟨c, H⟩ | ⟨c, H⟩
  · exact Or.inl ⟨zcd_lt.1 c, H⟩
  · exact Or.inr ⟨zcd_lt.2 c, H⟩
theorem i_ic_lt {off : Int} {x y : Int32} {t : Nat} (H : zE sc d mi pc L (.int y :: .int x :: sk) m r h') (hi : zin mi.2.2.2.2.2 pc = some (.if_icmp .lt off, 3)) (ht : zjp pc off = some t) (hq : pc + 3 = q) : (x < y ∧ zE sc d mi t L sk m r h') ∨ (¬ x < y ∧ zE sc d mi q L sk m r h') := by
  rcases i_ic0 H hi ht hq with ⟨c, H⟩ | ⟨c, H⟩
  · exact Or.inl ⟨zcd_lt.1 c, H⟩
  · exact Or.inr ⟨zcd_lt.2 c, H⟩
theorem zcd_ge {x y : Int32} : (zcd .ge x y = true → ¬ x < y) ∧ (zcd .ge x y = false → x < y) := by
  constructor <;> (intro h; simp [zcd] at h ⊢; first | exact h | simpa using h)
theorem i_if_ge {off : Int} {x : Int32} {t : Nat} (H : zE sc d mi pc L (.int x :: sk) m r h') (hi : zin mi.2.2.2.2.2 pc = some (.ifCond .ge off, 3)) (ht : zjp pc off = some t) (hq : pc + 3 = q) : (¬ x < 0 ∧ zE sc d mi t L sk m r h') ∨ (x < 0 ∧ zE sc d mi q L sk m r h') := by
  rcases i_if0 H hi ht hq with ⟨c, H⟩ | ⟨c, H⟩
  · exact Or.inl ⟨zcd_ge.1 c, H⟩
  · exact Or.inr ⟨zcd_ge.2 c, H⟩
theorem i_ic_ge {off : Int} {x y : Int32} {t : Nat} (H : zE sc d mi pc L (.int y :: .int x :: sk) m r h') (hi : zin mi.2.2.2.2.2 pc = some (.if_icmp .ge off, 3)) (ht : zjp pc off = some t) (hq : pc + 3 = q) : (¬ x < y ∧ zE sc d mi t L sk m r h') ∨ (x < y ∧ zE sc d mi q L sk m r h') := by
  rcases i_ic0 H hi ht hq with ⟨c, H⟩ | ⟨c, H⟩
  · exact Or.inl ⟨zcd_ge.1 c, H⟩
  · exact Or.inr ⟨zcd_ge.2 c, H⟩
theorem zcd_gt {x y : Int32} : (zcd .gt x y = true → y < x) ∧ (zcd .gt x y = false → ¬ y < x) := by
  constructor <;> (intro h; simp [zcd] at h ⊢; first | exact h | simpa using h)
theorem i_if_gt {off : Int} {x : Int32} {t : Nat} (H : zE sc d mi pc L (.int x :: sk) m r h') (hi : zin mi.2.2.2.2.2 pc = some (.ifCond .gt off, 3)) (ht : zjp pc off = some t) (hq : pc + 3 = q) : (0 < x ∧ zE sc d mi t L sk m r h') ∨ (¬ 0 < x ∧ zE sc d mi q L sk m r h') := by
  rcases i_if0 H hi ht hq with ⟨c, H⟩ | ⟨c, H⟩
  · exact Or.inl ⟨zcd_gt.1 c, H⟩
  · exact Or.inr ⟨zcd_gt.2 c, H⟩
theorem i_ic_gt {off : Int} {x y : Int32} {t : Nat} (H : zE sc d mi pc L (.int y :: .int x :: sk) m r h') (hi : zin mi.2.2.2.2.2 pc = some (.if_icmp .gt off, 3)) (ht : zjp pc off = some t) (hq : pc + 3 = q) : (y < x ∧ zE sc d mi t L sk m r h') ∨ (¬ y < x ∧ zE sc d mi q L sk m r h') := by
  rcases i_ic0 H hi ht hq with ⟨c, H⟩ | ⟨c, H⟩
  · exact Or.inl ⟨zcd_gt.1 c, H⟩
  · exact Or.inr ⟨zcd_gt.2 c, H⟩
theorem zcd_le {x y : Int32} : (zcd .le x y = true → ¬ y < x) ∧ (zcd .le x y = false → y < x) := by
  constructor <;> (intro h; simp [zcd] at h ⊢; first | exact h | simpa using h)
theorem i_if_le {off : Int} {x : Int32} {t : Nat} (H : zE sc d mi pc L (.int x :: sk) m r h') (hi : zin mi.2.2.2.2.2 pc = some (.ifCond .le off, 3)) (ht : zjp pc off = some t) (hq : pc + 3 = q) : (¬ 0 < x ∧ zE sc d mi t L sk m r h') ∨ (0 < x ∧ zE sc d mi q L sk m r h') := by
  rcases i_if0 H hi ht hq with ⟨c, H⟩ | ⟨c, H⟩
  · exact Or.inl ⟨zcd_le.1 c, H⟩
  · exact Or.inr ⟨zcd_le.2 c, H⟩
theorem i_ic_le {off : Int} {x y : Int32} {t : Nat} (H : zE sc d mi pc L (.int y :: .int x :: sk) m r h') (hi : zin mi.2.2.2.2.2 pc = some (.if_icmp .le off, 3)) (ht : zjp pc off = some t) (hq : pc + 3 = q) : (¬ y < x ∧ zE sc d mi t L sk m r h') ∨ (y < x ∧ zE sc d mi q L sk m r h') := by
  rcases i_ic0 H hi ht hq with ⟨c, H⟩ | ⟨c, H⟩
  · exact Or.inl ⟨zcd_le.1 c, H⟩
  · exact Or.inr ⟨zcd_le.2 c, H⟩
theorem i_tsd {df lw hg : Int} {offs : Array Int} {x : Int32} (H : zE sc d mi pc L (.int x :: sk) m r h') {len : Nat} (hi : zin mi.2.2.2.2.2 pc = some (.tableswitch df lw hg offs, len)) (hx : x.toInt < lw ∨ hg < x.toInt) (ht : zjp pc df = some q) : zE sc d mi q L sk m r h' := by
  obtain ⟨lo, h1, h2⟩ := H
  refine ⟨lo, h1, zEv_i1 h2 ((zstep_of hi).trans ?_)⟩
  simp [zst, zpi, hx, ht]
theorem i_tsj {df lw hg : Int} {offs : Array Int} {x : Int32} {len : Nat} {o : Int} (H : zE sc d mi pc L (.int x :: sk) m r h') (hi : zin mi.2.2.2.2.2 pc = some (.tableswitch df lw hg offs, len)) (hx : ¬ (x.toInt < lw ∨ hg < x.toInt)) (ho : offs[(x.toInt - lw).toNat]? = some o) (ht : zjp pc o = some q) : zE sc d mi q L sk m r h' := by
  obtain ⟨lo, h1, h2⟩ := H
  refine ⟨lo, h1, zEv_i1 h2 ((zstep_of hi).trans ?_)⟩
  simp only [zst, zpi, Option.bind_some]
  rw [if_neg hx, ho, Option.bind_some, ht, Option.bind_some]
theorem i_lks {df : Int} {ps : Array (Int × Int)} {x : Int32} {len : Nat} (H : zE sc d mi pc L (.int x :: sk) m r h') (hi : zin mi.2.2.2.2.2 pc = some (.lookupswitch df ps, len)) (ht : zjp pc (Op.lookupswitch.offset ps.toList df x.toInt) = some q) : zE sc d mi q L sk m r h' := by
  obtain ⟨lo, h1, h2⟩ := H
  obtain ⟨y, hy⟩ := zEv_is h2
  rw [zstep_of hi] at hy
  refine ⟨lo, h1, zEv_i1 h2 ((zstep_of hi).trans ?_)⟩
  simp only [zst, zpi, Option.bind_some, ht, Option.bind_eq_some_iff] at hy ⊢
  obtain ⟨u, hu, _⟩ := hy
  exact ⟨u, hu, by trivial⟩
theorem i_gf {i a : Nat} {ci fi ei : Nat} {c : zLc} {o : Option Value} (H : zE sc d mi pc L (.ref a :: sk) m r h') (hi : zin mi.2.2.2.2.2 pc = some (.getfield i, 3)) (hf : zlk zfls mi.2.2.2.2.1 i = some (ci, fi, ei)) (hn : mi.2.2.2.2.1 ≠ 12) (hc : zLY[a]? = some c) (ho : c.2[fi]? = some o) (hq : pc + 3 = q) : zE sc d mi q L (o.getD (.int (m a fi)) :: sk) m r h' := by
  obtain ⟨lo, h1, h2⟩ := H
  obtain ⟨y, hy⟩ := zEv_is h2
  rw [zstep_of hi] at hy
  refine ⟨lo, h1, zEv_i1 h2 ((zstep_of hi).trans ?_)⟩
  subst hq
  have e2 : (zhpc (m a) 0 c.2)[fi]? = some (o.getD (.int (m a fi))) := by
    rw [zhpc_get, ho, Nat.zero_add]
    rfl
  simp only [zst, zg, if_true, Option.bind_some, if_neg hn, zpr, hf, zhp_get hc, Option.bind_eq_some_iff, e2] at hy ⊢
  obtain ⟨u, hu, _⟩ := hy
  exact ⟨u, hu, by trivial⟩
theorem i_gfi {i a : Nat} {ci fi ei : Nat} {c : zLc} (H : zE sc d mi pc L (.ref a :: sk) m r h') (hi : zin mi.2.2.2.2.2 pc = some (.getfield i, 3)) (hf : zlk zfls mi.2.2.2.2.1 i = some (ci, fi, ei)) (hn : mi.2.2.2.2.1 ≠ 12) (hc : zLY[a]? = some c) (ho : c.2[fi]? = some none) (hq : pc + 3 = q) : zE sc d mi q L (.int (m a fi) :: sk) m r h' := i_gf H hi hf hn hc ho hq
theorem i_gfr {i a : Nat} {ci fi ei : Nat} {c : zLc} {v : Value} (H : zE sc d mi pc L (.ref a :: sk) m r h') (hi : zin mi.2.2.2.2.2 pc = some (.getfield i, 3)) (hf : zlk zfls mi.2.2.2.2.1 i = some (ci, fi, ei)) (hn : mi.2.2.2.2.1 ≠ 12) (hc : zLY[a]? = some c) (ho : c.2[fi]? = some (some v)) (hq : pc + 3 = q) : zE sc d mi q L (v :: sk) m r h' := i_gf H hi hf hn hc ho hq
theorem i_pf {i a : Nat} {ci fi ei : Nat} {c : zLc} {v : Int32} (H : zE sc d mi pc L (.int v :: .ref a :: sk) m r h') (hi : zin mi.2.2.2.2.2 pc = some (.putfield i, 3)) (hf : zlk zfls mi.2.2.2.2.1 i = some (ci, fi, ei)) (hn : mi.2.2.2.2.1 ≠ 12) (hc : zLY[a]? = some c) (ho : c.2[fi]? = some none) (hq : pc + 3 = q) : zE sc d mi q L sk (zup m a fi v) r h' := by
  obtain ⟨lo, h1, h2⟩ := H
  obtain ⟨y, hy⟩ := zEv_is h2
  rw [zstep_of hi] at hy
  refine ⟨lo, h1, zEv_i1 h2 ((zstep_of hi).trans ?_)⟩
  subst hq
  simp only [zst, zg, if_true, Option.bind_some, zp1, Value.category, zpr, hf, zhp_get hc, Option.bind_eq_some_iff] at hy ⊢
  obtain ⟨u, hu, ty, hty, u2, hu2, _⟩ := hy
  exact ⟨u, hu, ty, hty, u2, hu2, by rw [zhp_set hc ho]⟩
theorem zix_n {x : Int32} {n : Nat} (h : zix x n = true) : x = Int32.ofNat x.toNatClampNeg ∧ x.toNatClampNeg < n := by
  simp only [zix, Bool.and_eq_true, Bool.not_eq_true', decide_eq_false_iff_not, decide_eq_true_eq, Int32.not_lt] at h
  exact ⟨(Int32.ofNat_toNatClampNeg x h.1).symm, h.2⟩
theorem zrp_get {n i : Nat} (h : i < n) : (List.replicate n (none : Option Value))[i]? = some none := by
  rw [List.getElem?_replicate, if_pos h]
theorem zrw_get {f : Nat → Int32} {n i : Nat} (h : i < n) : (zhpc f 0 (List.replicate n none))[i]? = some (.int (f i)) := by
  rw [zhpc_get, zrp_get h, Nat.zero_add]
  rfl
theorem i_ia {a n : Nat} {x : Int32} (H : zE sc d mi pc L (.int x :: .ref a :: sk) m r h') (hi : zin mi.2.2.2.2.2 pc = some (.iaload, 1)) {t : Nat ⊕ Nat} (hc : zLY[a]? = some (t, List.replicate n none)) (hq : pc + 1 = q) : ∃ i, i < n ∧ x = Int32.ofNat i ∧ zE sc d mi q L (.int (m a i) :: sk) m r h' := by
  obtain ⟨lo, h1, h2⟩ := H
  obtain ⟨y, hy⟩ := zEv_is h2
  rw [zstep_of hi] at hy
  have hy0 := hy
  simp only [zst, zg, if_true, Option.bind_some, zpi, zhp_get hc, Option.bind_eq_some_iff] at hy
  obtain ⟨u, hu, v, hv, hz⟩ := hy
  have e := zgb_some hu
  rw [Bool.and_eq_true, zhpc_len, List.length_replicate] at e
  obtain ⟨e1, e2⟩ := zix_n e.2
  refine ⟨x.toNatClampNeg, e2, e1, lo, h1, zEv_i1 h2 ((zstep_of hi).trans ?_)⟩
  rw [zrw_get e2] at hv
  cases hv
  rw [hy0, ← hz, ← hq]
theorem i_ba {a n : Nat} {x : Int32} (H : zE sc d mi pc L (.int x :: .ref a :: sk) m r h') (hi : zin mi.2.2.2.2.2 pc = some (.baload, 1)) {t : Nat ⊕ Nat} (hc : zLY[a]? = some (t, List.replicate n none)) (hq : pc + 1 = q) : ∃ i, i < n ∧ x = Int32.ofNat i ∧ zE sc d mi q L (.int (m a i) :: sk) m r h' := by
  obtain ⟨lo, h1, h2⟩ := H
  obtain ⟨y, hy⟩ := zEv_is h2
  rw [zstep_of hi] at hy
  have hy0 := hy
  simp only [zst, zg, if_true, Option.bind_some, zpi, zhp_get hc, Option.bind_eq_some_iff] at hy
  obtain ⟨u, hu, v, hv, hz⟩ := hy
  have e := zgb_some hu
  rw [Bool.and_eq_true, zhpc_len, List.length_replicate] at e
  obtain ⟨e1, e2⟩ := zix_n e.2
  refine ⟨x.toNatClampNeg, e2, e1, lo, h1, zEv_i1 h2 ((zstep_of hi).trans ?_)⟩
  rw [zrw_get e2] at hv
  cases hv
  rw [hy0, ← hz, ← hq]
theorem i_iast {a n : Nat} {x v : Int32} (H : zE sc d mi pc L (.int v :: .int x :: .ref a :: sk) m r h') (hi : zin mi.2.2.2.2.2 pc = some (.iastore, 1)) {t : Nat ⊕ Nat} (hc : zLY[a]? = some (t, List.replicate n none)) (hq : pc + 1 = q) : ∃ i, i < n ∧ x = Int32.ofNat i ∧ zE sc d mi q L sk (zup m a i v) r h' := by
  obtain ⟨lo, h1, h2⟩ := H
  obtain ⟨y, hy⟩ := zEv_is h2
  rw [zstep_of hi] at hy
  have hy0 := hy
  simp only [zst, zg, if_true, Option.bind_some, zpi, zpr, zhp_get hc, Option.bind_eq_some_iff] at hy
  obtain ⟨u, hu, hz⟩ := hy
  have e := zgb_some hu
  rw [Bool.and_eq_true, zhpc_len, List.length_replicate] at e
  obtain ⟨e1, e2⟩ := zix_n e.2
  refine ⟨x.toNatClampNeg, e2, e1, lo, h1, zEv_i1 h2 ((zstep_of hi).trans ?_)⟩
  rw [hy0, ← hz, ← hq, ← zhp_set hc (zrp_get e2)]
theorem i_bast {a n : Nat} {x v : Int32} (H : zE sc d mi pc L (.int v :: .int x :: .ref a :: sk) m r h') (hi : zin mi.2.2.2.2.2 pc = some (.bastore, 1)) {t : Nat ⊕ Nat} (hc : zLY[a]? = some (t, List.replicate n none)) (hq : pc + 1 = q) : ∃ i, i < n ∧ x = Int32.ofNat i ∧ zE sc d mi q L sk (zup m a i (vp_nar (if t = Sum.inl 1 then .byte else .boolean) v)) r h' := by
  obtain ⟨lo, h1, h2⟩ := H
  obtain ⟨y, hy⟩ := zEv_is h2
  rw [zstep_of hi] at hy
  have hy0 := hy
  simp only [zst, zg, if_true, Option.bind_some, zpi, zpr, zhp_get hc, Option.bind_eq_some_iff] at hy
  obtain ⟨u, hu, hz⟩ := hy
  have e := zgb_some hu
  rw [Bool.and_eq_true, zhpc_len, List.length_replicate] at e
  obtain ⟨e1, e2⟩ := zix_n e.2
  refine ⟨x.toNatClampNeg, e2, e1, lo, h1, zEv_i1 h2 ((zstep_of hi).trans ?_)⟩
  rw [hy0, ← hz, ← hq, ← zhp_set hc (zrp_get e2)]
theorem i_aa {a : Nat} {x : Int32} (H : zE sc d mi pc L (.int x :: .ref a :: sk) m r h') (hi : zin mi.2.2.2.2.2 pc = some (.aaload, 1)) {c : zLc} (hc : zLY[a]? = some c) (hq : pc + 1 = q) : ∃ i, i < c.2.length ∧ x = Int32.ofNat i ∧ ∀ v, c.2[i]? = some (some v) → zE sc d mi q L (v :: sk) m r h' := by
  obtain ⟨lo, h1, h2⟩ := H
  obtain ⟨y, hy⟩ := zEv_is h2
  rw [zstep_of hi] at hy
  have hy0 := hy
  simp only [zst, zg, if_true, Option.bind_some, zpi, zpr, zhp_get hc, Option.bind_eq_some_iff] at hy
  obtain ⟨u, hu, v, hv, hz⟩ := hy
  have e := zgb_some hu
  rw [Bool.and_eq_true, zhpc_len] at e
  obtain ⟨e1, e2⟩ := zix_n e.2
  refine ⟨x.toNatClampNeg, e2, e1, fun w hw => ⟨lo, h1, zEv_i1 h2 ((zstep_of hi).trans ?_)⟩⟩
  rw [zhpc_get, hw] at hv
  cases hv
  rw [hy0, ← hz, ← hq]
  rfl
theorem i_len {a : Nat} {c : zLc} (H : zE sc d mi pc L (.ref a :: sk) m r h') (hi : zin mi.2.2.2.2.2 pc = some (.arraylength, 1)) (hc : zLY[a]? = some c) (hq : pc + 1 = q) : zE sc d mi q L (.int (Int32.ofNat c.2.length) :: sk) m r h' := by
  obtain ⟨lo, h1, h2⟩ := H
  obtain ⟨y, hy⟩ := zEv_is h2
  rw [zstep_of hi] at hy
  refine ⟨lo, h1, zEv_i1 h2 ((zstep_of hi).trans ?_)⟩
  subst hq
  simp only [zst, zg, if_true, Option.bind_some, zhp_get hc, Option.bind_eq_some_iff, zhpc_len] at hy ⊢
  obtain ⟨u, hu, _⟩ := hy
  exact ⟨u, hu, by trivial⟩
theorem i_ir {x : Int32} (H : zE sc d mi pc L (.int x :: sk) m r h') (hi : zin mi.2.2.2.2.2 pc = some (.ireturn, 1)) : r = some (.int x) ∧ h' = zhp m := by
  obtain ⟨lo, h1, h2⟩ := H
  obtain ⟨y, hy⟩ := zEv_is h2
  rw [zstep_of hi] at hy
  have hy0 := hy
  simp only [zst, zg, if_true, Option.bind_some, zpi, Option.bind_eq_some_iff] at hy
  obtain ⟨u, hu, hz⟩ := hy
  exact zEv_ir h2 ((zstep_of hi).trans (by rw [hy0, ← hz]))
theorem i_lr {x : Int64} (H : zE sc d mi pc L (.long x :: sk) m r h') (hi : zin mi.2.2.2.2.2 pc = some (.lreturn, 1)) : r = some (.long x) ∧ h' = zhp m := by
  obtain ⟨lo, h1, h2⟩ := H
  obtain ⟨y, hy⟩ := zEv_is h2
  rw [zstep_of hi] at hy
  have hy0 := hy
  simp only [zst, zg, if_true, Option.bind_some, zpl, Option.bind_eq_some_iff] at hy
  obtain ⟨u, hu, hz⟩ := hy
  exact zEv_ir h2 ((zstep_of hi).trans (by rw [hy0, ← hz]))
theorem i_xr {x : Nat} (H : zE sc d mi pc L (.retAddr x :: sk) m r h') (hi : zin mi.2.2.2.2.2 pc = some (.areturn, 1)) : r = some (.retAddr x) ∧ h' = zhp m := by
  obtain ⟨lo, h1, h2⟩ := H
  obtain ⟨y, hy⟩ := zEv_is h2
  rw [zstep_of hi] at hy
  have hy0 := hy
  simp only [zst, zg, if_true, Option.bind_some, zpx, Option.bind_eq_some_iff] at hy
  obtain ⟨u, hu, hz⟩ := hy
  exact zEv_ir h2 ((zstep_of hi).trans (by rw [hy0, ← hz]))
theorem i_rt (H : zE sc d mi pc L sk m r h') (hi : zin mi.2.2.2.2.2 pc = some (.return_, 1)) : r = none ∧ h' = zhp m := by
  obtain ⟨lo, h1, h2⟩ := H
  obtain ⟨y, hy⟩ := zEv_is h2
  rw [zstep_of hi] at hy
  have hy0 := hy
  simp only [zst, zg, if_true, Option.bind_some, Option.bind_eq_some_iff] at hy
  obtain ⟨u, hu, hz⟩ := hy
  exact zEv_ir h2 ((zstep_of hi).trans (by rw [hy0, ← hz]))
theorem i_max {i : Nat} {e : Nat × Nat × Nat} {x y : Int32} (H : zE sc d mi pc L (.int y :: .int x :: sk) m r h') (hi : zin mi.2.2.2.2.2 pc = some (.invokestatic i, 3)) (hm : zlk zmls mi.2.2.2.2.1 i = some (5, e)) (hq : pc + 3 = q) : zE sc d mi q L (.int (if x < y then y else x) :: sk) m r h' := by
  obtain ⟨lo, h1, h2⟩ := H
  obtain ⟨w, hy⟩ := zEv_is h2
  rw [zstep_of hi] at hy
  refine ⟨lo, h1, zEv_i1 h2 ((zstep_of hi).trans ?_)⟩
  subst hq
  simp [zst, zg, zpi, hm, Option.bind_eq_some_iff] at hy ⊢
  obtain ⟨⟨u, hu⟩, _⟩ := hy
  exact ⟨u, hu⟩
theorem i_min {i : Nat} {e : Nat × Nat × Nat} {x y : Int32} (H : zE sc d mi pc L (.int y :: .int x :: sk) m r h') (hi : zin mi.2.2.2.2.2 pc = some (.invokestatic i, 3)) (hm : zlk zmls mi.2.2.2.2.1 i = some (6, e)) (hq : pc + 3 = q) : zE sc d mi q L (.int (if y < x then y else x) :: sk) m r h' := by
  obtain ⟨lo, h1, h2⟩ := H
  obtain ⟨w, hy⟩ := zEv_is h2
  rw [zstep_of hi] at hy
  refine ⟨lo, h1, zEv_i1 h2 ((zstep_of hi).trans ?_)⟩
  subst hq
  simp [zst, zg, zpi, hm, Option.bind_eq_some_iff] at hy ⊢
  obtain ⟨⟨u, hu⟩, _⟩ := hy
  exact ⟨u, hu⟩
theorem i_rem {x y : Int32} (H : zE sc d mi pc L (.int y :: .int x :: sk) m r h') (hi : zin mi.2.2.2.2.2 pc = some (.irem, 1)) (hq : pc + 1 = q) : y ≠ 0 ∧ zE sc d mi q L (.int (x - x / y * y) :: sk) m r h' := by
  obtain ⟨lo, h1, h2⟩ := H
  obtain ⟨w, hy⟩ := zEv_is h2
  rw [zstep_of hi] at hy
  by_cases h0 : y = 0
  · subst h0
    simp [zst, zg, zb2] at hy
  · refine ⟨h0, lo, h1, zEv_i1 h2 ((zstep_of hi).trans ?_)⟩
    subst hq
    simp [zst, zg, zb2, h0]
theorem i_div {x y : Int32} (H : zE sc d mi pc L (.int y :: .int x :: sk) m r h') (hi : zin mi.2.2.2.2.2 pc = some (.idiv, 1)) (hq : pc + 1 = q) : y ≠ 0 ∧ zE sc d mi q L (.int (x / y) :: sk) m r h' := by
  obtain ⟨lo, h1, h2⟩ := H
  obtain ⟨w, hy⟩ := zEv_is h2
  rw [zstep_of hi] at hy
  by_cases h0 : y = 0
  · subst h0
    simp [zst, zg, zb2] at hy
  · refine ⟨h0, lo, h1, zEv_i1 h2 ((zstep_of hi).trans ?_)⟩
    subst hq
    simp [zst, zg, zb2, h0]
theorem i_lrem {x y : Int64} (H : zE sc d mi pc L (.long y :: .long x :: sk) m r h') (hi : zin mi.2.2.2.2.2 pc = some (.lrem, 1)) (hq : pc + 1 = q) : y ≠ 0 ∧ zE sc d mi q L (.long (x - x / y * y) :: sk) m r h' := by
  obtain ⟨lo, h1, h2⟩ := H
  obtain ⟨w, hy⟩ := zEv_is h2
  rw [zstep_of hi] at hy
  by_cases h0 : y = 0
  · subst h0
    simp [zst, zg, zl2] at hy
  · refine ⟨h0, lo, h1, zEv_i1 h2 ((zstep_of hi).trans ?_)⟩
    subst hq
    simp [zst, zg, zl2, h0]
theorem i_ldiv {x y : Int64} (H : zE sc d mi pc L (.long y :: .long x :: sk) m r h') (hi : zin mi.2.2.2.2.2 pc = some (.ldiv, 1)) (hq : pc + 1 = q) : y ≠ 0 ∧ zE sc d mi q L (.long (x / y) :: sk) m r h' := by
  obtain ⟨lo, h1, h2⟩ := H
  obtain ⟨w, hy⟩ := zEv_is h2
  rw [zstep_of hi] at hy
  by_cases h0 : y = 0
  · subst h0
    simp [zst, zg, zl2] at hy
  · refine ⟨h0, lo, h1, zEv_i1 h2 ((zstep_of hi).trans ?_)⟩
    subst hq
    simp [zst, zg, zl2, h0]
theorem i_call {kd id : Nat} {as : List Value} {ins : Instr} {sk0 : List Value} {mi1 : zMi} (p : Nat) (H : zE sc d mi pc L sk0 m r h') (hi : zin mi.2.2.2.2.2 pc = some (ins, 3)) (hz : ∀ lo w, zst sc mi ins 3 pc lo sk0 (zhp m) = some w → w = .inr (.inl (kd, id, as, sk))) (hm : zms[id]? = some mi1) (hc : as.all (fun v => v.category == 1) = true) (hq : pc + 3 = q) : ∃ r1 h1, zE none (d - 1) mi1 0 (as ++ List.replicate p .null) [] m r1 h1 ∧ (∀ v m1, r1 = some v → h1 = zhp m1 → zE sc d mi q L (v :: sk) m1 r h') ∧ (∀ m1, r1 = none → h1 = zhp m1 → zE sc d mi q L sk m1 r h') := by
  obtain ⟨lo, h1, h2⟩ := H
  obtain ⟨y, hy⟩ := zEv_is h2
  have hy0 := hy
  rw [zstep_of hi] at hy
  rw [hz lo y hy] at hy0
  subst hq
  obtain ⟨r1, g1, x1, x2⟩ := zEv_ic h2 hy0 hm
  refine ⟨r1, g1, ⟨_, zcp_args p hc, x1⟩, fun v m1 hr hg => ?_, fun m1 hr hg => ?_⟩
  · subst hr; subst hg
    exact ⟨lo, h1, x2⟩
  · subst hr; subst hg
    exact ⟨lo, h1, x2⟩
theorem i_cv0 {i id : Nat} {e : Nat} {a0 : Value} {mi1 : zMi} (p : Nat) (H : zE sc d mi pc L (a0 :: sk) m r h') (hi : zin mi.2.2.2.2.2 pc = some (.invokevirtual i, 3)) (hf : zlk zmls mi.2.2.2.2.1 i = some (0, id, 0, e)) (hm : zms[id]? = some mi1) (hc : [a0].all (fun v => v.category == 1) = true) (hq : pc + 3 = q) : ∃ r1 h1, zE none (d - 1) mi1 0 ([a0] ++ List.replicate p .null) [] m r1 h1 ∧ (∀ v m1, r1 = some v → h1 = zhp m1 → zE sc d mi q L (v :: sk) m1 r h') ∧ (∀ m1, r1 = none → h1 = zhp m1 → zE sc d mi q L sk m1 r h') := by
  refine i_call (kd := 0) (id := id) p H hi (fun lo w hw => ?_) hm hc hq
  simp only [zst, zg, if_true, Option.bind_some, hf, Option.bind_eq_some_iff] at hw
  obtain ⟨u, hu, hw⟩ := hw
  cases hw
  rfl
theorem i_cv1 {i id : Nat} {e : Nat} {a0 a1 : Value} {mi1 : zMi} (p : Nat) (H : zE sc d mi pc L (a1 :: a0 :: sk) m r h') (hi : zin mi.2.2.2.2.2 pc = some (.invokevirtual i, 3)) (hf : zlk zmls mi.2.2.2.2.1 i = some (0, id, 1, e)) (hm : zms[id]? = some mi1) (hc : [a0, a1].all (fun v => v.category == 1) = true) (hq : pc + 3 = q) : ∃ r1 h1, zE none (d - 1) mi1 0 ([a0, a1] ++ List.replicate p .null) [] m r1 h1 ∧ (∀ v m1, r1 = some v → h1 = zhp m1 → zE sc d mi q L (v :: sk) m1 r h') ∧ (∀ m1, r1 = none → h1 = zhp m1 → zE sc d mi q L sk m1 r h') := by
  refine i_call (kd := 0) (id := id) p H hi (fun lo w hw => ?_) hm hc hq
  simp only [zst, zg, if_true, Option.bind_some, hf, Option.bind_eq_some_iff] at hw
  obtain ⟨u, hu, hw⟩ := hw
  cases hw
  rfl
theorem i_cv2 {i id : Nat} {e : Nat} {a0 a1 a2 : Value} {mi1 : zMi} (p : Nat) (H : zE sc d mi pc L (a2 :: a1 :: a0 :: sk) m r h') (hi : zin mi.2.2.2.2.2 pc = some (.invokevirtual i, 3)) (hf : zlk zmls mi.2.2.2.2.1 i = some (0, id, 2, e)) (hm : zms[id]? = some mi1) (hc : [a0, a1, a2].all (fun v => v.category == 1) = true) (hq : pc + 3 = q) : ∃ r1 h1, zE none (d - 1) mi1 0 ([a0, a1, a2] ++ List.replicate p .null) [] m r1 h1 ∧ (∀ v m1, r1 = some v → h1 = zhp m1 → zE sc d mi q L (v :: sk) m1 r h') ∧ (∀ m1, r1 = none → h1 = zhp m1 → zE sc d mi q L sk m1 r h') := by
  refine i_call (kd := 0) (id := id) p H hi (fun lo w hw => ?_) hm hc hq
  simp only [zst, zg, if_true, Option.bind_some, hf, Option.bind_eq_some_iff] at hw
  obtain ⟨u, hu, hw⟩ := hw
  cases hw
  rfl
theorem i_cv3 {i id : Nat} {e : Nat} {a0 a1 a2 a3 : Value} {mi1 : zMi} (p : Nat) (H : zE sc d mi pc L (a3 :: a2 :: a1 :: a0 :: sk) m r h') (hi : zin mi.2.2.2.2.2 pc = some (.invokevirtual i, 3)) (hf : zlk zmls mi.2.2.2.2.1 i = some (0, id, 3, e)) (hm : zms[id]? = some mi1) (hc : [a0, a1, a2, a3].all (fun v => v.category == 1) = true) (hq : pc + 3 = q) : ∃ r1 h1, zE none (d - 1) mi1 0 ([a0, a1, a2, a3] ++ List.replicate p .null) [] m r1 h1 ∧ (∀ v m1, r1 = some v → h1 = zhp m1 → zE sc d mi q L (v :: sk) m1 r h') ∧ (∀ m1, r1 = none → h1 = zhp m1 → zE sc d mi q L sk m1 r h') := by
  refine i_call (kd := 0) (id := id) p H hi (fun lo w hw => ?_) hm hc hq
  simp only [zst, zg, if_true, Option.bind_some, hf, Option.bind_eq_some_iff] at hw
  obtain ⟨u, hu, hw⟩ := hw
  cases hw
  rfl
theorem i_cv4 {i id : Nat} {e : Nat} {a0 a1 a2 a3 a4 : Value} {mi1 : zMi} (p : Nat) (H : zE sc d mi pc L (a4 :: a3 :: a2 :: a1 :: a0 :: sk) m r h') (hi : zin mi.2.2.2.2.2 pc = some (.invokevirtual i, 3)) (hf : zlk zmls mi.2.2.2.2.1 i = some (0, id, 4, e)) (hm : zms[id]? = some mi1) (hc : [a0, a1, a2, a3, a4].all (fun v => v.category == 1) = true) (hq : pc + 3 = q) : ∃ r1 h1, zE none (d - 1) mi1 0 ([a0, a1, a2, a3, a4] ++ List.replicate p .null) [] m r1 h1 ∧ (∀ v m1, r1 = some v → h1 = zhp m1 → zE sc d mi q L (v :: sk) m1 r h') ∧ (∀ m1, r1 = none → h1 = zhp m1 → zE sc d mi q L sk m1 r h') := by
  refine i_call (kd := 0) (id := id) p H hi (fun lo w hw => ?_) hm hc hq
  simp only [zst, zg, if_true, Option.bind_some, hf, Option.bind_eq_some_iff] at hw
  obtain ⟨u, hu, hw⟩ := hw
  cases hw
  rfl
theorem i_cs1 {i id : Nat} {e : Nat} {a0 : Value} {mi1 : zMi} (p : Nat) (H : zE sc d mi pc L (a0 :: sk) m r h') (hi : zin mi.2.2.2.2.2 pc = some (.invokestatic i, 3)) (hf : zlk zmls mi.2.2.2.2.1 i = some (1, id, 1, e)) (hm : zms[id]? = some mi1) (hc : [a0].all (fun v => v.category == 1) = true) (hq : pc + 3 = q) : ∃ r1 h1, zE none (d - 1) mi1 0 ([a0] ++ List.replicate p .null) [] m r1 h1 ∧ (∀ v m1, r1 = some v → h1 = zhp m1 → zE sc d mi q L (v :: sk) m1 r h') ∧ (∀ m1, r1 = none → h1 = zhp m1 → zE sc d mi q L sk m1 r h') := by
  refine i_call (kd := 1) (id := id) p H hi (fun lo w hw => ?_) hm hc hq
  simp [zst, zg, hf, Option.bind_eq_some_iff] at hw
  obtain ⟨_, hw⟩ := hw
  exact hw.symm
theorem i_cs2 {i id : Nat} {e : Nat} {a0 a1 : Value} {mi1 : zMi} (p : Nat) (H : zE sc d mi pc L (a1 :: a0 :: sk) m r h') (hi : zin mi.2.2.2.2.2 pc = some (.invokestatic i, 3)) (hf : zlk zmls mi.2.2.2.2.1 i = some (1, id, 2, e)) (hm : zms[id]? = some mi1) (hc : [a0, a1].all (fun v => v.category == 1) = true) (hq : pc + 3 = q) : ∃ r1 h1, zE none (d - 1) mi1 0 ([a0, a1] ++ List.replicate p .null) [] m r1 h1 ∧ (∀ v m1, r1 = some v → h1 = zhp m1 → zE sc d mi q L (v :: sk) m1 r h') ∧ (∀ m1, r1 = none → h1 = zhp m1 → zE sc d mi q L sk m1 r h') := by
  refine i_call (kd := 1) (id := id) p H hi (fun lo w hw => ?_) hm hc hq
  simp [zst, zg, hf, Option.bind_eq_some_iff] at hw
  obtain ⟨_, hw⟩ := hw
  exact hw.symm
theorem i_cs3 {i id : Nat} {e : Nat} {a0 a1 a2 : Value} {mi1 : zMi} (p : Nat) (H : zE sc d mi pc L (a2 :: a1 :: a0 :: sk) m r h') (hi : zin mi.2.2.2.2.2 pc = some (.invokestatic i, 3)) (hf : zlk zmls mi.2.2.2.2.1 i = some (1, id, 3, e)) (hm : zms[id]? = some mi1) (hc : [a0, a1, a2].all (fun v => v.category == 1) = true) (hq : pc + 3 = q) : ∃ r1 h1, zE none (d - 1) mi1 0 ([a0, a1, a2] ++ List.replicate p .null) [] m r1 h1 ∧ (∀ v m1, r1 = some v → h1 = zhp m1 → zE sc d mi q L (v :: sk) m1 r h') ∧ (∀ m1, r1 = none → h1 = zhp m1 → zE sc d mi q L sk m1 r h') := by
  refine i_call (kd := 1) (id := id) p H hi (fun lo w hw => ?_) hm hc hq
  simp [zst, zg, hf, Option.bind_eq_some_iff] at hw
  obtain ⟨_, hw⟩ := hw
  exact hw.symm
end
end
section
/-! more steps; locks, people, sheets -/
section
variable {sc : Option (List Int32)} {d : Nat} {mi : zMi} {pc q : Nat} {L sk : List Value} {m : zM} {r : Option Value} {h' : zHp}
theorem i_icst {n : Int} {x : Int32} (H : zE sc d mi pc L sk m r h') (hi : zin mi.2.2.2.2.2 pc = some (.iconst n, 1)) (hx : Int32.ofInt n = x) (hq : pc + 1 = q) : zE sc d mi q L (.int x :: sk) m r h' := by
  subst hx; subst hq
  exact i_p H hi (fun _ => rfl)
theorem i_bip {n : Int} {x : Int32} (H : zE sc d mi pc L sk m r h') (hi : zin mi.2.2.2.2.2 pc = some (.bipush n, 2)) (hx : (Int8.ofInt n).toInt32 = x) (hq : pc + 2 = q) : zE sc d mi q L (.int x :: sk) m r h' := by
  subst hx; subst hq
  exact i_p H hi (fun _ => rfl)
theorem i_sip {n : Int} {x : Int32} (H : zE sc d mi pc L sk m r h') (hi : zin mi.2.2.2.2.2 pc = some (.sipush n, 3)) (hx : (Int16.ofInt n).toInt32 = x) (hq : pc + 3 = q) : zE sc d mi q L (.int x :: sk) m r h' := by
  subst hx; subst hq
  exact i_p H hi (fun _ => rfl)
theorem i_lcst {n : Fin 2} {x : Int64} (H : zE sc d mi pc L sk m r h') (hi : zin mi.2.2.2.2.2 pc = some (.lconst n, 1)) (hx : Int64.ofNat n.val = x) (hq : pc + 1 = q) : zE sc d mi q L (.long x :: sk) m r h' := by
  subst hx; subst hq
  exact i_p H hi (fun _ => rfl)
theorem i_ldc {i : Nat} {x : Int32} {e : Int × Nat} (H : zE sc d mi pc L sk m r h') (hi : zin mi.2.2.2.2.2 pc = some (.ldc i, 2)) (hn : mi.2.2.2.2.1 ≠ 2) (hf : zlk zcis mi.2.2.2.2.1 i = some e) (hx : Int32.ofInt e.1 = x) (hq : pc + 2 = q) : zE sc d mi q L (.int x :: sk) m r h' := by
  subst hx; subst hq
  refine i_p H hi (fun lo => ?_)
  simp [zst, zg, hn, hf]
theorem i_ldc2 {i : Nat} {x : Int64} {e : Int × Nat} (H : zE sc d mi pc L sk m r h') (hi : zin mi.2.2.2.2.2 pc = some (.ldc2_w i, 3)) (hf : zlk zcJs mi.2.2.2.2.1 i = some e) (hx : Int64.ofInt e.1 = x) (hq : pc + 3 = q) : zE sc d mi q L (.long x :: sk) m r h' := by
  subst hx; subst hq
  refine i_p H hi (fun lo => ?_)
  simp [zst, zg, hf]
theorem i_ts1 (v : Int32) {df lw hg o : Int} {offs : Array Int} {x : Int32} {len : Nat} (H : zE sc d mi pc L (.int x :: sk) m r h') (hi : zin mi.2.2.2.2.2 pc = some (.tableswitch df lw hg offs, len)) (hv : ¬ (v.toInt < lw ∨ hg < v.toInt)) (ho : offs[(v.toInt - lw).toNat]? = some o) (ht : zjp pc o = some q) : (x = v ∧ zE sc d mi q L sk m r h') ∨ (¬ x = v ∧ zE sc d mi pc L (.int x :: sk) m r h') := by
  by_cases h : x = v
  · subst h
    exact Or.inl ⟨rfl, i_tsj H hi hv ho ht⟩
  · exact Or.inr ⟨h, H⟩
theorem zne {x v : Int32} {z : Int} (h : ¬ x = v) (hz : v.toInt = z) : x.toInt ≠ z := fun e => h (Int32.toInt_inj.mp (e.trans hz.symm))
theorem i_dup {v : Value} (H : zE sc d mi pc L (v :: sk) m r h') (hi : zin mi.2.2.2.2.2 pc = some (.dup, 1)) (hv : v.category = 1) (hq : pc + 1 = q) : zE sc d mi q L (v :: v :: sk) m r h' := by
  subst hq
  refine i_p H hi (fun lo => ?_)
  simp [zst, zg, zp1, hv]
theorem i_pop {v : Value} (H : zE sc d mi pc L (v :: sk) m r h') (hi : zin mi.2.2.2.2.2 pc = some (.pop, 1)) (hv : v.category = 1) (hq : pc + 1 = q) : zE sc d mi q L sk m r h' := by
  subst hq
  refine i_p H hi (fun lo => ?_)
  simp [zst, zg, zp1, hv]
theorem i_pop2 {x : Int64} (H : zE sc d mi pc L (.long x :: sk) m r h') (hi : zin mi.2.2.2.2.2 pc = some (.pop2, 1)) (hq : pc + 1 = q) : zE sc d mi q L sk m r h' := by
  subst hq
  refine i_p H hi (fun lo => ?_)
  simp [zst, zg, zpl]
theorem i_dup2 {v w : Value} (H : zE sc d mi pc L (v :: w :: sk) m r h') (hi : zin mi.2.2.2.2.2 pc = some (.dup2, 1)) (hv : v.category = 1) (hw : w.category = 1) (hq : pc + 1 = q) : zE sc d mi q L (v :: w :: v :: w :: sk) m r h' := by
  subst hq
  refine i_p H hi (fun lo => ?_)
  simp [zst, zg, zp1, hv, hw]
theorem i_iadd {x y : Int32} (H : zE sc d mi pc L (.int y :: .int x :: sk) m r h') (hi : zin mi.2.2.2.2.2 pc = some (.iadd, 1)) (hq : pc + 1 = q) : zE sc d mi q L (.int (x + y) :: sk) m r h' := by
  subst hq
  exact i_p H hi (fun lo => rfl)
theorem i_isub {x y : Int32} (H : zE sc d mi pc L (.int y :: .int x :: sk) m r h') (hi : zin mi.2.2.2.2.2 pc = some (.isub, 1)) (hq : pc + 1 = q) : zE sc d mi q L (.int (x - y) :: sk) m r h' := by
  subst hq
  exact i_p H hi (fun lo => rfl)
theorem i_imul {x y : Int32} (H : zE sc d mi pc L (.int y :: .int x :: sk) m r h') (hi : zin mi.2.2.2.2.2 pc = some (.imul, 1)) (hq : pc + 1 = q) : zE sc d mi q L (.int (x * y) :: sk) m r h' := by
  subst hq
  exact i_p H hi (fun lo => rfl)
theorem i_iand {x y : Int32} (H : zE sc d mi pc L (.int y :: .int x :: sk) m r h') (hi : zin mi.2.2.2.2.2 pc = some (.iand, 1)) (hq : pc + 1 = q) : zE sc d mi q L (.int (x &&& y) :: sk) m r h' := by
  subst hq
  exact i_p H hi (fun lo => rfl)
theorem i_ior {x y : Int32} (H : zE sc d mi pc L (.int y :: .int x :: sk) m r h') (hi : zin mi.2.2.2.2.2 pc = some (.ior, 1)) (hq : pc + 1 = q) : zE sc d mi q L (.int (x ||| y) :: sk) m r h' := by
  subst hq
  exact i_p H hi (fun lo => rfl)
theorem i_ixor {x y : Int32} (H : zE sc d mi pc L (.int y :: .int x :: sk) m r h') (hi : zin mi.2.2.2.2.2 pc = some (.ixor, 1)) (hq : pc + 1 = q) : zE sc d mi q L (.int (x ^^^ y) :: sk) m r h' := by
  subst hq
  exact i_p H hi (fun lo => rfl)
theorem i_ishl {x y : Int32} (H : zE sc d mi pc L (.int y :: .int x :: sk) m r h') (hi : zin mi.2.2.2.2.2 pc = some (.ishl, 1)) (hq : pc + 1 = q) : zE sc d mi q L (.int (x <<< (y &&& 31)) :: sk) m r h' := by
  subst hq
  exact i_p H hi (fun lo => rfl)
theorem i_ishr {x y : Int32} (H : zE sc d mi pc L (.int y :: .int x :: sk) m r h') (hi : zin mi.2.2.2.2.2 pc = some (.ishr, 1)) (hq : pc + 1 = q) : zE sc d mi q L (.int (x >>> (y &&& 31)) :: sk) m r h' := by
  subst hq
  exact i_p H hi (fun lo => rfl)
theorem i_ladd {x y : Int64} (H : zE sc d mi pc L (.long y :: .long x :: sk) m r h') (hi : zin mi.2.2.2.2.2 pc = some (.ladd, 1)) (hq : pc + 1 = q) : zE sc d mi q L (.long (x + y) :: sk) m r h' := by
  subst hq
  exact i_p H hi (fun lo => rfl)
theorem i_lsub {x y : Int64} (H : zE sc d mi pc L (.long y :: .long x :: sk) m r h') (hi : zin mi.2.2.2.2.2 pc = some (.lsub, 1)) (hq : pc + 1 = q) : zE sc d mi q L (.long (x - y) :: sk) m r h' := by
  subst hq
  exact i_p H hi (fun lo => rfl)
theorem i_lmul {x y : Int64} (H : zE sc d mi pc L (.long y :: .long x :: sk) m r h') (hi : zin mi.2.2.2.2.2 pc = some (.lmul, 1)) (hq : pc + 1 = q) : zE sc d mi q L (.long (x * y) :: sk) m r h' := by
  subst hq
  exact i_p H hi (fun lo => rfl)
theorem i_lcmp {x y : Int64} (H : zE sc d mi pc L (.long y :: .long x :: sk) m r h') (hi : zin mi.2.2.2.2.2 pc = some (.lcmp, 1)) (hq : pc + 1 = q) : zE sc d mi q L (.int (lg_cmp x y) :: sk) m r h' := by
  subst hq
  exact i_p H hi (fun lo => rfl)
theorem i_i2b {x : Int32} (H : zE sc d mi pc L (.int x :: sk) m r h') (hi : zin mi.2.2.2.2.2 pc = some (.i2b, 1)) (hq : pc + 1 = q) : zE sc d mi q L (.int (x.toInt8.toInt32) :: sk) m r h' := by
  subst hq
  exact i_p H hi (fun lo => rfl)
theorem i_i2s {x : Int32} (H : zE sc d mi pc L (.int x :: sk) m r h') (hi : zin mi.2.2.2.2.2 pc = some (.i2s, 1)) (hq : pc + 1 = q) : zE sc d mi q L (.int (x.toInt16.toInt32) :: sk) m r h' := by
  subst hq
  exact i_p H hi (fun lo => rfl)
theorem i_i2l {x : Int32} (H : zE sc d mi pc L (.int x :: sk) m r h') (hi : zin mi.2.2.2.2.2 pc = some (.i2l, 1)) (hq : pc + 1 = q) : zE sc d mi q L (.long (x.toInt64) :: sk) m r h' := by
  subst hq
  exact i_p H hi (fun lo => rfl)
theorem i_i2c {x : Int32} (H : zE sc d mi pc L (.int x :: sk) m r h') (hi : zin mi.2.2.2.2.2 pc = some (.i2c, 1)) (hq : pc + 1 = q) : zE sc d mi q L (.int ((x.toUInt32 % 65536).toInt32) :: sk) m r h' := by
  subst hq
  exact i_p H hi (fun lo => rfl)
theorem zofn {i j : Nat} (h : Int32.ofNat i = Int32.ofNat j) (hi : i < 2147483648) (hj : j < 2147483648) : i = j := by
  have := congrArg Int32.toNatClampNeg h
  rwa [Int32.toNatClampNeg_ofNat_of_lt (by omega), Int32.toNatClampNeg_ofNat_of_lt (by omega)] at this
theorem zofn_t {i : Nat} (hi : i < 2147483648) : (Int32.ofNat i).toInt = i := Int32.toInt_ofNat_of_lt (by omega)
theorem zofn_lt {i j : Nat} (hi : i < 2147483648) (hj : j < 2147483648) : Int32.ofNat i < Int32.ofNat j ↔ i < j := by
  rw [Int32.lt_iff_toInt_lt, zofn_t hi, zofn_t hj]
  omega
theorem zofn_s {i : Nat} : Int32.ofNat i + Int32.ofInt 1 = Int32.ofNat (i + 1) := by
  rw [Int32.ofNat_add]
  rfl
/-- the six locks -/
def zlk6 (k : Nat) : Prop := k = 3 ∨ k = 11 ∨ k = 20 ∨ k = 30 ∨ k = 47 ∨ k = 55
theorem lkk_3 : zlk6 3 := by unfold zlk6; omega
theorem lkk_11 : zlk6 11 := by unfold zlk6; omega
theorem lkk_20 : zlk6 20 := by unfold zlk6; omega
theorem lkk_30 : zlk6 30 := by unfold zlk6; omega
theorem lkk_47 : zlk6 47 := by unfold zlk6; omega
theorem lkk_55 : zlk6 55 := by unfold zlk6; omega
theorem lk_0 {k : Nat} (hk : zlk6 k) : zLY[k]? = some (Sum.inr 0, [some (.ref (k + 1)), some (.ref (k + 2)), none, none, none, none]) := by
  rcases hk with rfl | rfl | rfl | rfl | rfl | rfl <;> rfl
theorem lk_1 {k : Nat} (hk : zlk6 k) : zLY[k + 1]? = some (Sum.inl 4, [some (.ref (k + 3)), some (.ref (k + 3 + 1)), some (.ref (k + 3 + 2)), some (.ref (k + 3 + 3)), some (.ref (k + 3 + 4))]) := by
  rcases hk with rfl | rfl | rfl | rfl | rfl | rfl <;> rfl
theorem lk_2 {k : Nat} (hk : zlk6 k) : zLY[k + 2]? = some (Sum.inl 0, List.replicate 8 none) := by
  rcases hk with rfl | rfl | rfl | rfl | rfl | rfl <;> rfl
theorem lk_p {k i : Nat} (hk : zlk6 k) (hi : i < 5) : zLY[k + 3 + i]? = some (Sum.inr 1, List.replicate 4 none) := by
  have h5 : i = 0 ∨ i = 1 ∨ i = 2 ∨ i = 3 ∨ i = 4 := by omega
  rcases hk with rfl | rfl | rfl | rfl | rfl | rfl <;> rcases h5 with rfl | rfl | rfl | rfl | rfl <;> rfl
theorem lk_im {i : Nat} (hi : i < 2) : zlk6 (47 + 8 * i) := by unfold zlk6; omega
theorem sh_0 {i : Nat} (hi : i < 4) : zLY[63 + 2 * i]? = some (Sum.inr 5, [some (.ref (64 + 2 * i)), none, none, none]) := by
  have h5 : i = 0 ∨ i = 1 ∨ i = 2 ∨ i = 3 := by omega
  rcases h5 with rfl | rfl | rfl | rfl <;> rfl
theorem sh_1 {i : Nat} (hi : i < 4) : zLY[64 + 2 * i]? = some (Sum.inl 0, List.replicate 40 none) := by
  have h5 : i = 0 ∨ i = 1 ∨ i = 2 ∨ i = 3 := by omega
  rcases h5 with rfl | rfl | rfl | rfl <;> rfl
theorem i_folk {k : Nat} {x : Int32} (hk : zlk6 k) (H : zE sc d mi pc L (.int x :: .ref (k + 1) :: sk) m r h') (hi : zin mi.2.2.2.2.2 pc = some (.aaload, 1)) (hq : pc + 1 = q) : ∃ i, i < 5 ∧ x = Int32.ofNat i ∧ zE sc d mi q L (.ref (k + 3 + i) :: sk) m r h' := by
  obtain ⟨i, b, e, K⟩ := i_aa H hi (lk_1 hk) hq
  have b5 : i < 5 := b
  refine ⟨i, b5, e, K _ ?_⟩
  have h5 : i = 0 ∨ i = 1 ∨ i = 2 ∨ i = 3 ∨ i = 4 := by omega
  rcases h5 with rfl | rfl | rfl | rfl | rfl <;> rfl
theorem i_img {x : Int32} (H : zE sc d mi pc L (.int x :: .ref 44 :: sk) m r h') (hi : zin mi.2.2.2.2.2 pc = some (.aaload, 1)) (hq : pc + 1 = q) : ∃ i, i < 2 ∧ x = Int32.ofNat i ∧ zE sc d mi q L (.ref (47 + 8 * i) :: sk) m r h' := by
  obtain ⟨i, b, e, K⟩ := i_aa (c := (Sum.inl 3, [some (.ref 47), some (.ref 55)])) H hi rfl hq
  have b5 : i < 2 := b
  refine ⟨i, b5, e, K _ ?_⟩
  have h5 : i = 0 ∨ i = 1 := by omega
  rcases h5 with rfl | rfl <;> rfl
theorem i_sht {x : Int32} (H : zE sc d mi pc L (.int x :: .ref 46 :: sk) m r h') (hi : zin mi.2.2.2.2.2 pc = some (.aaload, 1)) (hq : pc + 1 = q) : ∃ i, i < 4 ∧ x = Int32.ofNat i ∧ zE sc d mi q L (.ref (63 + 2 * i) :: sk) m r h' := by
  obtain ⟨i, b, e, K⟩ := i_aa (c := (Sum.inl 8, [some (.ref 63), some (.ref 65), some (.ref 67), some (.ref 69)])) H hi rfl hq
  have b5 : i < 4 := b
  refine ⟨i, b5, e, K _ ?_⟩
  have h5 : i = 0 ∨ i = 1 ∨ i = 2 ∨ i = 3 := by omega
  rcases h5 with rfl | rfl | rfl | rfl <;> rfl
theorem i_ldx {i k : Nat} (H : zE sc d mi pc L sk m r h') (hi : zin mi.2.2.2.2.2 pc = some (.ldc i, 2)) (hcl : mi.2.2.2.2.1 = 2) (hk : zas2 zsts i = some k) (hq : pc + 2 = q) : zE sc d mi q L (.retAddr (2 * k + 1) :: sk) m r h' := by
  obtain ⟨lo, h1, h2⟩ := H
  obtain ⟨y, hy⟩ := zEv_is h2
  rw [zstep_of hi] at hy
  refine ⟨lo, h1, zEv_i1 h2 ((zstep_of hi).trans ?_)⟩
  subst hq
  simp only [zst, zg, if_true, Option.bind_some, hcl, hk, Option.bind_eq_some_iff] at hy ⊢
  obtain ⟨u, hu, _⟩ := hy
  exact ⟨u, hu, by trivial⟩
theorem i_sv {a : Nat} (H : zE sc d mi pc L (.retAddr a :: sk) m r h') (hi : zin mi.2.2.2.2.2 pc = some (.getfield 9, 3)) (hcl : mi.2.2.2.2.1 = 12) (hq : pc + 3 = q) : zE sc d mi q L (.retAddr (a + 1) :: sk) m r h' := by
  obtain ⟨lo, h1, h2⟩ := H
  obtain ⟨y, hy⟩ := zEv_is h2
  rw [zstep_of hi] at hy
  refine ⟨lo, h1, zEv_i1 h2 ((zstep_of hi).trans ?_)⟩
  subst hq
  simp only [zst, zg, if_true, Option.bind_some, hcl, zpx, Option.bind_eq_some_iff] at hy ⊢
  obtain ⟨u, hu, _⟩ := hy
  exact ⟨u, hu, by trivial⟩
theorem i_sco {a : Nat} (H : zE sc d mi pc L (.retAddr a :: sk) m r h') (hi : zin mi.2.2.2.2.2 pc = some (.getfield 15, 3)) (hcl : mi.2.2.2.2.1 = 12) (hq : pc + 3 = q) : zE sc d mi q L (.int 0 :: sk) m r h' := by
  obtain ⟨lo, h1, h2⟩ := H
  obtain ⟨y, hy⟩ := zEv_is h2
  rw [zstep_of hi] at hy
  refine ⟨lo, h1, zEv_i1 h2 ((zstep_of hi).trans ?_)⟩
  subst hq
  simp [zst, zg, hcl, zpx, Option.bind_eq_some_iff] at hy ⊢
  obtain ⟨⟨u, hu⟩, _⟩ := hy
  exact ⟨u, hu⟩
theorem i_gs1 (H : zE sc d mi pc L sk m r h') (hi : zin mi.2.2.2.2.2 pc = some (.getstatic 38, 3)) (hcl : mi.2.2.2.2.1 = 12) (hq : pc + 3 = q) : zE sc d mi q L (.int 1 :: sk) m r h' := by
  subst hq
  refine i_p H hi (fun lo => ?_)
  simp [zst, zg, hcl]
theorem i_gs2 (H : zE sc d mi pc L sk m r h') (hi : zin mi.2.2.2.2.2 pc = some (.getstatic 1053, 3)) (hcl : mi.2.2.2.2.1 = 12) (hq : pc + 3 = q) : zE sc d mi q L (.retAddr 20 :: sk) m r h' := by
  subst hq
  refine i_p H hi (fun lo => ?_)
  simp [zst, zg, hcl]
theorem i_sal {n : Nat} (H : zE sc d mi pc L (.retAddr (n + 1) :: sk) m r h') (hi : zin mi.2.2.2.2.2 pc = some (.arraylength, 1)) (hq : pc + 1 = q) : zE sc d mi q L (.int (Int32.ofNat (zlen.getD (n / 2) 0)) :: sk) m r h' := by
  obtain ⟨lo, h1, h2⟩ := H
  obtain ⟨y, hy⟩ := zEv_is h2
  rw [zstep_of hi] at hy
  refine ⟨lo, h1, zEv_i1 h2 ((zstep_of hi).trans ?_)⟩
  subst hq
  simp only [zst, zg, if_true, Option.bind_some, Option.bind_eq_some_iff] at hy ⊢
  obtain ⟨u, hu, _⟩ := hy
  exact ⟨u, hu, by trivial⟩
theorem i_sba {n : Nat} {x : Int32} (H : zE sc d mi pc L (.int x :: .retAddr (n + 1) :: sk) m r h') (hi : zin mi.2.2.2.2.2 pc = some (.baload, 1)) (hq : pc + 1 = q) : zE sc d mi q L (.int ((zbyt.getD (n / 2) []).getD x.toNatClampNeg 0) :: sk) m r h' := by
  obtain ⟨lo, h1, h2⟩ := H
  obtain ⟨y, hy⟩ := zEv_is h2
  rw [zstep_of hi] at hy
  refine ⟨lo, h1, zEv_i1 h2 ((zstep_of hi).trans ?_)⟩
  subst hq
  simp only [zst, zg, zpi, if_true, Option.bind_some, Option.bind_eq_some_iff] at hy ⊢
  obtain ⟨u, hu, _⟩ := hy
  exact ⟨u, hu, by trivial⟩
theorem i_dead {i : Nat} (H : zE sc d mi pc L sk m r h') (hi : zin mi.2.2.2.2.2 pc = some (.invokestatic i, 3)) (hf : zlk zmls mi.2.2.2.2.1 i = none) : False := by
  obtain ⟨lo, h1, h2⟩ := H
  obtain ⟨y, hy⟩ := zEv_is h2
  rw [zstep_of hi] at hy
  simp [zst, zg, hf] at hy
end
end
section
/-! people -/
theorem It_X0_leastOf : zm_X0_leastOf.2.2.2.2.2 = zt_X0_leastOf := by
  unfold zm_X0_leastOf
  rfl
theorem It_X1_become : zm_X1_become.2.2.2.2.2 = zt_X1_become := by
  unfold zm_X1_become
  rfl
theorem It_X1_calm : zm_X1_calm.2.2.2.2.2 = zt_X1_calm := by
  unfold zm_X1_calm
  rfl
theorem It_X1_enter : zm_X1_enter.2.2.2.2.2 = zt_X1_enter := by
  unfold zm_X1_enter
  rfl
theorem It_X1_marks : zm_X1_marks.2.2.2.2.2 = zt_X1_marks := by
  unfold zm_X1_marks
  rfl
theorem It_X1_setTurned : zm_X1_setTurned.2.2.2.2.2 = zt_X1_setTurned := by
  unfold zm_X1_setTurned
  rfl
theorem It_X1_turned : zm_X1_turned.2.2.2.2.2 = zt_X1_turned := by
  unfold zm_X1_turned
  rfl
theorem I_X0_leastOf_5 : zin zm_X0_leastOf.2.2.2.2.2 5 = some (.iload_n 3, 1) := by rw [It_X0_leastOf]; rfl
theorem I_X0_leastOf_6 : zin zm_X0_leastOf.2.2.2.2.2 6 = some (.aload_n 0, 1) := by rw [It_X0_leastOf]; rfl
theorem I_X0_leastOf_7 : zin zm_X0_leastOf.2.2.2.2.2 7 = some (.getfield 26, 3) := by rw [It_X0_leastOf]; rfl
theorem I_X0_leastOf_10 : zin zm_X0_leastOf.2.2.2.2.2 10 = some (.if_icmp .ge 46, 3) := by rw [It_X0_leastOf]; rfl
theorem I_X0_leastOf_13 : zin zm_X0_leastOf.2.2.2.2.2 13 = some (.iload_n 1, 1) := by rw [It_X0_leastOf]; rfl
theorem I_X0_leastOf_14 : zin zm_X0_leastOf.2.2.2.2.2 14 = some (.iload_n 3, 1) := by rw [It_X0_leastOf]; rfl
theorem I_X0_leastOf_15 : zin zm_X0_leastOf.2.2.2.2.2 15 = some (.ishr, 1) := by rw [It_X0_leastOf]; rfl
theorem I_X0_leastOf_16 : zin zm_X0_leastOf.2.2.2.2.2 16 = some (.iconst 1, 1) := by rw [It_X0_leastOf]; rfl
theorem I_X0_leastOf_17 : zin zm_X0_leastOf.2.2.2.2.2 17 = some (.iand, 1) := by rw [It_X0_leastOf]; rfl
theorem I_X0_leastOf_18 : zin zm_X0_leastOf.2.2.2.2.2 18 = some (.ifCond .eq 32, 3) := by rw [It_X0_leastOf]; rfl
theorem I_X0_leastOf_21 : zin zm_X0_leastOf.2.2.2.2.2 21 = some (.iload_n 2, 1) := by rw [It_X0_leastOf]; rfl
theorem I_X0_leastOf_22 : zin zm_X0_leastOf.2.2.2.2.2 22 = some (.bipush (-4), 2) := by rw [It_X0_leastOf]; rfl
theorem I_X0_leastOf_24 : zin zm_X0_leastOf.2.2.2.2.2 24 = some (.if_icmp .eq 24, 3) := by rw [It_X0_leastOf]; rfl
theorem I_X0_leastOf_27 : zin zm_X0_leastOf.2.2.2.2.2 27 = some (.aload_n 0, 1) := by rw [It_X0_leastOf]; rfl
theorem I_X0_leastOf_28 : zin zm_X0_leastOf.2.2.2.2.2 28 = some (.getfield 11, 3) := by rw [It_X0_leastOf]; rfl
theorem I_X0_leastOf_31 : zin zm_X0_leastOf.2.2.2.2.2 31 = some (.iload_n 3, 1) := by rw [It_X0_leastOf]; rfl
theorem I_X0_leastOf_32 : zin zm_X0_leastOf.2.2.2.2.2 32 = some (.aaload, 1) := by rw [It_X0_leastOf]; rfl
theorem I_X0_leastOf_33 : zin zm_X0_leastOf.2.2.2.2.2 33 = some (.invokevirtual 51, 3) := by rw [It_X0_leastOf]; rfl
theorem I_X0_leastOf_36 : zin zm_X0_leastOf.2.2.2.2.2 36 = some (.aload_n 0, 1) := by rw [It_X0_leastOf]; rfl
theorem I_X0_leastOf_37 : zin zm_X0_leastOf.2.2.2.2.2 37 = some (.getfield 11, 3) := by rw [It_X0_leastOf]; rfl
theorem I_X0_leastOf_40 : zin zm_X0_leastOf.2.2.2.2.2 40 = some (.iload_n 2, 1) := by rw [It_X0_leastOf]; rfl
theorem I_X0_leastOf_41 : zin zm_X0_leastOf.2.2.2.2.2 41 = some (.aaload, 1) := by rw [It_X0_leastOf]; rfl
theorem I_X0_leastOf_42 : zin zm_X0_leastOf.2.2.2.2.2 42 = some (.invokevirtual 51, 3) := by rw [It_X0_leastOf]; rfl
theorem I_X0_leastOf_45 : zin zm_X0_leastOf.2.2.2.2.2 45 = some (.if_icmp .ge 5, 3) := by rw [It_X0_leastOf]; rfl
theorem I_X0_leastOf_48 : zin zm_X0_leastOf.2.2.2.2.2 48 = some (.iload_n 3, 1) := by rw [It_X0_leastOf]; rfl
theorem I_X0_leastOf_49 : zin zm_X0_leastOf.2.2.2.2.2 49 = some (.istore_n 2, 1) := by rw [It_X0_leastOf]; rfl
theorem I_X0_leastOf_50 : zin zm_X0_leastOf.2.2.2.2.2 50 = some (.iinc 3 1, 3) := by rw [It_X0_leastOf]; rfl
theorem I_X0_leastOf_53 : zin zm_X0_leastOf.2.2.2.2.2 53 = some (.goto (-48), 3) := by rw [It_X0_leastOf]; rfl
theorem I_X0_leastOf_56 : zin zm_X0_leastOf.2.2.2.2.2 56 = some (.iload_n 2, 1) := by rw [It_X0_leastOf]; rfl
theorem I_X0_leastOf_57 : zin zm_X0_leastOf.2.2.2.2.2 57 = some (.ireturn, 1) := by rw [It_X0_leastOf]; rfl
theorem I_X1_become_0 : zin zm_X1_become.2.2.2.2.2 0 = some (.aload_n 0, 1) := by rw [It_X1_become]; rfl
theorem I_X1_become_1 : zin zm_X1_become.2.2.2.2.2 1 = some (.aload_n 1, 1) := by rw [It_X1_become]; rfl
theorem I_X1_become_2 : zin zm_X1_become.2.2.2.2.2 2 = some (.getfield 9, 3) := by rw [It_X1_become]; rfl
theorem I_X1_become_5 : zin zm_X1_become.2.2.2.2.2 5 = some (.putfield 9, 3) := by rw [It_X1_become]; rfl
theorem I_X1_become_8 : zin zm_X1_become.2.2.2.2.2 8 = some (.aload_n 0, 1) := by rw [It_X1_become]; rfl
theorem I_X1_become_9 : zin zm_X1_become.2.2.2.2.2 9 = some (.aload_n 1, 1) := by rw [It_X1_become]; rfl
theorem I_X1_become_10 : zin zm_X1_become.2.2.2.2.2 10 = some (.getfield 15, 3) := by rw [It_X1_become]; rfl
theorem I_X1_become_13 : zin zm_X1_become.2.2.2.2.2 13 = some (.putfield 15, 3) := by rw [It_X1_become]; rfl
theorem I_X1_become_16 : zin zm_X1_become.2.2.2.2.2 16 = some (.aload_n 0, 1) := by rw [It_X1_become]; rfl
theorem I_X1_become_17 : zin zm_X1_become.2.2.2.2.2 17 = some (.aload_n 1, 1) := by rw [It_X1_become]; rfl
theorem I_X1_become_18 : zin zm_X1_become.2.2.2.2.2 18 = some (.getfield 18, 3) := by rw [It_X1_become]; rfl
theorem I_X1_become_21 : zin zm_X1_become.2.2.2.2.2 21 = some (.putfield 18, 3) := by rw [It_X1_become]; rfl
theorem I_X1_become_24 : zin zm_X1_become.2.2.2.2.2 24 = some (.aload_n 0, 1) := by rw [It_X1_become]; rfl
theorem I_X1_become_25 : zin zm_X1_become.2.2.2.2.2 25 = some (.aload_n 1, 1) := by rw [It_X1_become]; rfl
theorem I_X1_become_26 : zin zm_X1_become.2.2.2.2.2 26 = some (.getfield 21, 3) := by rw [It_X1_become]; rfl
theorem I_X1_become_29 : zin zm_X1_become.2.2.2.2.2 29 = some (.putfield 21, 3) := by rw [It_X1_become]; rfl
theorem I_X1_become_32 : zin zm_X1_become.2.2.2.2.2 32 = some (.return_, 1) := by rw [It_X1_become]; rfl
theorem I_X1_calm_0 : zin zm_X1_calm.2.2.2.2.2 0 = some (.aload_n 0, 1) := by rw [It_X1_calm]; rfl
theorem I_X1_calm_1 : zin zm_X1_calm.2.2.2.2.2 1 = some (.iconst 0, 1) := by rw [It_X1_calm]; rfl
theorem I_X1_calm_2 : zin zm_X1_calm.2.2.2.2.2 2 = some (.aload_n 0, 1) := by rw [It_X1_calm]; rfl
theorem I_X1_calm_3 : zin zm_X1_calm.2.2.2.2.2 3 = some (.getfield 15, 3) := by rw [It_X1_calm]; rfl
theorem I_X1_calm_6 : zin zm_X1_calm.2.2.2.2.2 6 = some (.iconst 1, 1) := by rw [It_X1_calm]; rfl
theorem I_X1_calm_7 : zin zm_X1_calm.2.2.2.2.2 7 = some (.isub, 1) := by rw [It_X1_calm]; rfl
theorem I_X1_calm_8 : zin zm_X1_calm.2.2.2.2.2 8 = some (.invokestatic 41, 3) := by rw [It_X1_calm]; rfl
theorem I_X1_calm_11 : zin zm_X1_calm.2.2.2.2.2 11 = some (.putfield 15, 3) := by rw [It_X1_calm]; rfl
theorem I_X1_calm_14 : zin zm_X1_calm.2.2.2.2.2 14 = some (.aload_n 0, 1) := by rw [It_X1_calm]; rfl
theorem I_X1_calm_15 : zin zm_X1_calm.2.2.2.2.2 15 = some (.iconst 0, 1) := by rw [It_X1_calm]; rfl
theorem I_X1_calm_16 : zin zm_X1_calm.2.2.2.2.2 16 = some (.aload_n 0, 1) := by rw [It_X1_calm]; rfl
theorem I_X1_calm_17 : zin zm_X1_calm.2.2.2.2.2 17 = some (.getfield 18, 3) := by rw [It_X1_calm]; rfl
theorem I_X1_calm_20 : zin zm_X1_calm.2.2.2.2.2 20 = some (.iconst 1, 1) := by rw [It_X1_calm]; rfl
theorem I_X1_calm_21 : zin zm_X1_calm.2.2.2.2.2 21 = some (.isub, 1) := by rw [It_X1_calm]; rfl
theorem I_X1_calm_22 : zin zm_X1_calm.2.2.2.2.2 22 = some (.invokestatic 41, 3) := by rw [It_X1_calm]; rfl
theorem I_X1_calm_25 : zin zm_X1_calm.2.2.2.2.2 25 = some (.putfield 18, 3) := by rw [It_X1_calm]; rfl
theorem I_X1_calm_28 : zin zm_X1_calm.2.2.2.2.2 28 = some (.return_, 1) := by rw [It_X1_calm]; rfl
theorem I_X1_enter_0 : zin zm_X1_enter.2.2.2.2.2 0 = some (.aload_n 0, 1) := by rw [It_X1_enter]; rfl
theorem I_X1_enter_1 : zin zm_X1_enter.2.2.2.2.2 1 = some (.bipush 99, 2) := by rw [It_X1_enter]; rfl
theorem I_X1_enter_3 : zin zm_X1_enter.2.2.2.2.2 3 = some (.aload_n 0, 1) := by rw [It_X1_enter]; rfl
theorem I_X1_enter_4 : zin zm_X1_enter.2.2.2.2.2 4 = some (.invokevirtual 24, 3) := by rw [It_X1_enter]; rfl
theorem I_X1_enter_7 : zin zm_X1_enter.2.2.2.2.2 7 = some (.aload_n 0, 1) := by rw [It_X1_enter]; rfl
theorem I_X1_enter_8 : zin zm_X1_enter.2.2.2.2.2 8 = some (.invokevirtual 28, 3) := by rw [It_X1_enter]; rfl
theorem I_X1_enter_11 : zin zm_X1_enter.2.2.2.2.2 11 = some (.iadd, 1) := by rw [It_X1_enter]; rfl
theorem I_X1_enter_12 : zin zm_X1_enter.2.2.2.2.2 12 = some (.invokestatic 31, 3) := by rw [It_X1_enter]; rfl
theorem I_X1_enter_15 : zin zm_X1_enter.2.2.2.2.2 15 = some (.invokevirtual 37, 3) := by rw [It_X1_enter]; rfl
theorem I_X1_enter_18 : zin zm_X1_enter.2.2.2.2.2 18 = some (.return_, 1) := by rw [It_X1_enter]; rfl
theorem I_X1_marks_0 : zin zm_X1_marks.2.2.2.2.2 0 = some (.aload_n 0, 1) := by rw [It_X1_marks]; rfl
theorem I_X1_marks_1 : zin zm_X1_marks.2.2.2.2.2 1 = some (.getfield 9, 3) := by rw [It_X1_marks]; rfl
theorem I_X1_marks_4 : zin zm_X1_marks.2.2.2.2.2 4 = some (.tableswitch 34 1 3 #[28, 30, 32], 28) := by rw [It_X1_marks]; rfl
theorem I_X1_marks_32 : zin zm_X1_marks.2.2.2.2.2 32 = some (.iconst 2, 1) := by rw [It_X1_marks]; rfl
theorem I_X1_marks_33 : zin zm_X1_marks.2.2.2.2.2 33 = some (.ireturn, 1) := by rw [It_X1_marks]; rfl
theorem I_X1_marks_34 : zin zm_X1_marks.2.2.2.2.2 34 = some (.iconst 0, 1) := by rw [It_X1_marks]; rfl
theorem I_X1_marks_35 : zin zm_X1_marks.2.2.2.2.2 35 = some (.ireturn, 1) := by rw [It_X1_marks]; rfl
theorem I_X1_marks_36 : zin zm_X1_marks.2.2.2.2.2 36 = some (.iconst 4, 1) := by rw [It_X1_marks]; rfl
theorem I_X1_marks_37 : zin zm_X1_marks.2.2.2.2.2 37 = some (.ireturn, 1) := by rw [It_X1_marks]; rfl
theorem I_X1_marks_38 : zin zm_X1_marks.2.2.2.2.2 38 = some (.iconst 1, 1) := by rw [It_X1_marks]; rfl
theorem I_X1_marks_39 : zin zm_X1_marks.2.2.2.2.2 39 = some (.ireturn, 1) := by rw [It_X1_marks]; rfl
theorem I_X1_setTurned_0 : zin zm_X1_setTurned.2.2.2.2.2 0 = some (.aload_n 0, 1) := by rw [It_X1_setTurned]; rfl
theorem I_X1_setTurned_1 : zin zm_X1_setTurned.2.2.2.2.2 1 = some (.getfield 21, 3) := by rw [It_X1_setTurned]; rfl
theorem I_X1_setTurned_4 : zin zm_X1_setTurned.2.2.2.2.2 4 = some (.iconst 1, 1) := by rw [It_X1_setTurned]; rfl
theorem I_X1_setTurned_5 : zin zm_X1_setTurned.2.2.2.2.2 5 = some (.if_icmp .ne 11, 3) := by rw [It_X1_setTurned]; rfl
theorem I_X1_setTurned_8 : zin zm_X1_setTurned.2.2.2.2.2 8 = some (.aload_n 0, 1) := by rw [It_X1_setTurned]; rfl
theorem I_X1_setTurned_9 : zin zm_X1_setTurned.2.2.2.2.2 9 = some (.iload_n 1, 1) := by rw [It_X1_setTurned]; rfl
theorem I_X1_setTurned_10 : zin zm_X1_setTurned.2.2.2.2.2 10 = some (.putfield 18, 3) := by rw [It_X1_setTurned]; rfl
theorem I_X1_setTurned_13 : zin zm_X1_setTurned.2.2.2.2.2 13 = some (.goto 8, 3) := by rw [It_X1_setTurned]; rfl
theorem I_X1_setTurned_16 : zin zm_X1_setTurned.2.2.2.2.2 16 = some (.aload_n 0, 1) := by rw [It_X1_setTurned]; rfl
theorem I_X1_setTurned_17 : zin zm_X1_setTurned.2.2.2.2.2 17 = some (.iload_n 1, 1) := by rw [It_X1_setTurned]; rfl
theorem I_X1_setTurned_18 : zin zm_X1_setTurned.2.2.2.2.2 18 = some (.putfield 15, 3) := by rw [It_X1_setTurned]; rfl
theorem I_X1_setTurned_21 : zin zm_X1_setTurned.2.2.2.2.2 21 = some (.return_, 1) := by rw [It_X1_setTurned]; rfl
theorem I_X1_turned_0 : zin zm_X1_turned.2.2.2.2.2 0 = some (.aload_n 0, 1) := by rw [It_X1_turned]; rfl
theorem I_X1_turned_1 : zin zm_X1_turned.2.2.2.2.2 1 = some (.getfield 21, 3) := by rw [It_X1_turned]; rfl
theorem I_X1_turned_4 : zin zm_X1_turned.2.2.2.2.2 4 = some (.iconst 1, 1) := by rw [It_X1_turned]; rfl
theorem I_X1_turned_5 : zin zm_X1_turned.2.2.2.2.2 5 = some (.if_icmp .ne 10, 3) := by rw [It_X1_turned]; rfl
theorem I_X1_turned_8 : zin zm_X1_turned.2.2.2.2.2 8 = some (.aload_n 0, 1) := by rw [It_X1_turned]; rfl
theorem I_X1_turned_9 : zin zm_X1_turned.2.2.2.2.2 9 = some (.getfield 18, 3) := by rw [It_X1_turned]; rfl
theorem I_X1_turned_12 : zin zm_X1_turned.2.2.2.2.2 12 = some (.goto 7, 3) := by rw [It_X1_turned]; rfl
theorem I_X1_turned_15 : zin zm_X1_turned.2.2.2.2.2 15 = some (.aload_n 0, 1) := by rw [It_X1_turned]; rfl
theorem I_X1_turned_16 : zin zm_X1_turned.2.2.2.2.2 16 = some (.getfield 15, 3) := by rw [It_X1_turned]; rfl
theorem I_X1_turned_19 : zin zm_X1_turned.2.2.2.2.2 19 = some (.ireturn, 1) := by rw [It_X1_turned]; rfl
theorem G_0_11 : zlk zfls 0 11 = some (0, 0, 118) := rfl
theorem G_0_26 : zlk zfls 0 26 = some (0, 2, 125) := rfl
theorem G_1_9 : zlk zfls 1 9 = some (1, 0, 95) := rfl
theorem G_1_15 : zlk zfls 1 15 = some (1, 1, 98) := rfl
theorem G_1_18 : zlk zfls 1 18 = some (1, 2, 101) := rfl
theorem G_1_21 : zlk zfls 1 21 = some (1, 3, 104) := rfl
theorem K_0_51 : zlk zmls 0 51 = some (0, 20, 0, 495) := rfl
theorem K_1_24 : zlk zmls 1 24 = some (0, 20, 0, 568) := rfl
theorem K_1_28 : zlk zmls 1 28 = some (0, 22, 0, 569) := rfl
theorem K_1_31 : zlk zmls 1 31 = some (6, 0, 2, 570) := rfl
theorem K_1_37 : zlk zmls 1 37 = some (0, 21, 1, 571) := rfl
theorem K_1_41 : zlk zmls 1 41 = some (5, 0, 2, 587) := rfl
theorem Zm_20 : zms[20]? = some zm_X1_turned := rfl
theorem Zm_21 : zms[21]? = some zm_X1_setTurned := rfl
theorem Zm_22 : zms[22]? = some zm_X1_marks := rfl
theorem cl_X0_leastOf : zm_X0_leastOf.2.2.2.2.1 = 0 := by
  unfold zm_X0_leastOf
  rfl
theorem cn_X0_leastOf : zm_X0_leastOf.2.2.2.2.1 ≠ 12 := by
  rw [cl_X0_leastOf]
  decide
theorem cn2_X0_leastOf : zm_X0_leastOf.2.2.2.2.1 ≠ 2 := by
  rw [cl_X0_leastOf]
  decide
theorem cl_X1_become : zm_X1_become.2.2.2.2.1 = 1 := by
  unfold zm_X1_become
  rfl
theorem cn_X1_become : zm_X1_become.2.2.2.2.1 ≠ 12 := by
  rw [cl_X1_become]
  decide
theorem cn2_X1_become : zm_X1_become.2.2.2.2.1 ≠ 2 := by
  rw [cl_X1_become]
  decide
theorem cl_X1_calm : zm_X1_calm.2.2.2.2.1 = 1 := by
  unfold zm_X1_calm
  rfl
theorem cn_X1_calm : zm_X1_calm.2.2.2.2.1 ≠ 12 := by
  rw [cl_X1_calm]
  decide
theorem cn2_X1_calm : zm_X1_calm.2.2.2.2.1 ≠ 2 := by
  rw [cl_X1_calm]
  decide
theorem cl_X1_marks : zm_X1_marks.2.2.2.2.1 = 1 := by
  unfold zm_X1_marks
  rfl
theorem cn_X1_marks : zm_X1_marks.2.2.2.2.1 ≠ 12 := by
  rw [cl_X1_marks]
  decide
theorem cn2_X1_marks : zm_X1_marks.2.2.2.2.1 ≠ 2 := by
  rw [cl_X1_marks]
  decide
theorem cl_X1_setTurned : zm_X1_setTurned.2.2.2.2.1 = 1 := by
  unfold zm_X1_setTurned
  rfl
theorem cn_X1_setTurned : zm_X1_setTurned.2.2.2.2.1 ≠ 12 := by
  rw [cl_X1_setTurned]
  decide
theorem cn2_X1_setTurned : zm_X1_setTurned.2.2.2.2.1 ≠ 2 := by
  rw [cl_X1_setTurned]
  decide
theorem cl_X1_turned : zm_X1_turned.2.2.2.2.1 = 1 := by
  unfold zm_X1_turned
  rfl
theorem cn_X1_turned : zm_X1_turned.2.2.2.2.1 ≠ 12 := by
  rw [cl_X1_turned]
  decide
theorem cn2_X1_turned : zm_X1_turned.2.2.2.2.1 ≠ 2 := by
  rw [cl_X1_turned]
  decide
def zcnt (m : zM) (p : Nat) : Int32 := if m p 3 = 1 then m p 2 else m p 1
def zmrk (k : Int32) : Int32 := if k = 1 then 2 else if k = 2 then 0 else if k = 3 then 4 else 1
def zset (m : zM) (p : Nat) (v : Int32) : zM := if m p 3 = 1 then zup m p 2 v else zup m p 1 v
def zmin (x y : Int32) : Int32 := if y < x then y else x
def zmax (x y : Int32) : Int32 := if x < y then y else x
def zent (m : zM) (p : Nat) : zM := zset m p (zmin 99 (zcnt m p + zmrk (m p 0)))
theorem t_X1_turned {d : Nat} {m : zM} {r : Option Value} {h' : zHp} {p : Nat} (hp : zLY[p]? = some (Sum.inr 1, List.replicate 4 none)) (H : zE none d zm_X1_turned 0 [.ref p] [] m r h') : r = some (.int (zcnt m p)) ∧ h' = zhp m := by
  replace H := i_aln (q := 1) H I_X1_turned_0 rfl rfl
  replace H := i_gfi (q := 4) H I_X1_turned_1 G_1_21 cn_X1_turned hp rfl rfl
  replace H := i_icst (x := 1) (q := 5) H I_X1_turned_4 (by decide) rfl
  have W := i_ic_ne (t := 15) (q := 8) H I_X1_turned_5 (by decide) rfl
  clear H
  rcases W with ⟨c_5, H⟩ | ⟨c_5, H⟩
  · skip
    replace H := i_aln (q := 16) H I_X1_turned_15 rfl rfl
    replace H := i_gfi (q := 19) H I_X1_turned_16 G_1_15 cn_X1_turned hp rfl rfl
    obtain ⟨hr, hh⟩ := i_ir H I_X1_turned_19
    refine ⟨hr.trans ?_, hh⟩
    simp [zcnt, *]
  · skip
    replace H := i_aln (q := 9) H I_X1_turned_8 rfl rfl
    replace H := i_gfi (q := 12) H I_X1_turned_9 G_1_18 cn_X1_turned hp rfl rfl
    replace H := i_goto (q := 19) H I_X1_turned_12 (by decide)
    obtain ⟨hr, hh⟩ := i_ir H I_X1_turned_19
    refine ⟨hr.trans ?_, hh⟩
    simp [zcnt, *]
theorem t_X1_setTurned {d : Nat} {m : zM} {r : Option Value} {h' : zHp} {p : Nat} {v : Int32} (hp : zLY[p]? = some (Sum.inr 1, List.replicate 4 none)) (H : zE none d zm_X1_setTurned 0 [.ref p, .int v] [] m r h') : r = none ∧ h' = zhp (zset m p v) := by
  replace H := i_aln (q := 1) H I_X1_setTurned_0 rfl rfl
  replace H := i_gfi (q := 4) H I_X1_setTurned_1 G_1_21 cn_X1_setTurned hp rfl rfl
  replace H := i_icst (x := 1) (q := 5) H I_X1_setTurned_4 (by decide) rfl
  have W := i_ic_ne (t := 16) (q := 8) H I_X1_setTurned_5 (by decide) rfl
  clear H
  rcases W with ⟨c_5, H⟩ | ⟨c_5, H⟩
  · skip
    replace H := i_aln (q := 17) H I_X1_setTurned_16 rfl rfl
    replace H := i_iln (q := 18) H I_X1_setTurned_17 rfl rfl
    replace H := i_pf (q := 21) H I_X1_setTurned_18 G_1_15 cn_X1_setTurned hp rfl rfl
    obtain ⟨hr, hh⟩ := i_rt H I_X1_setTurned_21
    refine ⟨hr, hh.trans ?_⟩
    simp [zset, *]
  · skip
    replace H := i_aln (q := 9) H I_X1_setTurned_8 rfl rfl
    replace H := i_iln (q := 10) H I_X1_setTurned_9 rfl rfl
    replace H := i_pf (q := 13) H I_X1_setTurned_10 G_1_18 cn_X1_setTurned hp rfl rfl
    replace H := i_goto (q := 21) H I_X1_setTurned_13 (by decide)
    obtain ⟨hr, hh⟩ := i_rt H I_X1_setTurned_21
    refine ⟨hr, hh.trans ?_⟩
    simp [zset, *]
theorem t_X1_marks {d : Nat} {m : zM} {r : Option Value} {h' : zHp} {p : Nat} (hp : zLY[p]? = some (Sum.inr 1, List.replicate 4 none)) (H : zE none d zm_X1_marks 0 [.ref p] [] m r h') : r = some (.int (zmrk (m p 0))) ∧ h' = zhp m := by
  replace H := i_aln (q := 1) H I_X1_marks_0 rfl rfl
  replace H := i_gfi (q := 4) H I_X1_marks_1 G_1_9 cn_X1_marks hp rfl rfl
  have W := i_ts1 1 (q := 32) H I_X1_marks_4 (by decide) rfl (by decide)
  clear H
  rcases W with ⟨w_4_1, H⟩ | ⟨w_4_1, H⟩
  · skip
    replace H := i_icst (x := 2) (q := 33) H I_X1_marks_32 (by decide) rfl
    obtain ⟨hr, hh⟩ := i_ir H I_X1_marks_33
    refine ⟨hr.trans ?_, hh⟩
    simp [zmrk, *]
  · skip
    have W := i_ts1 2 (q := 34) H I_X1_marks_4 (by decide) rfl (by decide)
    clear H
    rcases W with ⟨w_4_2, H⟩ | ⟨w_4_2, H⟩
    · skip
      replace H := i_icst (x := 0) (q := 35) H I_X1_marks_34 (by decide) rfl
      obtain ⟨hr, hh⟩ := i_ir H I_X1_marks_35
      refine ⟨hr.trans ?_, hh⟩
      simp [zmrk, *]
    · skip
      have W := i_ts1 3 (q := 36) H I_X1_marks_4 (by decide) rfl (by decide)
      clear H
      rcases W with ⟨w_4_3, H⟩ | ⟨w_4_3, H⟩
      · skip
        replace H := i_icst (x := 4) (q := 37) H I_X1_marks_36 (by decide) rfl
        obtain ⟨hr, hh⟩ := i_ir H I_X1_marks_37
        refine ⟨hr.trans ?_, hh⟩
        simp [zmrk, *]
      · skip
        replace H := i_tsd (q := 38) H I_X1_marks_4 (by have q0 := zne w_4_1 (z := 1) (by decide); have q1 := zne w_4_2 (z := 2) (by decide); have q2 := zne w_4_3 (z := 3) (by decide); omega) (by decide)
        replace H := i_icst (x := 1) (q := 39) H I_X1_marks_38 (by decide) rfl
        obtain ⟨hr, hh⟩ := i_ir H I_X1_marks_39
        refine ⟨hr.trans ?_, hh⟩
        simp [zmrk, *]
theorem t_X1_enter {d : Nat} {m : zM} {r : Option Value} {h' : zHp} {p : Nat} (hp : zLY[p]? = some (Sum.inr 1, List.replicate 4 none)) (H : zE none d zm_X1_enter 0 [.ref p] [] m r h') : r = none ∧ h' = zhp (zent m p) := by
  replace H := i_aln (q := 1) H I_X1_enter_0 rfl rfl
  replace H := i_bip (x := 99) (q := 3) H I_X1_enter_1 (by decide) rfl
  replace H := i_aln (q := 4) H I_X1_enter_3 rfl rfl
  have W := i_cv0 0 (q := 7) H I_X1_enter_4 K_1_24 Zm_20 rfl rfl
  clear H
  obtain ⟨r1, h1, Hc, K1, K2⟩ := W
  obtain ⟨e1, e2⟩ := t_X1_turned hp Hc
  have H := K1 _ _ e1 e2
  clear e1 e2 Hc K1 K2
  replace H := i_aln (q := 8) H I_X1_enter_7 rfl rfl
  have W := i_cv0 0 (q := 11) H I_X1_enter_8 K_1_28 Zm_22 rfl rfl
  clear H
  obtain ⟨r1, h1, Hc, K1, K2⟩ := W
  obtain ⟨e1, e2⟩ := t_X1_marks hp Hc
  have H := K1 _ _ e1 e2
  clear e1 e2 Hc K1 K2
  replace H := i_iadd (q := 12) H I_X1_enter_11 rfl
  replace H := i_min (q := 15) H I_X1_enter_12 K_1_31 rfl
  have W := i_cv1 0 (q := 18) H I_X1_enter_15 K_1_37 Zm_21 rfl rfl
  clear H
  obtain ⟨r1, h1, Hc, K1, K2⟩ := W
  obtain ⟨e1, e2⟩ := t_X1_setTurned hp Hc
  have H := K2 _ e1 e2
  clear e1 e2 Hc K1 K2
  obtain ⟨hr, hh⟩ := i_rt H I_X1_enter_18
  exact ⟨hr, hh⟩
theorem t_X1_calm {d : Nat} {m : zM} {r : Option Value} {h' : zHp} {p : Nat} (hp : zLY[p]? = some (Sum.inr 1, List.replicate 4 none)) (H : zE none d zm_X1_calm 0 [.ref p] [] m r h') : r = none ∧ h' = zhp (zup (zup m p 1 (zmax 0 (m p 1 - 1))) p 2 (zmax 0 (m p 2 - 1))) := by
  replace H := i_aln (q := 1) H I_X1_calm_0 rfl rfl
  replace H := i_icst (x := 0) (q := 2) H I_X1_calm_1 (by decide) rfl
  replace H := i_aln (q := 3) H I_X1_calm_2 rfl rfl
  replace H := i_gfi (q := 6) H I_X1_calm_3 G_1_15 cn_X1_calm hp rfl rfl
  replace H := i_icst (x := 1) (q := 7) H I_X1_calm_6 (by decide) rfl
  replace H := i_isub (q := 8) H I_X1_calm_7 rfl
  replace H := i_max (q := 11) H I_X1_calm_8 K_1_41 rfl
  replace H := i_pf (q := 14) H I_X1_calm_11 G_1_15 cn_X1_calm hp rfl rfl
  replace H := i_aln (q := 15) H I_X1_calm_14 rfl rfl
  replace H := i_icst (x := 0) (q := 16) H I_X1_calm_15 (by decide) rfl
  replace H := i_aln (q := 17) H I_X1_calm_16 rfl rfl
  replace H := i_gfi (q := 20) H I_X1_calm_17 G_1_18 cn_X1_calm hp rfl rfl
  replace H := i_icst (x := 1) (q := 21) H I_X1_calm_20 (by decide) rfl
  replace H := i_isub (q := 22) H I_X1_calm_21 rfl
  replace H := i_max (q := 25) H I_X1_calm_22 K_1_41 rfl
  replace H := i_pf (q := 28) H I_X1_calm_25 G_1_18 cn_X1_calm hp rfl rfl
  obtain ⟨hr, hh⟩ := i_rt H I_X1_calm_28
  refine ⟨hr, hh.trans ?_⟩
  simp [zmax, zup]
theorem t_X1_become {d : Nat} {m : zM} {r : Option Value} {h' : zHp} {p o : Nat} (hp : zLY[p]? = some (Sum.inr 1, List.replicate 4 none)) (ho : zLY[o]? = some (Sum.inr 1, List.replicate 4 none)) (H : zE none d zm_X1_become 0 [.ref p, .ref o] [] m r h') : r = none ∧ h' = zhp (zup (zup (zup (zup m p 0 (m o 0)) p 1 (m o 1)) p 2 (m o 2)) p 3 (m o 3)) := by
  replace H := i_aln (q := 1) H I_X1_become_0 rfl rfl
  replace H := i_aln (q := 2) H I_X1_become_1 rfl rfl
  replace H := i_gfi (q := 5) H I_X1_become_2 G_1_9 cn_X1_become ho rfl rfl
  replace H := i_pf (q := 8) H I_X1_become_5 G_1_9 cn_X1_become hp rfl rfl
  replace H := i_aln (q := 9) H I_X1_become_8 rfl rfl
  replace H := i_aln (q := 10) H I_X1_become_9 rfl rfl
  replace H := i_gfi (q := 13) H I_X1_become_10 G_1_15 cn_X1_become ho rfl rfl
  replace H := i_pf (q := 16) H I_X1_become_13 G_1_15 cn_X1_become hp rfl rfl
  replace H := i_aln (q := 17) H I_X1_become_16 rfl rfl
  replace H := i_aln (q := 18) H I_X1_become_17 rfl rfl
  replace H := i_gfi (q := 21) H I_X1_become_18 G_1_18 cn_X1_become ho rfl rfl
  replace H := i_pf (q := 24) H I_X1_become_21 G_1_18 cn_X1_become hp rfl rfl
  replace H := i_aln (q := 25) H I_X1_become_24 rfl rfl
  replace H := i_aln (q := 26) H I_X1_become_25 rfl rfl
  replace H := i_gfi (q := 29) H I_X1_become_26 G_1_21 cn_X1_become ho rfl rfl
  replace H := i_pf (q := 32) H I_X1_become_29 G_1_21 cn_X1_become hp rfl rfl
  obtain ⟨hr, hh⟩ := i_rt H I_X1_become_32
  refine ⟨hr, hh.trans ?_⟩
  congr 1
  funext a b
  simp only [zup]
  by_cases h1 : a = p <;> by_cases h2 : b = 0 <;> by_cases h3 : b = 1 <;> by_cases h4 : b = 2 <;> by_cases h5 : b = 3 <;> by_cases h6 : o = p <;> simp_all
end
