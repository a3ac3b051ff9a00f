/-! the fresh objects: what they hold, and the law from its entry to its loop -/
def zh0 : zHp := [
(Sum.inr 7, ([.ref 1, .ref 11, .ref 19, .ref 29, .ref 40, .ref 44, .ref 45, .ref 46, .int 0] : List Value)),
  (Sum.inr 2, ([.ref 2, .ref 3] ++ List.replicate 11 (Value.int 0) : List Value)),
  (Sum.inl 1, (List.replicate 160 (Value.int 0) : List Value)),
  (Sum.inr 0, ([.ref 4, .ref 5, .int 0, .int 0, .int 1, .int 0] : List Value)),
  (Sum.inl 4, ([.ref 6, .ref 7, .ref 8, .ref 9, .ref 10] : List Value)),
  (Sum.inl 0, (List.replicate 8 (Value.int 0) : List Value)),
  (Sum.inr 1, ([.int 0, .int 0, .int 0, .int 0] : List Value)),
  (Sum.inr 1, ([.int 0, .int 0, .int 0, .int 0] : List Value)),
  (Sum.inr 1, ([.int 0, .int 0, .int 0, .int 0] : List Value)),
  (Sum.inr 1, ([.int 0, .int 0, .int 0, .int 0] : List Value)),
  (Sum.inr 1, ([.int 0, .int 0, .int 0, .int 0] : List Value)),
  (Sum.inr 0, ([.ref 12, .ref 13, .int 0, .int 0, .int 1, .int 0] : List Value)),
  (Sum.inl 4, ([.ref 14, .ref 15, .ref 16, .ref 17, .ref 18] : List Value)),
  (Sum.inl 0, (List.replicate 8 (Value.int 0) : List Value)),
  (Sum.inr 1, ([.int 0, .int 0, .int 0, .int 0] : List Value)),
  (Sum.inr 1, ([.int 0, .int 0, .int 0, .int 0] : List Value)),
  (Sum.inr 1, ([.int 0, .int 0, .int 0, .int 0] : List Value)),
  (Sum.inr 1, ([.int 0, .int 0, .int 0, .int 0] : List Value)),
  (Sum.inr 1, ([.int 0, .int 0, .int 0, .int 0] : List Value)),
  (Sum.inr 3, ([.ref 20, .ref 28, .int 0, .int 0, .int 0] : List Value)),
  (Sum.inr 0, ([.ref 21, .ref 22, .int 0, .int 0, .int 1, .int 0] : List Value)),
  (Sum.inl 4, ([.ref 23, .ref 24, .ref 25, .ref 26, .ref 27] : List Value)),
  (Sum.inl 0, (List.replicate 8 (Value.int 0) : List Value)),
  (Sum.inr 1, ([.int 0, .int 0, .int 0, .int 0] : List Value)),
  (Sum.inr 1, ([.int 0, .int 0, .int 0, .int 0] : List Value)),
  (Sum.inr 1, ([.int 0, .int 0, .int 0, .int 0] : List Value)),
  (Sum.inr 1, ([.int 0, .int 0, .int 0, .int 0] : List Value)),
  (Sum.inr 1, ([.int 0, .int 0, .int 0, .int 0] : List Value)),
  (Sum.inl 0, (List.replicate 8 (Value.int 0) : List Value)),
  (Sum.inr 4, ([.ref 30, .ref 38, .ref 39, .int 0, .int 0] : List Value)),
  (Sum.inr 0, ([.ref 31, .ref 32, .int 0, .int 0, .int 1, .int 0] : List Value)),
  (Sum.inl 4, ([.ref 33, .ref 34, .ref 35, .ref 36, .ref 37] : List Value)),
  (Sum.inl 0, (List.replicate 8 (Value.int 0) : List Value)),
  (Sum.inr 1, ([.int 0, .int 0, .int 0, .int 0] : List Value)),
  (Sum.inr 1, ([.int 0, .int 0, .int 0, .int 0] : List Value)),
  (Sum.inr 1, ([.int 0, .int 0, .int 0, .int 0] : List Value)),
  (Sum.inr 1, ([.int 0, .int 0, .int 0, .int 0] : List Value)),
  (Sum.inr 1, ([.int 0, .int 0, .int 0, .int 0] : List Value)),
  (Sum.inl 0, ([.int 0, .int 0, .int 0, .int 0, .int 0] : List Value)),
  (Sum.inl 0, ([.int 0, .int 0, .int 0, .int 0, .int 0] : List Value)),
  (Sum.inr 6, ([.ref 41, .ref 42, .ref 43, .int 0] : List Value)),
  (Sum.inl 0, (List.replicate 6 (Value.int 0) : List Value)),
  (Sum.inl 0, (List.replicate 6 (Value.int 0) : List Value)),
  (Sum.inl 0, (List.replicate 48 (Value.int 0) : List Value)),
  (Sum.inl 3, ([.ref 47, .ref 55] : List Value)),
  (Sum.inl 2, ([.int 0, .int 0] : List Value)),
  (Sum.inl 8, ([.ref 63, .ref 65, .ref 67, .ref 69] : List Value)),
  (Sum.inr 0, ([.ref 48, .ref 49, .int 0, .int 0, .int 1, .int 0] : List Value)),
  (Sum.inl 4, ([.ref 50, .ref 51, .ref 52, .ref 53, .ref 54] : List Value)),
  (Sum.inl 0, (List.replicate 8 (Value.int 0) : List Value)),
  (Sum.inr 1, ([.int 0, .int 0, .int 0, .int 0] : List Value)),
  (Sum.inr 1, ([.int 0, .int 0, .int 0, .int 0] : List Value)),
  (Sum.inr 1, ([.int 0, .int 0, .int 0, .int 0] : List Value)),
  (Sum.inr 1, ([.int 0, .int 0, .int 0, .int 0] : List Value)),
  (Sum.inr 1, ([.int 0, .int 0, .int 0, .int 0] : List Value)),
  (Sum.inr 0, ([.ref 56, .ref 57, .int 0, .int 0, .int 1, .int 0] : List Value)),
  (Sum.inl 4, ([.ref 58, .ref 59, .ref 60, .ref 61, .ref 62] : List Value)),
  (Sum.inl 0, (List.replicate 8 (Value.int 0) : List Value)),
  (Sum.inr 1, ([.int 0, .int 0, .int 0, .int 0] : List Value)),
  (Sum.inr 1, ([.int 0, .int 0, .int 0, .int 0] : List Value)),
  (Sum.inr 1, ([.int 0, .int 0, .int 0, .int 0] : List Value)),
  (Sum.inr 1, ([.int 0, .int 0, .int 0, .int 0] : List Value)),
  (Sum.inr 1, ([.int 0, .int 0, .int 0, .int 0] : List Value)),
  (Sum.inr 5, ([.ref 64, .int 0, .int 0, .int 0] : List Value)),
  (Sum.inl 0, (List.replicate 40 (Value.int 0) : List Value)),
  (Sum.inr 5, ([.ref 66, .int 0, .int 0, .int 0] : List Value)),
  (Sum.inl 0, (List.replicate 40 (Value.int 0) : List Value)),
  (Sum.inr 5, ([.ref 68, .int 0, .int 0, .int 0] : List Value)),
  (Sum.inl 0, (List.replicate 40 (Value.int 0) : List Value)),
  (Sum.inr 5, ([.ref 70, .int 0, .int 0, .int 0] : List Value)),
  (Sum.inl 0, (List.replicate 40 (Value.int 0) : List Value)),
  (Sum.inr 8, ([.ref 72, .ref 73, .int 0, .ref 74, .int 0, .int 0, .int 0, .ref 75] ++ List.replicate 8 (Value.int 0) ++ [.ref 76, .ref 77, .int 0, .int 0, .int 0, .ref 78, .ref 79, .int 0, .ref 80, .ref 81, .ref 82, .ref 83, .ref 84, .ref 85, .int 0] : List Value)),
  (Sum.inl 0, (List.replicate 135 (Value.int 0) : List Value)),
  (Sum.inl 0, ([.int 1, .int 2, .int 0, .int 4] : List Value)),
  (Sum.inl 0, (List.replicate 27 (Value.int 0) : List Value)),
  (Sum.inl 0, (List.replicate 160 (Value.int 0) : List Value)),
  (Sum.inl 0, ([.int 0, .int 5, .int 11, .int 16, .int 22, .int 26, .int 31, .int 35] : List Value)),
  (Sum.inl 0, ([.int 112, .int 108, .int 97, .int 105, .int 110, .int 103, .int 108, .int 111, .int 118, .int 101, .int 100, .int 99, .int 104, .int 105, .int 108, .int 100, .int 109, .int 97, .int 115, .int 116, .int 101, .int 114, .int 108, .int 101, .int 102, .int 116, .int 115, .int 108, .int 97, .int 99, .int 107, .int 112, .int 108, .int 97, .int 110] : List Value)),
  (Sum.inl 0, (List.replicate 8 (Value.int 0) : List Value)),
  (Sum.inl 0, (List.replicate 12 (Value.int 0) : List Value)),
  (Sum.inl 0, (List.replicate 168 (Value.int 0) : List Value)),
  (Sum.inl 2, (List.replicate 21 (Value.int 0) : List Value)),
  (Sum.inl 2, ([.int 0, .int 0] : List Value)),
  (Sum.inl 0, ([.int (-4), .int (-4), .int (-4), .int (-4)] : List Value)),
  (Sum.inl 0, ([.int 0, .int 0, .int 0, .int 0] : List Value)),
  (Sum.inl 0, (List.replicate 160 (Value.int 0) : List Value))]
def zL0 : zLo := [(3, .int 0), (2, .ref 71), (1, .ref 0), (0, .retAddr 0)]
def zc7 : zC := (Sum.inr 7, [.null, .null, .null, .null, .null, .null, .null, .null, .int 0])
def zc8 : zC := (Sum.inr 8, (zfts.getD 8 []).map fun t => zdf t.1)
set_option maxRecDepth 100000 in
theorem zi7 : zex 3000 none 19 zm_X7_init (0, lv_args 0 [.ref 0], [], [zc7]) = some (none, zh0.take 71) := by decide +kernel
set_option maxRecDepth 100000 in
theorem zi8 : zex 3000 none 19 zm_X8_init (0, lv_args 0 [.ref 71], [], zh0.take 71 ++ [zc8]) = some (none, zh0) := by decide +kernel
def zl1 : zLo := [(1, .ref 0), (0, .retAddr 0)]
def zl2a : zLo := [(2, .ref 71), (1, .ref 0), (0, .retAddr 0)]
set_option maxRecDepth 100000 in
theorem zlen71 : (zh0.take 71).length = 71 := by decide +kernel
set_option maxRecDepth 100000 in
theorem zpre (ys : List Int32) {r : Option Value} {h' : zHp} (hx : zEv (some ys) 20 zm_L_law (18, zL0, [], zh0) r h') : zEv (some ys) 20 zm_L_law (0, [(0, .retAddr 0)], [], []) r h' := by
  refine zEv_step (st' := (3, [(0, .retAddr 0)], [.ref 0], [zc7])) rfl ?_
  refine zEv_step (st' := (4, [(0, .retAddr 0)], [.ref 0, .ref 0], [zc7])) rfl ?_
  refine zEv_call (kd := 2) (id := 64) (as := [.ref 0]) (rest := [.ref 0]) (mi' := zm_X7_init) rfl rfl (by decide +kernel) ⟨3000, zi7⟩ ?_
  show zEv (some ys) 20 zm_L_law (7, [(0, .retAddr 0)], [.ref 0], zh0.take 71) r h'
  refine zEv_step (st' := (8, zl1, [], zh0.take 71)) rfl ?_
  refine zEv_step (st' := (11, zl1, [.ref (zh0.take 71).length], zh0.take 71 ++ [zc8])) rfl ?_
  rw [zlen71]
  refine zEv_step (st' := (12, zl1, [.ref 71, .ref 71], zh0.take 71 ++ [zc8])) rfl ?_
  refine zEv_call (kd := 2) (id := 113) (as := [.ref 71]) (rest := [.ref 71]) (mi' := zm_X8_init) rfl rfl (by decide +kernel) ⟨3000, zi8⟩ ?_
  show zEv (some ys) 20 zm_L_law (15, zl1, [.ref 71], zh0) r h'
  refine zEv_step (st' := (16, zl2a, [], zh0)) rfl ?_
  refine zEv_step (st' := (17, zl2a, [.int 0], zh0)) rfl ?_
  refine zEv_step (st' := (18, zL0, [], zh0)) rfl ?_
  exact hx
def ydv (T : yT) (k i : Nat) (v : Value) : Bool := match ydf T k i, v with
  | some (.inl iv), .int X => ysub [(X.toInt, X.toInt)] 0 iv
  | some (.inr w), v => decide (v = w)
  | none, _ => true
  | _, _ => false
theorem ydv_ok {T : yT} {k i : Nat} {v : Value} (h : ydv T k i v = true) : yDf T k i v := by
  unfold ydv at h
  unfold yDf
  split at h
  · rename_i iv X hd
    rw [hd]
    have := ysub_ok h (z := X.toInt) (yM_1 (Int.le_refl _) (Int.le_refl _))
    rw [show X.toInt + 0 = X.toInt by omega] at this
    exact ⟨X, rfl, this⟩
  · rename_i w v0 hd
    rw [hd]
    exact of_decide_eq_true h
  · rename_i v0 hd
    rw [hd]
    trivial
  · cases h
def ychk (k : Nat) : Bool := match yki yT1 k with
  | none => true
  | some x => (match zh0[k]? with
    | some c => decide (c.1 = x.1) && decide (c.2.length = x.2) && zall (fun i v => ydv yT1 k i v) 0 c.2
    | none => false)
set_option maxRecDepth 100000 in
theorem ychk_ok : (List.range 90).all ychk = true := by decide +kernel
theorem yT1_len : yT1.2.length = 9 := by decide +kernel
set_option maxRecDepth 100000 in
theorem zh0_len : zh0.length = 86 := by decide +kernel
set_option maxRecDepth 100000 in
theorem zh0_sz : zsz zh0 = 1471 := by decide +kernel
theorem yki_lt {k : Nat} {x : (Nat ⊕ Nat) × Nat} (h : yki yT1 k = some x) : k < 90 := by
  unfold yki yl3 at h
  rw [ylk_eq] at h
  cases hk : yT1.2[k / 10]? with
  | none => rw [hk] at h; cases h
  | some r =>
    have := (List.getElem?_eq_some_iff.mp hk).1
    rw [yT1_len] at this
    omega
theorem yfresh : yTp yT1 86 1471 zh0 := by
  refine ⟨zh0_len, zh0_sz, fun k x hk => ?_⟩
  have h1 := List.all_eq_true.mp ychk_ok k (List.mem_range.mpr (yki_lt hk))
  unfold ychk at h1
  rw [hk] at h1
  dsimp only at h1
  cases hc : zh0[k]? with
  | none => rw [hc] at h1; cases h1
  | some c =>
    rw [hc] at h1
    simp only [Bool.and_eq_true, decide_eq_true_eq] at h1
    obtain ⟨⟨a1, a2⟩, a3⟩ := h1
    obtain ⟨c1, c2⟩ := c
    dsimp only at a1 a2 a3
    refine ⟨c2, by rw [a1], a2, fun i v hi => ?_⟩
    have h5 := zall_get a3 i v hi
    rw [Nat.zero_add] at h5
    exact ydv_ok h5
