/-! the pairs of calls: tape and fault -/

theorem eng_m {md : yMd} {m m1 m2 : zM} {h : zHp} (h1 : h = zhp m1) (h2 : h = zhp m2) (ht : zTy m2) (hf : zfm md m m2) : zTy m1 ∧ zfm md m m1 := by
  have e : zhp m1 = zhp m2 := h1.symm.trans h2
  refine ⟨by unfold zTy; rw [e]; exact ht, fun k i hp hmd => ?_⟩
  rw [zhp_inj e hp]
  exact hf k i hp hmd
theorem ymd_c {k : Nat} : ∀ {md : yMd}, md.all (fun e => !(Nat.beq e.1 k)) = true → ∀ i, ymd md k i = false
  | [], _, i => rfl
  | (a, b, c) :: r, h, i => by
    simp only [List.all_cons, Bool.and_eq_true, Bool.not_eq_true'] at h
    simp only [ymd, h.1, Bool.false_and, cond_false]
    exact ymd_c h.2 i
def zlet (i : Nat) : Int32 := zbyt.flatten.getD i 0
def zck1 (k i : Nat) (z : Int) : Bool := match ydf yT1 k i with
  | some (.inl [(a, b)]) => decide (a = z) && decide (b = z)
  | _ => false
theorem zck1_ok {k i : Nat} {z : Int} (h : zck1 k i z = true) : ydf yT1 k i = some (.inl [(z, z)]) := by
  unfold zck1 at h
  split at h
  · rename_i a b hh
    simp only [Bool.and_eq_true, decide_eq_true_eq] at h
    rw [hh, h.1, h.2]
  · cases h
theorem zk_76 : (List.range 8).all (fun w => zck1 76 w (zcut w)) = true := by decide +kernel
theorem zk_77 : (List.range 35).all (fun i => zck1 77 i (zlet i).toInt) = true := by decide +kernel
theorem zk_ch : ∀ w, w < 7 → ∀ k, k < zlen.getD w 0 → zch w k = zlet (zcut w + k) ∧ zcut w + k < 35 := by decide +kernel
theorem zTy_tab {m : zM} (ht : zTy m) : zTab m := by
  constructor
  · intro w hw
    have h1 := zck1_ok (List.all_eq_true.mp zk_76 w (List.mem_range.mpr hw))
    have h2 := zTy_r ht (x := (Sum.inl 0, 8)) (by decide +kernel) (zpl_r LY_76 hw) h1
    apply Int32.toInt_inj.mp
    have h3 : zcut w ≤ 35 := by
      rcases (by omega : w = 0 ∨ w = 1 ∨ w = 2 ∨ w = 3 ∨ w = 4 ∨ w = 5 ∨ w = 6 ∨ w = 7) with rfl | rfl | rfl | rfl | rfl | rfl | rfl | rfl <;> decide
    rw [zofn_t (by omega)]
    omega
  · intro w hw k hk
    obtain ⟨e, hl⟩ := zk_ch w hw k hk
    have h1 := zck1_ok (List.all_eq_true.mp zk_77 _ (List.mem_range.mpr hl))
    have h2 := zTy_r ht (x := (Sum.inl 0, 35)) (by decide +kernel) (zpl_r LY_77 hl) h1
    rw [e]
    apply Int32.toInt_inj.mp
    omega
theorem zk_75 : (List.range 160).all (fun i => match ydf yT1 75 i with
  | some (.inl [(a, b)]) => decide (a = 0) && decide (b = 127)
  | _ => false) = true := by decide +kernel
theorem zTy_by {m : zM} (ht : zTy m) {i : Nat} (hi : i < 160) : ¬ m 75 i = -4 := by
  have h1 := List.all_eq_true.mp zk_75 i (List.mem_range.mpr hi)
  split at h1
  · rename_i a b hh
    simp only [Bool.and_eq_true, decide_eq_true_eq] at h1
    have h2 := zTy_r ht (x := (Sum.inl 0, 160)) (by decide +kernel) (zpl_r LY_75 hi) hh
    intro e
    rw [e, h1.1] at h2
    exact absurd h2.1 (by decide)
  · cases h1
theorem zE_of {d : Nat} {mi : zMi} {as : List Value} {m : zM} {r : Option Value} {h' : zHp} (p : Nat) (hc : as.all (fun v => v.category == 1) = true) (H : zEv none d mi (0, lv_args 0 as, [], zhp m) r h') : zE none d mi 0 (as ++ List.replicate p .null) [] m r h' := ⟨_, zcp_args p hc, H⟩
/-- tape and fault, of both -/
def RP (m : zM) : Prop := (∃ n, RT m n) ∧ m 1 4 = m 71 9
def zckP (md : yMd) : Bool := !(ymd md 1 2) && (!(ymd md 71 8) && (!(ymd md 1 4) && (!(ymd md 71 9) && (md.all (fun e => !(Nat.beq e.1 2)) && md.all (fun e => !(Nat.beq e.1 75))))))
theorem RP_f {md : yMd} {m m1 : zM} (h : RP m) (hf : zfm md m m1) (hc : zckP md = true) : RP m1 := by
  simp only [zckP, Bool.and_eq_true, Bool.not_eq_true'] at hc
  obtain ⟨c1, c2, c3, c4, c5, c6⟩ := hc
  obtain ⟨⟨n, a1, a2, a3, a4⟩, a5⟩ := h
  have f12 := hf 1 2 ⟨_, LY_1, rfl⟩ c1
  have f718 := hf 71 8 ⟨_, LY_71, rfl⟩ c2
  have f14 := hf 1 4 ⟨_, LY_1, rfl⟩ c3
  have f719 := hf 71 9 ⟨_, LY_71, rfl⟩ c4
  refine ⟨⟨n, f12.trans a1, f718.trans a2, a3, fun i hi => ?_⟩, by rw [f14, f719]; exact a5⟩
  rw [hf 2 i (zpl_r LY_2 (by omega)) (ymd_c c5 i), hf 75 i (zpl_r LY_75 (by omega)) (ymd_c c6 i)]
  exact a4 i hi
theorem pp_rule {m : zM} {r : Option Value} {h' : zHp} {x0 : Int32} (ht : zTy m) (hR : RP m) (H : zEv none 19 zm_X7_rule (0, lv_args 0 [.ref 0, .int x0], [], zhp m) r h') : ∃ m1 v, r = some (.int v) ∧ h' = zhp m1 ∧ zTy m1 ∧ ∀ r2 h2, zEv none 19 zm_X8_rule (0, lv_args 0 [.ref 71, .int x0], [], zhp m1) r2 h2 → ∃ m2 v2, r2 = some (.int v2) ∧ h2 = zhp m2 ∧ zTy m2 ∧ RP m2 := by
  obtain ⟨m1, v, a1, a2, a3, a4⟩ := e_X7_rule ht H
  refine ⟨m1, v, a1, a2, a3, fun r2 h2 H2 => ?_⟩
  obtain ⟨m2, v2, b1, b2, b3, b4⟩ := e_X8_rule a3 H2
  exact ⟨m2, v2, b1, b2, b3, RP_f (RP_f hR a4 (by decide +kernel)) b4 (by decide +kernel)⟩
theorem pp_one {m : zM} {r : Option Value} {h' : zHp} {x0 x1 : Int32} (ht : zTy m) (hR : RP m) (H : zEv none 19 zm_X7_one (0, lv_args 0 [.ref 0, .int x0, .int x1], [], zhp m) r h') : ∃ m1 v, r = some (.int v) ∧ h' = zhp m1 ∧ zTy m1 ∧ ∀ r2 h2, zEv none 19 zm_X8_one (0, lv_args 0 [.ref 71, .int x0, .int x1], [], zhp m1) r2 h2 → ∃ m2 v2, r2 = some (.int v2) ∧ h2 = zhp m2 ∧ zTy m2 ∧ RP m2 := by
  obtain ⟨m1, v, a1, a2, a3, a4⟩ := e_X7_one ht H
  refine ⟨m1, v, a1, a2, a3, fun r2 h2 H2 => ?_⟩
  obtain ⟨m2, v2, b1, b2, b3, b4⟩ := e_X8_one a3 H2
  exact ⟨m2, v2, b1, b2, b3, RP_f (RP_f hR a4 (by decide +kernel)) b4 (by decide +kernel)⟩
theorem pp_act {m : zM} {r : Option Value} {h' : zHp} {x0 : Int32} (ht : zTy m) (hR : RP m) (H : zEv none 19 zm_X7_act (0, lv_args 0 [.ref 0, .int x0], [], zhp m) r h') : ∃ m1 v, r = some (.int v) ∧ h' = zhp m1 ∧ zTy m1 ∧ ∀ r2 h2, zEv none 19 zm_X8_act (0, lv_args 0 [.ref 71, .int x0], [], zhp m1) r2 h2 → ∃ m2 v2, r2 = some (.int v2) ∧ h2 = zhp m2 ∧ zTy m2 ∧ RP m2 := by
  obtain ⟨m1, v, a1, a2, a3, a4⟩ := e_X7_act ht H
  refine ⟨m1, v, a1, a2, a3, fun r2 h2 H2 => ?_⟩
  obtain ⟨m2, v2, b1, b2, b3, b4⟩ := e_X8_act a3 H2
  exact ⟨m2, v2, b1, b2, b3, RP_f (RP_f hR a4 (by decide +kernel)) b4 (by decide +kernel)⟩
theorem pp_alter {m : zM} {r : Option Value} {h' : zHp} {x0 x1 x2 : Int32} (ht : zTy m) (hR : RP m) (H : zEv none 19 zm_X7_alter (0, lv_args 0 [.ref 0, .int x0, .int x1, .int x2], [], zhp m) r h') : ∃ m1 v, r = some (.int v) ∧ h' = zhp m1 ∧ zTy m1 ∧ ∀ r2 h2, zEv none 19 zm_X8_alter (0, lv_args 0 [.ref 71, .int x0, .int x1, .int x2], [], zhp m1) r2 h2 → ∃ m2 v2, r2 = some (.int v2) ∧ h2 = zhp m2 ∧ zTy m2 ∧ RP m2 := by
  obtain ⟨m1, v, a1, a2, a3, a4⟩ := e_X7_alter ht H
  refine ⟨m1, v, a1, a2, a3, fun r2 h2 H2 => ?_⟩
  obtain ⟨m2, v2, b1, b2, b3, b4⟩ := e_X8_alter a3 H2
  exact ⟨m2, v2, b1, b2, b3, RP_f (RP_f hR a4 (by decide +kernel)) b4 (by decide +kernel)⟩
theorem pp_slack {m : zM} {r : Option Value} {h' : zHp} {x0 : Int32} (ht : zTy m) (hR : RP m) (H : zEv none 19 zm_X7_slack (0, lv_args 0 [.ref 0, .int x0], [], zhp m) r h') : ∃ m1 v, r = some (.int v) ∧ h' = zhp m1 ∧ zTy m1 ∧ ∀ r2 h2, zEv none 19 zm_X8_slack (0, lv_args 0 [.ref 71, .int x0], [], zhp m1) r2 h2 → ∃ m2 v2, r2 = some (.int v2) ∧ h2 = zhp m2 ∧ zTy m2 ∧ RP m2 := by
  obtain ⟨m1, v, a1, a2, a3, a4⟩ := e_X7_slack ht H
  refine ⟨m1, v, a1, a2, a3, fun r2 h2 H2 => ?_⟩
  obtain ⟨m2, v2, b1, b2, b3, b4⟩ := e_X8_slack a3 H2
  exact ⟨m2, v2, b1, b2, b3, RP_f (RP_f hR a4 (by decide +kernel)) b4 (by decide +kernel)⟩
theorem pp_plan {m : zM} {r : Option Value} {h' : zHp} {x0 : Int32} (ht : zTy m) (hR : RP m) (H : zEv none 19 zm_X7_plan (0, lv_args 0 [.ref 0, .int x0], [], zhp m) r h') : ∃ m1 v, r = some (.int v) ∧ h' = zhp m1 ∧ zTy m1 ∧ ∀ r2 h2, zEv none 19 zm_X8_plan (0, lv_args 0 [.ref 71, .int x0], [], zhp m1) r2 h2 → ∃ m2 v2, r2 = some (.int v2) ∧ h2 = zhp m2 ∧ zTy m2 ∧ RP m2 := by
  obtain ⟨m1, v, a1, a2, a3, a4⟩ := e_X7_plan ht H
  refine ⟨m1, v, a1, a2, a3, fun r2 h2 H2 => ?_⟩
  obtain ⟨m2, v2, b1, b2, b3, b4⟩ := e_X8_plan a3 H2
  exact ⟨m2, v2, b1, b2, b3, RP_f (RP_f hR a4 (by decide +kernel)) b4 (by decide +kernel)⟩
theorem pp_cut {m : zM} {r : Option Value} {h' : zHp} {x0 : Int32} (ht : zTy m) (hR : RP m) (H : zEv none 19 zm_X7_cut (0, lv_args 0 [.ref 0, .int x0], [], zhp m) r h') : ∃ m1 v, r = some (.int v) ∧ h' = zhp m1 ∧ zTy m1 ∧ ∀ r2 h2, zEv none 19 zm_X8_cut (0, lv_args 0 [.ref 71, .int x0], [], zhp m1) r2 h2 → ∃ m2 v2, r2 = some (.int v2) ∧ h2 = zhp m2 ∧ zTy m2 ∧ RP m2 := by
  obtain ⟨m1, v, a1, a2, a3, a4⟩ := e_X7_cut ht H
  refine ⟨m1, v, a1, a2, a3, fun r2 h2 H2 => ?_⟩
  obtain ⟨m2, v2, b1, b2, b3, b4⟩ := e_X8_cut a3 H2
  exact ⟨m2, v2, b1, b2, b3, RP_f (RP_f hR a4 (by decide +kernel)) b4 (by decide +kernel)⟩
theorem pp_turn {m : zM} {r : Option Value} {h' : zHp} {x0 : Int32} (ht : zTy m) (hR : RP m) (H : zEv none 19 zm_X7_turn (0, lv_args 0 [.ref 0, .int x0], [], zhp m) r h') : ∃ m1 v, r = some (.int v) ∧ h' = zhp m1 ∧ zTy m1 ∧ ∀ r2 h2, zEv none 19 zm_X8_turn (0, lv_args 0 [.ref 71, .int x0], [], zhp m1) r2 h2 → ∃ m2 v2, r2 = some (.int v2) ∧ h2 = zhp m2 ∧ zTy m2 ∧ RP m2 := by
  obtain ⟨m1, v, a1, a2, a3, a4⟩ := e_X7_turn ht H
  refine ⟨m1, v, a1, a2, a3, fun r2 h2 H2 => ?_⟩
  obtain ⟨m2, v2, b1, b2, b3, b4⟩ := e_X8_turn a3 H2
  exact ⟨m2, v2, b1, b2, b3, RP_f (RP_f hR a4 (by decide +kernel)) b4 (by decide +kernel)⟩
theorem pp_rest {m : zM} {r : Option Value} {h' : zHp} {x0 : Int32} (ht : zTy m) (hR : RP m) (H : zEv none 19 zm_X7_rest (0, lv_args 0 [.ref 0, .int x0], [], zhp m) r h') : ∃ m1 v, r = some (.int v) ∧ h' = zhp m1 ∧ zTy m1 ∧ ∀ r2 h2, zEv none 19 zm_X8_rest (0, lv_args 0 [.ref 71, .int x0], [], zhp m1) r2 h2 → ∃ m2 v2, r2 = some (.int v2) ∧ h2 = zhp m2 ∧ zTy m2 ∧ RP m2 := by
  obtain ⟨m1, v, a1, a2, a3, a4⟩ := e_X7_rest ht H
  refine ⟨m1, v, a1, a2, a3, fun r2 h2 H2 => ?_⟩
  obtain ⟨m2, v2, b1, b2, b3, b4⟩ := e_X8_rest a3 H2
  exact ⟨m2, v2, b1, b2, b3, RP_f (RP_f hR a4 (by decide +kernel)) b4 (by decide +kernel)⟩
theorem pp_runs {m : zM} {r : Option Value} {h' : zHp} {x0 : Int32} (ht : zTy m) (hR : RP m) (H : zEv none 19 zm_X7_runs (0, lv_args 0 [.ref 0, .int x0], [], zhp m) r h') : ∃ m1 v, r = some (.int v) ∧ h' = zhp m1 ∧ zTy m1 ∧ ∀ r2 h2, zEv none 19 zm_X8_runs (0, lv_args 0 [.ref 71, .int x0], [], zhp m1) r2 h2 → ∃ m2 v2, r2 = some (.int v2) ∧ h2 = zhp m2 ∧ zTy m2 ∧ RP m2 := by
  obtain ⟨m1, v, a1, a2, a3, a4⟩ := e_X7_runs ht H
  refine ⟨m1, v, a1, a2, a3, fun r2 h2 H2 => ?_⟩
  obtain ⟨m2, v2, b1, b2, b3, b4⟩ := e_X8_runs a3 H2
  exact ⟨m2, v2, b1, b2, b3, RP_f (RP_f hR a4 (by decide +kernel)) b4 (by decide +kernel)⟩
theorem pp_ahead {m : zM} {r : Option Value} {h' : zHp} {x0 : Int32} (ht : zTy m) (hR : RP m) (H : zEv none 19 zm_X7_ahead (0, lv_args 0 [.ref 0, .int x0], [], zhp m) r h') : ∃ m1 v, r = some (.int v) ∧ h' = zhp m1 ∧ zTy m1 ∧ ∀ r2 h2, zEv none 19 zm_X8_ahead (0, lv_args 0 [.ref 71, .int x0], [], zhp m1) r2 h2 → ∃ m2 v2, r2 = some (.int v2) ∧ h2 = zhp m2 ∧ zTy m2 ∧ RP m2 := by
  obtain ⟨m1, v, a1, a2, a3, a4⟩ := e_X7_ahead ht H
  refine ⟨m1, v, a1, a2, a3, fun r2 h2 H2 => ?_⟩
  obtain ⟨m2, v2, b1, b2, b3, b4⟩ := e_X8_ahead a3 H2
  exact ⟨m2, v2, b1, b2, b3, RP_f (RP_f hR a4 (by decide +kernel)) b4 (by decide +kernel)⟩
theorem pp_round {m : zM} {r : Option Value} {h' : zHp} (ht : zTy m) (hR : RP m) (H : zEv none 19 zm_X7_round (0, lv_args 0 [.ref 0], [], zhp m) r h') : ∃ m1 v, r = some (.int v) ∧ h' = zhp m1 ∧ zTy m1 ∧ ∀ r2 h2, zEv none 19 zm_X8_round (0, lv_args 0 [.ref 71], [], zhp m1) r2 h2 → ∃ m2 v2, r2 = some (.int v2) ∧ h2 = zhp m2 ∧ zTy m2 ∧ RP m2 := by
  obtain ⟨m1, v, a1, a2, a3, a4⟩ := e_X7_round ht H
  refine ⟨m1, v, a1, a2, a3, fun r2 h2 H2 => ?_⟩
  obtain ⟨m2, v2, b1, b2, b3, b4⟩ := e_X8_round a3 H2
  exact ⟨m2, v2, b1, b2, b3, RP_f (RP_f hR a4 (by decide +kernel)) b4 (by decide +kernel)⟩
theorem pp_order {m : zM} {r : Option Value} {h' : zHp} {x0 x1 : Int32} (ht : zTy m) (hR : RP m) (H : zEv none 19 zm_X7_order (0, lv_args 0 [.ref 0, .int x0, .int x1], [], zhp m) r h') : ∃ m1 v, r = some (.int v) ∧ h' = zhp m1 ∧ zTy m1 ∧ ∀ r2 h2, zEv none 19 zm_X8_order (0, lv_args 0 [.ref 71, .int x0, .int x1], [], zhp m1) r2 h2 → ∃ m2 v2, r2 = some (.int v2) ∧ h2 = zhp m2 ∧ zTy m2 ∧ RP m2 := by
  obtain ⟨m1, v, a1, a2, a3, a4⟩ := e_X7_order ht H
  refine ⟨m1, v, a1, a2, a3, fun r2 h2 H2 => ?_⟩
  obtain ⟨m2, v2, b1, b2, b3, b4⟩ := e_X8_order a3 H2
  exact ⟨m2, v2, b1, b2, b3, RP_f (RP_f hR a4 (by decide +kernel)) b4 (by decide +kernel)⟩
theorem pp_await {m : zM} {r : Option Value} {h' : zHp} {x0 x1 : Int32} (ht : zTy m) (hR : RP m) (H : zEv none 19 zm_X7_await (0, lv_args 0 [.ref 0, .int x0, .int x1], [], zhp m) r h') : ∃ m1 v, r = some (.int v) ∧ h' = zhp m1 ∧ zTy m1 ∧ ∀ r2 h2, zEv none 19 zm_X8_await (0, lv_args 0 [.ref 71, .int x0, .int x1], [], zhp m1) r2 h2 → ∃ m2 v2, r2 = some (.int v2) ∧ h2 = zhp m2 ∧ zTy m2 ∧ RP m2 := by
  obtain ⟨m1, v, a1, a2, a3, a4⟩ := e_X7_await ht H
  refine ⟨m1, v, a1, a2, a3, fun r2 h2 H2 => ?_⟩
  obtain ⟨m2, v2, b1, b2, b3, b4⟩ := e_X8_await a3 H2
  exact ⟨m2, v2, b1, b2, b3, RP_f (RP_f hR a4 (by decide +kernel)) b4 (by decide +kernel)⟩
theorem pp_hands {m : zM} {r : Option Value} {h' : zHp} {x0 : Int32} (ht : zTy m) (hR : RP m) (H : zEv none 19 zm_X7_hands (0, lv_args 0 [.ref 0, .int x0], [], zhp m) r h') : ∃ m1 v, r = some (.int v) ∧ h' = zhp m1 ∧ zTy m1 ∧ ∀ r2 h2, zEv none 19 zm_X8_hands (0, lv_args 0 [.ref 71, .int x0], [], zhp m1) r2 h2 → ∃ m2 v2, r2 = some (.int v2) ∧ h2 = zhp m2 ∧ zTy m2 ∧ RP m2 := by
  obtain ⟨m1, v, a1, a2, a3, a4⟩ := e_X7_hands ht H
  refine ⟨m1, v, a1, a2, a3, fun r2 h2 H2 => ?_⟩
  obtain ⟨m2, v2, b1, b2, b3, b4⟩ := e_X8_hands a3 H2
  exact ⟨m2, v2, b1, b2, b3, RP_f (RP_f hR a4 (by decide +kernel)) b4 (by decide +kernel)⟩
theorem pp_clean {m : zM} {r : Option Value} {h' : zHp} {x0 : Int32} (ht : zTy m) (hR : RP m) (H : zEv none 19 zm_X7_clean (0, lv_args 0 [.ref 0, .int x0], [], zhp m) r h') : ∃ m1 v, r = some (.int v) ∧ h' = zhp m1 ∧ zTy m1 ∧ ∀ r2 h2, zEv none 19 zm_X8_clean (0, lv_args 0 [.ref 71, .int x0], [], zhp m1) r2 h2 → ∃ m2 v2, r2 = some (.int v2) ∧ h2 = zhp m2 ∧ zTy m2 ∧ RP m2 := by
  obtain ⟨m1, v, a1, a2, a3, a4⟩ := e_X7_clean ht H
  refine ⟨m1, v, a1, a2, a3, fun r2 h2 H2 => ?_⟩
  obtain ⟨m2, v2, b1, b2, b3, b4⟩ := e_X8_clean a3 H2
  exact ⟨m2, v2, b1, b2, b3, RP_f (RP_f hR a4 (by decide +kernel)) b4 (by decide +kernel)⟩
theorem pp_trade {m : zM} {r : Option Value} {h' : zHp} {x0 : Int32} (ht : zTy m) (hR : RP m) (H : zEv none 19 zm_X7_trade (0, lv_args 0 [.ref 0, .int x0], [], zhp m) r h') : ∃ m1 v, r = some (.int v) ∧ h' = zhp m1 ∧ zTy m1 ∧ ∀ r2 h2, zEv none 19 zm_X8_trade (0, lv_args 0 [.ref 71, .int x0], [], zhp m1) r2 h2 → ∃ m2 v2, r2 = some (.int v2) ∧ h2 = zhp m2 ∧ zTy m2 ∧ RP m2 := by
  obtain ⟨m1, v, a1, a2, a3, a4⟩ := e_X7_trade ht H
  refine ⟨m1, v, a1, a2, a3, fun r2 h2 H2 => ?_⟩
  obtain ⟨m2, v2, b1, b2, b3, b4⟩ := e_X8_trade a3 H2
  exact ⟨m2, v2, b1, b2, b3, RP_f (RP_f hR a4 (by decide +kernel)) b4 (by decide +kernel)⟩
theorem pp_loose {m : zM} {r : Option Value} {h' : zHp} (ht : zTy m) (hR : RP m) (H : zEv none 19 zm_X7_loose (0, lv_args 0 [.ref 0], [], zhp m) r h') : ∃ m1 v, r = some (.int v) ∧ h' = zhp m1 ∧ zTy m1 ∧ ∀ r2 h2, zEv none 19 zm_X8_loose (0, lv_args 0 [.ref 71], [], zhp m1) r2 h2 → ∃ m2 v2, r2 = some (.int v2) ∧ h2 = zhp m2 ∧ zTy m2 ∧ RP m2 := by
  obtain ⟨m1, v, a1, a2, a3, a4⟩ := e_X7_loose ht H
  refine ⟨m1, v, a1, a2, a3, fun r2 h2 H2 => ?_⟩
  obtain ⟨m2, v2, b1, b2, b3, b4⟩ := e_X8_loose a3 H2
  exact ⟨m2, v2, b1, b2, b3, RP_f (RP_f hR a4 (by decide +kernel)) b4 (by decide +kernel)⟩
theorem pp_mean {m : zM} {r : Option Value} {h' : zHp} {x0 x1 : Int32} (ht : zTy m) (hR : RP m) (H : zEv none 19 zm_X7_mean (0, lv_args 0 [.ref 0, .int x0, .int x1], [], zhp m) r h') : ∃ m1 v, r = some (.long v) ∧ h' = zhp m1 ∧ zTy m1 ∧ ∀ r2 h2, zEv none 19 zm_X8_mean (0, lv_args 0 [.ref 71, .int x0, .int x1], [], zhp m1) r2 h2 → ∃ m2 v2, r2 = some (.long v2) ∧ h2 = zhp m2 ∧ zTy m2 ∧ RP m2 := by
  obtain ⟨m1, v, a1, a2, a3, a4⟩ := e_X7_mean ht H
  refine ⟨m1, v, a1, a2, a3, fun r2 h2 H2 => ?_⟩
  obtain ⟨m2, v2, b1, b2, b3, b4⟩ := e_X8_mean a3 H2
  exact ⟨m2, v2, b1, b2, b3, RP_f (RP_f hR a4 (by decide +kernel)) b4 (by decide +kernel)⟩
theorem pp_luck {m : zM} {r : Option Value} {h' : zHp} {x0 x1 x2 : Int32} (ht : zTy m) (hR : RP m) (H : zEv none 19 zm_X7_luck (0, lv_args 0 [.ref 0, .int x0, .int x1, .int x2], [], zhp m) r h') : ∃ m1 v, r = some (.long v) ∧ h' = zhp m1 ∧ zTy m1 ∧ ∀ r2 h2, zEv none 19 zm_X8_luck (0, lv_args 0 [.ref 71, .int x0, .int x1, .int x2], [], zhp m1) r2 h2 → ∃ m2 v2, r2 = some (.long v2) ∧ h2 = zhp m2 ∧ zTy m2 ∧ RP m2 := by
  obtain ⟨m1, v, a1, a2, a3, a4⟩ := e_X7_luck ht H
  refine ⟨m1, v, a1, a2, a3, fun r2 h2 H2 => ?_⟩
  obtain ⟨m2, v2, b1, b2, b3, b4⟩ := e_X8_luck a3 H2
  exact ⟨m2, v2, b1, b2, b3, RP_f (RP_f hR a4 (by decide +kernel)) b4 (by decide +kernel)⟩
theorem pp_see {m : zM} {r : Option Value} {h' : zHp} {x0 x1 : Int32} (ht : zTy m) (hR : RP m) (H : zEv none 19 zm_X7_see (0, lv_args 0 [.ref 0, .int x0, .int x1], [], zhp m) r h') : ∃ m1 v, r = some (.int v) ∧ h' = zhp m1 ∧ zTy m1 ∧ ∀ r2 h2, zEv none 19 zm_X8_see (0, lv_args 0 [.ref 71, .int x0, .int x1], [], zhp m1) r2 h2 → ∃ m2 v2, r2 = some (.int v2) ∧ h2 = zhp m2 ∧ zTy m2 ∧ RP m2 := by
  obtain ⟨m1, v, a1, a2, a3, a4⟩ := e_X7_see ht H
  refine ⟨m1, v, a1, a2, a3, fun r2 h2 H2 => ?_⟩
  obtain ⟨m2, v2, b1, b2, b3, b4⟩ := e_X8_see a3 H2
  exact ⟨m2, v2, b1, b2, b3, RP_f (RP_f hR a4 (by decide +kernel)) b4 (by decide +kernel)⟩
theorem pp_forget {m : zM} {r : Option Value} {h' : zHp} {x0 : Int32} (ht : zTy m) (hR : RP m) (H : zEv none 19 zm_X7_forget (0, lv_args 0 [.ref 0, .int x0], [], zhp m) r h') : ∃ m1 v, r = some (.int v) ∧ h' = zhp m1 ∧ zTy m1 ∧ ∀ r2 h2, zEv none 19 zm_X8_forget (0, lv_args 0 [.ref 71, .int x0], [], zhp m1) r2 h2 → ∃ m2 v2, r2 = some (.int v2) ∧ h2 = zhp m2 ∧ zTy m2 ∧ RP m2 := by
  obtain ⟨m1, v, a1, a2, a3, a4⟩ := e_X7_forget ht H
  refine ⟨m1, v, a1, a2, a3, fun r2 h2 H2 => ?_⟩
  obtain ⟨m2, v2, b1, b2, b3, b4⟩ := e_X8_forget a3 H2
  exact ⟨m2, v2, b1, b2, b3, RP_f (RP_f hR a4 (by decide +kernel)) b4 (by decide +kernel)⟩
theorem pp_counts {m : zM} {r : Option Value} {h' : zHp} {x0 x1 : Int32} (ht : zTy m) (hR : RP m) (H : zEv none 19 zm_X7_counts (0, lv_args 0 [.ref 0, .int x0, .int x1], [], zhp m) r h') : ∃ m1 v, r = some (.int v) ∧ h' = zhp m1 ∧ zTy m1 ∧ ∀ r2 h2, zEv none 19 zm_X8_counts (0, lv_args 0 [.ref 71, .int x0, .int x1], [], zhp m1) r2 h2 → ∃ m2 v2, r2 = some (.int v2) ∧ h2 = zhp m2 ∧ zTy m2 ∧ RP m2 := by
  obtain ⟨m1, v, a1, a2, a3, a4⟩ := e_X7_counts ht H
  refine ⟨m1, v, a1, a2, a3, fun r2 h2 H2 => ?_⟩
  obtain ⟨m2, v2, b1, b2, b3, b4⟩ := e_X8_counts a3 H2
  exact ⟨m2, v2, b1, b2, b3, RP_f (RP_f hR a4 (by decide +kernel)) b4 (by decide +kernel)⟩
theorem pp_slacks {m : zM} {r : Option Value} {h' : zHp} (ht : zTy m) (hR : RP m) (H : zEv none 19 zm_X7_slacks (0, lv_args 0 [.ref 0], [], zhp m) r h') : ∃ m1 v, r = some (.int v) ∧ h' = zhp m1 ∧ zTy m1 ∧ ∀ r2 h2, zEv none 19 zm_X8_slacks (0, lv_args 0 [.ref 71], [], zhp m1) r2 h2 → ∃ m2 v2, r2 = some (.int v2) ∧ h2 = zhp m2 ∧ zTy m2 ∧ RP m2 := by
  obtain ⟨m1, v, a1, a2, a3, a4⟩ := e_X7_slacks ht H
  refine ⟨m1, v, a1, a2, a3, fun r2 h2 H2 => ?_⟩
  obtain ⟨m2, v2, b1, b2, b3, b4⟩ := e_X8_slacks a3 H2
  exact ⟨m2, v2, b1, b2, b3, RP_f (RP_f hR a4 (by decide +kernel)) b4 (by decide +kernel)⟩
theorem pp_look {m : zM} {r : Option Value} {h' : zHp} {x0 x1 : Int32} (ht : zTy m) (hR : RP m) (H : zEv none 19 zm_X7_look (0, lv_args 0 [.ref 0, .int x0, .int x1], [], zhp m) r h') : ∃ m1 v, r = some (.int v) ∧ h' = zhp m1 ∧ zTy m1 ∧ ∀ r2 h2, zEv none 19 zm_X8_look (0, lv_args 0 [.ref 71, .int x0, .int x1], [], zhp m1) r2 h2 → ∃ m2 v2, r2 = some (.int v2) ∧ h2 = zhp m2 ∧ zTy m2 ∧ RP m2 := by
  obtain ⟨m1, v, a1, a2, a3, a4⟩ := e_X7_look ht H
  refine ⟨m1, v, a1, a2, a3, fun r2 h2 H2 => ?_⟩
  obtain ⟨m2, v2, b1, b2, b3, b4⟩ := e_X8_look a3 H2
  exact ⟨m2, v2, b1, b2, b3, RP_f (RP_f hR a4 (by decide +kernel)) b4 (by decide +kernel)⟩
theorem pp_drift {m : zM} {r : Option Value} {h' : zHp} {x0 x1 x2 : Int32} (ht : zTy m) (hR : RP m) (H : zEv none 19 zm_X7_drift (0, lv_args 0 [.ref 0, .int x0, .int x1, .int x2], [], zhp m) r h') : ∃ m1 v, r = some (.int v) ∧ h' = zhp m1 ∧ zTy m1 ∧ ∀ r2 h2, zEv none 19 zm_X8_drift (0, lv_args 0 [.ref 71, .int x0, .int x1, .int x2], [], zhp m1) r2 h2 → ∃ m2 v2, r2 = some (.int v2) ∧ h2 = zhp m2 ∧ zTy m2 ∧ RP m2 := by
  obtain ⟨m1, v, a1, a2, a3, a4⟩ := e_X7_drift ht H
  refine ⟨m1, v, a1, a2, a3, fun r2 h2 H2 => ?_⟩
  obtain ⟨m2, v2, b1, b2, b3, b4⟩ := e_X8_drift a3 H2
  exact ⟨m2, v2, b1, b2, b3, RP_f (RP_f hR a4 (by decide +kernel)) b4 (by decide +kernel)⟩
theorem pp_keep {m : zM} {r : Option Value} {h' : zHp} {x0 : Int32} (ht : zTy m) (hR : RP m) (H : zEv none 19 zm_X7_keep (0, lv_args 0 [.ref 0, .int x0], [], zhp m) r h') : ∃ m1 v, r = some (.int v) ∧ h' = zhp m1 ∧ zTy m1 ∧ ∀ r2 h2, zEv none 19 zm_X8_keep (0, lv_args 0 [.ref 71, .int x0], [], zhp m1) r2 h2 → ∃ m2 v2, r2 = some (.int v2) ∧ h2 = zhp m2 ∧ zTy m2 ∧ RP m2 := by
  obtain ⟨m1, v, a1, a2, a3, a4⟩ := e_X7_keep ht H
  refine ⟨m1, v, a1, a2, a3, fun r2 h2 H2 => ?_⟩
  obtain ⟨m2, v2, b1, b2, b3, b4⟩ := e_X8_keep a3 H2
  exact ⟨m2, v2, b1, b2, b3, RP_f (RP_f hR a4 (by decide +kernel)) b4 (by decide +kernel)⟩
theorem pp_back {m : zM} {r : Option Value} {h' : zHp} {x0 : Int32} (ht : zTy m) (hR : RP m) (H : zEv none 19 zm_X7_back (0, lv_args 0 [.ref 0, .int x0], [], zhp m) r h') : ∃ m1 v, r = some (.int v) ∧ h' = zhp m1 ∧ zTy m1 ∧ ∀ r2 h2, zEv none 19 zm_X8_back (0, lv_args 0 [.ref 71, .int x0], [], zhp m1) r2 h2 → ∃ m2 v2, r2 = some (.int v2) ∧ h2 = zhp m2 ∧ zTy m2 ∧ RP m2 := by
  obtain ⟨m1, v, a1, a2, a3, a4⟩ := e_X7_back ht H
  refine ⟨m1, v, a1, a2, a3, fun r2 h2 H2 => ?_⟩
  obtain ⟨m2, v2, b1, b2, b3, b4⟩ := e_X8_back a3 H2
  exact ⟨m2, v2, b1, b2, b3, RP_f (RP_f hR a4 (by decide +kernel)) b4 (by decide +kernel)⟩
theorem pp_sheet {m : zM} {r : Option Value} {h' : zHp} {x0 x1 x2 : Int32} (ht : zTy m) (hR : RP m) (H : zEv none 19 zm_X7_sheet (0, lv_args 0 [.ref 0, .int x0, .int x1, .int x2], [], zhp m) r h') : ∃ m1 v, r = some (.int v) ∧ h' = zhp m1 ∧ zTy m1 ∧ ∀ r2 h2, zEv none 19 zm_X8_sheet (0, lv_args 0 [.ref 71, .int x0, .int x1, .int x2], [], zhp m1) r2 h2 → ∃ m2 v2, r2 = some (.int v2) ∧ h2 = zhp m2 ∧ zTy m2 ∧ RP m2 := by
  obtain ⟨m1, v, a1, a2, a3, a4⟩ := e_X7_sheet ht H
  refine ⟨m1, v, a1, a2, a3, fun r2 h2 H2 => ?_⟩
  obtain ⟨m2, v2, b1, b2, b3, b4⟩ := e_X8_sheet a3 H2
  exact ⟨m2, v2, b1, b2, b3, RP_f (RP_f hR a4 (by decide +kernel)) b4 (by decide +kernel)⟩
theorem pp_lay {m : zM} {r : Option Value} {h' : zHp} {x0 x1 x2 : Int32} (ht : zTy m) (hR : RP m) (H : zEv none 19 zm_X7_lay (0, lv_args 0 [.ref 0, .int x0, .int x1, .int x2], [], zhp m) r h') : ∃ m1 v, r = some (.int v) ∧ h' = zhp m1 ∧ zTy m1 ∧ ∀ r2 h2, zEv none 19 zm_X8_lay (0, lv_args 0 [.ref 71, .int x0, .int x1, .int x2], [], zhp m1) r2 h2 → ∃ m2 v2, r2 = some (.int v2) ∧ h2 = zhp m2 ∧ zTy m2 ∧ RP m2 := by
  obtain ⟨m1, v, a1, a2, a3, a4⟩ := e_X7_lay ht H
  refine ⟨m1, v, a1, a2, a3, fun r2 h2 H2 => ?_⟩
  obtain ⟨m2, v2, b1, b2, b3, b4⟩ := e_X8_lay a3 H2
  exact ⟨m2, v2, b1, b2, b3, RP_f (RP_f hR a4 (by decide +kernel)) b4 (by decide +kernel)⟩
theorem pp_read {m : zM} {r : Option Value} {h' : zHp} {x0 x1 x2 x3 : Int32} (ht : zTy m) (hR : RP m) (H : zEv none 19 zm_X7_read (0, lv_args 0 [.ref 0, .int x0, .int x1, .int x2, .int x3], [], zhp m) r h') : ∃ m1 v, r = some (.int v) ∧ h' = zhp m1 ∧ zTy m1 ∧ ∀ r2 h2, zEv none 19 zm_X8_read (0, lv_args 0 [.ref 71, .int x0, .int x1, .int x2, .int x3], [], zhp m1) r2 h2 → ∃ m2 v2, r2 = some (.int v2) ∧ h2 = zhp m2 ∧ zTy m2 ∧ RP m2 := by
  obtain ⟨m1, v, a1, a2, a3, a4⟩ := e_X7_read ht H
  refine ⟨m1, v, a1, a2, a3, fun r2 h2 H2 => ?_⟩
  obtain ⟨m2, v2, b1, b2, b3, b4⟩ := e_X8_read a3 H2
  exact ⟨m2, v2, b1, b2, b3, RP_f (RP_f hR a4 (by decide +kernel)) b4 (by decide +kernel)⟩
theorem pp_torn {m : zM} {r : Option Value} {h' : zHp} (ht : zTy m) (hR : RP m) (H : zEv none 19 zm_X7_torn (0, lv_args 0 [.ref 0], [], zhp m) r h') : ∃ m1 v, r = some (.int v) ∧ h' = zhp m1 ∧ zTy m1 ∧ ∀ r2 h2, zEv none 19 zm_X8_torn (0, lv_args 0 [.ref 71], [], zhp m1) r2 h2 → ∃ m2 v2, r2 = some (.int v2) ∧ h2 = zhp m2 ∧ zTy m2 ∧ RP m2 := by
  obtain ⟨m1, v, a1, a2, a3, a4⟩ := e_X7_torn ht H
  refine ⟨m1, v, a1, a2, a3, fun r2 h2 H2 => ?_⟩
  obtain ⟨m2, v2, b1, b2, b3, b4⟩ := e_X8_torn a3 H2
  exact ⟨m2, v2, b1, b2, b3, RP_f (RP_f hR a4 (by decide +kernel)) b4 (by decide +kernel)⟩
theorem pp_count {m : zM} {r : Option Value} {h' : zHp} {x0 : Int32} (ht : zTy m) (hR : RP m) (H : zEv none 19 zm_X7_count (0, lv_args 0 [.ref 0, .int x0], [], zhp m) r h') : ∃ m1 v, r = some (.int v) ∧ h' = zhp m1 ∧ zTy m1 ∧ ∀ r2 h2, zEv none 19 zm_X8_count (0, lv_args 0 [.ref 71, .int x0], [], zhp m1) r2 h2 → ∃ m2 v2, r2 = some (.int v2) ∧ h2 = zhp m2 ∧ zTy m2 ∧ RP m2 := by
  obtain ⟨m1, v, a1, a2, a3, a4⟩ := e_X7_count ht H
  refine ⟨m1, v, a1, a2, a3, fun r2 h2 H2 => ?_⟩
  obtain ⟨m2, v2, b1, b2, b3, b4⟩ := e_X8_count a3 H2
  exact ⟨m2, v2, b1, b2, b3, RP_f (RP_f hR a4 (by decide +kernel)) b4 (by decide +kernel)⟩
theorem pp_feed {m : zM} {r : Option Value} {h' : zHp} {x0 : Int32} (ht : zTy m) (hR : RP m) (H : zEv none 19 zm_X7_feed (0, lv_args 0 [.ref 0, .int x0], [], zhp m) r h') : ∃ m1 v, r = some (.int v) ∧ h' = zhp m1 ∧ zTy m1 ∧ ∀ r2 h2, zEv none 19 zm_X8_feed (0, lv_args 0 [.ref 71, .int x0], [], zhp m1) r2 h2 → ∃ m2 v2, r2 = some (.int v2) ∧ h2 = zhp m2 ∧ zTy m2 ∧ RP m2 := by
  obtain ⟨⟨n, a1, a2, a3, a4⟩, a5⟩ := hR
  obtain ⟨m1, ⟨v, b1⟩, b2, b3⟩ := t_X7_feed a1 a3 (zE_of 0 rfl H)
  obtain ⟨q1, q2, q3, q4, q5, q6⟩ := e_X7_feed ht H
  obtain ⟨t1, f1⟩ := eng_m b2 q4 q5 q6
  refine ⟨m1, v, b1, b2, t1, fun r2 h2 H2 => ?_⟩
  have a2' : m1 71 8 = Int32.ofNat n := (f1 71 8 ⟨_, LY_71, rfl⟩ (by decide +kernel)).trans a2
  obtain ⟨m2, ⟨v2, c1⟩, c2, c3⟩ := t_X8_feed a2' a3 (zE_of 0 rfl H2)
  obtain ⟨s1, s2, s3, s4, s5, s6⟩ := e_X8_feed t1 H2
  obtain ⟨t2, f2⟩ := eng_m c2 s4 s5 s6
  refine ⟨m2, v2, c1, c2, t2, ?_⟩
  have g14 : m2 1 4 = m2 71 9 := by
    rw [f2 1 4 ⟨_, LY_1, rfl⟩ (by decide +kernel), f1 1 4 ⟨_, LY_1, rfl⟩ (by decide +kernel), f2 71 9 ⟨_, LY_71, rfl⟩ (by decide +kernel), f1 71 9 ⟨_, LY_71, rfl⟩ (by decide +kernel)]
    exact a5
  rcases b3 with ⟨o1, rfl⟩ | ⟨o1, rfl⟩
  · rcases c3 with ⟨_, rfl⟩ | ⟨o2, _⟩
    · exact ⟨⟨n, a1, a2, a3, a4⟩, g14⟩
    · exact absurd o2 o1
  · rcases c3 with ⟨o2, _⟩ | ⟨_, rfl⟩
    · exact absurd o1 o2
    · refine ⟨⟨n + 1, ?_, ?_, by have := o1.2.2; omega, fun i hi => ?_⟩, g14⟩
      · rw [zup_n (by omega), zup_n (by omega), zup_s]
      · rw [zup_s]
      · by_cases hin : i = n
        · subst hin
          rw [zup_n (by omega), zup_n (by omega), zup_n (by omega), zup_s, zup_n (by omega), zup_s]
        · rw [zup_n (by omega), zup_n (by omega), zup_n (by omega), zup_n (by omega), zup_n (by omega), zup_n (by omega), zup_n (by omega), zup_n (by omega)]
          exact a4 i (by omega)
theorem pp_end {m : zM} {r : Option Value} {h' : zHp} {x0 : Int32} (ht : zTy m) (hR : RP m) (H : zEv none 19 zm_X7_end (0, lv_args 0 [.ref 0, .int x0], [], zhp m) r h') : ∃ m1 v, r = some (.int v) ∧ h' = zhp m1 ∧ zTy m1 ∧ ∀ r2 h2, zEv none 19 zm_X8_end (0, lv_args 0 [.ref 71, .int x0], [], zhp m1) r2 h2 → ∃ m2 v2, r2 = some (.int v2) ∧ h2 = zhp m2 ∧ zTy m2 ∧ RP m2 := by
  obtain ⟨⟨n, a1, a2, a3, a4⟩, a5⟩ := hR
  obtain ⟨m1, ⟨v, b1⟩, b2, b3⟩ := t_X7_end a1 a3 (zE_of 1 rfl H)
  obtain ⟨q1, q2, q3, q4, q5, q6⟩ := e_X7_end ht H
  obtain ⟨t1, f1⟩ := eng_m b2 q4 q5 q6
  refine ⟨m1, v, b1, b2, t1, fun r2 h2 H2 => ?_⟩
  have a2' : m1 71 8 = Int32.ofNat n := (f1 71 8 ⟨_, LY_71, rfl⟩ (by decide +kernel)).trans a2
  obtain ⟨m2, ⟨v2, c1⟩, c2, c3⟩ := t_X8_end a2' a3 (zE_of 1 rfl H2)
  obtain ⟨s1, s2, s3, s4, s5, s6⟩ := e_X8_end t1 H2
  obtain ⟨t2, f2⟩ := eng_m c2 s4 s5 s6
  refine ⟨m2, v2, c1, c2, t2, ?_⟩
  have g14 : m2 1 4 = m2 71 9 := by
    rw [f2 1 4 ⟨_, LY_1, rfl⟩ (by decide +kernel), f1 1 4 ⟨_, LY_1, rfl⟩ (by decide +kernel), f2 71 9 ⟨_, LY_71, rfl⟩ (by decide +kernel), f1 71 9 ⟨_, LY_71, rfl⟩ (by decide +kernel)]
    exact a5
  rcases b3 with ⟨o1, rfl⟩ | ⟨o1, rfl⟩
  · rcases c3 with ⟨_, rfl⟩ | ⟨o2, _⟩
    · exact ⟨⟨n, a1, a2, a3, a4⟩, g14⟩
    · exact absurd o2 o1
  · rcases c3 with ⟨o2, _⟩ | ⟨_, rfl⟩
    · exact absurd o1 o2
    · obtain ⟨k, k1, rfl⟩ := zEo_n o1 a3
      refine ⟨⟨k, ?_, ?_, by omega, fun i hi => ?_⟩, g14⟩
      · rw [zup_n (by omega), zup_s]
      · rw [zup_s]
      · rw [zup_n (by omega), zup_n (by omega), zup_n (by omega), zup_n (by omega)]
        exact a4 i (by omega)
theorem pp_fault {m : zM} {r : Option Value} {h' : zHp} (ht : zTy m) (hR : RP m) (H : zEv none 19 zm_X7_fault (0, lv_args 0 [.ref 0], [], zhp m) r h') : ∃ m1 v, r = some (.int v) ∧ h' = zhp m1 ∧ zTy m1 ∧ ∀ r2 h2, zEv none 19 zm_X8_fault (0, lv_args 0 [.ref 71], [], zhp m1) r2 h2 → ∃ m2 v2, r2 = some (.int v2) ∧ h2 = zhp m2 ∧ zTy m2 ∧ RP m2 ∧ v = v2 := by
  obtain ⟨b1, b2⟩ := t_X7_fault (zE_of 0 rfl H)
  refine ⟨m, _, b1, b2, ht, fun r2 h2 H2 => ?_⟩
  obtain ⟨c1, c2⟩ := t_X8_fault (zE_of 0 rfl H2)
  exact ⟨m, _, c1, c2, ht, hR, hR.2⟩
theorem tx_pair {m : zM} {r : Option Value} {h' : zHp} {n : Nat} (ht : zTy m) (hR : RT m n) (H : zEv none 19 zm_X7_text (0, lv_args 0 [.ref 0], [], zhp m) r h') : ∃ m1, h' = zhp m1 ∧ zTy m1 ∧ zfm qs21.2.2.1 m m1 ∧ m1 1 2 = 0 ∧ cT m m1 r (pTx (m 2) n 161 zP0 0 0) ∧ ∀ r2 h2, zEv none 19 zm_X8_text (0, lv_args 0 [.ref 71], [], zhp m1) r2 h2 → ∃ m2, h2 = zhp m2 ∧ zTy m2 ∧ zfm qs127.2.2.1 m1 m2 ∧ m2 71 8 = 0 ∧ rT m1 m2 r2 (pTx (m 2) n 161 zP0 0 0) := by
  obtain ⟨a1, a2, a3, a4⟩ := hR
  obtain ⟨m1, b1, b2, b3⟩ := t_X7_text a1 a3 (zE_of 2 rfl H)
  obtain ⟨q1, q2, q3, q4, q5, q6⟩ := e_X7_text ht H
  obtain ⟨t1, f1⟩ := eng_m b1 q4 q5 q6
  refine ⟨m1, b1, t1, f1, b2, b3, fun r2 h2 H2 => ?_⟩
  have hE : rE m1 n := ⟨(f1 71 8 ⟨_, LY_71, rfl⟩ (by decide +kernel)).trans a2, a3, fun i hi => zTy_by t1 (by omega), zTy_tab t1⟩
  obtain ⟨m2, c1, c2, c3⟩ := t_X8_text hE (zE_of 2 rfl H2)
  obtain ⟨s1, s2, s3, s4, s5, s6⟩ := e_X8_text t1 H2
  obtain ⟨t2, f2⟩ := eng_m c1 s4 s5 s6
  refine ⟨m2, c1, t2, f2, c2, ?_⟩
  rw [pTx_g (t := m1 75) (u := m 2) (fun i hi => by rw [f1 75 i (zpl_r LY_75 (by omega)) (ymd_c (by decide +kernel) i)]; exact (a4 i hi).symm) 161 zP0 0 0 (by omega)] at c3
  exact c3
theorem pp_text {m : zM} {r : Option Value} {h' : zHp} (ht : zTy m) (hR : RP m) (H : zEv none 19 zm_X7_text (0, lv_args 0 [.ref 0], [], zhp m) r h') : ∃ m1 v, r = some (.int v) ∧ h' = zhp m1 ∧ zTy m1 ∧ ∀ r2 h2, zEv none 19 zm_X8_text (0, lv_args 0 [.ref 71], [], zhp m1) r2 h2 → ∃ m2 v2, r2 = some (.int v2) ∧ h2 = zhp m2 ∧ zTy m2 ∧ RP m2 ∧ v = v2 := by
  obtain ⟨⟨n, hT⟩, a5⟩ := hR
  obtain ⟨m1, b1, t1, f1, b2, b3, K⟩ := tx_pair ht hT H
  cases hx : pTx (m 2) n 161 zP0 0 0 with
  | inl f =>
    rw [hx] at b3
    refine ⟨m1, _, b3.1, b1, t1, fun r2 h2 H2 => ?_⟩
    obtain ⟨m2, c1, t2, f2, c2, c3⟩ := K r2 h2 H2
    rw [hx] at c3
    refine ⟨m2, _, c3.1, c1, t2, ⟨⟨0, ?_, c2, by omega, fun i hi => by omega⟩, ?_⟩, rfl⟩
    · rw [f2 1 2 ⟨_, LY_1, rfl⟩ (by decide +kernel)]; exact b2
    · rw [f2 1 4 ⟨_, LY_1, rfl⟩ (by decide +kernel), b3.2.1, c3.2.1]
  | inr q =>
    rw [hx] at b3
    refine ⟨m1, _, b3.1, b1, t1, fun r2 h2 H2 => ?_⟩
    obtain ⟨m2, c1, t2, f2, c2, c3⟩ := K r2 h2 H2
    rw [hx] at c3
    refine ⟨m2, _, c3.1, c1, t2, ⟨⟨0, ?_, c2, by omega, fun i hi => by omega⟩, ?_⟩, rfl⟩
    · rw [f2 1 2 ⟨_, LY_1, rfl⟩ (by decide +kernel)]; exact b2
    · rw [f2 1 4 ⟨_, LY_1, rfl⟩ (by decide +kernel), b3.2.1, c3.2.1]
