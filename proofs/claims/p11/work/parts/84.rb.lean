/-! the relation RB -/

/-! which places a relation speaks of -/
def zplb (k i : Nat) : Bool := match zLY[k]? with
  | some c => (match c.2[i]? with
    | some none => true
    | _ => false)
  | none => false
theorem zplb_ok {k i : Nat} (h : zplb k i = true) : zpl1 k i := by
  unfold zplb at h
  split at h
  · rename_i c hc
    split at h
    · rename_i hi
      exact ⟨c, hc, hi⟩
    · cases h
  · cases h
def zqp (q : Nat → Nat → Bool) : Bool := (List.range 86).all (fun k => (List.range 170).all (fun i => !(q k i) || zplb k i))
def zqm (q : Nat → Nat → Bool) (md : yMd) : Bool := md.all (fun e => (List.range 170).all (fun i => !(Nat.ble e.2.1 i && Nat.ble i e.2.2) || !(q e.1 i)))
theorem zqm_ok {q : Nat → Nat → Bool} {k i : Nat} (hi : i < 170) (hq : q k i = true) : ∀ {md : yMd}, zqm q md = true → ymd md k i = false
  | [], _ => rfl
  | (a, b, c) :: r, h => by
    simp only [zqm, List.all_cons, Bool.and_eq_true] at h
    have h1 := List.all_eq_true.mp h.1 i (List.mem_range.mpr hi)
    simp only [ymd]
    have h2 : (Nat.beq a k && Nat.ble b i && Nat.ble i c) = false := by
      cases hb : Nat.beq a k with
      | false => rfl
      | true =>
        have e := Nat.eq_of_beq_eq_true hb
        subst e
        rw [hq] at h1
        have h5 : (!(Nat.ble b i && Nat.ble i c) || !true) = true := h1
        cases h4 : (Nat.ble b i && Nat.ble i c) with
        | false => rw [Bool.true_and]; exact h4
        | true => rw [h4] at h5; exact absurd h5 (by decide)
    rw [h2]
    exact zqm_ok hi hq h.2
/-- nothing that q speaks of has changed -/
def zqe (q : Nat → Nat → Bool) (m m1 : zM) : Prop := ∀ k i, Nat.blt k 86 = true → Nat.blt i 170 = true → q k i = true → m1 k i = m k i
theorem zq_f {q : Nat → Nat → Bool} {md : yMd} {m m1 : zM} (hp : zqp q = true) (hm : zqm q md = true) (hf : zfm md m m1) : zqe q m m1 := by
  intro k i hk hi hq
  rw [Nat.blt_eq] at hk hi
  have h1 := List.all_eq_true.mp (List.all_eq_true.mp hp k (List.mem_range.mpr hk)) i (List.mem_range.mpr hi)
  rw [hq] at h1
  exact hf k i (zplb_ok (by simpa using h1)) (zqm_ok hi hq hm)
theorem zqe_t {q : Nat → Nat → Bool} {m m1 m2 : zM} (h1 : zqe q m m1) (h2 : zqe q m1 m2) : zqe q m m2 := fun k i a b c => (h2 k i a b c).trans (h1 k i a b c)
/-- slack and plan of a lock, of a page -/
def PV (m : zM) (k pg : Nat) : Prop := m k 4 = m 72 (pg + 16) + 1 ∧ ∃ a, a ≤ 8 ∧ m k 3 = Int32.ofNat a ∧ m 72 (pg + 26) = Int32.ofNat a ∧ ∀ i, i < a → m (k + 2) i = m 72 (pg + 18 + i)
def RB (m : zM) : Prop := (∃ n, RT m n) ∧ (∃ c, c ≤ 5 ∧ m 11 2 = Int32.ofNat c ∧ m 71 2 = Int32.ofNat c ∧ ∀ k, k < 2 → ¬ m 45 k = 0 → m (47 + 8 * k) 2 = Int32.ofNat c) ∧ PV m 11 0 ∧ (∃ s, s ≤ 6 ∧ m 40 3 = Int32.ofNat s ∧ m 71 23 = Int32.ofNat s) ∧ (∀ k, k < 2 → m 45 k = m 82 k) ∧ ∀ k, k < 2 → ¬ m 45 k = 0 → PV m (47 + 8 * k) (27 * (k + 1))
def qpv (k i lock pg : Nat) : Bool := (Nat.beq k lock && Nat.ble 2 i && Nat.ble i 4) || (Nat.beq k (lock + 2) && Nat.blt i 8) || (Nat.beq k 72 && (Nat.beq i (pg + 16) || (Nat.ble (pg + 18) i && Nat.ble i (pg + 26))))
/-- the tape's places -/
def qT (k i : Nat) : Bool := (Nat.beq k 1 && Nat.beq i 2) || (Nat.beq k 71 && Nat.beq i 8) || (Nat.beq k 2 && Nat.blt i 160) || (Nat.beq k 75 && Nat.blt i 160)
def qB (k i : Nat) : Bool := qT k i || (Nat.beq k 71 && (Nat.beq i 2 || Nat.beq i 23)) || (Nat.beq k 40 && Nat.beq i 3) || (Nat.beq k 45 && Nat.blt i 2) || (Nat.beq k 82 && Nat.blt i 2) || qpv k i 11 0 || qpv k i 47 27 || qpv k i 55 54
theorem qB_p : zqp qB = true := by decide +kernel
theorem q_2 : ∀ i, i < 160 → qT 2 i = true ∧ qT 75 i = true := by decide
theorem RT_e {m m1 : zM} {n : Nat} (h : RT m n) (he : zqe qT m m1) : RT m1 n := by
  obtain ⟨a1, a2, a3, a4⟩ := h
  refine ⟨(he 1 2 rfl rfl rfl).trans a1, (he 71 8 rfl rfl rfl).trans a2, a3, fun i hi => ?_⟩
  have hb : Nat.blt i 170 = true := by rw [Nat.blt_eq]; omega
  rw [he 2 i rfl hb (q_2 i (by omega)).1, he 75 i rfl hb (q_2 i (by omega)).2]
  exact a4 i hi
theorem qT_B {k i : Nat} (h : qT k i = true) : qB k i = true := by simp [qB, h]
theorem q_pv : ∀ i, i < 8 → (qpv 13 i 11 0 = true ∧ qpv 72 (0 + 18 + i) 11 0 = true) ∧ (qpv 49 i 47 27 = true ∧ qpv 72 (27 + 18 + i) 47 27 = true) ∧ (qpv 57 i 55 54 = true ∧ qpv 72 (54 + 18 + i) 55 54 = true) := by decide
theorem PV_e {m m1 : zM} {k pg : Nat} (hk : (k = 11 ∧ pg = 0) ∨ (k = 47 ∧ pg = 27) ∨ (k = 55 ∧ pg = 54)) (h : PV m k pg) (he : zqe (fun a b => qpv a b k pg) m m1) : PV m1 k pg := by
  obtain ⟨a1, a, a2, a3, a4, a5⟩ := h
  rcases hk with ⟨rfl, rfl⟩ | ⟨rfl, rfl⟩ | ⟨rfl, rfl⟩
  · refine ⟨by rw [he 11 4 rfl rfl rfl, he 72 (0 + 16) rfl rfl rfl]; exact a1, a, a2, (he 11 3 rfl rfl rfl).trans a3, (he 72 (0 + 26) rfl rfl rfl).trans a4, fun i hi => ?_⟩
    have hb : Nat.blt i 170 = true := by rw [Nat.blt_eq]; omega
    have hb2 : Nat.blt (0 + 18 + i) 170 = true := by rw [Nat.blt_eq]; omega
    rw [he 13 i rfl hb (q_pv i (by omega)).1.1, he 72 _ rfl hb2 (q_pv i (by omega)).1.2]
    exact a5 i hi
  · refine ⟨by rw [he 47 4 rfl rfl rfl, he 72 (27 + 16) rfl rfl rfl]; exact a1, a, a2, (he 47 3 rfl rfl rfl).trans a3, (he 72 (27 + 26) rfl rfl rfl).trans a4, fun i hi => ?_⟩
    have hb : Nat.blt i 170 = true := by rw [Nat.blt_eq]; omega
    have hb2 : Nat.blt (27 + 18 + i) 170 = true := by rw [Nat.blt_eq]; omega
    rw [he 49 i rfl hb (q_pv i (by omega)).2.1.1, he 72 _ rfl hb2 (q_pv i (by omega)).2.1.2]
    exact a5 i hi
  · refine ⟨by rw [he 55 4 rfl rfl rfl, he 72 (54 + 16) rfl rfl rfl]; exact a1, a, a2, (he 55 3 rfl rfl rfl).trans a3, (he 72 (54 + 26) rfl rfl rfl).trans a4, fun i hi => ?_⟩
    have hb : Nat.blt i 170 = true := by rw [Nat.blt_eq]; omega
    have hb2 : Nat.blt (54 + 18 + i) 170 = true := by rw [Nat.blt_eq]; omega
    rw [he 57 i rfl hb (q_pv i (by omega)).2.2.1, he 72 _ rfl hb2 (q_pv i (by omega)).2.2.2]
    exact a5 i hi
theorem zk2 {k : Nat} (h : k < 2) : k = 0 ∨ k = 1 := by omega
theorem RB_e {m m1 : zM} (h : RB m) (he : zqe qB m m1) : RB m1 := by
  obtain ⟨⟨n, h1⟩, ⟨c, c1, c2, c3, c4⟩, h3, ⟨s, s1, s2, s3⟩, h5, h6⟩ := h
  have e45 : ∀ k, k < 2 → m1 45 k = m 45 k := fun k hk => by
    rcases zk2 hk with rfl | rfl
    · exact he 45 0 rfl rfl rfl
    · exact he 45 1 rfl rfl rfl
  refine ⟨⟨n, RT_e h1 (fun k i a b q => he k i a b (qT_B q))⟩, ⟨c, c1, (he 11 2 rfl rfl rfl).trans c2, (he 71 2 rfl rfl rfl).trans c3, fun k hk hn => ?_⟩, PV_e (Or.inl ⟨rfl, rfl⟩) h3 (fun k i a b q => he k i a b (by simp [qB, q])), ⟨s, s1, (he 40 3 rfl rfl rfl).trans s2, (he 71 23 rfl rfl rfl).trans s3⟩, fun k hk => ?_, fun k hk hn => ?_⟩
  · rw [e45 k hk] at hn
    rcases zk2 hk with rfl | rfl
    · exact (he 47 2 rfl rfl rfl).trans (c4 0 hk hn)
    · exact (he 55 2 rfl rfl rfl).trans (c4 1 hk hn)
  · rw [e45 k hk, h5 k hk]
    rcases zk2 hk with rfl | rfl
    · exact (he 82 0 rfl rfl rfl).symm
    · exact (he 82 1 rfl rfl rfl).symm
  · rw [e45 k hk] at hn
    rcases zk2 hk with rfl | rfl
    · exact PV_e (Or.inr (Or.inl ⟨rfl, rfl⟩)) (h6 0 hk hn) (fun k i a b q => he k i a b (by simp [qB, q]))
    · exact PV_e (Or.inr (Or.inr ⟨rfl, rfl⟩)) (h6 1 hk hn) (fun k i a b q => he k i a b (by simp [qB, q]))
theorem RB_f {md : yMd} {m m1 : zM} (h : RB m) (hf : zfm md m m1) (hc : zqm qB md = true) : RB m1 := RB_e h (zq_f qB_p hc hf)
theorem pb_fault {m : zM} {r : Option Value} {h' : zHp} (ht : zTy m) (hR : RB m) (H : zEv none 19 zm_X7_fault (0, lv_args 0 [.ref 0], [], zhp m) r h') : ∃ m1 v, r = some (.int v) ∧ h' = zhp m1 ∧ zTy m1 ∧ ∀ r2 h2, zEv none 19 zm_X8_fault (0, lv_args 0 [.ref 71], [], zhp m1) r2 h2 → ∃ m2 v2, r2 = some (.int v2) ∧ h2 = zhp m2 ∧ zTy m2 ∧ RB m2 := by
  obtain ⟨m1, v, a1, a2, a3, a4⟩ := e_X7_fault ht H
  refine ⟨m1, v, a1, a2, a3, fun r2 h2 H2 => ?_⟩
  obtain ⟨m2, v2, b1, b2, b3, b4⟩ := e_X8_fault a3 H2
  exact ⟨m2, v2, b1, b2, b3, RB_f (RB_f hR a4 (by decide +kernel)) b4 (by decide +kernel)⟩
theorem pb_rule {m : zM} {r : Option Value} {h' : zHp} {x0 : Int32} (ht : zTy m) (hR : RB m) (H : zEv none 19 zm_X7_rule (0, lv_args 0 [.ref 0, .int x0], [], zhp m) r h') : ∃ m1 v, r = some (.int v) ∧ h' = zhp m1 ∧ zTy m1 ∧ ∀ r2 h2, zEv none 19 zm_X8_rule (0, lv_args 0 [.ref 71, .int x0], [], zhp m1) r2 h2 → ∃ m2 v2, r2 = some (.int v2) ∧ h2 = zhp m2 ∧ zTy m2 ∧ RB m2 := by
  obtain ⟨m1, v, a1, a2, a3, a4⟩ := e_X7_rule ht H
  refine ⟨m1, v, a1, a2, a3, fun r2 h2 H2 => ?_⟩
  obtain ⟨m2, v2, b1, b2, b3, b4⟩ := e_X8_rule a3 H2
  exact ⟨m2, v2, b1, b2, b3, RB_f (RB_f hR a4 (by decide +kernel)) b4 (by decide +kernel)⟩
theorem pb_one {m : zM} {r : Option Value} {h' : zHp} {x0 x1 : Int32} (ht : zTy m) (hR : RB m) (H : zEv none 19 zm_X7_one (0, lv_args 0 [.ref 0, .int x0, .int x1], [], zhp m) r h') : ∃ m1 v, r = some (.int v) ∧ h' = zhp m1 ∧ zTy m1 ∧ ∀ r2 h2, zEv none 19 zm_X8_one (0, lv_args 0 [.ref 71, .int x0, .int x1], [], zhp m1) r2 h2 → ∃ m2 v2, r2 = some (.int v2) ∧ h2 = zhp m2 ∧ zTy m2 ∧ RB m2 := by
  obtain ⟨m1, v, a1, a2, a3, a4⟩ := e_X7_one ht H
  refine ⟨m1, v, a1, a2, a3, fun r2 h2 H2 => ?_⟩
  obtain ⟨m2, v2, b1, b2, b3, b4⟩ := e_X8_one a3 H2
  exact ⟨m2, v2, b1, b2, b3, RB_f (RB_f hR a4 (by decide +kernel)) b4 (by decide +kernel)⟩
theorem pb_alter {m : zM} {r : Option Value} {h' : zHp} {x0 x1 x2 : Int32} (ht : zTy m) (hR : RB m) (H : zEv none 19 zm_X7_alter (0, lv_args 0 [.ref 0, .int x0, .int x1, .int x2], [], zhp m) r h') : ∃ m1 v, r = some (.int v) ∧ h' = zhp m1 ∧ zTy m1 ∧ ∀ r2 h2, zEv none 19 zm_X8_alter (0, lv_args 0 [.ref 71, .int x0, .int x1, .int x2], [], zhp m1) r2 h2 → ∃ m2 v2, r2 = some (.int v2) ∧ h2 = zhp m2 ∧ zTy m2 ∧ RB m2 := by
  obtain ⟨m1, v, a1, a2, a3, a4⟩ := e_X7_alter ht H
  refine ⟨m1, v, a1, a2, a3, fun r2 h2 H2 => ?_⟩
  obtain ⟨m2, v2, b1, b2, b3, b4⟩ := e_X8_alter a3 H2
  exact ⟨m2, v2, b1, b2, b3, RB_f (RB_f hR a4 (by decide +kernel)) b4 (by decide +kernel)⟩
theorem pb_turn {m : zM} {r : Option Value} {h' : zHp} {x0 : Int32} (ht : zTy m) (hR : RB m) (H : zEv none 19 zm_X7_turn (0, lv_args 0 [.ref 0, .int x0], [], zhp m) r h') : ∃ m1 v, r = some (.int v) ∧ h' = zhp m1 ∧ zTy m1 ∧ ∀ r2 h2, zEv none 19 zm_X8_turn (0, lv_args 0 [.ref 71, .int x0], [], zhp m1) r2 h2 → ∃ m2 v2, r2 = some (.int v2) ∧ h2 = zhp m2 ∧ zTy m2 ∧ RB m2 := by
  obtain ⟨m1, v, a1, a2, a3, a4⟩ := e_X7_turn ht H
  refine ⟨m1, v, a1, a2, a3, fun r2 h2 H2 => ?_⟩
  obtain ⟨m2, v2, b1, b2, b3, b4⟩ := e_X8_turn a3 H2
  exact ⟨m2, v2, b1, b2, b3, RB_f (RB_f hR a4 (by decide +kernel)) b4 (by decide +kernel)⟩
theorem pb_rest {m : zM} {r : Option Value} {h' : zHp} {x0 : Int32} (ht : zTy m) (hR : RB m) (H : zEv none 19 zm_X7_rest (0, lv_args 0 [.ref 0, .int x0], [], zhp m) r h') : ∃ m1 v, r = some (.int v) ∧ h' = zhp m1 ∧ zTy m1 ∧ ∀ r2 h2, zEv none 19 zm_X8_rest (0, lv_args 0 [.ref 71, .int x0], [], zhp m1) r2 h2 → ∃ m2 v2, r2 = some (.int v2) ∧ h2 = zhp m2 ∧ zTy m2 ∧ RB m2 := by
  obtain ⟨m1, v, a1, a2, a3, a4⟩ := e_X7_rest ht H
  refine ⟨m1, v, a1, a2, a3, fun r2 h2 H2 => ?_⟩
  obtain ⟨m2, v2, b1, b2, b3, b4⟩ := e_X8_rest a3 H2
  exact ⟨m2, v2, b1, b2, b3, RB_f (RB_f hR a4 (by decide +kernel)) b4 (by decide +kernel)⟩
theorem pb_runs {m : zM} {r : Option Value} {h' : zHp} {x0 : Int32} (ht : zTy m) (hR : RB m) (H : zEv none 19 zm_X7_runs (0, lv_args 0 [.ref 0, .int x0], [], zhp m) r h') : ∃ m1 v, r = some (.int v) ∧ h' = zhp m1 ∧ zTy m1 ∧ ∀ r2 h2, zEv none 19 zm_X8_runs (0, lv_args 0 [.ref 71, .int x0], [], zhp m1) r2 h2 → ∃ m2 v2, r2 = some (.int v2) ∧ h2 = zhp m2 ∧ zTy m2 ∧ RB m2 := by
  obtain ⟨m1, v, a1, a2, a3, a4⟩ := e_X7_runs ht H
  refine ⟨m1, v, a1, a2, a3, fun r2 h2 H2 => ?_⟩
  obtain ⟨m2, v2, b1, b2, b3, b4⟩ := e_X8_runs a3 H2
  exact ⟨m2, v2, b1, b2, b3, RB_f (RB_f hR a4 (by decide +kernel)) b4 (by decide +kernel)⟩
theorem pb_ahead {m : zM} {r : Option Value} {h' : zHp} {x0 : Int32} (ht : zTy m) (hR : RB m) (H : zEv none 19 zm_X7_ahead (0, lv_args 0 [.ref 0, .int x0], [], zhp m) r h') : ∃ m1 v, r = some (.int v) ∧ h' = zhp m1 ∧ zTy m1 ∧ ∀ r2 h2, zEv none 19 zm_X8_ahead (0, lv_args 0 [.ref 71, .int x0], [], zhp m1) r2 h2 → ∃ m2 v2, r2 = some (.int v2) ∧ h2 = zhp m2 ∧ zTy m2 ∧ RB m2 := by
  obtain ⟨m1, v, a1, a2, a3, a4⟩ := e_X7_ahead ht H
  refine ⟨m1, v, a1, a2, a3, fun r2 h2 H2 => ?_⟩
  obtain ⟨m2, v2, b1, b2, b3, b4⟩ := e_X8_ahead a3 H2
  exact ⟨m2, v2, b1, b2, b3, RB_f (RB_f hR a4 (by decide +kernel)) b4 (by decide +kernel)⟩
theorem pb_round {m : zM} {r : Option Value} {h' : zHp} (ht : zTy m) (hR : RB m) (H : zEv none 19 zm_X7_round (0, lv_args 0 [.ref 0], [], zhp m) r h') : ∃ m1 v, r = some (.int v) ∧ h' = zhp m1 ∧ zTy m1 ∧ ∀ r2 h2, zEv none 19 zm_X8_round (0, lv_args 0 [.ref 71], [], zhp m1) r2 h2 → ∃ m2 v2, r2 = some (.int v2) ∧ h2 = zhp m2 ∧ zTy m2 ∧ RB m2 := by
  obtain ⟨m1, v, a1, a2, a3, a4⟩ := e_X7_round ht H
  refine ⟨m1, v, a1, a2, a3, fun r2 h2 H2 => ?_⟩
  obtain ⟨m2, v2, b1, b2, b3, b4⟩ := e_X8_round a3 H2
  exact ⟨m2, v2, b1, b2, b3, RB_f (RB_f hR a4 (by decide +kernel)) b4 (by decide +kernel)⟩
theorem pb_order {m : zM} {r : Option Value} {h' : zHp} {x0 x1 : Int32} (ht : zTy m) (hR : RB m) (H : zEv none 19 zm_X7_order (0, lv_args 0 [.ref 0, .int x0, .int x1], [], zhp m) r h') : ∃ m1 v, r = some (.int v) ∧ h' = zhp m1 ∧ zTy m1 ∧ ∀ r2 h2, zEv none 19 zm_X8_order (0, lv_args 0 [.ref 71, .int x0, .int x1], [], zhp m1) r2 h2 → ∃ m2 v2, r2 = some (.int v2) ∧ h2 = zhp m2 ∧ zTy m2 ∧ RB m2 := by
  obtain ⟨m1, v, a1, a2, a3, a4⟩ := e_X7_order ht H
  refine ⟨m1, v, a1, a2, a3, fun r2 h2 H2 => ?_⟩
  obtain ⟨m2, v2, b1, b2, b3, b4⟩ := e_X8_order a3 H2
  exact ⟨m2, v2, b1, b2, b3, RB_f (RB_f hR a4 (by decide +kernel)) b4 (by decide +kernel)⟩
theorem pb_await {m : zM} {r : Option Value} {h' : zHp} {x0 x1 : Int32} (ht : zTy m) (hR : RB m) (H : zEv none 19 zm_X7_await (0, lv_args 0 [.ref 0, .int x0, .int x1], [], zhp m) r h') : ∃ m1 v, r = some (.int v) ∧ h' = zhp m1 ∧ zTy m1 ∧ ∀ r2 h2, zEv none 19 zm_X8_await (0, lv_args 0 [.ref 71, .int x0, .int x1], [], zhp m1) r2 h2 → ∃ m2 v2, r2 = some (.int v2) ∧ h2 = zhp m2 ∧ zTy m2 ∧ RB m2 := by
  obtain ⟨m1, v, a1, a2, a3, a4⟩ := e_X7_await ht H
  refine ⟨m1, v, a1, a2, a3, fun r2 h2 H2 => ?_⟩
  obtain ⟨m2, v2, b1, b2, b3, b4⟩ := e_X8_await a3 H2
  exact ⟨m2, v2, b1, b2, b3, RB_f (RB_f hR a4 (by decide +kernel)) b4 (by decide +kernel)⟩
theorem pb_hands {m : zM} {r : Option Value} {h' : zHp} {x0 : Int32} (ht : zTy m) (hR : RB m) (H : zEv none 19 zm_X7_hands (0, lv_args 0 [.ref 0, .int x0], [], zhp m) r h') : ∃ m1 v, r = some (.int v) ∧ h' = zhp m1 ∧ zTy m1 ∧ ∀ r2 h2, zEv none 19 zm_X8_hands (0, lv_args 0 [.ref 71, .int x0], [], zhp m1) r2 h2 → ∃ m2 v2, r2 = some (.int v2) ∧ h2 = zhp m2 ∧ zTy m2 ∧ RB m2 := by
  obtain ⟨m1, v, a1, a2, a3, a4⟩ := e_X7_hands ht H
  refine ⟨m1, v, a1, a2, a3, fun r2 h2 H2 => ?_⟩
  obtain ⟨m2, v2, b1, b2, b3, b4⟩ := e_X8_hands a3 H2
  exact ⟨m2, v2, b1, b2, b3, RB_f (RB_f hR a4 (by decide +kernel)) b4 (by decide +kernel)⟩
theorem pb_clean {m : zM} {r : Option Value} {h' : zHp} {x0 : Int32} (ht : zTy m) (hR : RB m) (H : zEv none 19 zm_X7_clean (0, lv_args 0 [.ref 0, .int x0], [], zhp m) r h') : ∃ m1 v, r = some (.int v) ∧ h' = zhp m1 ∧ zTy m1 ∧ ∀ r2 h2, zEv none 19 zm_X8_clean (0, lv_args 0 [.ref 71, .int x0], [], zhp m1) r2 h2 → ∃ m2 v2, r2 = some (.int v2) ∧ h2 = zhp m2 ∧ zTy m2 ∧ RB m2 := by
  obtain ⟨m1, v, a1, a2, a3, a4⟩ := e_X7_clean ht H
  refine ⟨m1, v, a1, a2, a3, fun r2 h2 H2 => ?_⟩
  obtain ⟨m2, v2, b1, b2, b3, b4⟩ := e_X8_clean a3 H2
  exact ⟨m2, v2, b1, b2, b3, RB_f (RB_f hR a4 (by decide +kernel)) b4 (by decide +kernel)⟩
theorem pb_trade {m : zM} {r : Option Value} {h' : zHp} {x0 : Int32} (ht : zTy m) (hR : RB m) (H : zEv none 19 zm_X7_trade (0, lv_args 0 [.ref 0, .int x0], [], zhp m) r h') : ∃ m1 v, r = some (.int v) ∧ h' = zhp m1 ∧ zTy m1 ∧ ∀ r2 h2, zEv none 19 zm_X8_trade (0, lv_args 0 [.ref 71, .int x0], [], zhp m1) r2 h2 → ∃ m2 v2, r2 = some (.int v2) ∧ h2 = zhp m2 ∧ zTy m2 ∧ RB m2 := by
  obtain ⟨m1, v, a1, a2, a3, a4⟩ := e_X7_trade ht H
  refine ⟨m1, v, a1, a2, a3, fun r2 h2 H2 => ?_⟩
  obtain ⟨m2, v2, b1, b2, b3, b4⟩ := e_X8_trade a3 H2
  exact ⟨m2, v2, b1, b2, b3, RB_f (RB_f hR a4 (by decide +kernel)) b4 (by decide +kernel)⟩
theorem pb_loose {m : zM} {r : Option Value} {h' : zHp} (ht : zTy m) (hR : RB m) (H : zEv none 19 zm_X7_loose (0, lv_args 0 [.ref 0], [], zhp m) r h') : ∃ m1 v, r = some (.int v) ∧ h' = zhp m1 ∧ zTy m1 ∧ ∀ r2 h2, zEv none 19 zm_X8_loose (0, lv_args 0 [.ref 71], [], zhp m1) r2 h2 → ∃ m2 v2, r2 = some (.int v2) ∧ h2 = zhp m2 ∧ zTy m2 ∧ RB m2 := by
  obtain ⟨m1, v, a1, a2, a3, a4⟩ := e_X7_loose ht H
  refine ⟨m1, v, a1, a2, a3, fun r2 h2 H2 => ?_⟩
  obtain ⟨m2, v2, b1, b2, b3, b4⟩ := e_X8_loose a3 H2
  exact ⟨m2, v2, b1, b2, b3, RB_f (RB_f hR a4 (by decide +kernel)) b4 (by decide +kernel)⟩
theorem pb_mean {m : zM} {r : Option Value} {h' : zHp} {x0 x1 : Int32} (ht : zTy m) (hR : RB m) (H : zEv none 19 zm_X7_mean (0, lv_args 0 [.ref 0, .int x0, .int x1], [], zhp m) r h') : ∃ m1 v, r = some (.long v) ∧ h' = zhp m1 ∧ zTy m1 ∧ ∀ r2 h2, zEv none 19 zm_X8_mean (0, lv_args 0 [.ref 71, .int x0, .int x1], [], zhp m1) r2 h2 → ∃ m2 v2, r2 = some (.long v2) ∧ h2 = zhp m2 ∧ zTy m2 ∧ RB m2 := by
  obtain ⟨m1, v, a1, a2, a3, a4⟩ := e_X7_mean ht H
  refine ⟨m1, v, a1, a2, a3, fun r2 h2 H2 => ?_⟩
  obtain ⟨m2, v2, b1, b2, b3, b4⟩ := e_X8_mean a3 H2
  exact ⟨m2, v2, b1, b2, b3, RB_f (RB_f hR a4 (by decide +kernel)) b4 (by decide +kernel)⟩
theorem pb_luck {m : zM} {r : Option Value} {h' : zHp} {x0 x1 x2 : Int32} (ht : zTy m) (hR : RB m) (H : zEv none 19 zm_X7_luck (0, lv_args 0 [.ref 0, .int x0, .int x1, .int x2], [], zhp m) r h') : ∃ m1 v, r = some (.long v) ∧ h' = zhp m1 ∧ zTy m1 ∧ ∀ r2 h2, zEv none 19 zm_X8_luck (0, lv_args 0 [.ref 71, .int x0, .int x1, .int x2], [], zhp m1) r2 h2 → ∃ m2 v2, r2 = some (.long v2) ∧ h2 = zhp m2 ∧ zTy m2 ∧ RB m2 := by
  obtain ⟨m1, v, a1, a2, a3, a4⟩ := e_X7_luck ht H
  refine ⟨m1, v, a1, a2, a3, fun r2 h2 H2 => ?_⟩
  obtain ⟨m2, v2, b1, b2, b3, b4⟩ := e_X8_luck a3 H2
  exact ⟨m2, v2, b1, b2, b3, RB_f (RB_f hR a4 (by decide +kernel)) b4 (by decide +kernel)⟩
theorem pb_counts {m : zM} {r : Option Value} {h' : zHp} {x0 x1 : Int32} (ht : zTy m) (hR : RB m) (H : zEv none 19 zm_X7_counts (0, lv_args 0 [.ref 0, .int x0, .int x1], [], zhp m) r h') : ∃ m1 v, r = some (.int v) ∧ h' = zhp m1 ∧ zTy m1 ∧ ∀ r2 h2, zEv none 19 zm_X8_counts (0, lv_args 0 [.ref 71, .int x0, .int x1], [], zhp m1) r2 h2 → ∃ m2 v2, r2 = some (.int v2) ∧ h2 = zhp m2 ∧ zTy m2 ∧ RB m2 := by
  obtain ⟨m1, v, a1, a2, a3, a4⟩ := e_X7_counts ht H
  refine ⟨m1, v, a1, a2, a3, fun r2 h2 H2 => ?_⟩
  obtain ⟨m2, v2, b1, b2, b3, b4⟩ := e_X8_counts a3 H2
  exact ⟨m2, v2, b1, b2, b3, RB_f (RB_f hR a4 (by decide +kernel)) b4 (by decide +kernel)⟩
theorem pb_slacks {m : zM} {r : Option Value} {h' : zHp} (ht : zTy m) (hR : RB m) (H : zEv none 19 zm_X7_slacks (0, lv_args 0 [.ref 0], [], zhp m) r h') : ∃ m1 v, r = some (.int v) ∧ h' = zhp m1 ∧ zTy m1 ∧ ∀ r2 h2, zEv none 19 zm_X8_slacks (0, lv_args 0 [.ref 71], [], zhp m1) r2 h2 → ∃ m2 v2, r2 = some (.int v2) ∧ h2 = zhp m2 ∧ zTy m2 ∧ RB m2 := by
  obtain ⟨m1, v, a1, a2, a3, a4⟩ := e_X7_slacks ht H
  refine ⟨m1, v, a1, a2, a3, fun r2 h2 H2 => ?_⟩
  obtain ⟨m2, v2, b1, b2, b3, b4⟩ := e_X8_slacks a3 H2
  exact ⟨m2, v2, b1, b2, b3, RB_f (RB_f hR a4 (by decide +kernel)) b4 (by decide +kernel)⟩
theorem pb_look {m : zM} {r : Option Value} {h' : zHp} {x0 x1 : Int32} (ht : zTy m) (hR : RB m) (H : zEv none 19 zm_X7_look (0, lv_args 0 [.ref 0, .int x0, .int x1], [], zhp m) r h') : ∃ m1 v, r = some (.int v) ∧ h' = zhp m1 ∧ zTy m1 ∧ ∀ r2 h2, zEv none 19 zm_X8_look (0, lv_args 0 [.ref 71, .int x0, .int x1], [], zhp m1) r2 h2 → ∃ m2 v2, r2 = some (.int v2) ∧ h2 = zhp m2 ∧ zTy m2 ∧ RB m2 := by
  obtain ⟨m1, v, a1, a2, a3, a4⟩ := e_X7_look ht H
  refine ⟨m1, v, a1, a2, a3, fun r2 h2 H2 => ?_⟩
  obtain ⟨m2, v2, b1, b2, b3, b4⟩ := e_X8_look a3 H2
  exact ⟨m2, v2, b1, b2, b3, RB_f (RB_f hR a4 (by decide +kernel)) b4 (by decide +kernel)⟩
theorem pb_drift {m : zM} {r : Option Value} {h' : zHp} {x0 x1 x2 : Int32} (ht : zTy m) (hR : RB m) (H : zEv none 19 zm_X7_drift (0, lv_args 0 [.ref 0, .int x0, .int x1, .int x2], [], zhp m) r h') : ∃ m1 v, r = some (.int v) ∧ h' = zhp m1 ∧ zTy m1 ∧ ∀ r2 h2, zEv none 19 zm_X8_drift (0, lv_args 0 [.ref 71, .int x0, .int x1, .int x2], [], zhp m1) r2 h2 → ∃ m2 v2, r2 = some (.int v2) ∧ h2 = zhp m2 ∧ zTy m2 ∧ RB m2 := by
  obtain ⟨m1, v, a1, a2, a3, a4⟩ := e_X7_drift ht H
  refine ⟨m1, v, a1, a2, a3, fun r2 h2 H2 => ?_⟩
  obtain ⟨m2, v2, b1, b2, b3, b4⟩ := e_X8_drift a3 H2
  exact ⟨m2, v2, b1, b2, b3, RB_f (RB_f hR a4 (by decide +kernel)) b4 (by decide +kernel)⟩
theorem pb_sheet {m : zM} {r : Option Value} {h' : zHp} {x0 x1 x2 : Int32} (ht : zTy m) (hR : RB m) (H : zEv none 19 zm_X7_sheet (0, lv_args 0 [.ref 0, .int x0, .int x1, .int x2], [], zhp m) r h') : ∃ m1 v, r = some (.int v) ∧ h' = zhp m1 ∧ zTy m1 ∧ ∀ r2 h2, zEv none 19 zm_X8_sheet (0, lv_args 0 [.ref 71, .int x0, .int x1, .int x2], [], zhp m1) r2 h2 → ∃ m2 v2, r2 = some (.int v2) ∧ h2 = zhp m2 ∧ zTy m2 ∧ RB m2 := by
  obtain ⟨m1, v, a1, a2, a3, a4⟩ := e_X7_sheet ht H
  refine ⟨m1, v, a1, a2, a3, fun r2 h2 H2 => ?_⟩
  obtain ⟨m2, v2, b1, b2, b3, b4⟩ := e_X8_sheet a3 H2
  exact ⟨m2, v2, b1, b2, b3, RB_f (RB_f hR a4 (by decide +kernel)) b4 (by decide +kernel)⟩
theorem pb_lay {m : zM} {r : Option Value} {h' : zHp} {x0 x1 x2 : Int32} (ht : zTy m) (hR : RB m) (H : zEv none 19 zm_X7_lay (0, lv_args 0 [.ref 0, .int x0, .int x1, .int x2], [], zhp m) r h') : ∃ m1 v, r = some (.int v) ∧ h' = zhp m1 ∧ zTy m1 ∧ ∀ r2 h2, zEv none 19 zm_X8_lay (0, lv_args 0 [.ref 71, .int x0, .int x1, .int x2], [], zhp m1) r2 h2 → ∃ m2 v2, r2 = some (.int v2) ∧ h2 = zhp m2 ∧ zTy m2 ∧ RB m2 := by
  obtain ⟨m1, v, a1, a2, a3, a4⟩ := e_X7_lay ht H
  refine ⟨m1, v, a1, a2, a3, fun r2 h2 H2 => ?_⟩
  obtain ⟨m2, v2, b1, b2, b3, b4⟩ := e_X8_lay a3 H2
  exact ⟨m2, v2, b1, b2, b3, RB_f (RB_f hR a4 (by decide +kernel)) b4 (by decide +kernel)⟩
theorem pb_torn {m : zM} {r : Option Value} {h' : zHp} (ht : zTy m) (hR : RB m) (H : zEv none 19 zm_X7_torn (0, lv_args 0 [.ref 0], [], zhp m) r h') : ∃ m1 v, r = some (.int v) ∧ h' = zhp m1 ∧ zTy m1 ∧ ∀ r2 h2, zEv none 19 zm_X8_torn (0, lv_args 0 [.ref 71], [], zhp m1) r2 h2 → ∃ m2 v2, r2 = some (.int v2) ∧ h2 = zhp m2 ∧ zTy m2 ∧ RB m2 := by
  obtain ⟨m1, v, a1, a2, a3, a4⟩ := e_X7_torn ht H
  refine ⟨m1, v, a1, a2, a3, fun r2 h2 H2 => ?_⟩
  obtain ⟨m2, v2, b1, b2, b3, b4⟩ := e_X8_torn a3 H2
  exact ⟨m2, v2, b1, b2, b3, RB_f (RB_f hR a4 (by decide +kernel)) b4 (by decide +kernel)⟩
theorem pb_count {m : zM} {r : Option Value} {h' : zHp} {x0 : Int32} (ht : zTy m) (hR : RB m) (H : zEv none 19 zm_X7_count (0, lv_args 0 [.ref 0, .int x0], [], zhp m) r h') : ∃ m1 v, r = some (.int v) ∧ h' = zhp m1 ∧ zTy m1 ∧ ∀ r2 h2, zEv none 19 zm_X8_count (0, lv_args 0 [.ref 71, .int x0], [], zhp m1) r2 h2 → ∃ m2 v2, r2 = some (.int v2) ∧ h2 = zhp m2 ∧ zTy m2 ∧ RB m2 := by
  obtain ⟨m1, v, a1, a2, a3, a4⟩ := e_X7_count ht H
  refine ⟨m1, v, a1, a2, a3, fun r2 h2 H2 => ?_⟩
  obtain ⟨m2, v2, b1, b2, b3, b4⟩ := e_X8_count a3 H2
  exact ⟨m2, v2, b1, b2, b3, RB_f (RB_f hR a4 (by decide +kernel)) b4 (by decide +kernel)⟩
theorem zq_x {q q2 : Nat → Nat → Bool} {md : yMd} {m m1 : zM} (hq : ∀ k i, q2 k i = true → q k i = true) (hp : zqp q = true) (hm : zqm q2 md = true) (hf : zfm md m m1) : zqe q2 m m1 := by
  intro k i hk hi hx
  rw [Nat.blt_eq] at hk hi
  have h1 := List.all_eq_true.mp (List.all_eq_true.mp hp k (List.mem_range.mpr hk)) i (List.mem_range.mpr hi)
  rw [hq k i hx] at h1
  exact hf k i (zplb_ok (by simpa using h1)) (zqm_ok hi hx hm)
theorem pb_slack {m : zM} {r : Option Value} {h' : zHp} {x0 : Int32} (ht : zTy m) (hR : RB m) (H : zEv none 19 zm_X7_slack (0, lv_args 0 [.ref 0, .int x0], [], zhp m) r h') : ∃ m1 v, r = some (.int v) ∧ h' = zhp m1 ∧ zTy m1 ∧ ∀ r2 h2, zEv none 19 zm_X8_slack (0, lv_args 0 [.ref 71, .int x0], [], zhp m1) r2 h2 → ∃ m2 v2, r2 = some (.int v2) ∧ h2 = zhp m2 ∧ zTy m2 ∧ RB m2 ∧ v = v2 := by
  have hR0 := hR
  obtain ⟨⟨n, h1⟩, ⟨c, c1, c2, c3, c4⟩, ⟨p0, a, a1, a2, a3, a4⟩, ⟨s, s1, s2, s3⟩, h5, h6⟩ := hR
  obtain ⟨m1, v, b1, b2, b3⟩ := t_X7_slack (zE_of 1 rfl H)
  obtain ⟨q1, q2, q3, q4, q5, q6⟩ := e_X7_slack ht H
  obtain ⟨t1, f1⟩ := eng_m b2 q4 q5 q6
  refine ⟨m1, v, b1, b2, t1, fun r2 h2 H2 => ?_⟩
  have g0 : m1 72 (0 + 16) = m 72 (0 + 16) := f1 72 (0 + 16) (zpl_r LY_72 (by omega)) (by decide +kernel)
  obtain ⟨m2, v2, d1, d2, d3⟩ := t_X8_slack (zE_of 0 rfl H2)
  obtain ⟨u1, u2, u3, u4, u5, u6⟩ := e_X8_slack t1 H2
  obtain ⟨t2, f2⟩ := eng_m d2 u4 u5 u6
  refine ⟨m2, v2, d1, d2, t2, ?_⟩
  rcases b3 with ⟨o1, rfl, rfl⟩ | ⟨o1, rfl, rfl⟩
  · rcases d3 with ⟨_, rfl, rfl⟩ | ⟨o2, _⟩
    · exact ⟨hR0, rfl⟩
    · exact absurd o2 o1
  · rcases d3 with ⟨o2, _⟩ | ⟨_, rfl, rfl⟩
    · exact absurd o1 o2
    · refine ⟨⟨⟨n, RT_e h1 (fun k i x y q => by
        simp [qT] at q
        rw [zup_n (by omega), zup_n (by omega)])⟩, ⟨c, c1, by rw [zup_n (by omega), zup_n (by omega)]; exact c2, by rw [zup_n (by omega), zup_n (by omega)]; exact c3, fun k hk hn => by rw [zup_n (by omega), zup_n (by omega)] at hn ⊢; exact c4 k hk hn⟩, ⟨by rw [zup_n (by omega), zup_s, zup_s, Int32.sub_add_cancel], a, a1, by rw [zup_n (by omega), zup_n (by omega)]; exact a2, by rw [zup_n (by omega), zup_n (by omega)]; exact a3, fun i hi => by rw [zup_n (by omega), zup_n (by omega), zup_n (by omega), zup_n (by omega)]; exact a4 i hi⟩, ⟨s, s1, by rw [zup_n (by omega), zup_n (by omega)]; exact s2, by rw [zup_n (by omega), zup_n (by omega)]; exact s3⟩, fun k hk => by rw [zup_n (by omega), zup_n (by omega), zup_n (by omega), zup_n (by omega)]; exact h5 k hk, fun k hk hn => ?_⟩, ?_⟩
      · rw [zup_n (by omega), zup_n (by omega)] at hn
        obtain ⟨y0, b, y1, y2, y3, y4⟩ := h6 k hk hn
        exact ⟨by rw [zup_n (by omega), zup_n (by omega), zup_n (by omega), zup_n (by omega)]; exact y0, b, y1, by rw [zup_n (by omega), zup_n (by omega)]; exact y2, by rw [zup_n (by omega), zup_n (by omega)]; exact y3, fun i hi => by rw [zup_n (by omega), zup_n (by omega), zup_n (by omega), zup_n (by omega)]; exact y4 i hi⟩
      · rw [zup_n (by omega)]
        exact p0
theorem pb_act {m : zM} {r : Option Value} {h' : zHp} {x0 : Int32} (ht : zTy m) (hR : RB m) (H : zEv none 19 zm_X7_act (0, lv_args 0 [.ref 0, .int x0], [], zhp m) r h') : ∃ m1 v, r = some (.int v) ∧ h' = zhp m1 ∧ zTy m1 ∧ ∀ r2 h2, zEv none 19 zm_X8_act (0, lv_args 0 [.ref 71, .int x0], [], zhp m1) r2 h2 → ∃ m2 v2, r2 = some (.int v2) ∧ h2 = zhp m2 ∧ zTy m2 ∧ RB m2 ∧ v = v2 := by
  have hR0 := hR
  obtain ⟨⟨n, h1⟩, ⟨c, c1, c2, c3, c4⟩, ⟨p0, a, a1, a2, a3, a4⟩, ⟨s, s1, s2, s3⟩, h5, h6⟩ := hR
  obtain ⟨v, b1, b2, b3⟩ := t_X7_act a2 a1 (zE_of 0 rfl H)
  refine ⟨m, v, b1, b2, ht, fun r2 h2 H2 => ?_⟩
  obtain ⟨v2, d1, d2, d3⟩ := t_X8_act a3 a1 (zE_of 0 rfl H2)
  refine ⟨m, v2, d1, d2, ht, hR0, ?_⟩
  rw [a2] at b3
  rw [show m 72 26 = Int32.ofNat a from a3] at d3
  rcases b3 with ⟨o1, rfl⟩ | ⟨o1, k, k1, k8, rfl⟩
  · rcases d3 with ⟨_, rfl⟩ | ⟨o2, _⟩
    · rfl
    · exact absurd o2 o1
  · rcases d3 with ⟨o2, _⟩ | ⟨_, k2, k3, k9, rfl⟩
    · exact absurd o1 o2
    · have e : k = k2 := zofn (k8.symm.trans k9) (by omega) (by omega)
      subst e
      rw [k8, zofn_lt (by omega) (by omega)] at o1
      have := a4 k o1.2
      rw [Nat.zero_add] at this
      exact this
theorem pb_cut {m : zM} {r : Option Value} {h' : zHp} {x0 : Int32} (ht : zTy m) (hR : RB m) (H : zEv none 19 zm_X7_cut (0, lv_args 0 [.ref 0, .int x0], [], zhp m) r h') : ∃ m1 v, r = some (.int v) ∧ h' = zhp m1 ∧ zTy m1 ∧ ∀ r2 h2, zEv none 19 zm_X8_cut (0, lv_args 0 [.ref 71, .int x0], [], zhp m1) r2 h2 → ∃ m2 v2, r2 = some (.int v2) ∧ h2 = zhp m2 ∧ zTy m2 ∧ RB m2 ∧ v = v2 := by
  have hR0 := hR
  obtain ⟨⟨n, h1⟩, ⟨c, c1, c2, c3, c4⟩, ⟨p0, a, a1, a2, a3, a4⟩, ⟨s, s1, s2, s3⟩, h5, h6⟩ := hR
  obtain ⟨m1, v, b1, b2, b3⟩ := t_X7_cut (zE_of 1 rfl H)
  obtain ⟨q1, q2, q3, q4, q5, q6⟩ := e_X7_cut ht H
  obtain ⟨t1, f1⟩ := eng_m b2 q4 q5 q6
  refine ⟨m1, v, b1, b2, t1, fun r2 h2 H2 => ?_⟩
  have g0 : m1 72 26 = m 11 3 := (f1 72 26 (zpl_r LY_72 (by omega)) (by decide +kernel)).trans (a3.trans a2.symm)
  have g1 : m1 72 26 = m1 72 26 := rfl
  obtain ⟨m2, v2, d1, d2, d3⟩ := t_X8_cut (zE_of 0 rfl H2)
  obtain ⟨u1, u2, u3, u4, u5, u6⟩ := e_X8_cut t1 H2
  obtain ⟨t2, f2⟩ := eng_m d2 u4 u5 u6
  refine ⟨m2, v2, d1, d2, t2, ?_⟩
  rcases b3 with ⟨o1, rfl, rfl⟩ | ⟨o1, rfl, rfl⟩
  · rcases d3 with ⟨_, rfl, rfl⟩ | ⟨o2, _⟩
    · exact ⟨hR0, rfl⟩
    · exact absurd (by rw [g0] at o2; exact o2) o1
  · rcases d3 with ⟨o2, _⟩ | ⟨_, rfl, rfl⟩
    · exact absurd (by rw [g0]; exact o1) o2
    · obtain ⟨j, j1, rfl⟩ := zbt_n a2 (by omega) o1
      refine ⟨⟨⟨n, RT_e h1 (fun k i x y q => by
        simp [qT] at q
        rw [zup_n (by omega), zup_n (by omega)])⟩, ⟨c, c1, by rw [zup_n (by omega), zup_n (by omega)]; exact c2, by rw [zup_n (by omega), zup_n (by omega)]; exact c3, fun k hk hn => by rw [zup_n (by omega), zup_n (by omega)] at hn ⊢; exact c4 k hk hn⟩, ⟨by rw [zup_n (by omega), zup_n (by omega), zup_n (by omega), zup_n (by omega)]; exact p0, j, by omega, by rw [zup_n (by omega), zup_s], by rw [zup_s], fun i hi => by rw [zup_n (by omega), zup_n (by omega), zup_n (by omega), zup_n (by omega)]; exact a4 i (by omega)⟩, ⟨s, s1, by rw [zup_n (by omega), zup_n (by omega)]; exact s2, by rw [zup_n (by omega), zup_n (by omega)]; exact s3⟩, fun k hk => by rw [zup_n (by omega), zup_n (by omega), zup_n (by omega), zup_n (by omega)]; exact h5 k hk, fun k hk hn => ?_⟩, ?_⟩
      · rw [zup_n (by omega), zup_n (by omega)] at hn
        obtain ⟨y0, b, y1, y2, y3, y4⟩ := h6 k hk hn
        exact ⟨by rw [zup_n (by omega), zup_n (by omega), zup_n (by omega), zup_n (by omega)]; exact y0, b, y1, by rw [zup_n (by omega), zup_n (by omega)]; exact y2, by rw [zup_n (by omega), zup_n (by omega)]; exact y3, fun i hi => by rw [zup_n (by omega), zup_n (by omega), zup_n (by omega), zup_n (by omega)]; exact y4 i hi⟩
      · rw [zup_n (by omega)]
        exact a2.trans a3.symm
theorem pb_forget {m : zM} {r : Option Value} {h' : zHp} {x0 : Int32} (ht : zTy m) (hR : RB m) (H : zEv none 19 zm_X7_forget (0, lv_args 0 [.ref 0, .int x0], [], zhp m) r h') : ∃ m1 v, r = some (.int v) ∧ h' = zhp m1 ∧ zTy m1 ∧ ∀ r2 h2, zEv none 19 zm_X8_forget (0, lv_args 0 [.ref 71, .int x0], [], zhp m1) r2 h2 → ∃ m2 v2, r2 = some (.int v2) ∧ h2 = zhp m2 ∧ zTy m2 ∧ RB m2 ∧ v = v2 := by
  have hR0 := hR
  obtain ⟨⟨n, h1⟩, ⟨c, c1, c2, c3, c4⟩, ⟨p0, a, a1, a2, a3, a4⟩, ⟨s, s1, s2, s3⟩, h5, h6⟩ := hR
  obtain ⟨m1, v, b1, b2, b3⟩ := t_X7_forget (zE_of 1 rfl H)
  obtain ⟨q1, q2, q3, q4, q5, q6⟩ := e_X7_forget ht H
  obtain ⟨t1, f1⟩ := eng_m b2 q4 q5 q6
  refine ⟨m1, v, b1, b2, t1, fun r2 h2 H2 => ?_⟩
  have g0 : m1 71 23 = m 40 3 := (f1 71 23 ⟨_, LY_71, rfl⟩ (by decide +kernel)).trans (s3.trans s2.symm)
  obtain ⟨m2, v2, d1, d2, d3⟩ := t_X8_forget (zE_of 1 rfl H2)
  obtain ⟨u1, u2, u3, u4, u5, u6⟩ := e_X8_forget t1 H2
  obtain ⟨t2, f2⟩ := eng_m d2 u4 u5 u6
  refine ⟨m2, v2, d1, d2, t2, ?_⟩
  rcases b3 with ⟨o1, rfl, rfl⟩ | ⟨o1, rfl, rfl⟩
  · rcases d3 with ⟨_, rfl, rfl⟩ | ⟨o2, _⟩
    · exact ⟨hR0, rfl⟩
    · exact absurd (by rw [g0] at o2; exact o2) o1
  · rcases d3 with ⟨o2, _⟩ | ⟨_, rfl, rfl⟩
    · exact absurd (by rw [g0]; exact o1) o2
    · obtain ⟨j, j1, rfl⟩ := zbt_n s2 (by omega) o1
      refine ⟨⟨⟨n, RT_e h1 (fun k i x y q => by
        simp [qT] at q
        rw [zup_n (by omega), zup_n (by omega)])⟩, ⟨c, c1, by rw [zup_n (by omega), zup_n (by omega)]; exact c2, by rw [zup_n (by omega), zup_n (by omega)]; exact c3, fun k hk hn => by rw [zup_n (by omega), zup_n (by omega)] at hn ⊢; exact c4 k hk hn⟩, ⟨by rw [zup_n (by omega), zup_n (by omega), zup_n (by omega), zup_n (by omega)]; exact p0, a, a1, by rw [zup_n (by omega), zup_n (by omega)]; exact a2, by rw [zup_n (by omega), zup_n (by omega)]; exact a3, fun i hi => by rw [zup_n (by omega), zup_n (by omega), zup_n (by omega), zup_n (by omega)]; exact a4 i hi⟩, ⟨j, by omega, by rw [zup_n (by omega), zup_s], by rw [zup_s]⟩, fun k hk => by rw [zup_n (by omega), zup_n (by omega), zup_n (by omega), zup_n (by omega)]; exact h5 k hk, fun k hk hn => ?_⟩, ?_⟩
      · rw [zup_n (by omega), zup_n (by omega)] at hn
        obtain ⟨y0, b, y1, y2, y3, y4⟩ := h6 k hk hn
        exact ⟨by rw [zup_n (by omega), zup_n (by omega), zup_n (by omega), zup_n (by omega)]; exact y0, b, y1, by rw [zup_n (by omega), zup_n (by omega)]; exact y2, by rw [zup_n (by omega), zup_n (by omega)]; exact y3, fun i hi => by rw [zup_n (by omega), zup_n (by omega), zup_n (by omega), zup_n (by omega)]; exact y4 i hi⟩
      · rw [zup_n (by omega)]
        exact s2.trans s3.symm
theorem pb_plan {m : zM} {r : Option Value} {h' : zHp} {x0 : Int32} (ht : zTy m) (hR : RB m) (H : zEv none 19 zm_X7_plan (0, lv_args 0 [.ref 0, .int x0], [], zhp m) r h') : ∃ m1 v, r = some (.int v) ∧ h' = zhp m1 ∧ zTy m1 ∧ ∀ r2 h2, zEv none 19 zm_X8_plan (0, lv_args 0 [.ref 71, .int x0], [], zhp m1) r2 h2 → ∃ m2 v2, r2 = some (.int v2) ∧ h2 = zhp m2 ∧ zTy m2 ∧ RB m2 ∧ v = v2 := by
  have hR0 := hR
  obtain ⟨⟨n, h1⟩, ⟨c, c1, c2, c3, c4⟩, ⟨p0, a, a1, a2, a3, a4⟩, ⟨s, s1, s2, s3⟩, h5, h6⟩ := hR
  obtain ⟨m1, v, b1, b2, b3⟩ := t_X7_plan c2 c1 a2 a1 (zE_of 0 rfl H)
  obtain ⟨q1, q2, q3, q4, q5, q6⟩ := e_X7_plan ht H
  obtain ⟨t1, f1⟩ := eng_m b2 q4 q5 q6
  refine ⟨m1, v, b1, b2, t1, fun r2 h2 H2 => ?_⟩
  have g0 : m1 71 2 = Int32.ofNat c := (f1 71 2 ⟨_, LY_71, rfl⟩ (by decide +kernel)).trans c3
  have g1 : m1 72 26 = Int32.ofNat a := (f1 72 26 (zpl_r LY_72 (by omega)) (by decide +kernel)).trans a3
  rw [c2] at b3
  obtain ⟨m2, v2, d1, d2, d3⟩ := t_X8_plan g0 c1 g1 a1 (zE_of 0 rfl H2)
  obtain ⟨u1, u2, u3, u4, u5, u6⟩ := e_X8_plan t1 H2
  obtain ⟨t2, f2⟩ := eng_m d2 u4 u5 u6
  refine ⟨m2, v2, d1, d2, t2, ?_⟩
  rw [g0] at d3
  rcases b3 with ⟨o1, rfl, rfl⟩ | ⟨o1, e8, rfl, rfl⟩ | ⟨o1, e8, rfl, rfl⟩
  · rcases d3 with ⟨_, rfl, rfl⟩ | ⟨o2, _⟩ | ⟨o2, _⟩
    · exact ⟨hR0, rfl⟩
    · exact absurd (o2) o1
    · exact absurd (o2) o1
  · rcases d3 with ⟨o2, _⟩ | ⟨_, _, rfl, rfl⟩ | ⟨_, e9, _⟩
    · exact absurd (o1) o2
    · exact ⟨hR0, rfl⟩
    · omega
  · rcases d3 with ⟨o2, _⟩ | ⟨_, e9, _⟩ | ⟨_, _, rfl, rfl⟩
    · exact absurd (o1) o2
    · omega
    · refine ⟨⟨⟨n, RT_e h1 (fun k i x y q => by
        simp [qT] at q
        rw [zup_n (by omega), zup_n (by omega), zup_n (by omega), zup_n (by omega)])⟩, ⟨c, c1, by rw [zup_n (by omega), zup_n (by omega), zup_n (by omega), zup_n (by omega)]; exact c2, by rw [zup_n (by omega), zup_n (by omega), zup_n (by omega), zup_n (by omega)]; exact c3, fun k hk hn => by rw [zup_n (by omega), zup_n (by omega), zup_n (by omega), zup_n (by omega)] at hn ⊢; exact c4 k hk hn⟩, ⟨by rw [zup_n (by omega), zup_n (by omega), zup_n (by omega), zup_n (by omega), zup_n (by omega), zup_n (by omega), zup_n (by omega), zup_n (by omega)]; exact p0, a + 1, by omega, by rw [zup_n (by omega), zup_n (by omega), zup_s], by rw [zup_s], fun i hi => ?_⟩, ⟨s, s1, by rw [zup_n (by omega), zup_n (by omega), zup_n (by omega), zup_n (by omega)]; exact s2, by rw [zup_n (by omega), zup_n (by omega), zup_n (by omega), zup_n (by omega)]; exact s3⟩, fun k hk => by rw [zup_n (by omega), zup_n (by omega), zup_n (by omega), zup_n (by omega), zup_n (by omega), zup_n (by omega), zup_n (by omega), zup_n (by omega)]; exact h5 k hk, fun k hk hn => ?_⟩, rfl⟩
      · by_cases hia : i = a
        · subst hia
          rw [zup_n (by omega), zup_n (by omega), zup_n (by omega), zup_s, zup_n (by omega), show 0 + 18 + i = 18 + i by omega, zup_s]
        · rw [zup_n (by omega), zup_n (by omega), zup_n (by omega), zup_n (by omega), zup_n (by omega), zup_n (by omega), zup_n (by omega), zup_n (by omega)]; exact a4 i (by omega)
      · rw [zup_n (by omega), zup_n (by omega), zup_n (by omega), zup_n (by omega)] at hn
        obtain ⟨y0, b, y1, y2, y3, y4⟩ := h6 k hk hn
        exact ⟨by rw [zup_n (by omega), zup_n (by omega), zup_n (by omega), zup_n (by omega), zup_n (by omega), zup_n (by omega), zup_n (by omega), zup_n (by omega)]; exact y0, b, y1, by rw [zup_n (by omega), zup_n (by omega), zup_n (by omega), zup_n (by omega)]; exact y2, by rw [zup_n (by omega), zup_n (by omega), zup_n (by omega), zup_n (by omega)]; exact y3, fun i hi => by rw [zup_n (by omega), zup_n (by omega), zup_n (by omega), zup_n (by omega), zup_n (by omega), zup_n (by omega), zup_n (by omega), zup_n (by omega)]; exact y4 i hi⟩
theorem pb_see {m : zM} {r : Option Value} {h' : zHp} {x0 x1 : Int32} (ht : zTy m) (hR : RB m) (H : zEv none 19 zm_X7_see (0, lv_args 0 [.ref 0, .int x0, .int x1], [], zhp m) r h') : ∃ m1 v, r = some (.int v) ∧ h' = zhp m1 ∧ zTy m1 ∧ ∀ r2 h2, zEv none 19 zm_X8_see (0, lv_args 0 [.ref 71, .int x0, .int x1], [], zhp m1) r2 h2 → ∃ m2 v2, r2 = some (.int v2) ∧ h2 = zhp m2 ∧ zTy m2 ∧ RB m2 ∧ v = v2 := by
  have hR0 := hR
  obtain ⟨⟨n, h1⟩, ⟨c, c1, c2, c3, c4⟩, ⟨p0, a, a1, a2, a3, a4⟩, ⟨s, s1, s2, s3⟩, h5, h6⟩ := hR
  obtain ⟨m1, v, b1, b2, b3⟩ := t_X7_see s2 s1 (zE_of 0 rfl H)
  obtain ⟨q1, q2, q3, q4, q5, q6⟩ := e_X7_see ht H
  obtain ⟨t1, f1⟩ := eng_m b2 q4 q5 q6
  refine ⟨m1, v, b1, b2, t1, fun r2 h2 H2 => ?_⟩
  have g0 : m1 71 2 = Int32.ofNat c := (f1 71 2 ⟨_, LY_71, rfl⟩ (by decide +kernel)).trans c3
  have g1 : m1 71 23 = Int32.ofNat s := (f1 71 23 ⟨_, LY_71, rfl⟩ (by decide +kernel)).trans s3
  rw [c2] at b3
  obtain ⟨m2, v2, d1, d2, d3⟩ := t_X8_see g0 c1 g1 s1 (zE_of 0 rfl H2)
  obtain ⟨u1, u2, u3, u4, u5, u6⟩ := e_X8_see t1 H2
  obtain ⟨t2, f2⟩ := eng_m d2 u4 u5 u6
  refine ⟨m2, v2, d1, d2, t2, ?_⟩
  rw [g0] at d3
  rcases b3 with ⟨o1, rfl, rfl⟩ | ⟨o1, e8, rfl, rfl⟩ | ⟨o1, e8, rfl, rfl⟩
  · rcases d3 with ⟨_, rfl, rfl⟩ | ⟨o2, _⟩ | ⟨o2, _⟩
    · exact ⟨hR0, rfl⟩
    · exact absurd (o2) o1
    · exact absurd (o2) o1
  · rcases d3 with ⟨o2, _⟩ | ⟨_, _, rfl, rfl⟩ | ⟨_, e9, _⟩
    · exact absurd (o1) o2
    · exact ⟨hR0, rfl⟩
    · omega
  · rcases d3 with ⟨o2, _⟩ | ⟨_, e9, _⟩ | ⟨_, _, rfl, rfl⟩
    · exact absurd (o1) o2
    · omega
    · refine ⟨⟨⟨n, RT_e h1 (fun k i x y q => by
        simp [qT] at q
        rw [zup_n (by omega), zup_n (by omega), zup_n (by omega), zup_n (by omega), zup_n (by omega), zup_n (by omega)])⟩, ⟨c, c1, by rw [zup_n (by omega), zup_n (by omega), zup_n (by omega), zup_n (by omega), zup_n (by omega), zup_n (by omega)]; exact c2, by rw [zup_n (by omega), zup_n (by omega), zup_n (by omega), zup_n (by omega), zup_n (by omega), zup_n (by omega)]; exact c3, fun k hk hn => by rw [zup_n (by omega), zup_n (by omega), zup_n (by omega), zup_n (by omega), zup_n (by omega), zup_n (by omega)] at hn ⊢; exact c4 k hk hn⟩, ⟨by rw [zup_n (by omega), zup_n (by omega), zup_n (by omega), zup_n (by omega), zup_n (by omega), zup_n (by omega), zup_n (by omega), zup_n (by omega), zup_n (by omega), zup_n (by omega), zup_n (by omega), zup_n (by omega)]; exact p0, a, a1, by rw [zup_n (by omega), zup_n (by omega), zup_n (by omega), zup_n (by omega), zup_n (by omega), zup_n (by omega)]; exact a2, by rw [zup_n (by omega), zup_n (by omega), zup_n (by omega), zup_n (by omega), zup_n (by omega), zup_n (by omega)]; exact a3, fun i hi => by rw [zup_n (by omega), zup_n (by omega), zup_n (by omega), zup_n (by omega), zup_n (by omega), zup_n (by omega), zup_n (by omega), zup_n (by omega), zup_n (by omega), zup_n (by omega), zup_n (by omega), zup_n (by omega)]; exact a4 i hi⟩, ⟨s + 1, by omega, by rw [zup_n (by omega), zup_n (by omega), zup_n (by omega), zup_s], by rw [zup_s]⟩, fun k hk => by rw [zup_n (by omega), zup_n (by omega), zup_n (by omega), zup_n (by omega), zup_n (by omega), zup_n (by omega), zup_n (by omega), zup_n (by omega), zup_n (by omega), zup_n (by omega), zup_n (by omega), zup_n (by omega)]; exact h5 k hk, fun k hk hn => ?_⟩, rfl⟩
      · rw [zup_n (by omega), zup_n (by omega), zup_n (by omega), zup_n (by omega), zup_n (by omega), zup_n (by omega)] at hn
        obtain ⟨y0, b, y1, y2, y3, y4⟩ := h6 k hk hn
        exact ⟨by rw [zup_n (by omega), zup_n (by omega), zup_n (by omega), zup_n (by omega), zup_n (by omega), zup_n (by omega), zup_n (by omega), zup_n (by omega), zup_n (by omega), zup_n (by omega), zup_n (by omega), zup_n (by omega)]; exact y0, b, y1, by rw [zup_n (by omega), zup_n (by omega), zup_n (by omega), zup_n (by omega), zup_n (by omega), zup_n (by omega)]; exact y2, by rw [zup_n (by omega), zup_n (by omega), zup_n (by omega), zup_n (by omega), zup_n (by omega), zup_n (by omega)]; exact y3, fun i hi => by rw [zup_n (by omega), zup_n (by omega), zup_n (by omega), zup_n (by omega), zup_n (by omega), zup_n (by omega), zup_n (by omega), zup_n (by omega), zup_n (by omega), zup_n (by omega), zup_n (by omega), zup_n (by omega)]; exact y4 i hi⟩
/-- RB without the tape -/
def qR (k i : Nat) : Bool := (Nat.beq k 71 && (Nat.beq i 2 || Nat.beq i 23)) || (Nat.beq k 40 && Nat.beq i 3) || (Nat.beq k 45 && Nat.blt i 2) || (Nat.beq k 82 && Nat.blt i 2) || qpv k i 11 0 || qpv k i 47 27 || qpv k i 55 54
theorem qR_B {k i : Nat} (h : qR k i = true) : qB k i = true := by
  simp only [qR, qB, Bool.or_eq_true] at h ⊢
  simp only [or_assoc] at h ⊢
  exact Or.inr h
theorem RB_r {m m1 : zM} (h : RB m) (he : zqe qR m m1) (ht : ∃ n, RT m1 n) : RB m1 := by
  -- the tape's places as they were, then the new tape
  obtain ⟨⟨n, h1⟩, ⟨c, c1, c2, c3, c4⟩, h3, ⟨s, s1, s2, s3⟩, h5, h6⟩ := h
  have e45 : ∀ k, k < 2 → m1 45 k = m 45 k := fun k hk => by
    rcases zk2 hk with rfl | rfl
    · exact he 45 0 rfl rfl rfl
    · exact he 45 1 rfl rfl rfl
  refine ⟨ht, ⟨c, c1, (he 11 2 rfl rfl rfl).trans c2, (he 71 2 rfl rfl rfl).trans c3, fun k hk hn => ?_⟩, PV_e (Or.inl ⟨rfl, rfl⟩) h3 (fun k i a b q => he k i a b (by simp [qR, q])), ⟨s, s1, (he 40 3 rfl rfl rfl).trans s2, (he 71 23 rfl rfl rfl).trans s3⟩, fun k hk => ?_, fun k hk hn => ?_⟩
  · rw [e45 k hk] at hn
    rcases zk2 hk with rfl | rfl
    · exact (he 47 2 rfl rfl rfl).trans (c4 0 hk hn)
    · exact (he 55 2 rfl rfl rfl).trans (c4 1 hk hn)
  · rw [e45 k hk, h5 k hk]
    rcases zk2 hk with rfl | rfl
    · exact (he 82 0 rfl rfl rfl).symm
    · exact (he 82 1 rfl rfl rfl).symm
  · rw [e45 k hk] at hn
    rcases zk2 hk with rfl | rfl
    · exact PV_e (Or.inr (Or.inl ⟨rfl, rfl⟩)) (h6 0 hk hn) (fun k i a b q => he k i a b (by simp [qR, q]))
    · exact PV_e (Or.inr (Or.inr ⟨rfl, rfl⟩)) (h6 1 hk hn) (fun k i a b q => he k i a b (by simp [qR, q]))
theorem rt_feed {m : zM} {r : Option Value} {h' : zHp} {n : Nat} {x0 : Int32} (ht : zTy m) (hR : RT m n) (H : zEv none 19 zm_X7_feed (0, lv_args 0 [.ref 0, .int x0], [], zhp m) r h') : ∃ m1 v, r = some (.int v) ∧ h' = zhp m1 ∧ zTy m1 ∧ zfm qs0.2.2.1 m m1 ∧ ∀ r2 h2, zEv none 19 zm_X8_feed (0, lv_args 0 [.ref 71, .int x0], [], zhp m1) r2 h2 → ∃ m2 v2, r2 = some (.int v2) ∧ h2 = zhp m2 ∧ zTy m2 ∧ zfm qs110.2.2.1 m1 m2 ∧ ∃ n, RT m2 n := by
  obtain ⟨a1, a2, a3, a4⟩ := hR
  obtain ⟨m1, ⟨v, b1⟩, b2, b3⟩ := t_X7_feed a1 a3 (zE_of 0 rfl H)
  obtain ⟨q1, q2, q3, q4, q5, q6⟩ := e_X7_feed ht H
  obtain ⟨t1, f1⟩ := eng_m b2 q4 q5 q6
  refine ⟨m1, v, b1, b2, t1, f1, fun r2 h2 H2 => ?_⟩
  have a2' : m1 71 8 = Int32.ofNat n := (f1 71 8 ⟨_, LY_71, rfl⟩ (by decide +kernel)).trans a2
  obtain ⟨m2, ⟨v2, c1⟩, c2, c3⟩ := t_X8_feed a2' a3 (zE_of 0 rfl H2)
  obtain ⟨s1, s2, s3, s4, s5, s6⟩ := e_X8_feed t1 H2
  obtain ⟨t2, f2⟩ := eng_m c2 s4 s5 s6
  refine ⟨m2, v2, c1, c2, t2, f2, ?_⟩
  rcases b3 with ⟨o1, rfl⟩ | ⟨o1, rfl⟩
  · rcases c3 with ⟨_, rfl⟩ | ⟨o2, _⟩
    · exact ⟨n, a1, a2, a3, a4⟩
    · exact absurd o2 o1
  · rcases c3 with ⟨o2, _⟩ | ⟨_, rfl⟩
    · exact absurd o1 o2
    · refine ⟨n + 1, ?_, ?_, by have := o1.2.2; omega, fun i hi => ?_⟩
      · rw [zup_n (by omega), zup_n (by omega), zup_s]
      · rw [zup_s]
      · by_cases hin : i = n
        · subst hin
          rw [zup_n (by omega), zup_n (by omega), zup_n (by omega), zup_s, zup_n (by omega), zup_s]
        · rw [zup_n (by omega), zup_n (by omega), zup_n (by omega), zup_n (by omega), zup_n (by omega), zup_n (by omega), zup_n (by omega), zup_n (by omega)]
          exact a4 i (by omega)
theorem rt_end {m : zM} {r : Option Value} {h' : zHp} {n : Nat} {x0 : Int32} (ht : zTy m) (hR : RT m n) (H : zEv none 19 zm_X7_end (0, lv_args 0 [.ref 0, .int x0], [], zhp m) r h') : ∃ m1 v, r = some (.int v) ∧ h' = zhp m1 ∧ zTy m1 ∧ zfm qs1.2.2.1 m m1 ∧ ∀ r2 h2, zEv none 19 zm_X8_end (0, lv_args 0 [.ref 71, .int x0], [], zhp m1) r2 h2 → ∃ m2 v2, r2 = some (.int v2) ∧ h2 = zhp m2 ∧ zTy m2 ∧ zfm qs111.2.2.1 m1 m2 ∧ ∃ n, RT m2 n := by
  obtain ⟨a1, a2, a3, a4⟩ := hR
  obtain ⟨m1, ⟨v, b1⟩, b2, b3⟩ := t_X7_end a1 a3 (zE_of 1 rfl H)
  obtain ⟨q1, q2, q3, q4, q5, q6⟩ := e_X7_end ht H
  obtain ⟨t1, f1⟩ := eng_m b2 q4 q5 q6
  refine ⟨m1, v, b1, b2, t1, f1, fun r2 h2 H2 => ?_⟩
  have a2' : m1 71 8 = Int32.ofNat n := (f1 71 8 ⟨_, LY_71, rfl⟩ (by decide +kernel)).trans a2
  obtain ⟨m2, ⟨v2, c1⟩, c2, c3⟩ := t_X8_end a2' a3 (zE_of 1 rfl H2)
  obtain ⟨s1, s2, s3, s4, s5, s6⟩ := e_X8_end t1 H2
  obtain ⟨t2, f2⟩ := eng_m c2 s4 s5 s6
  refine ⟨m2, v2, c1, c2, t2, f2, ?_⟩
  rcases b3 with ⟨o1, rfl⟩ | ⟨o1, rfl⟩
  · rcases c3 with ⟨_, rfl⟩ | ⟨o2, _⟩
    · exact ⟨n, a1, a2, a3, a4⟩
    · exact absurd o2 o1
  · rcases c3 with ⟨o2, _⟩ | ⟨_, rfl⟩
    · exact absurd o1 o2
    · obtain ⟨k, k1, rfl⟩ := zEo_n o1 a3
      refine ⟨k, ?_, ?_, by omega, fun i hi => ?_⟩
      · rw [zup_n (by omega), zup_s]
      · rw [zup_s]
      · rw [zup_n (by omega), zup_n (by omega), zup_n (by omega), zup_n (by omega)]
        exact a4 i (by omega)
theorem pb_feed {m : zM} {r : Option Value} {h' : zHp} {x0 : Int32} (ht : zTy m) (hR : RB m) (H : zEv none 19 zm_X7_feed (0, lv_args 0 [.ref 0, .int x0], [], zhp m) r h') : ∃ m1 v, r = some (.int v) ∧ h' = zhp m1 ∧ zTy m1 ∧ ∀ r2 h2, zEv none 19 zm_X8_feed (0, lv_args 0 [.ref 71, .int x0], [], zhp m1) r2 h2 → ∃ m2 v2, r2 = some (.int v2) ∧ h2 = zhp m2 ∧ zTy m2 ∧ RB m2 := by
  obtain ⟨n, hT⟩ := hR.1
  obtain ⟨m1, v, a1, a2, a3, a4, K⟩ := rt_feed ht hT H
  refine ⟨m1, v, a1, a2, a3, fun r2 h2 H2 => ?_⟩
  obtain ⟨m2, v2, b1, b2, b3, b4, b5⟩ := K r2 h2 H2
  exact ⟨m2, v2, b1, b2, b3, RB_r hR (zqe_t (zq_x (fun k i h => qR_B h) qB_p (by decide +kernel) a4) (zq_x (fun k i h => qR_B h) qB_p (by decide +kernel) b4)) b5⟩
theorem pb_end {m : zM} {r : Option Value} {h' : zHp} {x0 : Int32} (ht : zTy m) (hR : RB m) (H : zEv none 19 zm_X7_end (0, lv_args 0 [.ref 0, .int x0], [], zhp m) r h') : ∃ m1 v, r = some (.int v) ∧ h' = zhp m1 ∧ zTy m1 ∧ ∀ r2 h2, zEv none 19 zm_X8_end (0, lv_args 0 [.ref 71, .int x0], [], zhp m1) r2 h2 → ∃ m2 v2, r2 = some (.int v2) ∧ h2 = zhp m2 ∧ zTy m2 ∧ RB m2 := by
  obtain ⟨n, hT⟩ := hR.1
  obtain ⟨m1, v, a1, a2, a3, a4, K⟩ := rt_end ht hT H
  refine ⟨m1, v, a1, a2, a3, fun r2 h2 H2 => ?_⟩
  obtain ⟨m2, v2, b1, b2, b3, b4, b5⟩ := K r2 h2 H2
  exact ⟨m2, v2, b1, b2, b3, RB_r hR (zqe_t (zq_x (fun k i h => qR_B h) qB_p (by decide +kernel) a4) (zq_x (fun k i h => qR_B h) qB_p (by decide +kernel) b4)) b5⟩
theorem pb_text {m : zM} {r : Option Value} {h' : zHp} (ht : zTy m) (hR : RB m) (H : zEv none 19 zm_X7_text (0, lv_args 0 [.ref 0], [], zhp m) r h') : ∃ m1 v, r = some (.int v) ∧ h' = zhp m1 ∧ zTy m1 ∧ ∀ r2 h2, zEv none 19 zm_X8_text (0, lv_args 0 [.ref 71], [], zhp m1) r2 h2 → ∃ m2 v2, r2 = some (.int v2) ∧ h2 = zhp m2 ∧ zTy m2 ∧ RB m2 ∧ v = v2 := by
  have hR0 := hR
  obtain ⟨n, hT⟩ := hR.1
  obtain ⟨m1, b1, t1, f1, b2, b3, K⟩ := tx_pair ht hT H
  cases hx : pTx (m 2) n 161 zP0 0 0 with
  | inl f =>
    rw [hx] at b3
    refine ⟨m1, _, b3.1, b1, t1, fun r2 h2 H2 => ?_⟩
    obtain ⟨m2, c1, t2, f2, c2, c3⟩ := K r2 h2 H2
    rw [hx] at c3
    refine ⟨m2, _, c3.1, c1, t2, RB_r hR0 (fun k i x y q => ?_) ⟨0, ?_, c2, by omega, fun i hi => by omega⟩, rfl⟩
    · simp only [qR, qpv, Bool.or_eq_true, Bool.and_eq_true, Nat.beq_eq, Nat.blt_eq, Nat.ble_eq] at q
      rw [c3.2.2 k i (by omega) (by omega), b3.2.2 k i (by omega) (by omega)]
    · rw [f2 1 2 ⟨_, LY_1, rfl⟩ (by decide +kernel)]; exact b2
  | inr q =>
    rw [hx] at b3
    refine ⟨m1, _, b3.1, b1, t1, fun r2 h2 H2 => ?_⟩
    obtain ⟨m2, c1, t2, f2, c2, c3⟩ := K r2 h2 H2
    rw [hx] at c3
    obtain ⟨y1, y2, y3, y4, y5, y6, y7⟩ := b3
    obtain ⟨z1, z2, z3, z4, z5, z6, z7, z8, z9⟩ := c3
    obtain ⟨l1, l2, l3, l4, l5, a, l6, l7, l8, l9⟩ := y3
    have e : ∀ a b, a < 71 → m2 a b = m1 a b := fun a b h => z9 a b (by omega) (by omega) (by omega) (by omega)
    have k0 : ∀ k, k < 2 → m2 45 k = 0 := fun k hk => by
      rw [e 45 k (by omega)]
      rcases zk2 hk with rfl | rfl
      · exact y5
      · exact y6
    refine ⟨m2, _, z1, c1, t2, ⟨⟨0, ?_, c2, by omega, fun i hi => by omega⟩, ⟨q.1.1, z4, by rw [e 11 2 (by omega)]; exact l1, z3, fun k hk hn => absurd (k0 k hk) hn⟩, ⟨?_, a, l6, by rw [e 11 3 (by omega)]; exact l8, ?_, fun i hi => ?_⟩, ⟨0, by omega, by rw [e 40 3 (by omega)]; exact y4, z6⟩, fun k hk => ?_, fun k hk hn => absurd (k0 k hk) hn⟩, rfl⟩
    · rw [e 1 2 (by omega)]; exact b2
    · rw [e 11 4 (by omega), z5 (0 + 16) (by omega)]; exact l4
    · rw [z5 (0 + 26) (by omega)]; exact l7
    · rw [e (11 + 2) i (by omega), z5 (0 + 18 + i) (by omega), l9 i hi, Nat.zero_add]
    · rw [k0 k hk]
      rcases zk2 hk with rfl | rfl
      · exact z7.symm
      · exact z8.symm
theorem pb_keep {m : zM} {r : Option Value} {h' : zHp} {x0 : Int32} (ht : zTy m) (hR : RB m) (H : zEv none 19 zm_X7_keep (0, lv_args 0 [.ref 0, .int x0], [], zhp m) r h') : ∃ m1 v, r = some (.int v) ∧ h' = zhp m1 ∧ zTy m1 ∧ ∀ r2 h2, zEv none 19 zm_X8_keep (0, lv_args 0 [.ref 71, .int x0], [], zhp m1) r2 h2 → ∃ m2 v2, r2 = some (.int v2) ∧ h2 = zhp m2 ∧ zTy m2 ∧ RB m2 ∧ v = v2 := by
  have hR0 := hR
  obtain ⟨⟨n, h1⟩, ⟨c, c1, c2, c3, c4⟩, ⟨p0, a, a1, a2, a3, a4⟩, ⟨s, s1, s2, s3⟩, h5, h6⟩ := hR
  obtain ⟨m1, v, b1, b2, b3⟩ := t_X7_keep c2 c1 a2 a1 (zE_of 1 rfl H)
  obtain ⟨q1, q2, q3, q4, q5, q6⟩ := e_X7_keep ht H
  obtain ⟨t1, f1⟩ := eng_m b2 q4 q5 q6
  refine ⟨m1, v, b1, b2, t1, fun r2 h2 H2 => ?_⟩
  obtain ⟨m2, v2, d1, d2, d3⟩ := t_X8_keep (zE_of 1 rfl H2)
  obtain ⟨u1, u2, u3, u4, u5, u6⟩ := e_X8_keep t1 H2
  obtain ⟨t2, f2⟩ := eng_m d2 u4 u5 u6
  refine ⟨m2, v2, d1, d2, t2, ?_⟩
  rcases b3 with ⟨o1, rfl, rfl⟩ | ⟨o1, k, k2, hk, w1, ⟨w2, w3, w4, w5, w6, w7⟩, w8, w9⟩
  · rcases d3 with ⟨_, rfl, rfl⟩ | ⟨o2, _⟩
    · exact ⟨hR0, rfl⟩
    · exact absurd o2 o1
  · rcases d3 with ⟨o2, _⟩ | ⟨_, k', k2', hk', y1, y2, y3, y4⟩
    · exact absurd o1 o2
    · have hkk : k = k' := zofn (hk.symm.trans hk') (by omega) (by omega)
      subst hkk
      have E : ∀ a b, ¬ (47 + 8 * k ≤ a ∧ a ≤ 47 + 8 * k + 7) → ¬ (a = 45 ∧ b = k) → ¬ (a = 72 ∧ 27 * (k + 1) ≤ b ∧ b < 27 * (k + 1) + 27) → ¬ (a = 82 ∧ b = k) → m2 a b = m a b := fun a b x y z w => by rw [y4 a b z w, w9 a b x y]
      have E2 : ∀ a b, a < 71 → m2 a b = m1 a b := fun a b x => y4 a b (by omega) (by omega)
      have E45 : ∀ j, j < 2 → ¬ j = k → m2 45 j = m 45 j := fun j hj hne => E 45 j (by omega) (by omega) (by omega) (by omega)
      have Ek : m2 45 k = 1 := by rw [E2 45 k (by omega)]; exact w8
      refine ⟨⟨⟨n, RT_e h1 (fun a b x y q => ?_)⟩, ⟨c, c1, ?_, ?_, fun j hj hn => ?_⟩, ⟨?_, a, a1, ?_, ?_, fun i hi => ?_⟩, ⟨s, s1, ?_, ?_⟩, fun j hj => ?_, fun j hj hn => ?_⟩, ?_⟩
      · simp [qT] at q
        exact E a b (by omega) (by omega) (by omega) (by omega)
      · rw [E 11 2 (by omega) (by omega) (by omega) (by omega)]; exact c2
      · rw [E 71 2 (by omega) (by omega) (by omega) (by omega)]; exact c3
      · by_cases hjk : j = k
        · subst hjk
          rw [E2 _ _ (by omega), w2]; exact c2
        · rw [E45 j hj hjk] at hn
          rw [E _ _ (by omega) (by omega) (by omega) (by omega)]
          exact c4 j hj hn
      · rw [E 11 4 (by omega) (by omega) (by omega) (by omega), E 72 (0 + 16) (by omega) (by omega) (by omega) (by omega)]; exact p0
      · rw [E 11 3 (by omega) (by omega) (by omega) (by omega)]; exact a2
      · rw [E 72 (0 + 26) (by omega) (by omega) (by omega) (by omega)]; exact a3
      · rw [E (11 + 2) i (by omega) (by omega) (by omega) (by omega), E 72 (0 + 18 + i) (by omega) (by omega) (by omega) (by omega)]; exact a4 i hi
      · rw [E 40 3 (by omega) (by omega) (by omega) (by omega)]; exact s2
      · rw [E 71 23 (by omega) (by omega) (by omega) (by omega)]; exact s3
      · by_cases hjk : j = k
        · subst hjk
          rw [Ek, y3]
        · rw [E45 j hj hjk, E 82 j (by omega) (by omega) (by omega) (by omega)]
          exact h5 j hj
      · by_cases hjk : j = k
        · subst hjk
          refine ⟨?_, a, a1, ?_, ?_, fun i hi => ?_⟩
          · rw [E2 _ _ (by omega), w4, y2 16 (by omega), w9 72 16 (by omega) (by omega)]; exact p0
          · rw [E2 _ _ (by omega), w3]; exact a2
          · rw [y2 26 (by omega), w9 72 26 (by omega) (by omega)]; exact a3
          · rw [E2 _ _ (by omega), w7 i hi, show 27 * (j + 1) + 18 + i = 27 * (j + 1) + (18 + i) by omega, y2 (18 + i) (by omega), w9 72 (18 + i) (by omega) (by omega)]
            have := a4 i hi
            rw [Nat.zero_add] at this
            exact this
        · rw [E45 j hj hjk] at hn
          obtain ⟨z0, b, z1, z2, z3, z4⟩ := h6 j hj hn
          refine ⟨?_, b, z1, ?_, ?_, fun i hi => ?_⟩
          · rw [E _ _ (by omega) (by omega) (by omega) (by omega), E 72 _ (by omega) (by omega) (by omega) (by omega)]; exact z0
          · rw [E _ _ (by omega) (by omega) (by omega) (by omega)]; exact z2
          · rw [E 72 _ (by omega) (by omega) (by omega) (by omega)]; exact z3
          · rw [E _ _ (by omega) (by omega) (by omega) (by omega), E 72 _ (by omega) (by omega) (by omega) (by omega)]; exact z4 i hi
      · rw [w1, y1, w9 82 k (by omega) (by omega), h5 k k2]
theorem pb_back {m : zM} {r : Option Value} {h' : zHp} {x0 : Int32} (ht : zTy m) (hR : RB m) (H : zEv none 19 zm_X7_back (0, lv_args 0 [.ref 0, .int x0], [], zhp m) r h') : ∃ m1 v, r = some (.int v) ∧ h' = zhp m1 ∧ zTy m1 ∧ ∀ r2 h2, zEv none 19 zm_X8_back (0, lv_args 0 [.ref 71, .int x0], [], zhp m1) r2 h2 → ∃ m2 v2, r2 = some (.int v2) ∧ h2 = zhp m2 ∧ zTy m2 ∧ RB m2 := by
  have hR0 := hR
  obtain ⟨⟨n, h1⟩, ⟨c, c1, c2, c3, c4⟩, ⟨p0, a, a1, a2, a3, a4⟩, ⟨s, s1, s2, s3⟩, h5, h6⟩ := hR
  have hI : ∀ k, k < 2 → ¬ m 45 k = 0 → m (47 + 8 * k) 2 = Int32.ofNat c ∧ m (47 + 8 * k) 3 = Int32.ofNat ((fun j => (m (47 + 8 * j) 3).toNatClampNeg) k) ∧ (fun j => (m (47 + 8 * j) 3).toNatClampNeg) k ≤ 8 := fun k hk hn => by
    obtain ⟨z0, b, z1, z2, z3, z4⟩ := h6 k hk hn
    refine ⟨c4 k hk hn, ?_, ?_⟩
    · show _ = Int32.ofNat (m (47 + 8 * k) 3).toNatClampNeg
      rw [z2, Int32.toNatClampNeg_ofNat_of_lt (by omega)]
    · show (m (47 + 8 * k) 3).toNatClampNeg ≤ 8
      rw [z2, Int32.toNatClampNeg_ofNat_of_lt (by omega)]
      exact z1
  obtain ⟨m1, v, b1, b2, b3⟩ := t_X7_back c1 hI (zE_of 0 rfl H)
  obtain ⟨q1, q2, q3, q4, q5, q6⟩ := e_X7_back ht H
  obtain ⟨t1, f1⟩ := eng_m b2 q4 q5 q6
  refine ⟨m1, v, b1, b2, t1, fun r2 h2 H2 => ?_⟩
  obtain ⟨m2, v2, d1, d2, d3⟩ := t_X8_back (zE_of 0 rfl H2)
  obtain ⟨u1, u2, u3, u4, u5, u6⟩ := e_X8_back t1 H2
  obtain ⟨t2, f2⟩ := eng_m d2 u4 u5 u6
  refine ⟨m2, v2, d1, d2, t2, ?_⟩
  have e82 : ∀ k, k < 2 → m1 82 k = m 82 k := fun k hk => f1 82 k (zpl_r LY_82 hk) (ymd_c (by decide +kernel) k)
  rcases b3 with ⟨o1, rfl, rfl⟩ | ⟨o1, k, k2, hk, w0, rfl, rfl⟩ | ⟨o1, k, k2, hk, w0, w1, ⟨w2, w3, w4, w5, w6, w7⟩, w8⟩
  · rcases d3 with ⟨_, rfl, rfl⟩ | ⟨o2, _⟩ | ⟨o2, _⟩
    · exact hR0
    · exact absurd o2 o1
    · exact absurd o2 o1
  · rcases d3 with ⟨o2, _⟩ | ⟨_, k', k2', hk', y0, rfl, rfl⟩ | ⟨_, k', k2', hk', y0, _⟩
    · exact absurd o1 o2
    · exact hR0
    · have hkk : k = k' := zofn (hk.symm.trans hk') (by omega) (by omega)
      subst hkk
      rw [← h5 k k2] at y0
      exact absurd w0 y0
  · rcases d3 with ⟨o2, _⟩ | ⟨_, k', k2', hk', y0, _⟩ | ⟨_, k', k2', hk', y0, y1, y2, y3⟩
    · exact absurd o1 o2
    · have hkk : k = k' := zofn (hk.symm.trans hk') (by omega) (by omega)
      subst hkk
      rw [e82 k k2, ← h5 k k2] at y0
      exact absurd y0 w0
    · have hkk : k = k' := zofn (hk.symm.trans hk') (by omega) (by omega)
      subst hkk
      obtain ⟨z0, b, z1, z2, z3, z4⟩ := h6 k k2 w0
      have hb : (m (47 + 8 * k) 3).toNatClampNeg = b := by rw [z2, Int32.toNatClampNeg_ofNat_of_lt (by omega)]
      have E : ∀ a b, ¬ (11 ≤ a ∧ a ≤ 11 + 7) → ¬ (a = 72 ∧ b < 27) → m2 a b = m a b := fun a b x y => by rw [y3 a b y, w8 a b x]
      have E2 : ∀ a b, a < 71 → m2 a b = m1 a b := fun a b x => y3 a b (by omega)
      have E45 : ∀ j, m2 45 j = m 45 j := fun j => E 45 j (by omega) (by omega)
      refine ⟨⟨n, RT_e h1 (fun a b x y q => ?_)⟩, ⟨c, c1, ?_, ?_, fun j hj hn => ?_⟩, ⟨?_, b, z1, ?_, ?_, fun i hi => ?_⟩, ⟨s, s1, ?_, ?_⟩, fun j hj => ?_, fun j hj hn => ?_⟩
      · simp [qT] at q
        exact E a b (by omega) (by omega)
      · rw [E2 11 2 (by omega), w2]; exact c4 k k2 w0
      · rw [E 71 2 (by omega) (by omega)]; exact c3
      · rw [E45] at hn
        rw [E _ _ (by omega) (by omega)]
        exact c4 j hj hn
      · rw [E2 11 4 (by omega), w4, y2 (0 + 16) (by omega), w8 72 _ (by omega), Nat.zero_add]; exact z0
      · rw [E2 11 3 (by omega), w3]; exact z2
      · rw [y2 (0 + 26) (by omega), w8 72 _ (by omega), Nat.zero_add]; exact z3
      · rw [E2 (11 + 2) i (by omega), w7 i (by show i < (m (47 + 8 * k) 3).toNatClampNeg; omega), y2 (0 + 18 + i) (by omega), w8 72 _ (by omega), Nat.zero_add, z4 i hi, Nat.add_assoc]
      · rw [E 40 3 (by omega) (by omega)]; exact s2
      · rw [E 71 23 (by omega) (by omega)]; exact s3
      · rw [E45, E 82 j (by omega) (by omega)]
        exact h5 j hj
      · rw [E45] at hn
        obtain ⟨z0, b, z1, z2, z3, z4⟩ := h6 j hj hn
        refine ⟨?_, b, z1, ?_, ?_, fun i hi => ?_⟩
        · rw [E _ _ (by omega) (by omega), E 72 _ (by omega) (by omega)]; exact z0
        · rw [E _ _ (by omega) (by omega)]; exact z2
        · rw [E 72 _ (by omega) (by omega)]; exact z3
        · rw [E _ _ (by omega) (by omega), E 72 _ (by omega) (by omega)]; exact z4 i hi
