section
/-- the words that a call may take along -/
def zgd : List Cond := lw_tbl.filter goodWord
def zpos (i : Nat) (w : Cond) : Bool := decide (lw_tbl[i]? = some w) && goodWord w
theorem zpos_mem {i : Nat} {w : Cond} (h : zpos i w = true) : w ∈ zgd := by
  simp only [zpos, Bool.and_eq_true, decide_eq_true_eq] at h
  exact List.mem_filter.mpr ⟨List.mem_of_getElem? h.1, h.2⟩
def zfck (o : Nat) (rows : List (Nat × Nat × Nat × Nat)) : Bool := rows.all fun q => match zcn[o]?, vwCl[q.2.1]? with
  | some own, some r => zpos q.2.2.2 (.fieldLink own q.1 (r.2.1 q.2.2.1).1 (r.2.1 q.2.2.1).2.1 (r.2.1 q.2.2.1).2.2.1) && Nat.blt q.2.2.1 r.2.2
  | _, _ => false
def zall {α : Type} (f : Nat → α → Bool) : Nat → List α → Bool
  | _, [] => true
  | i, a :: r => f i a && zall f (i + 1) r
theorem zall_get {α : Type} {f : Nat → α → Bool} {l : List α} : ∀ {i : Nat}, zall f i l = true → ∀ (k : Nat) (a : α), l[k]? = some a → f (i + k) a = true := by
  induction l with
  | nil => intro i _ k a h; simp at h
  | cons b r ih =>
    intro i h k a hk
    simp only [zall, Bool.and_eq_true] at h
    cases k with
    | zero => simp at hk; subst hk; exact h.1
    | succ k =>
      simp at hk
      have := ih h.2 k a hk
      rw [show i + (k + 1) = i + 1 + k by omega]
      exact this
set_option maxRecDepth 100000 in
theorem zfls_ok : zall zfck 0 zfls = true := by decide +kernel
theorem zfl_get {o i ci k ps : Nat} (h : zlk zfls o i = some (ci, k, ps)) : ∃ own r, zcn[o]? = some own ∧ vwCl[ci]? = some r ∧ Cond.fieldLink own i (r.2.1 k).1 (r.2.1 k).2.1 (r.2.1 k).2.2.1 ∈ zgd ∧ k < r.2.2 := by
  obtain ⟨rows, h1, h2⟩ := zlk_mem h
  have h3 := zall_get zfls_ok o rows h1
  rw [Nat.zero_add] at h3
  unfold zfck at h3
  have h4 := List.all_eq_true.mp h3 _ h2
  dsimp only at h4
  cases hc : zcn[o]? with
  | none => rw [hc] at h4; simp at h4
  | some own =>
    cases hr : vwCl[ci]? with
    | none => rw [hc, hr] at h4; simp at h4
    | some r =>
      rw [hc, hr] at h4
      simp only [Bool.and_eq_true] at h4
      exact ⟨own, r, rfl, rfl, zpos_mem h4.1, by have := h4.2; simpa [Nat.blt_eq] using this⟩
def zmck (_ : Nat) (q : zMi × (Nat × Nat × Nat × Nat × Bool)) : Bool := (bif q.2.2.2.2.2 then zpos q.2.2.1 (.static q.1.1) else (zpos q.2.2.1 (.instanceMethod q.1.1) && (zpos q.2.2.2.1 (.selects q.1.1.cls q.1.1 q.1.1) || decide (q.1.1.name = "<init>")))) && zpos q.2.2.2.2.1 (.initialized q.1.1.cls) && decide (zcn[q.1.2.2.2.2.1]? = some q.1.1.cls)
end
section
/-! the methods: their words, their decoded code -/
def zdrk (cc : ByteArray) (i : Nat) (r : List (Option (Instr × Nat))) : Bool := zall (fun j x => match x with
  | none => true
  | some y => decide (decode cc (16 * i + j) = .ok y)) 0 r
def zdck (cc : ByteArray) : Nat → List (List (Option (Instr × Nat))) → Bool := zall (zdrk cc)
theorem zdck_c {cc : ByteArray} {i : Nat} {r : List (Option (Instr × Nat))} {t : List (List (Option (Instr × Nat)))} (h1 : zdrk cc i r = true) (h2 : zdck cc (i + 1) t = true) : zdck cc i (r :: t) = true := by
  unfold zdck at h2 ⊢
  simp only [zall, Bool.and_eq_true]
  exact ⟨h1, h2⟩
theorem zdck_0 {cc : ByteArray} {i : Nat} : zdck cc i [] = true := rfl
theorem zin_ok {cc : ByteArray} {t : List (List (Option (Instr × Nat)))} (h : zdck cc 0 t = true) {pc : Nat} {x : Instr × Nat} (hx : zin t pc = some x) : decode cc pc = .ok x := by
  unfold zin at hx
  cases h1 : t[pc / 16]? with
  | none => rw [h1] at hx; simp at hx
  | some r =>
    rw [h1] at hx
    dsimp only at hx
    cases h2 : r[pc % 16]? with
    | none => rw [h2] at hx; simp at hx
    | some y =>
      rw [h2] at hx
      dsimp only at hx
      subst hx
      have h3 := zall_get h _ r h1
      unfold zdrk at h3
      have h4 := zall_get h3 _ _ h2
      simp only [decide_eq_true_eq] at h4
      rw [show 16 * (0 + pc / 16) + (0 + pc % 16) = pc by omega] at h4
      exact h4
def zOK (mi : zMi) : Prop := zdck mi.2.1 0 mi.2.2.2.2.2 = true
theorem zo_X0_init : zOK zm_X0_init := by unfold zOK; decide +kernel
theorem zo_X0_clear : zOK zm_X0_clear := by unfold zOK; decide +kernel
theorem zo_X0_become : zOK zm_X0_become := by unfold zOK; decide +kernel
theorem zo_X0_has : zOK zm_X0_has := by unfold zOK; decide +kernel
theorem zo_X0_hasAll : zOK zm_X0_hasAll := by unfold zOK; decide +kernel
theorem zo_X0_join : zOK zm_X0_join := by unfold zOK; decide +kernel
theorem zo_X0_lefts : zOK zm_X0_lefts := by unfold zOK; decide +kernel
theorem zo_X0_useHands : zOK zm_X0_useHands := by unfold zOK; decide +kernel
theorem zo_X0_swapTurned : zOK zm_X0_swapTurned := by unfold zOK; decide +kernel
theorem zo_X0_leastOf : zOK zm_X0_leastOf := by unfold zOK; decide +kernel
theorem zo_X0_least : zOK zm_X0_least := by unfold zOK; decide +kernel
theorem zo_X0_greatest : zOK zm_X0_greatest := by unfold zOK; decide +kernel
theorem zo_X0_allTurned : zOK zm_X0_allTurned := by unfold zOK; decide +kernel
theorem zo_X0_allMarks : zOK zm_X0_allMarks := by unfold zOK; decide +kernel
theorem zo_X0_welcome : zOK zm_X0_welcome := by unfold zOK; decide +kernel
theorem zo_X0_opensTo : zOK zm_X0_opensTo := by unfold zOK; decide +kernel
theorem zo_X0_attempt : zOK zm_X0_attempt := by unfold zOK; decide +kernel
theorem zo_X0_calm : zOK zm_X0_calm := by unfold zOK; decide +kernel
theorem zo_X1_init : zOK zm_X1_init := by unfold zOK; decide +kernel
theorem zo_X1_become : zOK zm_X1_become := by unfold zOK; decide +kernel
theorem zo_X1_turned : zOK zm_X1_turned := by unfold zOK; decide +kernel
theorem zo_X1_setTurned : zOK zm_X1_setTurned := by unfold zOK; decide +kernel
theorem zo_X1_marks : zOK zm_X1_marks := by unfold zOK; decide +kernel
theorem zo_X1_enter : zOK zm_X1_enter := by unfold zOK; decide +kernel
theorem zo_X1_calm : zOK zm_X1_calm := by unfold zOK; decide +kernel
theorem zo_X2_init : zOK zm_X2_init := by unfold zOK; decide +kernel
theorem zo_X2_readAll : zOK zm_X2_readAll := by unfold zOK; decide +kernel
theorem zo_X2_fail : zOK zm_X2_fail := by unfold zOK; decide +kernel
theorem zo_X2_allAreThere : zOK zm_X2_allAreThere := by unfold zOK; decide +kernel
theorem zo_X2_readLine : zOK zm_X2_readLine := by unfold zOK; decide +kernel
theorem zo_X2_failToken : zOK zm_X2_failToken := by unfold zOK; decide +kernel
theorem zo_X2_wantsStop : zOK zm_X2_wantsStop := by unfold zOK; decide +kernel
theorem zo_X2_wantsNumber : zOK zm_X2_wantsNumber := by unfold zOK; decide +kernel
theorem zo_X2_readOne : zOK zm_X2_readOne := by unfold zOK; decide +kernel
theorem zo_X2_readLeft : zOK zm_X2_readLeft := by unfold zOK; decide +kernel
theorem zo_X2_readSlack : zOK zm_X2_readSlack := by unfold zOK; decide +kernel
theorem zo_X2_readPlan : zOK zm_X2_readPlan := by unfold zOK; decide +kernel
theorem zo_X2_next : zOK zm_X2_next := by unfold zOK; decide +kernel
theorem zo_X2_isLetter : zOK zm_X2_isLetter := by unfold zOK; decide +kernel
theorem zo_X2_isFigure : zOK zm_X2_isFigure := by unfold zOK; decide +kernel
theorem zo_X2_word : zOK zm_X2_word := by unfold zOK; decide +kernel
theorem zo_X2_spells : zOK zm_X2_spells := by unfold zOK; decide +kernel
theorem zo_X2_wordText : zOK zm_X2_wordText := by unfold zOK; decide +kernel
theorem zo_X3_init : zOK zm_X3_init := by unfold zOK; decide +kernel
theorem zo_X3_play : zOK zm_X3_play := by unfold zOK; decide +kernel
theorem zo_X3_note : zOK zm_X3_note := by unfold zOK; decide +kernel
theorem zo_X4_init : zOK zm_X4_init := by unfold zOK; decide +kernel
theorem zo_X4_inRow : zOK zm_X4_inRow := by unfold zOK; decide +kernel
theorem zo_X4_bestOrder : zOK zm_X4_bestOrder := by unfold zOK; decide +kernel
theorem zo_X4_arrange : zOK zm_X4_arrange := by unfold zOK; decide +kernel
theorem zo_X4_takeIfBetter : zOK zm_X4_takeIfBetter := by unfold zOK; decide +kernel
theorem zo_X4_shortestWait : zOK zm_X4_shortestWait := by unfold zOK; decide +kernel
theorem zo_X4_makesWay : zOK zm_X4_makesWay := by unfold zOK; decide +kernel
theorem zo_X5_init : zOK zm_X5_init := by unfold zOK; decide +kernel
theorem zo_X5_renew : zOK zm_X5_renew := by unfold zOK; decide +kernel
theorem zo_X5_faultAt : zOK zm_X5_faultAt := by unfold zOK; decide +kernel
theorem zo_X5_faultAs : zOK zm_X5_faultAs := by unfold zOK; decide +kernel
theorem zo_X5_write : zOK zm_X5_write := by unfold zOK; decide +kernel
theorem zo_X6_init : zOK zm_X6_init := by unfold zOK; decide +kernel
theorem zo_X6_note : zOK zm_X6_note := by unfold zOK; decide +kernel
theorem zo_X6_fits : zOK zm_X6_fits := by unfold zOK; decide +kernel
theorem zo_X6_clearTally : zOK zm_X6_clearTally := by unfold zOK; decide +kernel
theorem zo_X6_addToTally : zOK zm_X6_addToTally := by unfold zOK; decide +kernel
theorem zo_X6_worst : zOK zm_X6_worst := by unfold zOK; decide +kernel
theorem zo_X7_init : zOK zm_X7_init := by unfold zOK; decide +kernel
theorem zo_X7_feed : zOK zm_X7_feed := by unfold zOK; decide +kernel
theorem zo_X7_end : zOK zm_X7_end := by unfold zOK; decide +kernel
theorem zo_X7_text : zOK zm_X7_text := by unfold zOK; decide +kernel
theorem zo_X7_fault : zOK zm_X7_fault := by unfold zOK; decide +kernel
theorem zo_X7_rule : zOK zm_X7_rule := by unfold zOK; decide +kernel
theorem zo_X7_one : zOK zm_X7_one := by unfold zOK; decide +kernel
theorem zo_X7_act : zOK zm_X7_act := by unfold zOK; decide +kernel
theorem zo_X7_alter : zOK zm_X7_alter := by unfold zOK; decide +kernel
theorem zo_X7_mostOf : zOK zm_X7_mostOf := by unfold zOK; decide +kernel
theorem zo_X7_slack : zOK zm_X7_slack := by unfold zOK; decide +kernel
theorem zo_X7_plan : zOK zm_X7_plan := by unfold zOK; decide +kernel
theorem zo_X7_cut : zOK zm_X7_cut := by unfold zOK; decide +kernel
theorem zo_X7_turn : zOK zm_X7_turn := by unfold zOK; decide +kernel
theorem zo_X7_rest : zOK zm_X7_rest := by unfold zOK; decide +kernel
theorem zo_X7_runs : zOK zm_X7_runs := by unfold zOK; decide +kernel
theorem zo_X7_ahead : zOK zm_X7_ahead := by unfold zOK; decide +kernel
theorem zo_X7_round : zOK zm_X7_round := by unfold zOK; decide +kernel
theorem zo_X7_rehearse : zOK zm_X7_rehearse := by unfold zOK; decide +kernel
theorem zo_X7_order : zOK zm_X7_order := by unfold zOK; decide +kernel
theorem zo_X7_await : zOK zm_X7_await := by unfold zOK; decide +kernel
theorem zo_X7_asksForRow : zOK zm_X7_asksForRow := by unfold zOK; decide +kernel
theorem zo_X7_hands : zOK zm_X7_hands := by unfold zOK; decide +kernel
theorem zo_X7_clean : zOK zm_X7_clean := by unfold zOK; decide +kernel
theorem zo_X7_rehearseWith : zOK zm_X7_rehearseWith := by unfold zOK; decide +kernel
theorem zo_X7_trade : zOK zm_X7_trade := by unfold zOK; decide +kernel
theorem zo_X7_loose : zOK zm_X7_loose := by unfold zOK; decide +kernel
theorem zo_X7_rehearseSlack : zOK zm_X7_rehearseSlack := by unfold zOK; decide +kernel
theorem zo_X7_mean : zOK zm_X7_mean := by unfold zOK; decide +kernel
theorem zo_X7_luck : zOK zm_X7_luck := by unfold zOK; decide +kernel
theorem zo_X7_rehearseWithout : zOK zm_X7_rehearseWithout := by unfold zOK; decide +kernel
theorem zo_X7_odds : zOK zm_X7_odds := by unfold zOK; decide +kernel
theorem zo_X7_allOdds : zOK zm_X7_allOdds := by unfold zOK; decide +kernel
end
