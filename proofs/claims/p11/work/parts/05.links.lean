/-- the words that a call may take along -/
def zgd : List Cond := lw_tbl.filter goodWord
def zpos (i : Nat) (w : Cond) : Bool := decide (lw_tbl[i]? = some w) && goodWord w
theorem zpos_mem {i : Nat} {w : Cond} (h : zpos i w = true) : w ∈ zgd := by
  simp only [zpos, Bool.and_eq_true, decide_eq_true_eq] at h
  exact List.mem_filter.mpr ⟨List.mem_of_getElem? h.1, h.2⟩
def zfck (o : Nat) (rows : List (Nat × Nat × Nat × Nat)) : Bool := rows.all fun q => match zcn[o]?, vwCl[q.2.1]? with
  | some own, some r => zpos q.2.2.2 (.fieldLink own q.1 (r.2.1 q.2.2.1).1 (r.2.1 q.2.2.1).2.1 (r.2.1 q.2.2.1).2.2.1) && Nat.blt q.2.2.1 r.2.2
  | _, _ => false
def zall {α : Type} (f : Nat → α → Bool) : Nat → List α → Bool
  | _, [] => true
  | i, a :: r => f i a && zall f (i + 1) r
theorem zall_get {α : Type} {f : Nat → α → Bool} {l : List α} : ∀ {i : Nat}, zall f i l = true → ∀ (k : Nat) (a : α), l[k]? = some a → f (i + k) a = true := by
  induction l with
  | nil => intro i _ k a h; simp at h
  | cons b r ih =>
    intro i h k a hk
    simp only [zall, Bool.and_eq_true] at h
    cases k with
    | zero => simp at hk; subst hk; exact h.1
    | succ k =>
      simp at hk
      have := ih h.2 k a hk
      rw [show i + (k + 1) = i + 1 + k by omega]
      exact this
set_option maxRecDepth 100000 in
theorem zfls_ok : zall zfck 0 zfls = true := by decide +kernel
theorem zfl_get {o i ci k ps : Nat} (h : zlk zfls o i = some (ci, k, ps)) : ∃ own r, zcn[o]? = some own ∧ vwCl[ci]? = some r ∧ Cond.fieldLink own i (r.2.1 k).1 (r.2.1 k).2.1 (r.2.1 k).2.2.1 ∈ zgd ∧ k < r.2.2 := by
  obtain ⟨rows, h1, h2⟩ := zlk_mem h
  have h3 := zall_get zfls_ok o rows h1
  rw [Nat.zero_add] at h3
  unfold zfck at h3
  have h4 := List.all_eq_true.mp h3 _ h2
  dsimp only at h4
  cases hc : zcn[o]? with
  | none => rw [hc] at h4; simp at h4
  | some own =>
    cases hr : vwCl[ci]? with
    | none => rw [hc, hr] at h4; simp at h4
    | some r =>
      rw [hc, hr] at h4
      simp only [Bool.and_eq_true] at h4
      exact ⟨own, r, rfl, rfl, zpos_mem h4.1, by have := h4.2; simpa [Nat.blt_eq] using this⟩
def zmck (_ : Nat) (q : zMi × (Nat × Nat × Nat × Nat × Bool)) : Bool := (bif q.2.2.2.2.2 then zpos q.2.2.1 (.static q.1.1) else (zpos q.2.2.1 (.instanceMethod q.1.1) && (zpos q.2.2.2.1 (.selects q.1.1.cls q.1.1 q.1.1) || decide (q.1.1.name = "<init>")))) && zpos q.2.2.2.2.1 (.initialized q.1.1.cls) && decide (zcn[q.1.2.2.2.2.1]? = some q.1.1.cls)
