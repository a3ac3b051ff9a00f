/-! a small machine over numbered cells: types -/
abbrev zC : Type := (Nat ⊕ Nat) × List Value
abbrev zHp : Type := List zC
abbrev zLo : Type := List (Nat × Value)
abbrev zSt : Type := Nat × zLo × List Value × zHp
abbrev zMi : Type := MethodName × ByteArray × Nat × Option FieldType × Nat × List (List (Option (Instr × Nat)))
abbrev zR : Type := zSt ⊕ ((Nat × Nat × List Value × List Value) ⊕ Option Value)
def zas2 {α : Type} : List (Nat × α) → Nat → Option α
  | [], _ => none
  | (k, v) :: r, i => bif Nat.beq k i then some v else zas2 r i
def zlk {α : Type} (t : List (List (Nat × α))) (o i : Nat) : Option α := match t[o]? with
  | some r => zas2 r i
  | none => none
def zin (t : List (List (Option (Instr × Nat)))) (pc : Nat) : Option (Instr × Nat) := match t[pc / 16]? with
  | some r => (match r[pc % 16]? with
    | some x => x
    | none => none)
  | none => none
theorem zas2_mem {α : Type} {l : List (Nat × α)} {i : Nat} {v : α} (h : zas2 l i = some v) : (i, v) ∈ l := by
  induction l with
  | nil => simp [zas2] at h
  | cons a r ih =>
    obtain ⟨k, w⟩ := a
    simp only [zas2] at h
    cases hb : Nat.beq k i with
    | true =>
      rw [hb] at h
      simp at h
      have hk : k = i := Nat.eq_of_beq_eq_true hb
      subst hk; subst h
      exact List.mem_cons_self
    | false =>
      rw [hb] at h
      exact List.mem_cons_of_mem _ (ih h)
theorem zlk_mem {α : Type} {t : List (List (Nat × α))} {o i : Nat} {v : α} (h : zlk t o i = some v) : ∃ r, t[o]? = some r ∧ (i, v) ∈ r := by
  unfold zlk at h
  cases ht : t[o]? with
  | none => rw [ht] at h; simp at h
  | some r => rw [ht] at h; exact ⟨r, rfl, zas2_mem h⟩
