/-! a head by pieces -/
theorem ymem_mem {n : Nat} : ∀ {l : List Nat}, ymem n l = true → n ∈ l
  | [], h => by simp [ymem] at h
  | a :: r, h => by
    simp only [ymem] at h
    cases hb : Nat.beq a n with
    | true => rw [(nbq _ _).mp hb]; exact List.mem_cons_self
    | false =>
      rw [hb] at h
      exact List.mem_cons_of_mem _ (ymem_mem h)
/-! the law's loop, from a head by pieces -/
def qLc (T : yT) (md : yMd) (N1 N2 : Nat) (heads : List qCt) (c : qCt) : Prop := ∀ (ρ : List Int) (st : zSt) (ys : List Int32), yScr ρ (some (2, 1, qwin c.1.2.1.length)) (some ys) → qG T md N1 N2 ρ ((18, c.1.2.1 ++ List.replicate 5 yI32, c.1.2.2.1, [], c.1.2.2.2.2), []) st → ∃ o t, qlo T heads o = true ∧ qEnd T md N1 N2 (some ys) 20 zm_L_law (ρ ++ t) st o
theorem qlc_ok {T : yT} {N1 N2 n : Nat} {Sg : List qSm} {P : List (Nat × Int × Int)} {md : yMd} {sp : List Nat} {heads : List qCt} {c : qCt} (hSg : ∀ s ∈ Sg, qOK T N1 N2 s) (h : qlc T Sg P n md sp heads c = true) : qLc T md N1 N2 heads c := by
  intro ρ st ys hs hG
  unfold qlc at h
  split at h
  · rename_i os hos
    obtain ⟨_, _, j3⟩ := q_run T N1 N2 Sg hSg P n _ _ _ _ _ _ _ _ _ hos
    obtain ⟨o, o1, t, o2⟩ := j3 _ List.mem_cons_self ρ st (some ys) hs hG
    exact ⟨o, t, List.all_eq_true.mp h o o1, o2⟩
  · cases h
def qlr (T : yT) (Sg : List qSm) (P : List (Nat × Int × Int)) (n : Nat) (md : yMd) (sp cps : List Nat) (w : List yV) (heads : List qCt) : Nat → qQ ⊕ qS → Bool
  | 0, _ => false
  | _ + 1, .inl q => qlo T heads (.inl q)
  | f + 1, .inr a => bif Nat.beq a.1.1 18 then qlo T heads (.inr a) else (match qrun T Sg P n md (18 :: cps) sp (some (2, 1, w)) 20 zm_L_law [(true, a.1, a.2)] [] with
    | some os => os.all (qlr T Sg P n md sp cps w heads f)
    | none => false)
def qopc : qQ ⊕ qS → Nat
  | .inl _ => 18
  | .inr a => a.1.1
def qlf (T : yT) (Sg : List qSm) (P : List (Nat × Int × Int)) (n : Nat) (md : yMd) (sp cps : List Nat) (c : qCt) : Option (List (qQ ⊕ qS)) := qrun T Sg P n md (18 :: cps) sp (some (2, 1, qwin c.1.2.1.length)) 20 zm_L_law [(true, (18, c.1.2.1 ++ List.replicate 5 yI32, c.1.2.2.1, [], c.1.2.2.2.2), [])] []
def qlg (T : yT) (Sg : List qSm) (P : List (Nat × Int × Int)) (n : Nat) (md : yMd) (sp cps : List Nat) (heads : List qCt) (c : qCt) (x : Nat) : Bool := match qlf T Sg P n md sp cps c with
  | some os => os.all (fun o => bif Nat.beq (qopc o) x then qlr T Sg P n md sp cps (qwin c.1.2.1.length) heads 4 o else ymem (qopc o) (18 :: cps))
  | none => false
theorem qlr_ok {T : yT} {N1 N2 n : Nat} {Sg : List qSm} {P : List (Nat × Int × Int)} {md : yMd} {sp cps : List Nat} {w : List yV} {heads : List qCt} (hSg : ∀ s ∈ Sg, qOK T N1 N2 s) : ∀ (f : Nat) (o : qQ ⊕ qS), qlr T Sg P n md sp cps w heads f o = true → ∀ (ρ : List Int) (st : zSt) (ys : List Int32), yScr ρ (some (2, 1, w)) (some ys) → qEnd T md N1 N2 (some ys) 20 zm_L_law ρ st o → ∃ o2 t, qlo T heads o2 = true ∧ qEnd T md N1 N2 (some ys) 20 zm_L_law (ρ ++ t) st o2
  | 0, o, h => by simp [qlr] at h
  | f + 1, .inl q, h => fun ρ st ys hs hE => ⟨.inl q, [], by simpa [qlr] using h, by rw [List.append_nil]; exact hE⟩
  | f + 1, .inr a, h => fun ρ st ys hs hE => by
    simp only [qlr] at h
    cases hb : Nat.beq a.1.1 18 with
    | true =>
      rw [hb] at h
      exact ⟨.inr a, [], h, by rw [List.append_nil]; exact hE⟩
    | false =>
      rw [hb] at h
      simp only [cond_false] at h
      split at h
      · rename_i os hos
        obtain ⟨st', g1, g2, g3⟩ := hE
        obtain ⟨_, _, j3⟩ := q_run T N1 N2 Sg hSg P n _ _ _ _ _ _ _ _ _ hos
        obtain ⟨o, o1, t, o2⟩ := j3 _ List.mem_cons_self ρ st' (some ys) hs g1
        obtain ⟨o3, t3, k1, k2⟩ := qlr_ok hSg f o (List.all_eq_true.mp h o o1) (ρ ++ t) st' ys (yScr_more t hs) o2
        refine ⟨o3, t ++ t3, k1, ?_⟩
        rw [← List.append_assoc]
        match o3, k2 with
        | .inl q, k2 =>
          obtain ⟨r, h', x1, x2, x3⟩ := k2
          exact ⟨r, h', g3 _ _ x1, yFr_tr g2 x2, x3⟩
        | .inr b, k2 =>
          obtain ⟨s2, x1, x2, x3⟩ := k2
          exact ⟨s2, x1, yFr_tr g2 x2, fun r h' q => g3 _ _ (x3 r h' q)⟩
      · cases h
theorem qlg_ok {T : yT} {N1 N2 n : Nat} {Sg : List qSm} {P : List (Nat × Int × Int)} {md : yMd} {sp cps : List Nat} {heads : List qCt} {c : qCt} (hSg : ∀ s ∈ Sg, qOK T N1 N2 s) (h : ∀ x ∈ 18 :: cps, qlg T Sg P n md sp cps heads c x = true) : qLc T md N1 N2 heads c := by
  intro ρ st ys hs hG
  have h18 := h 18 List.mem_cons_self
  unfold qlg at h18
  cases hf : qlf T Sg P n md sp cps c with
  | none => rw [hf] at h18; cases h18
  | some os =>
    rw [hf] at h18
    have hf2 := hf
    unfold qlf at hf2
    obtain ⟨_, _, j3⟩ := q_run T N1 N2 Sg hSg P n _ _ _ _ _ _ _ _ _ hf2
    obtain ⟨o, o1, t, o2⟩ := j3 _ List.mem_cons_self ρ st (some ys) hs hG
    have hm : qopc o ∈ 18 :: cps := by
      have h1 := List.all_eq_true.mp h18 o o1
      try dsimp only at h1
      cases hb : Nat.beq (qopc o) 18 with
      | true => rw [(nbq _ _).mp hb]; exact List.mem_cons_self
      | false =>
        rw [hb] at h1
        exact ymem_mem h1
    have hx := h _ hm
    unfold qlg at hx
    rw [hf] at hx
    have h1 := List.all_eq_true.mp hx o o1
    try dsimp only at h1
    rw [(nbq _ _).mpr rfl] at h1
    simp only [cond_true] at h1
    obtain ⟨o3, t3, k1, k2⟩ := qlr_ok hSg 4 o h1 (ρ ++ t) st ys (yScr_more t hs) o2
    exact ⟨o3, t ++ t3, k1, by rw [← List.append_assoc]; exact k2⟩
set_option maxRecDepth 100000 in
theorem qhb15 : (List.range 5).all (qlx yT1 qSgs qP 20000 qAl qh15) = true := by decide +kernel
