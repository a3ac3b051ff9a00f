/-! the heap as a memory of ints -/
abbrev zM : Type := Nat → Nat → Int32
abbrev zLc : Type := (Nat ⊕ Nat) × List (Option Value)
/-- kinds of the cells; their places: none, an int; some, a reference that stays -/
def zLY : List zLc := [
  (Sum.inr 7, [some (.ref 1), some (.ref 11), some (.ref 19), some (.ref 29), some (.ref 40), some (.ref 44), some (.ref 45), some (.ref 46), none]),
  (Sum.inr 2, [some (.ref 2), some (.ref 3), none, none, none, none, none, none, none, none, none, none, none]),
  (Sum.inl 1, List.replicate 160 none),
  (Sum.inr 0, [some (.ref 4), some (.ref 5), none, none, none, none]),
  (Sum.inl 4, [some (.ref 6), some (.ref 7), some (.ref 8), some (.ref 9), some (.ref 10)]),
  (Sum.inl 0, List.replicate 8 none),
  (Sum.inr 1, List.replicate 4 none),
  (Sum.inr 1, List.replicate 4 none),
  (Sum.inr 1, List.replicate 4 none),
  (Sum.inr 1, List.replicate 4 none),
  (Sum.inr 1, List.replicate 4 none),
  (Sum.inr 0, [some (.ref 12), some (.ref 13), none, none, none, none]),
  (Sum.inl 4, [some (.ref 14), some (.ref 15), some (.ref 16), some (.ref 17), some (.ref 18)]),
  (Sum.inl 0, List.replicate 8 none),
  (Sum.inr 1, List.replicate 4 none),
  (Sum.inr 1, List.replicate 4 none),
  (Sum.inr 1, List.replicate 4 none),
  (Sum.inr 1, List.replicate 4 none),
  (Sum.inr 1, List.replicate 4 none),
  (Sum.inr 3, [some (.ref 20), some (.ref 28), none, none, none]),
  (Sum.inr 0, [some (.ref 21), some (.ref 22), none, none, none, none]),
  (Sum.inl 4, [some (.ref 23), some (.ref 24), some (.ref 25), some (.ref 26), some (.ref 27)]),
  (Sum.inl 0, List.replicate 8 none),
  (Sum.inr 1, List.replicate 4 none),
  (Sum.inr 1, List.replicate 4 none),
  (Sum.inr 1, List.replicate 4 none),
  (Sum.inr 1, List.replicate 4 none),
  (Sum.inr 1, List.replicate 4 none),
  (Sum.inl 0, List.replicate 8 none),
  (Sum.inr 4, [some (.ref 30), some (.ref 38), some (.ref 39), none, none]),
  (Sum.inr 0, [some (.ref 31), some (.ref 32), none, none, none, none]),
  (Sum.inl 4, [some (.ref 33), some (.ref 34), some (.ref 35), some (.ref 36), some (.ref 37)]),
  (Sum.inl 0, List.replicate 8 none),
  (Sum.inr 1, List.replicate 4 none),
  (Sum.inr 1, List.replicate 4 none),
  (Sum.inr 1, List.replicate 4 none),
  (Sum.inr 1, List.replicate 4 none),
  (Sum.inr 1, List.replicate 4 none),
  (Sum.inl 0, List.replicate 5 none),
  (Sum.inl 0, List.replicate 5 none),
  (Sum.inr 6, [some (.ref 41), some (.ref 42), some (.ref 43), none]),
  (Sum.inl 0, List.replicate 6 none),
  (Sum.inl 0, List.replicate 6 none),
  (Sum.inl 0, List.replicate 48 none),
  (Sum.inl 3, [some (.ref 47), some (.ref 55)]),
  (Sum.inl 2, List.replicate 2 none),
  (Sum.inl 8, [some (.ref 63), some (.ref 65), some (.ref 67), some (.ref 69)]),
  (Sum.inr 0, [some (.ref 48), some (.ref 49), none, none, none, none]),
  (Sum.inl 4, [some (.ref 50), some (.ref 51), some (.ref 52), some (.ref 53), some (.ref 54)]),
  (Sum.inl 0, List.replicate 8 none),
  (Sum.inr 1, List.replicate 4 none),
  (Sum.inr 1, List.replicate 4 none),
  (Sum.inr 1, List.replicate 4 none),
  (Sum.inr 1, List.replicate 4 none),
  (Sum.inr 1, List.replicate 4 none),
  (Sum.inr 0, [some (.ref 56), some (.ref 57), none, none, none, none]),
  (Sum.inl 4, [some (.ref 58), some (.ref 59), some (.ref 60), some (.ref 61), some (.ref 62)]),
  (Sum.inl 0, List.replicate 8 none),
  (Sum.inr 1, List.replicate 4 none),
  (Sum.inr 1, List.replicate 4 none),
  (Sum.inr 1, List.replicate 4 none),
  (Sum.inr 1, List.replicate 4 none),
  (Sum.inr 1, List.replicate 4 none),
  (Sum.inr 5, [some (.ref 64), none, none, none]),
  (Sum.inl 0, List.replicate 40 none),
  (Sum.inr 5, [some (.ref 66), none, none, none]),
  (Sum.inl 0, List.replicate 40 none),
  (Sum.inr 5, [some (.ref 68), none, none, none]),
  (Sum.inl 0, List.replicate 40 none),
  (Sum.inr 5, [some (.ref 70), none, none, none]),
  (Sum.inl 0, List.replicate 40 none),
  (Sum.inr 8, [some (.ref 72), some (.ref 73), none, some (.ref 74), none, none, none, some (.ref 75), none, none, none, none, none, none, none, none, some (.ref 76), some (.ref 77), none, none, none, some (.ref 78), some (.ref 79), none, some (.ref 80), some (.ref 81), some (.ref 82), some (.ref 83), some (.ref 84), some (.ref 85), none]),
  (Sum.inl 0, List.replicate 135 none),
  (Sum.inl 0, List.replicate 4 none),
  (Sum.inl 0, List.replicate 27 none),
  (Sum.inl 0, List.replicate 160 none),
  (Sum.inl 0, List.replicate 8 none),
  (Sum.inl 0, List.replicate 35 none),
  (Sum.inl 0, List.replicate 8 none),
  (Sum.inl 0, List.replicate 12 none),
  (Sum.inl 0, List.replicate 168 none),
  (Sum.inl 2, List.replicate 21 none),
  (Sum.inl 2, List.replicate 2 none),
  (Sum.inl 0, List.replicate 4 none),
  (Sum.inl 0, List.replicate 4 none),
  (Sum.inl 0, List.replicate 160 none)]
def zhpc (f : Nat → Int32) : Nat → List (Option Value) → List Value
  | _, [] => []
  | i, o :: r => o.getD (.int (f i)) :: zhpc f (i + 1) r
def zhpg (m : zM) : Nat → List zLc → zHp
  | _, [] => []
  | k, c :: s => (c.1, zhpc (m k) 0 c.2) :: zhpg m (k + 1) s
/-- the heap in which the places of ints hold what m says -/
def zhp (m : zM) : zHp := zhpg m 0 zLY
theorem zhpc_get (f : Nat → Int32) : ∀ (r : List (Option Value)) (j i : Nat), (zhpc f j r)[i]? = (r[i]?).map (fun o => o.getD (.int (f (j + i))))
  | [], j, i => by simp [zhpc]
  | o :: r, j, 0 => by simp [zhpc]
  | o :: r, j, i + 1 => by
    simp only [zhpc, List.getElem?_cons_succ]
    rw [zhpc_get f r (j + 1) i, show j + 1 + i = j + (i + 1) by omega]
theorem zhpg_get (m : zM) : ∀ (s : List zLc) (j k : Nat), (zhpg m j s)[k]? = (s[k]?).map (fun c => (c.1, zhpc (m (j + k)) 0 c.2))
  | [], j, k => by simp [zhpg]
  | c :: s, j, 0 => by simp [zhpg]
  | c :: s, j, k + 1 => by
    simp only [zhpg, List.getElem?_cons_succ]
    rw [zhpg_get m s (j + 1) k, show j + 1 + k = j + (k + 1) by omega]
theorem zhpc_len (f : Nat → Int32) : ∀ (r : List (Option Value)) (j : Nat), (zhpc f j r).length = r.length
  | [], j => rfl
  | o :: r, j => by simp only [zhpc, List.length_cons]; rw [zhpc_len f r (j + 1)]
theorem zhp_g0 (m : zM) (k : Nat) : (zhp m)[k]? = (zLY[k]?).map (fun c => (c.1, zhpc (m k) 0 c.2)) := by
  unfold zhp
  rw [zhpg_get]
  simp only [Nat.zero_add]
theorem zhp_get {m : zM} {k : Nat} {c : zLc} (hc : zLY[k]? = some c) : (zhp m)[k]? = some (c.1, zhpc (m k) 0 c.2) := by
  rw [zhp_g0, hc]
  rfl
def zup (m : zM) (k i : Nat) (v : Int32) : zM := fun a b => if a = k ∧ b = i then v else m a b
theorem zhp_set {m : zM} {k i : Nat} {c : zLc} {v : Int32} (hc : zLY[k]? = some c) (hi : c.2[i]? = some none) : (zhp m).set k (c.1, (zhpc (m k) 0 c.2).set i (.int v)) = zhp (zup m k i v) := by
  apply List.ext_getElem?
  intro n
  rw [List.getElem?_set]
  by_cases hn : k = n
  · subst hn
    have hl : k < (zhp m).length := by
      rcases Nat.lt_or_ge k (zhp m).length with w | w
      · exact w
      · have := zhp_get (m := m) hc
        rw [List.getElem?_eq_none w] at this
        cases this
    rw [if_pos rfl, if_pos hl, zhp_get hc]
    congr 2
    apply List.ext_getElem?
    intro j
    have hil : i < (zhpc (m k) 0 c.2).length := by
      rw [zhpc_len]
      exact (List.getElem?_eq_some_iff.mp hi).1
    rw [List.getElem?_set, zhpc_get, zhpc_get]
    by_cases hj : i = j
    · subst hj
      rw [if_pos rfl, if_pos hil, hi]
      simp [zup]
    · rw [if_neg hj]
      have : zup m k i v k (0 + j) = m k (0 + j) := by
        simp only [zup, Nat.zero_add, true_and]
        rw [if_neg (fun w => hj w.symm)]
      rw [this]
  · rw [if_neg hn, zhp_g0, zhp_g0]
    have : zup m k i v n = m n := by
      funext b
      simp only [zup]
      rw [if_neg (fun w => hn w.1.symm)]
    rw [this]
theorem zup_s (m : zM) (k i : Nat) (v : Int32) : zup m k i v k i = v := by simp [zup]
theorem zup_n {m : zM} {k i a b : Nat} {v : Int32} (h : ¬ (a = k ∧ b = i)) : zup m k i v a b = m a b := by
  simp only [zup]
  rw [if_neg h]
/-! runs read backwards -/
theorem zEv_is {sc : Option (List Int32)} {d : Nat} {mi : zMi} {st : zSt} {r : Option Value} {h' : zHp} (H : zEv sc d mi st r h') : ∃ x, zstep sc mi st = some x := by
  obtain ⟨n, hn⟩ := H
  cases n with
  | zero => simp [zex] at hn
  | succ n =>
    rw [zex] at hn
    cases hs : zstep sc mi st with
    | none => rw [hs] at hn; cases hn
    | some x => exact ⟨x, rfl⟩
theorem zEv_i1 {sc : Option (List Int32)} {d : Nat} {mi : zMi} {st st' : zSt} {r : Option Value} {h' : zHp} (H : zEv sc d mi st r h') (hs : zstep sc mi st = some (.inl st')) : zEv sc d mi st' r h' := by
  obtain ⟨n, hn⟩ := H
  cases n with
  | zero => simp [zex] at hn
  | succ n =>
    rw [zex, hs] at hn
    exact ⟨n, hn⟩
theorem zEv_ir {sc : Option (List Int32)} {d : Nat} {mi : zMi} {st : zSt} {r q : Option Value} {h' : zHp} (H : zEv sc d mi st r h') (hs : zstep sc mi st = some (.inr (.inr q))) : r = q ∧ h' = st.2.2.2 := by
  obtain ⟨n, hn⟩ := H
  cases n with
  | zero => simp [zex] at hn
  | succ n =>
    rw [zex, hs] at hn
    simp only [Option.some.injEq, Prod.mk.injEq] at hn
    exact ⟨hn.1.symm, hn.2.symm⟩
theorem zEv_ic {sc : Option (List Int32)} {d kd id : Nat} {as rest : List Value} {mi mi' : zMi} {st : zSt} {r : Option Value} {h' : zHp} (H : zEv sc d mi st r h') (hs : zstep sc mi st = some (.inr (.inl (kd, id, as, rest)))) (hm : zms[id]? = some mi') : ∃ r1 h1, zEv none (d - 1) mi' (0, lv_args 0 as, [], st.2.2.2) r1 h1 ∧ zEv sc d mi (st.1 + 3, st.2.1, r1.toList ++ rest, h1) r h' := by
  obtain ⟨n, hn⟩ := H
  cases n with
  | zero => simp [zex] at hn
  | succ n =>
    rw [zex, hs] at hn
    simp only [hm, Option.bind_some, Option.bind_eq_some_iff] at hn
    obtain ⟨_, h1, q, h2, h3⟩ := hn
    exact ⟨q.1, q.2, ⟨n, h2⟩, ⟨n, h3⟩⟩
/-- the locals that are known; null: not known -/
def zcp (L : List Value) (lo : zLo) : Prop := ∀ (k : Nat) (v : Value), L[k]? = some v → v ≠ .null → zas2 lo k = some v
def zE (sc : Option (List Int32)) (d : Nat) (mi : zMi) (pc : Nat) (L sk : List Value) (m : zM) (r : Option Value) (h' : zHp) : Prop := ∃ lo, zcp L lo ∧ zEv sc d mi (pc, lo, sk, zhp m) r h'
theorem zstep_of {sc : Option (List Int32)} {mi : zMi} {pc len : Nat} {ins : Instr} {lo : zLo} {sk : List Value} {h : zHp} (hi : zin mi.2.2.2.2.2 pc = some (ins, len)) : zstep sc mi (pc, lo, sk, h) = zst sc mi ins len pc lo sk h := by
  unfold zstep
  dsimp only
  rw [hi]
  rfl
theorem zas2_flt {α : Type} {p : Nat × α → Bool} {k : Nat} {w : α} : ∀ {l : List (Nat × α)}, zas2 l k = some w → p (k, w) = true → zas2 (l.filter p) k = some w
  | [], h, _ => by simp [zas2] at h
  | (a, b) :: r, h, hp => by
    simp only [zas2] at h
    cases hb : Nat.beq a k with
    | true =>
      rw [hb] at h
      simp only [cond_true, Option.some.injEq] at h
      have e := Nat.eq_of_beq_eq_true hb
      subst e
      subst h
      rw [List.filter_cons_of_pos hp]
      simp [zas2]
    | false =>
      rw [hb] at h
      simp only [cond_false] at h
      by_cases hq : p (a, b) = true
      · rw [List.filter_cons_of_pos hq]
        simp only [zas2, hb, cond_false]
        exact zas2_flt h hp
      · rw [List.filter_cons_of_neg hq]
        exact zas2_flt h hp
theorem nbq_f {i k : Nat} (h : ¬ i = k) : Nat.beq i k = false := by
  cases hb : Nat.beq i k with
  | false => rfl
  | true => exact absurd (Nat.eq_of_beq_eq_true hb) h
/-- the place before this one holds no long -/
def zok1 (L : List Value) : Nat → Bool
  | 0 => true
  | j + 1 => match L[j]? with
    | some (.int _) => true
    | some (.ref _) => true
    | some (.retAddr _) => true
    | some .null => true
    | none => true
    | _ => false
theorem zok1_ok {L : List Value} {i k : Nat} {v : Value} (h : zok1 L i = true) (hk : L[k]? = some v) (hi : k + 1 = i) : v.category ≠ 2 := by
  subst hi
  simp only [zok1, hk] at h
  cases v <;> simp [Value.category] at h ⊢
theorem zcp_s1 {L : List Value} {lo : zLo} {i : Nat} {v : Value} (h : zcp L lo) (hk : zok1 L i = true) : zcp (L.set i v) (zs1 lo i v) := by
  intro k w hw hn
  rw [List.getElem?_set] at hw
  unfold zs1
  simp only [zas2]
  by_cases hik : i = k
  · subst hik
    rw [if_pos rfl] at hw
    split at hw
    · simp only [Option.some.injEq] at hw
      subst hw
      simp
    · cases hw
  · rw [if_neg hik] at hw
    rw [nbq_f hik]
    simp only [cond_false]
    refine zas2_flt (h k w hw hn) ?_
    have h2 : k ≠ i := fun e => hik e.symm
    by_cases h3 : k + 1 = i
    · have := zok1_ok hk hw h3
      simp [h2, this]
    · simp [h2, h3]
theorem zcp_s2 {L : List Value} {lo : zLo} {i : Nat} {v : Value} (h : zcp L lo) (hk : zok1 L i = true) : zcp ((L.set i v).set (i + 1) .null) (zs2 lo i v) := by
  intro k w hw hn
  rw [List.getElem?_set] at hw
  by_cases hik1 : i + 1 = k
  · rw [if_pos hik1] at hw
    split at hw
    · simp only [Option.some.injEq] at hw
      exact absurd hw.symm hn
    · cases hw
  · rw [if_neg hik1, List.getElem?_set] at hw
    unfold zs2
    simp only [zas2]
    by_cases hik : i = k
    · subst hik
      rw [if_pos rfl] at hw
      split at hw
      · simp only [Option.some.injEq] at hw
        subst hw
        simp
      · cases hw
    · rw [if_neg hik] at hw
      rw [nbq_f hik]
      simp only [cond_false]
      refine zas2_flt (h k w hw hn) ?_
      have h2 : k ≠ i := fun e => hik e.symm
      have h4 : k ≠ i + 1 := fun e => hik1 e.symm
      by_cases h3 : k + 1 = i
      · have := zok1_ok hk hw h3
        simp [h2, h4, this]
      · simp [h2, h3, h4]
theorem zcp_ar : ∀ (as : List Value) (j k : Nat) (v : Value), as.all (fun v => v.category == 1) = true → as[k]? = some v → zas2 (lv_args j as) (j + k) = some v
  | [], j, k, v, _, h => by simp at h
  | a :: as, j, 0, v, hc, h => by
    simp only [List.getElem?_cons_zero, Option.some.injEq] at h
    subst h
    simp [lv_args, zas2]
  | a :: as, j, k + 1, v, hc, h => by
    simp only [List.all_cons, Bool.and_eq_true, beq_iff_eq] at hc
    simp only [List.getElem?_cons_succ] at h
    have e : Nat.beq j (j + (k + 1)) = false := by
      cases hb : Nat.beq j (j + (k + 1)) with
      | false => rfl
      | true => have := Nat.eq_of_beq_eq_true hb; omega
    have ih := zcp_ar as (j + 1) k v hc.2 h
    rw [show j + 1 + k = j + (k + 1) by omega] at ih
    simp only [lv_args, zas2, e, cond_false, hc.1]
    exact ih
theorem zcp_args {as : List Value} (p : Nat) (hc : as.all (fun v => v.category == 1) = true) : zcp (as ++ List.replicate p .null) (lv_args 0 as) := by
  intro k v hk hn
  by_cases hl : k < as.length
  · rw [List.getElem?_append_left hl] at hk
    have := zcp_ar as 0 k v hc hk
    rw [Nat.zero_add] at this
    exact this
  · rw [List.getElem?_append_right (by omega), List.getElem?_replicate] at hk
    split at hk
    · simp only [Option.some.injEq] at hk
      exact absurd hk.symm hn
    · cases hk
