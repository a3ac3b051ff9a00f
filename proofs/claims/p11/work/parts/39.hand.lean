/-! the reference's lowest: Euclid -/
def lwA (A B : Int64) (W : Int32) : zLo := [(0, .long A), (2, .long B), (4, .int W)]
def lwH (A B : Int64) (W : Int32) (a b c : Int64) : zLo := (7, .long b) :: (5, .long a) :: (9, .long c) :: lwA A B W
theorem lw_t : zm_X8_lowest.2.2.2.2.2 = zt_X8_lowest := by
  unfold zm_X8_lowest
  rfl
theorem lso {pc : Nat} {lo : zLo} {sk : List Value} {h : zHp} {q : Instr × Nat} {x : Option zR} (h1 : zin zt_X8_lowest pc = some q) (h2 : zst none zm_X8_lowest q.1 q.2 pc lo sk h = x) : zstep none zm_X8_lowest (pc, lo, sk, h) = x := by
  unfold zstep
  rw [lw_t]
  dsimp only
  rw [h1, Option.bind_some]
  exact h2
theorem lw_c0 : lg_cmp 0 0 = 0 := by decide +kernel
theorem lw_cn {b : Int64} (h : ¬ b = 0) : ¬ lg_cmp b 0 = 0 := by
  unfold lg_cmp
  by_cases h1 : b > 0
  · rw [if_pos h1]; decide
  · rw [if_neg h1, if_neg h]; decide
section LOW
variable {d : Nat} {A B a b c : Int64} {W : Int32} {hh : zHp} {r : Option Value} {h' : zHp}
set_option maxRecDepth 100000 in
theorem lw_it (hb : ¬ b = 0) (k : zEv none d zm_X8_lowest (6, lwH A B W b (a - a / b * b) (a - a / b * b), [], hh) r h') : zEv none d zm_X8_lowest (6, lwH A B W a b c, [], hh) r h' := by
  refine zEv_step (st' := (8, lwH A B W a b c, [.long b], hh)) (lso (q := (.lload 7, 2)) rfl rfl) ?_
  refine zEv_step (st' := (9, lwH A B W a b c, [.long 0, .long b], hh)) (lso (q := (.lconst 0, 1)) rfl rfl) ?_
  refine zEv_step (st' := (10, lwH A B W a b c, [.int (lg_cmp b 0)], hh)) (lso (q := (.lcmp, 1)) rfl rfl) ?_
  have h10 : zstep none zm_X8_lowest (10, lwH A B W a b c, [.int (lg_cmp b 0)], hh) = if zcd .eq (lg_cmp b 0) 0 = true then some (.inl (31, lwH A B W a b c, [], hh)) else some (.inl (13, lwH A B W a b c, [], hh)) := lso (q := (.ifCond .eq 21, 3)) rfl rfl
  have hz : ¬ zcd .eq (lg_cmp b 0) 0 = true := fun q => lw_cn hb (of_decide_eq_true q)
  rw [if_neg hz] at h10
  refine zEv_step h10 ?_
  refine zEv_step (st' := (15, lwH A B W a b c, [.long a], hh)) (lso (q := (.lload 5, 2)) rfl rfl) ?_
  refine zEv_step (st' := (17, lwH A B W a b c, [.long b, .long a], hh)) (lso (q := (.lload 7, 2)) rfl rfl) ?_
  have h17 : zstep none zm_X8_lowest (17, lwH A B W a b c, [.long b, .long a], hh) = (if b = 0 then none else some (a - a / b * b)).bind fun v => zN 18 (lwH A B W a b c) (.long v :: []) hh := lso (q := (.lrem, 1)) rfl rfl
  rw [if_neg hb] at h17
  refine zEv_step h17 ?_
  refine zEv_step (st' := (20, (9, .long (a - a / b * b)) :: (7, .long b) :: (5, .long a) :: lwA A B W, [], hh)) (lso (q := (.lstore 9, 2)) rfl rfl) ?_
  refine zEv_step (st' := (22, (9, .long (a - a / b * b)) :: (7, .long b) :: (5, .long a) :: lwA A B W, [.long b], hh)) (lso (q := (.lload 7, 2)) rfl rfl) ?_
  refine zEv_step (st' := (24, (5, .long b) :: (9, .long (a - a / b * b)) :: (7, .long b) :: lwA A B W, [], hh)) (lso (q := (.lstore 5, 2)) rfl rfl) ?_
  refine zEv_step (st' := (26, (5, .long b) :: (9, .long (a - a / b * b)) :: (7, .long b) :: lwA A B W, [.long (a - a / b * b)], hh)) (lso (q := (.lload 9, 2)) rfl rfl) ?_
  refine zEv_step (st' := (28, lwH A B W b (a - a / b * b) (a - a / b * b), [], hh)) (lso (q := (.lstore 7, 2)) rfl rfl) ?_
  refine zEv_step (st' := (6, lwH A B W b (a - a / b * b) (a - a / b * b), [], hh)) (lso (q := (.goto (-22), 3)) rfl rfl) ?_
  exact k
set_option maxRecDepth 100000 in
theorem lw_end (ha : ¬ a = 0) : ∃ R, zEv none d zm_X8_lowest (6, lwH A B W a 0 c, [], hh) (some (.long R)) hh := by
  have hdiv : ∀ x : Int64, zEv none d zm_X8_lowest (43, lwH A B W a 0 c, [.long a, .long x], hh) (some (.long (x / a))) hh := by
    intro x
    have h43 : zstep none zm_X8_lowest (43, lwH A B W a 0 c, [.long a, .long x], hh) = (if a = 0 then none else some (x / a)).bind fun v => zN 44 (lwH A B W a 0 c) (.long v :: []) hh := lso (q := (.ldiv, 1)) rfl rfl
    rw [if_neg ha] at h43
    refine zEv_step h43 ?_
    exact zEv_ret (r := some (.long (x / a))) (lso (q := (.lreturn, 1)) rfl rfl)
  have hpre : ∀ R, zEv none d zm_X8_lowest (33, lwH A B W a 0 c, [.int W], hh) (some (.long R)) hh → zEv none d zm_X8_lowest (6, lwH A B W a 0 c, [], hh) (some (.long R)) hh := by
    intro R k
    refine zEv_step (st' := (8, lwH A B W a 0 c, [.long 0], hh)) (lso (q := (.lload 7, 2)) rfl rfl) ?_
    refine zEv_step (st' := (9, lwH A B W a 0 c, [.long 0, .long 0], hh)) (lso (q := (.lconst 0, 1)) rfl rfl) ?_
    refine zEv_step (st' := (10, lwH A B W a 0 c, [.int (lg_cmp 0 0)], hh)) (lso (q := (.lcmp, 1)) rfl rfl) ?_
    rw [lw_c0]
    refine zEv_step (st' := (31, lwH A B W a 0 c, [], hh)) (lso (q := (.ifCond .eq 21, 3)) rfl rfl) ?_
    refine zEv_step (st' := (33, lwH A B W a 0 c, [.int W], hh)) (lso (q := (.iload 4, 2)) rfl rfl) ?_
    exact k
  have h33 : zstep none zm_X8_lowest (33, lwH A B W a 0 c, [.int W], hh) = if zcd .ne W 0 = true then some (.inl (40, lwH A B W a 0 c, [], hh)) else some (.inl (36, lwH A B W a 0 c, [], hh)) := lso (q := (.ifCond .ne 7, 3)) rfl rfl
  by_cases hq : zcd .ne W 0 = true
  · rw [if_pos hq] at h33
    refine ⟨B / a, hpre _ (zEv_step h33 ?_)⟩
    refine zEv_step (st' := (41, lwH A B W a 0 c, [.long B], hh)) (lso (q := (.lload_n 2, 1)) rfl rfl) ?_
    refine zEv_step (st' := (43, lwH A B W a 0 c, [.long a, .long B], hh)) (lso (q := (.lload 5, 2)) rfl rfl) ?_
    exact hdiv B
  · rw [if_neg hq] at h33
    refine ⟨A / a, hpre _ (zEv_step h33 ?_)⟩
    refine zEv_step (st' := (37, lwH A B W a 0 c, [.long A], hh)) (lso (q := (.lload_n 0, 1)) rfl rfl) ?_
    refine zEv_step (st' := (41, lwH A B W a 0 c, [.long A], hh)) (lso (q := (.goto 4, 3)) rfl rfl) ?_
    refine zEv_step (st' := (43, lwH A B W a 0 c, [.long a, .long A], hh)) (lso (q := (.lload 5, 2)) rfl rfl) ?_
    exact hdiv A
theorem lw_loop : ∀ (n : Nat) (a b c : Int64), b.toInt.natAbs ≤ n → (¬ a = 0 ∨ ¬ b = 0) → ∃ R, zEv none d zm_X8_lowest (6, lwH A B W a b c, [], hh) (some (.long R)) hh := by
  intro n
  induction n with
  | zero =>
    intro a b c hn hab
    have hb0 : b = 0 := Int64.toInt_inj.mp (by show b.toInt = 0; omega)
    subst hb0
    exact lw_end (hab.elim id (fun q => absurd rfl q))
  | succ n ih =>
    intro a b c hn hab
    by_cases hb : b = 0
    · subst hb
      exact lw_end (hab.elim id (fun q => absurd rfl q))
    · have hlt : (a - a / b * b).toInt.natAbs < b.toInt.natAbs := by
        rw [Jvm.Kit.i64_rem, Int.natAbs_tmod]
        refine Nat.mod_lt _ ?_
        have : b.toInt ≠ 0 := fun q => hb (Int64.toInt_inj.mp q)
        omega
      obtain ⟨R, hR⟩ := ih b (a - a / b * b) (a - a / b * b) (by omega) (Or.inl hb)
      exact ⟨R, lw_it hb hR⟩
end LOW
set_option maxRecDepth 100000 in
theorem qo168 : qOK yT1 86 1471 qs168 := by
  intro d hd ρ hh vals hE ha hH
  obtain ⟨v1, t1, hv1, k1, ha1⟩ := zF2_u ha
  obtain ⟨v2, t2, hv2, k2, ha2⟩ := zF2_u ha1
  obtain ⟨v3, t3, hv3, k3, ha3⟩ := zF2_u ha2
  have hv4 := zF2_n ha3
  subst hv4
  subst hv3
  subst hv2
  subst hv1
  obtain ⟨A, rfl, hA⟩ := yVG_l k1
  obtain ⟨B, rfl, hB⟩ := yVG_l k2
  obtain ⟨W, rfl, hW⟩ := yVG_i k3
  have hBn : ¬ B = 0 := fun q => by
    obtain ⟨iv, i1, i2⟩ := yE_get hE hB
    have e : iv = [(.ofNat 1, .ofNat 100000)] := by
      have : (qs168.2.2.2.1.2.1)[2]? = some [(.ofNat 1, .ofNat 100000)] := rfl
      rw [this] at i1
      exact (Option.some.inj i1).symm
    rw [e] at i2
    rcases yM_c.mp i2 with w | w
    · have w1 : (1 : Int) ≤ B.toInt - 0 := w.1
      rw [q] at w1
      have : (0 : Int64).toInt = 0 := rfl
      omega
    · exact absurd w yM_n
  obtain ⟨R, hR⟩ := lw_loop (d := d) (A := A) (B := B) (W := W) (hh := hh) _ B (A - A / B * B) (A - A / B * B) (Nat.le_refl _) (Or.inl hBn)
  have hpush := yE_push hE (yM_64 R)
  refine ⟨zm_X8_lowest, some (.long R), hh, rfl, ?_, yFr_rf, _, List.mem_cons_self, [R.toInt], yVG_ml hpush.2, hpush.1, ⟨hH.1, fun e he => absurd he List.not_mem_nil⟩, yFa_n⟩
  have h0 : zEv none d zm_X8_lowest (6, (7, .long B) :: (5, .long A) :: lwA A B W, [], hh) (some (.long R)) hh := by
    refine zEv_step (st' := (8, (7, .long B) :: (5, .long A) :: lwA A B W, [.long B], hh)) (lso (q := (.lload 7, 2)) rfl rfl) ?_
    refine zEv_step (st' := (9, (7, .long B) :: (5, .long A) :: lwA A B W, [.long 0, .long B], hh)) (lso (q := (.lconst 0, 1)) rfl rfl) ?_
    refine zEv_step (st' := (10, (7, .long B) :: (5, .long A) :: lwA A B W, [.int (lg_cmp B 0)], hh)) (lso (q := (.lcmp, 1)) rfl rfl) ?_
    have h10 : zstep none zm_X8_lowest (10, (7, .long B) :: (5, .long A) :: lwA A B W, [.int (lg_cmp B 0)], hh) = if zcd .eq (lg_cmp B 0) 0 = true then some (.inl (31, (7, .long B) :: (5, .long A) :: lwA A B W, [], hh)) else some (.inl (13, (7, .long B) :: (5, .long A) :: lwA A B W, [], hh)) := lso (q := (.ifCond .eq 21, 3)) rfl rfl
    have hz : ¬ zcd .eq (lg_cmp B 0) 0 = true := fun q => lw_cn hBn (of_decide_eq_true q)
    rw [if_neg hz] at h10
    refine zEv_step h10 ?_
    refine zEv_step (st' := (15, (7, .long B) :: (5, .long A) :: lwA A B W, [.long A], hh)) (lso (q := (.lload 5, 2)) rfl rfl) ?_
    refine zEv_step (st' := (17, (7, .long B) :: (5, .long A) :: lwA A B W, [.long B, .long A], hh)) (lso (q := (.lload 7, 2)) rfl rfl) ?_
    have h17 : zstep none zm_X8_lowest (17, (7, .long B) :: (5, .long A) :: lwA A B W, [.long B, .long A], hh) = (if B = 0 then none else some (A - A / B * B)).bind fun v => zN 18 ((7, .long B) :: (5, .long A) :: lwA A B W) (.long v :: []) hh := lso (q := (.lrem, 1)) rfl rfl
    rw [if_neg hBn] at h17
    refine zEv_step h17 ?_
    refine zEv_step (st' := (20, (9, .long (A - A / B * B)) :: (7, .long B) :: (5, .long A) :: lwA A B W, [], hh)) (lso (q := (.lstore 9, 2)) rfl rfl) ?_
    refine zEv_step (st' := (22, (9, .long (A - A / B * B)) :: (7, .long B) :: (5, .long A) :: lwA A B W, [.long B], hh)) (lso (q := (.lload 7, 2)) rfl rfl) ?_
    refine zEv_step (st' := (24, (5, .long B) :: (9, .long (A - A / B * B)) :: (7, .long B) :: lwA A B W, [], hh)) (lso (q := (.lstore 5, 2)) rfl rfl) ?_
    refine zEv_step (st' := (26, (5, .long B) :: (9, .long (A - A / B * B)) :: (7, .long B) :: lwA A B W, [.long (A - A / B * B)], hh)) (lso (q := (.lload 9, 2)) rfl rfl) ?_
    refine zEv_step (st' := (28, lwH A B W B (A - A / B * B) (A - A / B * B), [], hh)) (lso (q := (.lstore 7, 2)) rfl rfl) ?_
    refine zEv_step (st' := (6, lwH A B W B (A - A / B * B) (A - A / B * B), [], hh)) (lso (q := (.goto (-22), 3)) rfl rfl) ?_
    exact hR
  refine zEv_step (st' := (1, lwA A B W, [.long A], hh)) (lso (q := (.lload_n 0, 1)) rfl rfl) ?_
  refine zEv_step (st' := (3, (5, .long A) :: lwA A B W, [], hh)) (lso (q := (.lstore 5, 2)) rfl rfl) ?_
  refine zEv_step (st' := (4, (5, .long A) :: lwA A B W, [.long B], hh)) (lso (q := (.lload_n 2, 1)) rfl rfl) ?_
  refine zEv_step (st' := (6, (7, .long B) :: (5, .long A) :: lwA A B W, [], hh)) (lso (q := (.lstore 7, 2)) rfl rfl) ?_
  exact h0
