/-! a run of the small machine is one of the real one -/
theorem z_len1 {sc : Option (List Int32)} {mi : zMi} {ins : Instr} {len pc : Nat} {lo : zLo} {sk : List Value} {h : zHp} {st' : zSt} (hz : zst sc mi ins len pc lo sk h = some (.inl st')) : h.length ≤ st'.2.2.2.length ∧ zsz h ≤ zsz st'.2.2.2 := by
  have same : st'.2.2.2 = h → h.length ≤ st'.2.2.2.length ∧ zsz h ≤ zsz st'.2.2.2 := fun q => by rw [q]; exact ⟨Nat.le_refl _, Nat.le_refl _⟩
  cases ins with
  | aaload =>
    simp only [zst, zN, Option.bind_eq_some_iff, Option.some.injEq, Sum.inl.injEq] at hz
    obtain ⟨_, _, _, _, _, _, _, _, _, _, _, _, rfl⟩ := hz
    exact same rfl
  | aastore =>
    simp only [zst, zN, Option.bind_eq_some_iff, Option.some.injEq, Sum.inl.injEq] at hz
    obtain ⟨_, h1, x, h2, i, h2b, a, h2c, cc, h4, cx, h4b, _, h5, rfl⟩ := hz
    exact ⟨by simp, by rw [zsz_set h4 (by simp)]; exact Nat.le_refl _⟩
  | aload x0 =>
    simp only [zst, zN, Option.bind_eq_some_iff, Option.some.injEq, Sum.inl.injEq] at hz
    obtain ⟨_, _, _, _, _, _, rfl⟩ := hz
    exact same rfl
  | aload_n x0 =>
    simp only [zst, zN, Option.bind_eq_some_iff, Option.some.injEq, Sum.inl.injEq] at hz
    obtain ⟨_, _, _, _, _, _, rfl⟩ := hz
    exact same rfl
  | anewarray x0 =>
    simp only [zst, zN, Option.bind_eq_some_iff, Option.some.injEq, Sum.inl.injEq] at hz
    obtain ⟨_, _, _, _, _, _, _, _, _, _, rfl⟩ := hz
    exact ⟨by simp, by rw [zsz_app]; exact Nat.le_add_right _ _⟩
  | areturn => simp only [zst, Option.bind_eq_some_iff, Option.some.injEq, reduceCtorEq, and_false, exists_const] at hz
  | arraylength =>
    simp only [zst, zN, Option.bind_eq_some_iff, Option.some.injEq, Sum.inl.injEq] at hz
    refine same ?_
    obtain ⟨_, h1, hz⟩ := hz
    split at hz
    · simp only [Option.bind_eq_some_iff, Option.some.injEq, Sum.inl.injEq] at hz; obtain ⟨cc, h4, _, h5, rfl⟩ := hz; rfl
    · simp only [Option.bind_eq_some_iff, Option.some.injEq, Sum.inl.injEq] at hz; obtain ⟨xs, h4, rfl⟩ := hz; rfl
    · simp only [Option.bind_eq_some_iff, Option.some.injEq, Sum.inl.injEq] at hz; obtain ⟨_, h5, rfl⟩ := hz; rfl
    · cases hz
  | astore x0 =>
    simp only [zst, zN, Option.bind_eq_some_iff, Option.some.injEq, Sum.inl.injEq] at hz
    obtain ⟨_, _, _, _, _, _, rfl⟩ := hz
    exact same rfl
  | astore_n x0 =>
    simp only [zst, zN, Option.bind_eq_some_iff, Option.some.injEq, Sum.inl.injEq] at hz
    obtain ⟨_, _, _, _, _, _, rfl⟩ := hz
    exact same rfl
  | baload =>
    simp only [zst, zN, Option.bind_eq_some_iff, Option.some.injEq, Sum.inl.injEq] at hz
    refine same ?_
    obtain ⟨_, h1, i, h2, hz⟩ := hz
    split at hz
    · simp only [Option.bind_eq_some_iff, Option.some.injEq, Sum.inl.injEq] at hz; obtain ⟨cc, h4, _, h5, w, h6, rfl⟩ := hz; rfl
    · simp only [Option.bind_eq_some_iff, Option.some.injEq, Sum.inl.injEq] at hz; obtain ⟨_, h5, rfl⟩ := hz; rfl
    · cases hz
  | bastore =>
    simp only [zst, zN, Option.bind_eq_some_iff, Option.some.injEq, Sum.inl.injEq] at hz
    obtain ⟨_, h1, x, h2, i, h2b, a, h2c, cc, h4, _, h5, rfl⟩ := hz
    exact ⟨by simp, by rw [zsz_set h4 (by simp)]; exact Nat.le_refl _⟩
  | bipush x0 =>
    simp only [zst, zN, Option.bind_eq_some_iff, Option.some.injEq, Sum.inl.injEq] at hz
    obtain ⟨_, _, rfl⟩ := hz
    exact same rfl
  | dup =>
    simp only [zst, zN, Option.bind_eq_some_iff, Option.some.injEq, Sum.inl.injEq] at hz
    obtain ⟨_, _, _, _, rfl⟩ := hz
    exact same rfl
  | dup2 =>
    simp only [zst, zN, Option.bind_eq_some_iff, Option.some.injEq, Sum.inl.injEq] at hz
    obtain ⟨_, _, _, _, _, _, rfl⟩ := hz
    exact same rfl
  | getfield x0 =>
    simp only [zst, zN, Option.bind_eq_some_iff, Option.some.injEq, Sum.inl.injEq] at hz
    refine same ?_
    obtain ⟨_, h1, hz⟩ := hz
    split at hz
    · simp only [Option.bind_eq_some_iff, Option.some.injEq, Sum.inl.injEq] at hz
      obtain ⟨a, h2, _, h3, hz⟩ := hz
      split at hz
      · cases hz; rfl
      · simp only [Option.bind_eq_some_iff, Option.some.injEq, Sum.inl.injEq] at hz; obtain ⟨_, h4, rfl⟩ := hz; rfl
    · simp only [Option.bind_eq_some_iff, Option.some.injEq, Sum.inl.injEq] at hz; obtain ⟨a, h2, f, h3, cc, h4, _, h5, w, h6, rfl⟩ := hz; rfl
  | getstatic x0 =>
    simp only [zst, zN, Option.bind_eq_some_iff, Option.some.injEq, Sum.inl.injEq] at hz
    refine same ?_
    obtain ⟨_, h1, _, h2, hz⟩ := hz
    split at hz
    · cases hz; rfl
    · simp only [Option.bind_eq_some_iff, Option.some.injEq, Sum.inl.injEq] at hz; obtain ⟨_, h4, rfl⟩ := hz; rfl
  | goto x0 =>
    simp only [zst, zN, Option.bind_eq_some_iff, Option.some.injEq, Sum.inl.injEq] at hz
    obtain ⟨_, _, _, _, rfl⟩ := hz
    exact same rfl
  | i2b =>
    simp only [zst, zN, Option.bind_eq_some_iff, Option.some.injEq, Sum.inl.injEq] at hz
    obtain ⟨_, _, _, _, rfl⟩ := hz
    exact same rfl
  | i2c =>
    simp only [zst, zN, Option.bind_eq_some_iff, Option.some.injEq, Sum.inl.injEq] at hz
    obtain ⟨_, _, _, _, rfl⟩ := hz
    exact same rfl
  | i2l =>
    simp only [zst, zN, Option.bind_eq_some_iff, Option.some.injEq, Sum.inl.injEq] at hz
    obtain ⟨_, _, _, _, rfl⟩ := hz
    exact same rfl
  | i2s =>
    simp only [zst, zN, Option.bind_eq_some_iff, Option.some.injEq, Sum.inl.injEq] at hz
    obtain ⟨_, _, _, _, rfl⟩ := hz
    exact same rfl
  | iadd =>
    simp only [zst, Option.bind_eq_some_iff] at hz
    obtain ⟨_, h1, hz⟩ := hz
    refine same ?_
    split at hz
    · simp only [zN, Option.bind_eq_some_iff, Option.some.injEq, Sum.inl.injEq] at hz; obtain ⟨v, hv, rfl⟩ := hz; rfl
    · simp only [zN, Option.bind_eq_some_iff, Option.some.injEq, Sum.inl.injEq] at hz; obtain ⟨v, hv, rfl⟩ := hz; rfl
    · cases hz
  | iaload =>
    simp only [zst, zN, Option.bind_eq_some_iff, Option.some.injEq, Sum.inl.injEq] at hz
    obtain ⟨_, h1, i, h2, hz⟩ := hz
    refine same ?_
    split at hz
    · simp only [Option.bind_eq_some_iff, Option.some.injEq, Sum.inl.injEq] at hz; obtain ⟨cc, h4, _, h5, v, h6, rfl⟩ := hz; rfl
    · simp only [Option.bind_eq_some_iff, Option.some.injEq, Sum.inl.injEq] at hz; obtain ⟨xs, h4, _, h5, v, h6, rfl⟩ := hz; rfl
    · cases hz
  | iand =>
    simp only [zst, Option.bind_eq_some_iff] at hz
    obtain ⟨_, h1, hz⟩ := hz
    refine same ?_
    split at hz
    · simp only [zN, Option.bind_eq_some_iff, Option.some.injEq, Sum.inl.injEq] at hz; obtain ⟨v, hv, rfl⟩ := hz; rfl
    · simp only [zN, Option.bind_eq_some_iff, Option.some.injEq, Sum.inl.injEq] at hz; obtain ⟨v, hv, rfl⟩ := hz; rfl
    · cases hz
  | iastore =>
    simp only [zst, zN, Option.bind_eq_some_iff, Option.some.injEq, Sum.inl.injEq] at hz
    obtain ⟨_, h1, x, h2, i, h2b, a, h2c, cc, h4, _, h5, rfl⟩ := hz
    exact ⟨by simp, by rw [zsz_set h4 (by simp)]; exact Nat.le_refl _⟩
  | iconst x0 =>
    simp only [zst, zN, Option.bind_eq_some_iff, Option.some.injEq, Sum.inl.injEq] at hz
    obtain ⟨_, _, rfl⟩ := hz
    exact same rfl
  | idiv =>
    simp only [zst, Option.bind_eq_some_iff] at hz
    obtain ⟨_, h1, hz⟩ := hz
    refine same ?_
    split at hz
    · simp only [zN, Option.bind_eq_some_iff, Option.some.injEq, Sum.inl.injEq] at hz; obtain ⟨v, hv, rfl⟩ := hz; rfl
    · simp only [zN, Option.bind_eq_some_iff, Option.some.injEq, Sum.inl.injEq] at hz; obtain ⟨v, hv, rfl⟩ := hz; rfl
    · cases hz
  | if_icmp x0 x1 =>
    simp only [zst, zN, Option.bind_eq_some_iff, Option.some.injEq, Sum.inl.injEq] at hz
    obtain ⟨_, h1, y, h2, x, h2b, t, h3, hz⟩ := hz
    exact same (by split at hz <;> (cases hz; rfl))
  | ifCond x0 x1 =>
    simp only [zst, zN, Option.bind_eq_some_iff, Option.some.injEq, Sum.inl.injEq] at hz
    obtain ⟨_, h1, x, h2, t, h3, hz⟩ := hz
    exact same (by split at hz <;> (cases hz; rfl))
  | iinc x0 x1 =>
    simp only [zst, zN, Option.bind_eq_some_iff, Option.some.injEq, Sum.inl.injEq] at hz
    obtain ⟨_, _, _, _, _, _, _, _, rfl⟩ := hz
    exact same rfl
  | iload x0 =>
    simp only [zst, zN, Option.bind_eq_some_iff, Option.some.injEq, Sum.inl.injEq] at hz
    obtain ⟨_, _, _, _, _, _, rfl⟩ := hz
    exact same rfl
  | iload_n x0 =>
    simp only [zst, zN, Option.bind_eq_some_iff, Option.some.injEq, Sum.inl.injEq] at hz
    obtain ⟨_, _, _, _, _, _, rfl⟩ := hz
    exact same rfl
  | imul =>
    simp only [zst, Option.bind_eq_some_iff] at hz
    obtain ⟨_, h1, hz⟩ := hz
    refine same ?_
    split at hz
    · simp only [zN, Option.bind_eq_some_iff, Option.some.injEq, Sum.inl.injEq] at hz; obtain ⟨v, hv, rfl⟩ := hz; rfl
    · simp only [zN, Option.bind_eq_some_iff, Option.some.injEq, Sum.inl.injEq] at hz; obtain ⟨v, hv, rfl⟩ := hz; rfl
    · cases hz
  | invokespecial i =>
    simp only [zst, zN, Option.bind_eq_some_iff] at hz
    obtain ⟨_, h1, q, h2, hz⟩ := hz
    split at hz
    · simp only [Option.bind_eq_some_iff, Option.some.injEq, Sum.inl.injEq] at hz
      obtain ⟨a, h5, _, h6, rfl⟩ := hz
      exact same rfl
    · simp only [Option.bind_eq_some_iff, Option.some.injEq, reduceCtorEq, and_false, exists_const] at hz
  | invokestatic i =>
    simp only [zst, zN, Option.bind_eq_some_iff] at hz
    obtain ⟨_, h1, q, h2, hz⟩ := hz
    split at hz
    · simp only [Option.bind_eq_some_iff, Option.some.injEq, Sum.inl.injEq] at hz
      obtain ⟨y, h5, x, h5b, _, h6, rfl⟩ := hz
      exact same rfl
    · split at hz
      · simp only [Option.bind_eq_some_iff, Option.some.injEq, Sum.inl.injEq] at hz
        obtain ⟨y, h5, x, h5b, _, h6, rfl⟩ := hz
        exact same rfl
      · simp only [Option.bind_eq_some_iff, Option.some.injEq, reduceCtorEq, and_false, exists_const] at hz
  | invokevirtual i => simp only [zst, Option.bind_eq_some_iff, Option.some.injEq, reduceCtorEq, and_false, exists_const] at hz
  | ior =>
    simp only [zst, Option.bind_eq_some_iff] at hz
    obtain ⟨_, h1, hz⟩ := hz
    refine same ?_
    split at hz
    · simp only [zN, Option.bind_eq_some_iff, Option.some.injEq, Sum.inl.injEq] at hz; obtain ⟨v, hv, rfl⟩ := hz; rfl
    · simp only [zN, Option.bind_eq_some_iff, Option.some.injEq, Sum.inl.injEq] at hz; obtain ⟨v, hv, rfl⟩ := hz; rfl
    · cases hz
  | irem =>
    simp only [zst, Option.bind_eq_some_iff] at hz
    obtain ⟨_, h1, hz⟩ := hz
    refine same ?_
    split at hz
    · simp only [zN, Option.bind_eq_some_iff, Option.some.injEq, Sum.inl.injEq] at hz; obtain ⟨v, hv, rfl⟩ := hz; rfl
    · simp only [zN, Option.bind_eq_some_iff, Option.some.injEq, Sum.inl.injEq] at hz; obtain ⟨v, hv, rfl⟩ := hz; rfl
    · cases hz
  | ireturn => simp only [zst, Option.bind_eq_some_iff, Option.some.injEq, reduceCtorEq, and_false, exists_const] at hz
  | ishl =>
    simp only [zst, Option.bind_eq_some_iff] at hz
    obtain ⟨_, h1, hz⟩ := hz
    refine same ?_
    split at hz
    · simp only [zN, Option.bind_eq_some_iff, Option.some.injEq, Sum.inl.injEq] at hz; obtain ⟨v, hv, rfl⟩ := hz; rfl
    · simp only [zN, Option.bind_eq_some_iff, Option.some.injEq, Sum.inl.injEq] at hz; obtain ⟨v, hv, rfl⟩ := hz; rfl
    · cases hz
  | ishr =>
    simp only [zst, Option.bind_eq_some_iff] at hz
    obtain ⟨_, h1, hz⟩ := hz
    refine same ?_
    split at hz
    · simp only [zN, Option.bind_eq_some_iff, Option.some.injEq, Sum.inl.injEq] at hz; obtain ⟨v, hv, rfl⟩ := hz; rfl
    · simp only [zN, Option.bind_eq_some_iff, Option.some.injEq, Sum.inl.injEq] at hz; obtain ⟨v, hv, rfl⟩ := hz; rfl
    · cases hz
  | istore x0 =>
    simp only [zst, zN, Option.bind_eq_some_iff, Option.some.injEq, Sum.inl.injEq] at hz
    obtain ⟨_, _, _, _, _, _, rfl⟩ := hz
    exact same rfl
  | istore_n x0 =>
    simp only [zst, zN, Option.bind_eq_some_iff, Option.some.injEq, Sum.inl.injEq] at hz
    obtain ⟨_, _, _, _, _, _, rfl⟩ := hz
    exact same rfl
  | isub =>
    simp only [zst, Option.bind_eq_some_iff] at hz
    obtain ⟨_, h1, hz⟩ := hz
    refine same ?_
    split at hz
    · simp only [zN, Option.bind_eq_some_iff, Option.some.injEq, Sum.inl.injEq] at hz; obtain ⟨v, hv, rfl⟩ := hz; rfl
    · simp only [zN, Option.bind_eq_some_iff, Option.some.injEq, Sum.inl.injEq] at hz; obtain ⟨v, hv, rfl⟩ := hz; rfl
    · cases hz
  | iushr =>
    simp only [zst, Option.bind_eq_some_iff] at hz
    obtain ⟨_, h1, hz⟩ := hz
    refine same ?_
    split at hz
    · simp only [zN, Option.bind_eq_some_iff, Option.some.injEq, Sum.inl.injEq] at hz; obtain ⟨v, hv, rfl⟩ := hz; rfl
    · simp only [zN, Option.bind_eq_some_iff, Option.some.injEq, Sum.inl.injEq] at hz; obtain ⟨v, hv, rfl⟩ := hz; rfl
    · cases hz
  | ixor =>
    simp only [zst, Option.bind_eq_some_iff] at hz
    obtain ⟨_, h1, hz⟩ := hz
    refine same ?_
    split at hz
    · simp only [zN, Option.bind_eq_some_iff, Option.some.injEq, Sum.inl.injEq] at hz; obtain ⟨v, hv, rfl⟩ := hz; rfl
    · simp only [zN, Option.bind_eq_some_iff, Option.some.injEq, Sum.inl.injEq] at hz; obtain ⟨v, hv, rfl⟩ := hz; rfl
    · cases hz
  | ladd =>
    simp only [zst, Option.bind_eq_some_iff] at hz
    obtain ⟨_, h1, hz⟩ := hz
    refine same ?_
    split at hz
    · simp only [zN, Option.bind_eq_some_iff, Option.some.injEq, Sum.inl.injEq] at hz; obtain ⟨v, hv, rfl⟩ := hz; rfl
    · simp only [zN, Option.bind_eq_some_iff, Option.some.injEq, Sum.inl.injEq] at hz; obtain ⟨v, hv, rfl⟩ := hz; rfl
    · cases hz
  | lcmp =>
    simp only [zst, zN, Option.bind_eq_some_iff, Option.some.injEq, Sum.inl.injEq] at hz
    obtain ⟨_, _, _, _, _, _, rfl⟩ := hz
    exact same rfl
  | lconst x0 =>
    simp only [zst, zN, Option.bind_eq_some_iff, Option.some.injEq, Sum.inl.injEq] at hz
    obtain ⟨_, _, rfl⟩ := hz
    exact same rfl
  | ldc x0 =>
    simp only [zst, zN, Option.bind_eq_some_iff, Option.some.injEq, Sum.inl.injEq] at hz
    refine same ?_
    obtain ⟨_, h1, hz⟩ := hz
    split at hz
    · simp only [Option.bind_eq_some_iff, Option.some.injEq, Sum.inl.injEq] at hz; obtain ⟨k, h2, _, h3, rfl⟩ := hz; rfl
    · simp only [Option.bind_eq_some_iff, Option.some.injEq, Sum.inl.injEq] at hz; obtain ⟨q, h2, rfl⟩ := hz; rfl
  | ldc_w x0 =>
    simp only [zst, zN, Option.bind_eq_some_iff, Option.some.injEq, Sum.inl.injEq] at hz
    obtain ⟨_, _, _, _, rfl⟩ := hz
    exact same rfl
  | ldc2_w x0 =>
    simp only [zst, zN, Option.bind_eq_some_iff, Option.some.injEq, Sum.inl.injEq] at hz
    obtain ⟨_, _, _, _, rfl⟩ := hz
    exact same rfl
  | ldiv =>
    simp only [zst, Option.bind_eq_some_iff] at hz
    obtain ⟨_, h1, hz⟩ := hz
    refine same ?_
    split at hz
    · simp only [zN, Option.bind_eq_some_iff, Option.some.injEq, Sum.inl.injEq] at hz; obtain ⟨v, hv, rfl⟩ := hz; rfl
    · simp only [zN, Option.bind_eq_some_iff, Option.some.injEq, Sum.inl.injEq] at hz; obtain ⟨v, hv, rfl⟩ := hz; rfl
    · cases hz
  | lload x0 =>
    simp only [zst, zN, Option.bind_eq_some_iff, Option.some.injEq, Sum.inl.injEq] at hz
    obtain ⟨_, _, _, _, _, _, rfl⟩ := hz
    exact same rfl
  | lload_n x0 =>
    simp only [zst, zN, Option.bind_eq_some_iff, Option.some.injEq, Sum.inl.injEq] at hz
    obtain ⟨_, _, _, _, _, _, rfl⟩ := hz
    exact same rfl
  | lmul =>
    simp only [zst, Option.bind_eq_some_iff] at hz
    obtain ⟨_, h1, hz⟩ := hz
    refine same ?_
    split at hz
    · simp only [zN, Option.bind_eq_some_iff, Option.some.injEq, Sum.inl.injEq] at hz; obtain ⟨v, hv, rfl⟩ := hz; rfl
    · simp only [zN, Option.bind_eq_some_iff, Option.some.injEq, Sum.inl.injEq] at hz; obtain ⟨v, hv, rfl⟩ := hz; rfl
    · cases hz
  | lookupswitch x0 x1 =>
    simp only [zst, zN, Option.bind_eq_some_iff, Option.some.injEq, Sum.inl.injEq] at hz
    obtain ⟨x, h2, _, h4, t, h3, rfl⟩ := hz
    exact same rfl
  | lrem =>
    simp only [zst, Option.bind_eq_some_iff] at hz
    obtain ⟨_, h1, hz⟩ := hz
    refine same ?_
    split at hz
    · simp only [zN, Option.bind_eq_some_iff, Option.some.injEq, Sum.inl.injEq] at hz; obtain ⟨v, hv, rfl⟩ := hz; rfl
    · simp only [zN, Option.bind_eq_some_iff, Option.some.injEq, Sum.inl.injEq] at hz; obtain ⟨v, hv, rfl⟩ := hz; rfl
    · cases hz
  | lreturn => simp only [zst, Option.bind_eq_some_iff, Option.some.injEq, reduceCtorEq, and_false, exists_const] at hz
  | lstore x0 =>
    simp only [zst, zN, Option.bind_eq_some_iff, Option.some.injEq, Sum.inl.injEq] at hz
    obtain ⟨_, _, _, _, _, _, rfl⟩ := hz
    exact same rfl
  | lstore_n x0 =>
    simp only [zst, zN, Option.bind_eq_some_iff, Option.some.injEq, Sum.inl.injEq] at hz
    obtain ⟨_, _, _, _, _, _, rfl⟩ := hz
    exact same rfl
  | lsub =>
    simp only [zst, Option.bind_eq_some_iff] at hz
    obtain ⟨_, h1, hz⟩ := hz
    refine same ?_
    split at hz
    · simp only [zN, Option.bind_eq_some_iff, Option.some.injEq, Sum.inl.injEq] at hz; obtain ⟨v, hv, rfl⟩ := hz; rfl
    · simp only [zN, Option.bind_eq_some_iff, Option.some.injEq, Sum.inl.injEq] at hz; obtain ⟨v, hv, rfl⟩ := hz; rfl
    · cases hz
  | new x0 =>
    simp only [zst, zN, Option.bind_eq_some_iff, Option.some.injEq, Sum.inl.injEq] at hz
    obtain ⟨_, _, _, _, _, _, rfl⟩ := hz
    exact ⟨by simp, by rw [zsz_app]; exact Nat.le_add_right _ _⟩
  | newarray x0 =>
    simp only [zst, zN, Option.bind_eq_some_iff, Option.some.injEq, Sum.inl.injEq] at hz
    obtain ⟨_, _, _, _, _, _, _, _, rfl⟩ := hz
    exact ⟨by simp, by rw [zsz_app]; exact Nat.le_add_right _ _⟩
  | pop =>
    simp only [zst, zN, Option.bind_eq_some_iff, Option.some.injEq, Sum.inl.injEq] at hz
    obtain ⟨_, _, _, _, rfl⟩ := hz
    exact same rfl
  | pop2 =>
    simp only [zst, zN, Option.bind_eq_some_iff, Option.some.injEq, Sum.inl.injEq] at hz
    obtain ⟨_, _, _, _, rfl⟩ := hz
    exact same rfl
  | putfield x0 =>
    simp only [zst, zN, Option.bind_eq_some_iff, Option.some.injEq, Sum.inl.injEq] at hz
    obtain ⟨_, h1, v, h1b, a, h2, f, h3, cc, h4, _, h5, ty, h6, _, h7, rfl⟩ := hz
    exact ⟨by simp, by rw [zsz_set h4 (by simp)]; exact Nat.le_refl _⟩
  | return_ => simp only [zst, Option.bind_eq_some_iff, Option.some.injEq, reduceCtorEq, and_false, exists_const] at hz
  | sipush x0 =>
    simp only [zst, zN, Option.bind_eq_some_iff, Option.some.injEq, Sum.inl.injEq] at hz
    obtain ⟨_, _, rfl⟩ := hz
    exact same rfl
  | tableswitch x0 x1 x2 x3 =>
    simp only [zst, zN, Option.bind_eq_some_iff, Option.some.injEq, Sum.inl.injEq] at hz
    obtain ⟨x, h2, hz⟩ := hz
    refine same ?_
    split at hz
    · simp only [Option.bind_eq_some_iff, Option.some.injEq, Sum.inl.injEq] at hz; obtain ⟨t, h3, rfl⟩ := hz; rfl
    · simp only [Option.bind_eq_some_iff, Option.some.injEq, Sum.inl.injEq] at hz; obtain ⟨o, h4, t, h3, rfl⟩ := hz; rfl
  | _ =>
    exfalso
    simp only [zst, Option.bind_eq_some_iff] at hz
    obtain ⟨_, h1, hz⟩ := hz
    split at hz
    · simp [zb2] at hz
    · simp [zl2] at hz
    · cases hz
theorem z_len {sc : Option (List Int32)} {mi : zMi} {st st' : zSt} (hz : zstep sc mi st = some (.inl st')) : st.2.2.2.length ≤ st'.2.2.2.length ∧ zsz st.2.2.2 ≤ zsz st'.2.2.2 := by
  unfold zstep at hz
  rw [Option.bind_eq_some_iff] at hz
  obtain ⟨⟨ins, len⟩, h1, h2⟩ := hz
  exact z_len1 h2
theorem zex_len (n : Nat) : ∀ (sc : Option (List Int32)) (d : Nat) (mi : zMi) (st : zSt) (r : Option Value) (h' : zHp), zex n sc d mi st = some (r, h') → st.2.2.2.length ≤ h'.length ∧ zsz st.2.2.2 ≤ zsz h' := by
  induction n with
  | zero => intro sc d mi st r h' h; simp [zex] at h
  | succ n ih =>
    intro sc d mi st r h' h
    simp only [zex] at h
    split at h
    · cases h
    · rename_i st' hs
      have h1 := z_len hs
      have h2 := ih _ _ _ _ _ _ h
      exact ⟨Nat.le_trans h1.1 h2.1, Nat.le_trans h1.2 h2.2⟩
    · cases h; exact ⟨Nat.le_refl _, Nat.le_refl _⟩
    · rename_i kd id as rest hs
      simp only [Option.bind_eq_some_iff] at h
      obtain ⟨mi', h1, _, h2, q, h3, h4⟩ := h
      have h5 := ih _ _ _ _ q.1 q.2 h3
      have h6 := ih _ _ _ _ _ _ h4
      exact ⟨Nat.le_trans h5.1 h6.1, Nat.le_trans h5.2 h6.2⟩
theorem z_call1 {sc : Option (List Int32)} {mi : zMi} {ins : Instr} {len pc kd id : Nat} {lo : zLo} {sk as rest : List Value} {h : zHp} (hz : zst sc mi ins len pc lo sk h = some (.inr (.inl (kd, id, as, rest)))) : ∃ i n ps, len = 3 ∧ sk = as.reverse ++ rest ∧ zlk zmls mi.2.2.2.2.1 i = some (kd, id, n, ps) ∧ ((kd = 0 ∧ ins = .invokevirtual i ∧ as.length = n + 1) ∨ (kd = 1 ∧ ins = .invokestatic i ∧ as.length = n) ∨ ((kd = 2 ∨ kd = 3) ∧ ins = .invokespecial i ∧ as.length = n + 1)) := by
  cases ins with
  | invokevirtual i =>
    simp only [zst, Option.bind_eq_some_iff, Option.some.injEq, Sum.inr.injEq, Sum.inl.injEq] at hz
    obtain ⟨_, h1, ⟨q1, q2, q3, q4⟩, h2, _, h3, h4⟩ := hz
    have h5 := zgb_some h3
    simp only [Bool.and_eq_true, decide_eq_true_eq] at h5
    dsimp only at h4 h5
    cases h4
    obtain ⟨rfl, h6⟩ := h5
    exact ⟨i, q3, q4, zg_some h1, by rw [List.reverse_reverse, List.take_append_drop], h2, Or.inl ⟨rfl, rfl, by rw [List.length_reverse, List.length_take]; omega⟩⟩
  | invokestatic i =>
    simp only [zst, zN, Option.bind_eq_some_iff] at hz
    obtain ⟨_, h1, ⟨q1, q2, q3, q4⟩, h2, hz⟩ := hz
    dsimp only at hz
    split at hz
    · simp only [Option.bind_eq_some_iff, Option.some.injEq, reduceCtorEq, and_false, exists_const] at hz
    · split at hz
      · simp only [Option.bind_eq_some_iff, Option.some.injEq, reduceCtorEq, and_false, exists_const] at hz
      · simp only [Option.bind_eq_some_iff, Option.some.injEq, Sum.inr.injEq, Sum.inl.injEq] at hz
        obtain ⟨_, h3, h4⟩ := hz
        have h5 := zgb_some h3
        simp only [Bool.and_eq_true, decide_eq_true_eq] at h5
        cases h4
        obtain ⟨rfl, h6⟩ := h5
        exact ⟨i, q3, q4, zg_some h1, by rw [List.reverse_reverse, List.take_append_drop], h2, Or.inr (Or.inl ⟨rfl, rfl, by rw [List.length_reverse, List.length_take]; omega⟩)⟩
  | invokespecial i =>
    simp only [zst, zN, Option.bind_eq_some_iff] at hz
    obtain ⟨_, h1, ⟨q1, q2, q3, q4⟩, h2, hz⟩ := hz
    dsimp only at hz
    split at hz
    · simp only [Option.bind_eq_some_iff, Option.some.injEq, reduceCtorEq, and_false, exists_const] at hz
    · simp only [Option.bind_eq_some_iff, Option.some.injEq, Sum.inr.injEq, Sum.inl.injEq] at hz
      obtain ⟨_, h3, h4⟩ := hz
      have h5 := zgb_some h3
      simp only [Bool.and_eq_true, Bool.or_eq_true, decide_eq_true_eq] at h5
      cases h4
      exact ⟨i, q3, q4, zg_some h1, by rw [List.reverse_reverse, List.take_append_drop], h2, Or.inr (Or.inr ⟨h5.1, rfl, by rw [List.length_reverse, List.length_take]; omega⟩)⟩
  | ifCond x0 x1 =>
    simp only [zst, zN, Option.bind_eq_some_iff] at hz
    obtain ⟨_, h1, x, h2, t, h3, hz⟩ := hz
    split at hz <;> cases hz
  | if_icmp x0 x1 =>
    simp only [zst, zN, Option.bind_eq_some_iff] at hz
    obtain ⟨_, h1, y, h2, x, h2b, t, h3, hz⟩ := hz
    split at hz <;> cases hz
  | tableswitch x0 x1 x2 x3 =>
    simp only [zst, zN, Option.bind_eq_some_iff] at hz
    obtain ⟨x, h2, hz⟩ := hz
    split at hz <;> simp only [Option.bind_eq_some_iff, Option.some.injEq, reduceCtorEq, and_false, exists_const] at hz
  | iaload =>
    simp only [zst, zN, Option.bind_eq_some_iff] at hz
    obtain ⟨_, h1, i, h2, hz⟩ := hz
    split at hz
    · simp only [Option.bind_eq_some_iff, Option.some.injEq, reduceCtorEq, and_false, exists_const] at hz
    · simp only [Option.bind_eq_some_iff, Option.some.injEq, reduceCtorEq, and_false, exists_const] at hz
    · cases hz
  | ldc x0 =>
    simp only [zst, zN, Option.bind_eq_some_iff] at hz
    obtain ⟨_, h1, hz⟩ := hz
    split at hz
    · simp only [Option.bind_eq_some_iff, Option.some.injEq, reduceCtorEq, and_false, exists_const] at hz
    · simp only [Option.bind_eq_some_iff, Option.some.injEq, reduceCtorEq, and_false, exists_const] at hz
  | getfield x0 =>
    simp only [zst, zN, Option.bind_eq_some_iff] at hz
    obtain ⟨_, h1, hz⟩ := hz
    split at hz
    · simp only [Option.bind_eq_some_iff] at hz
      obtain ⟨a, h2, _, h3, hz⟩ := hz
      split at hz
      · cases hz
      · simp only [Option.bind_eq_some_iff, Option.some.injEq, reduceCtorEq, and_false, exists_const] at hz
    · simp only [Option.bind_eq_some_iff, Option.some.injEq, reduceCtorEq, and_false, exists_const] at hz
  | getstatic x0 =>
    simp only [zst, zN, Option.bind_eq_some_iff] at hz
    obtain ⟨_, h1, _, h2, hz⟩ := hz
    split at hz
    · cases hz
    · simp only [Option.bind_eq_some_iff, Option.some.injEq, reduceCtorEq, and_false, exists_const] at hz
  | baload =>
    simp only [zst, zN, Option.bind_eq_some_iff] at hz
    obtain ⟨_, h1, i, h2, hz⟩ := hz
    split at hz
    · simp only [Option.bind_eq_some_iff, Option.some.injEq, reduceCtorEq, and_false, exists_const] at hz
    · simp only [Option.bind_eq_some_iff, Option.some.injEq, reduceCtorEq, and_false, exists_const] at hz
    · cases hz
  | arraylength =>
    simp only [zst, zN, Option.bind_eq_some_iff] at hz
    obtain ⟨_, h1, hz⟩ := hz
    split at hz
    · simp only [Option.bind_eq_some_iff, Option.some.injEq, reduceCtorEq, and_false, exists_const] at hz
    · simp only [Option.bind_eq_some_iff, Option.some.injEq, reduceCtorEq, and_false, exists_const] at hz
    · simp only [Option.bind_eq_some_iff, Option.some.injEq, reduceCtorEq, and_false, exists_const] at hz
    · cases hz
  | _ =>
    exfalso
    first
    | (simp only [zst, zN, Option.bind_eq_some_iff, Option.some.injEq, Sum.inr.injEq, reduceCtorEq, and_false, exists_const] at hz; done)
    | (simp only [zst, Option.bind_eq_some_iff] at hz
       obtain ⟨_, h1, hz⟩ := hz
       split at hz
       · simp only [zN, Option.bind_eq_some_iff, Option.some.injEq, reduceCtorEq, and_false, exists_const] at hz
       · simp only [zN, Option.bind_eq_some_iff, Option.some.injEq, reduceCtorEq, and_false, exists_const] at hz
       · cases hz)
