/-! every step of the small machine is one of the real one -/
def zsz (h : zHp) : Nat := (h.map fun c => c.2.length).sum
theorem zsz_set {h : zHp} {k : Nat} {c : zC} {kd : Nat ⊕ Nat} {vs : List Value} (hk : h[k]? = some c) (hv : vs.length = c.2.length) : zsz (h.set k (kd, vs)) = zsz h := by
  unfold zsz
  congr 1
  rw [List.map_set]
  refine List.ext_getElem? fun j => ?_
  by_cases hjk : k = j
  · subst hjk
    rw [List.getElem?_set_self (by rw [List.length_map]; exact (List.getElem?_eq_some_iff.mp hk).1), List.getElem?_map, hk]
    simp [hv]
  · rw [List.getElem?_set_ne hjk]
theorem zsz_app {h : zHp} {c : zC} : zsz (h ++ [c]) = zsz h + c.2.length := by
  unfold zsz
  rw [List.map_append, List.sum_append]
  simp
section ZSTEP
variable {p : Program} {l : Launch} {e : Env} {R : Room} {s : State} {m : MethodId} {args : Array Value} {below : List Frame} {meth : Method} {c : Code} {Q : State → Prop} {D : va_G} {A : Nat → Prop} {b : Nat → Value} {cells slots d : Nat} {sc : Option (List Int32)} {mi : zMi} {Ts : List Cond} {ad : List Nat} {pc len : Nat} {lo : zLo} {sk : List Value} {h : zHp} {st' : zSt}
/-- what a step does: it makes nothing, and goes on; or it makes one cell -/
def zStp (p : Program) (l : Launch) (e : Env) (R : Room) (s : State) (m : MethodId) (args : Array Value) (below : List Frame) (meth : Method) (c : Code) (Q : State → Prop) (D : va_G) (A : Nat → Prop) (b : Nat → Value) (cells slots : Nat) (mi : zMi) (ad : List Nat) (st st' : zSt) : Prop :=
  (st'.2.2.2.length = st.2.2.2.length ∧ zsz st'.2.2.2 = zsz st.2.2.2 ∧ (cells ≤ R.cells → slots ≤ R.slots → zGo p l e R s m args below meth c Q D A b mi.2.2.1 cells slots st' ad → zGo p l e R s m args below meth c Q D A b mi.2.2.1 cells slots st ad)) ∨
  (∃ cl : zC, st'.2.2.2 = st.2.2.2 ++ [cl] ∧ (cells + 1 ≤ R.cells → slots + cl.2.length ≤ R.slots → (∀ q, zGo p l e R s m args below meth c Q D A b mi.2.2.1 (cells + 1) (slots + cl.2.length) st' (ad ++ [q])) → zGo p l e R s m args below meth c Q D A b mi.2.2.1 cells slots st ad))
theorem zstp_of (hsame : st'.2.2.2 = h) (k : zGo p l e R s m args below meth c Q D A b mi.2.2.1 cells slots st' ad → zGo p l e R s m args below meth c Q D A b mi.2.2.1 cells slots (pc, lo, sk, h) ad) : zStp p l e R s m args below meth c Q D A b cells slots mi ad (pc, lo, sk, h) st' := Or.inl ⟨by rw [hsame], by rw [hsame], fun _ _ => k⟩
set_option maxHeartbeats 4000000 in
theorem z_step1 (hc : zCx p R s m args meth c Ts A b sc d mi) {ins : Instr} (hd : decode mi.2.1 pc = .ok (ins, len)) (hz : zst sc mi ins len pc lo sk h = some (.inl st')) : zStp p l e R s m args below meth c Q D A b cells slots mi ad (pc, lo, sk, h) st' := by
  have hz0 := hz
  cases ins with
  | aaload =>
    refine zstp_of ?_ (zi_aaload hc hd hz)
    simp only [zst, zN, Option.bind_eq_some_iff, Option.some.injEq, Sum.inl.injEq] at hz0
    obtain ⟨_, _, _, _, _, _, _, _, _, _, _, _, rfl⟩ := hz0
    rfl
  | aastore =>
    simp only [zst, zN, Option.bind_eq_some_iff, Option.some.injEq, Sum.inl.injEq] at hz0
    obtain ⟨_, h1, x, h2, i, h2b, a, h2c, cc, h4, cx, h4b, _, h5, rfl⟩ := hz0
    exact Or.inl ⟨by simp, zsz_set h4 (by simp), fun _ _ k => zi_aastore hc hd hz k⟩
  | aload x0 =>
    refine zstp_of ?_ (zi_aload hc hd hz)
    simp only [zst, zN, Option.bind_eq_some_iff, Option.some.injEq, Sum.inl.injEq] at hz0
    obtain ⟨_, _, _, _, _, _, rfl⟩ := hz0
    rfl
  | aload_n x0 =>
    refine zstp_of ?_ (zi_aload_n hc hd hz)
    simp only [zst, zN, Option.bind_eq_some_iff, Option.some.injEq, Sum.inl.injEq] at hz0
    obtain ⟨_, _, _, _, _, _, rfl⟩ := hz0
    rfl
  | anewarray x0 =>
    exact Or.inr (zi_anewarray hc hd hz)
  | areturn => simp only [zst, Option.bind_eq_some_iff, Option.some.injEq, reduceCtorEq, and_false, exists_const] at hz0
  | arraylength =>
    refine zstp_of ?_ (zi_arraylength hc hd hz)
    simp only [zst, zN, Option.bind_eq_some_iff, Option.some.injEq, Sum.inl.injEq] at hz0
    obtain ⟨_, h1, hz0⟩ := hz0
    split at hz0
    · simp only [Option.bind_eq_some_iff, Option.some.injEq, Sum.inl.injEq] at hz0; obtain ⟨cc, h4, _, h5, rfl⟩ := hz0; rfl
    · simp only [Option.bind_eq_some_iff, Option.some.injEq, Sum.inl.injEq] at hz0; obtain ⟨xs, h4, rfl⟩ := hz0; rfl
    · simp only [Option.bind_eq_some_iff, Option.some.injEq, Sum.inl.injEq] at hz0; obtain ⟨_, h5, rfl⟩ := hz0; rfl
    · cases hz0
  | astore x0 =>
    refine zstp_of ?_ (zi_astore hc hd hz)
    simp only [zst, zN, Option.bind_eq_some_iff, Option.some.injEq, Sum.inl.injEq] at hz0
    obtain ⟨_, _, _, _, _, _, rfl⟩ := hz0
    rfl
  | astore_n x0 =>
    refine zstp_of ?_ (zi_astore_n hc hd hz)
    simp only [zst, zN, Option.bind_eq_some_iff, Option.some.injEq, Sum.inl.injEq] at hz0
    obtain ⟨_, _, _, _, _, _, rfl⟩ := hz0
    rfl
  | baload =>
    refine zstp_of ?_ (zi_baload hc hd hz)
    simp only [zst, zN, Option.bind_eq_some_iff, Option.some.injEq, Sum.inl.injEq] at hz0
    obtain ⟨_, h1, i, h2, hz0⟩ := hz0
    split at hz0
    · simp only [Option.bind_eq_some_iff, Option.some.injEq, Sum.inl.injEq] at hz0; obtain ⟨cc, h4, _, h5, w, h6, rfl⟩ := hz0; rfl
    · simp only [Option.bind_eq_some_iff, Option.some.injEq, Sum.inl.injEq] at hz0; obtain ⟨_, h5, rfl⟩ := hz0; rfl
    · cases hz0
  | bastore =>
    simp only [zst, zN, Option.bind_eq_some_iff, Option.some.injEq, Sum.inl.injEq] at hz0
    obtain ⟨_, h1, x, h2, i, h2b, a, h2c, cc, h4, _, h5, rfl⟩ := hz0
    exact Or.inl ⟨by simp, zsz_set h4 (by simp), fun _ _ k => zi_bastore hc hd hz k⟩
  | bipush x0 =>
    refine zstp_of ?_ (zi_bipush hc hd hz)
    simp only [zst, zN, Option.bind_eq_some_iff, Option.some.injEq, Sum.inl.injEq] at hz0
    obtain ⟨_, _, rfl⟩ := hz0
    rfl
  | dup =>
    refine zstp_of ?_ (zi_dup hc hd hz)
    simp only [zst, zN, Option.bind_eq_some_iff, Option.some.injEq, Sum.inl.injEq] at hz0
    obtain ⟨_, _, _, _, rfl⟩ := hz0
    rfl
  | dup2 =>
    refine zstp_of ?_ (zi_dup2 hc hd hz)
    simp only [zst, zN, Option.bind_eq_some_iff, Option.some.injEq, Sum.inl.injEq] at hz0
    obtain ⟨_, _, _, _, _, _, rfl⟩ := hz0
    rfl
  | getfield x0 =>
    refine zstp_of ?_ (zi_getfield hc hd hz)
    simp only [zst, zN, Option.bind_eq_some_iff, Option.some.injEq, Sum.inl.injEq] at hz0
    obtain ⟨_, h1, hz0⟩ := hz0
    split at hz0
    · simp only [Option.bind_eq_some_iff, Option.some.injEq, Sum.inl.injEq] at hz0
      obtain ⟨a, h2, _, h3, hz0⟩ := hz0
      split at hz0
      · cases hz0; rfl
      · simp only [Option.bind_eq_some_iff, Option.some.injEq, Sum.inl.injEq] at hz0; obtain ⟨_, h4, rfl⟩ := hz0; rfl
    · simp only [Option.bind_eq_some_iff, Option.some.injEq, Sum.inl.injEq] at hz0; obtain ⟨a, h2, f, h3, cc, h4, _, h5, w, h6, rfl⟩ := hz0; rfl
  | getstatic x0 =>
    refine zstp_of ?_ (zi_getstatic hc hd hz)
    simp only [zst, zN, Option.bind_eq_some_iff, Option.some.injEq, Sum.inl.injEq] at hz0
    obtain ⟨_, h1, _, h2, hz0⟩ := hz0
    split at hz0
    · cases hz0; rfl
    · simp only [Option.bind_eq_some_iff, Option.some.injEq, Sum.inl.injEq] at hz0; obtain ⟨_, h4, rfl⟩ := hz0; rfl
  | goto x0 =>
    refine zstp_of ?_ (zi_goto hc hd hz)
    simp only [zst, zN, Option.bind_eq_some_iff, Option.some.injEq, Sum.inl.injEq] at hz0
    obtain ⟨_, _, _, _, rfl⟩ := hz0
    rfl
  | i2b =>
    refine zstp_of ?_ (zi_i2b hc hd hz)
    simp only [zst, zN, Option.bind_eq_some_iff, Option.some.injEq, Sum.inl.injEq] at hz0
    obtain ⟨_, _, _, _, rfl⟩ := hz0
    rfl
  | i2c =>
    refine zstp_of ?_ (zi_i2c hc hd hz)
    simp only [zst, zN, Option.bind_eq_some_iff, Option.some.injEq, Sum.inl.injEq] at hz0
    obtain ⟨_, _, _, _, rfl⟩ := hz0
    rfl
  | i2l =>
    refine zstp_of ?_ (zi_i2l hc hd hz)
    simp only [zst, zN, Option.bind_eq_some_iff, Option.some.injEq, Sum.inl.injEq] at hz0
    obtain ⟨_, _, _, _, rfl⟩ := hz0
    rfl
  | i2s =>
    refine zstp_of ?_ (zi_i2s hc hd hz)
    simp only [zst, zN, Option.bind_eq_some_iff, Option.some.injEq, Sum.inl.injEq] at hz0
    obtain ⟨_, _, _, _, rfl⟩ := hz0
    rfl
  | iadd =>
    refine zstp_of ?_ (zi_iadd hc hd hz)
    simp only [zst, Option.bind_eq_some_iff] at hz0
    obtain ⟨_, h1, hz0⟩ := hz0
    split at hz0
    · simp only [zN, Option.bind_eq_some_iff, Option.some.injEq, Sum.inl.injEq] at hz0; obtain ⟨v, hv, rfl⟩ := hz0; rfl
    · simp only [zN, Option.bind_eq_some_iff, Option.some.injEq, Sum.inl.injEq] at hz0; obtain ⟨v, hv, rfl⟩ := hz0; rfl
    · cases hz0
  | iaload =>
    refine zstp_of ?_ (zi_iaload hc hd hz)
    simp only [zst, zN, Option.bind_eq_some_iff, Option.some.injEq, Sum.inl.injEq] at hz0
    obtain ⟨_, h1, i, h2, hz0⟩ := hz0
    split at hz0
    · simp only [Option.bind_eq_some_iff, Option.some.injEq, Sum.inl.injEq] at hz0; obtain ⟨cc, h4, _, h5, v, h6, rfl⟩ := hz0; rfl
    · simp only [Option.bind_eq_some_iff, Option.some.injEq, Sum.inl.injEq] at hz0; obtain ⟨xs, h4, _, h5, v, h6, rfl⟩ := hz0; rfl
    · cases hz0
  | iand =>
    refine zstp_of ?_ (zi_iand hc hd hz)
    simp only [zst, Option.bind_eq_some_iff] at hz0
    obtain ⟨_, h1, hz0⟩ := hz0
    split at hz0
    · simp only [zN, Option.bind_eq_some_iff, Option.some.injEq, Sum.inl.injEq] at hz0; obtain ⟨v, hv, rfl⟩ := hz0; rfl
    · simp only [zN, Option.bind_eq_some_iff, Option.some.injEq, Sum.inl.injEq] at hz0; obtain ⟨v, hv, rfl⟩ := hz0; rfl
    · cases hz0
  | iastore =>
    simp only [zst, zN, Option.bind_eq_some_iff, Option.some.injEq, Sum.inl.injEq] at hz0
    obtain ⟨_, h1, x, h2, i, h2b, a, h2c, cc, h4, _, h5, rfl⟩ := hz0
    exact Or.inl ⟨by simp, zsz_set h4 (by simp), fun _ _ k => zi_iastore hc hd hz k⟩
  | iconst x0 =>
    refine zstp_of ?_ (zi_iconst hc hd hz)
    simp only [zst, zN, Option.bind_eq_some_iff, Option.some.injEq, Sum.inl.injEq] at hz0
    obtain ⟨_, _, rfl⟩ := hz0
    rfl
  | idiv =>
    refine zstp_of ?_ (zi_idiv hc hd hz)
    simp only [zst, Option.bind_eq_some_iff] at hz0
    obtain ⟨_, h1, hz0⟩ := hz0
    split at hz0
    · simp only [zN, Option.bind_eq_some_iff, Option.some.injEq, Sum.inl.injEq] at hz0; obtain ⟨v, hv, rfl⟩ := hz0; rfl
    · simp only [zN, Option.bind_eq_some_iff, Option.some.injEq, Sum.inl.injEq] at hz0; obtain ⟨v, hv, rfl⟩ := hz0; rfl
    · cases hz0
  | if_icmp x0 x1 =>
    simp only [zst, zN, Option.bind_eq_some_iff, Option.some.injEq, Sum.inl.injEq] at hz0
    obtain ⟨_, h1, y, h2, x, h2b, t, h3, hz0⟩ := hz0
    refine zstp_of ?_ (zi_if_icmp hc hd hz)
    split at hz0 <;> (cases hz0; rfl)
  | ifCond x0 x1 =>
    simp only [zst, zN, Option.bind_eq_some_iff, Option.some.injEq, Sum.inl.injEq] at hz0
    obtain ⟨_, h1, x, h2, t, h3, hz0⟩ := hz0
    refine zstp_of ?_ (zi_ifCond hc hd hz)
    split at hz0 <;> (cases hz0; rfl)
  | iinc x0 x1 =>
    refine zstp_of ?_ (zi_iinc hc hd hz)
    simp only [zst, zN, Option.bind_eq_some_iff, Option.some.injEq, Sum.inl.injEq] at hz0
    obtain ⟨_, _, _, _, _, _, _, _, rfl⟩ := hz0
    rfl
  | iload x0 =>
    refine zstp_of ?_ (zi_iload hc hd hz)
    simp only [zst, zN, Option.bind_eq_some_iff, Option.some.injEq, Sum.inl.injEq] at hz0
    obtain ⟨_, _, _, _, _, _, rfl⟩ := hz0
    rfl
  | iload_n x0 =>
    refine zstp_of ?_ (zi_iload_n hc hd hz)
    simp only [zst, zN, Option.bind_eq_some_iff, Option.some.injEq, Sum.inl.injEq] at hz0
    obtain ⟨_, _, _, _, _, _, rfl⟩ := hz0
    rfl
  | imul =>
    refine zstp_of ?_ (zi_imul hc hd hz)
    simp only [zst, Option.bind_eq_some_iff] at hz0
    obtain ⟨_, h1, hz0⟩ := hz0
    split at hz0
    · simp only [zN, Option.bind_eq_some_iff, Option.some.injEq, Sum.inl.injEq] at hz0; obtain ⟨v, hv, rfl⟩ := hz0; rfl
    · simp only [zN, Option.bind_eq_some_iff, Option.some.injEq, Sum.inl.injEq] at hz0; obtain ⟨v, hv, rfl⟩ := hz0; rfl
    · cases hz0
  | invokespecial i =>
    simp only [zst, zN, Option.bind_eq_some_iff] at hz0
    obtain ⟨_, h1, q, h2, hz0⟩ := hz0
    obtain rfl := zg_some h1
    split at hz0
    · rename_i h4
      simp only [Option.bind_eq_some_iff, Option.some.injEq, Sum.inl.injEq] at hz0
      obtain ⟨a, h5, _, h6, rfl⟩ := hz0
      obtain rfl := zpr_some h5
      obtain ⟨q1, q2, q3, q4⟩ := q
      dsimp only at h4
      subst h4
      exact zstp_of rfl (zi_objInit hc h2 (of_decide_eq_true (zgb_some h6)) hd)
    · simp only [Option.bind_eq_some_iff, Option.some.injEq, reduceCtorEq, and_false, exists_const] at hz0
  | invokestatic i =>
    simp only [zst, zN, Option.bind_eq_some_iff] at hz0
    obtain ⟨_, h1, q, h2, hz0⟩ := hz0
    obtain rfl := zg_some h1
    split at hz0
    · rename_i h4
      simp only [Option.bind_eq_some_iff, Option.some.injEq, Sum.inl.injEq] at hz0
      obtain ⟨y, h5, x, h5b, _, h6, rfl⟩ := hz0
      obtain rfl := zpi_some h5
      have h7 := zpi_some h5b
      obtain ⟨q1, q2, q3, q4⟩ := q
      dsimp only at h4
      subst h4
      refine Or.inl ⟨rfl, rfl, fun hcc hss k => ?_⟩
      rw [h7]
      exact zi_mmax hc hcc hss h2 (of_decide_eq_true (zgb_some h6)) hd k
    · split at hz0
      · rename_i _ h4
        simp only [Option.bind_eq_some_iff, Option.some.injEq, Sum.inl.injEq] at hz0
        obtain ⟨y, h5, x, h5b, _, h6, rfl⟩ := hz0
        obtain rfl := zpi_some h5
        have h7 := zpi_some h5b
        obtain ⟨q1, q2, q3, q4⟩ := q
        dsimp only at h4
        subst h4
        refine Or.inl ⟨rfl, rfl, fun hcc hss k => ?_⟩
        rw [h7]
        exact zi_mmin hc hcc hss h2 (of_decide_eq_true (zgb_some h6)) hd k
      · simp only [Option.bind_eq_some_iff, Option.some.injEq, reduceCtorEq, and_false, exists_const] at hz0
  | invokevirtual i => simp only [zst, Option.bind_eq_some_iff, Option.some.injEq, reduceCtorEq, and_false, exists_const] at hz0
  | ior =>
    refine zstp_of ?_ (zi_ior hc hd hz)
    simp only [zst, Option.bind_eq_some_iff] at hz0
    obtain ⟨_, h1, hz0⟩ := hz0
    split at hz0
    · simp only [zN, Option.bind_eq_some_iff, Option.some.injEq, Sum.inl.injEq] at hz0; obtain ⟨v, hv, rfl⟩ := hz0; rfl
    · simp only [zN, Option.bind_eq_some_iff, Option.some.injEq, Sum.inl.injEq] at hz0; obtain ⟨v, hv, rfl⟩ := hz0; rfl
    · cases hz0
  | irem =>
    refine zstp_of ?_ (zi_irem hc hd hz)
    simp only [zst, Option.bind_eq_some_iff] at hz0
    obtain ⟨_, h1, hz0⟩ := hz0
    split at hz0
    · simp only [zN, Option.bind_eq_some_iff, Option.some.injEq, Sum.inl.injEq] at hz0; obtain ⟨v, hv, rfl⟩ := hz0; rfl
    · simp only [zN, Option.bind_eq_some_iff, Option.some.injEq, Sum.inl.injEq] at hz0; obtain ⟨v, hv, rfl⟩ := hz0; rfl
    · cases hz0
  | ireturn => simp only [zst, Option.bind_eq_some_iff, Option.some.injEq, reduceCtorEq, and_false, exists_const] at hz0
  | ishl =>
    refine zstp_of ?_ (zi_ishl hc hd hz)
    simp only [zst, Option.bind_eq_some_iff] at hz0
    obtain ⟨_, h1, hz0⟩ := hz0
    split at hz0
    · simp only [zN, Option.bind_eq_some_iff, Option.some.injEq, Sum.inl.injEq] at hz0; obtain ⟨v, hv, rfl⟩ := hz0; rfl
    · simp only [zN, Option.bind_eq_some_iff, Option.some.injEq, Sum.inl.injEq] at hz0; obtain ⟨v, hv, rfl⟩ := hz0; rfl
    · cases hz0
  | ishr =>
    refine zstp_of ?_ (zi_ishr hc hd hz)
    simp only [zst, Option.bind_eq_some_iff] at hz0
    obtain ⟨_, h1, hz0⟩ := hz0
    split at hz0
    · simp only [zN, Option.bind_eq_some_iff, Option.some.injEq, Sum.inl.injEq] at hz0; obtain ⟨v, hv, rfl⟩ := hz0; rfl
    · simp only [zN, Option.bind_eq_some_iff, Option.some.injEq, Sum.inl.injEq] at hz0; obtain ⟨v, hv, rfl⟩ := hz0; rfl
    · cases hz0
  | istore x0 =>
    refine zstp_of ?_ (zi_istore hc hd hz)
    simp only [zst, zN, Option.bind_eq_some_iff, Option.some.injEq, Sum.inl.injEq] at hz0
    obtain ⟨_, _, _, _, _, _, rfl⟩ := hz0
    rfl
  | istore_n x0 =>
    refine zstp_of ?_ (zi_istore_n hc hd hz)
    simp only [zst, zN, Option.bind_eq_some_iff, Option.some.injEq, Sum.inl.injEq] at hz0
    obtain ⟨_, _, _, _, _, _, rfl⟩ := hz0
    rfl
  | isub =>
    refine zstp_of ?_ (zi_isub hc hd hz)
    simp only [zst, Option.bind_eq_some_iff] at hz0
    obtain ⟨_, h1, hz0⟩ := hz0
    split at hz0
    · simp only [zN, Option.bind_eq_some_iff, Option.some.injEq, Sum.inl.injEq] at hz0; obtain ⟨v, hv, rfl⟩ := hz0; rfl
    · simp only [zN, Option.bind_eq_some_iff, Option.some.injEq, Sum.inl.injEq] at hz0; obtain ⟨v, hv, rfl⟩ := hz0; rfl
    · cases hz0
  | iushr =>
    refine zstp_of ?_ (zi_iushr hc hd hz)
    simp only [zst, Option.bind_eq_some_iff] at hz0
    obtain ⟨_, h1, hz0⟩ := hz0
    split at hz0
    · simp only [zN, Option.bind_eq_some_iff, Option.some.injEq, Sum.inl.injEq] at hz0; obtain ⟨v, hv, rfl⟩ := hz0; rfl
    · simp only [zN, Option.bind_eq_some_iff, Option.some.injEq, Sum.inl.injEq] at hz0; obtain ⟨v, hv, rfl⟩ := hz0; rfl
    · cases hz0
  | ixor =>
    refine zstp_of ?_ (zi_ixor hc hd hz)
    simp only [zst, Option.bind_eq_some_iff] at hz0
    obtain ⟨_, h1, hz0⟩ := hz0
    split at hz0
    · simp only [zN, Option.bind_eq_some_iff, Option.some.injEq, Sum.inl.injEq] at hz0; obtain ⟨v, hv, rfl⟩ := hz0; rfl
    · simp only [zN, Option.bind_eq_some_iff, Option.some.injEq, Sum.inl.injEq] at hz0; obtain ⟨v, hv, rfl⟩ := hz0; rfl
    · cases hz0
  | ladd =>
    refine zstp_of ?_ (zi_ladd hc hd hz)
    simp only [zst, Option.bind_eq_some_iff] at hz0
    obtain ⟨_, h1, hz0⟩ := hz0
    split at hz0
    · simp only [zN, Option.bind_eq_some_iff, Option.some.injEq, Sum.inl.injEq] at hz0; obtain ⟨v, hv, rfl⟩ := hz0; rfl
    · simp only [zN, Option.bind_eq_some_iff, Option.some.injEq, Sum.inl.injEq] at hz0; obtain ⟨v, hv, rfl⟩ := hz0; rfl
    · cases hz0
  | lcmp =>
    refine zstp_of ?_ (zi_lcmp hc hd hz)
    simp only [zst, zN, Option.bind_eq_some_iff, Option.some.injEq, Sum.inl.injEq] at hz0
    obtain ⟨_, _, _, _, _, _, rfl⟩ := hz0
    rfl
  | lconst x0 =>
    refine zstp_of ?_ (zi_lconst hc hd hz)
    simp only [zst, zN, Option.bind_eq_some_iff, Option.some.injEq, Sum.inl.injEq] at hz0
    obtain ⟨_, _, rfl⟩ := hz0
    rfl
  | ldc x0 =>
    refine zstp_of ?_ (zi_ldc hc hd hz)
    simp only [zst, zN, Option.bind_eq_some_iff, Option.some.injEq, Sum.inl.injEq] at hz0
    obtain ⟨_, h1, hz0⟩ := hz0
    split at hz0
    · simp only [Option.bind_eq_some_iff, Option.some.injEq, Sum.inl.injEq] at hz0; obtain ⟨k, h2, _, h3, rfl⟩ := hz0; rfl
    · simp only [Option.bind_eq_some_iff, Option.some.injEq, Sum.inl.injEq] at hz0; obtain ⟨q, h2, rfl⟩ := hz0; rfl
  | ldc_w x0 =>
    refine zstp_of ?_ (zi_ldc_w hc hd hz)
    simp only [zst, zN, Option.bind_eq_some_iff, Option.some.injEq, Sum.inl.injEq] at hz0
    obtain ⟨_, _, _, _, rfl⟩ := hz0
    rfl
  | ldc2_w x0 =>
    refine zstp_of ?_ (zi_ldc2_w hc hd hz)
    simp only [zst, zN, Option.bind_eq_some_iff, Option.some.injEq, Sum.inl.injEq] at hz0
    obtain ⟨_, _, _, _, rfl⟩ := hz0
    rfl
  | ldiv =>
    refine zstp_of ?_ (zi_ldiv hc hd hz)
    simp only [zst, Option.bind_eq_some_iff] at hz0
    obtain ⟨_, h1, hz0⟩ := hz0
    split at hz0
    · simp only [zN, Option.bind_eq_some_iff, Option.some.injEq, Sum.inl.injEq] at hz0; obtain ⟨v, hv, rfl⟩ := hz0; rfl
    · simp only [zN, Option.bind_eq_some_iff, Option.some.injEq, Sum.inl.injEq] at hz0; obtain ⟨v, hv, rfl⟩ := hz0; rfl
    · cases hz0
  | lload x0 =>
    refine zstp_of ?_ (zi_lload hc hd hz)
    simp only [zst, zN, Option.bind_eq_some_iff, Option.some.injEq, Sum.inl.injEq] at hz0
    obtain ⟨_, _, _, _, _, _, rfl⟩ := hz0
    rfl
  | lload_n x0 =>
    refine zstp_of ?_ (zi_lload_n hc hd hz)
    simp only [zst, zN, Option.bind_eq_some_iff, Option.some.injEq, Sum.inl.injEq] at hz0
    obtain ⟨_, _, _, _, _, _, rfl⟩ := hz0
    rfl
  | lmul =>
    refine zstp_of ?_ (zi_lmul hc hd hz)
    simp only [zst, Option.bind_eq_some_iff] at hz0
    obtain ⟨_, h1, hz0⟩ := hz0
    split at hz0
    · simp only [zN, Option.bind_eq_some_iff, Option.some.injEq, Sum.inl.injEq] at hz0; obtain ⟨v, hv, rfl⟩ := hz0; rfl
    · simp only [zN, Option.bind_eq_some_iff, Option.some.injEq, Sum.inl.injEq] at hz0; obtain ⟨v, hv, rfl⟩ := hz0; rfl
    · cases hz0
  | lookupswitch x0 x1 =>
    simp only [zst, zN, Option.bind_eq_some_iff, Option.some.injEq, Sum.inl.injEq] at hz0
    obtain ⟨x, h2, _, h4, t, h3, rfl⟩ := hz0
    exact zstp_of rfl (zi_lsw hc hd hz)
  | lrem =>
    refine zstp_of ?_ (zi_lrem hc hd hz)
    simp only [zst, Option.bind_eq_some_iff] at hz0
    obtain ⟨_, h1, hz0⟩ := hz0
    split at hz0
    · simp only [zN, Option.bind_eq_some_iff, Option.some.injEq, Sum.inl.injEq] at hz0; obtain ⟨v, hv, rfl⟩ := hz0; rfl
    · simp only [zN, Option.bind_eq_some_iff, Option.some.injEq, Sum.inl.injEq] at hz0; obtain ⟨v, hv, rfl⟩ := hz0; rfl
    · cases hz0
  | lreturn => simp only [zst, Option.bind_eq_some_iff, Option.some.injEq, reduceCtorEq, and_false, exists_const] at hz0
  | lstore x0 =>
    refine zstp_of ?_ (zi_lstore hc hd hz)
    simp only [zst, zN, Option.bind_eq_some_iff, Option.some.injEq, Sum.inl.injEq] at hz0
    obtain ⟨_, _, _, _, _, _, rfl⟩ := hz0
    rfl
  | lstore_n x0 =>
    refine zstp_of ?_ (zi_lstore_n hc hd hz)
    simp only [zst, zN, Option.bind_eq_some_iff, Option.some.injEq, Sum.inl.injEq] at hz0
    obtain ⟨_, _, _, _, _, _, rfl⟩ := hz0
    rfl
  | lsub =>
    refine zstp_of ?_ (zi_lsub hc hd hz)
    simp only [zst, Option.bind_eq_some_iff] at hz0
    obtain ⟨_, h1, hz0⟩ := hz0
    split at hz0
    · simp only [zN, Option.bind_eq_some_iff, Option.some.injEq, Sum.inl.injEq] at hz0; obtain ⟨v, hv, rfl⟩ := hz0; rfl
    · simp only [zN, Option.bind_eq_some_iff, Option.some.injEq, Sum.inl.injEq] at hz0; obtain ⟨v, hv, rfl⟩ := hz0; rfl
    · cases hz0
  | new x0 =>
    exact Or.inr (zi_new hc hd hz)
  | newarray x0 =>
    exact Or.inr (zi_newarray hc hd hz)
  | pop =>
    refine zstp_of ?_ (zi_pop hc hd hz)
    simp only [zst, zN, Option.bind_eq_some_iff, Option.some.injEq, Sum.inl.injEq] at hz0
    obtain ⟨_, _, _, _, rfl⟩ := hz0
    rfl
  | pop2 =>
    refine zstp_of ?_ (zi_pop2 hc hd hz)
    simp only [zst, zN, Option.bind_eq_some_iff, Option.some.injEq, Sum.inl.injEq] at hz0
    obtain ⟨_, _, _, _, rfl⟩ := hz0
    rfl
  | putfield x0 =>
    simp only [zst, zN, Option.bind_eq_some_iff, Option.some.injEq, Sum.inl.injEq] at hz0
    obtain ⟨_, h1, v, h1b, a, h2, f, h3, cc, h4, _, h5, ty, h6, _, h7, rfl⟩ := hz0
    exact Or.inl ⟨by simp, zsz_set h4 (by simp), fun _ _ k => zi_putfield hc hd hz k⟩
  | return_ => simp only [zst, Option.bind_eq_some_iff, Option.some.injEq, reduceCtorEq, and_false, exists_const] at hz0
  | sipush x0 =>
    refine zstp_of ?_ (zi_sipush hc hd hz)
    simp only [zst, zN, Option.bind_eq_some_iff, Option.some.injEq, Sum.inl.injEq] at hz0
    obtain ⟨_, _, rfl⟩ := hz0
    rfl
  | tableswitch x0 x1 x2 x3 =>
    simp only [zst, zN, Option.bind_eq_some_iff, Option.some.injEq, Sum.inl.injEq] at hz0
    obtain ⟨x, h2, hz0⟩ := hz0
    refine zstp_of ?_ (zi_tsw hc hd hz)
    split at hz0
    · simp only [Option.bind_eq_some_iff, Option.some.injEq, Sum.inl.injEq] at hz0; obtain ⟨t, h3, rfl⟩ := hz0; rfl
    · simp only [Option.bind_eq_some_iff, Option.some.injEq, Sum.inl.injEq] at hz0; obtain ⟨o, h4, t, h3, rfl⟩ := hz0; rfl
  | _ =>
    exfalso
    simp only [zst, Option.bind_eq_some_iff] at hz0
    obtain ⟨_, h1, hz0⟩ := hz0
    split at hz0
    · simp [zb2] at hz0
    · simp [zl2] at hz0
    · cases hz0
theorem z_step (hc : zCx p R s m args meth c Ts A b sc d mi) {st : zSt} (hz : zstep sc mi st = some (.inl st')) : zStp p l e R s m args below meth c Q D A b cells slots mi ad st st' := by
  unfold zstep at hz
  rw [Option.bind_eq_some_iff] at hz
  obtain ⟨⟨ins, len⟩, h1, h2⟩ := hz
  obtain ⟨pc, lo, sk, h⟩ := st
  exact z_step1 hc (zin_ok hc.2.2.2.2.2.2.2.2.1 h1) h2
end ZSTEP
