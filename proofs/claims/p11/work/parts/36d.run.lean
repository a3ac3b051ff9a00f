/-! the engine is sound: runs -/
section YRN
variable {T : yT} {md : yMd} {N1 N2 : Nat} {ρ : List Int} {sc : Option (List Int32)} {scA : ySc} {mi : zMi} {len pc : Nat} {env : List yI} {lo : yLo} {sk : List yV} {h : yH} {st : zSt} {sts : List yS}
set_option maxHeartbeats 4000000 in
theorem y_step1 {ins : Instr} (hsc : yScr ρ scA sc) (hG : yG T N1 N2 ρ (pc, env, lo, sk, h) st) (hz : yst T md scA mi ins len pc env lo sk h = some (.inl sts)) : yRs T md N1 N2 ρ sc mi ins len sts st := by
  cases ins with
  | aaload => exact yi_aaload hG hz
  | aload x0 => exact yi_aload hG hz
  | aload_n x0 => exact yi_aload_n hG hz
  | areturn => simp only [yst, Option.bind_eq_some_iff, Option.some.injEq, reduceCtorEq, and_false, exists_const] at hz
  | arraylength => exact yi_arraylength hsc hG hz
  | astore x0 => exact yi_astore hG hz
  | astore_n x0 => exact yi_astore_n hG hz
  | baload => exact yi_baload hG hz
  | bastore => exact yi_bastore hG hz
  | bipush x0 => exact yi_bipush hG hz
  | dup => exact yi_dup hG hz
  | dup2 => exact yi_dup2 hG hz
  | getfield x0 => exact yi_getfield hG hz
  | getstatic x0 => exact yi_getstatic hG hz
  | goto x0 => exact yi_goto hG hz
  | i2b => exact yi_i2b hG hz
  | i2c => exact yi_i2c hG hz
  | i2l => exact yi_i2l hG hz
  | i2s => exact yi_i2s hG hz
  | iadd => exact yi_iadd hG hz
  | iaload => exact yi_iaload hsc hG hz
  | iand => exact yi_iand hG hz
  | iastore => exact yi_iastore hG hz
  | iconst x0 => exact yi_iconst hG hz
  | idiv => exact yi_idiv hG hz
  | if_icmp x0 x1 => exact yi_if_icmp hG hz
  | ifCond x0 x1 => exact yi_ifCond hG hz
  | iinc x0 x1 => exact yi_iinc hG hz
  | iload x0 => exact yi_iload hG hz
  | iload_n x0 => exact yi_iload_n hG hz
  | imul => exact yi_imul hG hz
  | invokestatic x0 => exact yi_invokestatic hG hz
  | invokevirtual i => simp only [yst, Option.bind_eq_some_iff, Option.some.injEq, reduceCtorEq, and_false, exists_const] at hz
  | ior => exact yi_ior hG hz
  | irem => exact yi_irem hG hz
  | ireturn => simp only [yst, Option.bind_eq_some_iff, Option.some.injEq, reduceCtorEq, and_false, exists_const] at hz
  | ishl => exact yi_ishl hG hz
  | ishr => exact yi_ishr hG hz
  | istore x0 => exact yi_istore hG hz
  | istore_n x0 => exact yi_istore_n hG hz
  | isub => exact yi_isub hG hz
  | iushr => exact yi_iushr hG hz
  | ixor => exact yi_ixor hG hz
  | ladd => exact yi_ladd hG hz
  | lcmp => exact yi_lcmp hG hz
  | lconst x0 => exact yi_lconst hG hz
  | ldc x0 => exact yi_ldc hG hz
  | ldc_w x0 => exact yi_ldc_w hG hz
  | ldc2_w x0 => exact yi_ldc2_w hG hz
  | ldiv => exact yi_ldiv hG hz
  | lload x0 => exact yi_lload hG hz
  | lload_n x0 => exact yi_lload_n hG hz
  | lmul => exact yi_lmul hG hz
  | lookupswitch x0 x1 => exact yi_lsw hG hz
  | lrem => exact yi_lrem hG hz
  | lreturn => simp only [yst, Option.bind_eq_some_iff, Option.some.injEq, reduceCtorEq, and_false, exists_const] at hz
  | lstore x0 => exact yi_lstore hG hz
  | lstore_n x0 => exact yi_lstore_n hG hz
  | lsub => exact yi_lsub hG hz
  | pop => exact yi_pop hG hz
  | pop2 => exact yi_pop2 hG hz
  | putfield x0 => exact yi_putfield hG hz
  | return_ => simp only [yst, Option.bind_eq_some_iff, Option.some.injEq, reduceCtorEq, and_false, exists_const] at hz
  | sipush x0 => exact yi_sipush hG hz
  | tableswitch x0 x1 x2 x3 => exact yi_tsw hG hz
  | _ =>
    exfalso
    simp only [yst, Option.bind_eq_some_iff] at hz
    obtain ⟨_, h1, hz⟩ := hz
    obtain ⟨hpc, hE, hL, hS, hH⟩ := hG
    dsimp only at hpc hE hL hS hH
    split at hz
    · simp only [yN, Option.bind_eq_some_iff] at hz
      obtain ⟨v, hv, _⟩ := hz
      obtain ⟨Y, t, _, hY, hU⟩ := ySi hS
      obtain ⟨X, t2, _, hX, hV⟩ := ySi hU
      obtain ⟨V, g0, _⟩ := yb2_ok hE hX hY hv
      simp [zb2] at g0
    · simp only [yN, Option.bind_eq_some_iff] at hz
      obtain ⟨v, hv, _⟩ := hz
      obtain ⟨Y, t, _, hY, hU⟩ := ySl hS
      obtain ⟨X, t2, _, hX, hV⟩ := ySl hU
      obtain ⟨V, g0, _⟩ := yl2_ok hE hX hY hv
      simp [zl2] at g0
    · cases hz
theorem y_call1 {ins : Instr} {c : Nat × Nat × List yV × List yV} (hi : yisc ins = true) (hG : yG T N1 N2 ρ (pc, env, lo, sk, h) st) (hz : yst T md scA mi ins len pc env lo sk h = some (.inr (.inl c))) : ∃ as rest, zst sc mi ins len st.1 st.2.1 st.2.2.1 st.2.2.2 = some (.inr (.inl (c.1, c.2.1, as, rest))) ∧ zF2 (yVG ρ) c.2.2.1 as ∧ zF2 (yVG ρ) c.2.2.2 rest := by
  obtain ⟨hpc, hE, hL, hS, hH⟩ := hG
  dsimp only at hpc hE hL hS hH
  have hlen := zF2_len hS
  cases ins with
  | invokevirtual i =>
    simp only [yst, yzk_eq, Option.bind_eq_some_iff, Option.some.injEq, Sum.inr.injEq, Sum.inl.injEq] at hz
    obtain ⟨_, h1, ⟨q1, q2, q3, q4⟩, h2, _, h3, h4⟩ := hz
    have hb := ygb_some h1
    simp only [nbq] at hb
    have hc := ygb_some h3
    simp only [Bool.and_eq_true, nbq, Nat.blt_eq] at hc
    dsimp only at hc h4
    obtain ⟨c1, c2⟩ := hc
    subst hb
    subst c1
    subst h4
    obtain ⟨k1, k2⟩ := zF2_cut (q3 + 1) hS
    refine ⟨(st.2.2.1.take (q3 + 1)).reverse, st.2.2.1.drop (q3 + 1), ?_, zF2_rev k1, k2⟩
    have hgb : (decide True && decide (q3 < st.2.2.1.length)) = true := by rw [← hlen]; simp [c2]
    simp only [zst, zg_self, h2, Option.bind_some]
    rw [zgb_true hgb, Option.bind_some]
  | invokestatic i =>
    simp only [yst, yzk_eq, Option.bind_eq_some_iff] at hz
    obtain ⟨_, h1, ⟨q1, q2, q3, q4⟩, h2, hz⟩ := hz
    have hb := ygb_some h1
    simp only [nbq] at hb
    dsimp only at hz
    have hq5 : Nat.beq q1 5 = false := by
      cases hq : Nat.beq q1 5 with
      | false => rfl
      | true =>
        rw [hq] at hz
        simp only [cond_true, Option.bind_eq_some_iff] at hz
        obtain ⟨y, _, x, _, _, _, hz⟩ := hz
        split at hz
        · simp only [Option.some.injEq, reduceCtorEq] at hz
        · cases hz
    have hq6 : Nat.beq q1 6 = false := by
      cases hq : Nat.beq q1 6 with
      | false => rfl
      | true =>
        rw [hq5, hq] at hz
        simp only [cond_true, cond_false, Option.bind_eq_some_iff] at hz
        obtain ⟨y, _, x, _, _, _, hz⟩ := hz
        split at hz
        · simp only [Option.some.injEq, reduceCtorEq] at hz
        · cases hz
    rw [hq5, hq6] at hz
    simp only [cond_false, Option.bind_eq_some_iff, Option.some.injEq, Sum.inr.injEq, Sum.inl.injEq] at hz
    obtain ⟨_, h3, h4⟩ := hz
    have hc := ygb_some h3
    simp only [Bool.and_eq_true, nbq, Nat.ble_eq] at hc
    try dsimp only at hc h4
    obtain ⟨c1, c2⟩ := hc
    subst hb
    subst c1
    subst h4
    obtain ⟨k1, k2⟩ := zF2_cut q3 hS
    refine ⟨(st.2.2.1.take q3).reverse, st.2.2.1.drop q3, ?_, zF2_rev k1, k2⟩
    have hgb : (decide True && decide (q3 ≤ st.2.2.1.length)) = true := by rw [← hlen]; simp [c2]
    simp only [zst, zg_self, h2, Option.bind_some]
    rw [if_neg (by decide), if_neg (by decide), zgb_true hgb, Option.bind_some]
  | _ => cases hi
theorem y_ret1 {ins : Instr} {r : Option yV} (hi : yisr ins = true) (hG : yG T N1 N2 ρ (pc, env, lo, sk, h) st) (hz : yst T md scA mi ins len pc env lo sk h = some (.inr (.inr r))) : ∃ v, zst sc mi ins len st.1 st.2.1 st.2.2.1 st.2.2.2 = some (.inr (.inr v)) ∧ yOv ρ r v := by
  obtain ⟨hpc, hE, hL, hS, hH⟩ := hG
  dsimp only at hpc hE hL hS hH
  obtain ⟨pc0, lo0, sk0, hh⟩ := st
  dsimp only at hpc hL hS hH ⊢
  cases ins with
  | ireturn =>
    simp only [yst, Option.bind_eq_some_iff, Option.some.injEq, Sum.inr.injEq] at hz
    obtain ⟨_, h1, x, h2, _, h3, h4⟩ := hz
    have hb := ygb_some h1
    simp only [nbq] at hb
    subst hb
    subst h4
    have hsk := ypi_some h2
    rw [hsk] at hS
    obtain ⟨X, t, hst, hX, hU⟩ := ySi hS
    subst hst
    have hc := ygb_some h3
    simp only [Bool.and_eq_true, List.isEmpty_iff] at hc
    rw [hc.1] at hU
    have ht := zF2_n hU
    subst ht
    have hrok : zrok mi.2.2.2.1 X = true := by
      have hr := hc.2
      unfold yrok at hr
      unfold zrok
      split at hr
      · rename_i hq; rw [hq]
      · rename_i hq
        rw [hq]
        have hr2 := yin_ok hE hX hr
        simp only [Bool.or_eq_true, decide_eq_true_eq]
        rcases (show X.toInt = 0 ∨ X.toInt = 1 by omega) with w | w
        · exact Or.inl (Int32.toInt_inj.mp w)
        · exact Or.inr (Int32.toInt_inj.mp w)
      · rename_i hq
        rw [hq]
        have hr2 := yin_ok hE hX hr
        simp only [Bool.and_eq_true, decide_eq_true_eq]
        exact ⟨Int32.le_iff_toInt_le.mpr (show (0 : Int32).toInt ≤ X.toInt from hr2.1), Int32.le_iff_toInt_le.mpr (show X.toInt ≤ (65535 : Int32).toInt from hr2.2)⟩
      · rename_i hq
        rw [hq]
        have hr2 := yin_ok hE hX hr
        simp only [Bool.or_eq_true, decide_eq_true_eq]
        rcases (show X.toInt = 0 ∨ X.toInt = 1 by omega) with w | w
        · exact Or.inl (Int32.toInt_inj.mp w)
        · exact Or.inr (Int32.toInt_inj.mp w)
      · cases hr
    refine ⟨some (.int X), ?_, yVG_mi hX⟩
    simp only [zst, zg_self, zpi, Option.bind_some, List.isEmpty_nil, Bool.true_and]
    rw [zgb_true hrok, Option.bind_some]
  | lreturn =>
    simp only [yst, Option.bind_eq_some_iff, Option.some.injEq, Sum.inr.injEq] at hz
    obtain ⟨_, h1, x, h2, _, h3, h4⟩ := hz
    have hb := ygb_some h1
    simp only [nbq] at hb
    subst hb
    subst h4
    have hsk := ypl_some h2
    rw [hsk] at hS
    obtain ⟨X, t, hst, hX, hU⟩ := ySl hS
    subst hst
    have hc := ygb_some h3
    simp only [Bool.and_eq_true, List.isEmpty_iff] at hc
    rw [hc.1] at hU
    have ht := zF2_n hU
    subst ht
    refine ⟨some (.long X), ?_, yVG_ml hX⟩
    simp only [zst, zg_self, zpl, Option.bind_some, List.isEmpty_nil, Bool.true_and]
    rw [zgb_true hc.2, Option.bind_some]
  | areturn =>
    simp only [yst, Option.bind_eq_some_iff, Option.some.injEq, Sum.inr.injEq] at hz
    obtain ⟨_, h1, x, h2, _, h3, h4⟩ := hz
    have hb := ygb_some h1
    simp only [nbq] at hb
    subst hb
    subst h4
    have hsk := ypx_some h2
    rw [hsk] at hS
    obtain ⟨t, hst, hU⟩ := ySw hS
    subst hst
    have hc := ygb_some h3
    simp only [Bool.and_eq_true, List.isEmpty_iff] at hc
    rw [hc.1] at hU
    have ht := zF2_n hU
    subst ht
    refine ⟨some (.retAddr x.1), ?_, yVG_mw (ρ := ρ) _⟩
    simp only [zst, zg_self, zpx, Option.bind_some, List.isEmpty_nil, Bool.true_and]
    rw [zgb_true hc.2, Option.bind_some]
  | return_ =>
    simp only [yst, Option.bind_eq_some_iff, Option.some.injEq, Sum.inr.injEq] at hz
    obtain ⟨_, h1, h4⟩ := hz
    have hb := ygb_some h1
    simp only [Bool.and_eq_true, nbq, List.isEmpty_iff] at hb
    obtain ⟨⟨b1, b2⟩, b3⟩ := hb
    subst b1
    subst h4
    rw [b2] at hS
    have ht := zF2_n hS
    subst ht
    refine ⟨none, ?_, True.intro⟩
    simp only [zst, zg_self, Option.bind_some, List.isEmpty_nil, Bool.true_and]
    rw [zgb_true b3, Option.bind_some]
  | _ => cases hi
theorem yags_F2 : ∀ {as : List yV} {vs : List Value} (i : Nat), zF2 (yVG ρ) as vs → zF2 (fun (q : Nat × yV) (r : Nat × Value) => q.1 = r.1 ∧ yVG ρ q.2 r.2) (yags i as) (lv_args i vs)
  | [], [], _, _ => True.intro
  | a :: as, v :: vs, i, hh => by
    simp only [yags, lv_args]
    have hc := yVG_cat hh.1
    have e : (bif Nat.beq (yct a) 2 then i + 2 else i + 1) = (if v.category = 2 then i + 2 else i + 1) := by
      rw [hc]
      by_cases h2 : yct a = 2
      · rw [(nbq _ _).mpr h2, if_pos h2]; rfl
      · rw [if_neg h2]
        cases hb : Nat.beq (yct a) 2 with
        | true => exact absurd ((nbq _ _).mp hb) h2
        | false => rfl
    rw [e]
    exact zF2_c ⟨rfl, hh.1⟩ (yags_F2 _ hh.2)
theorem yF2_LR : ∀ {lo : yLo} {l : zLo}, zF2 (fun (q : Nat × yV) (r : Nat × Value) => q.1 = r.1 ∧ yVG ρ q.2 r.2) lo l → yLR ρ lo l
  | [], [], _ => fun k v hk => by simp [zas2] at hk
  | (j, a) :: lo, (j', w) :: l, hh => fun k v hk => by
    obtain ⟨⟨h1, h2⟩, h3⟩ := hh
    dsimp only at h1 h2
    subst h1
    simp only [zas2] at hk ⊢
    cases hb : Nat.beq j k with
    | true => rw [hb] at hk; simp only [cond_true, Option.some.injEq] at hk ⊢; subst hk; exact ⟨w, rfl, h2⟩
    | false => rw [hb] at hk; simp only [cond_false] at hk ⊢; exact yF2_LR h3 k v hk
theorem yags_ok {as : List yV} {vs : List Value} (hh : zF2 (yVG ρ) as vs) : yLR ρ (yags 0 as) (lv_args 0 vs) := yF2_LR (yags_F2 0 hh)
theorem ysl_len (l : List Value) : (lg_sl l).length ≤ (l.map (fun v => v.category)).sum := by
  induction l with
  | nil => simp [lg_sl]
  | cons v l ih =>
    unfold lg_sl at ih ⊢
    rw [List.flatMap_cons, List.length_append, List.map_cons, List.sum_cons]
    by_cases hc : v.category = 2
    · rw [if_pos hc, hc]; simp only [List.length_cons, List.length_nil]; omega
    · rw [if_neg hc]
      have : 1 ≤ v.category := by cases v <;> simp [Value.category]
      simp only [List.length_cons, List.length_nil]
      omega
theorem yrcv_ok {kd : Nat} {mi' : zMi} {as rest : List yV} {vs rs : List Value} {hh : zHp} (hr : yrcv T kd mi' as rest = true) (h1 : zF2 (yVG ρ) as vs) (h2 : zF2 (yVG ρ) rest rs) (hH : yHG T N1 N2 ρ h hh) : zrcv kd mi' vs rs hh = true := by
  simp only [yrcv, Bool.and_eq_true, Nat.ble_eq] at hr
  obtain ⟨⟨⟨r1, r2⟩, r3⟩, r4⟩ := hr
  simp only [zrcv, Bool.and_eq_true, decide_eq_true_eq]
  refine ⟨⟨⟨by rw [ycats h2]; exact r1, Nat.le_trans (ysl_len vs) (by rw [ycats h1]; exact r2)⟩, r3⟩, ?_⟩
  cases hk : Nat.beq kd 1 with
  | true => rfl
  | false =>
    rw [hk] at r4
    simp only [cond_false] at r4 ⊢
    split at r4
    · rename_i a as0
      obtain ⟨t, hv, _⟩ := ySw h1
      rw [hv]
      dsimp only
      split at r4
      · rename_i c hc
        obtain ⟨us, u1, u2, u3⟩ := hH.1.2.2 _ _ hc
        rw [u1]
        exact decide_eq_true (yiso_eq r4)
      · cases r4
    · rename_i n as0
      obtain ⟨t, hv, _⟩ := ySw h1
      rw [hv]
      dsimp only
      simp only [Bool.and_eq_true, nbq, Nat.blt_eq] at r4
      simp [r4.1.1, r4.1.2, r4.2]
    · cases r4
end YRN
theorem yun_l {a b : yI} {z : Int} (hz : yM a z) : yM (yun a b) z := by
  unfold yun
  split
  · rename_i a1 a2 b1 b2
    cases hc : (yle b1 (a2 + 1) && yle a1 (b2 + 1)) with
    | true =>
      simp only [cond_true]
      rcases yM_c.mp hz with q | q
      · exact yM_c.mpr (Or.inl ⟨Int.le_trans (ymn_l _ _).1 q.1, Int.le_trans q.2 (ymx_g _ _).1⟩)
      · exact absurd q yM_n
    | false =>
      simp only [cond_false]
      rcases yM_c.mp hz with q | q
      · exact yM_c.mpr (Or.inl q)
      · exact absurd q yM_n
  · exact yM_a.mpr (Or.inl hz)
theorem yun_r {a b : yI} {z : Int} (hz : yM b z) : yM (yun a b) z := by
  unfold yun
  split
  · rename_i a1 a2 b1 b2
    cases hc : (yle b1 (a2 + 1) && yle a1 (b2 + 1)) with
    | true =>
      simp only [cond_true]
      rcases yM_c.mp hz with q | q
      · exact yM_c.mpr (Or.inl ⟨Int.le_trans (ymn_l _ _).2 q.1, Int.le_trans q.2 (ymx_g _ _).2⟩)
      · exact absurd q yM_n
    | false =>
      simp only [cond_false]
      rcases yM_c.mp hz with q | q
      · exact yM_c.mpr (Or.inr (yM_c.mpr (Or.inl q)))
      · exact absurd q yM_n
  · exact yM_a.mpr (Or.inr hz)
theorem yune_len : ∀ {a b : List yI}, a.length = b.length → (yune a b).length = a.length
  | [], [], _ => rfl
  | x :: a, y :: b, hl => by
    simp only [yune, List.length_cons]
    rw [yune_len (by simpa using hl)]
theorem yune_get : ∀ {a b : List yI} (_ : a.length = b.length) (s : Nat) (iv : yI), (yune a b)[s]? = some iv → ∃ ia ib, a[s]? = some ia ∧ b[s]? = some ib ∧ (∀ z, yM ia z → yM iv z) ∧ ∀ z, yM ib z → yM iv z
  | [], [], _, s, iv, hs => by simp [yune] at hs
  | x :: a, y :: b, hl, s, iv, hs => by
    simp only [yune] at hs
    cases s with
    | zero =>
      simp only [List.getElem?_cons_zero, Option.some.injEq] at hs
      refine ⟨x, y, rfl, rfl, ?_, ?_⟩
      · intro z hz
        rw [← hs]
        cases hd : decide (x = y) with
        | true => exact hz
        | false => exact yun_l hz
      · intro z hz
        rw [← hs]
        cases hd : decide (x = y) with
        | true => rw [of_decide_eq_true hd]; exact hz
        | false => exact yun_r hz
    | succ s =>
      simp only [List.getElem?_cons_succ] at hs
      obtain ⟨ia, ib, g1, g2, g3, g4⟩ := yune_get (by simpa using hl) s iv hs
      exact ⟨ia, ib, by simpa using g1, by simpa using g2, g3, g4⟩
theorem yune_l {ρ : List Int} {a b : List yI} (hl : a.length = b.length) (hE : yE ρ a) : yE ρ (yune a b) := by
  refine ⟨by rw [yune_len hl]; exact hE.1, hE.2.1, fun s iv hs => ?_⟩
  obtain ⟨ia, ib, g1, g2, g3, g4⟩ := yune_get hl s iv hs
  obtain ⟨z, z1, z2⟩ := hE.2.2 s ia g1
  exact ⟨z, z1, g3 z z2⟩
theorem yune_r {ρ : List Int} {a b : List yI} (hl : a.length = b.length) (hE : yE ρ b) : yE ρ (yune a b) := by
  refine ⟨by rw [yune_len hl, hl]; exact hE.1, hE.2.1, fun s iv hs => ?_⟩
  obtain ⟨ia, ib, g1, g2, g3, g4⟩ := yune_get hl s iv hs
  obtain ⟨z, z1, z2⟩ := hE.2.2 s ib g2
  exact ⟨z, z1, g4 z z2⟩
theorem qke_ok : ∀ {a b : yK}, qke a b = true → a = b
  | .inl a, .inl b, h => by
    simp only [qke, Bool.and_eq_true, nbq, yeq_iff] at h
    obtain ⟨a1, a2, a3⟩ := a
    obtain ⟨b1, b2, b3⟩ := b
    obtain ⟨⟨rfl, rfl⟩, rfl⟩ := h
    rfl
  | .inr (.inl a), .inr (.inl b), h => by
    simp only [qke, Bool.and_eq_true, nbq, yeq_iff] at h
    obtain ⟨a1, ⟨a2, a3⟩, ⟨a4, a5⟩⟩ := a
    obtain ⟨b1, ⟨b2, b3⟩, ⟨b4, b5⟩⟩ := b
    obtain ⟨⟨⟨⟨rfl, rfl⟩, rfl⟩, rfl⟩, rfl⟩ := h
    rfl
  | .inr (.inr a), .inr (.inr b), h => by
    simp only [qke, Bool.and_eq_true, nbq, yeq_iff] at h
    obtain ⟨a1, ⟨a2, a3⟩, a4⟩ := a
    obtain ⟨b1, ⟨b2, b3⟩, b4⟩ := b
    obtain ⟨⟨⟨rfl, rfl⟩, rfl⟩, rfl⟩ := h
    rfl
  | .inl _, .inr _, h => by simp [qke] at h
  | .inr (.inl _), .inl _, h => by simp [qke] at h
  | .inr (.inr _), .inl _, h => by simp [qke] at h
  | .inr (.inl _), .inr (.inr _), h => by simp [qke] at h
  | .inr (.inr _), .inr (.inl _), h => by simp [qke] at h
theorem qfe_ok : ∀ {a b : yF}, qfe a b = true → a = b
  | [], [], _ => rfl
  | a :: r, b :: t, h => by
    simp only [qfe, Bool.and_eq_true] at h
    rw [qke_ok h.1, qfe_ok h.2]
  | [], _ :: _, h => by simp [qfe] at h
  | _ :: _, [], h => by simp [qfe] at h
theorem qadd_new {T : yT} {md : yMd} {N1 N2 : Nat} {ρ : List Int} {o : qQ} {r : Option Value} {h' : zHp} (hg : yQ T md N1 N2 ρ o r h') : ∀ (os : List (qQ ⊕ qS)), ∃ o1, .inl o1 ∈ qadd o os ∧ yQ T md N1 N2 ρ o1 r h'
  | [] => ⟨o, List.mem_cons_self, hg⟩
  | .inr a :: os => by
    simp only [qadd]
    obtain ⟨o1, m1, m2⟩ := qadd_new hg os
    exact ⟨o1, List.mem_cons_of_mem _ m1, m2⟩
  | .inl a :: os => by
    simp only [qadd]
    cases hc : (decide (a.1 = o.1) && (decide (a.2.2.1 = o.2.2.1) && qfe a.2.2.2 o.2.2.2) && Nat.beq a.2.1.length o.2.1.length && Nat.ble (ynd a.2.1 o.2.1) 1) with
    | true =>
      have hc2 : (decide (a.1 = o.1) && decide (a.2.2.1 = o.2.2.1) && qfe a.2.2.2 o.2.2.2 && Nat.beq a.2.1.length o.2.1.length && Nat.ble (ynd a.2.1 o.2.1) 1) = true := by rw [← hc]; simp only [Bool.and_assoc]
      rw [hc2]
      simp only [cond_true]
      simp only [Bool.and_eq_true, decide_eq_true_eq, nbq] at hc
      obtain ⟨⟨⟨c1, c2, c3⟩, c4⟩, _⟩ := hc
      exact ⟨_, List.mem_cons_self, by show yOv ρ a.1 r; rw [c1]; exact hg.1, yune_r c4 hg.2.1, by show yHG T N1 N2 ρ a.2.2.1 h'; rw [c2]; exact hg.2.2.1, by show yFa md ρ h' a.2.2.2; rw [qfe_ok c3]; exact hg.2.2.2⟩
    | false =>
      have hc2 : (decide (a.1 = o.1) && decide (a.2.2.1 = o.2.2.1) && qfe a.2.2.2 o.2.2.2 && Nat.beq a.2.1.length o.2.1.length && Nat.ble (ynd a.2.1 o.2.1) 1) = false := by rw [← hc]; simp only [Bool.and_assoc]
      rw [hc2]
      simp only [cond_false]
      obtain ⟨o1, m1, m2⟩ := qadd_new hg os
      exact ⟨o1, List.mem_cons_of_mem _ m1, m2⟩
theorem qadd_old {T : yT} {md : yMd} {N1 N2 : Nat} {ρ : List Int} {o o2 : qQ} {r : Option Value} {h' : zHp} (hg : yQ T md N1 N2 ρ o2 r h') : ∀ (os : List (qQ ⊕ qS)), .inl o2 ∈ os → ∃ o1, .inl o1 ∈ qadd o os ∧ yQ T md N1 N2 ρ o1 r h'
  | .inr a :: os, hm => by
    simp only [qadd]
    rcases List.mem_cons.mp hm with q | q
    · cases q
    · obtain ⟨o1, m1, m2⟩ := qadd_old (o := o) hg os q
      exact ⟨o1, List.mem_cons_of_mem _ m1, m2⟩
  | .inl a :: os, hm => by
    simp only [qadd]
    cases hc : (decide (a.1 = o.1) && decide (a.2.2.1 = o.2.2.1) && qfe a.2.2.2 o.2.2.2 && Nat.beq a.2.1.length o.2.1.length && Nat.ble (ynd a.2.1 o.2.1) 1) with
    | true =>
      simp only [cond_true]
      simp only [Bool.and_eq_true, decide_eq_true_eq, nbq] at hc
      have c4 := hc.1.2
      rcases List.mem_cons.mp hm with q | q
      · cases q
        exact ⟨_, List.mem_cons_self, hg.1, yune_l c4 hg.2.1, hg.2.2.1, hg.2.2.2⟩
      · exact ⟨o2, List.mem_cons_of_mem _ q, hg⟩
    | false =>
      simp only [cond_false]
      rcases List.mem_cons.mp hm with q | q
      · cases q
        exact ⟨_, List.mem_cons_self, hg⟩
      · obtain ⟨o1, m1, m2⟩ := qadd_old (o := o) hg os q
        exact ⟨o1, List.mem_cons_of_mem _ m1, m2⟩
theorem qadd_arr {o : qQ} {a : qS} : ∀ {os : List (qQ ⊕ qS)}, .inr a ∈ os → .inr a ∈ qadd o os
  | .inr b :: os, hm => by
    simp only [qadd]
    rcases List.mem_cons.mp hm with q | q
    · rw [q]; exact List.mem_cons_self
    · exact List.mem_cons_of_mem _ (qadd_arr q)
  | .inl b :: os, hm => by
    simp only [qadd]
    rcases List.mem_cons.mp hm with q | q
    · cases q
    · cases (decide (b.1 = o.1) && decide (b.2.2.1 = o.2.2.1) && qfe b.2.2.2 o.2.2.2 && Nat.beq b.2.1.length o.2.1.length && Nat.ble (ynd b.2.1 o.2.1) 1) with
      | true => exact List.mem_cons_of_mem _ q
      | false => exact List.mem_cons_of_mem _ (qadd_arr q)
theorem qret_ok {o : qQ ⊕ qS} : ∀ {os : List (qQ ⊕ qS)} {rs : List qQ}, qret os = some rs → o ∈ os → ∃ q, o = .inl q ∧ q ∈ rs
  | .inl a :: os, rs, hr, hm => by
    simp only [qret, Option.bind_eq_some_iff, Option.some.injEq] at hr
    obtain ⟨t, h1, rfl⟩ := hr
    rcases List.mem_cons.mp hm with q | q
    · exact ⟨a, q, List.mem_cons_self⟩
    · obtain ⟨x, x1, x2⟩ := qret_ok h1 q
      exact ⟨x, x1, List.mem_cons_of_mem _ x2⟩
  | .inr _ :: _, _, hr, _ => by simp [qret] at hr
theorem qpr_ok {lw hg : Int} {q : qQ} : ∀ {rs : List qQ}, qpr lw hg rs = true → q ∈ rs → ∃ x, q.1 = some (.inl x) ∧ yin q.2.1 x lw hg = true
  | a :: rs, h, hm => by
    simp only [qpr, Bool.and_eq_true] at h
    rcases List.mem_cons.mp hm with w | w
    · rw [w]
      have h1 := h.1
      split at h1
      · rename_i x hx
        exact ⟨x, hx, h1⟩
      · cases h1
    · exact qpr_ok h.2 w
/-- how a run comes on: to an end that is told, or to a cut -/
def qEnd (T : yT) (md : yMd) (N1 N2 : Nat) (sc : Option (List Int32)) (d : Nat) (mi : zMi) (ρ : List Int) (st : zSt) : qQ ⊕ qS → Prop
  | .inl q => ∃ r h', zEv sc d mi st r h' ∧ yFr md st.2.2.2 h' ∧ yQ T md N1 N2 ρ q r h'
  | .inr a => ∃ st', qG T md N1 N2 ρ a st' ∧ yFr md st.2.2.2 st'.2.2.2 ∧ ∀ r h', zEv sc d mi st' r h' → zEv sc d mi st r h'
theorem qspl_ok {T : yT} {N1 N2 : Nat} {ρ : List Int} {pc : Nat} {env : List yI} {lo : yLo} {sk : List yV} {h : yH} {st : zSt} {l : List yS} (hG : yG T N1 N2 ρ (pc, env, lo, sk, h) st) (hq : qspl pc env lo sk h = some l) : yCv T N1 N2 ρ l st := by
  obtain ⟨hpc, hE, hL, hS, hH⟩ := hG
  dsimp only at hpc hE hL hS hH
  unfold qspl at hq
  split at hq
  · rename_i x r
    obtain ⟨X, t, hst, hX, hU⟩ := ySi hS
    obtain ⟨iv, i1, i2⟩ := yE_get hE hX
    split at hq
    · cases hq
    · rw [ylk_eq, i1] at hq
      dsimp only at hq
      cases hb : yle (yhi iv - ylo iv) 63 with
      | false => rw [hb] at hq; cases hq
      | true =>
        rw [hb] at hq
        cases hq
        have a1 := ylo_le i2
        have a2 := yhi_ge i2
        exact yspl_ok hE hX hpc hL hS hH _ _ (by omega) (by omega)
  · cases hq
set_option maxHeartbeats 4000000 in
/-- THE RUN: every state that it speaks of comes to an end that it tells, or to a cut that it tells -/
theorem q_run (T : yT) (N1 N2 : Nat) (Sg : List qSm) (hSg : ∀ sm ∈ Sg, qOK T N1 N2 sm) (P : List (Nat × Int × Int)) (n : Nat) : ∀ (md : yMd) (ct sp : List Nat) (scA : ySc) (d : Nat) (mi : zMi) (sts : List (Bool × qS)) (outs0 outs : List (qQ ⊕ qS)), qrun T Sg P n md ct sp scA d mi sts outs0 = some outs →
    (∀ q, .inl q ∈ outs0 → ∀ ρ r h', yQ T md N1 N2 ρ q r h' → ∃ q1, .inl q1 ∈ outs ∧ yQ T md N1 N2 ρ q1 r h') ∧
    (∀ a, .inr a ∈ outs0 → .inr a ∈ outs) ∧
    ∀ b ∈ sts, ∀ (ρ : List Int) (st : zSt) (sc : Option (List Int32)), yScr ρ scA sc → qG T md N1 N2 ρ b.2 st → ∃ o ∈ outs, ∃ t, qEnd T md N1 N2 sc d mi (ρ ++ t) st o := by
  induction n with
  | zero => intro md ct sp scA d mi sts outs0 outs hr; simp [qrun] at hr
  | succ n ih =>
    intro md ct sp scA d mi sts outs0 outs hr
    cases sts with
    | nil =>
      simp only [qrun, Option.some.injEq] at hr
      subst hr
      exact ⟨fun q hq ρ r h' hg => ⟨q, hq, hg⟩, fun a ha => ha, fun a ha => absurd ha List.not_mem_nil⟩
    | cons a0 ss =>
      obtain ⟨fr, ⟨pc, env, lo, sk, h⟩, F⟩ := a0
      simp only [qrun] at hr
      cases hct : (!fr && ymem pc ct) with
      | true =>
        rw [hct] at hr
        simp only [cond_true] at hr
        obtain ⟨i1, i2, i3⟩ := ih _ _ _ _ _ _ _ _ _ hr
        refine ⟨fun q hq => i1 q (List.mem_cons_of_mem _ hq), fun a ha => i2 a (List.mem_cons_of_mem _ ha), fun b hb ρ st sc hsc hG => ?_⟩
        rcases List.mem_cons.mp hb with w | w
        · rw [w] at hG
          exact ⟨_, i2 _ List.mem_cons_self, [], st, by rw [List.append_nil]; exact hG, yFr_rf, fun _ _ q => q⟩
        · exact i3 b w ρ st sc hsc hG
      | false =>
        rw [hct] at hr
        simp only [cond_false] at hr
        split at hr
        · rename_i l hl
          have hsp : qspl pc env lo sk h = some l := by
            cases hm : ymem pc sp with
            | true => rw [hm] at hl; exact hl
            | false => rw [hm] at hl; cases hl
          obtain ⟨i1, i2, i3⟩ := ih _ _ _ _ _ _ _ _ _ hr
          refine ⟨i1, i2, fun b hb ρ st sc hsc hG => ?_⟩
          rcases List.mem_cons.mp hb with w | w
          · rw [w] at hG
            obtain ⟨a, a1, t, a2⟩ := qspl_ok hG.1 hsp
            obtain ⟨o, o1, t2, o2⟩ := i3 (true, a, F) (List.mem_append_left _ (List.mem_map.mpr ⟨a, a1, rfl⟩)) (ρ ++ t) st sc (yScr_more t hsc) ⟨a2, yFa_more t hG.2⟩
            exact ⟨o, o1, t ++ t2, by rw [← List.append_assoc]; exact o2⟩
          · exact i3 b (List.mem_append_right _ w) ρ st sc hsc hG
        · simp only [Option.bind_eq_some_iff] at hr
          obtain ⟨⟨ins, len⟩, hf, hr⟩ := hr
          rw [yfin_eq] at hf
          dsimp only at hr
          have hstep : ∀ (sc : Option (List Int32)) (st : zSt), st.1 = pc → zstep sc mi st = zst sc mi ins len st.1 st.2.1 st.2.2.1 st.2.2.2 := by
            intro sc st hpc
            unfold zstep
            rw [hpc, hf, Option.bind_some]
          have onw : ∀ (sc : Option (List Int32)) (ρ t : List Int) (st st' : zSt), zstep sc mi st = some (.inl st') → yFr md st.2.2.2 st'.2.2.2 → ∀ o, qEnd T md N1 N2 sc d mi ρ st' o → qEnd T md N1 N2 sc d mi ρ st o := by
            intro sc ρ t st st' hz hfr o ho
            match o, ho with
            | .inl q, ho => obtain ⟨r, h', x1, x2, x3⟩ := ho; exact ⟨r, h', zEv_step hz x1, yFr_tr hfr x2, x3⟩
            | .inr a, ho => obtain ⟨s2, x1, x2, x3⟩ := ho; exact ⟨s2, x1, yFr_tr hfr x2, fun r h' q => zEv_step hz (x3 r h' q)⟩
          split at hr
          · rename_i l hl
            obtain ⟨i1, i2, i3⟩ := ih _ _ _ _ _ _ _ _ _ hr
            refine ⟨i1, i2, fun b hb ρ st sc hsc hG => ?_⟩
            rcases List.mem_cons.mp hb with w | w
            · rw [w] at hG
              have hpc := hG.1.1
              dsimp only at hpc
              obtain ⟨st', x1, x2, b1, x3, t, x4⟩ := qhk_ok (sc := sc) (mi := mi) hG.1 hG.2 hl
              obtain ⟨o, o1, t2, o2⟩ := i3 b1 (List.mem_append_left _ x3) (ρ ++ t) st' sc (yScr_more t hsc) x4
              exact ⟨o, o1, t ++ t2, by rw [← List.append_assoc]; exact onw sc _ [] st st' (by rw [hstep sc st hpc]; exact x1) (by rw [x2]; exact yFr_rf) o o2⟩
            · exact i3 b (List.mem_append_right _ w) ρ st sc hsc hG
          · split at hr
            · cases hr
            · rename_i sts1 hy
              obtain ⟨i1, i2, i3⟩ := ih _ _ _ _ _ _ _ _ _ hr
              refine ⟨i1, i2, fun b hb ρ st sc hsc hG => ?_⟩
              rcases List.mem_cons.mp hb with w | w
              · rw [w] at hG
                have hpc := hG.1.1
                dsimp only at hpc
                rcases y_step1 hsc hG.1 hy with ⟨st', e1, ⟨a1, m1, t, g1⟩, e3⟩ | ⟨hia, a1, m1, t, g1⟩
                · have hF2 := qmm_ok hG.1 hy e1 m1 g1 (yFa_fr e3 (yFa_more t hG.2))
                  obtain ⟨b1, b2, b3⟩ := qsts_ok g1 hF2 m1
                  obtain ⟨o, o1, t2, o2⟩ := i3 b1 (List.mem_append_left _ b2) (ρ ++ t) st' sc (yScr_more t hsc) b3
                  exact ⟨o, o1, t ++ t2, by rw [← List.append_assoc]; exact onw sc _ [] st st' (by rw [hstep sc st hpc]; exact e1) e3 o o2⟩
                · have hF2 : yFa md (ρ ++ t) st.2.2.2 (qmm md ins env sk F) := by
                    rw [hia]
                    exact yFa_more t hG.2
                  obtain ⟨b1, b2, b3⟩ := qsts_ok g1 hF2 m1
                  obtain ⟨o, o1, t2, o2⟩ := i3 b1 (List.mem_append_left _ b2) (ρ ++ t) st sc (yScr_more t hsc) b3
                  exact ⟨o, o1, t ++ t2, by rw [← List.append_assoc]; exact o2⟩
              · exact i3 b (List.mem_append_right _ w) ρ st sc hsc hG
            · rename_i rA hy
              simp only [Option.bind_eq_some_iff] at hr
              obtain ⟨_, hir, hr⟩ := hr
              obtain ⟨i1, i2, i3⟩ := ih _ _ _ _ _ _ _ _ _ hr
              refine ⟨fun q hq ρ r h' hg => ?_, fun a ha => i2 a (qadd_arr ha), fun b hb ρ st sc hsc hG => ?_⟩
              · obtain ⟨o1, m1, m2⟩ := qadd_old (o := (rA, env, h, F)) hg outs0 hq
                exact i1 o1 m1 ρ r h' m2
              · rcases List.mem_cons.mp hb with w | w
                · rw [w] at hG
                  have hpc := hG.1.1
                  dsimp only at hpc
                  obtain ⟨v, e1, e2⟩ := y_ret1 (sc := sc) (ygb_some hir) hG.1 hy
                  obtain ⟨o1, m1, m2⟩ := qadd_new (o := (rA, env, h, F)) (⟨e2, hG.1.2.1, hG.1.2.2.2.2, hG.2⟩ : yQ T md N1 N2 ρ (rA, env, h, F) v st.2.2.2) outs0
                  obtain ⟨o2, m3, m4⟩ := i1 o1 m1 ρ v st.2.2.2 m2
                  exact ⟨_, m3, [], v, st.2.2.2, zEv_ret (by rw [hstep sc st hpc]; exact e1), yFr_rf, by rw [List.append_nil]; exact m4⟩
                · exact i3 b w ρ st sc hsc hG
            · rename_i cc hy
              simp only [Option.bind_eq_some_iff] at hr
              obtain ⟨mi', hm, _, hck, hr⟩ := hr
              rw [ylk_eq] at hm
              have hck2 := ygb_some hck
              simp only [Bool.and_eq_true] at hck2
              obtain ⟨⟨k1, k2⟩, k3⟩ := hck2
              have cont : ∀ (sc : Option (List Int32)) (ρ : List Int) (st : zSt) (as rest : List Value) (r1 : Option Value) (h1 : zHp), st.1 = pc → zst sc mi ins len st.1 st.2.1 st.2.2.1 st.2.2.2 = some (.inr (.inl (cc.1, cc.2.1, as, rest))) → zrcv cc.1 mi' as rest st.2.2.2 = true → zEv none (d - 1) mi' (0, lv_args 0 as, [], st.2.2.2) r1 h1 → yFr md st.2.2.2 h1 → ∀ o, qEnd T md N1 N2 sc d mi ρ (st.1 + 3, st.2.1, r1.toList ++ rest, h1) o → qEnd T md N1 N2 sc d mi ρ st o := by
                intro sc ρ st as rest r1 h1 hpc hz hrc hev hfr o ho
                have hz2 : zstep sc mi st = some (.inr (.inl (cc.1, cc.2.1, as, rest))) := by rw [hstep sc st hpc]; exact hz
                have hrc2 : (zrcv cc.1 mi' as rest st.2.2.2 && Nat.blt 1 d) = true := by rw [Bool.and_eq_true]; exact ⟨hrc, k3⟩
                match o, ho with
                | .inl q, ho => obtain ⟨r, h', x1, x2, x3⟩ := ho; exact ⟨r, h', zEv_call hz2 hm hrc2 hev x1, yFr_tr hfr x2, x3⟩
                | .inr a, ho => obtain ⟨s2, x1, x2, x3⟩ := ho; exact ⟨s2, x1, yFr_tr hfr x2, fun r h' q => zEv_call hz2 hm hrc2 hev (x3 r h' q)⟩
              split at hr
              · rename_i os hos
                obtain ⟨sm, s1, s2, s3⟩ := qfd_ok hos
                obtain ⟨i1, i2, i3⟩ := ih _ _ _ _ _ _ _ _ _ hr
                refine ⟨i1, i2, fun b hb ρ st sc hsc hG => ?_⟩
                rcases List.mem_cons.mp hb with w | w
                · rw [w] at hG
                  have hpc := hG.1.1
                  dsimp only at hpc
                  obtain ⟨as, rest, e1, e2, e3⟩ := y_call1 (sc := sc) k1 hG.1 hy
                  obtain ⟨⟨_, hE, hL, hS, hH⟩, hF⟩ := hG
                  dsimp only at hE hL hS hH hF
                  obtain ⟨miX, r1, h1, x1, x2, x3, o, x4, t, x5⟩ := qap_ok (hSg sm s1) hE hH hF e2 s3
                  rw [s2, hm] at x1
                  cases x1
                  obtain ⟨y1, y2, y3, y4⟩ := x5
                  obtain ⟨o2, z1, t2, z2⟩ := i3 (false, (pc + 3, o.2.1, lo, o.1.toList ++ cc.2.2.2, o.2.2.1), o.2.2.2) (List.mem_append_left _ (List.mem_map.mpr ⟨o, x4, rfl⟩)) (ρ ++ t) (st.1 + 3, st.2.1, r1.toList ++ rest, h1) sc (yScr_more t hsc) ⟨⟨by show st.1 + 3 = pc + 3; rw [hpc], y2, yL_more t hL, zF2_app (yOv_sr y1) (yS_more t e3), y3⟩, y4⟩
                  exact ⟨o2, z1, t ++ t2, by rw [← List.append_assoc]; exact cont sc _ st as rest r1 h1 hpc e1 (yrcv_ok k2 e2 e3 hH) x2 x3 o2 z2⟩
                · exact i3 b (List.mem_append_right _ w) ρ st sc hsc hG
              · split at hr
                · rename_i b0 hb0
                  simp only [Option.bind_eq_some_iff] at hr
                  obtain ⟨os, hcal, rs, hrs, _, hpr, hr⟩ := hr
                  obtain ⟨_, _, j3⟩ := ih _ _ _ _ _ _ _ _ _ hcal
                  obtain ⟨i1, i2, i3⟩ := ih _ _ _ _ _ _ _ _ _ hr
                  refine ⟨i1, i2, fun b hb ρ st sc hsc hG => ?_⟩
                  rcases List.mem_cons.mp hb with w | w
                  · rw [w] at hG
                    have hpc := hG.1.1
                    dsimp only at hpc
                    obtain ⟨as, rest, e1, e2, e3⟩ := y_call1 (sc := sc) k1 hG.1 hy
                    obtain ⟨⟨_, hE, hL, hS, hH⟩, hF⟩ := hG
                    dsimp only at hE hL hS hH hF
                    obtain ⟨o, o1, t, o2⟩ := j3 _ List.mem_cons_self ρ (0, lv_args 0 as, [], st.2.2.2) none (fun xs hx => by cases hx) ⟨⟨rfl, hE, yags_ok e2, True.intro, hH⟩, yFa_n⟩
                    obtain ⟨q, hq1, hq2⟩ := qret_ok hrs o1
                    rw [hq1] at o2
                    obtain ⟨r1, h1, x1, x2, x3, x4, x5, x6⟩ := o2
                    obtain ⟨x, hx1, hx2⟩ := qpr_ok (ygb_some hpr) hq2
                    rw [hx1] at x3
                    cases r1 with
                    | none => exact absurd x3 (fun q => q)
                    | some v =>
                      obtain ⟨X, hv, hX⟩ := yVG_i (show yVG (ρ ++ t) (.inl x) v from x3)
                      have hbd := yin_ok x4 hX hx2
                      have hfr : yFr md st.2.2.2 h1 := fun k i _ => x2 k i rfl
                      obtain ⟨p1, p2⟩ := yE_push hE (yM_1 hbd.1 hbd.2)
                      obtain ⟨o3, z1, t2, z2⟩ := i3 (false, (pc + 3, env ++ [[b0]], lo, .inl (env.length, 0) :: cc.2.2.2, h), F) List.mem_cons_self (ρ ++ [X.toInt]) (st.1 + 3, st.2.1, (some v).toList ++ rest, h1) sc (yScr_more _ hsc) ⟨⟨by show st.1 + 3 = pc + 3; rw [hpc], p1, yL_more _ hL, zF2_c (by rw [hv]; exact yVG_mi p2) (yS_more _ e3), ⟨x5.1, fun e he => by
                        obtain ⟨u, u1, u2⟩ := hH.2 e he
                        exact ⟨u, by rw [x2 _ _ rfl]; exact u1, yVG_more _ u2⟩⟩⟩, yFa_fr hfr (yFa_more _ hF)⟩
                      exact ⟨o3, z1, [X.toInt] ++ t2, by rw [← List.append_assoc]; exact cont sc _ st as rest (some v) h1 hpc e1 (yrcv_ok k2 e2 e3 hH) x1 hfr o3 z2⟩
                  · exact i3 b (List.mem_cons_of_mem _ w) ρ st sc hsc hG
                · simp only [Option.bind_eq_some_iff] at hr
                  obtain ⟨os, hcal, rs, hrs, hr⟩ := hr
                  obtain ⟨_, _, j3⟩ := ih _ _ _ _ _ _ _ _ _ hcal
                  obtain ⟨i1, i2, i3⟩ := ih _ _ _ _ _ _ _ _ _ hr
                  refine ⟨i1, i2, fun b hb ρ st sc hsc hG => ?_⟩
                  rcases List.mem_cons.mp hb with w | w
                  · rw [w] at hG
                    have hpc := hG.1.1
                    dsimp only at hpc
                    obtain ⟨as, rest, e1, e2, e3⟩ := y_call1 (sc := sc) k1 hG.1 hy
                    obtain ⟨⟨_, hE, hL, hS, hH⟩, hF⟩ := hG
                    dsimp only at hE hL hS hH hF
                    obtain ⟨o, o1, t, o2⟩ := j3 _ List.mem_cons_self ρ (0, lv_args 0 as, [], st.2.2.2) none (fun xs hx => by cases hx) ⟨⟨rfl, hE, yags_ok e2, True.intro, hH⟩, hF⟩
                    obtain ⟨q, hq1, hq2⟩ := qret_ok hrs o1
                    rw [hq1] at o2
                    obtain ⟨r1, h1, x1, x2, y1, y2, y3, y4⟩ := o2
                    obtain ⟨o3, z1, t2, z2⟩ := i3 (false, (pc + 3, q.2.1, lo, q.1.toList ++ cc.2.2.2, q.2.2.1), q.2.2.2) (List.mem_append_left _ (List.mem_map.mpr ⟨q, hq2, rfl⟩)) (ρ ++ t) (st.1 + 3, st.2.1, r1.toList ++ rest, h1) sc (yScr_more t hsc) ⟨⟨by show st.1 + 3 = pc + 3; rw [hpc], y2, yL_more t hL, zF2_app (yOv_sr y1) (yS_more t e3), y3⟩, y4⟩
                    exact ⟨o3, z1, t ++ t2, by rw [← List.append_assoc]; exact cont sc _ st as rest r1 h1 hpc e1 (yrcv_ok k2 e2 e3 hH) x1 x2 o3 z2⟩
                  · exact i3 b (List.mem_append_right _ w) ρ st sc hsc hG
