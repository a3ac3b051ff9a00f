/-! the abstract run is sound: runs -/
def yScr (ρ : List Int) (scA : Option (List yV)) (sc : Option (List Int32)) : Prop := ∀ xs, scA = some xs → ∃ ys, sc = some ys ∧ zF2 (yVG ρ) xs (ys.map Value.int)
theorem yScr_more {ρ : List Int} {scA : Option (List yV)} {sc : Option (List Int32)} (t : List Int) (h : yScr ρ scA sc) : yScr (ρ ++ t) scA sc := fun xs hx => by
  obtain ⟨ys, h1, h2⟩ := h xs hx
  exact ⟨ys, h1, yS_more t h2⟩
section YRN
variable {T : yT} {N1 N2 : Nat} {ρ : List Int} {sc : Option (List Int32)} {scA : Option (List yV)} {mi : zMi} {len pc : Nat} {env : List yI} {lo : yLo} {sk : List yV} {h : yH} {st : zSt} {sts : List yS}
set_option maxHeartbeats 4000000 in
theorem y_step1 {ins : Instr} (hsc : yScr ρ scA sc) (hG : yG T N1 N2 ρ (pc, env, lo, sk, h) st) (hz : yst T scA mi ins len pc env lo sk h = some (.inl sts)) : yRs T N1 N2 ρ sc mi ins len sts st := by
  cases ins with
  | aaload => exact yi_aaload hG hz
  | aload x0 => exact yi_aload hG hz
  | aload_n x0 => exact yi_aload_n hG hz
  | arraylength => exact yi_arraylength hsc hG hz
  | astore x0 => exact yi_astore hG hz
  | astore_n x0 => exact yi_astore_n hG hz
  | baload => exact yi_baload hG hz
  | bastore => exact yi_bastore hG hz
  | bipush x0 => exact yi_bipush hG hz
  | dup => exact yi_dup hG hz
  | dup2 => exact yi_dup2 hG hz
  | getfield x0 => exact yi_getfield hG hz
  | goto x0 => exact yi_goto hG hz
  | i2b => exact yi_i2b hG hz
  | i2l => exact yi_i2l hG hz
  | iadd => exact yi_iadd hG hz
  | iaload => exact yi_iaload hsc hG hz
  | iand => exact yi_iand hG hz
  | iastore => exact yi_iastore hG hz
  | iconst x0 => exact yi_iconst hG hz
  | idiv => exact yi_idiv hG hz
  | if_icmp x0 x1 => exact yi_if_icmp hG hz
  | ifCond x0 x1 => exact yi_ifCond hG hz
  | iinc x0 x1 => exact yi_iinc hG hz
  | iload x0 => exact yi_iload hG hz
  | iload_n x0 => exact yi_iload_n hG hz
  | imul => exact yi_imul hG hz
  | invokestatic i => simp only [yst, Option.bind_eq_some_iff, Option.some.injEq, reduceCtorEq, and_false, exists_const] at hz
  | invokevirtual i => simp only [yst, Option.bind_eq_some_iff, Option.some.injEq, reduceCtorEq, and_false, exists_const] at hz
  | ior => exact yi_ior hG hz
  | irem => exact yi_irem hG hz
  | ireturn => simp only [yst, Option.bind_eq_some_iff, Option.some.injEq, reduceCtorEq, and_false, exists_const] at hz
  | ishl => exact yi_ishl hG hz
  | ishr => exact yi_ishr hG hz
  | istore x0 => exact yi_istore hG hz
  | istore_n x0 => exact yi_istore_n hG hz
  | isub => exact yi_isub hG hz
  | iushr => exact yi_iushr hG hz
  | ixor => exact yi_ixor hG hz
  | ladd => exact yi_ladd hG hz
  | lcmp => exact yi_lcmp hG hz
  | lconst x0 => exact yi_lconst hG hz
  | ldc x0 => exact yi_ldc hG hz
  | ldc_w x0 => exact yi_ldc_w hG hz
  | ldc2_w x0 => exact yi_ldc2_w hG hz
  | ldiv => exact yi_ldiv hG hz
  | lload x0 => exact yi_lload hG hz
  | lload_n x0 => exact yi_lload_n hG hz
  | lmul => exact yi_lmul hG hz
  | lrem => exact yi_lrem hG hz
  | lreturn => simp only [yst, Option.bind_eq_some_iff, Option.some.injEq, reduceCtorEq, and_false, exists_const] at hz
  | lstore x0 => exact yi_lstore hG hz
  | lstore_n x0 => exact yi_lstore_n hG hz
  | lsub => exact yi_lsub hG hz
  | pop => exact yi_pop hG hz
  | putfield x0 => exact yi_putfield hG hz
  | return_ => simp only [yst, Option.bind_eq_some_iff, Option.some.injEq, reduceCtorEq, and_false, exists_const] at hz
  | sipush x0 => exact yi_sipush hG hz
  | tableswitch x0 x1 x2 x3 => exact yi_tsw hG hz
  | _ =>
    exfalso
    simp only [yst, Option.bind_eq_some_iff] at hz
    obtain ⟨_, h1, hz⟩ := hz
    obtain ⟨hpc, hE, hL, hS, hH⟩ := hG
    dsimp only at hpc hE hL hS hH
    split at hz
    · simp only [yN, Option.bind_eq_some_iff] at hz
      obtain ⟨v, hv, _⟩ := hz
      obtain ⟨Y, t, _, hY, hU⟩ := ySi hS
      obtain ⟨X, t2, _, hX, hV⟩ := ySi hU
      obtain ⟨V, g0, _⟩ := yb2_ok hE hX hY hv
      simp [zb2] at g0
    · simp only [yN, Option.bind_eq_some_iff] at hz
      obtain ⟨v, hv, _⟩ := hz
      obtain ⟨Y, t, _, hY, hU⟩ := ySl hS
      obtain ⟨X, t2, _, hX, hV⟩ := ySl hU
      obtain ⟨V, g0, _⟩ := yl2_ok hE hX hY hv
      simp [zl2] at g0
    · cases hz
theorem y_call1 {ins : Instr} {c : Nat × Nat × List yV × List yV} (hi : yisc ins = true) (hG : yG T N1 N2 ρ (pc, env, lo, sk, h) st) (hz : yst T scA mi ins len pc env lo sk h = some (.inr (.inl c))) : ∃ as rest, zst sc mi ins len st.1 st.2.1 st.2.2.1 st.2.2.2 = some (.inr (.inl (c.1, c.2.1, as, rest))) ∧ zF2 (yVG ρ) c.2.2.1 as ∧ zF2 (yVG ρ) c.2.2.2 rest := by
  obtain ⟨hpc, hE, hL, hS, hH⟩ := hG
  dsimp only at hpc hE hL hS hH
  have hlen := zF2_len hS
  cases ins with
  | invokevirtual i =>
    simp only [yst, yzk_eq, Option.bind_eq_some_iff, Option.some.injEq, Sum.inr.injEq, Sum.inl.injEq] at hz
    obtain ⟨_, h1, ⟨q1, q2, q3, q4⟩, h2, _, h3, h4⟩ := hz
    have hb := ygb_some h1
    simp only [nbq] at hb
    have hc := ygb_some h3
    simp only [Bool.and_eq_true, nbq, Nat.blt_eq] at hc
    dsimp only at hc h4
    obtain ⟨c1, c2⟩ := hc
    subst hb
    subst c1
    subst h4
    obtain ⟨k1, k2⟩ := zF2_cut (q3 + 1) hS
    refine ⟨(st.2.2.1.take (q3 + 1)).reverse, st.2.2.1.drop (q3 + 1), ?_, zF2_rev k1, k2⟩
    have hgb : (decide True && decide (q3 < st.2.2.1.length)) = true := by rw [← hlen]; simp [c2]
    simp only [zst, zg_self, h2, Option.bind_some]
    rw [zgb_true hgb, Option.bind_some]
  | invokestatic i =>
    simp only [yst, yzk_eq, Option.bind_eq_some_iff, Option.some.injEq, Sum.inr.injEq, Sum.inl.injEq] at hz
    obtain ⟨_, h1, ⟨q1, q2, q3, q4⟩, h2, _, h3, h4⟩ := hz
    have hb := ygb_some h1
    simp only [nbq] at hb
    have hc := ygb_some h3
    simp only [Bool.and_eq_true, nbq, Nat.ble_eq] at hc
    dsimp only at hc h4
    obtain ⟨c1, c2⟩ := hc
    subst hb
    subst c1
    subst h4
    obtain ⟨k1, k2⟩ := zF2_cut q3 hS
    refine ⟨(st.2.2.1.take q3).reverse, st.2.2.1.drop q3, ?_, zF2_rev k1, k2⟩
    have hgb : (decide True && decide (q3 ≤ st.2.2.1.length)) = true := by rw [← hlen]; simp [c2]
    simp only [zst, zg_self, h2, Option.bind_some]
    rw [if_neg (by decide), if_neg (by decide), zgb_true hgb, Option.bind_some]
  | _ => cases hi
def yOv (ρ : List Int) (a : Option yV) (v : Option Value) : Prop := match a, v with
  | none, none => True
  | some a, some v => yVG ρ a v
  | _, _ => False
theorem yOv_sr {a : Option yV} {v : Option Value} (hv : yOv ρ a v) : zF2 (yVG ρ) a.toList v.toList := by
  match a, v, hv with
  | none, none, _ => exact True.intro
  | some a, some v, hv => exact zF2_c hv True.intro
theorem y_ret1 {ins : Instr} {r : Option yV} (hi : yisr ins = true) (hG : yG T N1 N2 ρ (pc, env, lo, sk, h) st) (hz : yst T scA mi ins len pc env lo sk h = some (.inr (.inr r))) : ∃ v, zst sc mi ins len st.1 st.2.1 st.2.2.1 st.2.2.2 = some (.inr (.inr v)) ∧ yOv ρ r v := by
  obtain ⟨hpc, hE, hL, hS, hH⟩ := hG
  dsimp only at hpc hE hL hS hH
  obtain ⟨pc0, lo0, sk0, hh⟩ := st
  dsimp only at hpc hL hS hH ⊢
  cases ins with
  | ireturn =>
    simp only [yst, Option.bind_eq_some_iff, Option.some.injEq, Sum.inr.injEq] at hz
    obtain ⟨_, h1, x, h2, _, h3, h4⟩ := hz
    have hb := ygb_some h1
    simp only [nbq] at hb
    subst hb
    subst h4
    have hsk := ypi_some h2
    rw [hsk] at hS
    obtain ⟨X, t, hst, hX, hU⟩ := ySi hS
    subst hst
    have hc := ygb_some h3
    simp only [Bool.and_eq_true, List.isEmpty_iff] at hc
    rw [hc.1] at hU
    have ht := zF2_n hU
    subst ht
    have hrok : zrok mi.2.2.2.1 X = true := by
      have hr := hc.2
      unfold yrok at hr
      unfold zrok
      split at hr
      · rename_i hq; rw [hq]
      · rename_i hq
        rw [hq]
        have hr2 := yin_ok hE hX hr
        simp only [Bool.or_eq_true, decide_eq_true_eq]
        rcases (show X.toInt = 0 ∨ X.toInt = 1 by omega) with w | w
        · exact Or.inl (Int32.toInt_inj.mp w)
        · exact Or.inr (Int32.toInt_inj.mp w)
      · cases hr
    refine ⟨some (.int X), ?_, yVG_mi hX⟩
    simp only [zst, zg_self, zpi, Option.bind_some, List.isEmpty_nil, Bool.true_and]
    rw [zgb_true hrok, Option.bind_some]
  | lreturn =>
    simp only [yst, Option.bind_eq_some_iff, Option.some.injEq, Sum.inr.injEq] at hz
    obtain ⟨_, h1, x, h2, _, h3, h4⟩ := hz
    have hb := ygb_some h1
    simp only [nbq] at hb
    subst hb
    subst h4
    have hsk := ypl_some h2
    rw [hsk] at hS
    obtain ⟨X, t, hst, hX, hU⟩ := ySl hS
    subst hst
    have hc := ygb_some h3
    simp only [Bool.and_eq_true, List.isEmpty_iff] at hc
    rw [hc.1] at hU
    have ht := zF2_n hU
    subst ht
    refine ⟨some (.long X), ?_, yVG_ml hX⟩
    simp only [zst, zg_self, zpl, Option.bind_some, List.isEmpty_nil, Bool.true_and]
    rw [zgb_true hc.2, Option.bind_some]
  | return_ =>
    simp only [yst, Option.bind_eq_some_iff, Option.some.injEq, Sum.inr.injEq] at hz
    obtain ⟨_, h1, h4⟩ := hz
    have hb := ygb_some h1
    simp only [Bool.and_eq_true, nbq, List.isEmpty_iff] at hb
    obtain ⟨⟨b1, b2⟩, b3⟩ := hb
    subst b1
    subst h4
    rw [b2] at hS
    have ht := zF2_n hS
    subst ht
    refine ⟨none, ?_, True.intro⟩
    simp only [zst, zg_self, Option.bind_some, List.isEmpty_nil, Bool.true_and]
    rw [zgb_true b3, Option.bind_some]
  | _ => cases hi
theorem yags_ok : ∀ {as : List yV} {vs : List Value} (i : Nat), zF2 (yVG ρ) as vs → zF2 (yLq ρ) (yags i as) (lv_args i vs)
  | [], [], _, _ => True.intro
  | a :: as, v :: vs, i, hh => by
    simp only [yags, lv_args]
    have hc := yVG_cat hh.1
    have e : (bif Nat.beq (yct a) 2 then i + 2 else i + 1) = (if v.category = 2 then i + 2 else i + 1) := by
      rw [hc]
      by_cases h2 : yct a = 2
      · rw [(nbq _ _).mpr h2, if_pos h2]; rfl
      · rw [if_neg h2]
        cases hb : Nat.beq (yct a) 2 with
        | true => exact absurd ((nbq _ _).mp hb) h2
        | false => rfl
    rw [e]
    exact zF2_c ⟨rfl, hh.1⟩ (yags_ok _ hh.2)
theorem ycats {r : List yV} {l : List Value} (hh : zF2 (yVG ρ) r l) : l.map (fun v => v.category) = r.map yct := by
  induction r generalizing l with
  | nil => rw [zF2_n hh]; rfl
  | cons a r ih =>
    obtain ⟨w, t, hl, h1, h2⟩ := zF2_u hh
    rw [hl, List.map_cons, List.map_cons, yVG_cat h1, ih h2]
theorem ysl_len (l : List Value) : (lg_sl l).length ≤ (l.map (fun v => v.category)).sum := by
  induction l with
  | nil => simp [lg_sl]
  | cons v l ih =>
    unfold lg_sl at ih ⊢
    rw [List.flatMap_cons, List.length_append, List.map_cons, List.sum_cons]
    by_cases hc : v.category = 2
    · rw [if_pos hc, hc]; simp only [List.length_cons, List.length_nil]; omega
    · rw [if_neg hc]
      have : 1 ≤ v.category := by cases v <;> simp [Value.category]
      simp only [List.length_cons, List.length_nil]
      omega
theorem yrcv_ok {kd : Nat} {mi' : zMi} {as rest : List yV} {vs rs : List Value} {hh : zHp} (hr : yrcv T kd mi' as rest = true) (h1 : zF2 (yVG ρ) as vs) (h2 : zF2 (yVG ρ) rest rs) (hH : yHG T N1 N2 ρ h hh) : zrcv kd mi' vs rs hh = true := by
  simp only [yrcv, Bool.and_eq_true, Nat.ble_eq] at hr
  obtain ⟨⟨⟨r1, r2⟩, r3⟩, r4⟩ := hr
  simp only [zrcv, Bool.and_eq_true, decide_eq_true_eq]
  refine ⟨⟨⟨by rw [ycats h2]; exact r1, Nat.le_trans (ysl_len vs) (by rw [ycats h1]; exact r2)⟩, r3⟩, ?_⟩
  cases hk : Nat.beq kd 1 with
  | true => rfl
  | false =>
    rw [hk] at r4
    simp only [cond_false] at r4 ⊢
    split at r4
    · rename_i a as0
      obtain ⟨t, hv, _⟩ := ySw h1
      rw [hv]
      dsimp only
      split at r4
      · rename_i c hc
        obtain ⟨us, u1, u2, u3⟩ := hH.2.2 _ _ hc
        rw [u1]
        exact decide_eq_true (yiso_eq r4)
      · cases r4
    · cases r4
end YRN
def zEv (sc : Option (List Int32)) (d : Nat) (mi : zMi) (st : zSt) (r : Option Value) (h' : zHp) : Prop := ∃ n, zex n sc d mi st = some (r, h')
theorem zex_up (n : Nat) : ∀ (sc : Option (List Int32)) (d : Nat) (mi : zMi) (st : zSt) (x : Option Value × zHp), zex n sc d mi st = some x → zex (n + 1) sc d mi st = some x := by
  induction n with
  | zero => intro sc d mi st x hx; simp [zex] at hx
  | succ n ih =>
    intro sc d mi st x hx
    rw [zex] at hx ⊢
    cases hs : zstep sc mi st with
    | none => rw [hs] at hx; cases hx
    | some q =>
      rw [hs] at hx
      match q, hx with
      | .inl st', hx => exact ih _ _ _ _ _ hx
      | .inr (.inr r), hx => exact hx
      | .inr (.inl (kd, id, as, rest)), hx =>
        dsimp only at hx ⊢
        simp only [Option.bind_eq_some_iff] at hx ⊢
        obtain ⟨mi', h1, u, h2, q, h3, h4⟩ := hx
        exact ⟨mi', h1, u, h2, q, ih _ _ _ _ _ h3, ih _ _ _ _ _ h4⟩
theorem zex_le {n k : Nat} (hk : n ≤ k) {sc : Option (List Int32)} {d : Nat} {mi : zMi} {st : zSt} {x : Option Value × zHp} (hx : zex n sc d mi st = some x) : zex k sc d mi st = some x := by
  induction hk with
  | refl => exact hx
  | step _ ih => exact zex_up _ _ _ _ _ _ ih
theorem zEv_step {sc : Option (List Int32)} {d : Nat} {mi : zMi} {st st' : zSt} {r : Option Value} {h' : zHp} (hs : zstep sc mi st = some (.inl st')) (hx : zEv sc d mi st' r h') : zEv sc d mi st r h' := by
  obtain ⟨n, hn⟩ := hx
  refine ⟨n + 1, ?_⟩
  rw [zex, hs]
  exact hn
theorem zEv_ret {sc : Option (List Int32)} {d : Nat} {mi : zMi} {st : zSt} {r : Option Value} (hs : zstep sc mi st = some (.inr (.inr r))) : zEv sc d mi st r st.2.2.2 := by
  refine ⟨1, ?_⟩
  rw [zex, hs]
theorem zEv_call {sc : Option (List Int32)} {d kd id : Nat} {mi mi' : zMi} {st : zSt} {as rest : List Value} {r r1 : Option Value} {h1 h' : zHp} (hs : zstep sc mi st = some (.inr (.inl (kd, id, as, rest)))) (hm : zms[id]? = some mi') (hr : (zrcv kd mi' as rest st.2.2.2 && Nat.blt 1 d) = true) (hc : zEv none (d - 1) mi' (0, lv_args 0 as, [], st.2.2.2) r1 h1) (hx : zEv sc d mi (st.1 + 3, st.2.1, r1.toList ++ rest, h1) r h') : zEv sc d mi st r h' := by
  obtain ⟨n1, g1⟩ := hc
  obtain ⟨n2, g2⟩ := hx
  refine ⟨n1 + n2 + 1, ?_⟩
  rw [zex, hs]
  dsimp only
  rw [hm, Option.bind_some, zgb_true hr, Option.bind_some, zex_le (by omega : n1 ≤ n1 + n2) g1, Option.bind_some]
  exact zex_le (by omega : n2 ≤ n1 + n2) g2
def yGo (T : yT) (N1 N2 : Nat) (ρ : List Int) (o : yO) (r : Option Value) (h' : zHp) : Prop := yOv ρ o.1 r ∧ yE ρ o.2.1 ∧ yHG T N1 N2 ρ o.2.2 h'
theorem yun_l {a b : yI} {z : Int} (hz : yM a z) : yM (yun a b) z := by
  unfold yun
  split
  · rename_i a1 a2 b1 b2
    cases hc : (yle b1 (a2 + 1) && yle a1 (b2 + 1)) with
    | true =>
      simp only [cond_true]
      rcases yM_c.mp hz with q | q
      · exact yM_c.mpr (Or.inl ⟨Int.le_trans (ymn_l _ _).1 q.1, Int.le_trans q.2 (ymx_g _ _).1⟩)
      · exact absurd q yM_n
    | false =>
      simp only [cond_false]
      rcases yM_c.mp hz with q | q
      · exact yM_c.mpr (Or.inl q)
      · exact absurd q yM_n
  · exact yM_a.mpr (Or.inl hz)
theorem yun_r {a b : yI} {z : Int} (hz : yM b z) : yM (yun a b) z := by
  unfold yun
  split
  · rename_i a1 a2 b1 b2
    cases hc : (yle b1 (a2 + 1) && yle a1 (b2 + 1)) with
    | true =>
      simp only [cond_true]
      rcases yM_c.mp hz with q | q
      · exact yM_c.mpr (Or.inl ⟨Int.le_trans (ymn_l _ _).2 q.1, Int.le_trans q.2 (ymx_g _ _).2⟩)
      · exact absurd q yM_n
    | false =>
      simp only [cond_false]
      rcases yM_c.mp hz with q | q
      · exact yM_c.mpr (Or.inr (yM_c.mpr (Or.inl q)))
      · exact absurd q yM_n
  · exact yM_a.mpr (Or.inr hz)
theorem yune_len : ∀ {a b : List yI}, a.length = b.length → (yune a b).length = a.length
  | [], [], _ => rfl
  | x :: a, y :: b, hl => by
    simp only [yune, List.length_cons]
    rw [yune_len (by simpa using hl)]
theorem yune_get : ∀ {a b : List yI} (_ : a.length = b.length) (s : Nat) (iv : yI), (yune a b)[s]? = some iv → ∃ ia ib, a[s]? = some ia ∧ b[s]? = some ib ∧ (∀ z, yM ia z → yM iv z) ∧ ∀ z, yM ib z → yM iv z
  | [], [], _, s, iv, hs => by simp [yune] at hs
  | x :: a, y :: b, hl, s, iv, hs => by
    simp only [yune] at hs
    cases s with
    | zero =>
      simp only [List.getElem?_cons_zero, Option.some.injEq] at hs
      refine ⟨x, y, rfl, rfl, ?_, ?_⟩
      · intro z hz
        rw [← hs]
        cases hd : decide (x = y) with
        | true => exact hz
        | false => exact yun_l hz
      · intro z hz
        rw [← hs]
        cases hd : decide (x = y) with
        | true => rw [of_decide_eq_true hd]; exact hz
        | false => exact yun_r hz
    | succ s =>
      simp only [List.getElem?_cons_succ] at hs
      obtain ⟨ia, ib, g1, g2, g3, g4⟩ := yune_get (by simpa using hl) s iv hs
      exact ⟨ia, ib, by simpa using g1, by simpa using g2, g3, g4⟩
theorem yune_l {ρ : List Int} {a b : List yI} (hl : a.length = b.length) (hE : yE ρ a) : yE ρ (yune a b) := by
  refine ⟨by rw [yune_len hl]; exact hE.1, hE.2.1, fun s iv hs => ?_⟩
  obtain ⟨ia, ib, g1, g2, g3, g4⟩ := yune_get hl s iv hs
  obtain ⟨z, z1, z2⟩ := hE.2.2 s ia g1
  exact ⟨z, z1, g3 z z2⟩
theorem yune_r {ρ : List Int} {a b : List yI} (hl : a.length = b.length) (hE : yE ρ b) : yE ρ (yune a b) := by
  refine ⟨by rw [yune_len hl, hl]; exact hE.1, hE.2.1, fun s iv hs => ?_⟩
  obtain ⟨ia, ib, g1, g2, g3, g4⟩ := yune_get hl s iv hs
  obtain ⟨z, z1, z2⟩ := hE.2.2 s ib g2
  exact ⟨z, z1, g4 z z2⟩
theorem yadd_new {T : yT} {N1 N2 : Nat} {ρ : List Int} {o : yO} {r : Option Value} {h' : zHp} (hg : yGo T N1 N2 ρ o r h') : ∀ (os : List yO), ∃ o1 ∈ yadd o os, yGo T N1 N2 ρ o1 r h'
  | [] => ⟨o, List.mem_cons_self, hg⟩
  | a :: os => by
    simp only [yadd]
    cases hc : (decide (a.1 = o.1) && decide (a.2.2 = o.2.2) && Nat.beq a.2.1.length o.2.1.length && Nat.ble (ynd a.2.1 o.2.1) 1) with
    | true =>
      simp only [cond_true]
      simp only [Bool.and_eq_true, decide_eq_true_eq, nbq] at hc
      obtain ⟨⟨⟨c1, c2⟩, c3⟩, _⟩ := hc
      exact ⟨_, List.mem_cons_self, by show yOv ρ a.1 r; rw [c1]; exact hg.1, yune_r c3 hg.2.1, by show yHG T N1 N2 ρ a.2.2 h'; rw [c2]; exact hg.2.2⟩
    | false =>
      simp only [cond_false]
      obtain ⟨o1, m1, m2⟩ := yadd_new hg os
      exact ⟨o1, List.mem_cons_of_mem _ m1, m2⟩
theorem yadd_old {T : yT} {N1 N2 : Nat} {ρ : List Int} {o o2 : yO} {r : Option Value} {h' : zHp} (hg : yGo T N1 N2 ρ o2 r h') : ∀ (os : List yO), o2 ∈ os → ∃ o1 ∈ yadd o os, yGo T N1 N2 ρ o1 r h'
  | a :: os, hm => by
    simp only [yadd]
    cases hc : (decide (a.1 = o.1) && decide (a.2.2 = o.2.2) && Nat.beq a.2.1.length o.2.1.length && Nat.ble (ynd a.2.1 o.2.1) 1) with
    | true =>
      simp only [cond_true]
      simp only [Bool.and_eq_true, decide_eq_true_eq, nbq] at hc
      obtain ⟨⟨⟨c1, c2⟩, c3⟩, _⟩ := hc
      rcases List.mem_cons.mp hm with q | q
      · subst q
        exact ⟨_, List.mem_cons_self, hg.1, yune_l c3 hg.2.1, hg.2.2⟩
      · exact ⟨o2, List.mem_cons_of_mem _ q, hg⟩
    | false =>
      simp only [cond_false]
      rcases List.mem_cons.mp hm with q | q
      · subst q
        exact ⟨_, List.mem_cons_self, hg⟩
      · obtain ⟨o1, m1, m2⟩ := yadd_old hg os q
        exact ⟨o1, List.mem_cons_of_mem _ m1, m2⟩
/-- THE ABSTRACT RUN: every state that it speaks of runs to an end that it tells -/
theorem y_run (T : yT) (N1 N2 : Nat) (n : Nat) : ∀ (scA : Option (List yV)) (d : Nat) (mi : zMi) (sts : List yS) (outs0 outs : List yO), yrun T n scA d mi sts outs0 = some outs →
    (∀ o ∈ outs0, ∀ ρ r h', yGo T N1 N2 ρ o r h' → ∃ o1 ∈ outs, yGo T N1 N2 ρ o1 r h') ∧
    ∀ a ∈ sts, ∀ (ρ : List Int) (st : zSt) (sc : Option (List Int32)), yScr ρ scA sc → yG T N1 N2 ρ a st → ∃ r h', zEv sc d mi st r h' ∧ ∃ o ∈ outs, ∃ t, yGo T N1 N2 (ρ ++ t) o r h' := by
  induction n with
  | zero => intro scA d mi sts outs0 outs hr; simp [yrun] at hr
  | succ n ih =>
    intro scA d mi sts outs0 outs hr
    cases sts with
    | nil =>
      simp only [yrun, Option.some.injEq] at hr
      subst hr
      exact ⟨fun o ho ρ r h' hg => ⟨o, ho, hg⟩, fun a ha => absurd ha List.not_mem_nil⟩
    | cons a0 ss =>
      simp only [yrun, Option.bind_eq_some_iff] at hr
      obtain ⟨⟨ins, len⟩, hf, hr⟩ := hr
      rw [yfin_eq] at hf
      dsimp only at hr
      obtain ⟨pc, env, lo, sk, h⟩ := a0
      dsimp only at hf hr
      have hstep : ∀ (sc : Option (List Int32)) (st : zSt), st.1 = pc → zstep sc mi st = zst sc mi ins len st.1 st.2.1 st.2.2.1 st.2.2.2 := by
        intro sc st hpc
        unfold zstep
        rw [hpc, hf, Option.bind_some]
      split at hr
      · cases hr
      · rename_i sts1 hy
        obtain ⟨i1, i2⟩ := ih _ _ _ _ _ _ hr
        refine ⟨i1, fun a ha ρ st sc hsc hG => ?_⟩
        rcases List.mem_cons.mp ha with q | q
        · rw [q] at hG
          have hpc := hG.1
          dsimp only at hpc
          rcases y_step1 hsc hG hy with ⟨st', e1, a1, m1, t, g1⟩ | ⟨a1, m1, t, g1⟩
          · obtain ⟨r, h', x1, o, x2, t2, x3⟩ := i2 a1 (List.mem_append_left _ m1) (ρ ++ t) st' sc (yScr_more t hsc) g1
            exact ⟨r, h', zEv_step (by rw [hstep sc st hpc]; exact e1) x1, o, x2, t ++ t2, by rw [← List.append_assoc]; exact x3⟩
          · obtain ⟨r, h', x1, o, x2, t2, x3⟩ := i2 a1 (List.mem_append_left _ m1) (ρ ++ t) st sc (yScr_more t hsc) g1
            exact ⟨r, h', x1, o, x2, t ++ t2, by rw [← List.append_assoc]; exact x3⟩
        · exact i2 a (List.mem_append_right _ q) ρ st sc hsc hG
      · rename_i rA hy
        simp only [Option.bind_eq_some_iff] at hr
        obtain ⟨_, hir, hr⟩ := hr
        obtain ⟨i1, i2⟩ := ih _ _ _ _ _ _ hr
        refine ⟨fun o ho ρ r h' hg => ?_, fun a ha ρ st sc hsc hG => ?_⟩
        · obtain ⟨o1, m1, m2⟩ := yadd_old (o := (rA, env, h)) hg outs0 ho
          exact i1 o1 m1 ρ r h' m2
        · rcases List.mem_cons.mp ha with q | q
          · rw [q] at hG
            have hpc := hG.1
            dsimp only at hpc
            obtain ⟨v, e1, e2⟩ := y_ret1 (sc := sc) (ygb_some hir) hG hy
            obtain ⟨o1, m1, m2⟩ := yadd_new (o := (rA, env, h)) (⟨e2, hG.2.1, hG.2.2.2.2⟩ : yGo T N1 N2 ρ (rA, env, h) v st.2.2.2) outs0
            obtain ⟨o2, m3, m4⟩ := i1 o1 m1 ρ v st.2.2.2 m2
            exact ⟨v, st.2.2.2, zEv_ret (by rw [hstep sc st hpc]; exact e1), o2, m3, [], by rw [List.append_nil]; exact m4⟩
          · exact i2 a q ρ st sc hsc hG
      · rename_i cc hy
        simp only [Option.bind_eq_some_iff] at hr
        obtain ⟨mi', hm, _, hck, os, hcal, hr⟩ := hr
        rw [ylk_eq] at hm
        have hck2 := ygb_some hck
        simp only [Bool.and_eq_true] at hck2
        obtain ⟨⟨k1, k2⟩, k3⟩ := hck2
        obtain ⟨_, j2⟩ := ih _ _ _ _ _ _ hcal
        obtain ⟨i1, i2⟩ := ih _ _ _ _ _ _ hr
        refine ⟨i1, fun a ha ρ st sc hsc hG => ?_⟩
        rcases List.mem_cons.mp ha with q | q
        · rw [q] at hG
          have hpc := hG.1
          dsimp only at hpc
          obtain ⟨as, rest, e1, e2, e3⟩ := y_call1 (sc := sc) k1 hG hy
          obtain ⟨_, hE, hL, hS, hH⟩ := hG
          dsimp only at hE hL hS hH
          obtain ⟨r1, h1, x1, o, x2, t, x3⟩ := j2 _ List.mem_cons_self ρ (0, lv_args 0 as, [], st.2.2.2) none (fun xs hx => by cases hx) ⟨rfl, hE, yags_ok 0 e2, True.intro, hH⟩
          obtain ⟨y1, y2, y3⟩ := x3
          obtain ⟨r, h', z1, o2, z2, t2, z3⟩ := i2 (pc + 3, o.2.1, lo, o.1.toList ++ cc.2.2.2, o.2.2) (List.mem_append_left _ (List.mem_map.mpr ⟨o, x2, rfl⟩)) (ρ ++ t) (st.1 + 3, st.2.1, r1.toList ++ rest, h1) sc (yScr_more t hsc) ⟨by show st.1 + 3 = pc + 3; rw [hpc], y2, yL_more t hL, zF2_app (yOv_sr y1) (yS_more t e3), y3⟩
          exact ⟨r, h', zEv_call (by rw [hstep sc st hpc]; exact e1) hm (by rw [Bool.and_eq_true]; exact ⟨yrcv_ok k2 e2 e3 hH, k3⟩) x1 z1, o2, z2, t ++ t2, by rw [← List.append_assoc]; exact z3⟩
        · exact i2 a (List.mem_append_right _ q) ρ st sc hsc hG
