/-! the abstract run is sound: fields and rows -/
theorem yas_c {h : yH} {k i a b : Nat} {v : yV} : yas (((a, b), v) :: h) k i = if a = k ∧ b = i then some v else yas h k i := by
  simp only [yas]
  by_cases hc : a = k ∧ b = i
  · rw [if_pos hc, (nbq a k).mpr hc.1, (nbq b i).mpr hc.2]; rfl
  · rw [if_neg hc]
    have : (Nat.beq a k && Nat.beq b i) = false := by
      cases hb : (Nat.beq a k && Nat.beq b i) with
      | false => rfl
      | true => rw [Bool.and_eq_true, nbq, nbq] at hb; exact absurd hb hc
    rw [this]; rfl
theorem yas_rm {h : yH} {k i k' i' : Nat} : yas (yrm h k i) k' i' = if k = k' ∧ i = i' then none else yas h k' i' := by
  induction h with
  | nil => simp [yrm, yas]
  | cons p r ih =>
    obtain ⟨⟨a, b⟩, v⟩ := p
    simp only [yrm]
    cases hb : (Nat.beq a k && Nat.beq b i) with
    | true =>
      rw [Bool.and_eq_true, nbq, nbq] at hb
      simp only [cond_true]
      rw [ih, yas_c, hb.1, hb.2]
      by_cases hc : k = k' ∧ i = i'
      · rw [if_pos hc, if_pos hc]
      · rw [if_neg hc, if_neg hc, if_neg hc]
    | false =>
      simp only [cond_false]
      rw [yas_c, yas_c, ih]
      have hn : ¬ (a = k ∧ b = i) := fun q => by rw [(nbq a k).mpr q.1, (nbq b i).mpr q.2] at hb; cases hb
      by_cases hc : k = k' ∧ i = i'
      · rw [if_pos hc, if_pos hc]
        rw [if_neg (fun q => hn ⟨q.1.trans hc.1.symm, q.2.trans hc.2.symm⟩)]
      · rw [if_neg hc, if_neg hc]
theorem zgb_t : zgb true = some () := rfl
section YHP
variable {T : yT} {N1 N2 : Nat} {ρ : List Int} {sc : Option (List Int32)} {scA : Option (List yV)} {mi : zMi} {len pc : Nat} {env : List yI} {lo : yLo} {sk : List yV} {h : yH} {st : zSt} {sts : List yS}
theorem yrd_ok {hh : zHp} (hE : yE ρ env) (hH : yHG T N1 N2 ρ h hh) {k i : Nat} {x : (Nat ⊕ Nat) × Nat} (hk : yki T k = some x) {vs : List Value} (h1 : hh[k]? = some (x.1, vs)) {v : Value} (hv : vs[i]? = some v) {q : yV × List yI × yH} (hq : yrd T env h k i = some q) : ∃ t, yE (ρ ++ t) q.2.1 ∧ yVG (ρ ++ t) q.1 v ∧ yHG T N1 N2 (ρ ++ t) q.2.2 hh := by
  obtain ⟨vs', g1, g2, g3⟩ := hH.2.2 k x hk
  have hvv : vs = vs' := by rw [h1] at g1; exact (Prod.mk.inj (Option.some.inj g1)).2
  subst hvv
  have hl := g3 i v hv
  unfold yLc at hl
  unfold yrd at hq
  cases ha : yas h k i with
  | some a =>
    rw [ha] at hl hq
    cases hq
    exact ⟨[], by rw [List.append_nil]; exact ⟨hE, hl, hH⟩⟩
  | none =>
    rw [ha] at hl hq
    dsimp only at hl hq
    unfold yDf at hl
    cases hd : ydf T k i with
    | none => rw [hd] at hq; cases hq
    | some d =>
      rw [hd] at hl hq
      cases d with
      | inr w =>
        cases hq
        exact ⟨[], by rw [List.append_nil]; exact ⟨hE, hl, hH⟩⟩
      | inl iv =>
        obtain ⟨X, rfl, hX⟩ := hl
        dsimp only at hq
        cases hs : ysg iv with
        | some c =>
          rw [hs] at hq
          cases hq
          have hc := (ysg_M hs).mp hX
          exact ⟨[], by rw [List.append_nil]; exact ⟨hE, yVG_mi (by rw [hc]; exact yX_0 hE c), hH⟩⟩
        | none =>
          rw [hs] at hq
          cases hq
          obtain ⟨p1, p2⟩ := yE_push hE hX
          refine ⟨[X.toInt], p1, yVG_mi p2, hH.1, hH.2.1, fun k' x' hk' => ?_⟩
          obtain ⟨us, u1, u2, u3⟩ := hH.2.2 k' x' hk'
          refine ⟨us, u1, u2, fun i' v' hi' => ?_⟩
          unfold yLc
          rw [yas_c]
          by_cases hc : k = k' ∧ i = i'
          · rw [if_pos hc]
            obtain ⟨rfl, rfl⟩ := hc
            have : us = vs := by rw [h1] at u1; exact (Prod.mk.inj (Option.some.inj u1)).2.symm
            subst this
            rw [hv] at hi'
            cases hi'
            exact yVG_mi p2
          · rw [if_neg hc]
            exact yLc_more [X.toInt] (u3 i' v' hi')
theorem ywr_ok {hh : zHp} (hE : yE ρ env) (hH : yHG T N1 N2 ρ h hh) {k i : Nat} {kd : Nat ⊕ Nat} {vs : List Value} (h1 : hh[k]? = some (kd, vs)) (hi : i < vs.length) {a : yV} {v : Value} (hv : yVG ρ a v) : yHG T N1 N2 ρ (ywr T h k i a) (hh.set k (kd, vs.set i v)) := by
  refine ⟨by rw [List.length_set]; exact hH.1, by rw [zsz_set h1 (by simp)]; exact hH.2.1, fun k' x' hk' => ?_⟩
  obtain ⟨us, u1, u2, u3⟩ := hH.2.2 k' x' hk'
  have hyas : ∀ i', ¬ (k = k' ∧ i = i') → yas (ywr T h k i a) k' i' = yas h k' i' := by
    intro i' hc
    unfold ywr
    cases ydeq T k i a with
    | true => simp only [cond_true]; rw [yas_rm, if_neg hc]
    | false => simp only [cond_false]; rw [yas_c, if_neg hc, yas_rm, if_neg hc]
  by_cases hkk : k = k'
  · subst hkk
    rw [h1] at u1
    have e12 := Prod.mk.inj (Option.some.inj u1)
    have e1 := e12.1
    have e2 := e12.2
    rw [← e2] at u2 u3
    refine ⟨vs.set i v, by rw [List.getElem?_set_self (List.getElem?_eq_some_iff.mp h1).1, e1], by rw [List.length_set]; exact u2, fun i' v' hi' => ?_⟩
    by_cases hii : i = i'
    · subst hii
      rw [List.getElem?_set_self hi] at hi'
      cases hi'
      unfold yLc ywr
      cases hd : ydeq T k i a with
      | false => simp only [cond_false]; rw [yas_c, if_pos ⟨rfl, rfl⟩]; exact hv
      | true =>
        simp only [cond_true]
        rw [yas_rm, if_pos ⟨rfl, rfl⟩]
        dsimp only
        unfold ydeq at hd
        unfold yDf
        split at hd
        · rename_i c iv hdf
          rw [hdf]
          split at hd
          · rename_i c' hs
            obtain ⟨X, rfl, hX⟩ := yVG_i hv
            refine ⟨X, rfl, (ysg_M hs).mpr ?_⟩
            obtain ⟨z0, g1, g2⟩ := hX
            have e0 := hE.2.1
            rw [show ((0, c) : Nat × Int).1 = 0 from rfl, e0] at g1
            cases g1
            have := (yeq_iff _ _).mp hd
            dsimp only at g2
            omega
          · cases hd
        · cases hd
    · rw [List.getElem?_set_ne hii] at hi'
      have := u3 i' v' hi'
      unfold yLc at this ⊢
      rw [hyas i' (fun q => hii q.2)]
      exact this
  · refine ⟨us, by rw [List.getElem?_set_ne hkk]; exact u1, u2, fun i' v' hi' => ?_⟩
    have := u3 i' v' hi'
    unfold yLc at this ⊢
    rw [hyas i' (fun q => hkk q.1)]
    exact this
theorem yspl_ok {x : Nat × Int} {z : Int} (hE : yE ρ env) (hx : yX ρ x z) (h1 : st.1 = pc) (hL : zF2 (yLq ρ) lo st.2.1) (hS : zF2 (yVG ρ) sk st.2.2.1) (hH : yHG T N1 N2 ρ h st.2.2.2) : ∀ (n : Nat) (c : Int), c ≤ z → z < c + n → yCv T N1 N2 ρ (yspl pc env lo sk h x n c) st := by
  intro n
  induction n with
  | zero => intro c h2 h3; omega
  | succ n ih =>
    intro c h2 h3
    simp only [yspl]
    by_cases hc : z = c
    · exact yCv_al (yCv_op (yEQ_ok hE hx (yX_0 hE c) hc) h1 hL hS hH)
    · exact yCv_ar (ih (c + 1) (by omega) (by omega))
/-- an index: known, or in its few cases -/
theorem yidx_ok {x : Nat × Int} {z : Int} {f : Int → Option yR} (hG : yG T N1 N2 ρ (pc, env, lo, sk, h) st) (hx : yX ρ x z) (hz : yidx pc env lo sk h x f = some (.inl sts)) : f z = some (.inl sts) ∨ yCv T N1 N2 ρ sts st := by
  obtain ⟨hpc, hE, hL, hS, hH⟩ := hG
  dsimp only at hpc hE hL hS hH
  unfold yidx at hz
  cases hc : yc1 env x with
  | some c =>
    rw [hc] at hz
    rw [yc1_ok hE hx hc]
    exact Or.inl hz
  | none =>
    rw [hc] at hz
    obtain ⟨iv, i1, i2⟩ := yE_get hE hx
    rw [ylk_eq, i1] at hz
    simp only [Option.bind_eq_some_iff, Option.some.injEq, Sum.inl.injEq] at hz
    obtain ⟨_, h1, rfl⟩ := hz
    have a1 := ylo_le i2
    have a2 := yhi_ge i2
    exact Or.inr (yspl_ok hE hx hpc hL hS hH _ _ (by omega) (by omega))
theorem yix_ok {X : Int32} {n : Nat} (h1 : 0 ≤ X.toInt) (h2 : X.toInt.toNat < n) : zix X n = true := by
  simp only [zix, Bool.and_eq_true, Bool.not_eq_true', decide_eq_false_iff_not, decide_eq_true_eq]
  refine ⟨fun q => ?_, h2⟩
  have := Int32.lt_iff_toInt_lt.mp q
  have h0 : (0 : Int32).toInt = 0 := rfl
  omega
theorem yi_getfield {i : Nat} (hG : yG T N1 N2 ρ (pc, env, lo, sk, h) st) (hz : yst T scA mi (.getfield i) len pc env lo sk h = some (.inl sts)) : yRs T N1 N2 ρ sc mi (.getfield i) len sts st := by
  simp only [yst, yN, yzk_eq, Option.bind_eq_some_iff, Option.some.injEq, Sum.inl.injEq] at hz
  obtain ⟨_, h1, a, h2, f, h3, c, h4, _, h5, v, h6, rfl⟩ := hz
  have hb := ygb_some h1
  simp only [nbq] at hb
  subst hb
  obtain rfl := ypr_some h2
  have hb := ygb_some h5
  simp only [Bool.and_eq_true, Nat.blt_eq] at hb
  have hk := yiso_eq hb.1
  obtain ⟨pc0, lo0, sk0, hh⟩ := st
  obtain ⟨hpc, hE, hL, hS, hH⟩ := hG
  dsimp only at hpc hE hL hS hH
  subst hpc
  obtain ⟨t, hst, hU⟩ := ySw hS
  subst hst
  obtain ⟨vs, g1, g2, g3⟩ := hH.2.2 _ _ h4
  have hlt : f.2.1 < vs.length := by rw [g2]; exact hb.2
  obtain ⟨t0, r1, r2, r3⟩ := yrd_ok hE hH h4 g1 (List.getElem?_eq_getElem hlt) h6
  rw [hk] at g1
  exact Or.inl ⟨_, by simp only [zst, zg_self, zpr, h3, g1, zgb_true (decide_eq_true (rfl : (Sum.inr f.1 : Nat ⊕ Nat) = Sum.inr f.1)), List.getElem?_eq_getElem hlt, Option.bind_some]; rfl, yCv_t (t := t0) ⟨rfl, r1, yL_more t0 hL, zF2_c r2 (yS_more t0 hU), r3⟩⟩
theorem yi_putfield {i : Nat} (hG : yG T N1 N2 ρ (pc, env, lo, sk, h) st) (hz : yst T scA mi (.putfield i) len pc env lo sk h = some (.inl sts)) : yRs T N1 N2 ρ sc mi (.putfield i) len sts st := by
  simp only [yst, yN, yzk_eq, Option.bind_eq_some_iff, Option.some.injEq, Sum.inl.injEq] at hz
  obtain ⟨_, h1, v, h1b, a, h2, f, h3, c, h4, ty, ⟨r0, hr0, hr1⟩, _, h5, rfl⟩ := hz
  have hb := ygb_some h1
  simp only [nbq] at hb
  subst hb
  obtain ⟨rfl, hv1⟩ := yp1_some h1b
  have h2b := ypr_some h2
  have hb := ygb_some h5
  simp only [Bool.and_eq_true, Nat.blt_eq, Bool.not_eq_true'] at hb
  obtain ⟨⟨⟨b1, b2⟩, b3⟩, b4⟩ := hb
  have hk := yiso_eq b1
  rw [ylk_eq] at hr0 hr1
  obtain ⟨pc0, lo0, sk0, hh⟩ := st
  obtain ⟨hpc, hE, hL, hS, hH⟩ := hG
  dsimp only at hpc hE hL hS hH
  subst hpc
  obtain ⟨w, t1, hst, hw, hU⟩ := zF2_u hS
  subst hst
  rw [h2b] at hU
  obtain ⟨t, hst, hV⟩ := ySw hU
  subst hst
  obtain ⟨vs, g1, g2, g3⟩ := hH.2.2 _ _ h4
  have hlt : f.2.1 < vs.length := by rw [g2]; exact b2
  rw [hk] at g1
  have hc1 : w.category = 1 := (yVG_cat hw).trans hv1
  have hfit : zfit ty.1 w = true := by
    unfold yfit at b3
    split at b3
    · rename_i e1 e2; rw [e2] at hw; obtain ⟨X, rfl, -⟩ := yVG_i hw; rw [e1]; rfl
    · rename_i e1 e2
      rw [e2] at hw
      obtain ⟨X, rfl, hX⟩ := yVG_i hw
      have hr := yin_ok hE hX b3
      rw [e1]
      unfold zfit
      simp only [Bool.or_eq_true, decide_eq_true_eq]
      rcases (show X.toInt = 0 ∨ X.toInt = 1 by omega) with q | q
      · exact Or.inl (Int32.toInt_inj.mp q)
      · exact Or.inr (Int32.toInt_inj.mp q)
    · cases b3
  refine Or.inl ⟨(pc0 + 3, lo0, t, hh.set a.1 (Sum.inr f.1, vs.set f.2.1 w)), ?_, yCv_one ⟨rfl, hE, hL, hV, ywr_ok hE hH g1 hlt hw⟩⟩
  have hz2 : (zfit ty.1 w && (!ty.2 || (decide (mi.1.name = "<init>") && decide (mi.2.2.2.2.1 = f.1))) && decide (f.2.1 < vs.length)) = true := by rw [hfit, b4]; simp [hlt]
  simp only [zst, zg_self, zp1, if_pos hc1, zpr, h3, g1, hr0, hr1, Option.bind_some, decide_true, zgb_t, zgb_true hz2]
theorem yi_iaload (hsc : ∀ xs, scA = some xs → ∃ ys, sc = some ys ∧ zF2 (yVG ρ) xs (ys.map Value.int)) (hG : yG T N1 N2 ρ (pc, env, lo, sk, h) st) (hz : yst T scA mi (.iaload) len pc env lo sk h = some (.inl sts)) : yRs T N1 N2 ρ sc mi (.iaload) len sts st := by
  simp only [yst, yN, yzk_eq, Option.bind_eq_some_iff, Option.some.injEq, Sum.inl.injEq] at hz
  obtain ⟨_, h1, i, h2, hz⟩ := hz
  have hb := ygb_some h1
  simp only [nbq] at hb
  subst hb
  obtain rfl := ypi_some h2
  obtain ⟨X, t0, hst0, hX, hU⟩ := ySi hG.2.2.2.1
  rcases yidx_ok hG hX hz with hz | hz
  · try dsimp only at hz
    split at hz
    · rename_i a r hi
      simp only [Option.bind_eq_some_iff, Option.some.injEq, Sum.inl.injEq] at hz
      obtain ⟨c, h4, _, h5, v, h6, rfl⟩ := hz
      have hb := ygb_some h5
      simp only [Bool.and_eq_true, Nat.blt_eq, yle_iff] at hb
      have hk := yisi_eq hb.1.1
      obtain ⟨pc0, lo0, sk0, hh⟩ := st
      obtain ⟨hpc, hE, hL, hS, hH⟩ := hG
      dsimp only at hpc hE hL hS hH
      subst hpc
      dsimp only at hst0 hU
      subst hst0
      rw [hi] at hU
      obtain ⟨t, hst, hV⟩ := ySw hU
      subst hst
      obtain ⟨vs, g1, g2, g3⟩ := hH.2.2 _ _ h4
      have hlt : X.toInt.toNat < vs.length := by rw [g2]; exact hb.2
      obtain ⟨t1, r1, r2, r3⟩ := yrd_ok hE hH h4 g1 (List.getElem?_eq_getElem hlt) h6
      rw [hk] at g1
      have hix : (decide ((Sum.inl 0 : Nat ⊕ Nat) = Sum.inl 0) && zix X vs.length) = true := by rw [yix_ok hb.1.2 hlt]; rfl
      exact Or.inl ⟨_, by simp only [zst, zg_self, zpi, g1, Option.bind_some, decide_true, Bool.true_and]; rw [zgb_true (yix_ok hb.1.2 hlt), Option.bind_some, ycl hb.1.2, List.getElem?_eq_getElem hlt, Option.bind_some], yCv_t (t := t1) ⟨rfl, r1, yL_more t1 hL, zF2_c r2 (yS_more t1 hV), r3⟩⟩
    · rename_i k0 r hi
      simp only [Option.bind_eq_some_iff, Option.some.injEq, Sum.inl.injEq] at hz
      obtain ⟨xs, hsa, _, h5, v, h6, rfl⟩ := hz
      have hb := (yle_iff _ _).mp (ygb_some h5)
      obtain ⟨pc0, lo0, sk0, hh⟩ := st
      obtain ⟨hpc, hE, hL, hS, hH⟩ := hG
      dsimp only at hpc hE hL hS hH
      subst hpc
      dsimp only at hst0 hU
      subst hst0
      rw [hi] at hU
      obtain ⟨t, hst, hV⟩ := ySw hU
      subst hst
      obtain ⟨ys, hs1, hs2⟩ := hsc xs hsa
      rw [ylk_eq] at h6
      obtain ⟨w, hw1, hw2⟩ := zF2_get hs2 _ _ h6
      rw [List.getElem?_map] at hw1
      cases hy : ys[X.toInt.toNat]? with
      | none => rw [hy] at hw1; cases hw1
      | some y0 =>
        rw [hy] at hw1
        cases hw1
        have hlt : X.toInt.toNat < ys.length := (List.getElem?_eq_some_iff.mp hy).1
        exact Or.inl ⟨_, by simp only [zst, zg_self, zpi, hs1, Option.bind_some]; rw [zgb_true (yix_ok hb hlt), Option.bind_some, ycl hb, hy, Option.bind_some], yCv_one ⟨rfl, hE, hL, zF2_c hw2 hV, hH⟩⟩
    · cases hz
  · exact Or.inr hz
theorem yi_baload  (hG : yG T N1 N2 ρ (pc, env, lo, sk, h) st) (hz : yst T scA mi (.baload) len pc env lo sk h = some (.inl sts)) : yRs T N1 N2 ρ sc mi (.baload) len sts st := by
  simp only [yst, yN, yzk_eq, Option.bind_eq_some_iff, Option.some.injEq, Sum.inl.injEq] at hz
  obtain ⟨_, h1, i, h2, hz⟩ := hz
  have hb := ygb_some h1
  simp only [nbq] at hb
  subst hb
  obtain rfl := ypi_some h2
  obtain ⟨X, t0, hst0, hX, hU⟩ := ySi hG.2.2.2.1
  rcases yidx_ok hG hX hz with hz | hz
  · simp only [Option.bind_eq_some_iff, Option.some.injEq, Sum.inl.injEq] at hz
    obtain ⟨a, h3, c, h4, _, h5, v, h6, rfl⟩ := hz
    have h3b := ypr_some h3
    have hb := ygb_some h5
    simp only [Bool.and_eq_true, Bool.or_eq_true, Nat.blt_eq, yle_iff] at hb
    obtain ⟨pc0, lo0, sk0, hh⟩ := st
    obtain ⟨hpc, hE, hL, hS, hH⟩ := hG
    dsimp only at hpc hE hL hS hH
    subst hpc
    dsimp only at hst0 hU
    subst hst0
    rw [h3b] at hU
    obtain ⟨t, hst, hV⟩ := ySw hU
    subst hst
    obtain ⟨vs, g1, g2, g3⟩ := hH.2.2 _ _ h4
    have hlt : X.toInt.toNat < vs.length := by rw [g2]; exact hb.2
    obtain ⟨t1, r1, r2, r3⟩ := yrd_ok hE hH h4 g1 (List.getElem?_eq_getElem hlt) h6
    have hix : ((decide (c.1 = Sum.inl 1) || decide (c.1 = Sum.inl 2)) && zix X vs.length) = true := by
      rw [yix_ok hb.1.2 hlt, Bool.and_true, Bool.or_eq_true, decide_eq_true_eq, decide_eq_true_eq]
      exact hb.1.1.imp yisi_eq yisi_eq
    exact Or.inl ⟨_, by simp only [zst, zg_self, zpi, zpr, g1, Option.bind_some]; rw [zgb_true hix, Option.bind_some, ycl hb.1.2, List.getElem?_eq_getElem hlt, Option.bind_some], yCv_t (t := t1) ⟨rfl, r1, yL_more t1 hL, zF2_c r2 (yS_more t1 hV), r3⟩⟩
  · exact Or.inr hz
theorem yi_aaload  (hG : yG T N1 N2 ρ (pc, env, lo, sk, h) st) (hz : yst T scA mi (.aaload) len pc env lo sk h = some (.inl sts)) : yRs T N1 N2 ρ sc mi (.aaload) len sts st := by
  simp only [yst, yN, yzk_eq, Option.bind_eq_some_iff, Option.some.injEq, Sum.inl.injEq] at hz
  obtain ⟨_, h1, i, h2, hz⟩ := hz
  have hb := ygb_some h1
  simp only [nbq] at hb
  subst hb
  obtain rfl := ypi_some h2
  obtain ⟨X, t0, hst0, hX, hU⟩ := ySi hG.2.2.2.1
  rcases yidx_ok hG hX hz with hz | hz
  · simp only [Option.bind_eq_some_iff, Option.some.injEq, Sum.inl.injEq] at hz
    obtain ⟨a, h3, c, h4, _, h5, v, h6, rfl⟩ := hz
    have h3b := ypr_some h3
    have hb := ygb_some h5
    simp only [Bool.and_eq_true, Bool.or_eq_true, Nat.blt_eq, yle_iff] at hb
    obtain ⟨pc0, lo0, sk0, hh⟩ := st
    obtain ⟨hpc, hE, hL, hS, hH⟩ := hG
    dsimp only at hpc hE hL hS hH
    subst hpc
    dsimp only at hst0 hU
    subst hst0
    rw [h3b] at hU
    obtain ⟨t, hst, hV⟩ := ySw hU
    subst hst
    obtain ⟨vs, g1, g2, g3⟩ := hH.2.2 _ _ h4
    have hlt : X.toInt.toNat < vs.length := by rw [g2]; exact hb.2
    obtain ⟨t1, r1, r2, r3⟩ := yrd_ok hE hH h4 g1 (List.getElem?_eq_getElem hlt) h6
    have hix : (zisq c.1 && zix X vs.length) = true := by
      rw [yix_ok hb.1.2 hlt, Bool.and_true]
      exact hb.1.1
    exact Or.inl ⟨_, by simp only [zst, zg_self, zpi, zpr, g1, Option.bind_some]; rw [zgb_true hix, Option.bind_some, ycl hb.1.2, List.getElem?_eq_getElem hlt, Option.bind_some], yCv_t (t := t1) ⟨rfl, r1, yL_more t1 hL, zF2_c r2 (yS_more t1 hV), r3⟩⟩
  · exact Or.inr hz
theorem yi_iastore  (hG : yG T N1 N2 ρ (pc, env, lo, sk, h) st) (hz : yst T scA mi (.iastore) len pc env lo sk h = some (.inl sts)) : yRs T N1 N2 ρ sc mi (.iastore) len sts st := by
  simp only [yst, yN, yzk_eq, Option.bind_eq_some_iff, Option.some.injEq, Sum.inl.injEq] at hz
  obtain ⟨_, h1, x, h2, i, h2b, hz⟩ := hz
  have hb := ygb_some h1
  simp only [nbq] at hb
  subst hb
  obtain rfl := ypi_some h2
  have h2c := ypi_some h2b
  obtain ⟨V, t9, hst9, hVx, hU9⟩ := ySi hG.2.2.2.1
  have hU8 := hU9
  rw [h2c] at hU8
  obtain ⟨X, t0, hst0, hX, hU⟩ := ySi hU8
  rcases yidx_ok hG hX hz with hz | hz
  · simp only [Option.bind_eq_some_iff, Option.some.injEq, Sum.inl.injEq] at hz
    obtain ⟨a, h3, c, h4, _, h5, rfl⟩ := hz
    have h3b := ypr_some h3
    have hb := ygb_some h5
    simp only [Bool.and_eq_true, Bool.or_eq_true, Nat.blt_eq, yle_iff] at hb
    obtain ⟨pc0, lo0, sk0, hh⟩ := st
    obtain ⟨hpc, hE, hL, hS, hH⟩ := hG
    dsimp only at hpc hE hL hS hH
    subst hpc
    dsimp only at hst9 hU
    subst hst9
    subst hst0
    rw [h3b] at hU
    obtain ⟨t, hst, hV⟩ := ySw hU
    subst hst
    obtain ⟨vs, g1, g2, g3⟩ := hH.2.2 _ _ h4
    have hlt : X.toInt.toNat < vs.length := by rw [g2]; exact hb.2
    have hk := yisi_eq hb.1.1
    rw [hk] at g1
    have hix : (decide ((Sum.inl 0 : Nat ⊕ Nat) = Sum.inl 0) && zix X vs.length) = true := by rw [yix_ok hb.1.2 hlt]; rfl
    exact Or.inl ⟨_, by simp only [zst, zg_self, zpi, zpr, g1, Option.bind_some, decide_true, Bool.true_and]; rw [zgb_true (yix_ok hb.1.2 hlt), Option.bind_some, ycl hb.1.2], yCv_one ⟨rfl, hE, hL, hV, ywr_ok hE hH g1 hlt (yVG_mi hVx)⟩⟩
  · exact Or.inr hz
theorem yi_bastore  (hG : yG T N1 N2 ρ (pc, env, lo, sk, h) st) (hz : yst T scA mi (.bastore) len pc env lo sk h = some (.inl sts)) : yRs T N1 N2 ρ sc mi (.bastore) len sts st := by
  simp only [yst, yN, yzk_eq, Option.bind_eq_some_iff, Option.some.injEq, Sum.inl.injEq] at hz
  obtain ⟨_, h1, x, h2, i, h2b, hz⟩ := hz
  have hb := ygb_some h1
  simp only [nbq] at hb
  subst hb
  obtain rfl := ypi_some h2
  have h2c := ypi_some h2b
  obtain ⟨V, t9, hst9, hVx, hU9⟩ := ySi hG.2.2.2.1
  have hU8 := hU9
  rw [h2c] at hU8
  obtain ⟨X, t0, hst0, hX, hU⟩ := ySi hU8
  rcases yidx_ok hG hX hz with hz | hz
  · simp only [Option.bind_eq_some_iff, Option.some.injEq, Sum.inl.injEq] at hz
    obtain ⟨a, h3, c, h4, _, h5, rfl⟩ := hz
    have h3b := ypr_some h3
    have hb := ygb_some h5
    simp only [Bool.and_eq_true, Bool.or_eq_true, Nat.blt_eq, yle_iff] at hb
    obtain ⟨pc0, lo0, sk0, hh⟩ := st
    obtain ⟨hpc, hE, hL, hS, hH⟩ := hG
    dsimp only at hpc hE hL hS hH
    subst hpc
    dsimp only at hst9 hU
    subst hst9
    subst hst0
    rw [h3b] at hU
    obtain ⟨t, hst, hV⟩ := ySw hU
    subst hst
    obtain ⟨vs, g1, g2, g3⟩ := hH.2.2 _ _ h4
    have hlt : X.toInt.toNat < vs.length := by rw [g2]; exact hb.2
    have hnar : vp_nar (if c.1 = Sum.inl 1 then .byte else .boolean) V = V ∧ (c.1 = Sum.inl 1 ∨ c.1 = Sum.inl 2) := by
      rcases hb.1.1 with q | q
      · have hk := yisi_eq q.1
        have hr := yin_ok hE hVx q.2
        refine ⟨?_, Or.inl hk⟩
        rw [if_pos hk, vp_nar_byte]
        apply Int32.toInt_inj.mp
        rw [lg_i2b_toInt, Int.bmod_def]; omega
      · have hk := yisi_eq q.1
        have hr := yin_ok hE hVx q.2
        refine ⟨?_, Or.inr hk⟩
        rw [hk, if_neg (by decide)]
        rcases (show V.toInt = 0 ∨ V.toInt = 1 by omega) with w | w
        · rw [Int32.toInt_inj.mp (show V.toInt = (0 : Int32).toInt from w)]; rfl
        · rw [Int32.toInt_inj.mp (show V.toInt = (1 : Int32).toInt from w)]; rfl
    have hix : ((decide (c.1 = Sum.inl 1) || decide (c.1 = Sum.inl 2)) && zix X vs.length) = true := by
      rw [yix_ok hb.1.2 hlt, Bool.and_true, Bool.or_eq_true, decide_eq_true_eq, decide_eq_true_eq]
      exact hnar.2
    exact Or.inl ⟨_, by simp only [zst, zg_self, zpi, zpr, g1, Option.bind_some]; rw [zgb_true hix, Option.bind_some, ycl hb.1.2, hnar.1], yCv_one ⟨rfl, hE, hL, hV, ywr_ok hE hH g1 hlt (yVG_mi hVx)⟩⟩
  · exact Or.inr hz
theorem yi_arraylength (hsc : ∀ xs, scA = some xs → ∃ ys, sc = some ys ∧ zF2 (yVG ρ) xs (ys.map Value.int)) (hG : yG T N1 N2 ρ (pc, env, lo, sk, h) st) (hz : yst T scA mi (.arraylength) len pc env lo sk h = some (.inl sts)) : yRs T N1 N2 ρ sc mi (.arraylength) len sts st := by
  simp only [yst, yN, yzk_eq, Option.bind_eq_some_iff, Option.some.injEq, Sum.inl.injEq] at hz
  obtain ⟨_, h1, hz⟩ := hz
  have hb := ygb_some h1
  simp only [nbq] at hb
  subst hb
  split at hz
  · rename_i a r
    simp only [Option.bind_eq_some_iff, Option.some.injEq, Sum.inl.injEq] at hz
    obtain ⟨c, h4, _, h5, rfl⟩ := hz
    have hb := ygb_some h5
    simp only [Bool.and_eq_true, Nat.blt_eq] at hb
    obtain ⟨pc0, lo0, sk0, hh⟩ := st
    obtain ⟨hpc, hE, hL, hS, hH⟩ := hG
    dsimp only at hpc hE hL hS hH
    subst hpc
    obtain ⟨t, hst, hV⟩ := ySw hS
    subst hst
    obtain ⟨vs, g1, g2, g3⟩ := hH.2.2 _ _ h4
    have hn : (Int32.ofNat vs.length).toInt = (c.2 : Int) := by rw [g2]; exact nI_toInt (by omega)
    exact Or.inl ⟨_, by simp only [zst, zg_self, g1, zgb_true hb.1, Option.bind_some]; rfl, yCv_one ⟨rfl, hE, hL, zF2_c (yVG_mi (by rw [hn]; exact yX_0 hE _)) hV, hH⟩⟩
  · rename_i k0 r
    simp only [Option.bind_eq_some_iff, Option.some.injEq, Sum.inl.injEq] at hz
    obtain ⟨xs, hsa, _, h5, rfl⟩ := hz
    have hb := ygb_some h5
    simp only [Nat.blt_eq] at hb
    obtain ⟨pc0, lo0, sk0, hh⟩ := st
    obtain ⟨hpc, hE, hL, hS, hH⟩ := hG
    dsimp only at hpc hE hL hS hH
    subst hpc
    obtain ⟨t, hst, hV⟩ := ySw hS
    subst hst
    obtain ⟨ys, hs1, hs2⟩ := hsc xs hsa
    have hlen := zF2_len hs2
    rw [List.length_map] at hlen
    have hn : (Int32.ofNat ys.length).toInt = (xs.length : Int) := by rw [← hlen]; exact nI_toInt (by omega)
    exact Or.inl ⟨_, by simp only [zst, zg_self, hs1, Option.bind_some]; rfl, yCv_one ⟨rfl, hE, hL, zF2_c (yVG_mi (by rw [hn]; exact yX_0 hE _)) hV, hH⟩⟩
  · cases hz
end YHP
