/-! the abstract run, second version, is sound: fields and rows -/
theorem yas_mem {h : yH} {k i : Nat} {v : yV} (hh : yas h k i = some v) : ((k, i), v) ∈ h := by
  induction h with
  | nil => simp [yas] at hh
  | cons p r ih =>
    obtain ⟨⟨a, b⟩, w⟩ := p
    simp only [yas] at hh
    cases hb : (Nat.beq a k && Nat.beq b i) with
    | true =>
      rw [hb] at hh
      simp only [cond_true, Option.some.injEq] at hh
      rw [Bool.and_eq_true, nbq, nbq] at hb
      rw [hb.1, hb.2, hh]
      exact List.mem_cons_self
    | false =>
      rw [hb] at hh
      exact List.mem_cons_of_mem _ (ih hh)
theorem yrm_mem {k i : Nat} : ∀ {h : yH} {e : (Nat × Nat) × yV}, e ∈ yrm h k i → e ∈ h ∧ ¬ (k = e.1.1 ∧ i = e.1.2)
  | [], e, he => by simp [yrm] at he
  | ((a, b), v) :: r, e, he => by
    simp only [yrm] at he
    cases hb : (Nat.beq a k && Nat.beq b i) with
    | true =>
      rw [hb] at he
      obtain ⟨h1, h2⟩ := yrm_mem he
      exact ⟨List.mem_cons_of_mem _ h1, h2⟩
    | false =>
      rw [hb] at he
      rcases List.mem_cons.mp he with q | q
      · rw [q]
        refine ⟨List.mem_cons_self, fun w => ?_⟩
        rw [(nbq a k).mpr w.1.symm, (nbq b i).mpr w.2.symm] at hb
        cases hb
      · obtain ⟨h1, h2⟩ := yrm_mem q
        exact ⟨List.mem_cons_of_mem _ h1, h2⟩
theorem yrr_mem {k i j : Nat} : ∀ {h : yH} {e : (Nat × Nat) × yV}, e ∈ yrr h k i j → e ∈ h ∧ ¬ (k = e.1.1 ∧ i ≤ e.1.2 ∧ e.1.2 ≤ j)
  | [], e, he => by simp [yrr] at he
  | ((a, b), v) :: r, e, he => by
    simp only [yrr] at he
    cases hb : (Nat.beq a k && Nat.ble i b && Nat.ble b j) with
    | true =>
      rw [hb] at he
      obtain ⟨h1, h2⟩ := yrr_mem he
      exact ⟨List.mem_cons_of_mem _ h1, h2⟩
    | false =>
      rw [hb] at he
      rcases List.mem_cons.mp he with q | q
      · rw [q]
        refine ⟨List.mem_cons_self, fun w => ?_⟩
        rw [(nbq a k).mpr w.1.symm, Nat.ble_eq.mpr w.2.1, Nat.ble_eq.mpr w.2.2] at hb
        cases hb
      · obtain ⟨h1, h2⟩ := yrr_mem q
        exact ⟨List.mem_cons_of_mem _ h1, h2⟩
theorem ymr_ok {k i j m : Nat} (h1 : i ≤ m) (h2 : m ≤ j) : ∀ {md : yMd}, ymr md k i j = true → ymd md k m = true
  | [], h => by simp [ymr] at h
  | (a, b, c) :: r, h => by
    simp only [ymr] at h
    simp only [ymd]
    cases hb : (Nat.beq a k && Nat.ble b i && Nat.ble j c) with
    | true =>
      simp only [Bool.and_eq_true, nbq, Nat.ble_eq] at hb
      have : (Nat.beq a k && Nat.ble b m && Nat.ble m c) = true := by
        simp only [Bool.and_eq_true, nbq, Nat.ble_eq]
        exact ⟨⟨hb.1.1, by omega⟩, by omega⟩
      rw [this]; rfl
    | false =>
      rw [hb] at h
      have ih := ymr_ok h1 h2 h
      cases (Nat.beq a k && Nat.ble b m && Nat.ble m c) with
      | true => rfl
      | false => exact ih
theorem ysw_ok {α : Type} {v : α} : ∀ {r : List (Nat × α)} {i j m : Nat}, ysw r i j = some v → i ≤ m → m ≤ j → ysm r m = some v
  | [], i, j, m, h, _, _ => by simp [ysw] at h
  | (n, a) :: r, i, j, m, h, h1, h2 => by
    simp only [ysw] at h
    simp only [ysm]
    cases hb : Nat.blt i n with
    | true =>
      rw [hb] at h
      simp only [cond_true] at h
      cases hc : Nat.blt j n with
      | true =>
        rw [hc] at h
        simp only [cond_true] at h
        rw [Nat.blt_eq] at hc
        have : Nat.blt m n = true := Nat.blt_eq.mpr (by omega)
        rw [this]
        exact h
      | false => rw [hc] at h; cases h
    | false =>
      rw [hb] at h
      simp only [cond_false] at h
      have hi : ¬ i < n := fun q => by rw [Nat.blt_eq.mpr q] at hb; cases hb
      have : Nat.blt m n = false := by
        cases hq : Nat.blt m n with
        | false => rfl
        | true => rw [Nat.blt_eq] at hq; omega
      rw [this]
      simp only [cond_false]
      exact ysw_ok h (by omega) (by omega)
theorem ydw_ok {T : yT} {k i j m : Nat} {v : yI ⊕ Value} (h : ydw T k i j = some v) (h1 : i ≤ m) (h2 : m ≤ j) : ydf T k m = some v := by
  unfold ydw at h
  unfold ydf
  cases hr : yl3 T.1 k with
  | none => rw [hr] at h; cases h
  | some r => rw [hr] at h; exact ysw_ok h h1 h2
theorem zplc_of {h : zHp} {k i : Nat} {c : zC} {v : Value} (h1 : h[k]? = some c) (h2 : c.2[i]? = some v) : zplc h k i = some v := by
  unfold zplc
  rw [h1, Option.bind_some, h2]
theorem zplc_set {h : zHp} {k i : Nat} {kd : Nat ⊕ Nat} {vs : List Value} {v : Value} (h1 : h[k]? = some (kd, vs)) (hi : i < vs.length) (k' i' : Nat) : zplc (h.set k (kd, vs.set i v)) k' i' = if k = k' ∧ i = i' then some v else zplc h k' i' := by
  unfold zplc
  have hl := (List.getElem?_eq_some_iff.mp h1).1
  by_cases hk : k = k'
  · subst hk
    rw [List.getElem?_set_self hl, Option.bind_some, h1, Option.bind_some]
    by_cases hii : i = i'
    · subst hii
      rw [if_pos ⟨rfl, rfl⟩, List.getElem?_set_self hi]
    · rw [if_neg (fun q => hii q.2), List.getElem?_set_ne hii]
  · rw [List.getElem?_set_ne hk, if_neg (fun q => hk q.1)]
theorem zgb_t : zgb true = some () := rfl
section YHP
variable {T : yT} {N1 N2 : Nat} {ρ : List Int} {sc : Option (List Int32)} {scA : ySc} {md : yMd} {mi : zMi} {len pc : Nat} {env : List yI} {lo : yLo} {sk : List yV} {h : yH} {st : zSt} {sts : List yS}
theorem yTp_set {hh : zHp} (hH : yTp T N1 N2 hh) {k i : Nat} {kd : Nat ⊕ Nat} {vs : List Value} (h1 : hh[k]? = some (kd, vs)) (hi : i < vs.length) {v : Value} (hv : yDf T k i v) : yTp T N1 N2 (hh.set k (kd, vs.set i v)) := by
  refine ⟨by rw [List.length_set]; exact hH.1, by rw [zsz_set h1 (by simp)]; exact hH.2.1, fun k' x' hk' => ?_⟩
  obtain ⟨us, u1, u2, u3⟩ := hH.2.2 k' x' hk'
  by_cases hkk : k = k'
  · subst hkk
    rw [h1] at u1
    have e12 := Prod.mk.inj (Option.some.inj u1)
    have e1 := e12.1
    have e2 := e12.2
    rw [← e2] at u2 u3
    refine ⟨vs.set i v, by rw [List.getElem?_set_self (List.getElem?_eq_some_iff.mp h1).1, e1], by rw [List.length_set]; exact u2, fun i' v' hi' => ?_⟩
    by_cases hii : i = i'
    · subst hii
      rw [List.getElem?_set_self hi] at hi'
      cases hi'
      exact hv
    · rw [List.getElem?_set_ne hii] at hi'
      exact u3 i' v' hi'
  · exact ⟨us, by rw [List.getElem?_set_ne hkk]; exact u1, u2, u3⟩
theorem yrd_ok {hh : zHp} (hE : yE ρ env) (hH : yHG T N1 N2 ρ h hh) {k i : Nat} {x : (Nat ⊕ Nat) × Nat} (hk : yki T k = some x) {vs : List Value} (h1 : hh[k]? = some (x.1, vs)) {v : Value} (hv : vs[i]? = some v) {q : yV × List yI × yH} (hq : yrd T env h k i = some q) : ∃ t, yE (ρ ++ t) q.2.1 ∧ yVG (ρ ++ t) q.1 v ∧ yHG T N1 N2 (ρ ++ t) q.2.2 hh := by
  obtain ⟨vs', g1, g2, g3⟩ := hH.1.2.2 k x hk
  have hvv : vs = vs' := by rw [h1] at g1; exact (Prod.mk.inj (Option.some.inj g1)).2
  subst hvv
  have hl := g3 i v hv
  have hpl : zplc hh k i = some v := zplc_of h1 hv
  unfold yrd at hq
  cases ha : yas h k i with
  | some a =>
    rw [ha] at hq
    cases hq
    obtain ⟨v', p1, p2⟩ := hH.2 _ (yas_mem ha)
    rw [hpl] at p1
    cases p1
    exact ⟨[], by rw [List.append_nil]; exact ⟨hE, p2, hH⟩⟩
  | none =>
    rw [ha] at hq
    dsimp only at hl hq
    unfold yDf at hl
    cases hd : ydf T k i with
    | none => rw [hd] at hq; cases hq
    | some d =>
      rw [hd] at hl hq
      cases d with
      | inr w =>
        cases hq
        exact ⟨[], by rw [List.append_nil]; exact ⟨hE, hl, hH⟩⟩
      | inl iv =>
        obtain ⟨X, rfl, hX⟩ := hl
        dsimp only at hq
        cases hs : ysg iv with
        | some c =>
          rw [hs] at hq
          cases hq
          have hc := (ysg_M hs).mp hX
          exact ⟨[], by rw [List.append_nil]; exact ⟨hE, yVG_mi (by rw [hc]; exact yX_0 hE c), hH⟩⟩
        | none =>
          rw [hs] at hq
          cases hq
          obtain ⟨p1, p2⟩ := yE_push hE hX
          refine ⟨[X.toInt], p1, yVG_mi p2, hH.1, fun e he => ?_⟩
          rcases List.mem_cons.mp he with w | w
          · rw [w]
            exact ⟨_, hpl, yVG_mi p2⟩
          · exact yOd_more _ hH.2 e w
theorem ywr_ok {hh : zHp} (hE : yE ρ env) (hH : yHG T N1 N2 ρ h hh) {k i : Nat} {kd : Nat ⊕ Nat} {vs : List Value} (h1 : hh[k]? = some (kd, vs)) (hi : i < vs.length) {x : Nat × Int} {X : Int32} (hx : yX ρ x X.toInt) {h' : yH} (hw : ywr T md env h k i x = some h') : yHG T N1 N2 ρ h' (hh.set k (kd, vs.set i (.int X))) ∧ yFr md hh (hh.set k (kd, vs.set i (.int X))) := by
  unfold ywr at hw
  split at hw
  · rename_i iv hd
    cases hb : (ymd md k i && yvin env x iv) with
    | false => rw [hb] at hw; cases hw
    | true =>
      rw [hb] at hw
      cases hw
      rw [Bool.and_eq_true] at hb
      have hM := yvin_ok hE hx hb.2
      refine ⟨⟨yTp_set hH.1 h1 hi (by unfold yDf; rw [hd]; exact ⟨X, rfl, hM⟩), fun e he => ?_⟩, fun k' i' hm => ?_⟩
      · rw [zplc_set h1 hi]
        rcases List.mem_cons.mp he with w | w
        · rw [w]
          exact ⟨_, if_pos ⟨rfl, rfl⟩, yVG_mi hx⟩
        · obtain ⟨m1, m2⟩ := yrm_mem w
          rw [if_neg m2]
          exact hH.2 e m1
      · rw [zplc_set h1 hi, if_neg]
        rintro ⟨rfl, rfl⟩
        rw [hb.1] at hm
        cases hm
  · cases hw
theorem yww_ok {hh : zHp} (hE : yE ρ env) (hH : yHG T N1 N2 ρ h hh) {k i j m : Nat} {kd : Nat ⊕ Nat} {vs : List Value} (h1 : hh[k]? = some (kd, vs)) (hi : m < vs.length) (hm1 : i ≤ m) (hm2 : m ≤ j) {x : Nat × Int} {X : Int32} (hx : yX ρ x X.toInt) {h' : yH} (hw : yww T md env h k i j x = some h') : yHG T N1 N2 ρ h' (hh.set k (kd, vs.set m (.int X))) ∧ yFr md hh (hh.set k (kd, vs.set m (.int X))) := by
  unfold yww at hw
  split at hw
  · rename_i iv hd
    cases hb : (ymr md k i j && yvin env x iv) with
    | false => rw [hb] at hw; cases hw
    | true =>
      rw [hb] at hw
      cases hw
      rw [Bool.and_eq_true] at hb
      have hM := yvin_ok hE hx hb.2
      refine ⟨⟨yTp_set hH.1 h1 hi (by unfold yDf; rw [ydw_ok hd hm1 hm2]; exact ⟨X, rfl, hM⟩), fun e he => ?_⟩, fun k' i' hm => ?_⟩
      · rw [zplc_set h1 hi]
        obtain ⟨m1, m2⟩ := yrr_mem he
        rw [if_neg (fun q => m2 ⟨q.1, by rw [← q.2]; exact ⟨hm1, hm2⟩⟩)]
        exact hH.2 e m1
      · rw [zplc_set h1 hi, if_neg]
        rintro ⟨rfl, rfl⟩
        rw [ymr_ok hm1 hm2 hb.1] at hm
        cases hm
  · cases hw
theorem yspl_ok {x : Nat × Int} {z : Int} (hE : yE ρ env) (hx : yX ρ x z) (h1 : st.1 = pc) (hL : yLR ρ lo st.2.1) (hS : zF2 (yVG ρ) sk st.2.2.1) (hH : yHG T N1 N2 ρ h st.2.2.2) : ∀ (n : Nat) (c : Int), c ≤ z → z < c + n → yCv T N1 N2 ρ (yspl pc env lo sk h x n c) st := by
  intro n
  induction n with
  | zero => intro c h2 h3; omega
  | succ n ih =>
    intro c h2 h3
    simp only [yspl]
    by_cases hc : z = c
    · exact yCv_al (yCv_op (yEQ_ok hE hx (yX_0 hE c) hc) h1 hL hS hH)
    · exact yCv_ar (ih (c + 1) (by omega) (by omega))
/-- an index: known, or in its few cases -/
theorem yidx_ok {x : Nat × Int} {z : Int} {f : Int → Option yR} (hG : yG T N1 N2 ρ (pc, env, lo, sk, h) st) (hx : yX ρ x z) (hz : yidx pc env lo sk h x f = some (.inl sts)) : f z = some (.inl sts) ∨ yCv T N1 N2 ρ sts st := by
  obtain ⟨hpc, hE, hL, hS, hH⟩ := hG
  dsimp only at hpc hE hL hS hH
  unfold yidx at hz
  cases hc : yc1 env x with
  | some c =>
    rw [hc] at hz
    rw [yc1_ok hE hx hc]
    exact Or.inl hz
  | none =>
    rw [hc] at hz
    obtain ⟨iv, i1, i2⟩ := yE_get hE hx
    rw [ylk_eq, i1] at hz
    simp only [Option.bind_eq_some_iff, Option.some.injEq, Sum.inl.injEq] at hz
    obtain ⟨_, h1, rfl⟩ := hz
    have a1 := ylo_le i2
    have a2 := yhi_ge i2
    exact Or.inr (yspl_ok hE hx hpc hL hS hH _ _ (by omega) (by omega))
theorem yix_ok {X : Int32} {n : Nat} (h1 : 0 ≤ X.toInt) (h2 : X.toInt.toNat < n) : zix X n = true := by
  simp only [zix, Bool.and_eq_true, Bool.not_eq_true', decide_eq_false_iff_not, decide_eq_true_eq]
  refine ⟨fun q => ?_, h2⟩
  have := Int32.lt_iff_toInt_lt.mp q
  have h0 : (0 : Int32).toInt = 0 := rfl
  omega
theorem yrw_ok {hh : zHp} {lo0 : zLo} {t : List Value} {r : List yV} (hE : yE ρ env) (hL : yLR ρ lo lo0) (hV : zF2 (yVG ρ) r t) (hH : yHG T N1 N2 ρ h hh) {a : Nat} {c : (Nat ⊕ Nat) × Nat} (hk : yki T a = some c) {vs : List Value} (g1 : hh[a]? = some (c.1, vs)) (g2 : vs.length = c.2) {x : Nat × Int} {X : Int32} (hx : yX ρ x X.toInt) (hz : yrw T c.2 pc env lo h a r x = some (.inl sts)) : zix X vs.length = true ∧ ∃ v, vs[X.toNatClampNeg]? = some v ∧ yCv T N1 N2 ρ sts (pc + 1, lo0, v :: t, hh) := by
  unfold yrw at hz
  cases hc : yc1 env x with
  | some z =>
    rw [hc] at hz
    simp only [yN, Option.bind_eq_some_iff, Option.some.injEq, Sum.inl.injEq] at hz
    obtain ⟨_, h5, v, h6, rfl⟩ := hz
    have hb := ygb_some h5
    simp only [Bool.and_eq_true, Nat.blt_eq, yle_iff] at hb
    have he := yc1_ok hE hx hc
    subst he
    have hlt : X.toInt.toNat < vs.length := by rw [g2]; exact hb.2
    obtain ⟨t1, r1, r2, r3⟩ := yrd_ok hE hH hk g1 (List.getElem?_eq_getElem hlt) h6
    exact ⟨yix_ok hb.1 hlt, _, List.getElem?_eq_getElem hlt, yCv_t (t := t1) ⟨rfl, r1, yL_more t1 hL, zF2_c r2 (yS_more t1 hV), r3⟩⟩
  | none =>
    rw [hc] at hz
    obtain ⟨iv, i1, i2⟩ := yE_get hE hx
    rw [ylk_eq, i1] at hz
    dsimp only at hz
    simp only [Option.bind_eq_some_iff] at hz
    obtain ⟨_, h5, hz⟩ := hz
    have hb := ygb_some h5
    simp only [Bool.and_eq_true, Nat.blt_eq, yle_iff] at hb
    have a1 := ylo_le i2
    have a2 := yhi_ge i2
    split at hz
    · rename_i jv hd
      simp only [yN, Option.some.injEq, Sum.inl.injEq] at hz
      subst hz
      have hlt : X.toInt.toNat < vs.length := by rw [g2]; omega
      have hdf := ydw_ok hd (m := X.toInt.toNat) (by omega) (by omega)
      obtain ⟨us, u1, u2, u3⟩ := hH.1.2.2 _ _ hk
      have hus : us = vs := by rw [g1] at u1; exact (Prod.mk.inj (Option.some.inj u1)).2.symm
      subst hus
      have hv := u3 _ _ (List.getElem?_eq_getElem hlt)
      unfold yDf at hv
      rw [hdf] at hv
      obtain ⟨V, e1, e2⟩ := hv
      obtain ⟨p1, p2⟩ := yE_push hE e2
      refine ⟨yix_ok (by omega) hlt, _, List.getElem?_eq_getElem hlt, yCv_t (t := [V.toInt]) ⟨rfl, p1, yL_more _ hL, zF2_c ?_ (yS_more _ hV), yHG_more _ hH⟩⟩
      rw [e1]
      exact yVG_mi p2
    · cases hz
theorem ywx_ok {hh : zHp} {lo0 : zLo} {t : List Value} {r : List yV} (hE : yE ρ env) (hL : yLR ρ lo lo0) (hV : zF2 (yVG ρ) r t) (hH : yHG T N1 N2 ρ h hh) {a n : Nat} {kd : Nat ⊕ Nat} {vs : List Value} (g1 : hh[a]? = some (kd, vs)) (g2 : vs.length = n) {x v : Nat × Int} {X V : Int32} (hx : yX ρ x X.toInt) (hv : yX ρ v V.toInt) (hz : ywx T md n pc env lo h a r x v = some (.inl sts)) : zix X vs.length = true ∧ yCv T N1 N2 ρ sts (pc + 1, lo0, t, hh.set a (kd, vs.set X.toNatClampNeg (.int V))) ∧ yFr md hh (hh.set a (kd, vs.set X.toNatClampNeg (.int V))) := by
  unfold ywx at hz
  cases hc : yc1 env x with
  | some z =>
    rw [hc] at hz
    simp only [yN, Option.bind_eq_some_iff, Option.some.injEq, Sum.inl.injEq] at hz
    obtain ⟨_, h5, h', h6, rfl⟩ := hz
    have hb := ygb_some h5
    simp only [Bool.and_eq_true, Nat.blt_eq, yle_iff] at hb
    have he := yc1_ok hE hx hc
    subst he
    have hlt : X.toInt.toNat < vs.length := by rw [g2]; exact hb.2
    obtain ⟨r1, r2⟩ := ywr_ok hE hH g1 hlt hv h6
    exact ⟨yix_ok hb.1 hlt, yCv_one ⟨rfl, hE, hL, hV, r1⟩, r2⟩
  | none =>
    rw [hc] at hz
    obtain ⟨iv, i1, i2⟩ := yE_get hE hx
    rw [ylk_eq, i1] at hz
    dsimp only at hz
    simp only [yN, Option.bind_eq_some_iff, Option.some.injEq, Sum.inl.injEq] at hz
    obtain ⟨_, h5, h', h6, rfl⟩ := hz
    have hb := ygb_some h5
    simp only [Bool.and_eq_true, Nat.blt_eq, yle_iff] at hb
    have a1 := ylo_le i2
    have a2 := yhi_ge i2
    have hlt : X.toInt.toNat < vs.length := by rw [g2]; omega
    obtain ⟨r1, r2⟩ := yww_ok hE hH g1 hlt (by omega) (by omega) hv h6
    exact ⟨yix_ok (by omega) hlt, yCv_one ⟨rfl, hE, hL, hV, r1⟩, r2⟩
theorem yi_getfield {i : Nat} (hG : yG T N1 N2 ρ (pc, env, lo, sk, h) st) (hz : yst T md scA mi (.getfield i) len pc env lo sk h = some (.inl sts)) : yRs T md N1 N2 ρ sc mi (.getfield i) len sts st := by
  simp only [yst, yN, yzk_eq, Option.bind_eq_some_iff, Option.some.injEq, Sum.inl.injEq] at hz
  obtain ⟨_, h1, hz⟩ := hz
  have hb := ygb_some h1
  simp only [nbq] at hb
  subst hb
  cases hq : Nat.beq mi.2.2.2.2.1 12 with
  | true =>
    rw [hq] at hz
    simp only [cond_true, Option.bind_eq_some_iff] at hz
    obtain ⟨a, h2, _, h3, hz⟩ := hz
    obtain rfl := ypx_some h2
    have hb := ygb_some h3
    simp only [Bool.and_eq_true, nbq, Nat.blt_eq] at hb
    obtain ⟨pc0, lo0, sk0, hh⟩ := st
    obtain ⟨hpc, hE, hL, hS, hH⟩ := hG
    dsimp only at hpc hE hL hS hH
    subst hpc
    obtain ⟨t, hst, hU⟩ := ySw hS
    subst hst
    have hbz : (decide (a.1 % 2 = 1) && decide (a.1 < 15)) = true := by simp [hb.1, hb.2]
    cases hr : Nat.beq i 9 with
    | true =>
      rw [hr] at hz
      simp only [cond_true, Option.some.injEq, Sum.inl.injEq] at hz
      subst hz
      exact Or.inl ⟨_, by simp only [zst, zg_self, Option.bind_some, if_pos ((nbq _ _).mp hq), zpx, zgb_true hbz, if_pos ((nbq _ _).mp hr)]; rfl, yCv_one ⟨rfl, hE, hL, zF2_c (yVG_mw _) hU, hH⟩, by exact yFr_rf⟩
    | false =>
      rw [hr] at hz
      simp only [cond_false, Option.bind_eq_some_iff, Option.some.injEq, Sum.inl.injEq] at hz
      obtain ⟨_, h4, rfl⟩ := hz
      have hn : ¬ i = 9 := fun w => by rw [(nbq _ _).mpr w] at hr; cases hr
      have h5 := (nbq _ _).mp (ygb_some h4)
      subst h5
      exact Or.inl ⟨_, by simp only [zst, zg_self, Option.bind_some, if_pos ((nbq _ _).mp hq), zpx, zgb_true hbz, if_neg hn]; rfl, yCv_one ⟨rfl, hE, hL, zF2_c (yVG_mi (X := 0) (show yX ρ (0, 0) (0 : Int32).toInt from yX_0 hE 0)) hU, hH⟩, by exact yFr_rf⟩
  | false =>
    rw [hq] at hz
    have hn12 : ¬ mi.2.2.2.2.1 = 12 := fun w => by rw [(nbq _ _).mpr w] at hq; cases hq
    simp only [cond_false, yzk_eq, Option.bind_eq_some_iff, Option.some.injEq, Sum.inl.injEq] at hz
    obtain ⟨a, h2, f, h3, c, h4, _, h5, v, h6, rfl⟩ := hz
    obtain rfl := ypr_some h2
    have hb := ygb_some h5
    simp only [Bool.and_eq_true, Nat.blt_eq] at hb
    have hk := yiso_eq hb.1
    obtain ⟨pc0, lo0, sk0, hh⟩ := st
    obtain ⟨hpc, hE, hL, hS, hH⟩ := hG
    dsimp only at hpc hE hL hS hH
    subst hpc
    obtain ⟨t, hst, hU⟩ := ySw hS
    subst hst
    obtain ⟨vs, g1, g2, g3⟩ := hH.1.2.2 _ _ h4
    have hlt : f.2.1 < vs.length := by rw [g2]; exact hb.2
    obtain ⟨t0, r1, r2, r3⟩ := yrd_ok hE hH h4 g1 (List.getElem?_eq_getElem hlt) h6
    rw [hk] at g1
    exact Or.inl ⟨_, by simp only [zst, zg_self, Option.bind_some, if_neg hn12, zpr, h3, g1, zgb_true (decide_eq_true (rfl : (Sum.inr f.1 : Nat ⊕ Nat) = Sum.inr f.1)), List.getElem?_eq_getElem hlt]; rfl, yCv_t (t := t0) ⟨rfl, r1, yL_more t0 hL, zF2_c r2 (yS_more t0 hU), r3⟩, by exact yFr_rf⟩
theorem yi_putfield {i : Nat} (hG : yG T N1 N2 ρ (pc, env, lo, sk, h) st) (hz : yst T md scA mi (.putfield i) len pc env lo sk h = some (.inl sts)) : yRs T md N1 N2 ρ sc mi (.putfield i) len sts st := by
  simp only [yst, yN, yzk_eq, Option.bind_eq_some_iff, Option.some.injEq, Sum.inl.injEq] at hz
  obtain ⟨_, h1, v, h1b, a, h2, f, h3, c, h4, ty, ⟨r0, hr0, hr1⟩, _, h5, h9, h9w, rfl⟩ := hz
  have hb := ygb_some h1
  simp only [nbq] at hb
  subst hb
  obtain rfl := ypi_some h1b
  have h2b := ypr_some h2
  have hb := ygb_some h5
  simp only [Bool.and_eq_true, Nat.blt_eq, Bool.not_eq_true'] at hb
  obtain ⟨⟨⟨b1, b2⟩, b3⟩, b4⟩ := hb
  have hk := yiso_eq b1
  rw [ylk_eq] at hr0 hr1
  obtain ⟨pc0, lo0, sk0, hh⟩ := st
  obtain ⟨hpc, hE, hL, hS, hH⟩ := hG
  dsimp only at hpc hE hL hS hH
  subst hpc
  obtain ⟨X, t1, hst, hX, hU⟩ := ySi hS
  subst hst
  rw [h2b] at hU
  obtain ⟨t, hst, hV⟩ := ySw hU
  subst hst
  obtain ⟨vs, g1, g2, g3⟩ := hH.1.2.2 _ _ h4
  have hlt : f.2.1 < vs.length := by rw [g2]; exact b2
  rw [hk] at g1
  have hc1 : (Value.int X).category = 1 := rfl
  have hfit : zfit ty.1 (.int X) = true := by
    unfold yfit at b3
    split at b3
    · rename_i e1; rw [e1]; rfl
    · rename_i e1
      have hr := yin_ok hE hX b3
      rw [e1]
      unfold zfit
      simp only [Bool.or_eq_true, decide_eq_true_eq]
      rcases (show X.toInt = 0 ∨ X.toInt = 1 by omega) with q | q
      · exact Or.inl (Int32.toInt_inj.mp q)
      · exact Or.inr (Int32.toInt_inj.mp q)
    · cases b3
  obtain ⟨w1, w2⟩ := ywr_ok hE hH g1 hlt hX h9w
  refine Or.inl ⟨(pc0 + 3, lo0, t, hh.set a.1 (Sum.inr f.1, vs.set f.2.1 (.int X))), ?_, yCv_one ⟨rfl, hE, hL, hV, w1⟩, w2⟩
  have hz2 : (zfit ty.1 (.int X) && (!ty.2 || (decide (mi.1.name = "<init>") && decide (mi.2.2.2.2.1 = f.1))) && decide (f.2.1 < vs.length)) = true := by rw [hfit, b4]; simp [hlt]
  simp only [zst, zg_self, zp1, if_pos hc1, zpr, h3, g1, hr0, hr1, Option.bind_some, decide_true, zgb_t, zgb_true hz2]
theorem yi_iaload (hsc : yScr ρ scA sc)  (hG : yG T N1 N2 ρ (pc, env, lo, sk, h) st) (hz : yst T md scA mi (.iaload) len pc env lo sk h = some (.inl sts)) : yRs T md N1 N2 ρ sc mi (.iaload) len sts st := by
  simp only [yst, yN, yzk_eq, Option.bind_eq_some_iff, Option.some.injEq, Sum.inl.injEq] at hz
  obtain ⟨_, h1, i, h2, hz⟩ := hz
  have hb := ygb_some h1
  simp only [nbq] at hb
  subst hb
  obtain rfl := ypi_some h2
  split at hz
  · rename_i a r hi
    simp only [Option.bind_eq_some_iff] at hz
    obtain ⟨c, h4, _, h5, hz⟩ := hz
    have hk := yisi_eq (ygb_some h5)
    obtain ⟨pc0, lo0, sk0, hh⟩ := st
    obtain ⟨hpc, hE, hL, hS, hH⟩ := hG
    dsimp only at hpc hE hL hS hH
    subst hpc
    obtain ⟨X, t0, hst, hX, hU⟩ := ySi hS
    subst hst
    rw [hi] at hU
    obtain ⟨t, hst, hV⟩ := ySw hU
    subst hst
    obtain ⟨vs, g1, g2, g3⟩ := hH.1.2.2 _ _ h4
    obtain ⟨k1, v, k2, k3⟩ := yrw_ok hE hL hV hH h4 g1 g2 hX hz
    rw [hk] at g1
    exact Or.inl ⟨_, by simp only [zst, zg_self, zpi, g1, Option.bind_some, decide_true, Bool.true_and, zgb_true k1, k2], k3, by exact yFr_rf⟩
  · rename_i r hi
    simp only [Option.bind_eq_some_iff, Option.some.injEq, Sum.inl.injEq] at hz
    obtain ⟨xs, hsa, _, h5, v, h6, rfl⟩ := hz
    have hb := ygb_some h5
    simp only [Bool.and_eq_true, nbq, yle_iff] at hb
    obtain ⟨pc0, lo0, sk0, hh⟩ := st
    obtain ⟨hpc, hE, hL, hS, hH⟩ := hG
    dsimp only at hpc hE hL hS hH
    subst hpc
    obtain ⟨X, t0, hst, hX, hU⟩ := ySi hS
    subst hst
    rw [hi] at hU
    obtain ⟨t, hst, hV⟩ := ySw hU
    subst hst
    obtain ⟨ys, s1, s2, n0, s3, s4, s5⟩ := hsc xs hsa
    rw [ylk_eq] at h6
    obtain ⟨y, s6, s7⟩ := s5 _ _ h6
    obtain ⟨z0, z1, z2⟩ := hX
    obtain ⟨z3, z4, z5⟩ := s3
    dsimp only at z4 z5
    rw [hb.1, z4] at z1
    cases z1
    have hXi : X.toInt.toNat = n0 + i.1.2.toNat := by omega
    have hlt : X.toInt.toNat < ys.length := by rw [hXi]; exact (List.getElem?_eq_some_iff.mp s6).1
    have hg : ys[X.toNatClampNeg]? = some y := by show ys[X.toInt.toNat]? = some y; rw [hXi]; exact s6
    exact Or.inl ⟨_, by simp only [zst, zg_self, zpi, s1, Option.bind_some, zgb_true (yix_ok (show 0 ≤ X.toInt by omega) hlt), hg]; rfl, yCv_one ⟨rfl, hE, hL, zF2_c s7 hV, hH⟩, by exact yFr_rf⟩
  · cases hz
theorem yi_baload  (hG : yG T N1 N2 ρ (pc, env, lo, sk, h) st) (hz : yst T md scA mi (.baload) len pc env lo sk h = some (.inl sts)) : yRs T md N1 N2 ρ sc mi (.baload) len sts st := by
  simp only [yst, yN, yzk_eq, Option.bind_eq_some_iff, Option.some.injEq, Sum.inl.injEq] at hz
  obtain ⟨_, h1, i, h2, hz⟩ := hz
  have hb := ygb_some h1
  simp only [nbq] at hb
  subst hb
  obtain rfl := ypi_some h2
  split at hz
  · rename_i a r hi
    simp only [Option.bind_eq_some_iff] at hz
    obtain ⟨c, h4, _, h5, hz⟩ := hz
    have hk := ygb_some h5
    rw [Bool.or_eq_true] at hk
    obtain ⟨pc0, lo0, sk0, hh⟩ := st
    obtain ⟨hpc, hE, hL, hS, hH⟩ := hG
    dsimp only at hpc hE hL hS hH
    subst hpc
    obtain ⟨X, t0, hst, hX, hU⟩ := ySi hS
    subst hst
    rw [hi] at hU
    obtain ⟨t, hst, hV⟩ := ySw hU
    subst hst
    obtain ⟨vs, g1, g2, g3⟩ := hH.1.2.2 _ _ h4
    obtain ⟨k1, v, k2, k3⟩ := yrw_ok hE hL hV hH h4 g1 g2 hX hz
    have hix : ((decide (c.1 = Sum.inl 1) || decide (c.1 = Sum.inl 2)) && zix X vs.length) = true := by
      rw [k1, Bool.and_true, Bool.or_eq_true, decide_eq_true_eq, decide_eq_true_eq]
      exact hk.imp yisi_eq yisi_eq
    exact Or.inl ⟨_, by simp only [zst, zg_self, zpi, g1, Option.bind_some, zgb_true hix, k2], k3, by exact yFr_rf⟩
  · rename_i n r hi
    simp only [Option.bind_eq_some_iff, Option.some.injEq, Sum.inl.injEq] at hz
    obtain ⟨z, hc, _, h5, rfl⟩ := hz
    have hb := ygb_some h5
    simp only [Bool.and_eq_true, nbq, Nat.blt_eq, yle_iff] at hb
    obtain ⟨pc0, lo0, sk0, hh⟩ := st
    obtain ⟨hpc, hE, hL, hS, hH⟩ := hG
    dsimp only at hpc hE hL hS hH
    subst hpc
    obtain ⟨X, t0, hst, hX, hU⟩ := ySi hS
    subst hst
    rw [hi] at hU
    obtain ⟨t, hst, hV⟩ := ySw hU
    subst hst
    have he := yc1_ok hE hX hc
    subst he
    have hix : (decide (n % 2 = 1) && decide (n < 14) && zix X (zlen.getD (n / 2) 0)) = true := by rw [yix_ok hb.1.2 hb.2]; simp [hb.1.1.1, hb.1.1.2]
    exact Or.inl ⟨_, by simp only [zst, zg_self, zpi, Option.bind_some, zgb_true hix]; rfl, yCv_one ⟨rfl, hE, hL, zF2_c (yVG_mi (yX_0 hE _)) hV, hH⟩, by exact yFr_rf⟩
  · cases hz
theorem yi_aaload  (hG : yG T N1 N2 ρ (pc, env, lo, sk, h) st) (hz : yst T md scA mi (.aaload) len pc env lo sk h = some (.inl sts)) : yRs T md N1 N2 ρ sc mi (.aaload) len sts st := by
  simp only [yst, yN, yzk_eq, Option.bind_eq_some_iff, Option.some.injEq, Sum.inl.injEq] at hz
  obtain ⟨_, h1, i, h2, hz⟩ := hz
  have hb := ygb_some h1
  simp only [nbq] at hb
  subst hb
  obtain rfl := ypi_some h2
  obtain ⟨X, t0, hst0, hX, hU⟩ := ySi hG.2.2.2.1
  rcases yidx_ok hG hX hz with hz | hz
  · simp only [Option.bind_eq_some_iff, Option.some.injEq, Sum.inl.injEq] at hz
    obtain ⟨a, h3, c, h4, _, h5, v, h6, rfl⟩ := hz
    have h3b := ypr_some h3
    have hb := ygb_some h5
    simp only [Bool.and_eq_true, Nat.blt_eq, yle_iff] at hb
    obtain ⟨pc0, lo0, sk0, hh⟩ := st
    obtain ⟨hpc, hE, hL, hS, hH⟩ := hG
    dsimp only at hpc hE hL hS hH
    subst hpc
    dsimp only at hst0 hU
    subst hst0
    rw [h3b] at hU
    obtain ⟨t, hst, hV⟩ := ySw hU
    subst hst
    obtain ⟨vs, g1, g2, g3⟩ := hH.1.2.2 _ _ h4
    have hlt : X.toInt.toNat < vs.length := by rw [g2]; exact hb.2
    obtain ⟨t1, r1, r2, r3⟩ := yrd_ok hE hH h4 g1 (List.getElem?_eq_getElem hlt) h6
    have hix : (zisq c.1 && zix X vs.length) = true := by
      rw [yix_ok hb.1.2 hlt, Bool.and_true]
      exact hb.1.1
    exact Or.inl ⟨_, by simp only [zst, zg_self, zpi, zpr, g1, Option.bind_some]; rw [zgb_true hix, Option.bind_some, ycl hb.1.2, List.getElem?_eq_getElem hlt, Option.bind_some], yCv_t (t := t1) ⟨rfl, r1, yL_more t1 hL, zF2_c r2 (yS_more t1 hV), r3⟩, by exact yFr_rf⟩
  · exact Or.inr ⟨rfl, hz⟩
theorem yi_iastore  (hG : yG T N1 N2 ρ (pc, env, lo, sk, h) st) (hz : yst T md scA mi (.iastore) len pc env lo sk h = some (.inl sts)) : yRs T md N1 N2 ρ sc mi (.iastore) len sts st := by
  simp only [yst, yN, yzk_eq, Option.bind_eq_some_iff, Option.some.injEq, Sum.inl.injEq] at hz
  obtain ⟨_, h1, x, h2, i, h2b, a, h3, c, h4, _, h5, hz⟩ := hz
  have hb := ygb_some h1
  simp only [nbq] at hb
  subst hb
  obtain rfl := ypi_some h2
  have h2c := ypi_some h2b
  have h3b := ypr_some h3
  obtain ⟨pc0, lo0, sk0, hh⟩ := st
  obtain ⟨hpc, hE, hL, hS, hH⟩ := hG
  dsimp only at hpc hE hL hS hH
  subst hpc
  obtain ⟨V, t9, hst, hVx, hU9⟩ := ySi hS
  subst hst
  rw [h2c] at hU9
  obtain ⟨X, t0, hst, hX, hU⟩ := ySi hU9
  subst hst
  rw [h3b] at hU
  obtain ⟨t, hst, hV⟩ := ySw hU
  subst hst
  obtain ⟨vs, g1, g2, g3⟩ := hH.1.2.2 _ _ h4
  obtain ⟨k1, k2, k3⟩ := ywx_ok hE hL hV hH g1 g2 hX hVx hz
  have hk := yisi_eq (ygb_some h5)
  rw [hk] at g1 k2 k3
  exact Or.inl ⟨_, by simp only [zst, zg_self, zpi, zpr, g1, Option.bind_some, decide_true, Bool.true_and, zgb_true k1], k2, k3⟩
theorem yi_bastore  (hG : yG T N1 N2 ρ (pc, env, lo, sk, h) st) (hz : yst T md scA mi (.bastore) len pc env lo sk h = some (.inl sts)) : yRs T md N1 N2 ρ sc mi (.bastore) len sts st := by
  simp only [yst, yN, yzk_eq, Option.bind_eq_some_iff, Option.some.injEq, Sum.inl.injEq] at hz
  obtain ⟨_, h1, x, h2, i, h2b, a, h3, c, h4, _, h5, hz⟩ := hz
  have hb := ygb_some h1
  simp only [nbq] at hb
  subst hb
  obtain rfl := ypi_some h2
  have h2c := ypi_some h2b
  have h3b := ypr_some h3
  obtain ⟨pc0, lo0, sk0, hh⟩ := st
  obtain ⟨hpc, hE, hL, hS, hH⟩ := hG
  dsimp only at hpc hE hL hS hH
  subst hpc
  obtain ⟨V, t9, hst, hVx, hU9⟩ := ySi hS
  subst hst
  rw [h2c] at hU9
  obtain ⟨X, t0, hst, hX, hU⟩ := ySi hU9
  subst hst
  rw [h3b] at hU
  obtain ⟨t, hst, hV⟩ := ySw hU
  subst hst
  obtain ⟨vs, g1, g2, g3⟩ := hH.1.2.2 _ _ h4
  obtain ⟨k1, k2, k3⟩ := ywx_ok hE hL hV hH g1 g2 hX hVx hz
  have hb := ygb_some h5
  simp only [Bool.and_eq_true, Bool.or_eq_true] at hb
  have hnar : vp_nar (if c.1 = Sum.inl 1 then .byte else .boolean) V = V ∧ (c.1 = Sum.inl 1 ∨ c.1 = Sum.inl 2) := by
    rcases hb with q | q
    · have hk := yisi_eq q.1
      have hr := yin_ok hE hVx q.2
      refine ⟨?_, Or.inl hk⟩
      rw [if_pos hk, vp_nar_byte]
      apply Int32.toInt_inj.mp
      rw [lg_i2b_toInt, Int.bmod_def]; omega
    · have hk := yisi_eq q.1
      have hr := yin_ok hE hVx q.2
      refine ⟨?_, Or.inr hk⟩
      rw [hk, if_neg (by decide)]
      rcases (show V.toInt = 0 ∨ V.toInt = 1 by omega) with w | w
      · rw [Int32.toInt_inj.mp (show V.toInt = (0 : Int32).toInt from w)]; rfl
      · rw [Int32.toInt_inj.mp (show V.toInt = (1 : Int32).toInt from w)]; rfl
  have hix : ((decide (c.1 = Sum.inl 1) || decide (c.1 = Sum.inl 2)) && zix X vs.length) = true := by
    rw [k1, Bool.and_true, Bool.or_eq_true, decide_eq_true_eq, decide_eq_true_eq]
    exact hnar.2
  exact Or.inl ⟨_, by simp only [zst, zg_self, zpi, zpr, g1, Option.bind_some, zgb_true hix, hnar.1], k2, k3⟩
theorem yi_arraylength (hsc : yScr ρ scA sc)  (hG : yG T N1 N2 ρ (pc, env, lo, sk, h) st) (hz : yst T md scA mi (.arraylength) len pc env lo sk h = some (.inl sts)) : yRs T md N1 N2 ρ sc mi (.arraylength) len sts st := by
  simp only [yst, yN, yzk_eq, Option.bind_eq_some_iff, Option.some.injEq, Sum.inl.injEq] at hz
  obtain ⟨_, h1, hz⟩ := hz
  have hb := ygb_some h1
  simp only [nbq] at hb
  subst hb
  split at hz
  · rename_i a r
    simp only [Option.bind_eq_some_iff, Option.some.injEq, Sum.inl.injEq] at hz
    obtain ⟨c, h4, _, h5, rfl⟩ := hz
    have hb := ygb_some h5
    simp only [Bool.and_eq_true, Nat.blt_eq] at hb
    obtain ⟨pc0, lo0, sk0, hh⟩ := st
    obtain ⟨hpc, hE, hL, hS, hH⟩ := hG
    dsimp only at hpc hE hL hS hH
    subst hpc
    obtain ⟨t, hst, hV⟩ := ySw hS
    subst hst
    obtain ⟨vs, g1, g2, g3⟩ := hH.1.2.2 _ _ h4
    have hn : (Int32.ofNat vs.length).toInt = (c.2 : Int) := by rw [g2]; exact nI_toInt (by omega)
    exact Or.inl ⟨_, by simp only [zst, zg_self, g1, zgb_true hb.1, Option.bind_some]; rfl, yCv_one ⟨rfl, hE, hL, zF2_c (yVG_mi (by rw [hn]; exact yX_0 hE _)) hV, hH⟩, by exact yFr_rf⟩
  · rename_i r
    simp only [Option.bind_eq_some_iff, Option.some.injEq, Sum.inl.injEq] at hz
    obtain ⟨xs, hsa, rfl⟩ := hz
    obtain ⟨pc0, lo0, sk0, hh⟩ := st
    obtain ⟨hpc, hE, hL, hS, hH⟩ := hG
    dsimp only at hpc hE hL hS hH
    subst hpc
    obtain ⟨t, hst, hV⟩ := ySw hS
    subst hst
    obtain ⟨ys, s1, s2, n0, s3, s4, s5⟩ := hsc xs hsa
    have hn : (Int32.ofNat ys.length).toInt = (ys.length : Int) := nI_toInt s2
    exact Or.inl ⟨_, by simp only [zst, zg_self, s1, Option.bind_some]; rfl, yCv_one ⟨rfl, hE, hL, zF2_c (yVG_mi (by rw [hn]; exact s4)) hV, hH⟩, by exact yFr_rf⟩
  · rename_i n r
    simp only [Option.bind_eq_some_iff, Option.some.injEq, Sum.inl.injEq] at hz
    obtain ⟨_, h5, rfl⟩ := hz
    have hb := ygb_some h5
    simp only [Bool.and_eq_true, nbq, Nat.blt_eq] at hb
    obtain ⟨pc0, lo0, sk0, hh⟩ := st
    obtain ⟨hpc, hE, hL, hS, hH⟩ := hG
    dsimp only at hpc hE hL hS hH
    subst hpc
    obtain ⟨t, hst, hV⟩ := ySw hS
    subst hst
    have hbz : (decide (n % 2 = 1) && decide (n < 14)) = true := by simp [hb.1.1, hb.1.2]
    have hn : (Int32.ofNat (zlen.getD (n / 2) 0)).toInt = ((zlen.getD (n / 2) 0 : Nat) : Int) := nI_toInt (by omega)
    exact Or.inl ⟨_, by simp only [zst, zg_self, zgb_true hbz, Option.bind_some]; rfl, yCv_one ⟨rfl, hE, hL, zF2_c (yVG_mi (by rw [hn]; exact yX_0 hE _)) hV, hH⟩, by exact yFr_rf⟩
  · cases hz
theorem ycats {r : List yV} {l : List Value} (hh : zF2 (yVG ρ) r l) : l.map (fun v => v.category) = r.map yct := by
  induction r generalizing l with
  | nil => rw [zF2_n hh]; rfl
  | cons a r ih =>
    obtain ⟨w, t, hl, h1, h2⟩ := zF2_u hh
    rw [hl, List.map_cons, List.map_cons, yVG_cat h1, ih h2]
theorem op_max {X Y : Int32} {a b c d : Int} (h1 : a ≤ X.toInt) (h2 : X.toInt ≤ b) (h3 : c ≤ Y.toInt) (h4 : Y.toInt ≤ d) : yM [(ymx a c, ymx b d)] (if X < Y then Y else X).toInt := by
  have m1 := ymx_g b d
  by_cases hq : X < Y
  · rw [if_pos hq]
    have := Int32.lt_iff_toInt_lt.mp hq
    exact yM_1 (ymx_l _ _ _ (by omega) h3) (by omega)
  · rw [if_neg hq]
    have : ¬ X.toInt < Y.toInt := fun w => hq (Int32.lt_iff_toInt_lt.mpr w)
    exact yM_1 (ymx_l _ _ _ h1 (by omega)) (by omega)
theorem op_min {X Y : Int32} {a b c d : Int} (h1 : a ≤ X.toInt) (h2 : X.toInt ≤ b) (h3 : c ≤ Y.toInt) (h4 : Y.toInt ≤ d) : yM [(ymn a c, ymn b d)] (if Y < X then Y else X).toInt := by
  have m1 := ymn_l a c
  by_cases hq : Y < X
  · rw [if_pos hq]
    have := Int32.lt_iff_toInt_lt.mp hq
    exact yM_1 (by omega) (ymn_g _ _ _ (by omega) h4)
  · rw [if_neg hq]
    have : ¬ Y.toInt < X.toInt := fun w => hq (Int32.lt_iff_toInt_lt.mpr w)
    exact yM_1 (by omega) (ymn_g _ _ _ h2 (by omega))
theorem yi_invokestatic {i : Nat} (hG : yG T N1 N2 ρ (pc, env, lo, sk, h) st) (hz : yst T md scA mi (.invokestatic i) len pc env lo sk h = some (.inl sts)) : yRs T md N1 N2 ρ sc mi (.invokestatic i) len sts st := by
  simp only [yst, yzk_eq, Option.bind_eq_some_iff] at hz
  obtain ⟨_, h1, q, h2, hz⟩ := hz
  have hb := ygb_some h1
  simp only [nbq] at hb
  subst hb
  cases hq5 : Nat.beq q.1 5 with
  | true =>
    rw [hq5] at hz
    simp only [cond_true, Option.bind_eq_some_iff] at hz
    obtain ⟨y, h3, x, h4, _, h5, hz⟩ := hz
    obtain rfl := ypi_some h3
    have h4b := ypi_some h4
    have hb5 := ygb_some h5
    rw [Nat.ble_eq] at hb5
    obtain ⟨pc0, lo0, sk0, hh⟩ := st
    obtain ⟨hpc, hE, hL, hS, hH⟩ := hG
    dsimp only at hpc hE hL hS hH
    subst hpc
    obtain ⟨Y, t9, hst, hY, hU9⟩ := ySi hS
    subst hst
    rw [h4b] at hU9
    obtain ⟨X, t, hst, hX, hU⟩ := ySi hU9
    subst hst
    obtain ⟨ix, i1, i2⟩ := yE_get hE hX
    obtain ⟨iy, j1, j2⟩ := yE_get hE hY
    rw [ylk_eq, ylk_eq, i1, j1] at hz
    simp only [yN, Option.some.injEq, Sum.inl.injEq] at hz
    subst hz
    have a1 := ylo_le i2
    have a2 := yhi_ge i2
    have a3 := ylo_le j2
    have a4 := yhi_ge j2
    obtain ⟨p1, p2⟩ := yE_push hE (op_max (X := X) (Y := Y) (a := ylo ix + x.1.2) (b := yhi ix + x.1.2) (c := ylo iy + y.1.2) (d := yhi iy + y.1.2) (by omega) (by omega) (by omega) (by omega))
    have hcs : decide ((t.map fun v => v.category).sum ≤ 8) = true := decide_eq_true (by rw [ycats hU]; exact hb5)
    exact Or.inl ⟨_, by simp only [zst, zg_self, h2, Option.bind_some, if_pos ((nbq _ _).mp hq5), zpi, zgb_true hcs]; rfl, yCv_t (t := [_]) ⟨rfl, p1, yL_more _ hL, zF2_c (yVG_mi p2) (yS_more _ hU), yHG_more _ hH⟩, by exact yFr_rf⟩
  | false =>
    rw [hq5] at hz
    have hn5 : ¬ q.1 = 5 := fun w => by rw [(nbq _ _).mpr w] at hq5; cases hq5
    simp only [cond_false] at hz
    cases hq6 : Nat.beq q.1 6 with
    | true =>
      rw [hq6] at hz
      simp only [cond_true, Option.bind_eq_some_iff] at hz
      obtain ⟨y, h3, x, h4, _, h5, hz⟩ := hz
      obtain rfl := ypi_some h3
      have h4b := ypi_some h4
      have hb5 := ygb_some h5
      rw [Nat.ble_eq] at hb5
      obtain ⟨pc0, lo0, sk0, hh⟩ := st
      obtain ⟨hpc, hE, hL, hS, hH⟩ := hG
      dsimp only at hpc hE hL hS hH
      subst hpc
      obtain ⟨Y, t9, hst, hY, hU9⟩ := ySi hS
      subst hst
      rw [h4b] at hU9
      obtain ⟨X, t, hst, hX, hU⟩ := ySi hU9
      subst hst
      obtain ⟨ix, i1, i2⟩ := yE_get hE hX
      obtain ⟨iy, j1, j2⟩ := yE_get hE hY
      rw [ylk_eq, ylk_eq, i1, j1] at hz
      simp only [yN, Option.some.injEq, Sum.inl.injEq] at hz
      subst hz
      have a1 := ylo_le i2
      have a2 := yhi_ge i2
      have a3 := ylo_le j2
      have a4 := yhi_ge j2
      obtain ⟨p1, p2⟩ := yE_push hE (op_min (X := X) (Y := Y) (a := ylo ix + x.1.2) (b := yhi ix + x.1.2) (c := ylo iy + y.1.2) (d := yhi iy + y.1.2) (by omega) (by omega) (by omega) (by omega))
      have hcs : decide ((t.map fun v => v.category).sum ≤ 8) = true := decide_eq_true (by rw [ycats hU]; exact hb5)
      exact Or.inl ⟨_, by simp only [zst, zg_self, h2, Option.bind_some, if_neg hn5, if_pos ((nbq _ _).mp hq6), zpi, zgb_true hcs]; rfl, yCv_t (t := [_]) ⟨rfl, p1, yL_more _ hL, zF2_c (yVG_mi p2) (yS_more _ hU), yHG_more _ hH⟩, by exact yFr_rf⟩
    | false =>
      rw [hq6] at hz
      simp only [cond_false, Option.bind_eq_some_iff, Option.some.injEq, reduceCtorEq, and_false, exists_const] at hz
end YHP
