/-! the fresh objects are as the abstract run takes them; the law's run -/
def ydv (T : yT) (k i : Nat) (v : Value) : Bool := match ydf T k i, v with
  | some (.inl iv), .int X => (match ysg iv with
    | some c => yeq c X.toInt
    | none => false)
  | some (.inr w), v => decide (v = w)
  | none, _ => true
  | _, _ => false
theorem ydv_ok {T : yT} {k i : Nat} {v : Value} (h : ydv T k i v = true) : yDf T k i v := by
  unfold ydv at h
  unfold yDf
  split at h
  · rename_i iv X hd
    rw [hd]
    split at h
    · rename_i c hs
      exact ⟨X, rfl, (ysg_M hs).mpr ((yeq_iff _ _).mp h).symm⟩
    · cases h
  · rename_i w v0 hd
    rw [hd]
    exact of_decide_eq_true h
  · rename_i v0 hd
    rw [hd]
    trivial
  · cases h
def ychk (k : Nat) : Bool := match yki yT0 k with
  | none => true
  | some x => (match zh0[k]? with
    | some c => decide (c.1 = x.1) && decide (c.2.length = x.2) && zall (fun i v => ydv yT0 k i v) 0 c.2
    | none => false)
theorem ychk_ok : (List.range 90).all ychk = true := by decide +kernel
theorem yT0_len : yT0.2.length = 9 := by decide +kernel
theorem zh0_len : zh0.length = 86 := by decide +kernel
theorem zh0_sz : zsz zh0 = 1471 := by decide +kernel
theorem yki_lt {k : Nat} {x : (Nat ⊕ Nat) × Nat} (h : yki yT0 k = some x) : k < 90 := by
  unfold yki yl3 at h
  rw [ylk_eq] at h
  cases hk : yT0.2[k / 10]? with
  | none => rw [hk] at h; cases h
  | some r =>
    have := (List.getElem?_eq_some_iff.mp hk).1
    rw [yT0_len] at this
    omega
theorem yfresh (ρ : List Int) : yHG yT0 86 1471 ρ [] zh0 := by
  refine ⟨zh0_len, zh0_sz, fun k x hk => ?_⟩
  have h1 := List.all_eq_true.mp ychk_ok k (List.mem_range.mpr (yki_lt hk))
  unfold ychk at h1
  rw [hk] at h1
  dsimp only at h1
  cases hc : zh0[k]? with
  | none => rw [hc] at h1; cases h1
  | some c =>
    rw [hc] at h1
    simp only [Bool.and_eq_true, decide_eq_true_eq] at h1
    obtain ⟨⟨a1, a2⟩, a3⟩ := h1
    obtain ⟨c1, c2⟩ := c
    dsimp only at a1 a2 a3
    refine ⟨c2, by rw [a1], a2, fun i v hi => ?_⟩
    have h5 := zall_get a3 i v hi
    rw [Nat.zero_add] at h5
    exact ydv_ok h5
theorem yok_fin {T : yT} {N1 N2 n d : Nat} {scA : Option (List yV)} {mi : zMi} {a : yS} (h : yok1 (yrun T n scA d mi [a] []) = true) {ρ : List Int} {st : zSt} {sc : Option (List Int32)} (hsc : yScr ρ scA sc) (hG : yG T N1 N2 ρ a st) : ∃ h', zEv sc d mi st (some (.int 1)) h' ∧ h'.length = N1 ∧ zsz h' = N2 := by
  unfold yok1 at h
  cases hr : yrun T n scA d mi [a] [] with
  | none => rw [hr] at h; cases h
  | some os =>
    rw [hr] at h
    obtain ⟨r, h', x1, o, x2, t, y1, y2, y3⟩ := (y_run T N1 N2 n scA d mi [a] [] os hr).2 a List.mem_cons_self ρ st sc hsc hG
    have ho := of_decide_eq_true (List.all_eq_true.mp h o x2)
    rw [ho] at y1
    cases r with
    | none => exact absurd y1 (fun q => q)
    | some v =>
      obtain ⟨X, hv, hX⟩ := yVG_i (show yVG (ρ ++ t) (.inl (0, 1)) v from y1)
      obtain ⟨z0, g1, g2⟩ := hX
      have e0 := y2.2.1
      rw [show ((0, 1) : Nat × Int).1 = 0 from rfl, e0] at g1
      cases g1
      have hx1 : X = 1 := Int32.toInt_inj.mp (by rw [g2]; rfl)
      rw [hv, hx1] at x1
      exact ⟨h', x1, y3.1, y3.2.1⟩
theorem ygo_ok {T : yT} {N1 N2 d : Nat} {scA : Option (List yV)} {sc : Option (List Int32)} {mi : zMi} (n : Nat) : ∀ (a : yS) (sts : List yS) (ρ : List Int) (st : zSt), ygo T n scA mi a = some sts → yScr ρ scA sc → yG T N1 N2 ρ a st → ∃ st' b, b ∈ sts ∧ (∃ t, yG T N1 N2 (ρ ++ t) b st') ∧ ∀ r h', zEv sc d mi st' r h' → zEv sc d mi st r h' := by
  induction n with
  | zero =>
    intro a sts ρ st hg _ hG
    simp only [ygo, Option.some.injEq] at hg
    subst hg
    exact ⟨st, a, List.mem_cons_self, ⟨[], by rw [List.append_nil]; exact hG⟩, fun _ _ q => q⟩
  | succ n ih =>
    intro a sts ρ st hg hsc hG
    simp only [ygo, Option.bind_eq_some_iff] at hg
    obtain ⟨⟨ins, len⟩, hf, hg⟩ := hg
    rw [yfin_eq] at hf
    obtain ⟨pc, env, lo, sk, h⟩ := a
    have hpc := hG.1
    dsimp only at hf hg hpc
    have hstep : zstep sc mi st = zst sc mi ins len st.1 st.2.1 st.2.2.1 st.2.2.2 := by
      unfold zstep
      rw [hpc, hf, Option.bind_some]
    have key : ∀ sts1, yst T scA mi ins len pc env lo sk h = some (.inl sts1) → ∃ st1 b, b ∈ sts1 ∧ (∃ t, yG T N1 N2 (ρ ++ t) b st1) ∧ ∀ r h', zEv sc d mi st1 r h' → zEv sc d mi st r h' := by
      intro sts1 hy
      rcases y_step1 hsc hG hy with ⟨st1, e1, b, m1, t, g1⟩ | ⟨b, m1, t, g1⟩
      · exact ⟨st1, b, m1, ⟨t, g1⟩, fun r h' q => zEv_step (by rw [hstep]; exact e1) q⟩
      · exact ⟨st, b, m1, ⟨t, g1⟩, fun _ _ q => q⟩
    split at hg
    · rename_i b hy
      obtain ⟨st1, b1, m1, ⟨t, g1⟩, k1⟩ := key _ hy
      have hb : b1 = b := List.mem_singleton.mp m1
      rw [hb] at g1
      obtain ⟨st2, b2, m2, ⟨t2, g2⟩, k2⟩ := ih b sts (ρ ++ t) st1 hg (yScr_more t hsc) g1
      exact ⟨st2, b2, m2, ⟨t ++ t2, by rw [← List.append_assoc]; exact g2⟩, fun r h' q => k1 r h' (k2 r h' q)⟩
    · rename_i sts1 _ hy
      cases hg
      exact key _ hy
    · cases hg
def zL0 : zLo := [(3, .int 0), (2, .ref 71), (1, .ref 0), (0, .retAddr 0)]
theorem yL0_ok {ρ : List Int} {env : List yI} (hE : yE ρ env) : zF2 (yLq ρ) yL0 zL0 := zF2_c ⟨rfl, yVG_mi (yX_0 hE 0)⟩ (zF2_c ⟨rfl, yVG_mw _⟩ (zF2_c ⟨rfl, yVG_mw _⟩ (zF2_c ⟨rfl, yVG_mw _⟩ True.intro)))
theorem ye0 : yE [0] [[(0, 0)]] := by
  refine ⟨rfl, rfl, fun s iv hs => ?_⟩
  match s, hs with
  | 0, hs => cases hs; exact ⟨0, rfl, yM_c.mpr (Or.inl ⟨Int.le_refl _, Int.le_refl _⟩)⟩
  | s + 1, hs => simp at hs
theorem yr0 : yScr [0] yq0 (some []) := by
  intro xs hx
  cases hx
  exact ⟨_, rfl, True.intro⟩
theorem yf0 : ∃ h', zEv (some []) 20 zm_L_law (18, zL0, [], zh0) (some (.int 1)) h' ∧ h'.length = 86 ∧ zsz h' = 1471 := by
  exact yok_fin yd0 (yr0 ) (⟨rfl, ye0 , yL0_ok (ye0 ), True.intro, yfresh _⟩ : yG yT0 86 1471 [0] yv0 (18, zL0, [], zh0))
theorem ye1 (a0 : Int32) : yE [0, a0.toInt] [[(0, 0)], yI32] := by
  refine ⟨rfl, rfl, fun s iv hs => ?_⟩
  match s, hs with
  | 0, hs => cases hs; exact ⟨0, rfl, yM_c.mpr (Or.inl ⟨Int.le_refl _, Int.le_refl _⟩)⟩
  | 1, hs => cases hs; exact ⟨_, rfl, yM_32 _⟩
  | s + 2, hs => simp at hs
theorem yr1 (a0 : Int32) : yScr [0, a0.toInt] yq1 (some [a0]) := by
  intro xs hx
  cases hx
  exact ⟨_, rfl, zF2_c (yVG_mi ⟨_, rfl, by show _ = _ + (0 : Int); omega⟩) (True.intro)⟩
theorem yf1 (a0 : Int32) : ∃ h', zEv (some [a0]) 20 zm_L_law (18, zL0, [], zh0) (some (.int 1)) h' ∧ h'.length = 86 ∧ zsz h' = 1471 := by
  exact yok_fin yd1 (yr1 a0) (⟨rfl, ye1 a0, yL0_ok (ye1 a0), True.intro, yfresh _⟩ : yG yT0 86 1471 [0, a0.toInt] yv1 (18, zL0, [], zh0))
theorem ye2 (a0 a1 : Int32) : yE [0, a0.toInt, a1.toInt] [[(0, 0)], yI32, yI32] := by
  refine ⟨rfl, rfl, fun s iv hs => ?_⟩
  match s, hs with
  | 0, hs => cases hs; exact ⟨0, rfl, yM_c.mpr (Or.inl ⟨Int.le_refl _, Int.le_refl _⟩)⟩
  | 1, hs => cases hs; exact ⟨_, rfl, yM_32 _⟩
  | 2, hs => cases hs; exact ⟨_, rfl, yM_32 _⟩
  | s + 3, hs => simp at hs
theorem yr2 (a0 a1 : Int32) : yScr [0, a0.toInt, a1.toInt] yq2 (some [a0, a1]) := by
  intro xs hx
  cases hx
  exact ⟨_, rfl, zF2_c (yVG_mi ⟨_, rfl, by show _ = _ + (0 : Int); omega⟩) (zF2_c (yVG_mi ⟨_, rfl, by show _ = _ + (0 : Int); omega⟩) (True.intro))⟩
theorem yf2 (a0 a1 : Int32) : ∃ h', zEv (some [a0, a1]) 20 zm_L_law (18, zL0, [], zh0) (some (.int 1)) h' ∧ h'.length = 86 ∧ zsz h' = 1471 := by
  exact yok_fin yd2 (yr2 a0 a1) (⟨rfl, ye2 a0 a1, yL0_ok (ye2 a0 a1), True.intro, yfresh _⟩ : yG yT0 86 1471 [0, a0.toInt, a1.toInt] yv2 (18, zL0, [], zh0))
theorem ye3 (a0 a1 a2 : Int32) : yE [0, a0.toInt, a1.toInt, a2.toInt] [[(0, 0)], yI32, yI32, yI32] := by
  refine ⟨rfl, rfl, fun s iv hs => ?_⟩
  match s, hs with
  | 0, hs => cases hs; exact ⟨0, rfl, yM_c.mpr (Or.inl ⟨Int.le_refl _, Int.le_refl _⟩)⟩
  | 1, hs => cases hs; exact ⟨_, rfl, yM_32 _⟩
  | 2, hs => cases hs; exact ⟨_, rfl, yM_32 _⟩
  | 3, hs => cases hs; exact ⟨_, rfl, yM_32 _⟩
  | s + 4, hs => simp at hs
theorem yr3 (a0 a1 a2 : Int32) : yScr [0, a0.toInt, a1.toInt, a2.toInt] yq3 (some [a0, a1, a2]) := by
  intro xs hx
  cases hx
  exact ⟨_, rfl, zF2_c (yVG_mi ⟨_, rfl, by show _ = _ + (0 : Int); omega⟩) (zF2_c (yVG_mi ⟨_, rfl, by show _ = _ + (0 : Int); omega⟩) (zF2_c (yVG_mi ⟨_, rfl, by show _ = _ + (0 : Int); omega⟩) (True.intro)))⟩
theorem yf3 (a0 a1 a2 : Int32) : ∃ h', zEv (some [a0, a1, a2]) 20 zm_L_law (18, zL0, [], zh0) (some (.int 1)) h' ∧ h'.length = 86 ∧ zsz h' = 1471 := by
  exact yok_fin yd3 (yr3 a0 a1 a2) (⟨rfl, ye3 a0 a1 a2, yL0_ok (ye3 a0 a1 a2), True.intro, yfresh _⟩ : yG yT0 86 1471 [0, a0.toInt, a1.toInt, a2.toInt] yv3 (18, zL0, [], zh0))
theorem ye4 (a0 a1 a2 a3 : Int32) : yE [0, a0.toInt, a1.toInt, a2.toInt, a3.toInt] [[(0, 0)], yI32, yI32, yI32, yI32] := by
  refine ⟨rfl, rfl, fun s iv hs => ?_⟩
  match s, hs with
  | 0, hs => cases hs; exact ⟨0, rfl, yM_c.mpr (Or.inl ⟨Int.le_refl _, Int.le_refl _⟩)⟩
  | 1, hs => cases hs; exact ⟨_, rfl, yM_32 _⟩
  | 2, hs => cases hs; exact ⟨_, rfl, yM_32 _⟩
  | 3, hs => cases hs; exact ⟨_, rfl, yM_32 _⟩
  | 4, hs => cases hs; exact ⟨_, rfl, yM_32 _⟩
  | s + 5, hs => simp at hs
theorem yr4 (a0 a1 a2 a3 : Int32) : yScr [0, a0.toInt, a1.toInt, a2.toInt, a3.toInt] yq4 (some [a0, a1, a2, a3]) := by
  intro xs hx
  cases hx
  exact ⟨_, rfl, zF2_c (yVG_mi ⟨_, rfl, by show _ = _ + (0 : Int); omega⟩) (zF2_c (yVG_mi ⟨_, rfl, by show _ = _ + (0 : Int); omega⟩) (zF2_c (yVG_mi ⟨_, rfl, by show _ = _ + (0 : Int); omega⟩) (zF2_c (yVG_mi ⟨_, rfl, by show _ = _ + (0 : Int); omega⟩) (True.intro))))⟩
theorem yf4 (a0 a1 a2 a3 : Int32) : ∃ h', zEv (some [a0, a1, a2, a3]) 20 zm_L_law (18, zL0, [], zh0) (some (.int 1)) h' ∧ h'.length = 86 ∧ zsz h' = 1471 := by
  exact yok_fin yd4 (yr4 a0 a1 a2 a3) (⟨rfl, ye4 a0 a1 a2 a3, yL0_ok (ye4 a0 a1 a2 a3), True.intro, yfresh _⟩ : yG yT0 86 1471 [0, a0.toInt, a1.toInt, a2.toInt, a3.toInt] yv4 (18, zL0, [], zh0))
theorem ye5 (a0 a1 a2 a3 a4 : Int32) : yE [0, a0.toInt, a1.toInt, a2.toInt, a3.toInt, a4.toInt] yE0 := by
  refine ⟨rfl, rfl, fun s iv hs => ?_⟩
  match s, hs with
  | 0, hs => cases hs; exact ⟨0, rfl, yM_c.mpr (Or.inl ⟨Int.le_refl _, Int.le_refl _⟩)⟩
  | 1, hs => cases hs; exact ⟨_, rfl, yM_32 _⟩
  | 2, hs => cases hs; exact ⟨_, rfl, yM_32 _⟩
  | 3, hs => cases hs; exact ⟨_, rfl, yM_32 _⟩
  | 4, hs => cases hs; exact ⟨_, rfl, yM_32 _⟩
  | 5, hs => cases hs; exact ⟨_, rfl, yM_32 _⟩
  | s + 6, hs => simp [yE0] at hs
theorem yr5 (a0 a1 a2 a3 a4 : Int32) : yScr [0, a0.toInt, a1.toInt, a2.toInt, a3.toInt, a4.toInt] yscr (some [a0, a1, a2, a3, a4]) := by
  intro xs hx
  cases hx
  exact ⟨_, rfl, zF2_c (yVG_mi ⟨_, rfl, by show _ = _ + (0 : Int); omega⟩) (zF2_c (yVG_mi ⟨_, rfl, by show _ = _ + (0 : Int); omega⟩) (zF2_c (yVG_mi ⟨_, rfl, by show _ = _ + (0 : Int); omega⟩) (zF2_c (yVG_mi ⟨_, rfl, by show _ = _ + (0 : Int); omega⟩) (zF2_c (yVG_mi ⟨_, rfl, by show _ = _ + (0 : Int); omega⟩) (True.intro)))))⟩
theorem yf5 (a0 a1 a2 a3 a4 : Int32) : ∃ h', zEv (some [a0, a1, a2, a3, a4]) 20 zm_L_law (18, zL0, [], zh0) (some (.int 1)) h' ∧ h'.length = 86 ∧ zsz h' = 1471 := by
  have hG : yG yT0 86 1471 [0, a0.toInt, a1.toInt, a2.toInt, a3.toInt, a4.toInt] (18, yE0, yL0, [], []) (18, zL0, [], zh0) := ⟨rfl, ye5 a0 a1 a2 a3 a4, yL0_ok (ye5 a0 a1 a2 a3 a4), True.intro, yfresh _⟩
  obtain ⟨st1, b, m1, ⟨t, g1⟩, k1⟩ := ygo_ok (d := 20) 20 _ _ _ _ ysw_ok (yr5 a0 a1 a2 a3 a4) hG
  obtain ⟨h', x1, x2, x3⟩ := yok_fin (ysw_all b m1) (yScr_more t (yr5 a0 a1 a2 a3 a4)) g1
  exact ⟨h', k1 _ _ x1, x2, x3⟩
