/-! rests -/
theorem It_X0_calm : zm_X0_calm.2.2.2.2.2 = zt_X0_calm := by
  unfold zm_X0_calm
  rfl
theorem It_X8_restsOn : zm_X8_restsOn.2.2.2.2.2 = zt_X8_restsOn := by
  unfold zm_X8_restsOn
  rfl
theorem I_X0_calm_0 : zin zm_X0_calm.2.2.2.2.2 0 = some (.iconst 0, 1) := by rw [It_X0_calm]; rfl
theorem I_X0_calm_1 : zin zm_X0_calm.2.2.2.2.2 1 = some (.istore_n 1, 1) := by rw [It_X0_calm]; rfl
theorem I_X0_calm_2 : zin zm_X0_calm.2.2.2.2.2 2 = some (.iload_n 1, 1) := by rw [It_X0_calm]; rfl
theorem I_X0_calm_3 : zin zm_X0_calm.2.2.2.2.2 3 = some (.aload_n 0, 1) := by rw [It_X0_calm]; rfl
theorem I_X0_calm_4 : zin zm_X0_calm.2.2.2.2.2 4 = some (.getfield 26, 3) := by rw [It_X0_calm]; rfl
theorem I_X0_calm_7 : zin zm_X0_calm.2.2.2.2.2 7 = some (.if_icmp .ge 18, 3) := by rw [It_X0_calm]; rfl
theorem I_X0_calm_10 : zin zm_X0_calm.2.2.2.2.2 10 = some (.aload_n 0, 1) := by rw [It_X0_calm]; rfl
theorem I_X0_calm_11 : zin zm_X0_calm.2.2.2.2.2 11 = some (.getfield 11, 3) := by rw [It_X0_calm]; rfl
theorem I_X0_calm_14 : zin zm_X0_calm.2.2.2.2.2 14 = some (.iload_n 1, 1) := by rw [It_X0_calm]; rfl
theorem I_X0_calm_15 : zin zm_X0_calm.2.2.2.2.2 15 = some (.aaload, 1) := by rw [It_X0_calm]; rfl
theorem I_X0_calm_16 : zin zm_X0_calm.2.2.2.2.2 16 = some (.invokevirtual 85, 3) := by rw [It_X0_calm]; rfl
theorem I_X0_calm_19 : zin zm_X0_calm.2.2.2.2.2 19 = some (.iinc 1 1, 3) := by rw [It_X0_calm]; rfl
theorem I_X0_calm_22 : zin zm_X0_calm.2.2.2.2.2 22 = some (.goto (-20), 3) := by rw [It_X0_calm]; rfl
theorem I_X0_calm_25 : zin zm_X0_calm.2.2.2.2.2 25 = some (.return_, 1) := by rw [It_X0_calm]; rfl
theorem I_X8_restsOn_0 : zin zm_X8_restsOn.2.2.2.2.2 0 = some (.iconst 5, 1) := by rw [It_X8_restsOn]; rfl
theorem I_X8_restsOn_1 : zin zm_X8_restsOn.2.2.2.2.2 1 = some (.istore_n 2, 1) := by rw [It_X8_restsOn]; rfl
theorem I_X8_restsOn_2 : zin zm_X8_restsOn.2.2.2.2.2 2 = some (.iload_n 2, 1) := by rw [It_X8_restsOn]; rfl
theorem I_X8_restsOn_3 : zin zm_X8_restsOn.2.2.2.2.2 3 = some (.bipush 15, 2) := by rw [It_X8_restsOn]; rfl
theorem I_X8_restsOn_5 : zin zm_X8_restsOn.2.2.2.2.2 5 = some (.if_icmp .ge 36, 3) := by rw [It_X8_restsOn]; rfl
theorem I_X8_restsOn_8 : zin zm_X8_restsOn.2.2.2.2.2 8 = some (.aload_n 0, 1) := by rw [It_X8_restsOn]; rfl
theorem I_X8_restsOn_9 : zin zm_X8_restsOn.2.2.2.2.2 9 = some (.getfield 7, 3) := by rw [It_X8_restsOn]; rfl
theorem I_X8_restsOn_12 : zin zm_X8_restsOn.2.2.2.2.2 12 = some (.iload_n 1, 1) := by rw [It_X8_restsOn]; rfl
theorem I_X8_restsOn_13 : zin zm_X8_restsOn.2.2.2.2.2 13 = some (.iload_n 2, 1) := by rw [It_X8_restsOn]; rfl
theorem I_X8_restsOn_14 : zin zm_X8_restsOn.2.2.2.2.2 14 = some (.iadd, 1) := by rw [It_X8_restsOn]; rfl
theorem I_X8_restsOn_15 : zin zm_X8_restsOn.2.2.2.2.2 15 = some (.dup2, 1) := by rw [It_X8_restsOn]; rfl
theorem I_X8_restsOn_16 : zin zm_X8_restsOn.2.2.2.2.2 16 = some (.iaload, 1) := by rw [It_X8_restsOn]; rfl
theorem I_X8_restsOn_17 : zin zm_X8_restsOn.2.2.2.2.2 17 = some (.aload_n 0, 1) := by rw [It_X8_restsOn]; rfl
theorem I_X8_restsOn_18 : zin zm_X8_restsOn.2.2.2.2.2 18 = some (.getfield 7, 3) := by rw [It_X8_restsOn]; rfl
theorem I_X8_restsOn_21 : zin zm_X8_restsOn.2.2.2.2.2 21 = some (.iload_n 1, 1) := by rw [It_X8_restsOn]; rfl
theorem I_X8_restsOn_22 : zin zm_X8_restsOn.2.2.2.2.2 22 = some (.iload_n 2, 1) := by rw [It_X8_restsOn]; rfl
theorem I_X8_restsOn_23 : zin zm_X8_restsOn.2.2.2.2.2 23 = some (.iadd, 1) := by rw [It_X8_restsOn]; rfl
theorem I_X8_restsOn_24 : zin zm_X8_restsOn.2.2.2.2.2 24 = some (.iaload, 1) := by rw [It_X8_restsOn]; rfl
theorem I_X8_restsOn_25 : zin zm_X8_restsOn.2.2.2.2.2 25 = some (.ifCond .le 7, 3) := by rw [It_X8_restsOn]; rfl
theorem I_X8_restsOn_28 : zin zm_X8_restsOn.2.2.2.2.2 28 = some (.iconst 1, 1) := by rw [It_X8_restsOn]; rfl
theorem I_X8_restsOn_29 : zin zm_X8_restsOn.2.2.2.2.2 29 = some (.goto 4, 3) := by rw [It_X8_restsOn]; rfl
theorem I_X8_restsOn_32 : zin zm_X8_restsOn.2.2.2.2.2 32 = some (.iconst 0, 1) := by rw [It_X8_restsOn]; rfl
theorem I_X8_restsOn_33 : zin zm_X8_restsOn.2.2.2.2.2 33 = some (.isub, 1) := by rw [It_X8_restsOn]; rfl
theorem I_X8_restsOn_34 : zin zm_X8_restsOn.2.2.2.2.2 34 = some (.iastore, 1) := by rw [It_X8_restsOn]; rfl
theorem I_X8_restsOn_35 : zin zm_X8_restsOn.2.2.2.2.2 35 = some (.iinc 2 1, 3) := by rw [It_X8_restsOn]; rfl
theorem I_X8_restsOn_38 : zin zm_X8_restsOn.2.2.2.2.2 38 = some (.goto (-36), 3) := by rw [It_X8_restsOn]; rfl
theorem I_X8_restsOn_41 : zin zm_X8_restsOn.2.2.2.2.2 41 = some (.return_, 1) := by rw [It_X8_restsOn]; rfl
theorem K_0_85 : zlk zmls 0 85 = some (0, 24, 0, 583) := rfl
theorem Zm_24 : zms[24]? = some zm_X1_calm := rfl
theorem cl_X0_calm : zm_X0_calm.2.2.2.2.1 = 0 := by
  unfold zm_X0_calm
  rfl
theorem cn_X0_calm : zm_X0_calm.2.2.2.2.1 ≠ 12 := by
  rw [cl_X0_calm]
  decide
theorem cn2_X0_calm : zm_X0_calm.2.2.2.2.1 ≠ 2 := by
  rw [cl_X0_calm]
  decide
theorem cl_X8_restsOn : zm_X8_restsOn.2.2.2.2.1 = 8 := by
  unfold zm_X8_restsOn
  rfl
theorem cn_X8_restsOn : zm_X8_restsOn.2.2.2.2.1 ≠ 12 := by
  rw [cl_X8_restsOn]
  decide
theorem cn2_X8_restsOn : zm_X8_restsOn.2.2.2.2.1 ≠ 2 := by
  rw [cl_X8_restsOn]
  decide
def gdc (x : Int32) : Int32 := if 0 < x then x - 1 else x
/-- a rest, up to place lo -/
def gRr (lo : Nat) (g : Nat → Int32) : Nat → Int32 := fun j => if 5 ≤ j ∧ j < lo then gdc (g j) else g j
def gRest (g : Nat → Int32) : Nat → Int32 := gRr 15 g
theorem gdc_d : ∀ a, a < 100 → zmax 0 (Int32.ofNat a - 1) = gdc (Int32.ofNat a) ∧ 0 ≤ (gdc (Int32.ofNat a)).toInt ∧ (gdc (Int32.ofNat a)).toInt ≤ 99 := by decide +kernel
theorem z_99 {x : Int32} (h0 : 0 ≤ x.toInt) (h1 : x.toInt ≤ 99) : ∃ a, a < 100 ∧ x = Int32.ofNat a := ⟨x.toInt.toNat, by omega, by
    apply Int32.toInt_inj.mp
    rw [zofn_t (by omega)]
    omega⟩
theorem gdc_c {x : Int32} (h0 : 0 ≤ x.toInt) (h1 : x.toInt ≤ 99) : zmax 0 (x - 1) = gdc x := by
  obtain ⟨a, a1, rfl⟩ := z_99 h0 h1
  exact (gdc_d a a1).1
theorem gdc_b {x : Int32} (h0 : 0 ≤ x.toInt) (h1 : x.toInt ≤ 99) : 0 ≤ (gdc x).toInt ∧ (gdc x).toInt ≤ 99 := by
  obtain ⟨a, a1, rfl⟩ := z_99 h0 h1
  exact (gdc_d a a1).2
theorem gRest_k {g : Nat → Int32} {j : Nat} (h : ¬ (5 ≤ j ∧ j < 15)) : gRest g j = g j := by
  unfold gRest gRr
  rw [if_neg h]
theorem gRest_y {g : Nat → Int32} {j : Nat} (h : 5 ≤ j ∧ j < 15) : gRest g j = gdc (g j) := by
  unfold gRest gRr
  rw [if_pos h]
theorem gok_r {g : Nat → Int32} {c : Nat} (h : gok g c) : gok (gRest g) c := by
  obtain ⟨a, b, d, e⟩ := h
  refine ⟨a, fun i hi => ?_, by rw [gRest_k (by omega)]; exact d, by rw [gRest_k (by omega)]; exact e⟩
  obtain ⟨x, y, z⟩ := b i hi
  rw [gRest_k (show ¬ (5 ≤ i ∧ i < 15) by omega), gRest_y (show 5 ≤ 5 + i ∧ 5 + i < 15 by omega), gRest_y (show 5 ≤ 10 + i ∧ 10 + i < 15 by omega)]
  exact ⟨x, gdc_b y.1 y.2, gdc_b z.1 z.2⟩
theorem ca_loop {k c : Nat} (hk : zlk6 k) (hc5 : c ≤ 5) : ∀ (j i d : Nat) (r : Option Value) (h' : zHp) (m : zM), i + j = c → m k 2 = Int32.ofNat c → zE none d zm_X0_calm 2 [.ref k, .int (Int32.ofNat i)] [] m r h' → ∃ m1, r = none ∧ h' = zhp m1 ∧ (∀ i', i ≤ i' → i' < c → m1 (k + 3 + i') 1 = zmax 0 (m (k + 3 + i') 1 - 1) ∧ m1 (k + 3 + i') 2 = zmax 0 (m (k + 3 + i') 2 - 1)) ∧ ∀ a b, ¬ ((b = 1 ∨ b = 2) ∧ k + 3 + i ≤ a ∧ a < k + 3 + c) → m1 a b = m a b := by
  intro j
  induction j with
  | zero =>
    intro i d r h' m hj hc H
    replace H := i_iln (q := 3) H I_X0_calm_2 rfl rfl
    replace H := i_aln (q := 4) H I_X0_calm_3 rfl rfl
    replace H := i_gfi (q := 7) H I_X0_calm_4 G_0_26 cn_X0_calm (lk_0 hk) rfl rfl
    have W := i_ic_ge (t := 25) (q := 10) H I_X0_calm_7 (by decide) rfl
    clear H
    rcases W with ⟨c_7, H⟩ | ⟨c_7, H⟩
    · skip
      obtain ⟨hr, hh⟩ := i_rt H I_X0_calm_25
      exact ⟨m, hr, hh, fun i' h1 h2 => by omega, fun a b _ => rfl⟩
    · skip
      replace H := i_aln (q := 11) H I_X0_calm_10 rfl rfl
      replace H := i_gfr (q := 14) H I_X0_calm_11 G_0_11 cn_X0_calm (lk_0 hk) rfl rfl
      replace H := i_iln (q := 15) H I_X0_calm_14 rfl rfl
      have W := i_folk (k := k) hk (q := 16) H I_X0_calm_15 rfl
      clear H
      obtain ⟨i_15, bi_15, ei_15, H⟩ := W
      have W := i_cv0 0 (q := 19) H I_X0_calm_16 K_0_85 Zm_24 rfl rfl
      clear H
      obtain ⟨r1, h1, Hc, K1, K2⟩ := W
      obtain ⟨e1, e2⟩ := t_X1_calm (lk_p hk bi_15) Hc
      have H := K2 _ e1 e2
      clear e1 e2 Hc K1 K2
      replace H := i_inc (q := 22) H I_X0_calm_19 rfl rfl rfl
      replace H := i_goto (q := 2) H I_X0_calm_22 (by decide)
      exfalso
      rw [hc] at c_7
      exact absurd ((zofn_lt (by omega) (by omega)).mp c_7) (by omega)
  | succ j ih =>
    intro i d r h' m hj hc H
    replace H := i_iln (q := 3) H I_X0_calm_2 rfl rfl
    replace H := i_aln (q := 4) H I_X0_calm_3 rfl rfl
    replace H := i_gfi (q := 7) H I_X0_calm_4 G_0_26 cn_X0_calm (lk_0 hk) rfl rfl
    have W := i_ic_ge (t := 25) (q := 10) H I_X0_calm_7 (by decide) rfl
    clear H
    rcases W with ⟨c_7, H⟩ | ⟨c_7, H⟩
    · skip
      obtain ⟨hr, hh⟩ := i_rt H I_X0_calm_25
      exfalso
      rw [hc] at c_7
      exact c_7 ((zofn_lt (by omega) (by omega)).mpr (by omega))
    · skip
      replace H := i_aln (q := 11) H I_X0_calm_10 rfl rfl
      replace H := i_gfr (q := 14) H I_X0_calm_11 G_0_11 cn_X0_calm (lk_0 hk) rfl rfl
      replace H := i_iln (q := 15) H I_X0_calm_14 rfl rfl
      have W := i_folk (k := k) hk (q := 16) H I_X0_calm_15 rfl
      clear H
      obtain ⟨i_15, bi_15, ei_15, H⟩ := W
      have W := i_cv0 0 (q := 19) H I_X0_calm_16 K_0_85 Zm_24 rfl rfl
      clear H
      obtain ⟨r1, h1, Hc, K1, K2⟩ := W
      obtain ⟨e1, e2⟩ := t_X1_calm (lk_p hk bi_15) Hc
      have H := K2 _ e1 e2
      clear e1 e2 Hc K1 K2
      replace H := i_inc (q := 22) H I_X0_calm_19 rfl rfl rfl
      replace H := i_goto (q := 2) H I_X0_calm_22 (by decide)
      have e : i = i_15 := zofn ei_15 (by omega) (by omega)
      subst e
      replace H : zE none d zm_X0_calm 2 [.ref k, .int (Int32.ofNat (i + 1))] [] (zup (zup m (k + 3 + i) 1 (zmax 0 (m (k + 3 + i) 1 - 1))) (k + 3 + i) 2 (zmax 0 (m (k + 3 + i) 2 - 1))) r h' := by
        rw [zofn_s] at H
        exact H
      obtain ⟨m1, g1, g2, g3, g4⟩ := ih (i + 1) d r h' _ (by omega) (by rw [zup_n (by omega), zup_n (by omega)]; exact hc) H
      refine ⟨m1, g1, g2, fun i' h1 h2 => ?_, fun a b hab => ?_⟩
      · by_cases hi' : i' = i
        · subst hi'
          rw [g4 _ 1 (by omega), g4 _ 2 (by omega), zup_n (by omega), zup_s, zup_s]
          exact ⟨rfl, rfl⟩
        · have := g3 i' (by omega) h2
          rw [zup_n (by omega), zup_n (by omega), zup_n (by omega), zup_n (by omega)] at this
          exact this
      · rw [g4 a b (by omega), zup_n (by omega), zup_n (by omega)]
theorem t_X0_calm {d : Nat} {m : zM} {r : Option Value} {h' : zHp} {k c : Nat} {g : Nat → Int32} (hk : zlk6 k) (hL : LV m k c g) (hg : gok g c) (H : zE none d zm_X0_calm 0 [.ref k, .null] [] m r h') : ∃ m1, r = none ∧ h' = zhp m1 ∧ LV m1 k c (gRest g) ∧ ∀ a b, ¬ (k ≤ a ∧ a ≤ k + 7) → m1 a b = m a b := by
  obtain ⟨q1, q2, q3, q4, q5, a, a1, a2, a3, a4⟩ := id hL
  replace H := i_icst (x := 0) (q := 1) H I_X0_calm_0 (by decide) rfl
  replace H := i_isn (q := 2) H I_X0_calm_1 rfl rfl
  obtain ⟨m1, g1, g2, g3, g4⟩ := ca_loop hk q2 c 0 d r h' m (by omega) q1 H
  refine ⟨m1, g1, g2, ⟨?_, q2, fun i hi => ?_, ?_, ?_, a, a1, ?_, ?_, fun i hi => ?_⟩, fun x y hxy => g4 x y (by omega)⟩
  · rw [g4 _ _ (by omega)]; exact q1
  · obtain ⟨x, y, z, w⟩ := q3 i hi
    obtain ⟨u1, u2, u3⟩ := hg.2.1 i hi
    have hi5 : i < 5 := by omega
    refine ⟨?_, ?_, ?_, ?_⟩
    · rw [g4 _ _ (by omega), gRest_k (by omega)]; exact x
    · rw [(g3 i (by omega) hi).1, gRest_y (by omega), y, gdc_c u2.1 u2.2]
    · rw [(g3 i (by omega) hi).2, gRest_y (by omega), z, gdc_c u3.1 u3.2]
    · rw [g4 _ _ (by omega), gRest_k (by omega)]; exact w
  · rw [g4 _ _ (by omega), gRest_k (by omega)]; exact q4
  · rw [g4 _ _ (by omega), gRest_k (by omega)]; exact q5
  · rw [gRest_k (by omega)]; exact a2
  · rw [g4 _ _ (by omega)]; exact a3
  · rw [g4 _ _ (by omega), gRest_k (by omega)]; exact a4 i hi
theorem rs_loop {pg : Nat} {g : Nat → Int32} : ∀ (j k d : Nat) (r : Option Value) (h' : zHp) (m : zM), k + j = 15 → 5 ≤ k → PG m pg (gRr k g) → zE none d zm_X8_restsOn 2 [.ref 71, .int (Int32.ofNat pg), .int (Int32.ofNat k)] [] m r h' → ∃ m1, r = none ∧ h' = zhp m1 ∧ PG m1 pg (gRest g) ∧ ∀ x y, ¬ (x = 72 ∧ pg ≤ y ∧ y < pg + 27) → m1 x y = m x y := by
  intro j
  induction j with
  | zero =>
    intro k d r h' m hj h5 hP H
    replace H := i_iln (q := 3) H I_X8_restsOn_2 rfl rfl
    replace H := i_bip (x := 15) (q := 5) H I_X8_restsOn_3 (by decide) rfl
    have W := i_ic_ge (t := 41) (q := 8) H I_X8_restsOn_5 (by decide) rfl
    clear H
    rcases W with ⟨c_5, H⟩ | ⟨c_5, H⟩
    · skip
      obtain ⟨hr, hh⟩ := i_rt H I_X8_restsOn_41
      have e : k = 15 := by omega
      subst e
      exact ⟨m, hr, hh, hP, fun _ _ _ => rfl⟩
    · skip
      replace H := i_aln (q := 9) H I_X8_restsOn_8 rfl rfl
      replace H := i_gfr (q := 12) H I_X8_restsOn_9 G_8_7 cn_X8_restsOn LY_71 rfl rfl
      replace H := i_iln (q := 13) H I_X8_restsOn_12 rfl rfl
      replace H := i_iln (q := 14) H I_X8_restsOn_13 rfl rfl
      replace H := i_iadd (q := 15) H I_X8_restsOn_14 rfl
      replace H := i_dup2 (q := 16) H I_X8_restsOn_15 rfl rfl rfl
      have W := i_ia (q := 17) H I_X8_restsOn_16 LY_72 rfl
      clear H
      obtain ⟨i_16, bi_16, ei_16, H⟩ := W
      replace H := i_aln (q := 18) H I_X8_restsOn_17 rfl rfl
      replace H := i_gfr (q := 21) H I_X8_restsOn_18 G_8_7 cn_X8_restsOn LY_71 rfl rfl
      replace H := i_iln (q := 22) H I_X8_restsOn_21 rfl rfl
      replace H := i_iln (q := 23) H I_X8_restsOn_22 rfl rfl
      replace H := i_iadd (q := 24) H I_X8_restsOn_23 rfl
      have W := i_ia (q := 25) H I_X8_restsOn_24 LY_72 rfl
      clear H
      obtain ⟨i_24, bi_24, ei_24, H⟩ := W
      have W := i_if_le (t := 32) (q := 28) H I_X8_restsOn_25 (by decide) rfl
      clear H
      rcases W with ⟨c_25, H⟩ | ⟨c_25, H⟩
      · skip
        replace H := i_icst (x := 0) (q := 33) H I_X8_restsOn_32 (by decide) rfl
        replace H := i_isub (q := 34) H I_X8_restsOn_33 rfl
        have W := i_iast (q := 35) H I_X8_restsOn_34 LY_72 rfl
        clear H
        obtain ⟨i_34, bi_34, ei_34, H⟩ := W
        replace H := i_inc (q := 38) H I_X8_restsOn_35 rfl rfl rfl
        replace H := i_goto (q := 2) H I_X8_restsOn_38 (by decide)
        exfalso
        exact absurd ((zofn_lt (j := 15) (by omega) (by decide)).mp c_5) (by omega)
      · skip
        replace H := i_icst (x := 1) (q := 29) H I_X8_restsOn_28 (by decide) rfl
        replace H := i_goto (q := 33) H I_X8_restsOn_29 (by decide)
        replace H := i_isub (q := 34) H I_X8_restsOn_33 rfl
        have W := i_iast (q := 35) H I_X8_restsOn_34 LY_72 rfl
        clear H
        obtain ⟨i_34, bi_34, ei_34, H⟩ := W
        replace H := i_inc (q := 38) H I_X8_restsOn_35 rfl rfl rfl
        replace H := i_goto (q := 2) H I_X8_restsOn_38 (by decide)
        exfalso
        exact absurd ((zofn_lt (j := 15) (by omega) (by decide)).mp c_5) (by omega)
  | succ j ih =>
    intro k d r h' m hj h5 hP H
    replace H := i_iln (q := 3) H I_X8_restsOn_2 rfl rfl
    replace H := i_bip (x := 15) (q := 5) H I_X8_restsOn_3 (by decide) rfl
    have W := i_ic_ge (t := 41) (q := 8) H I_X8_restsOn_5 (by decide) rfl
    clear H
    rcases W with ⟨c_5, H⟩ | ⟨c_5, H⟩
    · skip
      obtain ⟨hr, hh⟩ := i_rt H I_X8_restsOn_41
      exfalso
      exact c_5 ((zofn_lt (j := 15) (by omega) (by decide)).mpr (by omega))
    · skip
      replace H := i_aln (q := 9) H I_X8_restsOn_8 rfl rfl
      replace H := i_gfr (q := 12) H I_X8_restsOn_9 G_8_7 cn_X8_restsOn LY_71 rfl rfl
      replace H := i_iln (q := 13) H I_X8_restsOn_12 rfl rfl
      replace H := i_iln (q := 14) H I_X8_restsOn_13 rfl rfl
      replace H := i_iadd (q := 15) H I_X8_restsOn_14 rfl
      replace H := i_dup2 (q := 16) H I_X8_restsOn_15 rfl rfl rfl
      have W := i_ia (q := 17) H I_X8_restsOn_16 LY_72 rfl
      clear H
      obtain ⟨i_16, bi_16, ei_16, H⟩ := W
      replace H := i_aln (q := 18) H I_X8_restsOn_17 rfl rfl
      replace H := i_gfr (q := 21) H I_X8_restsOn_18 G_8_7 cn_X8_restsOn LY_71 rfl rfl
      replace H := i_iln (q := 22) H I_X8_restsOn_21 rfl rfl
      replace H := i_iln (q := 23) H I_X8_restsOn_22 rfl rfl
      replace H := i_iadd (q := 24) H I_X8_restsOn_23 rfl
      have W := i_ia (q := 25) H I_X8_restsOn_24 LY_72 rfl
      clear H
      obtain ⟨i_24, bi_24, ei_24, H⟩ := W
      have W := i_if_le (t := 32) (q := 28) H I_X8_restsOn_25 (by decide) rfl
      clear H
      rcases W with ⟨c_25, H⟩ | ⟨c_25, H⟩
      · skip
        replace H := i_icst (x := 0) (q := 33) H I_X8_restsOn_32 (by decide) rfl
        replace H := i_isub (q := 34) H I_X8_restsOn_33 rfl
        have W := i_iast (q := 35) H I_X8_restsOn_34 LY_72 rfl
        clear H
        obtain ⟨i_34, bi_34, ei_34, H⟩ := W
        replace H := i_inc (q := 38) H I_X8_restsOn_35 rfl rfl rfl
        replace H := i_goto (q := 2) H I_X8_restsOn_38 (by decide)
        have j1 : i_16 = pg + k := zix3 rfl rfl ei_16 (by have := hP.1; omega) (by omega)
        subst j1
        have j2 : i_24 = pg + k := zix3 rfl rfl ei_24 (by have := hP.1; omega) (by omega)
        subst j2
        have j3 : i_34 = pg + k := zix3 rfl rfl ei_34 (by have := hP.1; omega) (by omega)
        subst j3
        have ev : gRr k g k = g k := by unfold gRr; rw [if_neg (by omega)]
        rw [hP.2 k (by omega), ev] at c_25 H
        replace H : zE none d zm_X8_restsOn 2 [.ref 71, .int (Int32.ofNat pg), .int (Int32.ofNat (k + 1))] [] (zup m 72 (pg + k) (gdc (g k))) r h' := by
          rw [show gdc (g k) = g k - 0 by unfold gdc; rw [if_neg c_25]; rw [Int32.sub_zero], ← zofn_s]
          exact H
        have hP1 : PG (zup m 72 (pg + k) (gdc (g k))) pg (gRr (k + 1) g) := by
          refine ⟨hP.1, fun i hi => ?_⟩
          by_cases e : i = k
          · subst e
            rw [zup_s]
            unfold gRr
            rw [if_pos (by omega)]
          · rw [zup_n (by omega), hP.2 i hi]
            unfold gRr
            by_cases h1 : 5 ≤ i ∧ i < k
            · rw [if_pos h1, if_pos (by omega)]
            · rw [if_neg h1, if_neg (by omega)]
        obtain ⟨m1, g1, g2, g3, g4⟩ := ih (k + 1) d r h' _ (by omega) (by omega) hP1 H
        exact ⟨m1, g1, g2, g3, fun x y hxy => by rw [g4 x y hxy, zup_n (by omega)]⟩
      · skip
        replace H := i_icst (x := 1) (q := 29) H I_X8_restsOn_28 (by decide) rfl
        replace H := i_goto (q := 33) H I_X8_restsOn_29 (by decide)
        replace H := i_isub (q := 34) H I_X8_restsOn_33 rfl
        have W := i_iast (q := 35) H I_X8_restsOn_34 LY_72 rfl
        clear H
        obtain ⟨i_34, bi_34, ei_34, H⟩ := W
        replace H := i_inc (q := 38) H I_X8_restsOn_35 rfl rfl rfl
        replace H := i_goto (q := 2) H I_X8_restsOn_38 (by decide)
        have j1 : i_16 = pg + k := zix3 rfl rfl ei_16 (by have := hP.1; omega) (by omega)
        subst j1
        have j2 : i_24 = pg + k := zix3 rfl rfl ei_24 (by have := hP.1; omega) (by omega)
        subst j2
        have j3 : i_34 = pg + k := zix3 rfl rfl ei_34 (by have := hP.1; omega) (by omega)
        subst j3
        have ev : gRr k g k = g k := by unfold gRr; rw [if_neg (by omega)]
        rw [hP.2 k (by omega), ev] at c_25 H
        replace H : zE none d zm_X8_restsOn 2 [.ref 71, .int (Int32.ofNat pg), .int (Int32.ofNat (k + 1))] [] (zup m 72 (pg + k) (gdc (g k))) r h' := by
          rw [show gdc (g k) = g k - 1 by unfold gdc; rw [if_pos c_25], ← zofn_s]
          exact H
        have hP1 : PG (zup m 72 (pg + k) (gdc (g k))) pg (gRr (k + 1) g) := by
          refine ⟨hP.1, fun i hi => ?_⟩
          by_cases e : i = k
          · subst e
            rw [zup_s]
            unfold gRr
            rw [if_pos (by omega)]
          · rw [zup_n (by omega), hP.2 i hi]
            unfold gRr
            by_cases h1 : 5 ≤ i ∧ i < k
            · rw [if_pos h1, if_pos (by omega)]
            · rw [if_neg h1, if_neg (by omega)]
        obtain ⟨m1, g1, g2, g3, g4⟩ := ih (k + 1) d r h' _ (by omega) (by omega) hP1 H
        exact ⟨m1, g1, g2, g3, fun x y hxy => by rw [g4 x y hxy, zup_n (by omega)]⟩
theorem t_X8_restsOn {d : Nat} {m : zM} {r : Option Value} {h' : zHp} {pg : Nat} {g : Nat → Int32} (hP : PG m pg g) (H : zE none d zm_X8_restsOn 0 [.ref 71, .int (Int32.ofNat pg), .null] [] m r h') : ∃ m1, r = none ∧ h' = zhp m1 ∧ PG m1 pg (gRest g) ∧ ∀ x y, ¬ (x = 72 ∧ pg ≤ y ∧ y < pg + 27) → m1 x y = m x y := by
  have e5 : gRr 5 g = g := by
    funext j
    unfold gRr
    rw [if_neg (by omega)]
  replace H := i_icst (x := 5) (q := 1) H I_X8_restsOn_0 (by decide) rfl
  replace H := i_isn (q := 2) H I_X8_restsOn_1 rfl rfl
  exact rs_loop 10 5 d r h' m rfl (Nat.le_refl 5) (by rw [e5]; exact hP) H
