/-! turn, rest -/
theorem It_X7_rest : zm_X7_rest.2.2.2.2.2 = zt_X7_rest := by
  unfold zm_X7_rest
  rfl
theorem It_X7_turn : zm_X7_turn.2.2.2.2.2 = zt_X7_turn := by
  unfold zm_X7_turn
  rfl
theorem It_X8_rest : zm_X8_rest.2.2.2.2.2 = zt_X8_rest := by
  unfold zm_X8_rest
  rfl
theorem It_X8_turn : zm_X8_turn.2.2.2.2.2 = zt_X8_turn := by
  unfold zm_X8_turn
  rfl
theorem It_X8_turns : zm_X8_turns.2.2.2.2.2 = zt_X8_turns := by
  unfold zm_X8_turns
  rfl
theorem I_X7_rest_0 : zin zm_X7_rest.2.2.2.2.2 0 = some (.iload_n 1, 1) := by rw [It_X7_rest]; rfl
theorem I_X7_rest_1 : zin zm_X7_rest.2.2.2.2.2 1 = some (.ifCond .lt 9, 3) := by rw [It_X7_rest]; rfl
theorem I_X7_rest_4 : zin zm_X7_rest.2.2.2.2.2 4 = some (.iload_n 1, 1) := by rw [It_X7_rest]; rfl
theorem I_X7_rest_5 : zin zm_X7_rest.2.2.2.2.2 5 = some (.bipush 99, 2) := by rw [It_X7_rest]; rfl
theorem I_X7_rest_7 : zin zm_X7_rest.2.2.2.2.2 7 = some (.if_icmp .le 5, 3) := by rw [It_X7_rest]; rfl
theorem I_X7_rest_10 : zin zm_X7_rest.2.2.2.2.2 10 = some (.iconst (-1), 1) := by rw [It_X7_rest]; rfl
theorem I_X7_rest_11 : zin zm_X7_rest.2.2.2.2.2 11 = some (.ireturn, 1) := by rw [It_X7_rest]; rfl
theorem I_X7_rest_12 : zin zm_X7_rest.2.2.2.2.2 12 = some (.iconst 0, 1) := by rw [It_X7_rest]; rfl
theorem I_X7_rest_13 : zin zm_X7_rest.2.2.2.2.2 13 = some (.istore_n 2, 1) := by rw [It_X7_rest]; rfl
theorem I_X7_rest_14 : zin zm_X7_rest.2.2.2.2.2 14 = some (.iload_n 2, 1) := by rw [It_X7_rest]; rfl
theorem I_X7_rest_15 : zin zm_X7_rest.2.2.2.2.2 15 = some (.iload_n 1, 1) := by rw [It_X7_rest]; rfl
theorem I_X7_rest_16 : zin zm_X7_rest.2.2.2.2.2 16 = some (.if_icmp .ge 16, 3) := by rw [It_X7_rest]; rfl
theorem I_X7_rest_19 : zin zm_X7_rest.2.2.2.2.2 19 = some (.aload_n 0, 1) := by rw [It_X7_rest]; rfl
theorem I_X7_rest_20 : zin zm_X7_rest.2.2.2.2.2 20 = some (.getfield 19, 3) := by rw [It_X7_rest]; rfl
theorem I_X7_rest_23 : zin zm_X7_rest.2.2.2.2.2 23 = some (.invokevirtual 158, 3) := by rw [It_X7_rest]; rfl
theorem I_X7_rest_26 : zin zm_X7_rest.2.2.2.2.2 26 = some (.iinc 2 1, 3) := by rw [It_X7_rest]; rfl
theorem I_X7_rest_29 : zin zm_X7_rest.2.2.2.2.2 29 = some (.goto (-15), 3) := by rw [It_X7_rest]; rfl
theorem I_X7_rest_32 : zin zm_X7_rest.2.2.2.2.2 32 = some (.aload_n 0, 1) := by rw [It_X7_rest]; rfl
theorem I_X7_rest_33 : zin zm_X7_rest.2.2.2.2.2 33 = some (.getfield 19, 3) := by rw [It_X7_rest]; rfl
theorem I_X7_rest_36 : zin zm_X7_rest.2.2.2.2.2 36 = some (.invokevirtual 106, 3) := by rw [It_X7_rest]; rfl
theorem I_X7_rest_39 : zin zm_X7_rest.2.2.2.2.2 39 = some (.ireturn, 1) := by rw [It_X7_rest]; rfl
theorem I_X7_turn_0 : zin zm_X7_turn.2.2.2.2.2 0 = some (.aload_n 0, 1) := by rw [It_X7_turn]; rfl
theorem I_X7_turn_1 : zin zm_X7_turn.2.2.2.2.2 1 = some (.getfield 19, 3) := by rw [It_X7_turn]; rfl
theorem I_X7_turn_4 : zin zm_X7_turn.2.2.2.2.2 4 = some (.iload_n 1, 1) := by rw [It_X7_turn]; rfl
theorem I_X7_turn_5 : zin zm_X7_turn.2.2.2.2.2 5 = some (.invokevirtual 152, 3) := by rw [It_X7_turn]; rfl
theorem I_X7_turn_8 : zin zm_X7_turn.2.2.2.2.2 8 = some (.ifCond .eq 14, 3) := by rw [It_X7_turn]; rfl
theorem I_X7_turn_11 : zin zm_X7_turn.2.2.2.2.2 11 = some (.aload_n 0, 1) := by rw [It_X7_turn]; rfl
theorem I_X7_turn_12 : zin zm_X7_turn.2.2.2.2.2 12 = some (.getfield 19, 3) := by rw [It_X7_turn]; rfl
theorem I_X7_turn_15 : zin zm_X7_turn.2.2.2.2.2 15 = some (.iload_n 1, 1) := by rw [It_X7_turn]; rfl
theorem I_X7_turn_16 : zin zm_X7_turn.2.2.2.2.2 16 = some (.invokevirtual 155, 3) := by rw [It_X7_turn]; rfl
theorem I_X7_turn_19 : zin zm_X7_turn.2.2.2.2.2 19 = some (.goto 4, 3) := by rw [It_X7_turn]; rfl
theorem I_X7_turn_22 : zin zm_X7_turn.2.2.2.2.2 22 = some (.iconst (-1), 1) := by rw [It_X7_turn]; rfl
theorem I_X7_turn_23 : zin zm_X7_turn.2.2.2.2.2 23 = some (.ireturn, 1) := by rw [It_X7_turn]; rfl
theorem I_X8_rest_0 : zin zm_X8_rest.2.2.2.2.2 0 = some (.iload_n 1, 1) := by rw [It_X8_rest]; rfl
theorem I_X8_rest_1 : zin zm_X8_rest.2.2.2.2.2 1 = some (.i2l, 1) := by rw [It_X8_rest]; rfl
theorem I_X8_rest_2 : zin zm_X8_rest.2.2.2.2.2 2 = some (.lconst 0, 1) := by rw [It_X8_rest]; rfl
theorem I_X8_rest_3 : zin zm_X8_rest.2.2.2.2.2 3 = some (.ldc2_w 159, 3) := by rw [It_X8_rest]; rfl
theorem I_X8_rest_6 : zin zm_X8_rest.2.2.2.2.2 6 = some (.invokestatic 55, 3) := by rw [It_X8_rest]; rfl
theorem I_X8_rest_9 : zin zm_X8_rest.2.2.2.2.2 9 = some (.ifCond .ne 5, 3) := by rw [It_X8_rest]; rfl
theorem I_X8_rest_12 : zin zm_X8_rest.2.2.2.2.2 12 = some (.iconst (-1), 1) := by rw [It_X8_rest]; rfl
theorem I_X8_rest_13 : zin zm_X8_rest.2.2.2.2.2 13 = some (.ireturn, 1) := by rw [It_X8_rest]; rfl
theorem I_X8_rest_14 : zin zm_X8_rest.2.2.2.2.2 14 = some (.iconst 0, 1) := by rw [It_X8_rest]; rfl
theorem I_X8_rest_15 : zin zm_X8_rest.2.2.2.2.2 15 = some (.istore_n 2, 1) := by rw [It_X8_rest]; rfl
theorem I_X8_rest_16 : zin zm_X8_rest.2.2.2.2.2 16 = some (.iload_n 2, 1) := by rw [It_X8_rest]; rfl
theorem I_X8_rest_17 : zin zm_X8_rest.2.2.2.2.2 17 = some (.iload_n 1, 1) := by rw [It_X8_rest]; rfl
theorem I_X8_rest_18 : zin zm_X8_rest.2.2.2.2.2 18 = some (.if_icmp .ge 14, 3) := by rw [It_X8_rest]; rfl
theorem I_X8_rest_21 : zin zm_X8_rest.2.2.2.2.2 21 = some (.aload_n 0, 1) := by rw [It_X8_rest]; rfl
theorem I_X8_rest_22 : zin zm_X8_rest.2.2.2.2.2 22 = some (.iconst 0, 1) := by rw [It_X8_rest]; rfl
theorem I_X8_rest_23 : zin zm_X8_rest.2.2.2.2.2 23 = some (.invokevirtual 176, 3) := by rw [It_X8_rest]; rfl
theorem I_X8_rest_26 : zin zm_X8_rest.2.2.2.2.2 26 = some (.iinc 2 1, 3) := by rw [It_X8_rest]; rfl
theorem I_X8_rest_29 : zin zm_X8_rest.2.2.2.2.2 29 = some (.goto (-13), 3) := by rw [It_X8_rest]; rfl
theorem I_X8_rest_32 : zin zm_X8_rest.2.2.2.2.2 32 = some (.aload_n 0, 1) := by rw [It_X8_rest]; rfl
theorem I_X8_rest_33 : zin zm_X8_rest.2.2.2.2.2 33 = some (.iconst 0, 1) := by rw [It_X8_rest]; rfl
theorem I_X8_rest_34 : zin zm_X8_rest.2.2.2.2.2 34 = some (.invokevirtual 144, 3) := by rw [It_X8_rest]; rfl
theorem I_X8_rest_37 : zin zm_X8_rest.2.2.2.2.2 37 = some (.ireturn, 1) := by rw [It_X8_rest]; rfl
theorem I_X8_turn_0 : zin zm_X8_turn.2.2.2.2.2 0 = some (.aload_n 0, 1) := by rw [It_X8_turn]; rfl
theorem I_X8_turn_1 : zin zm_X8_turn.2.2.2.2.2 1 = some (.iload_n 1, 1) := by rw [It_X8_turn]; rfl
theorem I_X8_turn_2 : zin zm_X8_turn.2.2.2.2.2 2 = some (.invokevirtual 173, 3) := by rw [It_X8_turn]; rfl
theorem I_X8_turn_5 : zin zm_X8_turn.2.2.2.2.2 5 = some (.ireturn, 1) := by rw [It_X8_turn]; rfl
theorem I_X8_turns_0 : zin zm_X8_turns.2.2.2.2.2 0 = some (.iload_n 1, 1) := by rw [It_X8_turns]; rfl
theorem I_X8_turns_1 : zin zm_X8_turns.2.2.2.2.2 1 = some (.i2l, 1) := by rw [It_X8_turns]; rfl
theorem I_X8_turns_2 : zin zm_X8_turns.2.2.2.2.2 2 = some (.lconst 1, 1) := by rw [It_X8_turns]; rfl
theorem I_X8_turns_3 : zin zm_X8_turns.2.2.2.2.2 3 = some (.aload_n 0, 1) := by rw [It_X8_turns]; rfl
theorem I_X8_turns_4 : zin zm_X8_turns.2.2.2.2.2 4 = some (.invokevirtual 167, 3) := by rw [It_X8_turns]; rfl
theorem I_X8_turns_7 : zin zm_X8_turns.2.2.2.2.2 7 = some (.i2l, 1) := by rw [It_X8_turns]; rfl
theorem I_X8_turns_8 : zin zm_X8_turns.2.2.2.2.2 8 = some (.invokestatic 55, 3) := by rw [It_X8_turns]; rfl
theorem I_X8_turns_11 : zin zm_X8_turns.2.2.2.2.2 11 = some (.ifCond .eq 12, 3) := by rw [It_X8_turns]; rfl
theorem I_X8_turns_14 : zin zm_X8_turns.2.2.2.2.2 14 = some (.aload_n 0, 1) := by rw [It_X8_turns]; rfl
theorem I_X8_turns_15 : zin zm_X8_turns.2.2.2.2.2 15 = some (.iconst 0, 1) := by rw [It_X8_turns]; rfl
theorem I_X8_turns_16 : zin zm_X8_turns.2.2.2.2.2 16 = some (.iload_n 1, 1) := by rw [It_X8_turns]; rfl
theorem I_X8_turns_17 : zin zm_X8_turns.2.2.2.2.2 17 = some (.invokevirtual 170, 3) := by rw [It_X8_turns]; rfl
theorem I_X8_turns_20 : zin zm_X8_turns.2.2.2.2.2 20 = some (.goto 4, 3) := by rw [It_X8_turns]; rfl
theorem I_X8_turns_23 : zin zm_X8_turns.2.2.2.2.2 23 = some (.iconst (-1), 1) := by rw [It_X8_turns]; rfl
theorem I_X8_turns_24 : zin zm_X8_turns.2.2.2.2.2 24 = some (.ireturn, 1) := by rw [It_X8_turns]; rfl
theorem K_7_106 : zlk zmls 7 106 = some (0, 10, 0, 491) := rfl
theorem K_7_155 : zlk zmls 7 155 = some (0, 16, 1, 556) := rfl
theorem K_7_158 : zlk zmls 7 158 = some (0, 17, 0, 579) := rfl
theorem K_8_173 : zlk zmls 8 173 = some (0, 144, 1, 1056) := rfl
theorem Zm_144 : zms[144]? = some zm_X8_turns := rfl
theorem J_8_159 : zlk zcJs 8 159 = some (99, 1030) := rfl
theorem cl_X7_rest : zm_X7_rest.2.2.2.2.1 = 7 := by
  unfold zm_X7_rest
  rfl
theorem cn_X7_rest : zm_X7_rest.2.2.2.2.1 ≠ 12 := by
  rw [cl_X7_rest]
  decide
theorem cn2_X7_rest : zm_X7_rest.2.2.2.2.1 ≠ 2 := by
  rw [cl_X7_rest]
  decide
theorem cl_X7_turn : zm_X7_turn.2.2.2.2.1 = 7 := by
  unfold zm_X7_turn
  rfl
theorem cn_X7_turn : zm_X7_turn.2.2.2.2.1 ≠ 12 := by
  rw [cl_X7_turn]
  decide
theorem cn2_X7_turn : zm_X7_turn.2.2.2.2.1 ≠ 2 := by
  rw [cl_X7_turn]
  decide
theorem zin_all1 {x y : Int32} {c : Nat} (hy : y = Int32.ofNat c) (hc : c ≤ 5) {a : Int64} (ha : a.toInt = 1) : zin64 x.toInt64 a ((1 : Int32) <<< (y &&& 31) - 1).toInt64 = if 0 < x ∧ x < (1 : Int32) <<< (y &&& 31) then 1 else 0 := by
  obtain ⟨q1, q2, q3⟩ := zsh_c c hc
  rw [hy, q1, zin_32, ha, Int32.toInt_toInt64, zofn_m1 (by omega)]
  have e1 : 0 < x ↔ 0 < x.toInt := Int32.lt_iff_toInt_lt
  have e2 : x < Int32.ofNat (2 ^ c) ↔ x.toInt < ((2 ^ c : Nat) : Int) := by rw [Int32.lt_iff_toInt_lt, zofn_t (by omega)]
  by_cases h1 : 0 < x
  · by_cases h2 : x < Int32.ofNat (2 ^ c)
    · rw [if_pos ⟨by have := e1.mp h1; omega, by have := e2.mp h2; omega⟩, if_pos ⟨h1, h2⟩]
    · rw [if_neg (fun w => h2 (e2.mpr (by omega))), if_neg (fun w => h2 w.2)]
  · rw [if_neg (fun w => h1 (e1.mpr (by omega))), if_neg (fun w => h1 w.1)]
/-- a set of ones that there are -/
abbrev zAs (x : Int32) (c : Nat) : Prop := 0 < x ∧ x < (1 : Int32) <<< (Int32.ofNat c &&& 31)
theorem LV_mn {m : zM} {k c : Nat} {g : Nat → Int32} (h : LV m k c g) : zmn (zcf m k) c = zmn (gcn g) c := zmn_g c (fun i hi => LV_c h hi)
/-- n rests -/
def gRests : Nat → (Nat → Int32) → Nat → Int32
  | 0, g => g
  | n + 1, g => gRests n (gRest g)
theorem gok_rs {c : Nat} : ∀ (n : Nat) {g : Nat → Int32}, gok g c → gok (gRests n g) c
  | 0, _, h => h
  | n + 1, _, h => gok_rs n (gok_r h)
theorem t_X7_turn {d : Nat} {m : zM} {r : Option Value} {h' : zHp} {s : Int32} {c : Nat} {g : Nat → Int32} (hL : LV m 11 c g) (hg : gok g c) (H : zE none d zm_X7_turn 0 [.ref 0, .int s] [] m r h') : ∃ m1 v, r = some (.int v) ∧ h' = zhp m1 ∧ ((¬ zAs s c ∧ v = -1 ∧ m1 = m) ∨ (zAs s c ∧ v = gTry1 g c s ∧ LV m1 11 c (gTry2 g c s) ∧ ∀ a b, ¬ (11 ≤ a ∧ a ≤ 11 + 7) → m1 a b = m a b)) := by
  replace H := i_aln (q := 1) H I_X7_turn_0 rfl rfl
  replace H := i_gfr (q := 4) H I_X7_turn_1 G_7_19 cn_X7_turn LY_0 rfl rfl
  replace H := i_iln (q := 5) H I_X7_turn_4 rfl rfl
  have W := i_cv1 0 (q := 8) H I_X7_turn_5 K_7_152 Zm_4 rfl rfl
  clear H
  obtain ⟨r1, h1, Hc, K1, K2⟩ := W
  obtain ⟨e1, e2⟩ := t_X0_hasAll lkk_11 Hc
  have H := K1 _ _ e1 e2
  clear e1 e2 Hc K1 K2
  have W := i_if_eq (t := 22) (q := 11) H I_X7_turn_8 (by decide) rfl
  clear H
  rcases W with ⟨c_8, H⟩ | ⟨c_8, H⟩
  · skip
    replace H := i_icst (x := (-1)) (q := 23) H I_X7_turn_22 (by decide) rfl
    obtain ⟨hr, hh⟩ := i_ir H I_X7_turn_23
    rw [hL.1] at c_8
    exact ⟨_, _, hr, hh, Or.inl ⟨zif0 c_8, rfl, rfl⟩⟩
  · skip
    replace H := i_aln (q := 12) H I_X7_turn_11 rfl rfl
    replace H := i_gfr (q := 15) H I_X7_turn_12 G_7_19 cn_X7_turn LY_0 rfl rfl
    replace H := i_iln (q := 16) H I_X7_turn_15 rfl rfl
    have W := i_cv1 1 (q := 19) H I_X7_turn_16 K_7_155 Zm_16 rfl rfl
    clear H
    obtain ⟨r1, h1, Hc, K1, K2⟩ := W
    obtain ⟨M_16, e1, e2, F_16⟩ := t_X0_attempt (Or.inr (Or.inl rfl)) hL hg Hc
    have H := K1 _ _ e1 e2
    clear e1 e2 Hc K1 K2
    replace H := i_goto (q := 23) H I_X7_turn_19 (by decide)
    obtain ⟨hr, hh⟩ := i_ir H I_X7_turn_23
    rw [hL.1] at c_8
    exact ⟨_, _, hr, hh, Or.inr ⟨zif1 c_8, rfl, F_16.1, F_16.2⟩⟩
theorem t_X8_turns {d : Nat} {m : zM} {r : Option Value} {h' : zHp} {s : Int32} {c : Nat} {g : Nat → Int32} (hP : PG m 0 g) (hg : gok g c) (hc : m 71 2 = Int32.ofNat c) (hM : zMk m) (H : zE none d zm_X8_turns 0 [.ref 71, .int s] [] m r h') : ∃ m1 v, r = some (.int v) ∧ h' = zhp m1 ∧ ((¬ zAs s c ∧ v = -1 ∧ m1 = m) ∨ (zAs s c ∧ v = gTry1 g c s ∧ PG m1 0 (gTry2 g c s) ∧ ∀ a b, ¬ (a = 72 ∧ 0 ≤ b ∧ b < 0 + 27) → m1 a b = m a b)) := by
  replace H := i_iln (q := 1) H I_X8_turns_0 rfl rfl
  replace H := i_i2l (q := 2) H I_X8_turns_1 rfl
  replace H := i_lcst (x := 1) (q := 3) H I_X8_turns_2 (by decide) rfl
  replace H := i_aln (q := 4) H I_X8_turns_3 rfl rfl
  have W := i_cv0 0 (q := 7) H I_X8_turns_4 K_8_167 Zm_139 rfl rfl
  clear H
  obtain ⟨r1, h1, Hc, K1, K2⟩ := W
  obtain ⟨e1, e2⟩ := t_X8_all Hc
  have H := K1 _ _ e1 e2
  clear e1 e2 Hc K1 K2
  replace H := i_i2l (q := 8) H I_X8_turns_7 rfl
  replace H := i_in (q := 11) H I_X8_turns_8 K_8_55 rfl
  have W := i_if_eq (t := 23) (q := 14) H I_X8_turns_11 (by decide) rfl
  clear H
  rcases W with ⟨c_11, H⟩ | ⟨c_11, H⟩
  · skip
    replace H := i_icst (x := (-1)) (q := 24) H I_X8_turns_23 (by decide) rfl
    obtain ⟨hr, hh⟩ := i_ir H I_X8_turns_24
    rw [zin_all1 hc hg.1 rfl, hc] at c_11
    exact ⟨_, _, hr, hh, Or.inl ⟨zif0 c_11, rfl, rfl⟩⟩
  · skip
    replace H := i_aln (q := 15) H I_X8_turns_14 rfl rfl
    replace H := i_icst (x := 0) (q := 16) H I_X8_turns_15 (by decide) rfl
    replace H := i_iln (q := 17) H I_X8_turns_16 rfl rfl
    have W := i_cv2 3 (q := 20) H I_X8_turns_17 K_8_170 Zm_142 rfl rfl
    clear H
    obtain ⟨r1, h1, Hc, K1, K2⟩ := W
    obtain ⟨M_17, e1, e2, F_17⟩ := t_X8_triesOn (pg := 0) hP hg hc hM Hc
    have H := K1 _ _ e1 e2
    clear e1 e2 Hc K1 K2
    replace H := i_goto (q := 24) H I_X8_turns_20 (by decide)
    obtain ⟨hr, hh⟩ := i_ir H I_X8_turns_24
    rw [zin_all1 hc hg.1 rfl, hc] at c_11
    exact ⟨_, _, hr, hh, Or.inr ⟨zif1 c_11, rfl, F_17.1, F_17.2⟩⟩
theorem t_X8_turn {d : Nat} {m : zM} {r : Option Value} {h' : zHp} {s : Int32} {c : Nat} {g : Nat → Int32} (hP : PG m 0 g) (hg : gok g c) (hc : m 71 2 = Int32.ofNat c) (hM : zMk m) (H : zE none d zm_X8_turn 0 [.ref 71, .int s] [] m r h') : ∃ m1 v, r = some (.int v) ∧ h' = zhp m1 ∧ ((¬ zAs s c ∧ v = -1 ∧ m1 = m) ∨ (zAs s c ∧ v = gTry1 g c s ∧ PG m1 0 (gTry2 g c s) ∧ ∀ a b, ¬ (a = 72 ∧ 0 ≤ b ∧ b < 0 + 27) → m1 a b = m a b)) := by
  replace H := i_aln (q := 1) H I_X8_turn_0 rfl rfl
  replace H := i_iln (q := 2) H I_X8_turn_1 rfl rfl
  have W := i_cv1 0 (q := 5) H I_X8_turn_2 K_8_173 Zm_144 rfl rfl
  clear H
  obtain ⟨r1, h1, Hc, K1, K2⟩ := W
  obtain ⟨m1, v, e1, e2, F_2⟩ := t_X8_turns hP hg hc hM Hc
  have H := K1 _ _ e1 e2
  clear e1 e2 Hc K1 K2
  obtain ⟨hr, hh⟩ := i_ir H I_X8_turn_5
  exact ⟨m1, v, hr, hh, F_2⟩
theorem rs_7 {c n : Nat} (hn : n ≤ 99) : ∀ (j i : Nat) (g : Nat → Int32) (d : Nat) (r : Option Value) (h' : zHp) (m : zM), i + j = n → LV m 11 c g → gok g c → zE none d zm_X7_rest 14 [.ref 0, .int (Int32.ofNat n), .int (Int32.ofNat i)] [] m r h' → ∃ m1, r = some (.int (zmn (gcn (gRests j g)) c)) ∧ h' = zhp m1 ∧ LV m1 11 c (gRests j g) ∧ ∀ a b, ¬ (11 ≤ a ∧ a ≤ 11 + 7) → m1 a b = m a b := by
  intro j
  induction j with
  | zero =>
    intro i g d r h' m hj hL hg H
    replace H := i_iln (q := 15) H I_X7_rest_14 rfl rfl
    replace H := i_iln (q := 16) H I_X7_rest_15 rfl rfl
    have W := i_ic_ge (t := 32) (q := 19) H I_X7_rest_16 (by decide) rfl
    clear H
    rcases W with ⟨c_16, H⟩ | ⟨c_16, H⟩
    · skip
      replace H := i_aln (q := 33) H I_X7_rest_32 rfl rfl
      replace H := i_gfr (q := 36) H I_X7_rest_33 G_7_19 cn_X7_rest LY_0 rfl rfl
      have W := i_cv0 3 (q := 39) H I_X7_rest_36 K_7_106 Zm_10 rfl rfl
      clear H
      obtain ⟨r1, h1, Hc, K1, K2⟩ := W
      obtain ⟨e1, e2⟩ := t_X0_least (Or.inr (Or.inl rfl)) hL.1 hL.2.1 Hc
      have H := K1 _ _ e1 e2
      clear e1 e2 Hc K1 K2
      obtain ⟨hr, hh⟩ := i_ir H I_X7_rest_39
      have e : n - i = 0 := by omega
      rw [LV_mn hL] at hr
      exact ⟨m, hr, hh, hL, fun _ _ _ => rfl⟩
    · skip
      replace H := i_aln (q := 20) H I_X7_rest_19 rfl rfl
      replace H := i_gfr (q := 23) H I_X7_rest_20 G_7_19 cn_X7_rest LY_0 rfl rfl
      have W := i_cv0 1 (q := 26) H I_X7_rest_23 K_7_158 Zm_17 rfl rfl
      clear H
      obtain ⟨r1, h1, Hc, K1, K2⟩ := W
      obtain ⟨M_23, e1, e2, F_23⟩ := t_X0_calm (Or.inr (Or.inl rfl)) hL hg Hc
      have H := K2 _ e1 e2
      clear e1 e2 Hc K1 K2
      replace H := i_inc (q := 29) H I_X7_rest_26 rfl rfl rfl
      replace H := i_goto (q := 14) H I_X7_rest_29 (by decide)
      exfalso
      exact absurd ((zofn_lt (by omega) (by omega)).mp c_16) (by omega)
  | succ j ih =>
    intro i g d r h' m hj hL hg H
    replace H := i_iln (q := 15) H I_X7_rest_14 rfl rfl
    replace H := i_iln (q := 16) H I_X7_rest_15 rfl rfl
    have W := i_ic_ge (t := 32) (q := 19) H I_X7_rest_16 (by decide) rfl
    clear H
    rcases W with ⟨c_16, H⟩ | ⟨c_16, H⟩
    · skip
      replace H := i_aln (q := 33) H I_X7_rest_32 rfl rfl
      replace H := i_gfr (q := 36) H I_X7_rest_33 G_7_19 cn_X7_rest LY_0 rfl rfl
      have W := i_cv0 3 (q := 39) H I_X7_rest_36 K_7_106 Zm_10 rfl rfl
      clear H
      obtain ⟨r1, h1, Hc, K1, K2⟩ := W
      obtain ⟨e1, e2⟩ := t_X0_least (Or.inr (Or.inl rfl)) hL.1 hL.2.1 Hc
      have H := K1 _ _ e1 e2
      clear e1 e2 Hc K1 K2
      obtain ⟨hr, hh⟩ := i_ir H I_X7_rest_39
      exfalso
      exact c_16 ((zofn_lt (by omega) (by omega)).mpr (by omega))
    · skip
      replace H := i_aln (q := 20) H I_X7_rest_19 rfl rfl
      replace H := i_gfr (q := 23) H I_X7_rest_20 G_7_19 cn_X7_rest LY_0 rfl rfl
      have W := i_cv0 1 (q := 26) H I_X7_rest_23 K_7_158 Zm_17 rfl rfl
      clear H
      obtain ⟨r1, h1, Hc, K1, K2⟩ := W
      obtain ⟨M_23, e1, e2, F_23⟩ := t_X0_calm (Or.inr (Or.inl rfl)) hL hg Hc
      have H := K2 _ e1 e2
      clear e1 e2 Hc K1 K2
      replace H := i_inc (q := 29) H I_X7_rest_26 rfl rfl rfl
      replace H := i_goto (q := 14) H I_X7_rest_29 (by decide)
      replace H : zE none d zm_X7_rest 14 [.ref 0, .int (Int32.ofNat n), .int (Int32.ofNat (i + 1))] [] M_23 r h' := by
        rw [zofn_s] at H
        exact H
      obtain ⟨m1, x1, x2, x3, x4⟩ := ih (i + 1) (gRest g) d r h' M_23 (by omega) F_23.1 (gok_r hg) H
      exact ⟨m1, x1, x2, x3, fun a b hab => (x4 a b hab).trans (F_23.2 a b hab)⟩
theorem rs_8 {c n : Nat} (hn : n ≤ 99) : ∀ (j i : Nat) (g : Nat → Int32) (d : Nat) (r : Option Value) (h' : zHp) (m : zM), i + j = n → PG m 0 g → gok g c → m 71 2 = Int32.ofNat c → zE none d zm_X8_rest 16 [.ref 71, .int (Int32.ofNat n), .int (Int32.ofNat i)] [] m r h' → ∃ m1, r = some (.int (zmn (gcn (gRests j g)) c)) ∧ h' = zhp m1 ∧ PG m1 0 (gRests j g) ∧ ∀ a b, ¬ (a = 72 ∧ 0 ≤ b ∧ b < 0 + 27) → m1 a b = m a b := by
  intro j
  induction j with
  | zero =>
    intro i g d r h' m hj hP hg hc H
    replace H := i_iln (q := 17) H I_X8_rest_16 rfl rfl
    replace H := i_iln (q := 18) H I_X8_rest_17 rfl rfl
    have W := i_ic_ge (t := 32) (q := 21) H I_X8_rest_18 (by decide) rfl
    clear H
    rcases W with ⟨c_18, H⟩ | ⟨c_18, H⟩
    · skip
      replace H := i_aln (q := 33) H I_X8_rest_32 rfl rfl
      replace H := i_icst (x := 0) (q := 34) H I_X8_rest_33 (by decide) rfl
      have W := i_cv1 2 (q := 37) H I_X8_rest_34 K_8_144 Zm_130 rfl rfl
      clear H
      obtain ⟨r1, h1, Hc, K1, K2⟩ := W
      obtain ⟨e1, e2⟩ := t_X8_leastOn (pg := 0) hP hg hc Hc
      have H := K1 _ _ e1 e2
      clear e1 e2 Hc K1 K2
      obtain ⟨hr, hh⟩ := i_ir H I_X8_rest_37
      exact ⟨m, hr, hh, hP, fun _ _ _ => rfl⟩
    · skip
      replace H := i_aln (q := 22) H I_X8_rest_21 rfl rfl
      replace H := i_icst (x := 0) (q := 23) H I_X8_rest_22 (by decide) rfl
      have W := i_cv1 1 (q := 26) H I_X8_rest_23 K_8_176 Zm_143 rfl rfl
      clear H
      obtain ⟨r1, h1, Hc, K1, K2⟩ := W
      obtain ⟨M_23, e1, e2, F_23⟩ := t_X8_restsOn (pg := 0) hP Hc
      have H := K2 _ e1 e2
      clear e1 e2 Hc K1 K2
      replace H := i_inc (q := 29) H I_X8_rest_26 rfl rfl rfl
      replace H := i_goto (q := 16) H I_X8_rest_29 (by decide)
      exfalso
      exact absurd ((zofn_lt (by omega) (by omega)).mp c_18) (by omega)
  | succ j ih =>
    intro i g d r h' m hj hP hg hc H
    replace H := i_iln (q := 17) H I_X8_rest_16 rfl rfl
    replace H := i_iln (q := 18) H I_X8_rest_17 rfl rfl
    have W := i_ic_ge (t := 32) (q := 21) H I_X8_rest_18 (by decide) rfl
    clear H
    rcases W with ⟨c_18, H⟩ | ⟨c_18, H⟩
    · skip
      replace H := i_aln (q := 33) H I_X8_rest_32 rfl rfl
      replace H := i_icst (x := 0) (q := 34) H I_X8_rest_33 (by decide) rfl
      have W := i_cv1 2 (q := 37) H I_X8_rest_34 K_8_144 Zm_130 rfl rfl
      clear H
      obtain ⟨r1, h1, Hc, K1, K2⟩ := W
      obtain ⟨e1, e2⟩ := t_X8_leastOn (pg := 0) hP hg hc Hc
      have H := K1 _ _ e1 e2
      clear e1 e2 Hc K1 K2
      obtain ⟨hr, hh⟩ := i_ir H I_X8_rest_37
      exfalso
      exact c_18 ((zofn_lt (by omega) (by omega)).mpr (by omega))
    · skip
      replace H := i_aln (q := 22) H I_X8_rest_21 rfl rfl
      replace H := i_icst (x := 0) (q := 23) H I_X8_rest_22 (by decide) rfl
      have W := i_cv1 1 (q := 26) H I_X8_rest_23 K_8_176 Zm_143 rfl rfl
      clear H
      obtain ⟨r1, h1, Hc, K1, K2⟩ := W
      obtain ⟨M_23, e1, e2, F_23⟩ := t_X8_restsOn (pg := 0) hP Hc
      have H := K2 _ e1 e2
      clear e1 e2 Hc K1 K2
      replace H := i_inc (q := 29) H I_X8_rest_26 rfl rfl rfl
      replace H := i_goto (q := 16) H I_X8_rest_29 (by decide)
      replace H : zE none d zm_X8_rest 16 [.ref 71, .int (Int32.ofNat n), .int (Int32.ofNat (i + 1))] [] M_23 r h' := by
        rw [zofn_s] at H
        exact H
      obtain ⟨m1, x1, x2, x3, x4⟩ := ih (i + 1) (gRest g) d r h' M_23 (by omega) F_23.1 (gok_r hg) (by rw [F_23.2 71 2 (by omega)]; exact hc) H
      exact ⟨m1, x1, x2, x3, fun a b hab => (x4 a b hab).trans (F_23.2 a b hab)⟩
theorem zbt_99 {x : Int32} (h : zBt x 0 99) : ∃ n, n ≤ 99 ∧ x = Int32.ofNat n ∧ x.toNatClampNeg = n := by
  obtain ⟨n, n1, rfl⟩ := zbt_n (n := 99) rfl (by omega) h
  exact ⟨n, n1, rfl, Int32.toNatClampNeg_ofNat_of_lt (by omega)⟩
theorem t_X7_rest {d : Nat} {m : zM} {r : Option Value} {h' : zHp} {x : Int32} {c : Nat} {g : Nat → Int32} (hL : LV m 11 c g) (hg : gok g c) (H : zE none d zm_X7_rest 0 [.ref 0, .int x, .null] [] m r h') : ∃ m1 v, r = some (.int v) ∧ h' = zhp m1 ∧ ((¬ zBt x 0 99 ∧ v = -1 ∧ m1 = m) ∨ (zBt x 0 99 ∧ v = zmn (gcn (gRests x.toNatClampNeg g)) c ∧ LV m1 11 c (gRests x.toNatClampNeg g) ∧ ∀ a b, ¬ (11 ≤ a ∧ a ≤ 11 + 7) → m1 a b = m a b)) := by
  replace H := i_iln (q := 1) H I_X7_rest_0 rfl rfl
  have W := i_if_lt (t := 10) (q := 4) H I_X7_rest_1 (by decide) rfl
  clear H
  rcases W with ⟨c_1, H⟩ | ⟨c_1, H⟩
  · skip
    replace H := i_icst (x := (-1)) (q := 11) H I_X7_rest_10 (by decide) rfl
    obtain ⟨hr, hh⟩ := i_ir H I_X7_rest_11
    exact ⟨_, _, hr, hh, Or.inl ⟨fun w => w.1 c_1, rfl, rfl⟩⟩
  · skip
    replace H := i_iln (q := 5) H I_X7_rest_4 rfl rfl
    replace H := i_bip (x := 99) (q := 7) H I_X7_rest_5 (by decide) rfl
    have W := i_ic_le (t := 12) (q := 10) H I_X7_rest_7 (by decide) rfl
    clear H
    rcases W with ⟨c_7, H⟩ | ⟨c_7, H⟩
    · skip
      replace H := i_icst (x := 0) (q := 13) H I_X7_rest_12 (by decide) rfl
      replace H := i_isn (q := 14) H I_X7_rest_13 rfl rfl
      obtain ⟨n, n1, rfl, n2⟩ := zbt_99 (x := x) ⟨c_1, c_7⟩
      obtain ⟨m1, x1, x2, x3, x4⟩ := rs_7 (c := c) n1 n 0 g d r h' m (by omega) hL hg H
      exact ⟨m1, _, x1, x2, Or.inr ⟨⟨c_1, c_7⟩, by rw [n2], by rw [n2]; exact x3, x4⟩⟩
    · skip
      replace H := i_icst (x := (-1)) (q := 11) H I_X7_rest_10 (by decide) rfl
      obtain ⟨hr, hh⟩ := i_ir H I_X7_rest_11
      exact ⟨_, _, hr, hh, Or.inl ⟨fun w => w.2 c_7, rfl, rfl⟩⟩
theorem t_X8_rest {d : Nat} {m : zM} {r : Option Value} {h' : zHp} {x : Int32} {c : Nat} {g : Nat → Int32} (hP : PG m 0 g) (hg : gok g c) (hc : m 71 2 = Int32.ofNat c) (H : zE none d zm_X8_rest 0 [.ref 71, .int x, .null] [] m r h') : ∃ m1 v, r = some (.int v) ∧ h' = zhp m1 ∧ ((¬ zBt x 0 99 ∧ v = -1 ∧ m1 = m) ∨ (zBt x 0 99 ∧ v = zmn (gcn (gRests x.toNatClampNeg g)) c ∧ PG m1 0 (gRests x.toNatClampNeg g) ∧ ∀ a b, ¬ (a = 72 ∧ 0 ≤ b ∧ b < 0 + 27) → m1 a b = m a b)) := by
  replace H := i_iln (q := 1) H I_X8_rest_0 rfl rfl
  replace H := i_i2l (q := 2) H I_X8_rest_1 rfl
  replace H := i_lcst (x := 0) (q := 3) H I_X8_rest_2 (by decide) rfl
  replace H := i_ldc2 (x := 99) (q := 6) H I_X8_rest_3 J_8_159 (by decide) rfl
  replace H := i_in (q := 9) H I_X8_rest_6 K_8_55 rfl
  have W := i_if_ne (t := 14) (q := 12) H I_X8_rest_9 (by decide) rfl
  clear H
  rcases W with ⟨c_9, H⟩ | ⟨c_9, H⟩
  · skip
    replace H := i_icst (x := 0) (q := 15) H I_X8_rest_14 (by decide) rfl
    replace H := i_isn (q := 16) H I_X8_rest_15 rfl rfl
    rw [zin_bt (lo := 0) (hi := 99) rfl rfl] at c_9
    have hb := zif1 c_9
    obtain ⟨n, n1, rfl, n2⟩ := zbt_99 hb
    obtain ⟨m1, x1, x2, x3, x4⟩ := rs_8 (c := c) n1 n 0 g d r h' m (by omega) hP hg hc H
    exact ⟨m1, _, x1, x2, Or.inr ⟨hb, by rw [n2], by rw [n2]; exact x3, x4⟩⟩
  · skip
    replace H := i_icst (x := (-1)) (q := 13) H I_X8_rest_12 (by decide) rfl
    obtain ⟨hr, hh⟩ := i_ir H I_X8_rest_13
    rw [zin_bt (lo := 0) (hi := 99) rfl rfl] at c_9
    exact ⟨_, _, hr, hh, Or.inl ⟨zif0 c_9, rfl, rfl⟩⟩
