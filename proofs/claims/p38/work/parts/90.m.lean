section
/-! the plan carried out -/
theorem It_J7_fill_53178 : zm_J7_fill_53178.2.2.2.2.2 = zt_J7_fill_53178 := by
  unfold zm_J7_fill_53178
  rfl
theorem It_X3_note : zm_X3_note.2.2.2.2.2 = zt_X3_note := by
  unfold zm_X3_note
  rfl
theorem It_X3_play : zm_X3_play.2.2.2.2.2 = zt_X3_play := by
  unfold zm_X3_play
  rfl
theorem I_J7_fill_53178_0 : zin zm_J7_fill_53178.2.2.2.2.2 0 = some (.iconst 0, 1) := by rw [It_J7_fill_53178]; rfl
theorem I_J7_fill_53178_1 : zin zm_J7_fill_53178.2.2.2.2.2 1 = some (.istore_n 2, 1) := by rw [It_J7_fill_53178]; rfl
theorem I_J7_fill_53178_2 : zin zm_J7_fill_53178.2.2.2.2.2 2 = some (.aload_n 0, 1) := by rw [It_J7_fill_53178]; rfl
theorem I_J7_fill_53178_3 : zin zm_J7_fill_53178.2.2.2.2.2 3 = some (.arraylength, 1) := by rw [It_J7_fill_53178]; rfl
theorem I_J7_fill_53178_4 : zin zm_J7_fill_53178.2.2.2.2.2 4 = some (.istore_n 3, 1) := by rw [It_J7_fill_53178]; rfl
theorem I_J7_fill_53178_5 : zin zm_J7_fill_53178.2.2.2.2.2 5 = some (.iload_n 2, 1) := by rw [It_J7_fill_53178]; rfl
theorem I_J7_fill_53178_6 : zin zm_J7_fill_53178.2.2.2.2.2 6 = some (.iload_n 3, 1) := by rw [It_J7_fill_53178]; rfl
theorem I_J7_fill_53178_7 : zin zm_J7_fill_53178.2.2.2.2.2 7 = some (.if_icmp .ge 13, 3) := by rw [It_J7_fill_53178]; rfl
theorem I_J7_fill_53178_10 : zin zm_J7_fill_53178.2.2.2.2.2 10 = some (.aload_n 0, 1) := by rw [It_J7_fill_53178]; rfl
theorem I_J7_fill_53178_11 : zin zm_J7_fill_53178.2.2.2.2.2 11 = some (.iload_n 2, 1) := by rw [It_J7_fill_53178]; rfl
theorem I_J7_fill_53178_12 : zin zm_J7_fill_53178.2.2.2.2.2 12 = some (.iload_n 1, 1) := by rw [It_J7_fill_53178]; rfl
theorem I_J7_fill_53178_13 : zin zm_J7_fill_53178.2.2.2.2.2 13 = some (.iastore, 1) := by rw [It_J7_fill_53178]; rfl
theorem I_J7_fill_53178_14 : zin zm_J7_fill_53178.2.2.2.2.2 14 = some (.iinc 2 1, 3) := by rw [It_J7_fill_53178]; rfl
theorem I_J7_fill_53178_17 : zin zm_J7_fill_53178.2.2.2.2.2 17 = some (.goto (-12), 3) := by rw [It_J7_fill_53178]; rfl
theorem I_J7_fill_53178_20 : zin zm_J7_fill_53178.2.2.2.2.2 20 = some (.return_, 1) := by rw [It_J7_fill_53178]; rfl
theorem I_X3_note_0 : zin zm_X3_note.2.2.2.2.2 0 = some (.aload_n 0, 1) := by rw [It_X3_note]; rfl
theorem I_X3_note_1 : zin zm_X3_note.2.2.2.2.2 1 = some (.getfield 18, 3) := by rw [It_X3_note]; rfl
theorem I_X3_note_4 : zin zm_X3_note.2.2.2.2.2 4 = some (.iload_n 1, 1) := by rw [It_X3_note]; rfl
theorem I_X3_note_5 : zin zm_X3_note.2.2.2.2.2 5 = some (.iaload, 1) := by rw [It_X3_note]; rfl
theorem I_X3_note_6 : zin zm_X3_note.2.2.2.2.2 6 = some (.bipush (-4), 2) := by rw [It_X3_note]; rfl
theorem I_X3_note_8 : zin zm_X3_note.2.2.2.2.2 8 = some (.if_icmp .eq 33, 3) := by rw [It_X3_note]; rfl
theorem I_X3_note_11 : zin zm_X3_note.2.2.2.2.2 11 = some (.aload_n 0, 1) := by rw [It_X3_note]; rfl
theorem I_X3_note_12 : zin zm_X3_note.2.2.2.2.2 12 = some (.dup, 1) := by rw [It_X3_note]; rfl
theorem I_X3_note_13 : zin zm_X3_note.2.2.2.2.2 13 = some (.getfield 22, 3) := by rw [It_X3_note]; rfl
theorem I_X3_note_16 : zin zm_X3_note.2.2.2.2.2 16 = some (.iconst 1, 1) := by rw [It_X3_note]; rfl
theorem I_X3_note_17 : zin zm_X3_note.2.2.2.2.2 17 = some (.iadd, 1) := by rw [It_X3_note]; rfl
theorem I_X3_note_18 : zin zm_X3_note.2.2.2.2.2 18 = some (.putfield 22, 3) := by rw [It_X3_note]; rfl
theorem I_X3_note_21 : zin zm_X3_note.2.2.2.2.2 21 = some (.aload_n 0, 1) := by rw [It_X3_note]; rfl
theorem I_X3_note_22 : zin zm_X3_note.2.2.2.2.2 22 = some (.dup, 1) := by rw [It_X3_note]; rfl
theorem I_X3_note_23 : zin zm_X3_note.2.2.2.2.2 23 = some (.getfield 26, 3) := by rw [It_X3_note]; rfl
theorem I_X3_note_26 : zin zm_X3_note.2.2.2.2.2 26 = some (.iconst 1, 1) := by rw [It_X3_note]; rfl
theorem I_X3_note_27 : zin zm_X3_note.2.2.2.2.2 27 = some (.aload_n 0, 1) := by rw [It_X3_note]; rfl
theorem I_X3_note_28 : zin zm_X3_note.2.2.2.2.2 28 = some (.getfield 18, 3) := by rw [It_X3_note]; rfl
theorem I_X3_note_31 : zin zm_X3_note.2.2.2.2.2 31 = some (.iload_n 1, 1) := by rw [It_X3_note]; rfl
theorem I_X3_note_32 : zin zm_X3_note.2.2.2.2.2 32 = some (.iaload, 1) := by rw [It_X3_note]; rfl
theorem I_X3_note_33 : zin zm_X3_note.2.2.2.2.2 33 = some (.ishl, 1) := by rw [It_X3_note]; rfl
theorem I_X3_note_34 : zin zm_X3_note.2.2.2.2.2 34 = some (.ior, 1) := by rw [It_X3_note]; rfl
theorem I_X3_note_35 : zin zm_X3_note.2.2.2.2.2 35 = some (.putfield 26, 3) := by rw [It_X3_note]; rfl
theorem I_X3_note_38 : zin zm_X3_note.2.2.2.2.2 38 = some (.goto 17, 3) := by rw [It_X3_note]; rfl
theorem I_X3_note_41 : zin zm_X3_note.2.2.2.2.2 41 = some (.aload_n 0, 1) := by rw [It_X3_note]; rfl
theorem I_X3_note_42 : zin zm_X3_note.2.2.2.2.2 42 = some (.getfield 29, 3) := by rw [It_X3_note]; rfl
theorem I_X3_note_45 : zin zm_X3_note.2.2.2.2.2 45 = some (.bipush (-4), 2) := by rw [It_X3_note]; rfl
theorem I_X3_note_47 : zin zm_X3_note.2.2.2.2.2 47 = some (.if_icmp .ne 8, 3) := by rw [It_X3_note]; rfl
theorem I_X3_note_50 : zin zm_X3_note.2.2.2.2.2 50 = some (.aload_n 0, 1) := by rw [It_X3_note]; rfl
theorem I_X3_note_51 : zin zm_X3_note.2.2.2.2.2 51 = some (.iload_n 1, 1) := by rw [It_X3_note]; rfl
theorem I_X3_note_52 : zin zm_X3_note.2.2.2.2.2 52 = some (.putfield 29, 3) := by rw [It_X3_note]; rfl
theorem I_X3_note_55 : zin zm_X3_note.2.2.2.2.2 55 = some (.return_, 1) := by rw [It_X3_note]; rfl
theorem I_X3_play_27 : zin zm_X3_play.2.2.2.2.2 27 = some (.iload_n 2, 1) := by rw [It_X3_play]; rfl
theorem I_X3_play_28 : zin zm_X3_play.2.2.2.2.2 28 = some (.aload_n 0, 1) := by rw [It_X3_play]; rfl
theorem I_X3_play_29 : zin zm_X3_play.2.2.2.2.2 29 = some (.getfield 12, 3) := by rw [It_X3_play]; rfl
theorem I_X3_play_32 : zin zm_X3_play.2.2.2.2.2 32 = some (.getfield 38, 3) := by rw [It_X3_play]; rfl
theorem I_X3_play_35 : zin zm_X3_play.2.2.2.2.2 35 = some (.if_icmp .ge 60, 3) := by rw [It_X3_play]; rfl
theorem I_X3_play_38 : zin zm_X3_play.2.2.2.2.2 38 = some (.aload_n 0, 1) := by rw [It_X3_play]; rfl
theorem I_X3_play_39 : zin zm_X3_play.2.2.2.2.2 39 = some (.getfield 12, 3) := by rw [It_X3_play]; rfl
theorem I_X3_play_42 : zin zm_X3_play.2.2.2.2.2 42 = some (.getfield 41, 3) := by rw [It_X3_play]; rfl
theorem I_X3_play_45 : zin zm_X3_play.2.2.2.2.2 45 = some (.iload_n 2, 1) := by rw [It_X3_play]; rfl
theorem I_X3_play_46 : zin zm_X3_play.2.2.2.2.2 46 = some (.iaload, 1) := by rw [It_X3_play]; rfl
theorem I_X3_play_47 : zin zm_X3_play.2.2.2.2.2 47 = some (.istore_n 3, 1) := by rw [It_X3_play]; rfl
theorem I_X3_play_48 : zin zm_X3_play.2.2.2.2.2 48 = some (.iload_n 3, 1) := by rw [It_X3_play]; rfl
theorem I_X3_play_49 : zin zm_X3_play.2.2.2.2.2 49 = some (.ifCond .ne 13, 3) := by rw [It_X3_play]; rfl
theorem I_X3_play_52 : zin zm_X3_play.2.2.2.2.2 52 = some (.aload_n 0, 1) := by rw [It_X3_play]; rfl
theorem I_X3_play_53 : zin zm_X3_play.2.2.2.2.2 53 = some (.getfield 12, 3) := by rw [It_X3_play]; rfl
theorem I_X3_play_56 : zin zm_X3_play.2.2.2.2.2 56 = some (.invokevirtual 44, 3) := by rw [It_X3_play]; rfl
theorem I_X3_play_59 : zin zm_X3_play.2.2.2.2.2 59 = some (.goto 30, 3) := by rw [It_X3_play]; rfl
theorem I_X3_play_62 : zin zm_X3_play.2.2.2.2.2 62 = some (.iload_n 3, 1) := by rw [It_X3_play]; rfl
theorem I_X3_play_63 : zin zm_X3_play.2.2.2.2.2 63 = some (.iload_n 1, 1) := by rw [It_X3_play]; rfl
theorem I_X3_play_64 : zin zm_X3_play.2.2.2.2.2 64 = some (.iand, 1) := by rw [It_X3_play]; rfl
theorem I_X3_play_65 : zin zm_X3_play.2.2.2.2.2 65 = some (.ifCond .eq 24, 3) := by rw [It_X3_play]; rfl
theorem I_X3_play_68 : zin zm_X3_play.2.2.2.2.2 68 = some (.aload_n 0, 1) := by rw [It_X3_play]; rfl
theorem I_X3_play_69 : zin zm_X3_play.2.2.2.2.2 69 = some (.getfield 18, 3) := by rw [It_X3_play]; rfl
theorem I_X3_play_72 : zin zm_X3_play.2.2.2.2.2 72 = some (.iload_n 2, 1) := by rw [It_X3_play]; rfl
theorem I_X3_play_73 : zin zm_X3_play.2.2.2.2.2 73 = some (.aload_n 0, 1) := by rw [It_X3_play]; rfl
theorem I_X3_play_74 : zin zm_X3_play.2.2.2.2.2 74 = some (.getfield 12, 3) := by rw [It_X3_play]; rfl
theorem I_X3_play_77 : zin zm_X3_play.2.2.2.2.2 77 = some (.iload_n 3, 1) := by rw [It_X3_play]; rfl
theorem I_X3_play_78 : zin zm_X3_play.2.2.2.2.2 78 = some (.iload_n 1, 1) := by rw [It_X3_play]; rfl
theorem I_X3_play_79 : zin zm_X3_play.2.2.2.2.2 79 = some (.iand, 1) := by rw [It_X3_play]; rfl
theorem I_X3_play_80 : zin zm_X3_play.2.2.2.2.2 80 = some (.invokevirtual 47, 3) := by rw [It_X3_play]; rfl
theorem I_X3_play_83 : zin zm_X3_play.2.2.2.2.2 83 = some (.iastore, 1) := by rw [It_X3_play]; rfl
theorem I_X3_play_84 : zin zm_X3_play.2.2.2.2.2 84 = some (.aload_n 0, 1) := by rw [It_X3_play]; rfl
theorem I_X3_play_85 : zin zm_X3_play.2.2.2.2.2 85 = some (.iload_n 2, 1) := by rw [It_X3_play]; rfl
theorem I_X3_play_86 : zin zm_X3_play.2.2.2.2.2 86 = some (.invokevirtual 51, 3) := by rw [It_X3_play]; rfl
theorem I_X3_play_89 : zin zm_X3_play.2.2.2.2.2 89 = some (.iinc 2 1, 3) := by rw [It_X3_play]; rfl
theorem I_X3_play_92 : zin zm_X3_play.2.2.2.2.2 92 = some (.goto (-65), 3) := by rw [It_X3_play]; rfl
theorem I_X3_play_95 : zin zm_X3_play.2.2.2.2.2 95 = some (.aload_n 0, 1) := by rw [It_X3_play]; rfl
theorem I_X3_play_96 : zin zm_X3_play.2.2.2.2.2 96 = some (.getfield 22, 3) := by rw [It_X3_play]; rfl
theorem I_X3_play_99 : zin zm_X3_play.2.2.2.2.2 99 = some (.ireturn, 1) := by rw [It_X3_play]; rfl
theorem G_3_12 : zlk zfls 3 12 = some (3, 0, 207) := rfl
theorem G_3_18 : zlk zfls 3 18 = some (3, 1, 209) := rfl
theorem G_3_22 : zlk zfls 3 22 = some (3, 2, 211) := rfl
theorem G_3_26 : zlk zfls 3 26 = some (3, 3, 213) := rfl
theorem G_3_29 : zlk zfls 3 29 = some (3, 4, 215) := rfl
theorem G_3_38 : zlk zfls 3 38 = some (0, 3, 130) := rfl
theorem G_3_41 : zlk zfls 3 41 = some (0, 1, 122) := rfl
theorem K_3_44 : zlk zmls 3 44 = some (0, 17, 0, 605) := rfl
theorem K_3_47 : zlk zmls 3 47 = some (0, 16, 1, 606) := rfl
theorem K_3_51 : zlk zmls 3 51 = some (0, 45, 1, 607) := rfl
theorem Zm_16 : zms[16]? = some zm_X0_attempt := rfl
theorem Zm_17 : zms[17]? = some zm_X0_calm := rfl
theorem Zm_45 : zms[45]? = some zm_X3_note := rfl
theorem LY_19 : zLY[19]? = some (Sum.inr 3, [some (.ref 20), some (.ref 28), none, none, none]) := rfl
theorem LY_20 : zLY[20]? = some (Sum.inr 0, [some (.ref 21), some (.ref 22), none, none, none, none]) := rfl
theorem LY_22 : zLY[22]? = some (Sum.inl 0, List.replicate 8 none) := rfl
theorem LY_28 : zLY[28]? = some (Sum.inl 0, List.replicate 8 none) := rfl
theorem cl_X3_note : zm_X3_note.2.2.2.2.1 = 3 := by
  unfold zm_X3_note
  rfl
theorem cn_X3_note : zm_X3_note.2.2.2.2.1 ≠ 12 := by
  rw [cl_X3_note]
  decide
theorem cn2_X3_note : zm_X3_note.2.2.2.2.1 ≠ 2 := by
  rw [cl_X3_note]
  decide
theorem cl_X3_play : zm_X3_play.2.2.2.2.1 = 3 := by
  unfold zm_X3_play
  rfl
theorem cn_X3_play : zm_X3_play.2.2.2.2.1 ≠ 12 := by
  rw [cl_X3_play]
  decide
theorem cn2_X3_play : zm_X3_play.2.2.2.2.1 ≠ 2 := by
  rw [cl_X3_play]
  decide
theorem fl_loop {a n : Nat} {t : Nat ⊕ Nat} {v : Int32} (ha : zLY[a]? = some (t, List.replicate n none)) (hn : n ≤ 1000) : ∀ (j i d : Nat) (r : Option Value) (h' : zHp) (m : zM), i + j = n → zE none d zm_J7_fill_53178 5 [.ref a, .int v, .int (Int32.ofNat i), .int (Int32.ofNat n)] [] m r h' → ∃ m1, r = none ∧ h' = zhp m1 ∧ (∀ i', i ≤ i' → i' < n → m1 a i' = v) ∧ ∀ x y, ¬ (x = a ∧ i ≤ y ∧ y < n) → m1 x y = m x y := by
  intro j
  induction j with
  | zero =>
    intro i d r h' m hj H
    replace H := i_iln (q := 6) H I_J7_fill_53178_5 rfl rfl
    replace H := i_iln (q := 7) H I_J7_fill_53178_6 rfl rfl
    have W := i_ic_ge (t := 20) (q := 10) H I_J7_fill_53178_7 (by decide) rfl
    clear H
    rcases W with ⟨c_7, H⟩ | ⟨c_7, H⟩
    · skip
      obtain ⟨hr, hh⟩ := i_rt H I_J7_fill_53178_20
      exact ⟨m, hr, hh, fun i' h1 h2 => by omega, fun x y _ => rfl⟩
    · skip
      replace H := i_aln (q := 11) H I_J7_fill_53178_10 rfl rfl
      replace H := i_iln (q := 12) H I_J7_fill_53178_11 rfl rfl
      replace H := i_iln (q := 13) H I_J7_fill_53178_12 rfl rfl
      have W := i_iast (q := 14) H I_J7_fill_53178_13 ha rfl
      clear H
      obtain ⟨i_13, bi_13, ei_13, H⟩ := W
      replace H := i_inc (q := 17) H I_J7_fill_53178_14 rfl rfl rfl
      replace H := i_goto (q := 5) H I_J7_fill_53178_17 (by decide)
      exfalso
      exact absurd ((zofn_lt (by omega) (by omega)).mp c_7) (by omega)
  | succ j ih =>
    intro i d r h' m hj H
    replace H := i_iln (q := 6) H I_J7_fill_53178_5 rfl rfl
    replace H := i_iln (q := 7) H I_J7_fill_53178_6 rfl rfl
    have W := i_ic_ge (t := 20) (q := 10) H I_J7_fill_53178_7 (by decide) rfl
    clear H
    rcases W with ⟨c_7, H⟩ | ⟨c_7, H⟩
    · skip
      obtain ⟨hr, hh⟩ := i_rt H I_J7_fill_53178_20
      exfalso
      exact c_7 ((zofn_lt (by omega) (by omega)).mpr (by omega))
    · skip
      replace H := i_aln (q := 11) H I_J7_fill_53178_10 rfl rfl
      replace H := i_iln (q := 12) H I_J7_fill_53178_11 rfl rfl
      replace H := i_iln (q := 13) H I_J7_fill_53178_12 rfl rfl
      have W := i_iast (q := 14) H I_J7_fill_53178_13 ha rfl
      clear H
      obtain ⟨i_13, bi_13, ei_13, H⟩ := W
      replace H := i_inc (q := 17) H I_J7_fill_53178_14 rfl rfl rfl
      replace H := i_goto (q := 5) H I_J7_fill_53178_17 (by decide)
      have e : i = i_13 := zofn ei_13 (by omega) (by omega)
      subst e
      replace H : zE none d zm_J7_fill_53178 5 [.ref a, .int v, .int (Int32.ofNat (i + 1)), .int (Int32.ofNat n)] [] (zup m a i v) r h' := by
        rw [zofn_s] at H
        exact H
      obtain ⟨m1, g1, g2, g3, g4⟩ := ih (i + 1) d r h' _ (by omega) H
      refine ⟨m1, g1, g2, fun i' h1 h2 => ?_, fun x y hab => ?_⟩
      · by_cases hi' : i' = i
        · subst hi'
          rw [g4 _ _ (by omega), zup_s]
        · exact g3 i' (by omega) h2
      · rw [g4 x y (by omega), zup_n (by omega)]
theorem t_fill {d : Nat} {m : zM} {r : Option Value} {h' : zHp} {a n : Nat} {t : Nat ⊕ Nat} {v : Int32} (ha : zLY[a]? = some (t, List.replicate n none)) (hn : n ≤ 1000) (H : zE none d zm_J7_fill_53178 0 [.ref a, .int v, .null, .null] [] m r h') : ∃ m1, r = none ∧ h' = zhp m1 ∧ (∀ i, i < n → m1 a i = v) ∧ ∀ x y, ¬ (x = a ∧ y < n) → m1 x y = m x y := by
  replace H := i_icst (x := 0) (q := 1) H I_J7_fill_53178_0 (by decide) rfl
  replace H := i_isn (q := 2) H I_J7_fill_53178_1 rfl rfl
  replace H := i_aln (q := 3) H I_J7_fill_53178_2 rfl rfl
  replace H := i_len (q := 4) H I_J7_fill_53178_3 ha rfl
  replace H := i_isn (q := 5) H I_J7_fill_53178_4 rfl rfl
  replace H : zE none d zm_J7_fill_53178 5 [.ref a, .int v, .int (Int32.ofNat 0), .int (Int32.ofNat n)] [] m r h' := by
    rw [List.length_replicate] at H
    exact H
  obtain ⟨m1, g1, g2, g3, g4⟩ := fl_loop ha hn n 0 d r h' m (by omega) H
  exact ⟨m1, g1, g2, fun i hi => g3 i (by omega) hi, fun x y hxy => g4 x y (by omega)⟩
/-- the plan carried out so far: the page, how many, who, who first not, by each act -/
abbrev zPy : Type := (Nat → Int32) × Int32 × Int32 × Int32 × (Nat → Int32)
def pAct (c : Nat) (mk : Int32) (i : Nat) (P : zPy) : zPy := if P.1 (18 + i) = 0 then (gRest P.1, P.2) else if P.1 (18 + i) &&& mk = 0 then P else (gTry2 P.1 c (P.1 (18 + i) &&& mk), (if gTry1 P.1 c (P.1 (18 + i) &&& mk) = -4 then P.2.1 else P.2.1 + 1), (if gTry1 P.1 c (P.1 (18 + i) &&& mk) = -4 then P.2.2.1 else P.2.2.1 ||| (1 <<< (gTry1 P.1 c (P.1 (18 + i) &&& mk) &&& 31))), (if gTry1 P.1 c (P.1 (18 + i) &&& mk) = -4 ∧ P.2.2.2.1 = -4 then Int32.ofNat i else P.2.2.2.1), gset P.2.2.2.2 i (gTry1 P.1 c (P.1 (18 + i) &&& mk)))
def pPlays (c : Nat) (mk : Int32) : Nat → Nat → zPy → zPy
  | 0, _, P => P
  | j + 1, i, P => pPlays c mk j (i + 1) (pAct c mk i P)
theorem gTry2_k {g : Nat → Int32} {c : Nat} {s : Int32} (hc : c ≤ 5) {j : Nat} (h : 15 ≤ j) (h2 : ¬ j = 17) : gTry2 g c s j = g j := by
  unfold gTry2
  split
  · rw [gset_n h2]
  · rename_i hno
    rcases zwb_r (gcn g) s c hc with e | ⟨w, w1, w2⟩
    · exact absurd (Or.inl e) hno
    · rw [w2, Int32.toNatClampNeg_ofNat_of_lt (by omega)]
      have := gat_le (g := g) (i := w) (by omega)
      rw [gset_n (by omega), gset_n h2]
theorem zcap_b {x y : Int32} (hx : 0 ≤ x.toInt ∧ x.toInt ≤ 99) (hy : 0 ≤ y.toInt ∧ y.toInt ≤ 4) : 0 ≤ (zcap (x + y)).toInt ∧ (zcap (x + y)).toInt ≤ 99 := by
  obtain ⟨a, a1, rfl⟩ : ∃ a, a ≤ 99 ∧ x = Int32.ofNat a := ⟨x.toInt.toNat, by omega, by
    apply Int32.toInt_inj.mp
    rw [zofn_t (by omega)]
    omega⟩
  obtain ⟨b, b1, rfl⟩ : ∃ b, b ≤ 4 ∧ y = Int32.ofNat b := ⟨y.toInt.toNat, by omega, by
    apply Int32.toInt_inj.mp
    rw [zofn_t (by omega)]
    omega⟩
  rw [← Int32.ofNat_add]
  unfold zcap
  have e : (99 : Int32) < Int32.ofNat (a + b) ↔ 99 < a + b := zofn_lt (i := 99) (by decide) (by omega)
  by_cases h : 99 < a + b
  · rw [if_pos (e.mpr h)]; decide
  · rw [if_neg (fun w => h (e.mp w)), zofn_t (by omega)]
    omega
theorem zmrk_b (x : Int32) : 0 ≤ (zmrk x).toInt ∧ (zmrk x).toInt ≤ 4 := by
  unfold zmrk
  split
  · decide
  · split
    · decide
    · split <;> decide
theorem gok_t {g : Nat → Int32} {c : Nat} {s : Int32} (h : gok g c) : gok (gTry2 g c s) c := by
  have hc5 := h.1
  have h1 := gok_17 h (gtr_b h.2.2.1 h.2.2.2).1 (gtr_b h.2.2.1 h.2.2.2).2
  unfold gTry2
  split
  · exact h1
  · rename_i hno
    rcases zwb_r (gcn g) s c hc5 with e | ⟨w, w1, w2⟩
    · exact absurd (Or.inl e) hno
    · rw [w2, Int32.toNatClampNeg_ofNat_of_lt (by omega)]
      have hl := gat_le (g := g) (i := w) (by omega)
      have hcn : 0 ≤ (gcn g w).toInt ∧ (gcn g w).toInt ≤ 99 := by
        unfold gcn
        split
        · exact (h.2.1 w w1).2.2
        · exact (h.2.1 w w1).2.1
      have hv := zcap_b hcn (zmrk_b (g w))
      obtain ⟨a, b, d, e⟩ := h1
      refine ⟨a, fun i hi => ?_, by rw [gset_n (by omega)]; exact d, by rw [gset_n (by omega)]; exact e⟩
      obtain ⟨x, y, z⟩ := b i hi
      refine ⟨by rw [gset_n (by omega)]; exact x, ?_, ?_⟩
      · by_cases q : 5 + i = gat g w
        · rw [q, gset_s]; exact hv
        · rw [gset_n q]; exact y
      · by_cases q : 10 + i = gat g w
        · rw [q, gset_s]; exact hv
        · rw [gset_n q]; exact z
theorem pAct_ok {c i : Nat} {mk : Int32} {P : zPy} (h : gok P.1 c) : gok (pAct c mk i P).1 c ∧ ∀ j, 18 ≤ j → (pAct c mk i P).1 j = P.1 j := by
  unfold pAct
  split
  · exact ⟨gok_r h, fun j hj => gRest_k (by omega)⟩
  · split
    · exact ⟨h, fun j _ => rfl⟩
    · exact ⟨gok_t h, fun j hj => gTry2_k h.1 (by omega) (by omega)⟩
/-- the class's stage -/
def cP (m : zM) (c : Nat) (P : zPy) : Prop := LV m 20 c P.1 ∧ m 19 2 = P.2.1 ∧ m 19 3 = P.2.2.1 ∧ m 19 4 = P.2.2.2.1 ∧ ∀ i, i < 8 → m 28 i = P.2.2.2.2 i
theorem t_X3_note {d : Nat} {m : zM} {r : Option Value} {h' : zHp} {i : Nat} (hi : i < 8) (H : zE none d zm_X3_note 0 [.ref 19, .int (Int32.ofNat i)] [] m r h') : r = none ∧ h' = zhp (if m 28 i = -4 then (if m 19 4 = -4 then zup m 19 4 (Int32.ofNat i) else m) else zup (zup m 19 2 (m 19 2 + 1)) 19 3 (m 19 3 ||| (1 <<< (m 28 i &&& 31)))) := by
  replace H := i_aln (q := 1) H I_X3_note_0 rfl rfl
  replace H := i_gfr (q := 4) H I_X3_note_1 G_3_18 cn_X3_note LY_19 rfl rfl
  replace H := i_iln (q := 5) H I_X3_note_4 rfl rfl
  have W := i_ia (q := 6) H I_X3_note_5 LY_28 rfl
  clear H
  obtain ⟨i_5, bi_5, ei_5, H⟩ := W
  have ei_5 := zofn ei_5 (by omega) (by omega)
  subst ei_5
  replace H := i_bip (x := (-4)) (q := 8) H I_X3_note_6 (by decide) rfl
  have W := i_ic_eq (t := 41) (q := 11) H I_X3_note_8 (by decide) rfl
  clear H
  rcases W with ⟨c_8, H⟩ | ⟨c_8, H⟩
  · skip
    replace H := i_aln (q := 42) H I_X3_note_41 rfl rfl
    replace H := i_gfi (q := 45) H I_X3_note_42 G_3_29 cn_X3_note LY_19 rfl rfl
    replace H := i_bip (x := (-4)) (q := 47) H I_X3_note_45 (by decide) rfl
    have W := i_ic_ne (t := 55) (q := 50) H I_X3_note_47 (by decide) rfl
    clear H
    rcases W with ⟨c_47, H⟩ | ⟨c_47, H⟩
    · skip
      obtain ⟨hr, hh⟩ := i_rt H I_X3_note_55
      refine ⟨hr, hh.trans ?_⟩
      first
      | rw [if_neg c_8, zup_n (by omega), zup_n (by omega)]
      | rw [if_pos c_8, if_pos c_47]
      | rw [if_pos c_8, if_neg c_47]
    · skip
      replace H := i_aln (q := 51) H I_X3_note_50 rfl rfl
      replace H := i_iln (q := 52) H I_X3_note_51 rfl rfl
      replace H := i_pf (q := 55) H I_X3_note_52 G_3_29 cn_X3_note LY_19 rfl rfl
      obtain ⟨hr, hh⟩ := i_rt H I_X3_note_55
      refine ⟨hr, hh.trans ?_⟩
      first
      | rw [if_neg c_8, zup_n (by omega), zup_n (by omega)]
      | rw [if_pos c_8, if_pos c_47]
      | rw [if_pos c_8, if_neg c_47]
  · skip
    replace H := i_aln (q := 12) H I_X3_note_11 rfl rfl
    replace H := i_dup (q := 13) H I_X3_note_12 rfl rfl
    replace H := i_gfi (q := 16) H I_X3_note_13 G_3_22 cn_X3_note LY_19 rfl rfl
    replace H := i_icst (x := 1) (q := 17) H I_X3_note_16 (by decide) rfl
    replace H := i_iadd (q := 18) H I_X3_note_17 rfl
    replace H := i_pf (q := 21) H I_X3_note_18 G_3_22 cn_X3_note LY_19 rfl rfl
    replace H := i_aln (q := 22) H I_X3_note_21 rfl rfl
    replace H := i_dup (q := 23) H I_X3_note_22 rfl rfl
    replace H := i_gfi (q := 26) H I_X3_note_23 G_3_26 cn_X3_note LY_19 rfl rfl
    replace H := i_icst (x := 1) (q := 27) H I_X3_note_26 (by decide) rfl
    replace H := i_aln (q := 28) H I_X3_note_27 rfl rfl
    replace H := i_gfr (q := 31) H I_X3_note_28 G_3_18 cn_X3_note LY_19 rfl rfl
    replace H := i_iln (q := 32) H I_X3_note_31 rfl rfl
    have W := i_ia (q := 33) H I_X3_note_32 LY_28 rfl
    clear H
    obtain ⟨i_32, bi_32, ei_32, H⟩ := W
    have ei_32 := zofn ei_32 (by omega) (by omega)
    subst ei_32
    replace H := i_ishl (q := 34) H I_X3_note_33 rfl
    replace H := i_ior (q := 35) H I_X3_note_34 rfl
    replace H := i_pf (q := 38) H I_X3_note_35 G_3_26 cn_X3_note LY_19 rfl rfl
    replace H := i_goto (q := 55) H I_X3_note_38 (by decide)
    obtain ⟨hr, hh⟩ := i_rt H I_X3_note_55
    refine ⟨hr, hh.trans ?_⟩
    first
    | rw [if_neg c_8, zup_n (by omega), zup_n (by omega)]
    | rw [if_pos c_8, if_pos c_47]
    | rw [if_pos c_8, if_neg c_47]
theorem py_loop {c a : Nat} {mk : Int32} (ha8 : a ≤ 8) : ∀ (j i : Nat) (P : zPy) (d : Nat) (r : Option Value) (h' : zHp) (m : zM), i + j = a → cP m c P → gok P.1 c → P.1 26 = Int32.ofNat a → zE none d zm_X3_play 27 [.ref 19, .int mk, .int (Int32.ofNat i), .null] [] m r h' → ∃ m1, r = some (.int (pPlays c mk j i P).2.1) ∧ h' = zhp m1 ∧ cP m1 c (pPlays c mk j i P) ∧ ∀ x y, ¬ (19 ≤ x ∧ x ≤ 28) → m1 x y = m x y := by
  intro j
  induction j with
  | zero =>
    intro i P d r h' m hj hS hg h26 H
    obtain ⟨q1, q2, q3, q4, q5, b, b1, b2, b3, b4⟩ := id hS.1
    have eb : b = a := zofn (b2.symm.trans h26) (by omega) (by omega)
    subst eb
    have l3 : m 20 3 = Int32.ofNat b := b3
    replace H := i_iln (q := 28) H I_X3_play_27 rfl rfl
    replace H := i_aln (q := 29) H I_X3_play_28 rfl rfl
    replace H := i_gfr (q := 32) H I_X3_play_29 G_3_12 cn_X3_play LY_19 rfl rfl
    replace H := i_gfi (q := 35) H I_X3_play_32 G_3_38 cn_X3_play LY_20 rfl rfl
    have W := i_ic_ge (t := 95) (q := 38) H I_X3_play_35 (by decide) rfl
    clear H
    rcases W with ⟨c_35, H⟩ | ⟨c_35, H⟩
    · skip
      replace H := i_aln (q := 96) H I_X3_play_95 rfl rfl
      replace H := i_gfi (q := 99) H I_X3_play_96 G_3_22 cn_X3_play LY_19 rfl rfl
      obtain ⟨hr, hh⟩ := i_ir H I_X3_play_99
      refine ⟨m, hr.trans ?_, hh, hS, fun _ _ _ => rfl⟩
      rw [hS.2.1]
      rfl
    · skip
      replace H := i_aln (q := 39) H I_X3_play_38 rfl rfl
      replace H := i_gfr (q := 42) H I_X3_play_39 G_3_12 cn_X3_play LY_19 rfl rfl
      replace H := i_gfr (q := 45) H I_X3_play_42 G_3_41 cn_X3_play LY_20 rfl rfl
      replace H := i_iln (q := 46) H I_X3_play_45 rfl rfl
      have W := i_ia (q := 47) H I_X3_play_46 LY_22 rfl
      clear H
      obtain ⟨i_46, bi_46, ei_46, H⟩ := W
      have ei_46 := zofn ei_46 (by omega) (by omega)
      subst ei_46
      replace H := i_isn (q := 48) H I_X3_play_47 rfl rfl
      replace H := i_iln (q := 49) H I_X3_play_48 rfl rfl
      have W := i_if_ne (t := 62) (q := 52) H I_X3_play_49 (by decide) rfl
      clear H
      rcases W with ⟨c_49, H⟩ | ⟨c_49, H⟩
      · skip
        replace H := i_iln (q := 63) H I_X3_play_62 rfl rfl
        replace H := i_iln (q := 64) H I_X3_play_63 rfl rfl
        replace H := i_iand (q := 65) H I_X3_play_64 rfl
        have W := i_if_eq (t := 89) (q := 68) H I_X3_play_65 (by decide) rfl
        clear H
        rcases W with ⟨c_65, H⟩ | ⟨c_65, H⟩
        · skip
          replace H := i_inc (q := 92) H I_X3_play_89 rfl rfl rfl
          replace H := i_goto (q := 27) H I_X3_play_92 (by decide)
          exfalso
          rw [l3] at c_35
          exact absurd ((zofn_lt (by omega) (by omega)).mp c_35) (by omega)
        · skip
          replace H := i_aln (q := 69) H I_X3_play_68 rfl rfl
          replace H := i_gfr (q := 72) H I_X3_play_69 G_3_18 cn_X3_play LY_19 rfl rfl
          replace H := i_iln (q := 73) H I_X3_play_72 rfl rfl
          replace H := i_aln (q := 74) H I_X3_play_73 rfl rfl
          replace H := i_gfr (q := 77) H I_X3_play_74 G_3_12 cn_X3_play LY_19 rfl rfl
          replace H := i_iln (q := 78) H I_X3_play_77 rfl rfl
          replace H := i_iln (q := 79) H I_X3_play_78 rfl rfl
          replace H := i_iand (q := 80) H I_X3_play_79 rfl
          have W := i_cv1 1 (q := 83) H I_X3_play_80 K_3_47 Zm_16 rfl rfl
          clear H
          obtain ⟨r1, h1, Hc, K1, K2⟩ := W
          obtain ⟨M_80, e1, e2, F_80⟩ := t_X0_attempt lkk_20 hS.1 hg Hc
          have H := K1 _ _ e1 e2
          clear e1 e2 Hc K1 K2
          have W := i_iast (q := 84) H I_X3_play_83 LY_28 rfl
          clear H
          obtain ⟨i_83, bi_83, ei_83, H⟩ := W
          have ei_83 := zofn ei_83 (by omega) (by omega)
          subst ei_83
          replace H := i_aln (q := 85) H I_X3_play_84 rfl rfl
          replace H := i_iln (q := 86) H I_X3_play_85 rfl rfl
          have W := i_cv1 0 (q := 89) H I_X3_play_86 K_3_51 Zm_45 rfl rfl
          clear H
          obtain ⟨r1, h1, Hc, K1, K2⟩ := W
          obtain ⟨e1, e2⟩ := t_X3_note (by omega) Hc
          have H := K2 _ e1 e2
          clear e1 e2 Hc K1 K2
          replace H := i_inc (q := 92) H I_X3_play_89 rfl rfl rfl
          replace H := i_goto (q := 27) H I_X3_play_92 (by decide)
          exfalso
          rw [l3] at c_35
          exact absurd ((zofn_lt (by omega) (by omega)).mp c_35) (by omega)
      · skip
        replace H := i_aln (q := 53) H I_X3_play_52 rfl rfl
        replace H := i_gfr (q := 56) H I_X3_play_53 G_3_12 cn_X3_play LY_19 rfl rfl
        have W := i_cv0 1 (q := 59) H I_X3_play_56 K_3_44 Zm_17 rfl rfl
        clear H
        obtain ⟨r1, h1, Hc, K1, K2⟩ := W
        obtain ⟨M_56, e1, e2, F_56⟩ := t_X0_calm lkk_20 hS.1 hg Hc
        have H := K2 _ e1 e2
        clear e1 e2 Hc K1 K2
        replace H := i_goto (q := 89) H I_X3_play_59 (by decide)
        replace H := i_inc (q := 92) H I_X3_play_89 rfl rfl rfl
        replace H := i_goto (q := 27) H I_X3_play_92 (by decide)
        exfalso
        rw [l3] at c_35
        exact absurd ((zofn_lt (by omega) (by omega)).mp c_35) (by omega)
  | succ j ih =>
    intro i P d r h' m hj hS hg h26 H
    obtain ⟨q1, q2, q3, q4, q5, b, b1, b2, b3, b4⟩ := id hS.1
    have eb : b = a := zofn (b2.symm.trans h26) (by omega) (by omega)
    subst eb
    have l3 : m 20 3 = Int32.ofNat b := b3
    have l4 : ∀ i, i < b → m 22 i = P.1 (18 + i) := b4
    replace H := i_iln (q := 28) H I_X3_play_27 rfl rfl
    replace H := i_aln (q := 29) H I_X3_play_28 rfl rfl
    replace H := i_gfr (q := 32) H I_X3_play_29 G_3_12 cn_X3_play LY_19 rfl rfl
    replace H := i_gfi (q := 35) H I_X3_play_32 G_3_38 cn_X3_play LY_20 rfl rfl
    have W := i_ic_ge (t := 95) (q := 38) H I_X3_play_35 (by decide) rfl
    clear H
    rcases W with ⟨c_35, H⟩ | ⟨c_35, H⟩
    · skip
      replace H := i_aln (q := 96) H I_X3_play_95 rfl rfl
      replace H := i_gfi (q := 99) H I_X3_play_96 G_3_22 cn_X3_play LY_19 rfl rfl
      obtain ⟨hr, hh⟩ := i_ir H I_X3_play_99
      exfalso
      rw [l3] at c_35
      exact c_35 ((zofn_lt (by omega) (by omega)).mpr (by omega))
    · skip
      replace H := i_aln (q := 39) H I_X3_play_38 rfl rfl
      replace H := i_gfr (q := 42) H I_X3_play_39 G_3_12 cn_X3_play LY_19 rfl rfl
      replace H := i_gfr (q := 45) H I_X3_play_42 G_3_41 cn_X3_play LY_20 rfl rfl
      replace H := i_iln (q := 46) H I_X3_play_45 rfl rfl
      have W := i_ia (q := 47) H I_X3_play_46 LY_22 rfl
      clear H
      obtain ⟨i_46, bi_46, ei_46, H⟩ := W
      have ei_46 := zofn ei_46 (by omega) (by omega)
      subst ei_46
      replace H := i_isn (q := 48) H I_X3_play_47 rfl rfl
      replace H := i_iln (q := 49) H I_X3_play_48 rfl rfl
      have W := i_if_ne (t := 62) (q := 52) H I_X3_play_49 (by decide) rfl
      clear H
      rcases W with ⟨c_49, H⟩ | ⟨c_49, H⟩
      · skip
        replace H := i_iln (q := 63) H I_X3_play_62 rfl rfl
        replace H := i_iln (q := 64) H I_X3_play_63 rfl rfl
        replace H := i_iand (q := 65) H I_X3_play_64 rfl
        have W := i_if_eq (t := 89) (q := 68) H I_X3_play_65 (by decide) rfl
        clear H
        rcases W with ⟨c_65, H⟩ | ⟨c_65, H⟩
        · skip
          replace H := i_inc (q := 92) H I_X3_play_89 rfl rfl rfl
          replace H := i_goto (q := 27) H I_X3_play_92 (by decide)
          replace H := i_w [true, true, true, false] H
          rw [zofn_s] at H
          have ok := pAct_ok (i := i) (mk := mk) hg
          rw [show m 22 i = P.1 (18 + i) from l4 i (by omega)] at c_49 c_65
          have hS1 : cP m c (pAct c mk i P) := by
            unfold pAct
            rw [if_neg c_49, if_pos c_65]
            exact hS
          obtain ⟨m1, x1, x2, x3, x4⟩ := ih (i + 1) (pAct c mk i P) d r h' _ (by omega) hS1 ok.1 (by rw [ok.2 26 (by omega)]; exact h26) H
          exact ⟨m1, x1, x2, x3, fun x y hxy => by rw [x4 x y hxy]⟩
        · skip
          replace H := i_aln (q := 69) H I_X3_play_68 rfl rfl
          replace H := i_gfr (q := 72) H I_X3_play_69 G_3_18 cn_X3_play LY_19 rfl rfl
          replace H := i_iln (q := 73) H I_X3_play_72 rfl rfl
          replace H := i_aln (q := 74) H I_X3_play_73 rfl rfl
          replace H := i_gfr (q := 77) H I_X3_play_74 G_3_12 cn_X3_play LY_19 rfl rfl
          replace H := i_iln (q := 78) H I_X3_play_77 rfl rfl
          replace H := i_iln (q := 79) H I_X3_play_78 rfl rfl
          replace H := i_iand (q := 80) H I_X3_play_79 rfl
          have W := i_cv1 1 (q := 83) H I_X3_play_80 K_3_47 Zm_16 rfl rfl
          clear H
          obtain ⟨r1, h1, Hc, K1, K2⟩ := W
          obtain ⟨M_80, e1, e2, F_80⟩ := t_X0_attempt lkk_20 hS.1 hg Hc
          have H := K1 _ _ e1 e2
          clear e1 e2 Hc K1 K2
          have W := i_iast (q := 84) H I_X3_play_83 LY_28 rfl
          clear H
          obtain ⟨i_83, bi_83, ei_83, H⟩ := W
          have ei_83 := zofn ei_83 (by omega) (by omega)
          subst ei_83
          replace H := i_aln (q := 85) H I_X3_play_84 rfl rfl
          replace H := i_iln (q := 86) H I_X3_play_85 rfl rfl
          have W := i_cv1 0 (q := 89) H I_X3_play_86 K_3_51 Zm_45 rfl rfl
          clear H
          obtain ⟨r1, h1, Hc, K1, K2⟩ := W
          obtain ⟨e1, e2⟩ := t_X3_note (by omega) Hc
          have H := K2 _ e1 e2
          clear e1 e2 Hc K1 K2
          replace H := i_inc (q := 92) H I_X3_play_89 rfl rfl rfl
          replace H := i_goto (q := 27) H I_X3_play_92 (by decide)
          replace H := i_w [true, true, true, false] H
          rw [zofn_s] at H
          have ok := pAct_ok (i := i) (mk := mk) hg
          rw [show m 22 i = P.1 (18 + i) from l4 i (by omega)] at c_49 c_65
          obtain ⟨L_80, K_80⟩ := F_80
          rw [show m 22 i = P.1 (18 + i) from l4 i (by omega)] at L_80 H
          rw [zup_s] at H
          have A2 : ∀ v, zup M_80 28 i v 19 2 = P.2.1 := fun v => by rw [zup_n (by omega), K_80 _ _ (by omega)]; exact hS.2.1
          have A3 : ∀ v, zup M_80 28 i v 19 3 = P.2.2.1 := fun v => by rw [zup_n (by omega), K_80 _ _ (by omega)]; exact hS.2.2.1
          have A4 : ∀ v, zup M_80 28 i v 19 4 = P.2.2.2.1 := fun v => by rw [zup_n (by omega), K_80 _ _ (by omega)]; exact hS.2.2.2.1
          rw [A2, A3, A4] at H
          have A5 : ∀ (v : Int32) (j : Nat), j < 8 → zup M_80 28 i v 28 j = gset P.2.2.2.2 i v j := fun v j hj => by
            by_cases e : j = i
            · subst e
              rw [zup_s, gset_s]
            · rw [zup_n (by omega), gset_n e, K_80 _ _ (by omega)]
              exact hS.2.2.2.2 j hj
          generalize hv : gTry1 P.1 c (P.1 (18 + i) &&& mk) = v at H
          obtain ⟨Q, hQ, hS1, hF⟩ : ∃ Q, Q = (if v = -4 then (if P.2.2.2.1 = -4 then zup (zup M_80 28 i v) 19 4 (Int32.ofNat i) else zup M_80 28 i v) else zup (zup (zup M_80 28 i v) 19 2 (P.2.1 + 1)) 19 3 (P.2.2.1 ||| (1 <<< (v &&& 31)))) ∧ cP Q c (pAct c mk i P) ∧ ∀ x y, ¬ (19 ≤ x ∧ x ≤ 28) → Q x y = m x y := by
            refine ⟨_, rfl, ?_, fun x y hxy => ?_⟩
            · unfold pAct
              rw [if_neg c_49, if_neg c_65, hv]
              by_cases h4 : v = -4
              · rw [if_pos h4, if_pos h4, if_pos h4]
                by_cases h5 : P.2.2.2.1 = -4
                · rw [if_pos h5, if_pos ⟨h4, h5⟩]
                  exact ⟨LV_f L_80 (fun a b x y => by rw [zup_n (by omega), zup_n (by omega)]), by rw [zup_n (by omega)]; exact A2 v, by rw [zup_n (by omega)]; exact A3 v, by rw [zup_s], fun j hj => by rw [zup_n (by omega)]; exact A5 v j hj⟩
                · rw [if_neg h5, if_neg (fun q => h5 q.2)]
                  exact ⟨LV_f L_80 (fun a b x y => by rw [zup_n (by omega)]), A2 v, A3 v, A4 v, fun j hj => A5 v j hj⟩
              · rw [if_neg h4, if_neg h4, if_neg h4, if_neg (fun q => h4 q.1)]
                exact ⟨LV_f L_80 (fun a b x y => by rw [zup_n (by omega), zup_n (by omega), zup_n (by omega)]), by rw [zup_n (by omega), zup_s], by rw [zup_s], by rw [zup_n (by omega), zup_n (by omega)]; exact A4 v, fun j hj => by rw [zup_n (by omega), zup_n (by omega)]; exact A5 v j hj⟩
            · split
              · split
                · rw [zup_n (by omega), zup_n (by omega), K_80 _ _ (by omega)]
                · rw [zup_n (by omega), K_80 _ _ (by omega)]
              · rw [zup_n (by omega), zup_n (by omega), zup_n (by omega), K_80 _ _ (by omega)]
          rw [← hQ] at H
          obtain ⟨m1, x1, x2, x3, x4⟩ := ih (i + 1) (pAct c mk i P) d r h' _ (by omega) hS1 ok.1 (by rw [ok.2 26 (by omega)]; exact h26) H
          exact ⟨m1, x1, x2, x3, fun x y hxy => by rw [x4 x y hxy, hF _ _ (by omega)]⟩
      · skip
        replace H := i_aln (q := 53) H I_X3_play_52 rfl rfl
        replace H := i_gfr (q := 56) H I_X3_play_53 G_3_12 cn_X3_play LY_19 rfl rfl
        have W := i_cv0 1 (q := 59) H I_X3_play_56 K_3_44 Zm_17 rfl rfl
        clear H
        obtain ⟨r1, h1, Hc, K1, K2⟩ := W
        obtain ⟨M_56, e1, e2, F_56⟩ := t_X0_calm lkk_20 hS.1 hg Hc
        have H := K2 _ e1 e2
        clear e1 e2 Hc K1 K2
        replace H := i_goto (q := 89) H I_X3_play_59 (by decide)
        replace H := i_inc (q := 92) H I_X3_play_89 rfl rfl rfl
        replace H := i_goto (q := 27) H I_X3_play_92 (by decide)
        replace H := i_w [true, true, true, false] H
        rw [zofn_s] at H
        have ok := pAct_ok (i := i) (mk := mk) hg
        rw [show m 22 i = P.1 (18 + i) from l4 i (by omega)] at c_49
        obtain ⟨L_56, K_56⟩ := F_56
        have hS1 : cP M_56 c (pAct c mk i P) := by
          unfold pAct
          rw [if_pos c_49]
          exact ⟨L_56, by rw [K_56 _ _ (by omega)]; exact hS.2.1, by rw [K_56 _ _ (by omega)]; exact hS.2.2.1, by rw [K_56 _ _ (by omega)]; exact hS.2.2.2.1, fun j hj => by rw [K_56 _ _ (by omega)]; exact hS.2.2.2.2 j hj⟩
        obtain ⟨m1, x1, x2, x3, x4⟩ := ih (i + 1) (pAct c mk i P) d r h' _ (by omega) hS1 ok.1 (by rw [ok.2 26 (by omega)]; exact h26) H
        exact ⟨m1, x1, x2, x3, fun x y hxy => by rw [x4 x y hxy, K_56 _ _ (by omega)]⟩
end
section
/-! the plan carried out, on -/
theorem It_X8_planGoes : zm_X8_planGoes.2.2.2.2.2 = zt_X8_planGoes := by
  unfold zm_X8_planGoes
  rfl
theorem I_X3_play_0 : zin zm_X3_play.2.2.2.2.2 0 = some (.aload_n 0, 1) := by rw [It_X3_play]; rfl
theorem I_X3_play_1 : zin zm_X3_play.2.2.2.2.2 1 = some (.iconst 0, 1) := by rw [It_X3_play]; rfl
theorem I_X3_play_2 : zin zm_X3_play.2.2.2.2.2 2 = some (.putfield 22, 3) := by rw [It_X3_play]; rfl
theorem I_X3_play_5 : zin zm_X3_play.2.2.2.2.2 5 = some (.aload_n 0, 1) := by rw [It_X3_play]; rfl
theorem I_X3_play_6 : zin zm_X3_play.2.2.2.2.2 6 = some (.iconst 0, 1) := by rw [It_X3_play]; rfl
theorem I_X3_play_7 : zin zm_X3_play.2.2.2.2.2 7 = some (.putfield 26, 3) := by rw [It_X3_play]; rfl
theorem I_X3_play_10 : zin zm_X3_play.2.2.2.2.2 10 = some (.aload_n 0, 1) := by rw [It_X3_play]; rfl
theorem I_X3_play_11 : zin zm_X3_play.2.2.2.2.2 11 = some (.bipush (-4), 2) := by rw [It_X3_play]; rfl
theorem I_X3_play_13 : zin zm_X3_play.2.2.2.2.2 13 = some (.putfield 29, 3) := by rw [It_X3_play]; rfl
theorem I_X3_play_16 : zin zm_X3_play.2.2.2.2.2 16 = some (.aload_n 0, 1) := by rw [It_X3_play]; rfl
theorem I_X3_play_17 : zin zm_X3_play.2.2.2.2.2 17 = some (.getfield 18, 3) := by rw [It_X3_play]; rfl
theorem I_X3_play_20 : zin zm_X3_play.2.2.2.2.2 20 = some (.bipush (-4), 2) := by rw [It_X3_play]; rfl
theorem I_X3_play_22 : zin zm_X3_play.2.2.2.2.2 22 = some (.invokestatic 32, 3) := by rw [It_X3_play]; rfl
theorem I_X3_play_25 : zin zm_X3_play.2.2.2.2.2 25 = some (.iconst 0, 1) := by rw [It_X3_play]; rfl
theorem I_X3_play_26 : zin zm_X3_play.2.2.2.2.2 26 = some (.istore_n 2, 1) := by rw [It_X3_play]; rfl
theorem I_X8_planGoes_0 : zin zm_X8_planGoes.2.2.2.2.2 0 = some (.aload_n 0, 1) := by rw [It_X8_planGoes]; rfl
theorem I_X8_planGoes_1 : zin zm_X8_planGoes.2.2.2.2.2 1 = some (.iconst 0, 1) := by rw [It_X8_planGoes]; rfl
theorem I_X8_planGoes_2 : zin zm_X8_planGoes.2.2.2.2.2 2 = some (.putfield 179, 3) := by rw [It_X8_planGoes]; rfl
theorem I_X8_planGoes_5 : zin zm_X8_planGoes.2.2.2.2.2 5 = some (.aload_n 0, 1) := by rw [It_X8_planGoes]; rfl
theorem I_X8_planGoes_6 : zin zm_X8_planGoes.2.2.2.2.2 6 = some (.iconst 0, 1) := by rw [It_X8_planGoes]; rfl
theorem I_X8_planGoes_7 : zin zm_X8_planGoes.2.2.2.2.2 7 = some (.putfield 182, 3) := by rw [It_X8_planGoes]; rfl
theorem I_X8_planGoes_10 : zin zm_X8_planGoes.2.2.2.2.2 10 = some (.aload_n 0, 1) := by rw [It_X8_planGoes]; rfl
theorem I_X8_planGoes_11 : zin zm_X8_planGoes.2.2.2.2.2 11 = some (.bipush (-4), 2) := by rw [It_X8_planGoes]; rfl
theorem I_X8_planGoes_13 : zin zm_X8_planGoes.2.2.2.2.2 13 = some (.putfield 185, 3) := by rw [It_X8_planGoes]; rfl
theorem I_X8_planGoes_16 : zin zm_X8_planGoes.2.2.2.2.2 16 = some (.iconst 0, 1) := by rw [It_X8_planGoes]; rfl
theorem I_X8_planGoes_17 : zin zm_X8_planGoes.2.2.2.2.2 17 = some (.istore_n 2, 1) := by rw [It_X8_planGoes]; rfl
theorem I_X8_planGoes_18 : zin zm_X8_planGoes.2.2.2.2.2 18 = some (.iload_n 2, 1) := by rw [It_X8_planGoes]; rfl
theorem I_X8_planGoes_19 : zin zm_X8_planGoes.2.2.2.2.2 19 = some (.bipush 8, 2) := by rw [It_X8_planGoes]; rfl
theorem I_X8_planGoes_21 : zin zm_X8_planGoes.2.2.2.2.2 21 = some (.if_icmp .ge 174, 3) := by rw [It_X8_planGoes]; rfl
theorem I_X8_planGoes_24 : zin zm_X8_planGoes.2.2.2.2.2 24 = some (.iload_n 2, 1) := by rw [It_X8_planGoes]; rfl
theorem I_X8_planGoes_25 : zin zm_X8_planGoes.2.2.2.2.2 25 = some (.aload_n 0, 1) := by rw [It_X8_planGoes]; rfl
theorem I_X8_planGoes_26 : zin zm_X8_planGoes.2.2.2.2.2 26 = some (.getfield 7, 3) := by rw [It_X8_planGoes]; rfl
theorem I_X8_planGoes_29 : zin zm_X8_planGoes.2.2.2.2.2 29 = some (.sipush 134, 3) := by rw [It_X8_planGoes]; rfl
theorem I_X8_planGoes_32 : zin zm_X8_planGoes.2.2.2.2.2 32 = some (.iaload, 1) := by rw [It_X8_planGoes]; rfl
theorem I_X8_planGoes_33 : zin zm_X8_planGoes.2.2.2.2.2 33 = some (.if_icmp .ge 15, 3) := by rw [It_X8_planGoes]; rfl
theorem I_X8_planGoes_36 : zin zm_X8_planGoes.2.2.2.2.2 36 = some (.aload_n 0, 1) := by rw [It_X8_planGoes]; rfl
theorem I_X8_planGoes_37 : zin zm_X8_planGoes.2.2.2.2.2 37 = some (.getfield 7, 3) := by rw [It_X8_planGoes]; rfl
theorem I_X8_planGoes_40 : zin zm_X8_planGoes.2.2.2.2.2 40 = some (.bipush 126, 2) := by rw [It_X8_planGoes]; rfl
theorem I_X8_planGoes_42 : zin zm_X8_planGoes.2.2.2.2.2 42 = some (.iload_n 2, 1) := by rw [It_X8_planGoes]; rfl
theorem I_X8_planGoes_43 : zin zm_X8_planGoes.2.2.2.2.2 43 = some (.iadd, 1) := by rw [It_X8_planGoes]; rfl
theorem I_X8_planGoes_44 : zin zm_X8_planGoes.2.2.2.2.2 44 = some (.iaload, 1) := by rw [It_X8_planGoes]; rfl
theorem I_X8_planGoes_45 : zin zm_X8_planGoes.2.2.2.2.2 45 = some (.goto 4, 3) := by rw [It_X8_planGoes]; rfl
theorem I_X8_planGoes_48 : zin zm_X8_planGoes.2.2.2.2.2 48 = some (.iconst (-1), 1) := by rw [It_X8_planGoes]; rfl
theorem I_X8_planGoes_49 : zin zm_X8_planGoes.2.2.2.2.2 49 = some (.istore_n 3, 1) := by rw [It_X8_planGoes]; rfl
theorem I_X8_planGoes_50 : zin zm_X8_planGoes.2.2.2.2.2 50 = some (.aload_n 0, 1) := by rw [It_X8_planGoes]; rfl
theorem I_X8_planGoes_51 : zin zm_X8_planGoes.2.2.2.2.2 51 = some (.getfield 28, 3) := by rw [It_X8_planGoes]; rfl
theorem I_X8_planGoes_54 : zin zm_X8_planGoes.2.2.2.2.2 54 = some (.iload_n 2, 1) := by rw [It_X8_planGoes]; rfl
theorem I_X8_planGoes_55 : zin zm_X8_planGoes.2.2.2.2.2 55 = some (.bipush (-4), 2) := by rw [It_X8_planGoes]; rfl
theorem I_X8_planGoes_57 : zin zm_X8_planGoes.2.2.2.2.2 57 = some (.iastore, 1) := by rw [It_X8_planGoes]; rfl
theorem I_X8_planGoes_58 : zin zm_X8_planGoes.2.2.2.2.2 58 = some (.iload_n 3, 1) := by rw [It_X8_planGoes]; rfl
theorem I_X8_planGoes_59 : zin zm_X8_planGoes.2.2.2.2.2 59 = some (.ifCond .ne 12, 3) := by rw [It_X8_planGoes]; rfl
theorem I_X8_planGoes_62 : zin zm_X8_planGoes.2.2.2.2.2 62 = some (.aload_n 0, 1) := by rw [It_X8_planGoes]; rfl
theorem I_X8_planGoes_63 : zin zm_X8_planGoes.2.2.2.2.2 63 = some (.bipush 108, 2) := by rw [It_X8_planGoes]; rfl
theorem I_X8_planGoes_65 : zin zm_X8_planGoes.2.2.2.2.2 65 = some (.invokevirtual 176, 3) := by rw [It_X8_planGoes]; rfl
theorem I_X8_planGoes_68 : zin zm_X8_planGoes.2.2.2.2.2 68 = some (.goto 121, 3) := by rw [It_X8_planGoes]; rfl
theorem I_X8_planGoes_71 : zin zm_X8_planGoes.2.2.2.2.2 71 = some (.iload_n 3, 1) := by rw [It_X8_planGoes]; rfl
theorem I_X8_planGoes_72 : zin zm_X8_planGoes.2.2.2.2.2 72 = some (.ifCond .le 117, 3) := by rw [It_X8_planGoes]; rfl
theorem I_X8_planGoes_75 : zin zm_X8_planGoes.2.2.2.2.2 75 = some (.iload_n 3, 1) := by rw [It_X8_planGoes]; rfl
theorem I_X8_planGoes_76 : zin zm_X8_planGoes.2.2.2.2.2 76 = some (.iload_n 1, 1) := by rw [It_X8_planGoes]; rfl
theorem I_X8_planGoes_77 : zin zm_X8_planGoes.2.2.2.2.2 77 = some (.iconst (-1), 1) := by rw [It_X8_planGoes]; rfl
theorem I_X8_planGoes_78 : zin zm_X8_planGoes.2.2.2.2.2 78 = some (.ixor, 1) := by rw [It_X8_planGoes]; rfl
theorem I_X8_planGoes_79 : zin zm_X8_planGoes.2.2.2.2.2 79 = some (.iand, 1) := by rw [It_X8_planGoes]; rfl
theorem I_X8_planGoes_80 : zin zm_X8_planGoes.2.2.2.2.2 80 = some (.ifCond .eq 109, 3) := by rw [It_X8_planGoes]; rfl
theorem I_X8_planGoes_83 : zin zm_X8_planGoes.2.2.2.2.2 83 = some (.aload_n 0, 1) := by rw [It_X8_planGoes]; rfl
theorem I_X8_planGoes_84 : zin zm_X8_planGoes.2.2.2.2.2 84 = some (.getfield 28, 3) := by rw [It_X8_planGoes]; rfl
theorem I_X8_planGoes_87 : zin zm_X8_planGoes.2.2.2.2.2 87 = some (.iload_n 2, 1) := by rw [It_X8_planGoes]; rfl
theorem I_X8_planGoes_88 : zin zm_X8_planGoes.2.2.2.2.2 88 = some (.aload_n 0, 1) := by rw [It_X8_planGoes]; rfl
theorem I_X8_planGoes_89 : zin zm_X8_planGoes.2.2.2.2.2 89 = some (.bipush 108, 2) := by rw [It_X8_planGoes]; rfl
theorem I_X8_planGoes_91 : zin zm_X8_planGoes.2.2.2.2.2 91 = some (.iload_n 3, 1) := by rw [It_X8_planGoes]; rfl
theorem I_X8_planGoes_92 : zin zm_X8_planGoes.2.2.2.2.2 92 = some (.iload_n 1, 1) := by rw [It_X8_planGoes]; rfl
theorem I_X8_planGoes_93 : zin zm_X8_planGoes.2.2.2.2.2 93 = some (.iconst (-1), 1) := by rw [It_X8_planGoes]; rfl
theorem I_X8_planGoes_94 : zin zm_X8_planGoes.2.2.2.2.2 94 = some (.ixor, 1) := by rw [It_X8_planGoes]; rfl
theorem I_X8_planGoes_95 : zin zm_X8_planGoes.2.2.2.2.2 95 = some (.iand, 1) := by rw [It_X8_planGoes]; rfl
theorem I_X8_planGoes_96 : zin zm_X8_planGoes.2.2.2.2.2 96 = some (.invokevirtual 170, 3) := by rw [It_X8_planGoes]; rfl
theorem I_X8_planGoes_99 : zin zm_X8_planGoes.2.2.2.2.2 99 = some (.iastore, 1) := by rw [It_X8_planGoes]; rfl
theorem I_X8_planGoes_100 : zin zm_X8_planGoes.2.2.2.2.2 100 = some (.aload_n 0, 1) := by rw [It_X8_planGoes]; rfl
theorem I_X8_planGoes_101 : zin zm_X8_planGoes.2.2.2.2.2 101 = some (.dup, 1) := by rw [It_X8_planGoes]; rfl
theorem I_X8_planGoes_102 : zin zm_X8_planGoes.2.2.2.2.2 102 = some (.getfield 179, 3) := by rw [It_X8_planGoes]; rfl
theorem I_X8_planGoes_105 : zin zm_X8_planGoes.2.2.2.2.2 105 = some (.aload_n 0, 1) := by rw [It_X8_planGoes]; rfl
theorem I_X8_planGoes_106 : zin zm_X8_planGoes.2.2.2.2.2 106 = some (.getfield 28, 3) := by rw [It_X8_planGoes]; rfl
theorem I_X8_planGoes_109 : zin zm_X8_planGoes.2.2.2.2.2 109 = some (.iload_n 2, 1) := by rw [It_X8_planGoes]; rfl
theorem I_X8_planGoes_110 : zin zm_X8_planGoes.2.2.2.2.2 110 = some (.iaload, 1) := by rw [It_X8_planGoes]; rfl
theorem I_X8_planGoes_111 : zin zm_X8_planGoes.2.2.2.2.2 111 = some (.bipush (-4), 2) := by rw [It_X8_planGoes]; rfl
theorem I_X8_planGoes_113 : zin zm_X8_planGoes.2.2.2.2.2 113 = some (.if_icmp .ne 7, 3) := by rw [It_X8_planGoes]; rfl
theorem I_X8_planGoes_116 : zin zm_X8_planGoes.2.2.2.2.2 116 = some (.iconst 0, 1) := by rw [It_X8_planGoes]; rfl
theorem I_X8_planGoes_117 : zin zm_X8_planGoes.2.2.2.2.2 117 = some (.goto 4, 3) := by rw [It_X8_planGoes]; rfl
theorem I_X8_planGoes_120 : zin zm_X8_planGoes.2.2.2.2.2 120 = some (.iconst 1, 1) := by rw [It_X8_planGoes]; rfl
theorem I_X8_planGoes_121 : zin zm_X8_planGoes.2.2.2.2.2 121 = some (.iadd, 1) := by rw [It_X8_planGoes]; rfl
theorem I_X8_planGoes_122 : zin zm_X8_planGoes.2.2.2.2.2 122 = some (.putfield 179, 3) := by rw [It_X8_planGoes]; rfl
theorem I_X8_planGoes_125 : zin zm_X8_planGoes.2.2.2.2.2 125 = some (.aload_n 0, 1) := by rw [It_X8_planGoes]; rfl
theorem I_X8_planGoes_126 : zin zm_X8_planGoes.2.2.2.2.2 126 = some (.dup, 1) := by rw [It_X8_planGoes]; rfl
theorem I_X8_planGoes_127 : zin zm_X8_planGoes.2.2.2.2.2 127 = some (.getfield 182, 3) := by rw [It_X8_planGoes]; rfl
theorem I_X8_planGoes_130 : zin zm_X8_planGoes.2.2.2.2.2 130 = some (.aload_n 0, 1) := by rw [It_X8_planGoes]; rfl
theorem I_X8_planGoes_131 : zin zm_X8_planGoes.2.2.2.2.2 131 = some (.getfield 28, 3) := by rw [It_X8_planGoes]; rfl
theorem I_X8_planGoes_134 : zin zm_X8_planGoes.2.2.2.2.2 134 = some (.iload_n 2, 1) := by rw [It_X8_planGoes]; rfl
theorem I_X8_planGoes_135 : zin zm_X8_planGoes.2.2.2.2.2 135 = some (.iaload, 1) := by rw [It_X8_planGoes]; rfl
theorem I_X8_planGoes_136 : zin zm_X8_planGoes.2.2.2.2.2 136 = some (.bipush (-4), 2) := by rw [It_X8_planGoes]; rfl
theorem I_X8_planGoes_138 : zin zm_X8_planGoes.2.2.2.2.2 138 = some (.if_icmp .ne 7, 3) := by rw [It_X8_planGoes]; rfl
theorem I_X8_planGoes_141 : zin zm_X8_planGoes.2.2.2.2.2 141 = some (.iconst 0, 1) := by rw [It_X8_planGoes]; rfl
theorem I_X8_planGoes_142 : zin zm_X8_planGoes.2.2.2.2.2 142 = some (.goto 11, 3) := by rw [It_X8_planGoes]; rfl
theorem I_X8_planGoes_145 : zin zm_X8_planGoes.2.2.2.2.2 145 = some (.iconst 1, 1) := by rw [It_X8_planGoes]; rfl
theorem I_X8_planGoes_146 : zin zm_X8_planGoes.2.2.2.2.2 146 = some (.aload_n 0, 1) := by rw [It_X8_planGoes]; rfl
theorem I_X8_planGoes_147 : zin zm_X8_planGoes.2.2.2.2.2 147 = some (.getfield 28, 3) := by rw [It_X8_planGoes]; rfl
theorem I_X8_planGoes_150 : zin zm_X8_planGoes.2.2.2.2.2 150 = some (.iload_n 2, 1) := by rw [It_X8_planGoes]; rfl
theorem I_X8_planGoes_151 : zin zm_X8_planGoes.2.2.2.2.2 151 = some (.iaload, 1) := by rw [It_X8_planGoes]; rfl
theorem I_X8_planGoes_152 : zin zm_X8_planGoes.2.2.2.2.2 152 = some (.ishl, 1) := by rw [It_X8_planGoes]; rfl
theorem I_X8_planGoes_153 : zin zm_X8_planGoes.2.2.2.2.2 153 = some (.ior, 1) := by rw [It_X8_planGoes]; rfl
theorem I_X8_planGoes_154 : zin zm_X8_planGoes.2.2.2.2.2 154 = some (.putfield 182, 3) := by rw [It_X8_planGoes]; rfl
theorem I_X8_planGoes_157 : zin zm_X8_planGoes.2.2.2.2.2 157 = some (.aload_n 0, 1) := by rw [It_X8_planGoes]; rfl
theorem I_X8_planGoes_158 : zin zm_X8_planGoes.2.2.2.2.2 158 = some (.aload_n 0, 1) := by rw [It_X8_planGoes]; rfl
theorem I_X8_planGoes_159 : zin zm_X8_planGoes.2.2.2.2.2 159 = some (.getfield 28, 3) := by rw [It_X8_planGoes]; rfl
theorem I_X8_planGoes_162 : zin zm_X8_planGoes.2.2.2.2.2 162 = some (.iload_n 2, 1) := by rw [It_X8_planGoes]; rfl
theorem I_X8_planGoes_163 : zin zm_X8_planGoes.2.2.2.2.2 163 = some (.iaload, 1) := by rw [It_X8_planGoes]; rfl
theorem I_X8_planGoes_164 : zin zm_X8_planGoes.2.2.2.2.2 164 = some (.bipush (-4), 2) := by rw [It_X8_planGoes]; rfl
theorem I_X8_planGoes_166 : zin zm_X8_planGoes.2.2.2.2.2 166 = some (.if_icmp .ne 16, 3) := by rw [It_X8_planGoes]; rfl
theorem I_X8_planGoes_169 : zin zm_X8_planGoes.2.2.2.2.2 169 = some (.aload_n 0, 1) := by rw [It_X8_planGoes]; rfl
theorem I_X8_planGoes_170 : zin zm_X8_planGoes.2.2.2.2.2 170 = some (.getfield 185, 3) := by rw [It_X8_planGoes]; rfl
theorem I_X8_planGoes_173 : zin zm_X8_planGoes.2.2.2.2.2 173 = some (.bipush (-4), 2) := by rw [It_X8_planGoes]; rfl
theorem I_X8_planGoes_175 : zin zm_X8_planGoes.2.2.2.2.2 175 = some (.if_icmp .ne 7, 3) := by rw [It_X8_planGoes]; rfl
theorem I_X8_planGoes_178 : zin zm_X8_planGoes.2.2.2.2.2 178 = some (.iload_n 2, 1) := by rw [It_X8_planGoes]; rfl
theorem I_X8_planGoes_179 : zin zm_X8_planGoes.2.2.2.2.2 179 = some (.goto 7, 3) := by rw [It_X8_planGoes]; rfl
theorem I_X8_planGoes_182 : zin zm_X8_planGoes.2.2.2.2.2 182 = some (.aload_n 0, 1) := by rw [It_X8_planGoes]; rfl
theorem I_X8_planGoes_183 : zin zm_X8_planGoes.2.2.2.2.2 183 = some (.getfield 185, 3) := by rw [It_X8_planGoes]; rfl
theorem I_X8_planGoes_186 : zin zm_X8_planGoes.2.2.2.2.2 186 = some (.putfield 185, 3) := by rw [It_X8_planGoes]; rfl
theorem I_X8_planGoes_189 : zin zm_X8_planGoes.2.2.2.2.2 189 = some (.iinc 2 1, 3) := by rw [It_X8_planGoes]; rfl
theorem I_X8_planGoes_192 : zin zm_X8_planGoes.2.2.2.2.2 192 = some (.goto (-174), 3) := by rw [It_X8_planGoes]; rfl
theorem I_X8_planGoes_195 : zin zm_X8_planGoes.2.2.2.2.2 195 = some (.return_, 1) := by rw [It_X8_planGoes]; rfl
theorem G_8_28 : zlk zfls 8 28 = some (8, 21, 862) := rfl
theorem G_8_179 : zlk zfls 8 179 = some (8, 18, 859) := rfl
theorem G_8_182 : zlk zfls 8 182 = some (8, 19, 860) := rfl
theorem G_8_185 : zlk zfls 8 185 = some (8, 20, 861) := rfl
theorem K_3_32 : zlk zmls 3 32 = some (1, 193, 2, 602) := rfl
theorem K_8_170 : zlk zmls 8 170 = some (0, 142, 2, 1060) := rfl
theorem K_8_176 : zlk zmls 8 176 = some (0, 143, 1, 1068) := rfl
theorem Zm_142 : zms[142]? = some zm_X8_triesOn := rfl
theorem Zm_143 : zms[143]? = some zm_X8_restsOn := rfl
theorem Zm_193 : zms[193]? = some zm_J7_fill_53178 := rfl
theorem LY_78 : zLY[78]? = some (Sum.inl 0, List.replicate 8 none) := rfl
theorem cl_X8_planGoes : zm_X8_planGoes.2.2.2.2.1 = 8 := by
  unfold zm_X8_planGoes
  rfl
theorem cn_X8_planGoes : zm_X8_planGoes.2.2.2.2.1 ≠ 12 := by
  rw [cl_X8_planGoes]
  decide
theorem cn2_X8_planGoes : zm_X8_planGoes.2.2.2.2.1 ≠ 2 := by
  rw [cl_X8_planGoes]
  decide
def zPy0 (g : Nat → Int32) : zPy := (g, 0, 0, -4, fun _ => -4)
def zna (g : Nat → Int32) : Nat := (g 26).toNatClampNeg
theorem t_X3_play {d : Nat} {m : zM} {r : Option Value} {h' : zHp} {c : Nat} {mk : Int32} {g : Nat → Int32} (hL : LV m 20 c g) (hg : gok g c) (H : zE none d zm_X3_play 0 [.ref 19, .int mk, .null, .null] [] m r h') : ∃ m1, r = some (.int (pPlays c mk (zna g) 0 (zPy0 g)).2.1) ∧ h' = zhp m1 ∧ cP m1 c (pPlays c mk (zna g) 0 (zPy0 g)) ∧ ∀ x y, ¬ (19 ≤ x ∧ x ≤ 28) → m1 x y = m x y := by
  obtain ⟨q1, q2, q3, q4, q5, b, b1, b2, b3, b4⟩ := id hL
  have en : zna g = b := by unfold zna; rw [b2, Int32.toNatClampNeg_ofNat_of_lt (by omega)]
  replace H := i_aln (q := 1) H I_X3_play_0 rfl rfl
  replace H := i_icst (x := 0) (q := 2) H I_X3_play_1 (by decide) rfl
  replace H := i_pf (q := 5) H I_X3_play_2 G_3_22 cn_X3_play LY_19 rfl rfl
  replace H := i_aln (q := 6) H I_X3_play_5 rfl rfl
  replace H := i_icst (x := 0) (q := 7) H I_X3_play_6 (by decide) rfl
  replace H := i_pf (q := 10) H I_X3_play_7 G_3_26 cn_X3_play LY_19 rfl rfl
  replace H := i_aln (q := 11) H I_X3_play_10 rfl rfl
  replace H := i_bip (x := (-4)) (q := 13) H I_X3_play_11 (by decide) rfl
  replace H := i_pf (q := 16) H I_X3_play_13 G_3_29 cn_X3_play LY_19 rfl rfl
  replace H := i_aln (q := 17) H I_X3_play_16 rfl rfl
  replace H := i_gfr (q := 20) H I_X3_play_17 G_3_18 cn_X3_play LY_19 rfl rfl
  replace H := i_bip (x := (-4)) (q := 22) H I_X3_play_20 (by decide) rfl
  have W := i_cs2 2 (q := 25) H I_X3_play_22 K_3_32 Zm_193 rfl rfl
  clear H
  obtain ⟨r1, h1, Hc, K1, K2⟩ := W
  obtain ⟨M_22, e1, e2, F_22⟩ := t_fill LY_28 (by omega) Hc
  have H := K2 _ e1 e2
  clear e1 e2 Hc K1 K2
  replace H := i_icst (x := 0) (q := 26) H I_X3_play_25 (by decide) rfl
  replace H := i_isn (q := 27) H I_X3_play_26 rfl rfl
  obtain ⟨f1, f2⟩ := F_22
  have hS : cP M_22 c (zPy0 g) := by
    refine ⟨LV_f hL (fun x y h1 h2 => by rw [f2 x y (by omega), zup_n (by omega), zup_n (by omega), zup_n (by omega)]), ?_, ?_, ?_, fun i hi => f1 i hi⟩
    · rw [f2 _ _ (by omega), zup_n (by omega), zup_n (by omega), zup_s]; rfl
    · rw [f2 _ _ (by omega), zup_n (by omega), zup_s]; rfl
    · rw [f2 _ _ (by omega), zup_s]; rfl
  obtain ⟨m1, x1, x2, x3, x4⟩ := py_loop (c := c) (mk := mk) b1 b 0 (zPy0 g) d r h' M_22 (by omega) hS hg b2 H
  rw [en]
  exact ⟨m1, x1, x2, x3, fun x y hxy => by rw [x4 x y hxy, f2 x y (by omega), zup_n (by omega), zup_n (by omega), zup_n (by omega)]⟩
/-- the reference's trial page, before its i-th act -/
def rP (m : zM) (i : Nat) (P : zPy) : Prop := PG m 108 P.1 ∧ m 71 18 = P.2.1 ∧ m 71 19 = P.2.2.1 ∧ m 71 20 = P.2.2.2.1 ∧ ∀ j, j < i → m 78 j = P.2.2.2.2 j
def gpl (g : Nat → Int32) : Prop := ∀ j, j < 8 → 0 ≤ (g (18 + j)).toInt ∧ (g (18 + j)).toInt ≤ 31
theorem pAct_e {c i : Nat} {mk : Int32} {P : zPy} {k : Nat} (h : ¬ k = i) : (pAct c mk i P).2.2.2.2 k = P.2.2.2.2 k := by
  unfold pAct
  split
  · rfl
  · split
    · rfl
    · exact gset_n h
def zfP (m m1 : zM) : Prop := ∀ x y, ¬ (x = 72 ∧ 108 ≤ y) → ¬ (x = 71 ∧ 18 ≤ y ∧ y ≤ 20) → ¬ x = 78 → m1 x y = m x y
theorem zfP_t {m m1 m2 : zM} (h1 : zfP m m1) (h2 : zfP m1 m2) : zfP m m2 := fun x y a b c => (h2 x y a b c).trans (h1 x y a b c)
theorem pg_loop {c a : Nat} {aw : Int32} (ha8 : a ≤ 8) : ∀ (j i : Nat) (P : zPy) (d : Nat) (r : Option Value) (h' : zHp) (m : zM), i + j = 8 → rP m i P → gok P.1 c → P.1 26 = Int32.ofNat a → gpl P.1 → (∀ k, i ≤ k → P.2.2.2.2 k = -4) → m 71 2 = Int32.ofNat c → zMk m → zE none d zm_X8_planGoes 18 [.ref 71, .int aw, .int (Int32.ofNat i), .null] [] m r h' → ∃ m1, r = none ∧ h' = zhp m1 ∧ rP m1 8 (pPlays c (aw ^^^ -1) (a - i) i P) ∧ zfP m m1 := by
  intro j
  induction j with
  | zero =>
    intro i P d r h' m hj hS hg h26 hpl hen hc hM H
    replace H := i_iln (q := 19) H I_X8_planGoes_18 rfl rfl
    replace H := i_bip (x := 8) (q := 21) H I_X8_planGoes_19 (by decide) rfl
    have W := i_ic_ge (t := 195) (q := 24) H I_X8_planGoes_21 (by decide) rfl
    clear H
    rcases W with ⟨c_21, H⟩ | ⟨c_21, H⟩
    · skip
      obtain ⟨hr, hh⟩ := i_rt H I_X8_planGoes_195
      have e : i = 8 := by omega
      subst e
      rw [show a - 8 = 0 by omega]
      exact ⟨m, hr, hh, hS, fun _ _ _ _ _ => rfl⟩
    · skip
      replace H := i_iln (q := 25) H I_X8_planGoes_24 rfl rfl
      replace H := i_aln (q := 26) H I_X8_planGoes_25 rfl rfl
      replace H := i_gfr (q := 29) H I_X8_planGoes_26 G_8_7 cn_X8_planGoes LY_71 rfl rfl
      replace H := i_sip (x := 134) (q := 32) H I_X8_planGoes_29 (by decide) rfl
      have W := i_ia (q := 33) H I_X8_planGoes_32 LY_72 rfl
      clear H
      obtain ⟨i_32, bi_32, ei_32, H⟩ := W
      have W := i_ic_ge (t := 48) (q := 36) H I_X8_planGoes_33 (by decide) rfl
      clear H
      rcases W with ⟨c_33, H⟩ | ⟨c_33, H⟩
      · skip
        replace H := i_icst (x := (-1)) (q := 49) H I_X8_planGoes_48 (by decide) rfl
        replace H := i_isn (q := 50) H I_X8_planGoes_49 rfl rfl
        replace H := i_aln (q := 51) H I_X8_planGoes_50 rfl rfl
        replace H := i_gfr (q := 54) H I_X8_planGoes_51 G_8_28 cn_X8_planGoes LY_71 rfl rfl
        replace H := i_iln (q := 55) H I_X8_planGoes_54 rfl rfl
        replace H := i_bip (x := (-4)) (q := 57) H I_X8_planGoes_55 (by decide) rfl
        have W := i_iast (q := 58) H I_X8_planGoes_57 LY_78 rfl
        clear H
        obtain ⟨i_57, bi_57, ei_57, H⟩ := W
        replace H := i_iln (q := 59) H I_X8_planGoes_58 rfl rfl
        have W := i_if_ne (t := 71) (q := 62) H I_X8_planGoes_59 (by decide) rfl
        clear H
        rcases W with ⟨c_59, H⟩ | ⟨c_59, H⟩
        · skip
          replace H := i_iln (q := 72) H I_X8_planGoes_71 rfl rfl
          have W := i_if_le (t := 189) (q := 75) H I_X8_planGoes_72 (by decide) rfl
          clear H
          rcases W with ⟨c_72, H⟩ | ⟨c_72, H⟩
          · skip
            replace H := i_inc (q := 192) H I_X8_planGoes_189 rfl rfl rfl
            replace H := i_goto (q := 18) H I_X8_planGoes_192 (by decide)
            exfalso
            exact absurd ((zofn_lt (j := 8) (by omega) (by decide)).mp c_21) (by omega)
          · skip
            replace H := i_iln (q := 76) H I_X8_planGoes_75 rfl rfl
            replace H := i_iln (q := 77) H I_X8_planGoes_76 rfl rfl
            replace H := i_icst (x := (-1)) (q := 78) H I_X8_planGoes_77 (by decide) rfl
            replace H := i_ixor (q := 79) H I_X8_planGoes_78 rfl
            replace H := i_iand (q := 80) H I_X8_planGoes_79 rfl
            have W := i_if_eq (t := 189) (q := 83) H I_X8_planGoes_80 (by decide) rfl
            clear H
            rcases W with ⟨c_80, H⟩ | ⟨c_80, H⟩
            · skip
              replace H := i_inc (q := 192) H I_X8_planGoes_189 rfl rfl rfl
              replace H := i_goto (q := 18) H I_X8_planGoes_192 (by decide)
              exfalso
              exact absurd ((zofn_lt (j := 8) (by omega) (by decide)).mp c_21) (by omega)
            · skip
              replace H := i_aln (q := 84) H I_X8_planGoes_83 rfl rfl
              replace H := i_gfr (q := 87) H I_X8_planGoes_84 G_8_28 cn_X8_planGoes LY_71 rfl rfl
              replace H := i_iln (q := 88) H I_X8_planGoes_87 rfl rfl
              replace H := i_aln (q := 89) H I_X8_planGoes_88 rfl rfl
              replace H := i_bip (x := 108) (q := 91) H I_X8_planGoes_89 (by decide) rfl
              replace H := i_iln (q := 92) H I_X8_planGoes_91 rfl rfl
              replace H := i_iln (q := 93) H I_X8_planGoes_92 rfl rfl
              replace H := i_icst (x := (-1)) (q := 94) H I_X8_planGoes_93 (by decide) rfl
              replace H := i_ixor (q := 95) H I_X8_planGoes_94 rfl
              replace H := i_iand (q := 96) H I_X8_planGoes_95 rfl
              have W := i_cv2 3 (q := 99) H I_X8_planGoes_96 K_8_170 Zm_142 rfl rfl
              clear H
              obtain ⟨r1, h1, Hc, K1, K2⟩ := W
              obtain ⟨M_96, e1, e2, F_96⟩ := t_X8_triesOn (pg := 108) (g := P.1) (c := c) ⟨hS.1.1, fun j hj => by rw [zup_n (by omega)]; exact hS.1.2 j hj⟩ hg (by rw [zup_n (by omega)]; exact hc) (by unfold zMk; rw [zup_n (by omega), zup_n (by omega), zup_n (by omega), zup_n (by omega)]; exact hM) Hc
              have H := K1 _ _ e1 e2
              clear e1 e2 Hc K1 K2
              have W := i_iast (q := 100) H I_X8_planGoes_99 LY_78 rfl
              clear H
              obtain ⟨i_99, bi_99, ei_99, H⟩ := W
              replace H := i_aln (q := 101) H I_X8_planGoes_100 rfl rfl
              replace H := i_dup (q := 102) H I_X8_planGoes_101 rfl rfl
              replace H := i_gfi (q := 105) H I_X8_planGoes_102 G_8_179 cn_X8_planGoes LY_71 rfl rfl
              replace H := i_aln (q := 106) H I_X8_planGoes_105 rfl rfl
              replace H := i_gfr (q := 109) H I_X8_planGoes_106 G_8_28 cn_X8_planGoes LY_71 rfl rfl
              replace H := i_iln (q := 110) H I_X8_planGoes_109 rfl rfl
              have W := i_ia (q := 111) H I_X8_planGoes_110 LY_78 rfl
              clear H
              obtain ⟨i_110, bi_110, ei_110, H⟩ := W
              replace H := i_bip (x := (-4)) (q := 113) H I_X8_planGoes_111 (by decide) rfl
              have W := i_ic_ne (t := 120) (q := 116) H I_X8_planGoes_113 (by decide) rfl
              clear H
              rcases W with ⟨c_113, H⟩ | ⟨c_113, H⟩
              · skip
                replace H := i_icst (x := 1) (q := 121) H I_X8_planGoes_120 (by decide) rfl
                replace H := i_iadd (q := 122) H I_X8_planGoes_121 rfl
                replace H := i_pf (q := 125) H I_X8_planGoes_122 G_8_179 cn_X8_planGoes LY_71 rfl rfl
                replace H := i_aln (q := 126) H I_X8_planGoes_125 rfl rfl
                replace H := i_dup (q := 127) H I_X8_planGoes_126 rfl rfl
                replace H := i_gfi (q := 130) H I_X8_planGoes_127 G_8_182 cn_X8_planGoes LY_71 rfl rfl
                replace H := i_aln (q := 131) H I_X8_planGoes_130 rfl rfl
                replace H := i_gfr (q := 134) H I_X8_planGoes_131 G_8_28 cn_X8_planGoes LY_71 rfl rfl
                replace H := i_iln (q := 135) H I_X8_planGoes_134 rfl rfl
                have W := i_ia (q := 136) H I_X8_planGoes_135 LY_78 rfl
                clear H
                obtain ⟨i_135, bi_135, ei_135, H⟩ := W
                replace H := i_bip (x := (-4)) (q := 138) H I_X8_planGoes_136 (by decide) rfl
                have W := i_ic_ne (t := 145) (q := 141) H I_X8_planGoes_138 (by decide) rfl
                clear H
                rcases W with ⟨c_138, H⟩ | ⟨c_138, H⟩
                · skip
                  replace H := i_icst (x := 1) (q := 146) H I_X8_planGoes_145 (by decide) rfl
                  replace H := i_aln (q := 147) H I_X8_planGoes_146 rfl rfl
                  replace H := i_gfr (q := 150) H I_X8_planGoes_147 G_8_28 cn_X8_planGoes LY_71 rfl rfl
                  replace H := i_iln (q := 151) H I_X8_planGoes_150 rfl rfl
                  have W := i_ia (q := 152) H I_X8_planGoes_151 LY_78 rfl
                  clear H
                  obtain ⟨i_151, bi_151, ei_151, H⟩ := W
                  replace H := i_ishl (q := 153) H I_X8_planGoes_152 rfl
                  replace H := i_ior (q := 154) H I_X8_planGoes_153 rfl
                  replace H := i_pf (q := 157) H I_X8_planGoes_154 G_8_182 cn_X8_planGoes LY_71 rfl rfl
                  replace H := i_aln (q := 158) H I_X8_planGoes_157 rfl rfl
                  replace H := i_aln (q := 159) H I_X8_planGoes_158 rfl rfl
                  replace H := i_gfr (q := 162) H I_X8_planGoes_159 G_8_28 cn_X8_planGoes LY_71 rfl rfl
                  replace H := i_iln (q := 163) H I_X8_planGoes_162 rfl rfl
                  have W := i_ia (q := 164) H I_X8_planGoes_163 LY_78 rfl
                  clear H
                  obtain ⟨i_163, bi_163, ei_163, H⟩ := W
                  replace H := i_bip (x := (-4)) (q := 166) H I_X8_planGoes_164 (by decide) rfl
                  have W := i_ic_ne (t := 182) (q := 169) H I_X8_planGoes_166 (by decide) rfl
                  clear H
                  rcases W with ⟨c_166, H⟩ | ⟨c_166, H⟩
                  · skip
                    replace H := i_aln (q := 183) H I_X8_planGoes_182 rfl rfl
                    replace H := i_gfi (q := 186) H I_X8_planGoes_183 G_8_185 cn_X8_planGoes LY_71 rfl rfl
                    replace H := i_pf (q := 189) H I_X8_planGoes_186 G_8_185 cn_X8_planGoes LY_71 rfl rfl
                    replace H := i_inc (q := 192) H I_X8_planGoes_189 rfl rfl rfl
                    replace H := i_goto (q := 18) H I_X8_planGoes_192 (by decide)
                    exfalso
                    exact absurd ((zofn_lt (j := 8) (by omega) (by decide)).mp c_21) (by omega)
                  · skip
                    replace H := i_aln (q := 170) H I_X8_planGoes_169 rfl rfl
                    replace H := i_gfi (q := 173) H I_X8_planGoes_170 G_8_185 cn_X8_planGoes LY_71 rfl rfl
                    replace H := i_bip (x := (-4)) (q := 175) H I_X8_planGoes_173 (by decide) rfl
                    have W := i_ic_ne (t := 182) (q := 178) H I_X8_planGoes_175 (by decide) rfl
                    clear H
                    rcases W with ⟨c_175, H⟩ | ⟨c_175, H⟩
                    · skip
                      replace H := i_aln (q := 183) H I_X8_planGoes_182 rfl rfl
                      replace H := i_gfi (q := 186) H I_X8_planGoes_183 G_8_185 cn_X8_planGoes LY_71 rfl rfl
                      replace H := i_pf (q := 189) H I_X8_planGoes_186 G_8_185 cn_X8_planGoes LY_71 rfl rfl
                      replace H := i_inc (q := 192) H I_X8_planGoes_189 rfl rfl rfl
                      replace H := i_goto (q := 18) H I_X8_planGoes_192 (by decide)
                      exfalso
                      exact absurd ((zofn_lt (j := 8) (by omega) (by decide)).mp c_21) (by omega)
                    · skip
                      replace H := i_iln (q := 179) H I_X8_planGoes_178 rfl rfl
                      replace H := i_goto (q := 186) H I_X8_planGoes_179 (by decide)
                      replace H := i_pf (q := 189) H I_X8_planGoes_186 G_8_185 cn_X8_planGoes LY_71 rfl rfl
                      replace H := i_inc (q := 192) H I_X8_planGoes_189 rfl rfl rfl
                      replace H := i_goto (q := 18) H I_X8_planGoes_192 (by decide)
                      exfalso
                      exact absurd ((zofn_lt (j := 8) (by omega) (by decide)).mp c_21) (by omega)
                · skip
                  replace H := i_icst (x := 0) (q := 142) H I_X8_planGoes_141 (by decide) rfl
                  replace H := i_goto (q := 153) H I_X8_planGoes_142 (by decide)
                  replace H := i_ior (q := 154) H I_X8_planGoes_153 rfl
                  replace H := i_pf (q := 157) H I_X8_planGoes_154 G_8_182 cn_X8_planGoes LY_71 rfl rfl
                  replace H := i_aln (q := 158) H I_X8_planGoes_157 rfl rfl
                  replace H := i_aln (q := 159) H I_X8_planGoes_158 rfl rfl
                  replace H := i_gfr (q := 162) H I_X8_planGoes_159 G_8_28 cn_X8_planGoes LY_71 rfl rfl
                  replace H := i_iln (q := 163) H I_X8_planGoes_162 rfl rfl
                  have W := i_ia (q := 164) H I_X8_planGoes_163 LY_78 rfl
                  clear H
                  obtain ⟨i_163, bi_163, ei_163, H⟩ := W
                  replace H := i_bip (x := (-4)) (q := 166) H I_X8_planGoes_164 (by decide) rfl
                  have W := i_ic_ne (t := 182) (q := 169) H I_X8_planGoes_166 (by decide) rfl
                  clear H
                  rcases W with ⟨c_166, H⟩ | ⟨c_166, H⟩
                  · skip
                    replace H := i_aln (q := 183) H I_X8_planGoes_182 rfl rfl
                    replace H := i_gfi (q := 186) H I_X8_planGoes_183 G_8_185 cn_X8_planGoes LY_71 rfl rfl
                    replace H := i_pf (q := 189) H I_X8_planGoes_186 G_8_185 cn_X8_planGoes LY_71 rfl rfl
                    replace H := i_inc (q := 192) H I_X8_planGoes_189 rfl rfl rfl
                    replace H := i_goto (q := 18) H I_X8_planGoes_192 (by decide)
                    exfalso
                    exact absurd ((zofn_lt (j := 8) (by omega) (by decide)).mp c_21) (by omega)
                  · skip
                    replace H := i_aln (q := 170) H I_X8_planGoes_169 rfl rfl
                    replace H := i_gfi (q := 173) H I_X8_planGoes_170 G_8_185 cn_X8_planGoes LY_71 rfl rfl
                    replace H := i_bip (x := (-4)) (q := 175) H I_X8_planGoes_173 (by decide) rfl
                    have W := i_ic_ne (t := 182) (q := 178) H I_X8_planGoes_175 (by decide) rfl
                    clear H
                    rcases W with ⟨c_175, H⟩ | ⟨c_175, H⟩
                    · skip
                      replace H := i_aln (q := 183) H I_X8_planGoes_182 rfl rfl
                      replace H := i_gfi (q := 186) H I_X8_planGoes_183 G_8_185 cn_X8_planGoes LY_71 rfl rfl
                      replace H := i_pf (q := 189) H I_X8_planGoes_186 G_8_185 cn_X8_planGoes LY_71 rfl rfl
                      replace H := i_inc (q := 192) H I_X8_planGoes_189 rfl rfl rfl
                      replace H := i_goto (q := 18) H I_X8_planGoes_192 (by decide)
                      exfalso
                      exact absurd ((zofn_lt (j := 8) (by omega) (by decide)).mp c_21) (by omega)
                    · skip
                      replace H := i_iln (q := 179) H I_X8_planGoes_178 rfl rfl
                      replace H := i_goto (q := 186) H I_X8_planGoes_179 (by decide)
                      replace H := i_pf (q := 189) H I_X8_planGoes_186 G_8_185 cn_X8_planGoes LY_71 rfl rfl
                      replace H := i_inc (q := 192) H I_X8_planGoes_189 rfl rfl rfl
                      replace H := i_goto (q := 18) H I_X8_planGoes_192 (by decide)
                      exfalso
                      exact absurd ((zofn_lt (j := 8) (by omega) (by decide)).mp c_21) (by omega)
              · skip
                replace H := i_icst (x := 0) (q := 117) H I_X8_planGoes_116 (by decide) rfl
                replace H := i_goto (q := 121) H I_X8_planGoes_117 (by decide)
                replace H := i_iadd (q := 122) H I_X8_planGoes_121 rfl
                replace H := i_pf (q := 125) H I_X8_planGoes_122 G_8_179 cn_X8_planGoes LY_71 rfl rfl
                replace H := i_aln (q := 126) H I_X8_planGoes_125 rfl rfl
                replace H := i_dup (q := 127) H I_X8_planGoes_126 rfl rfl
                replace H := i_gfi (q := 130) H I_X8_planGoes_127 G_8_182 cn_X8_planGoes LY_71 rfl rfl
                replace H := i_aln (q := 131) H I_X8_planGoes_130 rfl rfl
                replace H := i_gfr (q := 134) H I_X8_planGoes_131 G_8_28 cn_X8_planGoes LY_71 rfl rfl
                replace H := i_iln (q := 135) H I_X8_planGoes_134 rfl rfl
                have W := i_ia (q := 136) H I_X8_planGoes_135 LY_78 rfl
                clear H
                obtain ⟨i_135, bi_135, ei_135, H⟩ := W
                replace H := i_bip (x := (-4)) (q := 138) H I_X8_planGoes_136 (by decide) rfl
                have W := i_ic_ne (t := 145) (q := 141) H I_X8_planGoes_138 (by decide) rfl
                clear H
                rcases W with ⟨c_138, H⟩ | ⟨c_138, H⟩
                · skip
                  replace H := i_icst (x := 1) (q := 146) H I_X8_planGoes_145 (by decide) rfl
                  replace H := i_aln (q := 147) H I_X8_planGoes_146 rfl rfl
                  replace H := i_gfr (q := 150) H I_X8_planGoes_147 G_8_28 cn_X8_planGoes LY_71 rfl rfl
                  replace H := i_iln (q := 151) H I_X8_planGoes_150 rfl rfl
                  have W := i_ia (q := 152) H I_X8_planGoes_151 LY_78 rfl
                  clear H
                  obtain ⟨i_151, bi_151, ei_151, H⟩ := W
                  replace H := i_ishl (q := 153) H I_X8_planGoes_152 rfl
                  replace H := i_ior (q := 154) H I_X8_planGoes_153 rfl
                  replace H := i_pf (q := 157) H I_X8_planGoes_154 G_8_182 cn_X8_planGoes LY_71 rfl rfl
                  replace H := i_aln (q := 158) H I_X8_planGoes_157 rfl rfl
                  replace H := i_aln (q := 159) H I_X8_planGoes_158 rfl rfl
                  replace H := i_gfr (q := 162) H I_X8_planGoes_159 G_8_28 cn_X8_planGoes LY_71 rfl rfl
                  replace H := i_iln (q := 163) H I_X8_planGoes_162 rfl rfl
                  have W := i_ia (q := 164) H I_X8_planGoes_163 LY_78 rfl
                  clear H
                  obtain ⟨i_163, bi_163, ei_163, H⟩ := W
                  replace H := i_bip (x := (-4)) (q := 166) H I_X8_planGoes_164 (by decide) rfl
                  have W := i_ic_ne (t := 182) (q := 169) H I_X8_planGoes_166 (by decide) rfl
                  clear H
                  rcases W with ⟨c_166, H⟩ | ⟨c_166, H⟩
                  · skip
                    replace H := i_aln (q := 183) H I_X8_planGoes_182 rfl rfl
                    replace H := i_gfi (q := 186) H I_X8_planGoes_183 G_8_185 cn_X8_planGoes LY_71 rfl rfl
                    replace H := i_pf (q := 189) H I_X8_planGoes_186 G_8_185 cn_X8_planGoes LY_71 rfl rfl
                    replace H := i_inc (q := 192) H I_X8_planGoes_189 rfl rfl rfl
                    replace H := i_goto (q := 18) H I_X8_planGoes_192 (by decide)
                    exfalso
                    exact absurd ((zofn_lt (j := 8) (by omega) (by decide)).mp c_21) (by omega)
                  · skip
                    replace H := i_aln (q := 170) H I_X8_planGoes_169 rfl rfl
                    replace H := i_gfi (q := 173) H I_X8_planGoes_170 G_8_185 cn_X8_planGoes LY_71 rfl rfl
                    replace H := i_bip (x := (-4)) (q := 175) H I_X8_planGoes_173 (by decide) rfl
                    have W := i_ic_ne (t := 182) (q := 178) H I_X8_planGoes_175 (by decide) rfl
                    clear H
                    rcases W with ⟨c_175, H⟩ | ⟨c_175, H⟩
                    · skip
                      replace H := i_aln (q := 183) H I_X8_planGoes_182 rfl rfl
                      replace H := i_gfi (q := 186) H I_X8_planGoes_183 G_8_185 cn_X8_planGoes LY_71 rfl rfl
                      replace H := i_pf (q := 189) H I_X8_planGoes_186 G_8_185 cn_X8_planGoes LY_71 rfl rfl
                      replace H := i_inc (q := 192) H I_X8_planGoes_189 rfl rfl rfl
                      replace H := i_goto (q := 18) H I_X8_planGoes_192 (by decide)
                      exfalso
                      exact absurd ((zofn_lt (j := 8) (by omega) (by decide)).mp c_21) (by omega)
                    · skip
                      replace H := i_iln (q := 179) H I_X8_planGoes_178 rfl rfl
                      replace H := i_goto (q := 186) H I_X8_planGoes_179 (by decide)
                      replace H := i_pf (q := 189) H I_X8_planGoes_186 G_8_185 cn_X8_planGoes LY_71 rfl rfl
                      replace H := i_inc (q := 192) H I_X8_planGoes_189 rfl rfl rfl
                      replace H := i_goto (q := 18) H I_X8_planGoes_192 (by decide)
                      exfalso
                      exact absurd ((zofn_lt (j := 8) (by omega) (by decide)).mp c_21) (by omega)
                · skip
                  replace H := i_icst (x := 0) (q := 142) H I_X8_planGoes_141 (by decide) rfl
                  replace H := i_goto (q := 153) H I_X8_planGoes_142 (by decide)
                  replace H := i_ior (q := 154) H I_X8_planGoes_153 rfl
                  replace H := i_pf (q := 157) H I_X8_planGoes_154 G_8_182 cn_X8_planGoes LY_71 rfl rfl
                  replace H := i_aln (q := 158) H I_X8_planGoes_157 rfl rfl
                  replace H := i_aln (q := 159) H I_X8_planGoes_158 rfl rfl
                  replace H := i_gfr (q := 162) H I_X8_planGoes_159 G_8_28 cn_X8_planGoes LY_71 rfl rfl
                  replace H := i_iln (q := 163) H I_X8_planGoes_162 rfl rfl
                  have W := i_ia (q := 164) H I_X8_planGoes_163 LY_78 rfl
                  clear H
                  obtain ⟨i_163, bi_163, ei_163, H⟩ := W
                  replace H := i_bip (x := (-4)) (q := 166) H I_X8_planGoes_164 (by decide) rfl
                  have W := i_ic_ne (t := 182) (q := 169) H I_X8_planGoes_166 (by decide) rfl
                  clear H
                  rcases W with ⟨c_166, H⟩ | ⟨c_166, H⟩
                  · skip
                    replace H := i_aln (q := 183) H I_X8_planGoes_182 rfl rfl
                    replace H := i_gfi (q := 186) H I_X8_planGoes_183 G_8_185 cn_X8_planGoes LY_71 rfl rfl
                    replace H := i_pf (q := 189) H I_X8_planGoes_186 G_8_185 cn_X8_planGoes LY_71 rfl rfl
                    replace H := i_inc (q := 192) H I_X8_planGoes_189 rfl rfl rfl
                    replace H := i_goto (q := 18) H I_X8_planGoes_192 (by decide)
                    exfalso
                    exact absurd ((zofn_lt (j := 8) (by omega) (by decide)).mp c_21) (by omega)
                  · skip
                    replace H := i_aln (q := 170) H I_X8_planGoes_169 rfl rfl
                    replace H := i_gfi (q := 173) H I_X8_planGoes_170 G_8_185 cn_X8_planGoes LY_71 rfl rfl
                    replace H := i_bip (x := (-4)) (q := 175) H I_X8_planGoes_173 (by decide) rfl
                    have W := i_ic_ne (t := 182) (q := 178) H I_X8_planGoes_175 (by decide) rfl
                    clear H
                    rcases W with ⟨c_175, H⟩ | ⟨c_175, H⟩
                    · skip
                      replace H := i_aln (q := 183) H I_X8_planGoes_182 rfl rfl
                      replace H := i_gfi (q := 186) H I_X8_planGoes_183 G_8_185 cn_X8_planGoes LY_71 rfl rfl
                      replace H := i_pf (q := 189) H I_X8_planGoes_186 G_8_185 cn_X8_planGoes LY_71 rfl rfl
                      replace H := i_inc (q := 192) H I_X8_planGoes_189 rfl rfl rfl
                      replace H := i_goto (q := 18) H I_X8_planGoes_192 (by decide)
                      exfalso
                      exact absurd ((zofn_lt (j := 8) (by omega) (by decide)).mp c_21) (by omega)
                    · skip
                      replace H := i_iln (q := 179) H I_X8_planGoes_178 rfl rfl
                      replace H := i_goto (q := 186) H I_X8_planGoes_179 (by decide)
                      replace H := i_pf (q := 189) H I_X8_planGoes_186 G_8_185 cn_X8_planGoes LY_71 rfl rfl
                      replace H := i_inc (q := 192) H I_X8_planGoes_189 rfl rfl rfl
                      replace H := i_goto (q := 18) H I_X8_planGoes_192 (by decide)
                      exfalso
                      exact absurd ((zofn_lt (j := 8) (by omega) (by decide)).mp c_21) (by omega)
        · skip
          replace H := i_aln (q := 63) H I_X8_planGoes_62 rfl rfl
          replace H := i_bip (x := 108) (q := 65) H I_X8_planGoes_63 (by decide) rfl
          have W := i_cv1 1 (q := 68) H I_X8_planGoes_65 K_8_176 Zm_143 rfl rfl
          clear H
          obtain ⟨r1, h1, Hc, K1, K2⟩ := W
          obtain ⟨M_65, e1, e2, F_65⟩ := t_X8_restsOn (pg := 108) (g := P.1) ⟨hS.1.1, fun j hj => by rw [zup_n (by omega)]; exact hS.1.2 j hj⟩ Hc
          have H := K2 _ e1 e2
          clear e1 e2 Hc K1 K2
          replace H := i_goto (q := 189) H I_X8_planGoes_68 (by decide)
          replace H := i_inc (q := 192) H I_X8_planGoes_189 rfl rfl rfl
          replace H := i_goto (q := 18) H I_X8_planGoes_192 (by decide)
          exfalso
          exact absurd ((zofn_lt (j := 8) (by omega) (by decide)).mp c_21) (by omega)
      · skip
        replace H := i_aln (q := 37) H I_X8_planGoes_36 rfl rfl
        replace H := i_gfr (q := 40) H I_X8_planGoes_37 G_8_7 cn_X8_planGoes LY_71 rfl rfl
        replace H := i_bip (x := 126) (q := 42) H I_X8_planGoes_40 (by decide) rfl
        replace H := i_iln (q := 43) H I_X8_planGoes_42 rfl rfl
        replace H := i_iadd (q := 44) H I_X8_planGoes_43 rfl
        have W := i_ia (q := 45) H I_X8_planGoes_44 LY_72 rfl
        clear H
        obtain ⟨i_44, bi_44, ei_44, H⟩ := W
        replace H := i_goto (q := 49) H I_X8_planGoes_45 (by decide)
        replace H := i_isn (q := 50) H I_X8_planGoes_49 rfl rfl
        replace H := i_aln (q := 51) H I_X8_planGoes_50 rfl rfl
        replace H := i_gfr (q := 54) H I_X8_planGoes_51 G_8_28 cn_X8_planGoes LY_71 rfl rfl
        replace H := i_iln (q := 55) H I_X8_planGoes_54 rfl rfl
        replace H := i_bip (x := (-4)) (q := 57) H I_X8_planGoes_55 (by decide) rfl
        have W := i_iast (q := 58) H I_X8_planGoes_57 LY_78 rfl
        clear H
        obtain ⟨i_57, bi_57, ei_57, H⟩ := W
        replace H := i_iln (q := 59) H I_X8_planGoes_58 rfl rfl
        have W := i_if_ne (t := 71) (q := 62) H I_X8_planGoes_59 (by decide) rfl
        clear H
        rcases W with ⟨c_59, H⟩ | ⟨c_59, H⟩
        · skip
          replace H := i_iln (q := 72) H I_X8_planGoes_71 rfl rfl
          have W := i_if_le (t := 189) (q := 75) H I_X8_planGoes_72 (by decide) rfl
          clear H
          rcases W with ⟨c_72, H⟩ | ⟨c_72, H⟩
          · skip
            replace H := i_inc (q := 192) H I_X8_planGoes_189 rfl rfl rfl
            replace H := i_goto (q := 18) H I_X8_planGoes_192 (by decide)
            exfalso
            exact absurd ((zofn_lt (j := 8) (by omega) (by decide)).mp c_21) (by omega)
          · skip
            replace H := i_iln (q := 76) H I_X8_planGoes_75 rfl rfl
            replace H := i_iln (q := 77) H I_X8_planGoes_76 rfl rfl
            replace H := i_icst (x := (-1)) (q := 78) H I_X8_planGoes_77 (by decide) rfl
            replace H := i_ixor (q := 79) H I_X8_planGoes_78 rfl
            replace H := i_iand (q := 80) H I_X8_planGoes_79 rfl
            have W := i_if_eq (t := 189) (q := 83) H I_X8_planGoes_80 (by decide) rfl
            clear H
            rcases W with ⟨c_80, H⟩ | ⟨c_80, H⟩
            · skip
              replace H := i_inc (q := 192) H I_X8_planGoes_189 rfl rfl rfl
              replace H := i_goto (q := 18) H I_X8_planGoes_192 (by decide)
              exfalso
              exact absurd ((zofn_lt (j := 8) (by omega) (by decide)).mp c_21) (by omega)
            · skip
              replace H := i_aln (q := 84) H I_X8_planGoes_83 rfl rfl
              replace H := i_gfr (q := 87) H I_X8_planGoes_84 G_8_28 cn_X8_planGoes LY_71 rfl rfl
              replace H := i_iln (q := 88) H I_X8_planGoes_87 rfl rfl
              replace H := i_aln (q := 89) H I_X8_planGoes_88 rfl rfl
              replace H := i_bip (x := 108) (q := 91) H I_X8_planGoes_89 (by decide) rfl
              replace H := i_iln (q := 92) H I_X8_planGoes_91 rfl rfl
              replace H := i_iln (q := 93) H I_X8_planGoes_92 rfl rfl
              replace H := i_icst (x := (-1)) (q := 94) H I_X8_planGoes_93 (by decide) rfl
              replace H := i_ixor (q := 95) H I_X8_planGoes_94 rfl
              replace H := i_iand (q := 96) H I_X8_planGoes_95 rfl
              have W := i_cv2 3 (q := 99) H I_X8_planGoes_96 K_8_170 Zm_142 rfl rfl
              clear H
              obtain ⟨r1, h1, Hc, K1, K2⟩ := W
              obtain ⟨M_96, e1, e2, F_96⟩ := t_X8_triesOn (pg := 108) (g := P.1) (c := c) ⟨hS.1.1, fun j hj => by rw [zup_n (by omega)]; exact hS.1.2 j hj⟩ hg (by rw [zup_n (by omega)]; exact hc) (by unfold zMk; rw [zup_n (by omega), zup_n (by omega), zup_n (by omega), zup_n (by omega)]; exact hM) Hc
              have H := K1 _ _ e1 e2
              clear e1 e2 Hc K1 K2
              have W := i_iast (q := 100) H I_X8_planGoes_99 LY_78 rfl
              clear H
              obtain ⟨i_99, bi_99, ei_99, H⟩ := W
              replace H := i_aln (q := 101) H I_X8_planGoes_100 rfl rfl
              replace H := i_dup (q := 102) H I_X8_planGoes_101 rfl rfl
              replace H := i_gfi (q := 105) H I_X8_planGoes_102 G_8_179 cn_X8_planGoes LY_71 rfl rfl
              replace H := i_aln (q := 106) H I_X8_planGoes_105 rfl rfl
              replace H := i_gfr (q := 109) H I_X8_planGoes_106 G_8_28 cn_X8_planGoes LY_71 rfl rfl
              replace H := i_iln (q := 110) H I_X8_planGoes_109 rfl rfl
              have W := i_ia (q := 111) H I_X8_planGoes_110 LY_78 rfl
              clear H
              obtain ⟨i_110, bi_110, ei_110, H⟩ := W
              replace H := i_bip (x := (-4)) (q := 113) H I_X8_planGoes_111 (by decide) rfl
              have W := i_ic_ne (t := 120) (q := 116) H I_X8_planGoes_113 (by decide) rfl
              clear H
              rcases W with ⟨c_113, H⟩ | ⟨c_113, H⟩
              · skip
                replace H := i_icst (x := 1) (q := 121) H I_X8_planGoes_120 (by decide) rfl
                replace H := i_iadd (q := 122) H I_X8_planGoes_121 rfl
                replace H := i_pf (q := 125) H I_X8_planGoes_122 G_8_179 cn_X8_planGoes LY_71 rfl rfl
                replace H := i_aln (q := 126) H I_X8_planGoes_125 rfl rfl
                replace H := i_dup (q := 127) H I_X8_planGoes_126 rfl rfl
                replace H := i_gfi (q := 130) H I_X8_planGoes_127 G_8_182 cn_X8_planGoes LY_71 rfl rfl
                replace H := i_aln (q := 131) H I_X8_planGoes_130 rfl rfl
                replace H := i_gfr (q := 134) H I_X8_planGoes_131 G_8_28 cn_X8_planGoes LY_71 rfl rfl
                replace H := i_iln (q := 135) H I_X8_planGoes_134 rfl rfl
                have W := i_ia (q := 136) H I_X8_planGoes_135 LY_78 rfl
                clear H
                obtain ⟨i_135, bi_135, ei_135, H⟩ := W
                replace H := i_bip (x := (-4)) (q := 138) H I_X8_planGoes_136 (by decide) rfl
                have W := i_ic_ne (t := 145) (q := 141) H I_X8_planGoes_138 (by decide) rfl
                clear H
                rcases W with ⟨c_138, H⟩ | ⟨c_138, H⟩
                · skip
                  replace H := i_icst (x := 1) (q := 146) H I_X8_planGoes_145 (by decide) rfl
                  replace H := i_aln (q := 147) H I_X8_planGoes_146 rfl rfl
                  replace H := i_gfr (q := 150) H I_X8_planGoes_147 G_8_28 cn_X8_planGoes LY_71 rfl rfl
                  replace H := i_iln (q := 151) H I_X8_planGoes_150 rfl rfl
                  have W := i_ia (q := 152) H I_X8_planGoes_151 LY_78 rfl
                  clear H
                  obtain ⟨i_151, bi_151, ei_151, H⟩ := W
                  replace H := i_ishl (q := 153) H I_X8_planGoes_152 rfl
                  replace H := i_ior (q := 154) H I_X8_planGoes_153 rfl
                  replace H := i_pf (q := 157) H I_X8_planGoes_154 G_8_182 cn_X8_planGoes LY_71 rfl rfl
                  replace H := i_aln (q := 158) H I_X8_planGoes_157 rfl rfl
                  replace H := i_aln (q := 159) H I_X8_planGoes_158 rfl rfl
                  replace H := i_gfr (q := 162) H I_X8_planGoes_159 G_8_28 cn_X8_planGoes LY_71 rfl rfl
                  replace H := i_iln (q := 163) H I_X8_planGoes_162 rfl rfl
                  have W := i_ia (q := 164) H I_X8_planGoes_163 LY_78 rfl
                  clear H
                  obtain ⟨i_163, bi_163, ei_163, H⟩ := W
                  replace H := i_bip (x := (-4)) (q := 166) H I_X8_planGoes_164 (by decide) rfl
                  have W := i_ic_ne (t := 182) (q := 169) H I_X8_planGoes_166 (by decide) rfl
                  clear H
                  rcases W with ⟨c_166, H⟩ | ⟨c_166, H⟩
                  · skip
                    replace H := i_aln (q := 183) H I_X8_planGoes_182 rfl rfl
                    replace H := i_gfi (q := 186) H I_X8_planGoes_183 G_8_185 cn_X8_planGoes LY_71 rfl rfl
                    replace H := i_pf (q := 189) H I_X8_planGoes_186 G_8_185 cn_X8_planGoes LY_71 rfl rfl
                    replace H := i_inc (q := 192) H I_X8_planGoes_189 rfl rfl rfl
                    replace H := i_goto (q := 18) H I_X8_planGoes_192 (by decide)
                    exfalso
                    exact absurd ((zofn_lt (j := 8) (by omega) (by decide)).mp c_21) (by omega)
                  · skip
                    replace H := i_aln (q := 170) H I_X8_planGoes_169 rfl rfl
                    replace H := i_gfi (q := 173) H I_X8_planGoes_170 G_8_185 cn_X8_planGoes LY_71 rfl rfl
                    replace H := i_bip (x := (-4)) (q := 175) H I_X8_planGoes_173 (by decide) rfl
                    have W := i_ic_ne (t := 182) (q := 178) H I_X8_planGoes_175 (by decide) rfl
                    clear H
                    rcases W with ⟨c_175, H⟩ | ⟨c_175, H⟩
                    · skip
                      replace H := i_aln (q := 183) H I_X8_planGoes_182 rfl rfl
                      replace H := i_gfi (q := 186) H I_X8_planGoes_183 G_8_185 cn_X8_planGoes LY_71 rfl rfl
                      replace H := i_pf (q := 189) H I_X8_planGoes_186 G_8_185 cn_X8_planGoes LY_71 rfl rfl
                      replace H := i_inc (q := 192) H I_X8_planGoes_189 rfl rfl rfl
                      replace H := i_goto (q := 18) H I_X8_planGoes_192 (by decide)
                      exfalso
                      exact absurd ((zofn_lt (j := 8) (by omega) (by decide)).mp c_21) (by omega)
                    · skip
                      replace H := i_iln (q := 179) H I_X8_planGoes_178 rfl rfl
                      replace H := i_goto (q := 186) H I_X8_planGoes_179 (by decide)
                      replace H := i_pf (q := 189) H I_X8_planGoes_186 G_8_185 cn_X8_planGoes LY_71 rfl rfl
                      replace H := i_inc (q := 192) H I_X8_planGoes_189 rfl rfl rfl
                      replace H := i_goto (q := 18) H I_X8_planGoes_192 (by decide)
                      exfalso
                      exact absurd ((zofn_lt (j := 8) (by omega) (by decide)).mp c_21) (by omega)
                · skip
                  replace H := i_icst (x := 0) (q := 142) H I_X8_planGoes_141 (by decide) rfl
                  replace H := i_goto (q := 153) H I_X8_planGoes_142 (by decide)
                  replace H := i_ior (q := 154) H I_X8_planGoes_153 rfl
                  replace H := i_pf (q := 157) H I_X8_planGoes_154 G_8_182 cn_X8_planGoes LY_71 rfl rfl
                  replace H := i_aln (q := 158) H I_X8_planGoes_157 rfl rfl
                  replace H := i_aln (q := 159) H I_X8_planGoes_158 rfl rfl
                  replace H := i_gfr (q := 162) H I_X8_planGoes_159 G_8_28 cn_X8_planGoes LY_71 rfl rfl
                  replace H := i_iln (q := 163) H I_X8_planGoes_162 rfl rfl
                  have W := i_ia (q := 164) H I_X8_planGoes_163 LY_78 rfl
                  clear H
                  obtain ⟨i_163, bi_163, ei_163, H⟩ := W
                  replace H := i_bip (x := (-4)) (q := 166) H I_X8_planGoes_164 (by decide) rfl
                  have W := i_ic_ne (t := 182) (q := 169) H I_X8_planGoes_166 (by decide) rfl
                  clear H
                  rcases W with ⟨c_166, H⟩ | ⟨c_166, H⟩
                  · skip
                    replace H := i_aln (q := 183) H I_X8_planGoes_182 rfl rfl
                    replace H := i_gfi (q := 186) H I_X8_planGoes_183 G_8_185 cn_X8_planGoes LY_71 rfl rfl
                    replace H := i_pf (q := 189) H I_X8_planGoes_186 G_8_185 cn_X8_planGoes LY_71 rfl rfl
                    replace H := i_inc (q := 192) H I_X8_planGoes_189 rfl rfl rfl
                    replace H := i_goto (q := 18) H I_X8_planGoes_192 (by decide)
                    exfalso
                    exact absurd ((zofn_lt (j := 8) (by omega) (by decide)).mp c_21) (by omega)
                  · skip
                    replace H := i_aln (q := 170) H I_X8_planGoes_169 rfl rfl
                    replace H := i_gfi (q := 173) H I_X8_planGoes_170 G_8_185 cn_X8_planGoes LY_71 rfl rfl
                    replace H := i_bip (x := (-4)) (q := 175) H I_X8_planGoes_173 (by decide) rfl
                    have W := i_ic_ne (t := 182) (q := 178) H I_X8_planGoes_175 (by decide) rfl
                    clear H
                    rcases W with ⟨c_175, H⟩ | ⟨c_175, H⟩
                    · skip
                      replace H := i_aln (q := 183) H I_X8_planGoes_182 rfl rfl
                      replace H := i_gfi (q := 186) H I_X8_planGoes_183 G_8_185 cn_X8_planGoes LY_71 rfl rfl
                      replace H := i_pf (q := 189) H I_X8_planGoes_186 G_8_185 cn_X8_planGoes LY_71 rfl rfl
                      replace H := i_inc (q := 192) H I_X8_planGoes_189 rfl rfl rfl
                      replace H := i_goto (q := 18) H I_X8_planGoes_192 (by decide)
                      exfalso
                      exact absurd ((zofn_lt (j := 8) (by omega) (by decide)).mp c_21) (by omega)
                    · skip
                      replace H := i_iln (q := 179) H I_X8_planGoes_178 rfl rfl
                      replace H := i_goto (q := 186) H I_X8_planGoes_179 (by decide)
                      replace H := i_pf (q := 189) H I_X8_planGoes_186 G_8_185 cn_X8_planGoes LY_71 rfl rfl
                      replace H := i_inc (q := 192) H I_X8_planGoes_189 rfl rfl rfl
                      replace H := i_goto (q := 18) H I_X8_planGoes_192 (by decide)
                      exfalso
                      exact absurd ((zofn_lt (j := 8) (by omega) (by decide)).mp c_21) (by omega)
              · skip
                replace H := i_icst (x := 0) (q := 117) H I_X8_planGoes_116 (by decide) rfl
                replace H := i_goto (q := 121) H I_X8_planGoes_117 (by decide)
                replace H := i_iadd (q := 122) H I_X8_planGoes_121 rfl
                replace H := i_pf (q := 125) H I_X8_planGoes_122 G_8_179 cn_X8_planGoes LY_71 rfl rfl
                replace H := i_aln (q := 126) H I_X8_planGoes_125 rfl rfl
                replace H := i_dup (q := 127) H I_X8_planGoes_126 rfl rfl
                replace H := i_gfi (q := 130) H I_X8_planGoes_127 G_8_182 cn_X8_planGoes LY_71 rfl rfl
                replace H := i_aln (q := 131) H I_X8_planGoes_130 rfl rfl
                replace H := i_gfr (q := 134) H I_X8_planGoes_131 G_8_28 cn_X8_planGoes LY_71 rfl rfl
                replace H := i_iln (q := 135) H I_X8_planGoes_134 rfl rfl
                have W := i_ia (q := 136) H I_X8_planGoes_135 LY_78 rfl
                clear H
                obtain ⟨i_135, bi_135, ei_135, H⟩ := W
                replace H := i_bip (x := (-4)) (q := 138) H I_X8_planGoes_136 (by decide) rfl
                have W := i_ic_ne (t := 145) (q := 141) H I_X8_planGoes_138 (by decide) rfl
                clear H
                rcases W with ⟨c_138, H⟩ | ⟨c_138, H⟩
                · skip
                  replace H := i_icst (x := 1) (q := 146) H I_X8_planGoes_145 (by decide) rfl
                  replace H := i_aln (q := 147) H I_X8_planGoes_146 rfl rfl
                  replace H := i_gfr (q := 150) H I_X8_planGoes_147 G_8_28 cn_X8_planGoes LY_71 rfl rfl
                  replace H := i_iln (q := 151) H I_X8_planGoes_150 rfl rfl
                  have W := i_ia (q := 152) H I_X8_planGoes_151 LY_78 rfl
                  clear H
                  obtain ⟨i_151, bi_151, ei_151, H⟩ := W
                  replace H := i_ishl (q := 153) H I_X8_planGoes_152 rfl
                  replace H := i_ior (q := 154) H I_X8_planGoes_153 rfl
                  replace H := i_pf (q := 157) H I_X8_planGoes_154 G_8_182 cn_X8_planGoes LY_71 rfl rfl
                  replace H := i_aln (q := 158) H I_X8_planGoes_157 rfl rfl
                  replace H := i_aln (q := 159) H I_X8_planGoes_158 rfl rfl
                  replace H := i_gfr (q := 162) H I_X8_planGoes_159 G_8_28 cn_X8_planGoes LY_71 rfl rfl
                  replace H := i_iln (q := 163) H I_X8_planGoes_162 rfl rfl
                  have W := i_ia (q := 164) H I_X8_planGoes_163 LY_78 rfl
                  clear H
                  obtain ⟨i_163, bi_163, ei_163, H⟩ := W
                  replace H := i_bip (x := (-4)) (q := 166) H I_X8_planGoes_164 (by decide) rfl
                  have W := i_ic_ne (t := 182) (q := 169) H I_X8_planGoes_166 (by decide) rfl
                  clear H
                  rcases W with ⟨c_166, H⟩ | ⟨c_166, H⟩
                  · skip
                    replace H := i_aln (q := 183) H I_X8_planGoes_182 rfl rfl
                    replace H := i_gfi (q := 186) H I_X8_planGoes_183 G_8_185 cn_X8_planGoes LY_71 rfl rfl
                    replace H := i_pf (q := 189) H I_X8_planGoes_186 G_8_185 cn_X8_planGoes LY_71 rfl rfl
                    replace H := i_inc (q := 192) H I_X8_planGoes_189 rfl rfl rfl
                    replace H := i_goto (q := 18) H I_X8_planGoes_192 (by decide)
                    exfalso
                    exact absurd ((zofn_lt (j := 8) (by omega) (by decide)).mp c_21) (by omega)
                  · skip
                    replace H := i_aln (q := 170) H I_X8_planGoes_169 rfl rfl
                    replace H := i_gfi (q := 173) H I_X8_planGoes_170 G_8_185 cn_X8_planGoes LY_71 rfl rfl
                    replace H := i_bip (x := (-4)) (q := 175) H I_X8_planGoes_173 (by decide) rfl
                    have W := i_ic_ne (t := 182) (q := 178) H I_X8_planGoes_175 (by decide) rfl
                    clear H
                    rcases W with ⟨c_175, H⟩ | ⟨c_175, H⟩
                    · skip
                      replace H := i_aln (q := 183) H I_X8_planGoes_182 rfl rfl
                      replace H := i_gfi (q := 186) H I_X8_planGoes_183 G_8_185 cn_X8_planGoes LY_71 rfl rfl
                      replace H := i_pf (q := 189) H I_X8_planGoes_186 G_8_185 cn_X8_planGoes LY_71 rfl rfl
                      replace H := i_inc (q := 192) H I_X8_planGoes_189 rfl rfl rfl
                      replace H := i_goto (q := 18) H I_X8_planGoes_192 (by decide)
                      exfalso
                      exact absurd ((zofn_lt (j := 8) (by omega) (by decide)).mp c_21) (by omega)
                    · skip
                      replace H := i_iln (q := 179) H I_X8_planGoes_178 rfl rfl
                      replace H := i_goto (q := 186) H I_X8_planGoes_179 (by decide)
                      replace H := i_pf (q := 189) H I_X8_planGoes_186 G_8_185 cn_X8_planGoes LY_71 rfl rfl
                      replace H := i_inc (q := 192) H I_X8_planGoes_189 rfl rfl rfl
                      replace H := i_goto (q := 18) H I_X8_planGoes_192 (by decide)
                      exfalso
                      exact absurd ((zofn_lt (j := 8) (by omega) (by decide)).mp c_21) (by omega)
                · skip
                  replace H := i_icst (x := 0) (q := 142) H I_X8_planGoes_141 (by decide) rfl
                  replace H := i_goto (q := 153) H I_X8_planGoes_142 (by decide)
                  replace H := i_ior (q := 154) H I_X8_planGoes_153 rfl
                  replace H := i_pf (q := 157) H I_X8_planGoes_154 G_8_182 cn_X8_planGoes LY_71 rfl rfl
                  replace H := i_aln (q := 158) H I_X8_planGoes_157 rfl rfl
                  replace H := i_aln (q := 159) H I_X8_planGoes_158 rfl rfl
                  replace H := i_gfr (q := 162) H I_X8_planGoes_159 G_8_28 cn_X8_planGoes LY_71 rfl rfl
                  replace H := i_iln (q := 163) H I_X8_planGoes_162 rfl rfl
                  have W := i_ia (q := 164) H I_X8_planGoes_163 LY_78 rfl
                  clear H
                  obtain ⟨i_163, bi_163, ei_163, H⟩ := W
                  replace H := i_bip (x := (-4)) (q := 166) H I_X8_planGoes_164 (by decide) rfl
                  have W := i_ic_ne (t := 182) (q := 169) H I_X8_planGoes_166 (by decide) rfl
                  clear H
                  rcases W with ⟨c_166, H⟩ | ⟨c_166, H⟩
                  · skip
                    replace H := i_aln (q := 183) H I_X8_planGoes_182 rfl rfl
                    replace H := i_gfi (q := 186) H I_X8_planGoes_183 G_8_185 cn_X8_planGoes LY_71 rfl rfl
                    replace H := i_pf (q := 189) H I_X8_planGoes_186 G_8_185 cn_X8_planGoes LY_71 rfl rfl
                    replace H := i_inc (q := 192) H I_X8_planGoes_189 rfl rfl rfl
                    replace H := i_goto (q := 18) H I_X8_planGoes_192 (by decide)
                    exfalso
                    exact absurd ((zofn_lt (j := 8) (by omega) (by decide)).mp c_21) (by omega)
                  · skip
                    replace H := i_aln (q := 170) H I_X8_planGoes_169 rfl rfl
                    replace H := i_gfi (q := 173) H I_X8_planGoes_170 G_8_185 cn_X8_planGoes LY_71 rfl rfl
                    replace H := i_bip (x := (-4)) (q := 175) H I_X8_planGoes_173 (by decide) rfl
                    have W := i_ic_ne (t := 182) (q := 178) H I_X8_planGoes_175 (by decide) rfl
                    clear H
                    rcases W with ⟨c_175, H⟩ | ⟨c_175, H⟩
                    · skip
                      replace H := i_aln (q := 183) H I_X8_planGoes_182 rfl rfl
                      replace H := i_gfi (q := 186) H I_X8_planGoes_183 G_8_185 cn_X8_planGoes LY_71 rfl rfl
                      replace H := i_pf (q := 189) H I_X8_planGoes_186 G_8_185 cn_X8_planGoes LY_71 rfl rfl
                      replace H := i_inc (q := 192) H I_X8_planGoes_189 rfl rfl rfl
                      replace H := i_goto (q := 18) H I_X8_planGoes_192 (by decide)
                      exfalso
                      exact absurd ((zofn_lt (j := 8) (by omega) (by decide)).mp c_21) (by omega)
                    · skip
                      replace H := i_iln (q := 179) H I_X8_planGoes_178 rfl rfl
                      replace H := i_goto (q := 186) H I_X8_planGoes_179 (by decide)
                      replace H := i_pf (q := 189) H I_X8_planGoes_186 G_8_185 cn_X8_planGoes LY_71 rfl rfl
                      replace H := i_inc (q := 192) H I_X8_planGoes_189 rfl rfl rfl
                      replace H := i_goto (q := 18) H I_X8_planGoes_192 (by decide)
                      exfalso
                      exact absurd ((zofn_lt (j := 8) (by omega) (by decide)).mp c_21) (by omega)
        · skip
          replace H := i_aln (q := 63) H I_X8_planGoes_62 rfl rfl
          replace H := i_bip (x := 108) (q := 65) H I_X8_planGoes_63 (by decide) rfl
          have W := i_cv1 1 (q := 68) H I_X8_planGoes_65 K_8_176 Zm_143 rfl rfl
          clear H
          obtain ⟨r1, h1, Hc, K1, K2⟩ := W
          obtain ⟨M_65, e1, e2, F_65⟩ := t_X8_restsOn (pg := 108) (g := P.1) ⟨hS.1.1, fun j hj => by rw [zup_n (by omega)]; exact hS.1.2 j hj⟩ Hc
          have H := K2 _ e1 e2
          clear e1 e2 Hc K1 K2
          replace H := i_goto (q := 189) H I_X8_planGoes_68 (by decide)
          replace H := i_inc (q := 192) H I_X8_planGoes_189 rfl rfl rfl
          replace H := i_goto (q := 18) H I_X8_planGoes_192 (by decide)
          exfalso
          exact absurd ((zofn_lt (j := 8) (by omega) (by decide)).mp c_21) (by omega)
  | succ j ih =>
    intro i P d r h' m hj hS hg h26 hpl hen hc hM H
    replace H := i_iln (q := 19) H I_X8_planGoes_18 rfl rfl
    replace H := i_bip (x := 8) (q := 21) H I_X8_planGoes_19 (by decide) rfl
    have W := i_ic_ge (t := 195) (q := 24) H I_X8_planGoes_21 (by decide) rfl
    clear H
    rcases W with ⟨c_21, H⟩ | ⟨c_21, H⟩
    · skip
      obtain ⟨hr, hh⟩ := i_rt H I_X8_planGoes_195
      exfalso
      exact c_21 ((zofn_lt (j := 8) (by omega) (by decide)).mpr (by omega))
    · skip
      replace H := i_iln (q := 25) H I_X8_planGoes_24 rfl rfl
      replace H := i_aln (q := 26) H I_X8_planGoes_25 rfl rfl
      replace H := i_gfr (q := 29) H I_X8_planGoes_26 G_8_7 cn_X8_planGoes LY_71 rfl rfl
      replace H := i_sip (x := 134) (q := 32) H I_X8_planGoes_29 (by decide) rfl
      have W := i_ia (q := 33) H I_X8_planGoes_32 LY_72 rfl
      clear H
      obtain ⟨i_32, bi_32, ei_32, H⟩ := W
      have W := i_ic_ge (t := 48) (q := 36) H I_X8_planGoes_33 (by decide) rfl
      clear H
      rcases W with ⟨c_33, H⟩ | ⟨c_33, H⟩
      · skip
        replace H := i_icst (x := (-1)) (q := 49) H I_X8_planGoes_48 (by decide) rfl
        replace H := i_isn (q := 50) H I_X8_planGoes_49 rfl rfl
        replace H := i_aln (q := 51) H I_X8_planGoes_50 rfl rfl
        replace H := i_gfr (q := 54) H I_X8_planGoes_51 G_8_28 cn_X8_planGoes LY_71 rfl rfl
        replace H := i_iln (q := 55) H I_X8_planGoes_54 rfl rfl
        replace H := i_bip (x := (-4)) (q := 57) H I_X8_planGoes_55 (by decide) rfl
        have W := i_iast (q := 58) H I_X8_planGoes_57 LY_78 rfl
        clear H
        obtain ⟨i_57, bi_57, ei_57, H⟩ := W
        replace H := i_iln (q := 59) H I_X8_planGoes_58 rfl rfl
        have W := i_if_ne (t := 71) (q := 62) H I_X8_planGoes_59 (by decide) rfl
        clear H
        rcases W with ⟨c_59, H⟩ | ⟨c_59, H⟩
        · skip
          replace H := i_iln (q := 72) H I_X8_planGoes_71 rfl rfl
          have W := i_if_le (t := 189) (q := 75) H I_X8_planGoes_72 (by decide) rfl
          clear H
          rcases W with ⟨c_72, H⟩ | ⟨c_72, H⟩
          · skip
            replace H := i_inc (q := 192) H I_X8_planGoes_189 rfl rfl rfl
            replace H := i_goto (q := 18) H I_X8_planGoes_192 (by decide)
            have j1 : i_32 = 134 := (zofn (i := 134) ei_32 (by decide) (by omega)).symm
            subst j1
            rw [show m 72 134 = Int32.ofNat a from (hS.1.2 26 (by omega)).trans h26] at c_33
            have j2 : i = i_57 := zofn ei_57 (by omega) (by omega)
            subst j2
            replace H := i_w [true, true, true, false] H
            rw [zofn_s] at H
            have ok := pAct_ok (i := i) (mk := aw ^^^ -1) hg
            have hge : ¬ i < a := fun q => c_33 ((zofn_lt (by omega) (by omega)).mpr q)
            rw [show a - i = a - (i + 1) by omega]
            have hS1 : rP (zup m 78 i (-4)) (i + 1) P := by
              refine ⟨⟨hS.1.1, fun j hj => by rw [zup_n (by omega)]; exact hS.1.2 j hj⟩, by rw [zup_n (by omega)]; exact hS.2.1, by rw [zup_n (by omega)]; exact hS.2.2.1, by rw [zup_n (by omega)]; exact hS.2.2.2.1, fun j hj => ?_⟩
              by_cases e : j = i
              · subst e
                rw [zup_s, hen j (Nat.le_refl j)]
              · rw [zup_n (by omega)]; exact hS.2.2.2.2 j (by omega)
            obtain ⟨m1, x1, x2, x3, x4⟩ := ih (i + 1) P d r h' _ (by omega) hS1 hg h26 hpl (fun k hk => hen k (by omega)) (by rw [zup_n (by omega)]; exact hc) (by unfold zMk; rw [zup_n (by omega), zup_n (by omega), zup_n (by omega), zup_n (by omega)]; exact hM) H
            rw [show a - (i + 1) = 0 by omega] at x3 ⊢
            exact ⟨m1, x1, x2, x3, zfP_t (fun x y h1 h2 h3 => by rw [zup_n (by omega)]) x4⟩
          · skip
            replace H := i_iln (q := 76) H I_X8_planGoes_75 rfl rfl
            replace H := i_iln (q := 77) H I_X8_planGoes_76 rfl rfl
            replace H := i_icst (x := (-1)) (q := 78) H I_X8_planGoes_77 (by decide) rfl
            replace H := i_ixor (q := 79) H I_X8_planGoes_78 rfl
            replace H := i_iand (q := 80) H I_X8_planGoes_79 rfl
            have W := i_if_eq (t := 189) (q := 83) H I_X8_planGoes_80 (by decide) rfl
            clear H
            rcases W with ⟨c_80, H⟩ | ⟨c_80, H⟩
            · skip
              replace H := i_inc (q := 192) H I_X8_planGoes_189 rfl rfl rfl
              replace H := i_goto (q := 18) H I_X8_planGoes_192 (by decide)
              exact absurd c_72 (by decide)
            · skip
              replace H := i_aln (q := 84) H I_X8_planGoes_83 rfl rfl
              replace H := i_gfr (q := 87) H I_X8_planGoes_84 G_8_28 cn_X8_planGoes LY_71 rfl rfl
              replace H := i_iln (q := 88) H I_X8_planGoes_87 rfl rfl
              replace H := i_aln (q := 89) H I_X8_planGoes_88 rfl rfl
              replace H := i_bip (x := 108) (q := 91) H I_X8_planGoes_89 (by decide) rfl
              replace H := i_iln (q := 92) H I_X8_planGoes_91 rfl rfl
              replace H := i_iln (q := 93) H I_X8_planGoes_92 rfl rfl
              replace H := i_icst (x := (-1)) (q := 94) H I_X8_planGoes_93 (by decide) rfl
              replace H := i_ixor (q := 95) H I_X8_planGoes_94 rfl
              replace H := i_iand (q := 96) H I_X8_planGoes_95 rfl
              have W := i_cv2 3 (q := 99) H I_X8_planGoes_96 K_8_170 Zm_142 rfl rfl
              clear H
              obtain ⟨r1, h1, Hc, K1, K2⟩ := W
              obtain ⟨M_96, e1, e2, F_96⟩ := t_X8_triesOn (pg := 108) (g := P.1) (c := c) ⟨hS.1.1, fun j hj => by rw [zup_n (by omega)]; exact hS.1.2 j hj⟩ hg (by rw [zup_n (by omega)]; exact hc) (by unfold zMk; rw [zup_n (by omega), zup_n (by omega), zup_n (by omega), zup_n (by omega)]; exact hM) Hc
              have H := K1 _ _ e1 e2
              clear e1 e2 Hc K1 K2
              have W := i_iast (q := 100) H I_X8_planGoes_99 LY_78 rfl
              clear H
              obtain ⟨i_99, bi_99, ei_99, H⟩ := W
              replace H := i_aln (q := 101) H I_X8_planGoes_100 rfl rfl
              replace H := i_dup (q := 102) H I_X8_planGoes_101 rfl rfl
              replace H := i_gfi (q := 105) H I_X8_planGoes_102 G_8_179 cn_X8_planGoes LY_71 rfl rfl
              replace H := i_aln (q := 106) H I_X8_planGoes_105 rfl rfl
              replace H := i_gfr (q := 109) H I_X8_planGoes_106 G_8_28 cn_X8_planGoes LY_71 rfl rfl
              replace H := i_iln (q := 110) H I_X8_planGoes_109 rfl rfl
              have W := i_ia (q := 111) H I_X8_planGoes_110 LY_78 rfl
              clear H
              obtain ⟨i_110, bi_110, ei_110, H⟩ := W
              replace H := i_bip (x := (-4)) (q := 113) H I_X8_planGoes_111 (by decide) rfl
              have W := i_ic_ne (t := 120) (q := 116) H I_X8_planGoes_113 (by decide) rfl
              clear H
              rcases W with ⟨c_113, H⟩ | ⟨c_113, H⟩
              · skip
                replace H := i_icst (x := 1) (q := 121) H I_X8_planGoes_120 (by decide) rfl
                replace H := i_iadd (q := 122) H I_X8_planGoes_121 rfl
                replace H := i_pf (q := 125) H I_X8_planGoes_122 G_8_179 cn_X8_planGoes LY_71 rfl rfl
                replace H := i_aln (q := 126) H I_X8_planGoes_125 rfl rfl
                replace H := i_dup (q := 127) H I_X8_planGoes_126 rfl rfl
                replace H := i_gfi (q := 130) H I_X8_planGoes_127 G_8_182 cn_X8_planGoes LY_71 rfl rfl
                replace H := i_aln (q := 131) H I_X8_planGoes_130 rfl rfl
                replace H := i_gfr (q := 134) H I_X8_planGoes_131 G_8_28 cn_X8_planGoes LY_71 rfl rfl
                replace H := i_iln (q := 135) H I_X8_planGoes_134 rfl rfl
                have W := i_ia (q := 136) H I_X8_planGoes_135 LY_78 rfl
                clear H
                obtain ⟨i_135, bi_135, ei_135, H⟩ := W
                replace H := i_bip (x := (-4)) (q := 138) H I_X8_planGoes_136 (by decide) rfl
                have W := i_ic_ne (t := 145) (q := 141) H I_X8_planGoes_138 (by decide) rfl
                clear H
                rcases W with ⟨c_138, H⟩ | ⟨c_138, H⟩
                · skip
                  replace H := i_icst (x := 1) (q := 146) H I_X8_planGoes_145 (by decide) rfl
                  replace H := i_aln (q := 147) H I_X8_planGoes_146 rfl rfl
                  replace H := i_gfr (q := 150) H I_X8_planGoes_147 G_8_28 cn_X8_planGoes LY_71 rfl rfl
                  replace H := i_iln (q := 151) H I_X8_planGoes_150 rfl rfl
                  have W := i_ia (q := 152) H I_X8_planGoes_151 LY_78 rfl
                  clear H
                  obtain ⟨i_151, bi_151, ei_151, H⟩ := W
                  replace H := i_ishl (q := 153) H I_X8_planGoes_152 rfl
                  replace H := i_ior (q := 154) H I_X8_planGoes_153 rfl
                  replace H := i_pf (q := 157) H I_X8_planGoes_154 G_8_182 cn_X8_planGoes LY_71 rfl rfl
                  replace H := i_aln (q := 158) H I_X8_planGoes_157 rfl rfl
                  replace H := i_aln (q := 159) H I_X8_planGoes_158 rfl rfl
                  replace H := i_gfr (q := 162) H I_X8_planGoes_159 G_8_28 cn_X8_planGoes LY_71 rfl rfl
                  replace H := i_iln (q := 163) H I_X8_planGoes_162 rfl rfl
                  have W := i_ia (q := 164) H I_X8_planGoes_163 LY_78 rfl
                  clear H
                  obtain ⟨i_163, bi_163, ei_163, H⟩ := W
                  replace H := i_bip (x := (-4)) (q := 166) H I_X8_planGoes_164 (by decide) rfl
                  have W := i_ic_ne (t := 182) (q := 169) H I_X8_planGoes_166 (by decide) rfl
                  clear H
                  rcases W with ⟨c_166, H⟩ | ⟨c_166, H⟩
                  · skip
                    replace H := i_aln (q := 183) H I_X8_planGoes_182 rfl rfl
                    replace H := i_gfi (q := 186) H I_X8_planGoes_183 G_8_185 cn_X8_planGoes LY_71 rfl rfl
                    replace H := i_pf (q := 189) H I_X8_planGoes_186 G_8_185 cn_X8_planGoes LY_71 rfl rfl
                    replace H := i_inc (q := 192) H I_X8_planGoes_189 rfl rfl rfl
                    replace H := i_goto (q := 18) H I_X8_planGoes_192 (by decide)
                    exact absurd c_72 (by decide)
                  · skip
                    replace H := i_aln (q := 170) H I_X8_planGoes_169 rfl rfl
                    replace H := i_gfi (q := 173) H I_X8_planGoes_170 G_8_185 cn_X8_planGoes LY_71 rfl rfl
                    replace H := i_bip (x := (-4)) (q := 175) H I_X8_planGoes_173 (by decide) rfl
                    have W := i_ic_ne (t := 182) (q := 178) H I_X8_planGoes_175 (by decide) rfl
                    clear H
                    rcases W with ⟨c_175, H⟩ | ⟨c_175, H⟩
                    · skip
                      replace H := i_aln (q := 183) H I_X8_planGoes_182 rfl rfl
                      replace H := i_gfi (q := 186) H I_X8_planGoes_183 G_8_185 cn_X8_planGoes LY_71 rfl rfl
                      replace H := i_pf (q := 189) H I_X8_planGoes_186 G_8_185 cn_X8_planGoes LY_71 rfl rfl
                      replace H := i_inc (q := 192) H I_X8_planGoes_189 rfl rfl rfl
                      replace H := i_goto (q := 18) H I_X8_planGoes_192 (by decide)
                      exact absurd c_72 (by decide)
                    · skip
                      replace H := i_iln (q := 179) H I_X8_planGoes_178 rfl rfl
                      replace H := i_goto (q := 186) H I_X8_planGoes_179 (by decide)
                      replace H := i_pf (q := 189) H I_X8_planGoes_186 G_8_185 cn_X8_planGoes LY_71 rfl rfl
                      replace H := i_inc (q := 192) H I_X8_planGoes_189 rfl rfl rfl
                      replace H := i_goto (q := 18) H I_X8_planGoes_192 (by decide)
                      exact absurd c_72 (by decide)
                · skip
                  replace H := i_icst (x := 0) (q := 142) H I_X8_planGoes_141 (by decide) rfl
                  replace H := i_goto (q := 153) H I_X8_planGoes_142 (by decide)
                  replace H := i_ior (q := 154) H I_X8_planGoes_153 rfl
                  replace H := i_pf (q := 157) H I_X8_planGoes_154 G_8_182 cn_X8_planGoes LY_71 rfl rfl
                  replace H := i_aln (q := 158) H I_X8_planGoes_157 rfl rfl
                  replace H := i_aln (q := 159) H I_X8_planGoes_158 rfl rfl
                  replace H := i_gfr (q := 162) H I_X8_planGoes_159 G_8_28 cn_X8_planGoes LY_71 rfl rfl
                  replace H := i_iln (q := 163) H I_X8_planGoes_162 rfl rfl
                  have W := i_ia (q := 164) H I_X8_planGoes_163 LY_78 rfl
                  clear H
                  obtain ⟨i_163, bi_163, ei_163, H⟩ := W
                  replace H := i_bip (x := (-4)) (q := 166) H I_X8_planGoes_164 (by decide) rfl
                  have W := i_ic_ne (t := 182) (q := 169) H I_X8_planGoes_166 (by decide) rfl
                  clear H
                  rcases W with ⟨c_166, H⟩ | ⟨c_166, H⟩
                  · skip
                    replace H := i_aln (q := 183) H I_X8_planGoes_182 rfl rfl
                    replace H := i_gfi (q := 186) H I_X8_planGoes_183 G_8_185 cn_X8_planGoes LY_71 rfl rfl
                    replace H := i_pf (q := 189) H I_X8_planGoes_186 G_8_185 cn_X8_planGoes LY_71 rfl rfl
                    replace H := i_inc (q := 192) H I_X8_planGoes_189 rfl rfl rfl
                    replace H := i_goto (q := 18) H I_X8_planGoes_192 (by decide)
                    exact absurd c_72 (by decide)
                  · skip
                    replace H := i_aln (q := 170) H I_X8_planGoes_169 rfl rfl
                    replace H := i_gfi (q := 173) H I_X8_planGoes_170 G_8_185 cn_X8_planGoes LY_71 rfl rfl
                    replace H := i_bip (x := (-4)) (q := 175) H I_X8_planGoes_173 (by decide) rfl
                    have W := i_ic_ne (t := 182) (q := 178) H I_X8_planGoes_175 (by decide) rfl
                    clear H
                    rcases W with ⟨c_175, H⟩ | ⟨c_175, H⟩
                    · skip
                      replace H := i_aln (q := 183) H I_X8_planGoes_182 rfl rfl
                      replace H := i_gfi (q := 186) H I_X8_planGoes_183 G_8_185 cn_X8_planGoes LY_71 rfl rfl
                      replace H := i_pf (q := 189) H I_X8_planGoes_186 G_8_185 cn_X8_planGoes LY_71 rfl rfl
                      replace H := i_inc (q := 192) H I_X8_planGoes_189 rfl rfl rfl
                      replace H := i_goto (q := 18) H I_X8_planGoes_192 (by decide)
                      exact absurd c_72 (by decide)
                    · skip
                      replace H := i_iln (q := 179) H I_X8_planGoes_178 rfl rfl
                      replace H := i_goto (q := 186) H I_X8_planGoes_179 (by decide)
                      replace H := i_pf (q := 189) H I_X8_planGoes_186 G_8_185 cn_X8_planGoes LY_71 rfl rfl
                      replace H := i_inc (q := 192) H I_X8_planGoes_189 rfl rfl rfl
                      replace H := i_goto (q := 18) H I_X8_planGoes_192 (by decide)
                      exact absurd c_72 (by decide)
              · skip
                replace H := i_icst (x := 0) (q := 117) H I_X8_planGoes_116 (by decide) rfl
                replace H := i_goto (q := 121) H I_X8_planGoes_117 (by decide)
                replace H := i_iadd (q := 122) H I_X8_planGoes_121 rfl
                replace H := i_pf (q := 125) H I_X8_planGoes_122 G_8_179 cn_X8_planGoes LY_71 rfl rfl
                replace H := i_aln (q := 126) H I_X8_planGoes_125 rfl rfl
                replace H := i_dup (q := 127) H I_X8_planGoes_126 rfl rfl
                replace H := i_gfi (q := 130) H I_X8_planGoes_127 G_8_182 cn_X8_planGoes LY_71 rfl rfl
                replace H := i_aln (q := 131) H I_X8_planGoes_130 rfl rfl
                replace H := i_gfr (q := 134) H I_X8_planGoes_131 G_8_28 cn_X8_planGoes LY_71 rfl rfl
                replace H := i_iln (q := 135) H I_X8_planGoes_134 rfl rfl
                have W := i_ia (q := 136) H I_X8_planGoes_135 LY_78 rfl
                clear H
                obtain ⟨i_135, bi_135, ei_135, H⟩ := W
                replace H := i_bip (x := (-4)) (q := 138) H I_X8_planGoes_136 (by decide) rfl
                have W := i_ic_ne (t := 145) (q := 141) H I_X8_planGoes_138 (by decide) rfl
                clear H
                rcases W with ⟨c_138, H⟩ | ⟨c_138, H⟩
                · skip
                  replace H := i_icst (x := 1) (q := 146) H I_X8_planGoes_145 (by decide) rfl
                  replace H := i_aln (q := 147) H I_X8_planGoes_146 rfl rfl
                  replace H := i_gfr (q := 150) H I_X8_planGoes_147 G_8_28 cn_X8_planGoes LY_71 rfl rfl
                  replace H := i_iln (q := 151) H I_X8_planGoes_150 rfl rfl
                  have W := i_ia (q := 152) H I_X8_planGoes_151 LY_78 rfl
                  clear H
                  obtain ⟨i_151, bi_151, ei_151, H⟩ := W
                  replace H := i_ishl (q := 153) H I_X8_planGoes_152 rfl
                  replace H := i_ior (q := 154) H I_X8_planGoes_153 rfl
                  replace H := i_pf (q := 157) H I_X8_planGoes_154 G_8_182 cn_X8_planGoes LY_71 rfl rfl
                  replace H := i_aln (q := 158) H I_X8_planGoes_157 rfl rfl
                  replace H := i_aln (q := 159) H I_X8_planGoes_158 rfl rfl
                  replace H := i_gfr (q := 162) H I_X8_planGoes_159 G_8_28 cn_X8_planGoes LY_71 rfl rfl
                  replace H := i_iln (q := 163) H I_X8_planGoes_162 rfl rfl
                  have W := i_ia (q := 164) H I_X8_planGoes_163 LY_78 rfl
                  clear H
                  obtain ⟨i_163, bi_163, ei_163, H⟩ := W
                  replace H := i_bip (x := (-4)) (q := 166) H I_X8_planGoes_164 (by decide) rfl
                  have W := i_ic_ne (t := 182) (q := 169) H I_X8_planGoes_166 (by decide) rfl
                  clear H
                  rcases W with ⟨c_166, H⟩ | ⟨c_166, H⟩
                  · skip
                    replace H := i_aln (q := 183) H I_X8_planGoes_182 rfl rfl
                    replace H := i_gfi (q := 186) H I_X8_planGoes_183 G_8_185 cn_X8_planGoes LY_71 rfl rfl
                    replace H := i_pf (q := 189) H I_X8_planGoes_186 G_8_185 cn_X8_planGoes LY_71 rfl rfl
                    replace H := i_inc (q := 192) H I_X8_planGoes_189 rfl rfl rfl
                    replace H := i_goto (q := 18) H I_X8_planGoes_192 (by decide)
                    exact absurd c_72 (by decide)
                  · skip
                    replace H := i_aln (q := 170) H I_X8_planGoes_169 rfl rfl
                    replace H := i_gfi (q := 173) H I_X8_planGoes_170 G_8_185 cn_X8_planGoes LY_71 rfl rfl
                    replace H := i_bip (x := (-4)) (q := 175) H I_X8_planGoes_173 (by decide) rfl
                    have W := i_ic_ne (t := 182) (q := 178) H I_X8_planGoes_175 (by decide) rfl
                    clear H
                    rcases W with ⟨c_175, H⟩ | ⟨c_175, H⟩
                    · skip
                      replace H := i_aln (q := 183) H I_X8_planGoes_182 rfl rfl
                      replace H := i_gfi (q := 186) H I_X8_planGoes_183 G_8_185 cn_X8_planGoes LY_71 rfl rfl
                      replace H := i_pf (q := 189) H I_X8_planGoes_186 G_8_185 cn_X8_planGoes LY_71 rfl rfl
                      replace H := i_inc (q := 192) H I_X8_planGoes_189 rfl rfl rfl
                      replace H := i_goto (q := 18) H I_X8_planGoes_192 (by decide)
                      exact absurd c_72 (by decide)
                    · skip
                      replace H := i_iln (q := 179) H I_X8_planGoes_178 rfl rfl
                      replace H := i_goto (q := 186) H I_X8_planGoes_179 (by decide)
                      replace H := i_pf (q := 189) H I_X8_planGoes_186 G_8_185 cn_X8_planGoes LY_71 rfl rfl
                      replace H := i_inc (q := 192) H I_X8_planGoes_189 rfl rfl rfl
                      replace H := i_goto (q := 18) H I_X8_planGoes_192 (by decide)
                      exact absurd c_72 (by decide)
                · skip
                  replace H := i_icst (x := 0) (q := 142) H I_X8_planGoes_141 (by decide) rfl
                  replace H := i_goto (q := 153) H I_X8_planGoes_142 (by decide)
                  replace H := i_ior (q := 154) H I_X8_planGoes_153 rfl
                  replace H := i_pf (q := 157) H I_X8_planGoes_154 G_8_182 cn_X8_planGoes LY_71 rfl rfl
                  replace H := i_aln (q := 158) H I_X8_planGoes_157 rfl rfl
                  replace H := i_aln (q := 159) H I_X8_planGoes_158 rfl rfl
                  replace H := i_gfr (q := 162) H I_X8_planGoes_159 G_8_28 cn_X8_planGoes LY_71 rfl rfl
                  replace H := i_iln (q := 163) H I_X8_planGoes_162 rfl rfl
                  have W := i_ia (q := 164) H I_X8_planGoes_163 LY_78 rfl
                  clear H
                  obtain ⟨i_163, bi_163, ei_163, H⟩ := W
                  replace H := i_bip (x := (-4)) (q := 166) H I_X8_planGoes_164 (by decide) rfl
                  have W := i_ic_ne (t := 182) (q := 169) H I_X8_planGoes_166 (by decide) rfl
                  clear H
                  rcases W with ⟨c_166, H⟩ | ⟨c_166, H⟩
                  · skip
                    replace H := i_aln (q := 183) H I_X8_planGoes_182 rfl rfl
                    replace H := i_gfi (q := 186) H I_X8_planGoes_183 G_8_185 cn_X8_planGoes LY_71 rfl rfl
                    replace H := i_pf (q := 189) H I_X8_planGoes_186 G_8_185 cn_X8_planGoes LY_71 rfl rfl
                    replace H := i_inc (q := 192) H I_X8_planGoes_189 rfl rfl rfl
                    replace H := i_goto (q := 18) H I_X8_planGoes_192 (by decide)
                    exact absurd c_72 (by decide)
                  · skip
                    replace H := i_aln (q := 170) H I_X8_planGoes_169 rfl rfl
                    replace H := i_gfi (q := 173) H I_X8_planGoes_170 G_8_185 cn_X8_planGoes LY_71 rfl rfl
                    replace H := i_bip (x := (-4)) (q := 175) H I_X8_planGoes_173 (by decide) rfl
                    have W := i_ic_ne (t := 182) (q := 178) H I_X8_planGoes_175 (by decide) rfl
                    clear H
                    rcases W with ⟨c_175, H⟩ | ⟨c_175, H⟩
                    · skip
                      replace H := i_aln (q := 183) H I_X8_planGoes_182 rfl rfl
                      replace H := i_gfi (q := 186) H I_X8_planGoes_183 G_8_185 cn_X8_planGoes LY_71 rfl rfl
                      replace H := i_pf (q := 189) H I_X8_planGoes_186 G_8_185 cn_X8_planGoes LY_71 rfl rfl
                      replace H := i_inc (q := 192) H I_X8_planGoes_189 rfl rfl rfl
                      replace H := i_goto (q := 18) H I_X8_planGoes_192 (by decide)
                      exact absurd c_72 (by decide)
                    · skip
                      replace H := i_iln (q := 179) H I_X8_planGoes_178 rfl rfl
                      replace H := i_goto (q := 186) H I_X8_planGoes_179 (by decide)
                      replace H := i_pf (q := 189) H I_X8_planGoes_186 G_8_185 cn_X8_planGoes LY_71 rfl rfl
                      replace H := i_inc (q := 192) H I_X8_planGoes_189 rfl rfl rfl
                      replace H := i_goto (q := 18) H I_X8_planGoes_192 (by decide)
                      exact absurd c_72 (by decide)
        · skip
          replace H := i_aln (q := 63) H I_X8_planGoes_62 rfl rfl
          replace H := i_bip (x := 108) (q := 65) H I_X8_planGoes_63 (by decide) rfl
          have W := i_cv1 1 (q := 68) H I_X8_planGoes_65 K_8_176 Zm_143 rfl rfl
          clear H
          obtain ⟨r1, h1, Hc, K1, K2⟩ := W
          obtain ⟨M_65, e1, e2, F_65⟩ := t_X8_restsOn (pg := 108) (g := P.1) ⟨hS.1.1, fun j hj => by rw [zup_n (by omega)]; exact hS.1.2 j hj⟩ Hc
          have H := K2 _ e1 e2
          clear e1 e2 Hc K1 K2
          replace H := i_goto (q := 189) H I_X8_planGoes_68 (by decide)
          replace H := i_inc (q := 192) H I_X8_planGoes_189 rfl rfl rfl
          replace H := i_goto (q := 18) H I_X8_planGoes_192 (by decide)
          exact absurd c_59 (by decide)
      · skip
        replace H := i_aln (q := 37) H I_X8_planGoes_36 rfl rfl
        replace H := i_gfr (q := 40) H I_X8_planGoes_37 G_8_7 cn_X8_planGoes LY_71 rfl rfl
        replace H := i_bip (x := 126) (q := 42) H I_X8_planGoes_40 (by decide) rfl
        replace H := i_iln (q := 43) H I_X8_planGoes_42 rfl rfl
        replace H := i_iadd (q := 44) H I_X8_planGoes_43 rfl
        have W := i_ia (q := 45) H I_X8_planGoes_44 LY_72 rfl
        clear H
        obtain ⟨i_44, bi_44, ei_44, H⟩ := W
        replace H := i_goto (q := 49) H I_X8_planGoes_45 (by decide)
        replace H := i_isn (q := 50) H I_X8_planGoes_49 rfl rfl
        replace H := i_aln (q := 51) H I_X8_planGoes_50 rfl rfl
        replace H := i_gfr (q := 54) H I_X8_planGoes_51 G_8_28 cn_X8_planGoes LY_71 rfl rfl
        replace H := i_iln (q := 55) H I_X8_planGoes_54 rfl rfl
        replace H := i_bip (x := (-4)) (q := 57) H I_X8_planGoes_55 (by decide) rfl
        have W := i_iast (q := 58) H I_X8_planGoes_57 LY_78 rfl
        clear H
        obtain ⟨i_57, bi_57, ei_57, H⟩ := W
        replace H := i_iln (q := 59) H I_X8_planGoes_58 rfl rfl
        have W := i_if_ne (t := 71) (q := 62) H I_X8_planGoes_59 (by decide) rfl
        clear H
        rcases W with ⟨c_59, H⟩ | ⟨c_59, H⟩
        · skip
          replace H := i_iln (q := 72) H I_X8_planGoes_71 rfl rfl
          have W := i_if_le (t := 189) (q := 75) H I_X8_planGoes_72 (by decide) rfl
          clear H
          rcases W with ⟨c_72, H⟩ | ⟨c_72, H⟩
          · skip
            replace H := i_inc (q := 192) H I_X8_planGoes_189 rfl rfl rfl
            replace H := i_goto (q := 18) H I_X8_planGoes_192 (by decide)
            have j1 : i_32 = 134 := (zofn (i := 134) ei_32 (by decide) (by omega)).symm
            subst j1
            rw [show m 72 134 = Int32.ofNat a from (hS.1.2 26 (by omega)).trans h26] at c_33
            have j2 : i = i_57 := zofn ei_57 (by omega) (by omega)
            subst j2
            replace H := i_w [true, true, true, false] H
            rw [zofn_s] at H
            have ok := pAct_ok (i := i) (mk := aw ^^^ -1) hg
            have hlt : i < a := (zofn_lt (by omega) (by omega)).mp c_33
            rw [show a - i = (a - (i + 1)) + 1 by omega, pPlays]
            have j3 : i_44 = 108 + (18 + i) := by
              have := zix3 (a := 126) (b := i) rfl rfl ei_44 (by omega) (by omega)
              omega
            subst j3
            rw [hS.1.2 (18 + i) (by omega)] at c_59 c_72
            have hpl1 : gpl (pAct c (aw ^^^ -1) i P).1 := fun j hj => by rw [ok.2 (18 + j) (by omega)]; exact hpl j hj
            have hen1 : ∀ k, i + 1 ≤ k → (pAct c (aw ^^^ -1) i P).2.2.2.2 k = -4 := fun k hk => by rw [pAct_e (by omega)]; exact hen k (by omega)
            have h261 : (pAct c (aw ^^^ -1) i P).1 26 = Int32.ofNat a := by rw [ok.2 26 (by omega)]; exact h26
            exfalso
            have h0 := hpl i (by omega)
            rw [zps0] at c_72
            exact c_72 ⟨by rw [Int32.lt_iff_toInt_lt]; have e0 : (0 : Int32).toInt = 0 := rfl; omega, c_59⟩
          · skip
            replace H := i_iln (q := 76) H I_X8_planGoes_75 rfl rfl
            replace H := i_iln (q := 77) H I_X8_planGoes_76 rfl rfl
            replace H := i_icst (x := (-1)) (q := 78) H I_X8_planGoes_77 (by decide) rfl
            replace H := i_ixor (q := 79) H I_X8_planGoes_78 rfl
            replace H := i_iand (q := 80) H I_X8_planGoes_79 rfl
            have W := i_if_eq (t := 189) (q := 83) H I_X8_planGoes_80 (by decide) rfl
            clear H
            rcases W with ⟨c_80, H⟩ | ⟨c_80, H⟩
            · skip
              replace H := i_inc (q := 192) H I_X8_planGoes_189 rfl rfl rfl
              replace H := i_goto (q := 18) H I_X8_planGoes_192 (by decide)
              have j1 : i_32 = 134 := (zofn (i := 134) ei_32 (by decide) (by omega)).symm
              subst j1
              rw [show m 72 134 = Int32.ofNat a from (hS.1.2 26 (by omega)).trans h26] at c_33
              have j2 : i = i_57 := zofn ei_57 (by omega) (by omega)
              subst j2
              replace H := i_w [true, true, true, false] H
              rw [zofn_s] at H
              have ok := pAct_ok (i := i) (mk := aw ^^^ -1) hg
              have hlt : i < a := (zofn_lt (by omega) (by omega)).mp c_33
              rw [show a - i = (a - (i + 1)) + 1 by omega, pPlays]
              have j3 : i_44 = 108 + (18 + i) := by
                have := zix3 (a := 126) (b := i) rfl rfl ei_44 (by omega) (by omega)
                omega
              subst j3
              rw [hS.1.2 (18 + i) (by omega)] at c_59 c_80
              have hpl1 : gpl (pAct c (aw ^^^ -1) i P).1 := fun j hj => by rw [ok.2 (18 + j) (by omega)]; exact hpl j hj
              have hen1 : ∀ k, i + 1 ≤ k → (pAct c (aw ^^^ -1) i P).2.2.2.2 k = -4 := fun k hk => by rw [pAct_e (by omega)]; exact hen k (by omega)
              have h261 : (pAct c (aw ^^^ -1) i P).1 26 = Int32.ofNat a := by rw [ok.2 26 (by omega)]; exact h26
              have hS1 : rP (zup m 78 i (-4)) (i + 1) (pAct c (aw ^^^ -1) i P) := by
                unfold pAct
                rw [if_neg c_59, if_pos c_80]
                refine ⟨⟨hS.1.1, fun j hj => by rw [zup_n (by omega)]; exact hS.1.2 j hj⟩, by rw [zup_n (by omega)]; exact hS.2.1, by rw [zup_n (by omega)]; exact hS.2.2.1, by rw [zup_n (by omega)]; exact hS.2.2.2.1, fun j hj => ?_⟩
                by_cases e : j = i
                · subst e
                  rw [zup_s, hen j (Nat.le_refl j)]
                · rw [zup_n (by omega)]; exact hS.2.2.2.2 j (by omega)
              obtain ⟨m1, x1, x2, x3, x4⟩ := ih (i + 1) (pAct c (aw ^^^ -1) i P) d r h' _ (by omega) hS1 ok.1 h261 hpl1 hen1 (by rw [zup_n (by omega)]; exact hc) (by unfold zMk; rw [zup_n (by omega), zup_n (by omega), zup_n (by omega), zup_n (by omega)]; exact hM) H
              exact ⟨m1, x1, x2, x3, zfP_t (fun x y h1 h2 h3 => by rw [zup_n (by omega)]) x4⟩
            · skip
              replace H := i_aln (q := 84) H I_X8_planGoes_83 rfl rfl
              replace H := i_gfr (q := 87) H I_X8_planGoes_84 G_8_28 cn_X8_planGoes LY_71 rfl rfl
              replace H := i_iln (q := 88) H I_X8_planGoes_87 rfl rfl
              replace H := i_aln (q := 89) H I_X8_planGoes_88 rfl rfl
              replace H := i_bip (x := 108) (q := 91) H I_X8_planGoes_89 (by decide) rfl
              replace H := i_iln (q := 92) H I_X8_planGoes_91 rfl rfl
              replace H := i_iln (q := 93) H I_X8_planGoes_92 rfl rfl
              replace H := i_icst (x := (-1)) (q := 94) H I_X8_planGoes_93 (by decide) rfl
              replace H := i_ixor (q := 95) H I_X8_planGoes_94 rfl
              replace H := i_iand (q := 96) H I_X8_planGoes_95 rfl
              have W := i_cv2 3 (q := 99) H I_X8_planGoes_96 K_8_170 Zm_142 rfl rfl
              clear H
              obtain ⟨r1, h1, Hc, K1, K2⟩ := W
              obtain ⟨M_96, e1, e2, F_96⟩ := t_X8_triesOn (pg := 108) (g := P.1) (c := c) ⟨hS.1.1, fun j hj => by rw [zup_n (by omega)]; exact hS.1.2 j hj⟩ hg (by rw [zup_n (by omega)]; exact hc) (by unfold zMk; rw [zup_n (by omega), zup_n (by omega), zup_n (by omega), zup_n (by omega)]; exact hM) Hc
              have H := K1 _ _ e1 e2
              clear e1 e2 Hc K1 K2
              have W := i_iast (q := 100) H I_X8_planGoes_99 LY_78 rfl
              clear H
              obtain ⟨i_99, bi_99, ei_99, H⟩ := W
              replace H := i_aln (q := 101) H I_X8_planGoes_100 rfl rfl
              replace H := i_dup (q := 102) H I_X8_planGoes_101 rfl rfl
              replace H := i_gfi (q := 105) H I_X8_planGoes_102 G_8_179 cn_X8_planGoes LY_71 rfl rfl
              replace H := i_aln (q := 106) H I_X8_planGoes_105 rfl rfl
              replace H := i_gfr (q := 109) H I_X8_planGoes_106 G_8_28 cn_X8_planGoes LY_71 rfl rfl
              replace H := i_iln (q := 110) H I_X8_planGoes_109 rfl rfl
              have W := i_ia (q := 111) H I_X8_planGoes_110 LY_78 rfl
              clear H
              obtain ⟨i_110, bi_110, ei_110, H⟩ := W
              replace H := i_bip (x := (-4)) (q := 113) H I_X8_planGoes_111 (by decide) rfl
              have W := i_ic_ne (t := 120) (q := 116) H I_X8_planGoes_113 (by decide) rfl
              clear H
              rcases W with ⟨c_113, H⟩ | ⟨c_113, H⟩
              · skip
                replace H := i_icst (x := 1) (q := 121) H I_X8_planGoes_120 (by decide) rfl
                replace H := i_iadd (q := 122) H I_X8_planGoes_121 rfl
                replace H := i_pf (q := 125) H I_X8_planGoes_122 G_8_179 cn_X8_planGoes LY_71 rfl rfl
                replace H := i_aln (q := 126) H I_X8_planGoes_125 rfl rfl
                replace H := i_dup (q := 127) H I_X8_planGoes_126 rfl rfl
                replace H := i_gfi (q := 130) H I_X8_planGoes_127 G_8_182 cn_X8_planGoes LY_71 rfl rfl
                replace H := i_aln (q := 131) H I_X8_planGoes_130 rfl rfl
                replace H := i_gfr (q := 134) H I_X8_planGoes_131 G_8_28 cn_X8_planGoes LY_71 rfl rfl
                replace H := i_iln (q := 135) H I_X8_planGoes_134 rfl rfl
                have W := i_ia (q := 136) H I_X8_planGoes_135 LY_78 rfl
                clear H
                obtain ⟨i_135, bi_135, ei_135, H⟩ := W
                replace H := i_bip (x := (-4)) (q := 138) H I_X8_planGoes_136 (by decide) rfl
                have W := i_ic_ne (t := 145) (q := 141) H I_X8_planGoes_138 (by decide) rfl
                clear H
                rcases W with ⟨c_138, H⟩ | ⟨c_138, H⟩
                · skip
                  replace H := i_icst (x := 1) (q := 146) H I_X8_planGoes_145 (by decide) rfl
                  replace H := i_aln (q := 147) H I_X8_planGoes_146 rfl rfl
                  replace H := i_gfr (q := 150) H I_X8_planGoes_147 G_8_28 cn_X8_planGoes LY_71 rfl rfl
                  replace H := i_iln (q := 151) H I_X8_planGoes_150 rfl rfl
                  have W := i_ia (q := 152) H I_X8_planGoes_151 LY_78 rfl
                  clear H
                  obtain ⟨i_151, bi_151, ei_151, H⟩ := W
                  replace H := i_ishl (q := 153) H I_X8_planGoes_152 rfl
                  replace H := i_ior (q := 154) H I_X8_planGoes_153 rfl
                  replace H := i_pf (q := 157) H I_X8_planGoes_154 G_8_182 cn_X8_planGoes LY_71 rfl rfl
                  replace H := i_aln (q := 158) H I_X8_planGoes_157 rfl rfl
                  replace H := i_aln (q := 159) H I_X8_planGoes_158 rfl rfl
                  replace H := i_gfr (q := 162) H I_X8_planGoes_159 G_8_28 cn_X8_planGoes LY_71 rfl rfl
                  replace H := i_iln (q := 163) H I_X8_planGoes_162 rfl rfl
                  have W := i_ia (q := 164) H I_X8_planGoes_163 LY_78 rfl
                  clear H
                  obtain ⟨i_163, bi_163, ei_163, H⟩ := W
                  replace H := i_bip (x := (-4)) (q := 166) H I_X8_planGoes_164 (by decide) rfl
                  have W := i_ic_ne (t := 182) (q := 169) H I_X8_planGoes_166 (by decide) rfl
                  clear H
                  rcases W with ⟨c_166, H⟩ | ⟨c_166, H⟩
                  · skip
                    replace H := i_aln (q := 183) H I_X8_planGoes_182 rfl rfl
                    replace H := i_gfi (q := 186) H I_X8_planGoes_183 G_8_185 cn_X8_planGoes LY_71 rfl rfl
                    replace H := i_pf (q := 189) H I_X8_planGoes_186 G_8_185 cn_X8_planGoes LY_71 rfl rfl
                    replace H := i_inc (q := 192) H I_X8_planGoes_189 rfl rfl rfl
                    replace H := i_goto (q := 18) H I_X8_planGoes_192 (by decide)
                    have j1 : i_32 = 134 := (zofn (i := 134) ei_32 (by decide) (by omega)).symm
                    subst j1
                    rw [show m 72 134 = Int32.ofNat a from (hS.1.2 26 (by omega)).trans h26] at c_33
                    have j2 : i = i_57 := zofn ei_57 (by omega) (by omega)
                    subst j2
                    replace H := i_w [true, true, true, false] H
                    rw [zofn_s] at H
                    have ok := pAct_ok (i := i) (mk := aw ^^^ -1) hg
                    have hlt : i < a := (zofn_lt (by omega) (by omega)).mp c_33
                    rw [show a - i = (a - (i + 1)) + 1 by omega, pPlays]
                    have j3 : i_44 = 108 + (18 + i) := by
                      have := zix3 (a := 126) (b := i) rfl rfl ei_44 (by omega) (by omega)
                      omega
                    subst j3
                    rw [hS.1.2 (18 + i) (by omega)] at c_59 c_80
                    have hpl1 : gpl (pAct c (aw ^^^ -1) i P).1 := fun j hj => by rw [ok.2 (18 + j) (by omega)]; exact hpl j hj
                    have hen1 : ∀ k, i + 1 ≤ k → (pAct c (aw ^^^ -1) i P).2.2.2.2 k = -4 := fun k hk => by rw [pAct_e (by omega)]; exact hen k (by omega)
                    have h261 : (pAct c (aw ^^^ -1) i P).1 26 = Int32.ofNat a := by rw [ok.2 26 (by omega)]; exact h26
                    obtain ⟨P_96, K_96⟩ := F_96
                    rw [hS.1.2 (18 + i) (by omega)] at P_96 c_113 c_138 c_166 H
                    have k1 : i = i_99 := zofn ei_99 (by omega) (by omega)
                    subst k1
                    have k2 : i = i_110 := zofn ei_110 (by omega) (by omega)
                    subst k2
                    have k3 : i = i_135 := zofn ei_135 (by omega) (by omega)
                    subst k3
                    generalize hv : gTry1 P.1 c (P.1 (18 + i) &&& (aw ^^^ -1)) = v at *
                    rw [zup_s] at c_113
                    rw [zup_n (by omega), zup_s] at c_138
                    have k4 : i = i_151 := zofn ei_151 (by omega) (by omega)
                    subst k4
                    have k5 : i = i_163 := zofn ei_163 (by omega) (by omega)
                    subst k5
                    rw [zup_n (by omega), zup_n (by omega), zup_s] at c_166
                    have B18 : zup M_96 78 i v 71 18 = P.2.1 := by rw [zup_n (by omega), K_96 _ _ (by omega), zup_n (by omega)]; exact hS.2.1
                    have B19 : ∀ z, zup (zup M_96 78 i v) 71 18 z 71 19 = P.2.2.1 := fun z => by rw [zup_n (by omega), zup_n (by omega), K_96 _ _ (by omega), zup_n (by omega)]; exact hS.2.2.1
                    have B20 : ∀ z z2, zup (zup (zup M_96 78 i v) 71 18 z) 71 19 z2 71 20 = P.2.2.2.1 := fun z z2 => by rw [zup_n (by omega), zup_n (by omega), zup_n (by omega), K_96 _ _ (by omega), zup_n (by omega)]; exact hS.2.2.2.1
                    rw [B18, B19, zup_n (by omega), zup_s, B20] at H
                    generalize hQ : zup (zup (zup (zup M_96 78 i v) 71 18 (P.2.1 + 1)) 71 19 (P.2.2.1 ||| (1 <<< (v &&& 31)))) 71 20 (P.2.2.2.1) = Q at H
                    have hS1 : rP Q (i + 1) (pAct c (aw ^^^ -1) i P) := by
                      rw [← hQ]
                      unfold pAct
                      rw [if_neg c_59, if_neg c_80, hv, if_neg c_113, if_neg c_113, if_neg (fun q => c_113 q.1)]
                      refine ⟨⟨P_96.1, fun j hj => by rw [zup_n (by omega), zup_n (by omega), zup_n (by omega), zup_n (by omega)]; exact P_96.2 j hj⟩, ?_, ?_, by rw [zup_s], fun j hj => ?_⟩
                      · rw [zup_n (by omega), zup_n (by omega), zup_s]
                      · rw [zup_n (by omega), zup_s]
                      · rw [zup_n (by omega), zup_n (by omega), zup_n (by omega)]
                        show _ = gset P.2.2.2.2 i v j
                        by_cases e : j = i
                        · subst e
                          rw [zup_s, gset_s]
                        · rw [zup_n (by omega), gset_n e, K_96 _ _ (by omega), zup_n (by omega)]
                          exact hS.2.2.2.2 j (by omega)
                    have hF : zfP m Q := fun x y h1 h2 h3 => by
                      rw [← hQ, zup_n (by omega), zup_n (by omega), zup_n (by omega), zup_n (by omega), K_96 _ _ (by omega), zup_n (by omega)]
                    obtain ⟨m1, x1, x2, x3, x4⟩ := ih (i + 1) (pAct c (aw ^^^ -1) i P) d r h' _ (by omega) hS1 ok.1 h261 hpl1 hen1 (by rw [hF _ _ (by omega) (by omega) (by omega)]; exact hc) (by unfold zMk; rw [hF _ _ (by omega) (by omega) (by omega), hF _ _ (by omega) (by omega) (by omega), hF _ _ (by omega) (by omega) (by omega), hF _ _ (by omega) (by omega) (by omega)]; exact hM) H
                    exact ⟨m1, x1, x2, x3, zfP_t hF x4⟩
                  · skip
                    replace H := i_aln (q := 170) H I_X8_planGoes_169 rfl rfl
                    replace H := i_gfi (q := 173) H I_X8_planGoes_170 G_8_185 cn_X8_planGoes LY_71 rfl rfl
                    replace H := i_bip (x := (-4)) (q := 175) H I_X8_planGoes_173 (by decide) rfl
                    have W := i_ic_ne (t := 182) (q := 178) H I_X8_planGoes_175 (by decide) rfl
                    clear H
                    rcases W with ⟨c_175, H⟩ | ⟨c_175, H⟩
                    · skip
                      replace H := i_aln (q := 183) H I_X8_planGoes_182 rfl rfl
                      replace H := i_gfi (q := 186) H I_X8_planGoes_183 G_8_185 cn_X8_planGoes LY_71 rfl rfl
                      replace H := i_pf (q := 189) H I_X8_planGoes_186 G_8_185 cn_X8_planGoes LY_71 rfl rfl
                      replace H := i_inc (q := 192) H I_X8_planGoes_189 rfl rfl rfl
                      replace H := i_goto (q := 18) H I_X8_planGoes_192 (by decide)
                      have j1 : i_32 = 134 := (zofn (i := 134) ei_32 (by decide) (by omega)).symm
                      subst j1
                      rw [show m 72 134 = Int32.ofNat a from (hS.1.2 26 (by omega)).trans h26] at c_33
                      have j2 : i = i_57 := zofn ei_57 (by omega) (by omega)
                      subst j2
                      replace H := i_w [true, true, true, false] H
                      rw [zofn_s] at H
                      have ok := pAct_ok (i := i) (mk := aw ^^^ -1) hg
                      have hlt : i < a := (zofn_lt (by omega) (by omega)).mp c_33
                      rw [show a - i = (a - (i + 1)) + 1 by omega, pPlays]
                      have j3 : i_44 = 108 + (18 + i) := by
                        have := zix3 (a := 126) (b := i) rfl rfl ei_44 (by omega) (by omega)
                        omega
                      subst j3
                      rw [hS.1.2 (18 + i) (by omega)] at c_59 c_80
                      have hpl1 : gpl (pAct c (aw ^^^ -1) i P).1 := fun j hj => by rw [ok.2 (18 + j) (by omega)]; exact hpl j hj
                      have hen1 : ∀ k, i + 1 ≤ k → (pAct c (aw ^^^ -1) i P).2.2.2.2 k = -4 := fun k hk => by rw [pAct_e (by omega)]; exact hen k (by omega)
                      have h261 : (pAct c (aw ^^^ -1) i P).1 26 = Int32.ofNat a := by rw [ok.2 26 (by omega)]; exact h26
                      obtain ⟨P_96, K_96⟩ := F_96
                      rw [hS.1.2 (18 + i) (by omega)] at P_96 c_113 c_138 c_166 c_175 H
                      have k1 : i = i_99 := zofn ei_99 (by omega) (by omega)
                      subst k1
                      have k2 : i = i_110 := zofn ei_110 (by omega) (by omega)
                      subst k2
                      have k3 : i = i_135 := zofn ei_135 (by omega) (by omega)
                      subst k3
                      generalize hv : gTry1 P.1 c (P.1 (18 + i) &&& (aw ^^^ -1)) = v at *
                      rw [zup_s] at c_113
                      rw [zup_n (by omega), zup_s] at c_138
                      have k4 : i = i_151 := zofn ei_151 (by omega) (by omega)
                      subst k4
                      have k5 : i = i_163 := zofn ei_163 (by omega) (by omega)
                      subst k5
                      rw [zup_n (by omega), zup_n (by omega), zup_s] at c_166
                      exact absurd c_166 c_113
                    · skip
                      replace H := i_iln (q := 179) H I_X8_planGoes_178 rfl rfl
                      replace H := i_goto (q := 186) H I_X8_planGoes_179 (by decide)
                      replace H := i_pf (q := 189) H I_X8_planGoes_186 G_8_185 cn_X8_planGoes LY_71 rfl rfl
                      replace H := i_inc (q := 192) H I_X8_planGoes_189 rfl rfl rfl
                      replace H := i_goto (q := 18) H I_X8_planGoes_192 (by decide)
                      have j1 : i_32 = 134 := (zofn (i := 134) ei_32 (by decide) (by omega)).symm
                      subst j1
                      rw [show m 72 134 = Int32.ofNat a from (hS.1.2 26 (by omega)).trans h26] at c_33
                      have j2 : i = i_57 := zofn ei_57 (by omega) (by omega)
                      subst j2
                      replace H := i_w [true, true, true, false] H
                      rw [zofn_s] at H
                      have ok := pAct_ok (i := i) (mk := aw ^^^ -1) hg
                      have hlt : i < a := (zofn_lt (by omega) (by omega)).mp c_33
                      rw [show a - i = (a - (i + 1)) + 1 by omega, pPlays]
                      have j3 : i_44 = 108 + (18 + i) := by
                        have := zix3 (a := 126) (b := i) rfl rfl ei_44 (by omega) (by omega)
                        omega
                      subst j3
                      rw [hS.1.2 (18 + i) (by omega)] at c_59 c_80
                      have hpl1 : gpl (pAct c (aw ^^^ -1) i P).1 := fun j hj => by rw [ok.2 (18 + j) (by omega)]; exact hpl j hj
                      have hen1 : ∀ k, i + 1 ≤ k → (pAct c (aw ^^^ -1) i P).2.2.2.2 k = -4 := fun k hk => by rw [pAct_e (by omega)]; exact hen k (by omega)
                      have h261 : (pAct c (aw ^^^ -1) i P).1 26 = Int32.ofNat a := by rw [ok.2 26 (by omega)]; exact h26
                      obtain ⟨P_96, K_96⟩ := F_96
                      rw [hS.1.2 (18 + i) (by omega)] at P_96 c_113 c_138 c_166 c_175 H
                      have k1 : i = i_99 := zofn ei_99 (by omega) (by omega)
                      subst k1
                      have k2 : i = i_110 := zofn ei_110 (by omega) (by omega)
                      subst k2
                      have k3 : i = i_135 := zofn ei_135 (by omega) (by omega)
                      subst k3
                      generalize hv : gTry1 P.1 c (P.1 (18 + i) &&& (aw ^^^ -1)) = v at *
                      rw [zup_s] at c_113
                      rw [zup_n (by omega), zup_s] at c_138
                      have k4 : i = i_151 := zofn ei_151 (by omega) (by omega)
                      subst k4
                      have k5 : i = i_163 := zofn ei_163 (by omega) (by omega)
                      subst k5
                      rw [zup_n (by omega), zup_n (by omega), zup_s] at c_166
                      exact absurd c_166 c_113
                · skip
                  replace H := i_icst (x := 0) (q := 142) H I_X8_planGoes_141 (by decide) rfl
                  replace H := i_goto (q := 153) H I_X8_planGoes_142 (by decide)
                  replace H := i_ior (q := 154) H I_X8_planGoes_153 rfl
                  replace H := i_pf (q := 157) H I_X8_planGoes_154 G_8_182 cn_X8_planGoes LY_71 rfl rfl
                  replace H := i_aln (q := 158) H I_X8_planGoes_157 rfl rfl
                  replace H := i_aln (q := 159) H I_X8_planGoes_158 rfl rfl
                  replace H := i_gfr (q := 162) H I_X8_planGoes_159 G_8_28 cn_X8_planGoes LY_71 rfl rfl
                  replace H := i_iln (q := 163) H I_X8_planGoes_162 rfl rfl
                  have W := i_ia (q := 164) H I_X8_planGoes_163 LY_78 rfl
                  clear H
                  obtain ⟨i_163, bi_163, ei_163, H⟩ := W
                  replace H := i_bip (x := (-4)) (q := 166) H I_X8_planGoes_164 (by decide) rfl
                  have W := i_ic_ne (t := 182) (q := 169) H I_X8_planGoes_166 (by decide) rfl
                  clear H
                  rcases W with ⟨c_166, H⟩ | ⟨c_166, H⟩
                  · skip
                    replace H := i_aln (q := 183) H I_X8_planGoes_182 rfl rfl
                    replace H := i_gfi (q := 186) H I_X8_planGoes_183 G_8_185 cn_X8_planGoes LY_71 rfl rfl
                    replace H := i_pf (q := 189) H I_X8_planGoes_186 G_8_185 cn_X8_planGoes LY_71 rfl rfl
                    replace H := i_inc (q := 192) H I_X8_planGoes_189 rfl rfl rfl
                    replace H := i_goto (q := 18) H I_X8_planGoes_192 (by decide)
                    have j1 : i_32 = 134 := (zofn (i := 134) ei_32 (by decide) (by omega)).symm
                    subst j1
                    rw [show m 72 134 = Int32.ofNat a from (hS.1.2 26 (by omega)).trans h26] at c_33
                    have j2 : i = i_57 := zofn ei_57 (by omega) (by omega)
                    subst j2
                    replace H := i_w [true, true, true, false] H
                    rw [zofn_s] at H
                    have ok := pAct_ok (i := i) (mk := aw ^^^ -1) hg
                    have hlt : i < a := (zofn_lt (by omega) (by omega)).mp c_33
                    rw [show a - i = (a - (i + 1)) + 1 by omega, pPlays]
                    have j3 : i_44 = 108 + (18 + i) := by
                      have := zix3 (a := 126) (b := i) rfl rfl ei_44 (by omega) (by omega)
                      omega
                    subst j3
                    rw [hS.1.2 (18 + i) (by omega)] at c_59 c_80
                    have hpl1 : gpl (pAct c (aw ^^^ -1) i P).1 := fun j hj => by rw [ok.2 (18 + j) (by omega)]; exact hpl j hj
                    have hen1 : ∀ k, i + 1 ≤ k → (pAct c (aw ^^^ -1) i P).2.2.2.2 k = -4 := fun k hk => by rw [pAct_e (by omega)]; exact hen k (by omega)
                    have h261 : (pAct c (aw ^^^ -1) i P).1 26 = Int32.ofNat a := by rw [ok.2 26 (by omega)]; exact h26
                    obtain ⟨P_96, K_96⟩ := F_96
                    rw [hS.1.2 (18 + i) (by omega)] at P_96 c_113 c_138 c_166 H
                    have k1 : i = i_99 := zofn ei_99 (by omega) (by omega)
                    subst k1
                    have k2 : i = i_110 := zofn ei_110 (by omega) (by omega)
                    subst k2
                    have k3 : i = i_135 := zofn ei_135 (by omega) (by omega)
                    subst k3
                    generalize hv : gTry1 P.1 c (P.1 (18 + i) &&& (aw ^^^ -1)) = v at *
                    rw [zup_s] at c_113
                    rw [zup_n (by omega), zup_s] at c_138
                    exact absurd c_138 c_113
                  · skip
                    replace H := i_aln (q := 170) H I_X8_planGoes_169 rfl rfl
                    replace H := i_gfi (q := 173) H I_X8_planGoes_170 G_8_185 cn_X8_planGoes LY_71 rfl rfl
                    replace H := i_bip (x := (-4)) (q := 175) H I_X8_planGoes_173 (by decide) rfl
                    have W := i_ic_ne (t := 182) (q := 178) H I_X8_planGoes_175 (by decide) rfl
                    clear H
                    rcases W with ⟨c_175, H⟩ | ⟨c_175, H⟩
                    · skip
                      replace H := i_aln (q := 183) H I_X8_planGoes_182 rfl rfl
                      replace H := i_gfi (q := 186) H I_X8_planGoes_183 G_8_185 cn_X8_planGoes LY_71 rfl rfl
                      replace H := i_pf (q := 189) H I_X8_planGoes_186 G_8_185 cn_X8_planGoes LY_71 rfl rfl
                      replace H := i_inc (q := 192) H I_X8_planGoes_189 rfl rfl rfl
                      replace H := i_goto (q := 18) H I_X8_planGoes_192 (by decide)
                      have j1 : i_32 = 134 := (zofn (i := 134) ei_32 (by decide) (by omega)).symm
                      subst j1
                      rw [show m 72 134 = Int32.ofNat a from (hS.1.2 26 (by omega)).trans h26] at c_33
                      have j2 : i = i_57 := zofn ei_57 (by omega) (by omega)
                      subst j2
                      replace H := i_w [true, true, true, false] H
                      rw [zofn_s] at H
                      have ok := pAct_ok (i := i) (mk := aw ^^^ -1) hg
                      have hlt : i < a := (zofn_lt (by omega) (by omega)).mp c_33
                      rw [show a - i = (a - (i + 1)) + 1 by omega, pPlays]
                      have j3 : i_44 = 108 + (18 + i) := by
                        have := zix3 (a := 126) (b := i) rfl rfl ei_44 (by omega) (by omega)
                        omega
                      subst j3
                      rw [hS.1.2 (18 + i) (by omega)] at c_59 c_80
                      have hpl1 : gpl (pAct c (aw ^^^ -1) i P).1 := fun j hj => by rw [ok.2 (18 + j) (by omega)]; exact hpl j hj
                      have hen1 : ∀ k, i + 1 ≤ k → (pAct c (aw ^^^ -1) i P).2.2.2.2 k = -4 := fun k hk => by rw [pAct_e (by omega)]; exact hen k (by omega)
                      have h261 : (pAct c (aw ^^^ -1) i P).1 26 = Int32.ofNat a := by rw [ok.2 26 (by omega)]; exact h26
                      obtain ⟨P_96, K_96⟩ := F_96
                      rw [hS.1.2 (18 + i) (by omega)] at P_96 c_113 c_138 c_166 c_175 H
                      have k1 : i = i_99 := zofn ei_99 (by omega) (by omega)
                      subst k1
                      have k2 : i = i_110 := zofn ei_110 (by omega) (by omega)
                      subst k2
                      have k3 : i = i_135 := zofn ei_135 (by omega) (by omega)
                      subst k3
                      generalize hv : gTry1 P.1 c (P.1 (18 + i) &&& (aw ^^^ -1)) = v at *
                      rw [zup_s] at c_113
                      rw [zup_n (by omega), zup_s] at c_138
                      exact absurd c_138 c_113
                    · skip
                      replace H := i_iln (q := 179) H I_X8_planGoes_178 rfl rfl
                      replace H := i_goto (q := 186) H I_X8_planGoes_179 (by decide)
                      replace H := i_pf (q := 189) H I_X8_planGoes_186 G_8_185 cn_X8_planGoes LY_71 rfl rfl
                      replace H := i_inc (q := 192) H I_X8_planGoes_189 rfl rfl rfl
                      replace H := i_goto (q := 18) H I_X8_planGoes_192 (by decide)
                      have j1 : i_32 = 134 := (zofn (i := 134) ei_32 (by decide) (by omega)).symm
                      subst j1
                      rw [show m 72 134 = Int32.ofNat a from (hS.1.2 26 (by omega)).trans h26] at c_33
                      have j2 : i = i_57 := zofn ei_57 (by omega) (by omega)
                      subst j2
                      replace H := i_w [true, true, true, false] H
                      rw [zofn_s] at H
                      have ok := pAct_ok (i := i) (mk := aw ^^^ -1) hg
                      have hlt : i < a := (zofn_lt (by omega) (by omega)).mp c_33
                      rw [show a - i = (a - (i + 1)) + 1 by omega, pPlays]
                      have j3 : i_44 = 108 + (18 + i) := by
                        have := zix3 (a := 126) (b := i) rfl rfl ei_44 (by omega) (by omega)
                        omega
                      subst j3
                      rw [hS.1.2 (18 + i) (by omega)] at c_59 c_80
                      have hpl1 : gpl (pAct c (aw ^^^ -1) i P).1 := fun j hj => by rw [ok.2 (18 + j) (by omega)]; exact hpl j hj
                      have hen1 : ∀ k, i + 1 ≤ k → (pAct c (aw ^^^ -1) i P).2.2.2.2 k = -4 := fun k hk => by rw [pAct_e (by omega)]; exact hen k (by omega)
                      have h261 : (pAct c (aw ^^^ -1) i P).1 26 = Int32.ofNat a := by rw [ok.2 26 (by omega)]; exact h26
                      obtain ⟨P_96, K_96⟩ := F_96
                      rw [hS.1.2 (18 + i) (by omega)] at P_96 c_113 c_138 c_166 c_175 H
                      have k1 : i = i_99 := zofn ei_99 (by omega) (by omega)
                      subst k1
                      have k2 : i = i_110 := zofn ei_110 (by omega) (by omega)
                      subst k2
                      have k3 : i = i_135 := zofn ei_135 (by omega) (by omega)
                      subst k3
                      generalize hv : gTry1 P.1 c (P.1 (18 + i) &&& (aw ^^^ -1)) = v at *
                      rw [zup_s] at c_113
                      rw [zup_n (by omega), zup_s] at c_138
                      exact absurd c_138 c_113
              · skip
                replace H := i_icst (x := 0) (q := 117) H I_X8_planGoes_116 (by decide) rfl
                replace H := i_goto (q := 121) H I_X8_planGoes_117 (by decide)
                replace H := i_iadd (q := 122) H I_X8_planGoes_121 rfl
                replace H := i_pf (q := 125) H I_X8_planGoes_122 G_8_179 cn_X8_planGoes LY_71 rfl rfl
                replace H := i_aln (q := 126) H I_X8_planGoes_125 rfl rfl
                replace H := i_dup (q := 127) H I_X8_planGoes_126 rfl rfl
                replace H := i_gfi (q := 130) H I_X8_planGoes_127 G_8_182 cn_X8_planGoes LY_71 rfl rfl
                replace H := i_aln (q := 131) H I_X8_planGoes_130 rfl rfl
                replace H := i_gfr (q := 134) H I_X8_planGoes_131 G_8_28 cn_X8_planGoes LY_71 rfl rfl
                replace H := i_iln (q := 135) H I_X8_planGoes_134 rfl rfl
                have W := i_ia (q := 136) H I_X8_planGoes_135 LY_78 rfl
                clear H
                obtain ⟨i_135, bi_135, ei_135, H⟩ := W
                replace H := i_bip (x := (-4)) (q := 138) H I_X8_planGoes_136 (by decide) rfl
                have W := i_ic_ne (t := 145) (q := 141) H I_X8_planGoes_138 (by decide) rfl
                clear H
                rcases W with ⟨c_138, H⟩ | ⟨c_138, H⟩
                · skip
                  replace H := i_icst (x := 1) (q := 146) H I_X8_planGoes_145 (by decide) rfl
                  replace H := i_aln (q := 147) H I_X8_planGoes_146 rfl rfl
                  replace H := i_gfr (q := 150) H I_X8_planGoes_147 G_8_28 cn_X8_planGoes LY_71 rfl rfl
                  replace H := i_iln (q := 151) H I_X8_planGoes_150 rfl rfl
                  have W := i_ia (q := 152) H I_X8_planGoes_151 LY_78 rfl
                  clear H
                  obtain ⟨i_151, bi_151, ei_151, H⟩ := W
                  replace H := i_ishl (q := 153) H I_X8_planGoes_152 rfl
                  replace H := i_ior (q := 154) H I_X8_planGoes_153 rfl
                  replace H := i_pf (q := 157) H I_X8_planGoes_154 G_8_182 cn_X8_planGoes LY_71 rfl rfl
                  replace H := i_aln (q := 158) H I_X8_planGoes_157 rfl rfl
                  replace H := i_aln (q := 159) H I_X8_planGoes_158 rfl rfl
                  replace H := i_gfr (q := 162) H I_X8_planGoes_159 G_8_28 cn_X8_planGoes LY_71 rfl rfl
                  replace H := i_iln (q := 163) H I_X8_planGoes_162 rfl rfl
                  have W := i_ia (q := 164) H I_X8_planGoes_163 LY_78 rfl
                  clear H
                  obtain ⟨i_163, bi_163, ei_163, H⟩ := W
                  replace H := i_bip (x := (-4)) (q := 166) H I_X8_planGoes_164 (by decide) rfl
                  have W := i_ic_ne (t := 182) (q := 169) H I_X8_planGoes_166 (by decide) rfl
                  clear H
                  rcases W with ⟨c_166, H⟩ | ⟨c_166, H⟩
                  · skip
                    replace H := i_aln (q := 183) H I_X8_planGoes_182 rfl rfl
                    replace H := i_gfi (q := 186) H I_X8_planGoes_183 G_8_185 cn_X8_planGoes LY_71 rfl rfl
                    replace H := i_pf (q := 189) H I_X8_planGoes_186 G_8_185 cn_X8_planGoes LY_71 rfl rfl
                    replace H := i_inc (q := 192) H I_X8_planGoes_189 rfl rfl rfl
                    replace H := i_goto (q := 18) H I_X8_planGoes_192 (by decide)
                    have j1 : i_32 = 134 := (zofn (i := 134) ei_32 (by decide) (by omega)).symm
                    subst j1
                    rw [show m 72 134 = Int32.ofNat a from (hS.1.2 26 (by omega)).trans h26] at c_33
                    have j2 : i = i_57 := zofn ei_57 (by omega) (by omega)
                    subst j2
                    replace H := i_w [true, true, true, false] H
                    rw [zofn_s] at H
                    have ok := pAct_ok (i := i) (mk := aw ^^^ -1) hg
                    have hlt : i < a := (zofn_lt (by omega) (by omega)).mp c_33
                    rw [show a - i = (a - (i + 1)) + 1 by omega, pPlays]
                    have j3 : i_44 = 108 + (18 + i) := by
                      have := zix3 (a := 126) (b := i) rfl rfl ei_44 (by omega) (by omega)
                      omega
                    subst j3
                    rw [hS.1.2 (18 + i) (by omega)] at c_59 c_80
                    have hpl1 : gpl (pAct c (aw ^^^ -1) i P).1 := fun j hj => by rw [ok.2 (18 + j) (by omega)]; exact hpl j hj
                    have hen1 : ∀ k, i + 1 ≤ k → (pAct c (aw ^^^ -1) i P).2.2.2.2 k = -4 := fun k hk => by rw [pAct_e (by omega)]; exact hen k (by omega)
                    have h261 : (pAct c (aw ^^^ -1) i P).1 26 = Int32.ofNat a := by rw [ok.2 26 (by omega)]; exact h26
                    obtain ⟨P_96, K_96⟩ := F_96
                    rw [hS.1.2 (18 + i) (by omega)] at P_96 c_113 c_138 c_166 H
                    have k1 : i = i_99 := zofn ei_99 (by omega) (by omega)
                    subst k1
                    have k2 : i = i_110 := zofn ei_110 (by omega) (by omega)
                    subst k2
                    have k3 : i = i_135 := zofn ei_135 (by omega) (by omega)
                    subst k3
                    generalize hv : gTry1 P.1 c (P.1 (18 + i) &&& (aw ^^^ -1)) = v at *
                    rw [zup_s] at c_113
                    rw [zup_n (by omega), zup_s] at c_138
                    exact absurd c_113 c_138
                  · skip
                    replace H := i_aln (q := 170) H I_X8_planGoes_169 rfl rfl
                    replace H := i_gfi (q := 173) H I_X8_planGoes_170 G_8_185 cn_X8_planGoes LY_71 rfl rfl
                    replace H := i_bip (x := (-4)) (q := 175) H I_X8_planGoes_173 (by decide) rfl
                    have W := i_ic_ne (t := 182) (q := 178) H I_X8_planGoes_175 (by decide) rfl
                    clear H
                    rcases W with ⟨c_175, H⟩ | ⟨c_175, H⟩
                    · skip
                      replace H := i_aln (q := 183) H I_X8_planGoes_182 rfl rfl
                      replace H := i_gfi (q := 186) H I_X8_planGoes_183 G_8_185 cn_X8_planGoes LY_71 rfl rfl
                      replace H := i_pf (q := 189) H I_X8_planGoes_186 G_8_185 cn_X8_planGoes LY_71 rfl rfl
                      replace H := i_inc (q := 192) H I_X8_planGoes_189 rfl rfl rfl
                      replace H := i_goto (q := 18) H I_X8_planGoes_192 (by decide)
                      have j1 : i_32 = 134 := (zofn (i := 134) ei_32 (by decide) (by omega)).symm
                      subst j1
                      rw [show m 72 134 = Int32.ofNat a from (hS.1.2 26 (by omega)).trans h26] at c_33
                      have j2 : i = i_57 := zofn ei_57 (by omega) (by omega)
                      subst j2
                      replace H := i_w [true, true, true, false] H
                      rw [zofn_s] at H
                      have ok := pAct_ok (i := i) (mk := aw ^^^ -1) hg
                      have hlt : i < a := (zofn_lt (by omega) (by omega)).mp c_33
                      rw [show a - i = (a - (i + 1)) + 1 by omega, pPlays]
                      have j3 : i_44 = 108 + (18 + i) := by
                        have := zix3 (a := 126) (b := i) rfl rfl ei_44 (by omega) (by omega)
                        omega
                      subst j3
                      rw [hS.1.2 (18 + i) (by omega)] at c_59 c_80
                      have hpl1 : gpl (pAct c (aw ^^^ -1) i P).1 := fun j hj => by rw [ok.2 (18 + j) (by omega)]; exact hpl j hj
                      have hen1 : ∀ k, i + 1 ≤ k → (pAct c (aw ^^^ -1) i P).2.2.2.2 k = -4 := fun k hk => by rw [pAct_e (by omega)]; exact hen k (by omega)
                      have h261 : (pAct c (aw ^^^ -1) i P).1 26 = Int32.ofNat a := by rw [ok.2 26 (by omega)]; exact h26
                      obtain ⟨P_96, K_96⟩ := F_96
                      rw [hS.1.2 (18 + i) (by omega)] at P_96 c_113 c_138 c_166 c_175 H
                      have k1 : i = i_99 := zofn ei_99 (by omega) (by omega)
                      subst k1
                      have k2 : i = i_110 := zofn ei_110 (by omega) (by omega)
                      subst k2
                      have k3 : i = i_135 := zofn ei_135 (by omega) (by omega)
                      subst k3
                      generalize hv : gTry1 P.1 c (P.1 (18 + i) &&& (aw ^^^ -1)) = v at *
                      rw [zup_s] at c_113
                      rw [zup_n (by omega), zup_s] at c_138
                      exact absurd c_113 c_138
                    · skip
                      replace H := i_iln (q := 179) H I_X8_planGoes_178 rfl rfl
                      replace H := i_goto (q := 186) H I_X8_planGoes_179 (by decide)
                      replace H := i_pf (q := 189) H I_X8_planGoes_186 G_8_185 cn_X8_planGoes LY_71 rfl rfl
                      replace H := i_inc (q := 192) H I_X8_planGoes_189 rfl rfl rfl
                      replace H := i_goto (q := 18) H I_X8_planGoes_192 (by decide)
                      have j1 : i_32 = 134 := (zofn (i := 134) ei_32 (by decide) (by omega)).symm
                      subst j1
                      rw [show m 72 134 = Int32.ofNat a from (hS.1.2 26 (by omega)).trans h26] at c_33
                      have j2 : i = i_57 := zofn ei_57 (by omega) (by omega)
                      subst j2
                      replace H := i_w [true, true, true, false] H
                      rw [zofn_s] at H
                      have ok := pAct_ok (i := i) (mk := aw ^^^ -1) hg
                      have hlt : i < a := (zofn_lt (by omega) (by omega)).mp c_33
                      rw [show a - i = (a - (i + 1)) + 1 by omega, pPlays]
                      have j3 : i_44 = 108 + (18 + i) := by
                        have := zix3 (a := 126) (b := i) rfl rfl ei_44 (by omega) (by omega)
                        omega
                      subst j3
                      rw [hS.1.2 (18 + i) (by omega)] at c_59 c_80
                      have hpl1 : gpl (pAct c (aw ^^^ -1) i P).1 := fun j hj => by rw [ok.2 (18 + j) (by omega)]; exact hpl j hj
                      have hen1 : ∀ k, i + 1 ≤ k → (pAct c (aw ^^^ -1) i P).2.2.2.2 k = -4 := fun k hk => by rw [pAct_e (by omega)]; exact hen k (by omega)
                      have h261 : (pAct c (aw ^^^ -1) i P).1 26 = Int32.ofNat a := by rw [ok.2 26 (by omega)]; exact h26
                      obtain ⟨P_96, K_96⟩ := F_96
                      rw [hS.1.2 (18 + i) (by omega)] at P_96 c_113 c_138 c_166 c_175 H
                      have k1 : i = i_99 := zofn ei_99 (by omega) (by omega)
                      subst k1
                      have k2 : i = i_110 := zofn ei_110 (by omega) (by omega)
                      subst k2
                      have k3 : i = i_135 := zofn ei_135 (by omega) (by omega)
                      subst k3
                      generalize hv : gTry1 P.1 c (P.1 (18 + i) &&& (aw ^^^ -1)) = v at *
                      rw [zup_s] at c_113
                      rw [zup_n (by omega), zup_s] at c_138
                      exact absurd c_113 c_138
                · skip
                  replace H := i_icst (x := 0) (q := 142) H I_X8_planGoes_141 (by decide) rfl
                  replace H := i_goto (q := 153) H I_X8_planGoes_142 (by decide)
                  replace H := i_ior (q := 154) H I_X8_planGoes_153 rfl
                  replace H := i_pf (q := 157) H I_X8_planGoes_154 G_8_182 cn_X8_planGoes LY_71 rfl rfl
                  replace H := i_aln (q := 158) H I_X8_planGoes_157 rfl rfl
                  replace H := i_aln (q := 159) H I_X8_planGoes_158 rfl rfl
                  replace H := i_gfr (q := 162) H I_X8_planGoes_159 G_8_28 cn_X8_planGoes LY_71 rfl rfl
                  replace H := i_iln (q := 163) H I_X8_planGoes_162 rfl rfl
                  have W := i_ia (q := 164) H I_X8_planGoes_163 LY_78 rfl
                  clear H
                  obtain ⟨i_163, bi_163, ei_163, H⟩ := W
                  replace H := i_bip (x := (-4)) (q := 166) H I_X8_planGoes_164 (by decide) rfl
                  have W := i_ic_ne (t := 182) (q := 169) H I_X8_planGoes_166 (by decide) rfl
                  clear H
                  rcases W with ⟨c_166, H⟩ | ⟨c_166, H⟩
                  · skip
                    replace H := i_aln (q := 183) H I_X8_planGoes_182 rfl rfl
                    replace H := i_gfi (q := 186) H I_X8_planGoes_183 G_8_185 cn_X8_planGoes LY_71 rfl rfl
                    replace H := i_pf (q := 189) H I_X8_planGoes_186 G_8_185 cn_X8_planGoes LY_71 rfl rfl
                    replace H := i_inc (q := 192) H I_X8_planGoes_189 rfl rfl rfl
                    replace H := i_goto (q := 18) H I_X8_planGoes_192 (by decide)
                    have j1 : i_32 = 134 := (zofn (i := 134) ei_32 (by decide) (by omega)).symm
                    subst j1
                    rw [show m 72 134 = Int32.ofNat a from (hS.1.2 26 (by omega)).trans h26] at c_33
                    have j2 : i = i_57 := zofn ei_57 (by omega) (by omega)
                    subst j2
                    replace H := i_w [true, true, true, false] H
                    rw [zofn_s] at H
                    have ok := pAct_ok (i := i) (mk := aw ^^^ -1) hg
                    have hlt : i < a := (zofn_lt (by omega) (by omega)).mp c_33
                    rw [show a - i = (a - (i + 1)) + 1 by omega, pPlays]
                    have j3 : i_44 = 108 + (18 + i) := by
                      have := zix3 (a := 126) (b := i) rfl rfl ei_44 (by omega) (by omega)
                      omega
                    subst j3
                    rw [hS.1.2 (18 + i) (by omega)] at c_59 c_80
                    have hpl1 : gpl (pAct c (aw ^^^ -1) i P).1 := fun j hj => by rw [ok.2 (18 + j) (by omega)]; exact hpl j hj
                    have hen1 : ∀ k, i + 1 ≤ k → (pAct c (aw ^^^ -1) i P).2.2.2.2 k = -4 := fun k hk => by rw [pAct_e (by omega)]; exact hen k (by omega)
                    have h261 : (pAct c (aw ^^^ -1) i P).1 26 = Int32.ofNat a := by rw [ok.2 26 (by omega)]; exact h26
                    obtain ⟨P_96, K_96⟩ := F_96
                    rw [hS.1.2 (18 + i) (by omega)] at P_96 c_113 c_138 c_166 H
                    have k1 : i = i_99 := zofn ei_99 (by omega) (by omega)
                    subst k1
                    have k2 : i = i_110 := zofn ei_110 (by omega) (by omega)
                    subst k2
                    have k3 : i = i_135 := zofn ei_135 (by omega) (by omega)
                    subst k3
                    generalize hv : gTry1 P.1 c (P.1 (18 + i) &&& (aw ^^^ -1)) = v at *
                    rw [zup_s] at c_113
                    rw [zup_n (by omega), zup_s] at c_138
                    have k5 : i = i_163 := zofn ei_163 (by omega) (by omega)
                    subst k5
                    rw [zup_n (by omega), zup_n (by omega), zup_s] at c_166
                    exact absurd c_113 c_166
                  · skip
                    replace H := i_aln (q := 170) H I_X8_planGoes_169 rfl rfl
                    replace H := i_gfi (q := 173) H I_X8_planGoes_170 G_8_185 cn_X8_planGoes LY_71 rfl rfl
                    replace H := i_bip (x := (-4)) (q := 175) H I_X8_planGoes_173 (by decide) rfl
                    have W := i_ic_ne (t := 182) (q := 178) H I_X8_planGoes_175 (by decide) rfl
                    clear H
                    rcases W with ⟨c_175, H⟩ | ⟨c_175, H⟩
                    · skip
                      replace H := i_aln (q := 183) H I_X8_planGoes_182 rfl rfl
                      replace H := i_gfi (q := 186) H I_X8_planGoes_183 G_8_185 cn_X8_planGoes LY_71 rfl rfl
                      replace H := i_pf (q := 189) H I_X8_planGoes_186 G_8_185 cn_X8_planGoes LY_71 rfl rfl
                      replace H := i_inc (q := 192) H I_X8_planGoes_189 rfl rfl rfl
                      replace H := i_goto (q := 18) H I_X8_planGoes_192 (by decide)
                      have j1 : i_32 = 134 := (zofn (i := 134) ei_32 (by decide) (by omega)).symm
                      subst j1
                      rw [show m 72 134 = Int32.ofNat a from (hS.1.2 26 (by omega)).trans h26] at c_33
                      have j2 : i = i_57 := zofn ei_57 (by omega) (by omega)
                      subst j2
                      replace H := i_w [true, true, true, false] H
                      rw [zofn_s] at H
                      have ok := pAct_ok (i := i) (mk := aw ^^^ -1) hg
                      have hlt : i < a := (zofn_lt (by omega) (by omega)).mp c_33
                      rw [show a - i = (a - (i + 1)) + 1 by omega, pPlays]
                      have j3 : i_44 = 108 + (18 + i) := by
                        have := zix3 (a := 126) (b := i) rfl rfl ei_44 (by omega) (by omega)
                        omega
                      subst j3
                      rw [hS.1.2 (18 + i) (by omega)] at c_59 c_80
                      have hpl1 : gpl (pAct c (aw ^^^ -1) i P).1 := fun j hj => by rw [ok.2 (18 + j) (by omega)]; exact hpl j hj
                      have hen1 : ∀ k, i + 1 ≤ k → (pAct c (aw ^^^ -1) i P).2.2.2.2 k = -4 := fun k hk => by rw [pAct_e (by omega)]; exact hen k (by omega)
                      have h261 : (pAct c (aw ^^^ -1) i P).1 26 = Int32.ofNat a := by rw [ok.2 26 (by omega)]; exact h26
                      obtain ⟨P_96, K_96⟩ := F_96
                      rw [hS.1.2 (18 + i) (by omega)] at P_96 c_113 c_138 c_166 c_175 H
                      have k1 : i = i_99 := zofn ei_99 (by omega) (by omega)
                      subst k1
                      have k2 : i = i_110 := zofn ei_110 (by omega) (by omega)
                      subst k2
                      have k3 : i = i_135 := zofn ei_135 (by omega) (by omega)
                      subst k3
                      generalize hv : gTry1 P.1 c (P.1 (18 + i) &&& (aw ^^^ -1)) = v at *
                      rw [zup_s] at c_113
                      rw [zup_n (by omega), zup_s] at c_138
                      have k5 : i = i_163 := zofn ei_163 (by omega) (by omega)
                      subst k5
                      rw [zup_n (by omega), zup_n (by omega), zup_s] at c_166
                      have B18 : zup M_96 78 i v 71 18 = P.2.1 := by rw [zup_n (by omega), K_96 _ _ (by omega), zup_n (by omega)]; exact hS.2.1
                      have B19 : ∀ z, zup (zup M_96 78 i v) 71 18 z 71 19 = P.2.2.1 := fun z => by rw [zup_n (by omega), zup_n (by omega), K_96 _ _ (by omega), zup_n (by omega)]; exact hS.2.2.1
                      have B20 : ∀ z z2, zup (zup (zup M_96 78 i v) 71 18 z) 71 19 z2 71 20 = P.2.2.2.1 := fun z z2 => by rw [zup_n (by omega), zup_n (by omega), zup_n (by omega), K_96 _ _ (by omega), zup_n (by omega)]; exact hS.2.2.2.1
                      rw [B20] at c_175
                      rw [B18, B19, B20] at H
                      generalize hQ : zup (zup (zup (zup M_96 78 i v) 71 18 (P.2.1 + 0)) 71 19 (P.2.2.1 ||| 0)) 71 20 (P.2.2.2.1) = Q at H
                      have hS1 : rP Q (i + 1) (pAct c (aw ^^^ -1) i P) := by
                        rw [← hQ]
                        unfold pAct
                        rw [if_neg c_59, if_neg c_80, hv, if_pos c_113, if_pos c_113, if_neg (fun q => c_175 q.2)]
                        refine ⟨⟨P_96.1, fun j hj => by rw [zup_n (by omega), zup_n (by omega), zup_n (by omega), zup_n (by omega)]; exact P_96.2 j hj⟩, ?_, ?_, by rw [zup_s], fun j hj => ?_⟩
                        · rw [zup_n (by omega), zup_n (by omega), zup_s]
                          exact Int32.add_zero _
                        · rw [zup_n (by omega), zup_s]
                          exact Int32.or_zero
                        · rw [zup_n (by omega), zup_n (by omega), zup_n (by omega)]
                          show _ = gset P.2.2.2.2 i v j
                          by_cases e : j = i
                          · subst e
                            rw [zup_s, gset_s]
                          · rw [zup_n (by omega), gset_n e, K_96 _ _ (by omega), zup_n (by omega)]
                            exact hS.2.2.2.2 j (by omega)
                      have hF : zfP m Q := fun x y h1 h2 h3 => by
                        rw [← hQ, zup_n (by omega), zup_n (by omega), zup_n (by omega), zup_n (by omega), K_96 _ _ (by omega), zup_n (by omega)]
                      obtain ⟨m1, x1, x2, x3, x4⟩ := ih (i + 1) (pAct c (aw ^^^ -1) i P) d r h' _ (by omega) hS1 ok.1 h261 hpl1 hen1 (by rw [hF _ _ (by omega) (by omega) (by omega)]; exact hc) (by unfold zMk; rw [hF _ _ (by omega) (by omega) (by omega), hF _ _ (by omega) (by omega) (by omega), hF _ _ (by omega) (by omega) (by omega), hF _ _ (by omega) (by omega) (by omega)]; exact hM) H
                      exact ⟨m1, x1, x2, x3, zfP_t hF x4⟩
                    · skip
                      replace H := i_iln (q := 179) H I_X8_planGoes_178 rfl rfl
                      replace H := i_goto (q := 186) H I_X8_planGoes_179 (by decide)
                      replace H := i_pf (q := 189) H I_X8_planGoes_186 G_8_185 cn_X8_planGoes LY_71 rfl rfl
                      replace H := i_inc (q := 192) H I_X8_planGoes_189 rfl rfl rfl
                      replace H := i_goto (q := 18) H I_X8_planGoes_192 (by decide)
                      have j1 : i_32 = 134 := (zofn (i := 134) ei_32 (by decide) (by omega)).symm
                      subst j1
                      rw [show m 72 134 = Int32.ofNat a from (hS.1.2 26 (by omega)).trans h26] at c_33
                      have j2 : i = i_57 := zofn ei_57 (by omega) (by omega)
                      subst j2
                      replace H := i_w [true, true, true, false] H
                      rw [zofn_s] at H
                      have ok := pAct_ok (i := i) (mk := aw ^^^ -1) hg
                      have hlt : i < a := (zofn_lt (by omega) (by omega)).mp c_33
                      rw [show a - i = (a - (i + 1)) + 1 by omega, pPlays]
                      have j3 : i_44 = 108 + (18 + i) := by
                        have := zix3 (a := 126) (b := i) rfl rfl ei_44 (by omega) (by omega)
                        omega
                      subst j3
                      rw [hS.1.2 (18 + i) (by omega)] at c_59 c_80
                      have hpl1 : gpl (pAct c (aw ^^^ -1) i P).1 := fun j hj => by rw [ok.2 (18 + j) (by omega)]; exact hpl j hj
                      have hen1 : ∀ k, i + 1 ≤ k → (pAct c (aw ^^^ -1) i P).2.2.2.2 k = -4 := fun k hk => by rw [pAct_e (by omega)]; exact hen k (by omega)
                      have h261 : (pAct c (aw ^^^ -1) i P).1 26 = Int32.ofNat a := by rw [ok.2 26 (by omega)]; exact h26
                      obtain ⟨P_96, K_96⟩ := F_96
                      rw [hS.1.2 (18 + i) (by omega)] at P_96 c_113 c_138 c_166 c_175 H
                      have k1 : i = i_99 := zofn ei_99 (by omega) (by omega)
                      subst k1
                      have k2 : i = i_110 := zofn ei_110 (by omega) (by omega)
                      subst k2
                      have k3 : i = i_135 := zofn ei_135 (by omega) (by omega)
                      subst k3
                      generalize hv : gTry1 P.1 c (P.1 (18 + i) &&& (aw ^^^ -1)) = v at *
                      rw [zup_s] at c_113
                      rw [zup_n (by omega), zup_s] at c_138
                      have k5 : i = i_163 := zofn ei_163 (by omega) (by omega)
                      subst k5
                      rw [zup_n (by omega), zup_n (by omega), zup_s] at c_166
                      have B18 : zup M_96 78 i v 71 18 = P.2.1 := by rw [zup_n (by omega), K_96 _ _ (by omega), zup_n (by omega)]; exact hS.2.1
                      have B19 : ∀ z, zup (zup M_96 78 i v) 71 18 z 71 19 = P.2.2.1 := fun z => by rw [zup_n (by omega), zup_n (by omega), K_96 _ _ (by omega), zup_n (by omega)]; exact hS.2.2.1
                      have B20 : ∀ z z2, zup (zup (zup M_96 78 i v) 71 18 z) 71 19 z2 71 20 = P.2.2.2.1 := fun z z2 => by rw [zup_n (by omega), zup_n (by omega), zup_n (by omega), K_96 _ _ (by omega), zup_n (by omega)]; exact hS.2.2.2.1
                      rw [B20] at c_175
                      rw [B18, B19] at H
                      generalize hQ : zup (zup (zup (zup M_96 78 i v) 71 18 (P.2.1 + 0)) 71 19 (P.2.2.1 ||| 0)) 71 20 (Int32.ofNat i) = Q at H
                      have hS1 : rP Q (i + 1) (pAct c (aw ^^^ -1) i P) := by
                        rw [← hQ]
                        unfold pAct
                        rw [if_neg c_59, if_neg c_80, hv, if_pos c_113, if_pos c_113, if_pos ⟨c_113, c_175⟩]
                        refine ⟨⟨P_96.1, fun j hj => by rw [zup_n (by omega), zup_n (by omega), zup_n (by omega), zup_n (by omega)]; exact P_96.2 j hj⟩, ?_, ?_, by rw [zup_s], fun j hj => ?_⟩
                        · rw [zup_n (by omega), zup_n (by omega), zup_s]
                          exact Int32.add_zero _
                        · rw [zup_n (by omega), zup_s]
                          exact Int32.or_zero
                        · rw [zup_n (by omega), zup_n (by omega), zup_n (by omega)]
                          show _ = gset P.2.2.2.2 i v j
                          by_cases e : j = i
                          · subst e
                            rw [zup_s, gset_s]
                          · rw [zup_n (by omega), gset_n e, K_96 _ _ (by omega), zup_n (by omega)]
                            exact hS.2.2.2.2 j (by omega)
                      have hF : zfP m Q := fun x y h1 h2 h3 => by
                        rw [← hQ, zup_n (by omega), zup_n (by omega), zup_n (by omega), zup_n (by omega), K_96 _ _ (by omega), zup_n (by omega)]
                      obtain ⟨m1, x1, x2, x3, x4⟩ := ih (i + 1) (pAct c (aw ^^^ -1) i P) d r h' _ (by omega) hS1 ok.1 h261 hpl1 hen1 (by rw [hF _ _ (by omega) (by omega) (by omega)]; exact hc) (by unfold zMk; rw [hF _ _ (by omega) (by omega) (by omega), hF _ _ (by omega) (by omega) (by omega), hF _ _ (by omega) (by omega) (by omega), hF _ _ (by omega) (by omega) (by omega)]; exact hM) H
                      exact ⟨m1, x1, x2, x3, zfP_t hF x4⟩
        · skip
          replace H := i_aln (q := 63) H I_X8_planGoes_62 rfl rfl
          replace H := i_bip (x := 108) (q := 65) H I_X8_planGoes_63 (by decide) rfl
          have W := i_cv1 1 (q := 68) H I_X8_planGoes_65 K_8_176 Zm_143 rfl rfl
          clear H
          obtain ⟨r1, h1, Hc, K1, K2⟩ := W
          obtain ⟨M_65, e1, e2, F_65⟩ := t_X8_restsOn (pg := 108) (g := P.1) ⟨hS.1.1, fun j hj => by rw [zup_n (by omega)]; exact hS.1.2 j hj⟩ Hc
          have H := K2 _ e1 e2
          clear e1 e2 Hc K1 K2
          replace H := i_goto (q := 189) H I_X8_planGoes_68 (by decide)
          replace H := i_inc (q := 192) H I_X8_planGoes_189 rfl rfl rfl
          replace H := i_goto (q := 18) H I_X8_planGoes_192 (by decide)
          have j1 : i_32 = 134 := (zofn (i := 134) ei_32 (by decide) (by omega)).symm
          subst j1
          rw [show m 72 134 = Int32.ofNat a from (hS.1.2 26 (by omega)).trans h26] at c_33
          have j2 : i = i_57 := zofn ei_57 (by omega) (by omega)
          subst j2
          replace H := i_w [true, true, true, false] H
          rw [zofn_s] at H
          have ok := pAct_ok (i := i) (mk := aw ^^^ -1) hg
          have hlt : i < a := (zofn_lt (by omega) (by omega)).mp c_33
          rw [show a - i = (a - (i + 1)) + 1 by omega, pPlays]
          have j3 : i_44 = 108 + (18 + i) := by
            have := zix3 (a := 126) (b := i) rfl rfl ei_44 (by omega) (by omega)
            omega
          subst j3
          rw [hS.1.2 (18 + i) (by omega)] at c_59
          have hpl1 : gpl (pAct c (aw ^^^ -1) i P).1 := fun j hj => by rw [ok.2 (18 + j) (by omega)]; exact hpl j hj
          have hen1 : ∀ k, i + 1 ≤ k → (pAct c (aw ^^^ -1) i P).2.2.2.2 k = -4 := fun k hk => by rw [pAct_e (by omega)]; exact hen k (by omega)
          have h261 : (pAct c (aw ^^^ -1) i P).1 26 = Int32.ofNat a := by rw [ok.2 26 (by omega)]; exact h26
          obtain ⟨P_65, K_65⟩ := F_65
          have hS1 : rP M_65 (i + 1) (pAct c (aw ^^^ -1) i P) := by
            unfold pAct
            rw [if_pos c_59]
            refine ⟨P_65, by rw [K_65 _ _ (by omega), zup_n (by omega)]; exact hS.2.1, by rw [K_65 _ _ (by omega), zup_n (by omega)]; exact hS.2.2.1, by rw [K_65 _ _ (by omega), zup_n (by omega)]; exact hS.2.2.2.1, fun j hj => ?_⟩
            rw [K_65 _ _ (by omega)]
            by_cases e : j = i
            · subst e
              rw [zup_s]
              exact (hen j (Nat.le_refl j)).symm
            · rw [zup_n (by omega)]; exact hS.2.2.2.2 j (by omega)
          obtain ⟨m1, x1, x2, x3, x4⟩ := ih (i + 1) (pAct c (aw ^^^ -1) i P) d r h' _ (by omega) hS1 ok.1 h261 hpl1 hen1 (by rw [K_65 _ _ (by omega), zup_n (by omega)]; exact hc) (by unfold zMk; rw [K_65 _ _ (by omega), K_65 _ _ (by omega), K_65 _ _ (by omega), K_65 _ _ (by omega), zup_n (by omega), zup_n (by omega), zup_n (by omega), zup_n (by omega)]; exact hM) H
          exact ⟨m1, x1, x2, x3, zfP_t (fun x y h1 h2 h3 => by rw [K_65 _ _ (by omega), zup_n (by omega)]) x4⟩
theorem t_X8_planGoes {d : Nat} {m : zM} {r : Option Value} {h' : zHp} {c a : Nat} {aw : Int32} {g : Nat → Int32} (hP : PG m 108 g) (hg : gok g c) (ha : g 26 = Int32.ofNat a) (ha8 : a ≤ 8) (hpl : gpl g) (hc : m 71 2 = Int32.ofNat c) (hM : zMk m) (H : zE none d zm_X8_planGoes 0 [.ref 71, .int aw, .null, .null] [] m r h') : ∃ m1, r = none ∧ h' = zhp m1 ∧ rP m1 8 (pPlays c (aw ^^^ -1) (zna g) 0 (zPy0 g)) ∧ zfP m m1 := by
  have en : zna g = a := by unfold zna; rw [ha, Int32.toNatClampNeg_ofNat_of_lt (by omega)]
  replace H := i_aln (q := 1) H I_X8_planGoes_0 rfl rfl
  replace H := i_icst (x := 0) (q := 2) H I_X8_planGoes_1 (by decide) rfl
  replace H := i_pf (q := 5) H I_X8_planGoes_2 G_8_179 cn_X8_planGoes LY_71 rfl rfl
  replace H := i_aln (q := 6) H I_X8_planGoes_5 rfl rfl
  replace H := i_icst (x := 0) (q := 7) H I_X8_planGoes_6 (by decide) rfl
  replace H := i_pf (q := 10) H I_X8_planGoes_7 G_8_182 cn_X8_planGoes LY_71 rfl rfl
  replace H := i_aln (q := 11) H I_X8_planGoes_10 rfl rfl
  replace H := i_bip (x := (-4)) (q := 13) H I_X8_planGoes_11 (by decide) rfl
  replace H := i_pf (q := 16) H I_X8_planGoes_13 G_8_185 cn_X8_planGoes LY_71 rfl rfl
  replace H := i_icst (x := 0) (q := 17) H I_X8_planGoes_16 (by decide) rfl
  replace H := i_isn (q := 18) H I_X8_planGoes_17 rfl rfl
  obtain ⟨m1, x1, x2, x3, x4⟩ := pg_loop (c := c) (aw := aw) ha8 8 0 (zPy0 g) d r h' _ rfl ⟨⟨hP.1, fun j hj => by rw [zup_n (by omega), zup_n (by omega), zup_n (by omega)]; exact hP.2 j hj⟩, by rw [zup_n (by omega), zup_n (by omega), zup_s]; rfl, by rw [zup_n (by omega), zup_s]; rfl, by rw [zup_s]; rfl, fun j hj => by omega⟩ hg ha hpl (fun _ _ => rfl) (by rw [zup_n (by omega), zup_n (by omega), zup_n (by omega)]; exact hc) (by unfold zMk; rw [zup_n (by omega), zup_n (by omega), zup_n (by omega), zup_n (by omega), zup_n (by omega), zup_n (by omega), zup_n (by omega), zup_n (by omega), zup_n (by omega), zup_n (by omega), zup_n (by omega), zup_n (by omega)]; exact hM) H
  rw [en]
  exact ⟨m1, x1, x2, x3, zfP_t (fun x y h1 h2 h3 => by rw [zup_n (by omega), zup_n (by omega), zup_n (by omega)]) x4⟩
end
section
/-! turn, rest -/
theorem It_X7_rest : zm_X7_rest.2.2.2.2.2 = zt_X7_rest := by
  unfold zm_X7_rest
  rfl
theorem It_X7_turn : zm_X7_turn.2.2.2.2.2 = zt_X7_turn := by
  unfold zm_X7_turn
  rfl
theorem It_X8_rest : zm_X8_rest.2.2.2.2.2 = zt_X8_rest := by
  unfold zm_X8_rest
  rfl
theorem It_X8_turn : zm_X8_turn.2.2.2.2.2 = zt_X8_turn := by
  unfold zm_X8_turn
  rfl
theorem It_X8_turns : zm_X8_turns.2.2.2.2.2 = zt_X8_turns := by
  unfold zm_X8_turns
  rfl
theorem I_X7_rest_0 : zin zm_X7_rest.2.2.2.2.2 0 = some (.iload_n 1, 1) := by rw [It_X7_rest]; rfl
theorem I_X7_rest_1 : zin zm_X7_rest.2.2.2.2.2 1 = some (.ifCond .lt 9, 3) := by rw [It_X7_rest]; rfl
theorem I_X7_rest_4 : zin zm_X7_rest.2.2.2.2.2 4 = some (.iload_n 1, 1) := by rw [It_X7_rest]; rfl
theorem I_X7_rest_5 : zin zm_X7_rest.2.2.2.2.2 5 = some (.bipush 99, 2) := by rw [It_X7_rest]; rfl
theorem I_X7_rest_7 : zin zm_X7_rest.2.2.2.2.2 7 = some (.if_icmp .le 5, 3) := by rw [It_X7_rest]; rfl
theorem I_X7_rest_10 : zin zm_X7_rest.2.2.2.2.2 10 = some (.iconst (-1), 1) := by rw [It_X7_rest]; rfl
theorem I_X7_rest_11 : zin zm_X7_rest.2.2.2.2.2 11 = some (.ireturn, 1) := by rw [It_X7_rest]; rfl
theorem I_X7_rest_12 : zin zm_X7_rest.2.2.2.2.2 12 = some (.iconst 0, 1) := by rw [It_X7_rest]; rfl
theorem I_X7_rest_13 : zin zm_X7_rest.2.2.2.2.2 13 = some (.istore_n 2, 1) := by rw [It_X7_rest]; rfl
theorem I_X7_rest_14 : zin zm_X7_rest.2.2.2.2.2 14 = some (.iload_n 2, 1) := by rw [It_X7_rest]; rfl
theorem I_X7_rest_15 : zin zm_X7_rest.2.2.2.2.2 15 = some (.iload_n 1, 1) := by rw [It_X7_rest]; rfl
theorem I_X7_rest_16 : zin zm_X7_rest.2.2.2.2.2 16 = some (.if_icmp .ge 16, 3) := by rw [It_X7_rest]; rfl
theorem I_X7_rest_19 : zin zm_X7_rest.2.2.2.2.2 19 = some (.aload_n 0, 1) := by rw [It_X7_rest]; rfl
theorem I_X7_rest_20 : zin zm_X7_rest.2.2.2.2.2 20 = some (.getfield 19, 3) := by rw [It_X7_rest]; rfl
theorem I_X7_rest_23 : zin zm_X7_rest.2.2.2.2.2 23 = some (.invokevirtual 158, 3) := by rw [It_X7_rest]; rfl
theorem I_X7_rest_26 : zin zm_X7_rest.2.2.2.2.2 26 = some (.iinc 2 1, 3) := by rw [It_X7_rest]; rfl
theorem I_X7_rest_29 : zin zm_X7_rest.2.2.2.2.2 29 = some (.goto (-15), 3) := by rw [It_X7_rest]; rfl
theorem I_X7_rest_32 : zin zm_X7_rest.2.2.2.2.2 32 = some (.aload_n 0, 1) := by rw [It_X7_rest]; rfl
theorem I_X7_rest_33 : zin zm_X7_rest.2.2.2.2.2 33 = some (.getfield 19, 3) := by rw [It_X7_rest]; rfl
theorem I_X7_rest_36 : zin zm_X7_rest.2.2.2.2.2 36 = some (.invokevirtual 106, 3) := by rw [It_X7_rest]; rfl
theorem I_X7_rest_39 : zin zm_X7_rest.2.2.2.2.2 39 = some (.ireturn, 1) := by rw [It_X7_rest]; rfl
theorem I_X7_turn_0 : zin zm_X7_turn.2.2.2.2.2 0 = some (.aload_n 0, 1) := by rw [It_X7_turn]; rfl
theorem I_X7_turn_1 : zin zm_X7_turn.2.2.2.2.2 1 = some (.getfield 19, 3) := by rw [It_X7_turn]; rfl
theorem I_X7_turn_4 : zin zm_X7_turn.2.2.2.2.2 4 = some (.iload_n 1, 1) := by rw [It_X7_turn]; rfl
theorem I_X7_turn_5 : zin zm_X7_turn.2.2.2.2.2 5 = some (.invokevirtual 152, 3) := by rw [It_X7_turn]; rfl
theorem I_X7_turn_8 : zin zm_X7_turn.2.2.2.2.2 8 = some (.ifCond .eq 14, 3) := by rw [It_X7_turn]; rfl
theorem I_X7_turn_11 : zin zm_X7_turn.2.2.2.2.2 11 = some (.aload_n 0, 1) := by rw [It_X7_turn]; rfl
theorem I_X7_turn_12 : zin zm_X7_turn.2.2.2.2.2 12 = some (.getfield 19, 3) := by rw [It_X7_turn]; rfl
theorem I_X7_turn_15 : zin zm_X7_turn.2.2.2.2.2 15 = some (.iload_n 1, 1) := by rw [It_X7_turn]; rfl
theorem I_X7_turn_16 : zin zm_X7_turn.2.2.2.2.2 16 = some (.invokevirtual 155, 3) := by rw [It_X7_turn]; rfl
theorem I_X7_turn_19 : zin zm_X7_turn.2.2.2.2.2 19 = some (.goto 4, 3) := by rw [It_X7_turn]; rfl
theorem I_X7_turn_22 : zin zm_X7_turn.2.2.2.2.2 22 = some (.iconst (-1), 1) := by rw [It_X7_turn]; rfl
theorem I_X7_turn_23 : zin zm_X7_turn.2.2.2.2.2 23 = some (.ireturn, 1) := by rw [It_X7_turn]; rfl
theorem I_X8_rest_0 : zin zm_X8_rest.2.2.2.2.2 0 = some (.iload_n 1, 1) := by rw [It_X8_rest]; rfl
theorem I_X8_rest_1 : zin zm_X8_rest.2.2.2.2.2 1 = some (.i2l, 1) := by rw [It_X8_rest]; rfl
theorem I_X8_rest_2 : zin zm_X8_rest.2.2.2.2.2 2 = some (.lconst 0, 1) := by rw [It_X8_rest]; rfl
theorem I_X8_rest_3 : zin zm_X8_rest.2.2.2.2.2 3 = some (.ldc2_w 159, 3) := by rw [It_X8_rest]; rfl
theorem I_X8_rest_6 : zin zm_X8_rest.2.2.2.2.2 6 = some (.invokestatic 55, 3) := by rw [It_X8_rest]; rfl
theorem I_X8_rest_9 : zin zm_X8_rest.2.2.2.2.2 9 = some (.ifCond .ne 5, 3) := by rw [It_X8_rest]; rfl
theorem I_X8_rest_12 : zin zm_X8_rest.2.2.2.2.2 12 = some (.iconst (-1), 1) := by rw [It_X8_rest]; rfl
theorem I_X8_rest_13 : zin zm_X8_rest.2.2.2.2.2 13 = some (.ireturn, 1) := by rw [It_X8_rest]; rfl
theorem I_X8_rest_14 : zin zm_X8_rest.2.2.2.2.2 14 = some (.iconst 0, 1) := by rw [It_X8_rest]; rfl
theorem I_X8_rest_15 : zin zm_X8_rest.2.2.2.2.2 15 = some (.istore_n 2, 1) := by rw [It_X8_rest]; rfl
theorem I_X8_rest_16 : zin zm_X8_rest.2.2.2.2.2 16 = some (.iload_n 2, 1) := by rw [It_X8_rest]; rfl
theorem I_X8_rest_17 : zin zm_X8_rest.2.2.2.2.2 17 = some (.iload_n 1, 1) := by rw [It_X8_rest]; rfl
theorem I_X8_rest_18 : zin zm_X8_rest.2.2.2.2.2 18 = some (.if_icmp .ge 14, 3) := by rw [It_X8_rest]; rfl
theorem I_X8_rest_21 : zin zm_X8_rest.2.2.2.2.2 21 = some (.aload_n 0, 1) := by rw [It_X8_rest]; rfl
theorem I_X8_rest_22 : zin zm_X8_rest.2.2.2.2.2 22 = some (.iconst 0, 1) := by rw [It_X8_rest]; rfl
theorem I_X8_rest_23 : zin zm_X8_rest.2.2.2.2.2 23 = some (.invokevirtual 176, 3) := by rw [It_X8_rest]; rfl
theorem I_X8_rest_26 : zin zm_X8_rest.2.2.2.2.2 26 = some (.iinc 2 1, 3) := by rw [It_X8_rest]; rfl
theorem I_X8_rest_29 : zin zm_X8_rest.2.2.2.2.2 29 = some (.goto (-13), 3) := by rw [It_X8_rest]; rfl
theorem I_X8_rest_32 : zin zm_X8_rest.2.2.2.2.2 32 = some (.aload_n 0, 1) := by rw [It_X8_rest]; rfl
theorem I_X8_rest_33 : zin zm_X8_rest.2.2.2.2.2 33 = some (.iconst 0, 1) := by rw [It_X8_rest]; rfl
theorem I_X8_rest_34 : zin zm_X8_rest.2.2.2.2.2 34 = some (.invokevirtual 144, 3) := by rw [It_X8_rest]; rfl
theorem I_X8_rest_37 : zin zm_X8_rest.2.2.2.2.2 37 = some (.ireturn, 1) := by rw [It_X8_rest]; rfl
theorem I_X8_turn_0 : zin zm_X8_turn.2.2.2.2.2 0 = some (.aload_n 0, 1) := by rw [It_X8_turn]; rfl
theorem I_X8_turn_1 : zin zm_X8_turn.2.2.2.2.2 1 = some (.iload_n 1, 1) := by rw [It_X8_turn]; rfl
theorem I_X8_turn_2 : zin zm_X8_turn.2.2.2.2.2 2 = some (.invokevirtual 173, 3) := by rw [It_X8_turn]; rfl
theorem I_X8_turn_5 : zin zm_X8_turn.2.2.2.2.2 5 = some (.ireturn, 1) := by rw [It_X8_turn]; rfl
theorem I_X8_turns_0 : zin zm_X8_turns.2.2.2.2.2 0 = some (.iload_n 1, 1) := by rw [It_X8_turns]; rfl
theorem I_X8_turns_1 : zin zm_X8_turns.2.2.2.2.2 1 = some (.i2l, 1) := by rw [It_X8_turns]; rfl
theorem I_X8_turns_2 : zin zm_X8_turns.2.2.2.2.2 2 = some (.lconst 1, 1) := by rw [It_X8_turns]; rfl
theorem I_X8_turns_3 : zin zm_X8_turns.2.2.2.2.2 3 = some (.aload_n 0, 1) := by rw [It_X8_turns]; rfl
theorem I_X8_turns_4 : zin zm_X8_turns.2.2.2.2.2 4 = some (.invokevirtual 167, 3) := by rw [It_X8_turns]; rfl
theorem I_X8_turns_7 : zin zm_X8_turns.2.2.2.2.2 7 = some (.i2l, 1) := by rw [It_X8_turns]; rfl
theorem I_X8_turns_8 : zin zm_X8_turns.2.2.2.2.2 8 = some (.invokestatic 55, 3) := by rw [It_X8_turns]; rfl
theorem I_X8_turns_11 : zin zm_X8_turns.2.2.2.2.2 11 = some (.ifCond .eq 12, 3) := by rw [It_X8_turns]; rfl
theorem I_X8_turns_14 : zin zm_X8_turns.2.2.2.2.2 14 = some (.aload_n 0, 1) := by rw [It_X8_turns]; rfl
theorem I_X8_turns_15 : zin zm_X8_turns.2.2.2.2.2 15 = some (.iconst 0, 1) := by rw [It_X8_turns]; rfl
theorem I_X8_turns_16 : zin zm_X8_turns.2.2.2.2.2 16 = some (.iload_n 1, 1) := by rw [It_X8_turns]; rfl
theorem I_X8_turns_17 : zin zm_X8_turns.2.2.2.2.2 17 = some (.invokevirtual 170, 3) := by rw [It_X8_turns]; rfl
theorem I_X8_turns_20 : zin zm_X8_turns.2.2.2.2.2 20 = some (.goto 4, 3) := by rw [It_X8_turns]; rfl
theorem I_X8_turns_23 : zin zm_X8_turns.2.2.2.2.2 23 = some (.iconst (-1), 1) := by rw [It_X8_turns]; rfl
theorem I_X8_turns_24 : zin zm_X8_turns.2.2.2.2.2 24 = some (.ireturn, 1) := by rw [It_X8_turns]; rfl
theorem K_7_106 : zlk zmls 7 106 = some (0, 10, 0, 491) := rfl
theorem K_7_155 : zlk zmls 7 155 = some (0, 16, 1, 556) := rfl
theorem K_7_158 : zlk zmls 7 158 = some (0, 17, 0, 579) := rfl
theorem K_8_173 : zlk zmls 8 173 = some (0, 144, 1, 1056) := rfl
theorem Zm_144 : zms[144]? = some zm_X8_turns := rfl
theorem J_8_159 : zlk zcJs 8 159 = some (99, 1030) := rfl
theorem cl_X7_rest : zm_X7_rest.2.2.2.2.1 = 7 := by
  unfold zm_X7_rest
  rfl
theorem cn_X7_rest : zm_X7_rest.2.2.2.2.1 ≠ 12 := by
  rw [cl_X7_rest]
  decide
theorem cn2_X7_rest : zm_X7_rest.2.2.2.2.1 ≠ 2 := by
  rw [cl_X7_rest]
  decide
theorem cl_X7_turn : zm_X7_turn.2.2.2.2.1 = 7 := by
  unfold zm_X7_turn
  rfl
theorem cn_X7_turn : zm_X7_turn.2.2.2.2.1 ≠ 12 := by
  rw [cl_X7_turn]
  decide
theorem cn2_X7_turn : zm_X7_turn.2.2.2.2.1 ≠ 2 := by
  rw [cl_X7_turn]
  decide
theorem zin_all1 {x y : Int32} {c : Nat} (hy : y = Int32.ofNat c) (hc : c ≤ 5) {a : Int64} (ha : a.toInt = 1) : zin64 x.toInt64 a ((1 : Int32) <<< (y &&& 31) - 1).toInt64 = if 0 < x ∧ x < (1 : Int32) <<< (y &&& 31) then 1 else 0 := by
  obtain ⟨q1, q2, q3⟩ := zsh_c c hc
  rw [hy, q1, zin_32, ha, Int32.toInt_toInt64, zofn_m1 (by omega)]
  have e1 : 0 < x ↔ 0 < x.toInt := Int32.lt_iff_toInt_lt
  have e2 : x < Int32.ofNat (2 ^ c) ↔ x.toInt < ((2 ^ c : Nat) : Int) := by rw [Int32.lt_iff_toInt_lt, zofn_t (by omega)]
  by_cases h1 : 0 < x
  · by_cases h2 : x < Int32.ofNat (2 ^ c)
    · rw [if_pos ⟨by have := e1.mp h1; omega, by have := e2.mp h2; omega⟩, if_pos ⟨h1, h2⟩]
    · rw [if_neg (fun w => h2 (e2.mpr (by omega))), if_neg (fun w => h2 w.2)]
  · rw [if_neg (fun w => h1 (e1.mpr (by omega))), if_neg (fun w => h1 w.1)]
/-- a set of ones that there are -/
abbrev zAs (x : Int32) (c : Nat) : Prop := 0 < x ∧ x < (1 : Int32) <<< (Int32.ofNat c &&& 31)
theorem LV_mn {m : zM} {k c : Nat} {g : Nat → Int32} (h : LV m k c g) : zmn (zcf m k) c = zmn (gcn g) c := zmn_g c (fun i hi => LV_c h hi)
/-- n rests -/
def gRests : Nat → (Nat → Int32) → Nat → Int32
  | 0, g => g
  | n + 1, g => gRests n (gRest g)
theorem gok_rs {c : Nat} : ∀ (n : Nat) {g : Nat → Int32}, gok g c → gok (gRests n g) c
  | 0, _, h => h
  | n + 1, _, h => gok_rs n (gok_r h)
theorem t_X7_turn {d : Nat} {m : zM} {r : Option Value} {h' : zHp} {s : Int32} {c : Nat} {g : Nat → Int32} (hL : LV m 11 c g) (hg : gok g c) (H : zE none d zm_X7_turn 0 [.ref 0, .int s] [] m r h') : ∃ m1 v, r = some (.int v) ∧ h' = zhp m1 ∧ ((¬ zAs s c ∧ v = -1 ∧ m1 = m) ∨ (zAs s c ∧ v = gTry1 g c s ∧ LV m1 11 c (gTry2 g c s) ∧ ∀ a b, ¬ (11 ≤ a ∧ a ≤ 11 + 7) → m1 a b = m a b)) := by
  replace H := i_aln (q := 1) H I_X7_turn_0 rfl rfl
  replace H := i_gfr (q := 4) H I_X7_turn_1 G_7_19 cn_X7_turn LY_0 rfl rfl
  replace H := i_iln (q := 5) H I_X7_turn_4 rfl rfl
  have W := i_cv1 0 (q := 8) H I_X7_turn_5 K_7_152 Zm_4 rfl rfl
  clear H
  obtain ⟨r1, h1, Hc, K1, K2⟩ := W
  obtain ⟨e1, e2⟩ := t_X0_hasAll lkk_11 Hc
  have H := K1 _ _ e1 e2
  clear e1 e2 Hc K1 K2
  have W := i_if_eq (t := 22) (q := 11) H I_X7_turn_8 (by decide) rfl
  clear H
  rcases W with ⟨c_8, H⟩ | ⟨c_8, H⟩
  · skip
    replace H := i_icst (x := (-1)) (q := 23) H I_X7_turn_22 (by decide) rfl
    obtain ⟨hr, hh⟩ := i_ir H I_X7_turn_23
    rw [hL.1] at c_8
    exact ⟨_, _, hr, hh, Or.inl ⟨zif0 c_8, rfl, rfl⟩⟩
  · skip
    replace H := i_aln (q := 12) H I_X7_turn_11 rfl rfl
    replace H := i_gfr (q := 15) H I_X7_turn_12 G_7_19 cn_X7_turn LY_0 rfl rfl
    replace H := i_iln (q := 16) H I_X7_turn_15 rfl rfl
    have W := i_cv1 1 (q := 19) H I_X7_turn_16 K_7_155 Zm_16 rfl rfl
    clear H
    obtain ⟨r1, h1, Hc, K1, K2⟩ := W
    obtain ⟨M_16, e1, e2, F_16⟩ := t_X0_attempt (Or.inr (Or.inl rfl)) hL hg Hc
    have H := K1 _ _ e1 e2
    clear e1 e2 Hc K1 K2
    replace H := i_goto (q := 23) H I_X7_turn_19 (by decide)
    obtain ⟨hr, hh⟩ := i_ir H I_X7_turn_23
    rw [hL.1] at c_8
    exact ⟨_, _, hr, hh, Or.inr ⟨zif1 c_8, rfl, F_16.1, F_16.2⟩⟩
theorem t_X8_turns {d : Nat} {m : zM} {r : Option Value} {h' : zHp} {s : Int32} {c : Nat} {g : Nat → Int32} (hP : PG m 0 g) (hg : gok g c) (hc : m 71 2 = Int32.ofNat c) (hM : zMk m) (H : zE none d zm_X8_turns 0 [.ref 71, .int s] [] m r h') : ∃ m1 v, r = some (.int v) ∧ h' = zhp m1 ∧ ((¬ zAs s c ∧ v = -1 ∧ m1 = m) ∨ (zAs s c ∧ v = gTry1 g c s ∧ PG m1 0 (gTry2 g c s) ∧ ∀ a b, ¬ (a = 72 ∧ 0 ≤ b ∧ b < 0 + 27) → m1 a b = m a b)) := by
  replace H := i_iln (q := 1) H I_X8_turns_0 rfl rfl
  replace H := i_i2l (q := 2) H I_X8_turns_1 rfl
  replace H := i_lcst (x := 1) (q := 3) H I_X8_turns_2 (by decide) rfl
  replace H := i_aln (q := 4) H I_X8_turns_3 rfl rfl
  have W := i_cv0 0 (q := 7) H I_X8_turns_4 K_8_167 Zm_139 rfl rfl
  clear H
  obtain ⟨r1, h1, Hc, K1, K2⟩ := W
  obtain ⟨e1, e2⟩ := t_X8_all Hc
  have H := K1 _ _ e1 e2
  clear e1 e2 Hc K1 K2
  replace H := i_i2l (q := 8) H I_X8_turns_7 rfl
  replace H := i_in (q := 11) H I_X8_turns_8 K_8_55 rfl
  have W := i_if_eq (t := 23) (q := 14) H I_X8_turns_11 (by decide) rfl
  clear H
  rcases W with ⟨c_11, H⟩ | ⟨c_11, H⟩
  · skip
    replace H := i_icst (x := (-1)) (q := 24) H I_X8_turns_23 (by decide) rfl
    obtain ⟨hr, hh⟩ := i_ir H I_X8_turns_24
    rw [zin_all1 hc hg.1 rfl, hc] at c_11
    exact ⟨_, _, hr, hh, Or.inl ⟨zif0 c_11, rfl, rfl⟩⟩
  · skip
    replace H := i_aln (q := 15) H I_X8_turns_14 rfl rfl
    replace H := i_icst (x := 0) (q := 16) H I_X8_turns_15 (by decide) rfl
    replace H := i_iln (q := 17) H I_X8_turns_16 rfl rfl
    have W := i_cv2 3 (q := 20) H I_X8_turns_17 K_8_170 Zm_142 rfl rfl
    clear H
    obtain ⟨r1, h1, Hc, K1, K2⟩ := W
    obtain ⟨M_17, e1, e2, F_17⟩ := t_X8_triesOn (pg := 0) hP hg hc hM Hc
    have H := K1 _ _ e1 e2
    clear e1 e2 Hc K1 K2
    replace H := i_goto (q := 24) H I_X8_turns_20 (by decide)
    obtain ⟨hr, hh⟩ := i_ir H I_X8_turns_24
    rw [zin_all1 hc hg.1 rfl, hc] at c_11
    exact ⟨_, _, hr, hh, Or.inr ⟨zif1 c_11, rfl, F_17.1, F_17.2⟩⟩
theorem t_X8_turn {d : Nat} {m : zM} {r : Option Value} {h' : zHp} {s : Int32} {c : Nat} {g : Nat → Int32} (hP : PG m 0 g) (hg : gok g c) (hc : m 71 2 = Int32.ofNat c) (hM : zMk m) (H : zE none d zm_X8_turn 0 [.ref 71, .int s] [] m r h') : ∃ m1 v, r = some (.int v) ∧ h' = zhp m1 ∧ ((¬ zAs s c ∧ v = -1 ∧ m1 = m) ∨ (zAs s c ∧ v = gTry1 g c s ∧ PG m1 0 (gTry2 g c s) ∧ ∀ a b, ¬ (a = 72 ∧ 0 ≤ b ∧ b < 0 + 27) → m1 a b = m a b)) := by
  replace H := i_aln (q := 1) H I_X8_turn_0 rfl rfl
  replace H := i_iln (q := 2) H I_X8_turn_1 rfl rfl
  have W := i_cv1 0 (q := 5) H I_X8_turn_2 K_8_173 Zm_144 rfl rfl
  clear H
  obtain ⟨r1, h1, Hc, K1, K2⟩ := W
  obtain ⟨m1, v, e1, e2, F_2⟩ := t_X8_turns hP hg hc hM Hc
  have H := K1 _ _ e1 e2
  clear e1 e2 Hc K1 K2
  obtain ⟨hr, hh⟩ := i_ir H I_X8_turn_5
  exact ⟨m1, v, hr, hh, F_2⟩
theorem rs_7 {c n : Nat} (hn : n ≤ 99) : ∀ (j i : Nat) (g : Nat → Int32) (d : Nat) (r : Option Value) (h' : zHp) (m : zM), i + j = n → LV m 11 c g → gok g c → zE none d zm_X7_rest 14 [.ref 0, .int (Int32.ofNat n), .int (Int32.ofNat i)] [] m r h' → ∃ m1, r = some (.int (zmn (gcn (gRests j g)) c)) ∧ h' = zhp m1 ∧ LV m1 11 c (gRests j g) ∧ ∀ a b, ¬ (11 ≤ a ∧ a ≤ 11 + 7) → m1 a b = m a b := by
  intro j
  induction j with
  | zero =>
    intro i g d r h' m hj hL hg H
    replace H := i_iln (q := 15) H I_X7_rest_14 rfl rfl
    replace H := i_iln (q := 16) H I_X7_rest_15 rfl rfl
    have W := i_ic_ge (t := 32) (q := 19) H I_X7_rest_16 (by decide) rfl
    clear H
    rcases W with ⟨c_16, H⟩ | ⟨c_16, H⟩
    · skip
      replace H := i_aln (q := 33) H I_X7_rest_32 rfl rfl
      replace H := i_gfr (q := 36) H I_X7_rest_33 G_7_19 cn_X7_rest LY_0 rfl rfl
      have W := i_cv0 3 (q := 39) H I_X7_rest_36 K_7_106 Zm_10 rfl rfl
      clear H
      obtain ⟨r1, h1, Hc, K1, K2⟩ := W
      obtain ⟨e1, e2⟩ := t_X0_least (Or.inr (Or.inl rfl)) hL.1 hL.2.1 Hc
      have H := K1 _ _ e1 e2
      clear e1 e2 Hc K1 K2
      obtain ⟨hr, hh⟩ := i_ir H I_X7_rest_39
      have e : n - i = 0 := by omega
      rw [LV_mn hL] at hr
      exact ⟨m, hr, hh, hL, fun _ _ _ => rfl⟩
    · skip
      replace H := i_aln (q := 20) H I_X7_rest_19 rfl rfl
      replace H := i_gfr (q := 23) H I_X7_rest_20 G_7_19 cn_X7_rest LY_0 rfl rfl
      have W := i_cv0 1 (q := 26) H I_X7_rest_23 K_7_158 Zm_17 rfl rfl
      clear H
      obtain ⟨r1, h1, Hc, K1, K2⟩ := W
      obtain ⟨M_23, e1, e2, F_23⟩ := t_X0_calm (Or.inr (Or.inl rfl)) hL hg Hc
      have H := K2 _ e1 e2
      clear e1 e2 Hc K1 K2
      replace H := i_inc (q := 29) H I_X7_rest_26 rfl rfl rfl
      replace H := i_goto (q := 14) H I_X7_rest_29 (by decide)
      exfalso
      exact absurd ((zofn_lt (by omega) (by omega)).mp c_16) (by omega)
  | succ j ih =>
    intro i g d r h' m hj hL hg H
    replace H := i_iln (q := 15) H I_X7_rest_14 rfl rfl
    replace H := i_iln (q := 16) H I_X7_rest_15 rfl rfl
    have W := i_ic_ge (t := 32) (q := 19) H I_X7_rest_16 (by decide) rfl
    clear H
    rcases W with ⟨c_16, H⟩ | ⟨c_16, H⟩
    · skip
      replace H := i_aln (q := 33) H I_X7_rest_32 rfl rfl
      replace H := i_gfr (q := 36) H I_X7_rest_33 G_7_19 cn_X7_rest LY_0 rfl rfl
      have W := i_cv0 3 (q := 39) H I_X7_rest_36 K_7_106 Zm_10 rfl rfl
      clear H
      obtain ⟨r1, h1, Hc, K1, K2⟩ := W
      obtain ⟨e1, e2⟩ := t_X0_least (Or.inr (Or.inl rfl)) hL.1 hL.2.1 Hc
      have H := K1 _ _ e1 e2
      clear e1 e2 Hc K1 K2
      obtain ⟨hr, hh⟩ := i_ir H I_X7_rest_39
      exfalso
      exact c_16 ((zofn_lt (by omega) (by omega)).mpr (by omega))
    · skip
      replace H := i_aln (q := 20) H I_X7_rest_19 rfl rfl
      replace H := i_gfr (q := 23) H I_X7_rest_20 G_7_19 cn_X7_rest LY_0 rfl rfl
      have W := i_cv0 1 (q := 26) H I_X7_rest_23 K_7_158 Zm_17 rfl rfl
      clear H
      obtain ⟨r1, h1, Hc, K1, K2⟩ := W
      obtain ⟨M_23, e1, e2, F_23⟩ := t_X0_calm (Or.inr (Or.inl rfl)) hL hg Hc
      have H := K2 _ e1 e2
      clear e1 e2 Hc K1 K2
      replace H := i_inc (q := 29) H I_X7_rest_26 rfl rfl rfl
      replace H := i_goto (q := 14) H I_X7_rest_29 (by decide)
      replace H : zE none d zm_X7_rest 14 [.ref 0, .int (Int32.ofNat n), .int (Int32.ofNat (i + 1))] [] M_23 r h' := by
        rw [zofn_s] at H
        exact H
      obtain ⟨m1, x1, x2, x3, x4⟩ := ih (i + 1) (gRest g) d r h' M_23 (by omega) F_23.1 (gok_r hg) H
      exact ⟨m1, x1, x2, x3, fun a b hab => (x4 a b hab).trans (F_23.2 a b hab)⟩
theorem rs_8 {c n : Nat} (hn : n ≤ 99) : ∀ (j i : Nat) (g : Nat → Int32) (d : Nat) (r : Option Value) (h' : zHp) (m : zM), i + j = n → PG m 0 g → gok g c → m 71 2 = Int32.ofNat c → zE none d zm_X8_rest 16 [.ref 71, .int (Int32.ofNat n), .int (Int32.ofNat i)] [] m r h' → ∃ m1, r = some (.int (zmn (gcn (gRests j g)) c)) ∧ h' = zhp m1 ∧ PG m1 0 (gRests j g) ∧ ∀ a b, ¬ (a = 72 ∧ 0 ≤ b ∧ b < 0 + 27) → m1 a b = m a b := by
  intro j
  induction j with
  | zero =>
    intro i g d r h' m hj hP hg hc H
    replace H := i_iln (q := 17) H I_X8_rest_16 rfl rfl
    replace H := i_iln (q := 18) H I_X8_rest_17 rfl rfl
    have W := i_ic_ge (t := 32) (q := 21) H I_X8_rest_18 (by decide) rfl
    clear H
    rcases W with ⟨c_18, H⟩ | ⟨c_18, H⟩
    · skip
      replace H := i_aln (q := 33) H I_X8_rest_32 rfl rfl
      replace H := i_icst (x := 0) (q := 34) H I_X8_rest_33 (by decide) rfl
      have W := i_cv1 2 (q := 37) H I_X8_rest_34 K_8_144 Zm_130 rfl rfl
      clear H
      obtain ⟨r1, h1, Hc, K1, K2⟩ := W
      obtain ⟨e1, e2⟩ := t_X8_leastOn (pg := 0) hP hg hc Hc
      have H := K1 _ _ e1 e2
      clear e1 e2 Hc K1 K2
      obtain ⟨hr, hh⟩ := i_ir H I_X8_rest_37
      exact ⟨m, hr, hh, hP, fun _ _ _ => rfl⟩
    · skip
      replace H := i_aln (q := 22) H I_X8_rest_21 rfl rfl
      replace H := i_icst (x := 0) (q := 23) H I_X8_rest_22 (by decide) rfl
      have W := i_cv1 1 (q := 26) H I_X8_rest_23 K_8_176 Zm_143 rfl rfl
      clear H
      obtain ⟨r1, h1, Hc, K1, K2⟩ := W
      obtain ⟨M_23, e1, e2, F_23⟩ := t_X8_restsOn (pg := 0) hP Hc
      have H := K2 _ e1 e2
      clear e1 e2 Hc K1 K2
      replace H := i_inc (q := 29) H I_X8_rest_26 rfl rfl rfl
      replace H := i_goto (q := 16) H I_X8_rest_29 (by decide)
      exfalso
      exact absurd ((zofn_lt (by omega) (by omega)).mp c_18) (by omega)
  | succ j ih =>
    intro i g d r h' m hj hP hg hc H
    replace H := i_iln (q := 17) H I_X8_rest_16 rfl rfl
    replace H := i_iln (q := 18) H I_X8_rest_17 rfl rfl
    have W := i_ic_ge (t := 32) (q := 21) H I_X8_rest_18 (by decide) rfl
    clear H
    rcases W with ⟨c_18, H⟩ | ⟨c_18, H⟩
    · skip
      replace H := i_aln (q := 33) H I_X8_rest_32 rfl rfl
      replace H := i_icst (x := 0) (q := 34) H I_X8_rest_33 (by decide) rfl
      have W := i_cv1 2 (q := 37) H I_X8_rest_34 K_8_144 Zm_130 rfl rfl
      clear H
      obtain ⟨r1, h1, Hc, K1, K2⟩ := W
      obtain ⟨e1, e2⟩ := t_X8_leastOn (pg := 0) hP hg hc Hc
      have H := K1 _ _ e1 e2
      clear e1 e2 Hc K1 K2
      obtain ⟨hr, hh⟩ := i_ir H I_X8_rest_37
      exfalso
      exact c_18 ((zofn_lt (by omega) (by omega)).mpr (by omega))
    · skip
      replace H := i_aln (q := 22) H I_X8_rest_21 rfl rfl
      replace H := i_icst (x := 0) (q := 23) H I_X8_rest_22 (by decide) rfl
      have W := i_cv1 1 (q := 26) H I_X8_rest_23 K_8_176 Zm_143 rfl rfl
      clear H
      obtain ⟨r1, h1, Hc, K1, K2⟩ := W
      obtain ⟨M_23, e1, e2, F_23⟩ := t_X8_restsOn (pg := 0) hP Hc
      have H := K2 _ e1 e2
      clear e1 e2 Hc K1 K2
      replace H := i_inc (q := 29) H I_X8_rest_26 rfl rfl rfl
      replace H := i_goto (q := 16) H I_X8_rest_29 (by decide)
      replace H : zE none d zm_X8_rest 16 [.ref 71, .int (Int32.ofNat n), .int (Int32.ofNat (i + 1))] [] M_23 r h' := by
        rw [zofn_s] at H
        exact H
      obtain ⟨m1, x1, x2, x3, x4⟩ := ih (i + 1) (gRest g) d r h' M_23 (by omega) F_23.1 (gok_r hg) (by rw [F_23.2 71 2 (by omega)]; exact hc) H
      exact ⟨m1, x1, x2, x3, fun a b hab => (x4 a b hab).trans (F_23.2 a b hab)⟩
theorem zbt_99 {x : Int32} (h : zBt x 0 99) : ∃ n, n ≤ 99 ∧ x = Int32.ofNat n ∧ x.toNatClampNeg = n := by
  obtain ⟨n, n1, rfl⟩ := zbt_n (n := 99) rfl (by omega) h
  exact ⟨n, n1, rfl, Int32.toNatClampNeg_ofNat_of_lt (by omega)⟩
theorem t_X7_rest {d : Nat} {m : zM} {r : Option Value} {h' : zHp} {x : Int32} {c : Nat} {g : Nat → Int32} (hL : LV m 11 c g) (hg : gok g c) (H : zE none d zm_X7_rest 0 [.ref 0, .int x, .null] [] m r h') : ∃ m1 v, r = some (.int v) ∧ h' = zhp m1 ∧ ((¬ zBt x 0 99 ∧ v = -1 ∧ m1 = m) ∨ (zBt x 0 99 ∧ v = zmn (gcn (gRests x.toNatClampNeg g)) c ∧ LV m1 11 c (gRests x.toNatClampNeg g) ∧ ∀ a b, ¬ (11 ≤ a ∧ a ≤ 11 + 7) → m1 a b = m a b)) := by
  replace H := i_iln (q := 1) H I_X7_rest_0 rfl rfl
  have W := i_if_lt (t := 10) (q := 4) H I_X7_rest_1 (by decide) rfl
  clear H
  rcases W with ⟨c_1, H⟩ | ⟨c_1, H⟩
  · skip
    replace H := i_icst (x := (-1)) (q := 11) H I_X7_rest_10 (by decide) rfl
    obtain ⟨hr, hh⟩ := i_ir H I_X7_rest_11
    exact ⟨_, _, hr, hh, Or.inl ⟨fun w => w.1 c_1, rfl, rfl⟩⟩
  · skip
    replace H := i_iln (q := 5) H I_X7_rest_4 rfl rfl
    replace H := i_bip (x := 99) (q := 7) H I_X7_rest_5 (by decide) rfl
    have W := i_ic_le (t := 12) (q := 10) H I_X7_rest_7 (by decide) rfl
    clear H
    rcases W with ⟨c_7, H⟩ | ⟨c_7, H⟩
    · skip
      replace H := i_icst (x := 0) (q := 13) H I_X7_rest_12 (by decide) rfl
      replace H := i_isn (q := 14) H I_X7_rest_13 rfl rfl
      obtain ⟨n, n1, rfl, n2⟩ := zbt_99 (x := x) ⟨c_1, c_7⟩
      obtain ⟨m1, x1, x2, x3, x4⟩ := rs_7 (c := c) n1 n 0 g d r h' m (by omega) hL hg H
      exact ⟨m1, _, x1, x2, Or.inr ⟨⟨c_1, c_7⟩, by rw [n2], by rw [n2]; exact x3, x4⟩⟩
    · skip
      replace H := i_icst (x := (-1)) (q := 11) H I_X7_rest_10 (by decide) rfl
      obtain ⟨hr, hh⟩ := i_ir H I_X7_rest_11
      exact ⟨_, _, hr, hh, Or.inl ⟨fun w => w.2 c_7, rfl, rfl⟩⟩
theorem t_X8_rest {d : Nat} {m : zM} {r : Option Value} {h' : zHp} {x : Int32} {c : Nat} {g : Nat → Int32} (hP : PG m 0 g) (hg : gok g c) (hc : m 71 2 = Int32.ofNat c) (H : zE none d zm_X8_rest 0 [.ref 71, .int x, .null] [] m r h') : ∃ m1 v, r = some (.int v) ∧ h' = zhp m1 ∧ ((¬ zBt x 0 99 ∧ v = -1 ∧ m1 = m) ∨ (zBt x 0 99 ∧ v = zmn (gcn (gRests x.toNatClampNeg g)) c ∧ PG m1 0 (gRests x.toNatClampNeg g) ∧ ∀ a b, ¬ (a = 72 ∧ 0 ≤ b ∧ b < 0 + 27) → m1 a b = m a b)) := by
  replace H := i_iln (q := 1) H I_X8_rest_0 rfl rfl
  replace H := i_i2l (q := 2) H I_X8_rest_1 rfl
  replace H := i_lcst (x := 0) (q := 3) H I_X8_rest_2 (by decide) rfl
  replace H := i_ldc2 (x := 99) (q := 6) H I_X8_rest_3 J_8_159 (by decide) rfl
  replace H := i_in (q := 9) H I_X8_rest_6 K_8_55 rfl
  have W := i_if_ne (t := 14) (q := 12) H I_X8_rest_9 (by decide) rfl
  clear H
  rcases W with ⟨c_9, H⟩ | ⟨c_9, H⟩
  · skip
    replace H := i_icst (x := 0) (q := 15) H I_X8_rest_14 (by decide) rfl
    replace H := i_isn (q := 16) H I_X8_rest_15 rfl rfl
    rw [zin_bt (lo := 0) (hi := 99) rfl rfl] at c_9
    have hb := zif1 c_9
    obtain ⟨n, n1, rfl, n2⟩ := zbt_99 hb
    obtain ⟨m1, x1, x2, x3, x4⟩ := rs_8 (c := c) n1 n 0 g d r h' m (by omega) hP hg hc H
    exact ⟨m1, _, x1, x2, Or.inr ⟨hb, by rw [n2], by rw [n2]; exact x3, x4⟩⟩
  · skip
    replace H := i_icst (x := (-1)) (q := 13) H I_X8_rest_12 (by decide) rfl
    obtain ⟨hr, hh⟩ := i_ir H I_X8_rest_13
    rw [zin_bt (lo := 0) (hi := 99) rfl rfl] at c_9
    exact ⟨_, _, hr, hh, Or.inl ⟨zif0 c_9, rfl, rfl⟩⟩
end
section
/-! of pages -/
theorem It_X8_read : zm_X8_read.2.2.2.2.2 = zt_X8_read := by
  unfold zm_X8_read
  rfl
theorem I_X8_read_0 : zin zm_X8_read.2.2.2.2.2 0 = some (.iload_n 1, 1) := by rw [It_X8_read]; rfl
theorem I_X8_read_1 : zin zm_X8_read.2.2.2.2.2 1 = some (.i2l, 1) := by rw [It_X8_read]; rfl
theorem I_X8_read_2 : zin zm_X8_read.2.2.2.2.2 2 = some (.lconst 0, 1) := by rw [It_X8_read]; rfl
theorem I_X8_read_3 : zin zm_X8_read.2.2.2.2.2 3 = some (.ldc2_w 155, 3) := by rw [It_X8_read]; rfl
theorem I_X8_read_6 : zin zm_X8_read.2.2.2.2.2 6 = some (.invokestatic 55, 3) := by rw [It_X8_read]; rfl
theorem I_X8_read_9 : zin zm_X8_read.2.2.2.2.2 9 = some (.ifCond .eq 28, 3) := by rw [It_X8_read]; rfl
theorem I_X8_read_12 : zin zm_X8_read.2.2.2.2.2 12 = some (.iload_n 2, 1) := by rw [It_X8_read]; rfl
theorem I_X8_read_13 : zin zm_X8_read.2.2.2.2.2 13 = some (.i2l, 1) := by rw [It_X8_read]; rfl
theorem I_X8_read_14 : zin zm_X8_read.2.2.2.2.2 14 = some (.lconst 0, 1) := by rw [It_X8_read]; rfl
theorem I_X8_read_15 : zin zm_X8_read.2.2.2.2.2 15 = some (.ldc2_w 157, 3) := by rw [It_X8_read]; rfl
theorem I_X8_read_18 : zin zm_X8_read.2.2.2.2.2 18 = some (.invokestatic 55, 3) := by rw [It_X8_read]; rfl
theorem I_X8_read_21 : zin zm_X8_read.2.2.2.2.2 21 = some (.ifCond .eq 16, 3) := by rw [It_X8_read]; rfl
theorem I_X8_read_24 : zin zm_X8_read.2.2.2.2.2 24 = some (.iload 4, 2) := by rw [It_X8_read]; rfl
theorem I_X8_read_26 : zin zm_X8_read.2.2.2.2.2 26 = some (.i2l, 1) := by rw [It_X8_read]; rfl
theorem I_X8_read_27 : zin zm_X8_read.2.2.2.2.2 27 = some (.lconst 0, 1) := by rw [It_X8_read]; rfl
theorem I_X8_read_28 : zin zm_X8_read.2.2.2.2.2 28 = some (.ldc2_w 242, 3) := by rw [It_X8_read]; rfl
theorem I_X8_read_31 : zin zm_X8_read.2.2.2.2.2 31 = some (.invokestatic 55, 3) := by rw [It_X8_read]; rfl
theorem I_X8_read_34 : zin zm_X8_read.2.2.2.2.2 34 = some (.ifCond .ne 5, 3) := by rw [It_X8_read]; rfl
theorem I_X8_read_37 : zin zm_X8_read.2.2.2.2.2 37 = some (.iconst (-1), 1) := by rw [It_X8_read]; rfl
theorem I_X8_read_38 : zin zm_X8_read.2.2.2.2.2 38 = some (.ireturn, 1) := by rw [It_X8_read]; rfl
theorem I_X8_read_39 : zin zm_X8_read.2.2.2.2.2 39 = some (.aload_n 0, 1) := by rw [It_X8_read]; rfl
theorem I_X8_read_40 : zin zm_X8_read.2.2.2.2.2 40 = some (.iconst 0, 1) := by rw [It_X8_read]; rfl
theorem I_X8_read_41 : zin zm_X8_read.2.2.2.2.2 41 = some (.bipush 81, 2) := by rw [It_X8_read]; rfl
theorem I_X8_read_43 : zin zm_X8_read.2.2.2.2.2 43 = some (.invokevirtual 188, 3) := by rw [It_X8_read]; rfl
theorem I_X8_read_46 : zin zm_X8_read.2.2.2.2.2 46 = some (.iconst 0, 1) := by rw [It_X8_read]; rfl
theorem I_X8_read_47 : zin zm_X8_read.2.2.2.2.2 47 = some (.istore 5, 2) := by rw [It_X8_read]; rfl
theorem I_X8_read_49 : zin zm_X8_read.2.2.2.2.2 49 = some (.iconst 0, 1) := by rw [It_X8_read]; rfl
theorem I_X8_read_50 : zin zm_X8_read.2.2.2.2.2 50 = some (.istore 6, 2) := by rw [It_X8_read]; rfl
theorem I_X8_read_52 : zin zm_X8_read.2.2.2.2.2 52 = some (.iconst 0, 1) := by rw [It_X8_read]; rfl
theorem I_X8_read_53 : zin zm_X8_read.2.2.2.2.2 53 = some (.istore 7, 2) := by rw [It_X8_read]; rfl
theorem I_X8_read_55 : zin zm_X8_read.2.2.2.2.2 55 = some (.iload 7, 2) := by rw [It_X8_read]; rfl
theorem I_X8_read_57 : zin zm_X8_read.2.2.2.2.2 57 = some (.iload 4, 2) := by rw [It_X8_read]; rfl
theorem I_X8_read_59 : zin zm_X8_read.2.2.2.2.2 59 = some (.if_icmp .ge 115, 3) := by rw [It_X8_read]; rfl
theorem I_X8_read_62 : zin zm_X8_read.2.2.2.2.2 62 = some (.iload 5, 2) := by rw [It_X8_read]; rfl
theorem I_X8_read_64 : zin zm_X8_read.2.2.2.2.2 64 = some (.ifCond .ne 110, 3) := by rw [It_X8_read]; rfl
theorem I_X8_read_67 : zin zm_X8_read.2.2.2.2.2 67 = some (.aload_n 0, 1) := by rw [It_X8_read]; rfl
theorem I_X8_read_68 : zin zm_X8_read.2.2.2.2.2 68 = some (.getfield 44, 3) := by rw [It_X8_read]; rfl
theorem I_X8_read_71 : zin zm_X8_read.2.2.2.2.2 71 = some (.iload_n 1, 1) := by rw [It_X8_read]; rfl
theorem I_X8_read_72 : zin zm_X8_read.2.2.2.2.2 72 = some (.iaload, 1) := by rw [It_X8_read]; rfl
theorem I_X8_read_73 : zin zm_X8_read.2.2.2.2.2 73 = some (.bipush (-4), 2) := by rw [It_X8_read]; rfl
theorem I_X8_read_75 : zin zm_X8_read.2.2.2.2.2 75 = some (.if_icmp .ne 7, 3) := by rw [It_X8_read]; rfl
theorem I_X8_read_78 : zin zm_X8_read.2.2.2.2.2 78 = some (.iconst 1, 1) := by rw [It_X8_read]; rfl
theorem I_X8_read_79 : zin zm_X8_read.2.2.2.2.2 79 = some (.goto 44, 3) := by rw [It_X8_read]; rfl
theorem I_X8_read_82 : zin zm_X8_read.2.2.2.2.2 82 = some (.aload_n 0, 1) := by rw [It_X8_read]; rfl
theorem I_X8_read_83 : zin zm_X8_read.2.2.2.2.2 83 = some (.getfield 44, 3) := by rw [It_X8_read]; rfl
theorem I_X8_read_86 : zin zm_X8_read.2.2.2.2.2 86 = some (.iload_n 1, 1) := by rw [It_X8_read]; rfl
theorem I_X8_read_87 : zin zm_X8_read.2.2.2.2.2 87 = some (.iaload, 1) := by rw [It_X8_read]; rfl
theorem I_X8_read_88 : zin zm_X8_read.2.2.2.2.2 88 = some (.iload_n 2, 1) := by rw [It_X8_read]; rfl
theorem I_X8_read_89 : zin zm_X8_read.2.2.2.2.2 89 = some (.if_icmp .eq 7, 3) := by rw [It_X8_read]; rfl
theorem I_X8_read_92 : zin zm_X8_read.2.2.2.2.2 92 = some (.iconst 3, 1) := by rw [It_X8_read]; rfl
theorem I_X8_read_93 : zin zm_X8_read.2.2.2.2.2 93 = some (.goto 30, 3) := by rw [It_X8_read]; rfl
theorem I_X8_read_96 : zin zm_X8_read.2.2.2.2.2 96 = some (.iload_n 3, 1) := by rw [It_X8_read]; rfl
theorem I_X8_read_97 : zin zm_X8_read.2.2.2.2.2 97 = some (.i2l, 1) := by rw [It_X8_read]; rfl
theorem I_X8_read_98 : zin zm_X8_read.2.2.2.2.2 98 = some (.iload 7, 2) := by rw [It_X8_read]; rfl
theorem I_X8_read_100 : zin zm_X8_read.2.2.2.2.2 100 = some (.i2l, 1) := by rw [It_X8_read]; rfl
theorem I_X8_read_101 : zin zm_X8_read.2.2.2.2.2 101 = some (.ladd, 1) := by rw [It_X8_read]; rfl
theorem I_X8_read_102 : zin zm_X8_read.2.2.2.2.2 102 = some (.lconst 0, 1) := by rw [It_X8_read]; rfl
theorem I_X8_read_103 : zin zm_X8_read.2.2.2.2.2 103 = some (.aload_n 0, 1) := by rw [It_X8_read]; rfl
theorem I_X8_read_104 : zin zm_X8_read.2.2.2.2.2 104 = some (.getfield 47, 3) := by rw [It_X8_read]; rfl
theorem I_X8_read_107 : zin zm_X8_read.2.2.2.2.2 107 = some (.iload_n 1, 1) := by rw [It_X8_read]; rfl
theorem I_X8_read_108 : zin zm_X8_read.2.2.2.2.2 108 = some (.iaload, 1) := by rw [It_X8_read]; rfl
theorem I_X8_read_109 : zin zm_X8_read.2.2.2.2.2 109 = some (.iconst 1, 1) := by rw [It_X8_read]; rfl
theorem I_X8_read_110 : zin zm_X8_read.2.2.2.2.2 110 = some (.isub, 1) := by rw [It_X8_read]; rfl
theorem I_X8_read_111 : zin zm_X8_read.2.2.2.2.2 111 = some (.i2l, 1) := by rw [It_X8_read]; rfl
theorem I_X8_read_112 : zin zm_X8_read.2.2.2.2.2 112 = some (.invokestatic 55, 3) := by rw [It_X8_read]; rfl
theorem I_X8_read_115 : zin zm_X8_read.2.2.2.2.2 115 = some (.ifCond .ne 7, 3) := by rw [It_X8_read]; rfl
theorem I_X8_read_118 : zin zm_X8_read.2.2.2.2.2 118 = some (.iconst 2, 1) := by rw [It_X8_read]; rfl
theorem I_X8_read_119 : zin zm_X8_read.2.2.2.2.2 119 = some (.goto 4, 3) := by rw [It_X8_read]; rfl
theorem I_X8_read_122 : zin zm_X8_read.2.2.2.2.2 122 = some (.iconst 0, 1) := by rw [It_X8_read]; rfl
theorem I_X8_read_123 : zin zm_X8_read.2.2.2.2.2 123 = some (.istore 5, 2) := by rw [It_X8_read]; rfl
theorem I_X8_read_125 : zin zm_X8_read.2.2.2.2.2 125 = some (.iload 5, 2) := by rw [It_X8_read]; rfl
theorem I_X8_read_127 : zin zm_X8_read.2.2.2.2.2 127 = some (.ifCond .ne 41, 3) := by rw [It_X8_read]; rfl
theorem I_X8_read_130 : zin zm_X8_read.2.2.2.2.2 130 = some (.aload_n 0, 1) := by rw [It_X8_read]; rfl
theorem I_X8_read_131 : zin zm_X8_read.2.2.2.2.2 131 = some (.aload_n 0, 1) := by rw [It_X8_read]; rfl
theorem I_X8_read_132 : zin zm_X8_read.2.2.2.2.2 132 = some (.getfield 50, 3) := by rw [It_X8_read]; rfl
theorem I_X8_read_135 : zin zm_X8_read.2.2.2.2.2 135 = some (.bipush 40, 2) := by rw [It_X8_read]; rfl
theorem I_X8_read_137 : zin zm_X8_read.2.2.2.2.2 137 = some (.iload_n 1, 1) := by rw [It_X8_read]; rfl
theorem I_X8_read_138 : zin zm_X8_read.2.2.2.2.2 138 = some (.imul, 1) := by rw [It_X8_read]; rfl
theorem I_X8_read_139 : zin zm_X8_read.2.2.2.2.2 139 = some (.iload_n 3, 1) := by rw [It_X8_read]; rfl
theorem I_X8_read_140 : zin zm_X8_read.2.2.2.2.2 140 = some (.iadd, 1) := by rw [It_X8_read]; rfl
theorem I_X8_read_141 : zin zm_X8_read.2.2.2.2.2 141 = some (.iload 7, 2) := by rw [It_X8_read]; rfl
theorem I_X8_read_143 : zin zm_X8_read.2.2.2.2.2 143 = some (.iadd, 1) := by rw [It_X8_read]; rfl
theorem I_X8_read_144 : zin zm_X8_read.2.2.2.2.2 144 = some (.iaload, 1) := by rw [It_X8_read]; rfl
theorem I_X8_read_145 : zin zm_X8_read.2.2.2.2.2 145 = some (.invokevirtual 173, 3) := by rw [It_X8_read]; rfl
theorem I_X8_read_148 : zin zm_X8_read.2.2.2.2.2 148 = some (.iconst (-1), 1) := by rw [It_X8_read]; rfl
theorem I_X8_read_149 : zin zm_X8_read.2.2.2.2.2 149 = some (.if_icmp .ne 16, 3) := by rw [It_X8_read]; rfl
theorem I_X8_read_152 : zin zm_X8_read.2.2.2.2.2 152 = some (.aload_n 0, 1) := by rw [It_X8_read]; rfl
theorem I_X8_read_153 : zin zm_X8_read.2.2.2.2.2 153 = some (.bipush 81, 2) := by rw [It_X8_read]; rfl
theorem I_X8_read_155 : zin zm_X8_read.2.2.2.2.2 155 = some (.iconst 0, 1) := by rw [It_X8_read]; rfl
theorem I_X8_read_156 : zin zm_X8_read.2.2.2.2.2 156 = some (.invokevirtual 188, 3) := by rw [It_X8_read]; rfl
theorem I_X8_read_159 : zin zm_X8_read.2.2.2.2.2 159 = some (.bipush (-20), 2) := by rw [It_X8_read]; rfl
theorem I_X8_read_161 : zin zm_X8_read.2.2.2.2.2 161 = some (.iload 6, 2) := by rw [It_X8_read]; rfl
theorem I_X8_read_163 : zin zm_X8_read.2.2.2.2.2 163 = some (.isub, 1) := by rw [It_X8_read]; rfl
theorem I_X8_read_164 : zin zm_X8_read.2.2.2.2.2 164 = some (.ireturn, 1) := by rw [It_X8_read]; rfl
theorem I_X8_read_165 : zin zm_X8_read.2.2.2.2.2 165 = some (.iinc 6 1, 3) := by rw [It_X8_read]; rfl
theorem I_X8_read_168 : zin zm_X8_read.2.2.2.2.2 168 = some (.iinc 7 1, 3) := by rw [It_X8_read]; rfl
theorem I_X8_read_171 : zin zm_X8_read.2.2.2.2.2 171 = some (.goto (-116), 3) := by rw [It_X8_read]; rfl
theorem I_X8_read_174 : zin zm_X8_read.2.2.2.2.2 174 = some (.aload_n 0, 1) := by rw [It_X8_read]; rfl
theorem I_X8_read_175 : zin zm_X8_read.2.2.2.2.2 175 = some (.iload 5, 2) := by rw [It_X8_read]; rfl
theorem I_X8_read_177 : zin zm_X8_read.2.2.2.2.2 177 = some (.putfield 244, 3) := by rw [It_X8_read]; rfl
theorem I_X8_read_180 : zin zm_X8_read.2.2.2.2.2 180 = some (.iload 6, 2) := by rw [It_X8_read]; rfl
theorem I_X8_read_182 : zin zm_X8_read.2.2.2.2.2 182 = some (.ireturn, 1) := by rw [It_X8_read]; rfl
theorem G_8_44 : zlk zfls 8 44 = some (8, 27, 868) := rfl
theorem G_8_47 : zlk zfls 8 47 = some (8, 28, 869) := rfl
theorem G_8_50 : zlk zfls 8 50 = some (8, 29, 870) := rfl
theorem G_8_244 : zlk zfls 8 244 = some (8, 30, 871) := rfl
theorem LY_83 : zLY[83]? = some (Sum.inl 0, List.replicate 4 none) := rfl
theorem LY_84 : zLY[84]? = some (Sum.inl 0, List.replicate 4 none) := rfl
theorem LY_85 : zLY[85]? = some (Sum.inl 0, List.replicate 160 none) := rfl
theorem J_8_155 : zlk zcJs 8 155 = some (3, 1028) := rfl
theorem J_8_157 : zlk zcJs 8 157 = some (2, 1029) := rfl
theorem J_8_242 : zlk zcJs 8 242 = some (20, 1211) := rfl
theorem cl_X8_read : zm_X8_read.2.2.2.2.1 = 8 := by
  unfold zm_X8_read
  rfl
theorem cn_X8_read : zm_X8_read.2.2.2.2.1 ≠ 12 := by
  rw [cl_X8_read]
  decide
theorem cn2_X8_read : zm_X8_read.2.2.2.2.1 ≠ 2 := by
  rw [cl_X8_read]
  decide
theorem PG_0 {m : zM} {g : Nat → Int32} (h : PG m 0 g) {q : Nat} (hq : q < 27) : m 72 q = g q := by
  have h1 := h.2 q hq
  rw [Nat.zero_add] at h1
  exact h1
theorem zbt_20 {x : Int32} (h : zBt x 0 20) : ∃ n, n ≤ 20 ∧ x = Int32.ofNat n := zbt_n (n := 20) rfl (by omega) h
end
