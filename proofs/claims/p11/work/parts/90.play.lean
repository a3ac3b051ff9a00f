/-! the plan carried out -/
theorem It_J7_fill_53178 : zm_J7_fill_53178.2.2.2.2.2 = zt_J7_fill_53178 := by
  unfold zm_J7_fill_53178
  rfl
theorem It_X3_note : zm_X3_note.2.2.2.2.2 = zt_X3_note := by
  unfold zm_X3_note
  rfl
theorem It_X3_play : zm_X3_play.2.2.2.2.2 = zt_X3_play := by
  unfold zm_X3_play
  rfl
theorem I_J7_fill_53178_0 : zin zm_J7_fill_53178.2.2.2.2.2 0 = some (.iconst 0, 1) := by rw [It_J7_fill_53178]; rfl
theorem I_J7_fill_53178_1 : zin zm_J7_fill_53178.2.2.2.2.2 1 = some (.istore_n 2, 1) := by rw [It_J7_fill_53178]; rfl
theorem I_J7_fill_53178_2 : zin zm_J7_fill_53178.2.2.2.2.2 2 = some (.aload_n 0, 1) := by rw [It_J7_fill_53178]; rfl
theorem I_J7_fill_53178_3 : zin zm_J7_fill_53178.2.2.2.2.2 3 = some (.arraylength, 1) := by rw [It_J7_fill_53178]; rfl
theorem I_J7_fill_53178_4 : zin zm_J7_fill_53178.2.2.2.2.2 4 = some (.istore_n 3, 1) := by rw [It_J7_fill_53178]; rfl
theorem I_J7_fill_53178_5 : zin zm_J7_fill_53178.2.2.2.2.2 5 = some (.iload_n 2, 1) := by rw [It_J7_fill_53178]; rfl
theorem I_J7_fill_53178_6 : zin zm_J7_fill_53178.2.2.2.2.2 6 = some (.iload_n 3, 1) := by rw [It_J7_fill_53178]; rfl
theorem I_J7_fill_53178_7 : zin zm_J7_fill_53178.2.2.2.2.2 7 = some (.if_icmp .ge 13, 3) := by rw [It_J7_fill_53178]; rfl
theorem I_J7_fill_53178_10 : zin zm_J7_fill_53178.2.2.2.2.2 10 = some (.aload_n 0, 1) := by rw [It_J7_fill_53178]; rfl
theorem I_J7_fill_53178_11 : zin zm_J7_fill_53178.2.2.2.2.2 11 = some (.iload_n 2, 1) := by rw [It_J7_fill_53178]; rfl
theorem I_J7_fill_53178_12 : zin zm_J7_fill_53178.2.2.2.2.2 12 = some (.iload_n 1, 1) := by rw [It_J7_fill_53178]; rfl
theorem I_J7_fill_53178_13 : zin zm_J7_fill_53178.2.2.2.2.2 13 = some (.iastore, 1) := by rw [It_J7_fill_53178]; rfl
theorem I_J7_fill_53178_14 : zin zm_J7_fill_53178.2.2.2.2.2 14 = some (.iinc 2 1, 3) := by rw [It_J7_fill_53178]; rfl
theorem I_J7_fill_53178_17 : zin zm_J7_fill_53178.2.2.2.2.2 17 = some (.goto (-12), 3) := by rw [It_J7_fill_53178]; rfl
theorem I_J7_fill_53178_20 : zin zm_J7_fill_53178.2.2.2.2.2 20 = some (.return_, 1) := by rw [It_J7_fill_53178]; rfl
theorem I_X3_note_0 : zin zm_X3_note.2.2.2.2.2 0 = some (.aload_n 0, 1) := by rw [It_X3_note]; rfl
theorem I_X3_note_1 : zin zm_X3_note.2.2.2.2.2 1 = some (.getfield 18, 3) := by rw [It_X3_note]; rfl
theorem I_X3_note_4 : zin zm_X3_note.2.2.2.2.2 4 = some (.iload_n 1, 1) := by rw [It_X3_note]; rfl
theorem I_X3_note_5 : zin zm_X3_note.2.2.2.2.2 5 = some (.iaload, 1) := by rw [It_X3_note]; rfl
theorem I_X3_note_6 : zin zm_X3_note.2.2.2.2.2 6 = some (.bipush (-4), 2) := by rw [It_X3_note]; rfl
theorem I_X3_note_8 : zin zm_X3_note.2.2.2.2.2 8 = some (.if_icmp .eq 33, 3) := by rw [It_X3_note]; rfl
theorem I_X3_note_11 : zin zm_X3_note.2.2.2.2.2 11 = some (.aload_n 0, 1) := by rw [It_X3_note]; rfl
theorem I_X3_note_12 : zin zm_X3_note.2.2.2.2.2 12 = some (.dup, 1) := by rw [It_X3_note]; rfl
theorem I_X3_note_13 : zin zm_X3_note.2.2.2.2.2 13 = some (.getfield 22, 3) := by rw [It_X3_note]; rfl
theorem I_X3_note_16 : zin zm_X3_note.2.2.2.2.2 16 = some (.iconst 1, 1) := by rw [It_X3_note]; rfl
theorem I_X3_note_17 : zin zm_X3_note.2.2.2.2.2 17 = some (.iadd, 1) := by rw [It_X3_note]; rfl
theorem I_X3_note_18 : zin zm_X3_note.2.2.2.2.2 18 = some (.putfield 22, 3) := by rw [It_X3_note]; rfl
theorem I_X3_note_21 : zin zm_X3_note.2.2.2.2.2 21 = some (.aload_n 0, 1) := by rw [It_X3_note]; rfl
theorem I_X3_note_22 : zin zm_X3_note.2.2.2.2.2 22 = some (.dup, 1) := by rw [It_X3_note]; rfl
theorem I_X3_note_23 : zin zm_X3_note.2.2.2.2.2 23 = some (.getfield 26, 3) := by rw [It_X3_note]; rfl
theorem I_X3_note_26 : zin zm_X3_note.2.2.2.2.2 26 = some (.iconst 1, 1) := by rw [It_X3_note]; rfl
theorem I_X3_note_27 : zin zm_X3_note.2.2.2.2.2 27 = some (.aload_n 0, 1) := by rw [It_X3_note]; rfl
theorem I_X3_note_28 : zin zm_X3_note.2.2.2.2.2 28 = some (.getfield 18, 3) := by rw [It_X3_note]; rfl
theorem I_X3_note_31 : zin zm_X3_note.2.2.2.2.2 31 = some (.iload_n 1, 1) := by rw [It_X3_note]; rfl
theorem I_X3_note_32 : zin zm_X3_note.2.2.2.2.2 32 = some (.iaload, 1) := by rw [It_X3_note]; rfl
theorem I_X3_note_33 : zin zm_X3_note.2.2.2.2.2 33 = some (.ishl, 1) := by rw [It_X3_note]; rfl
theorem I_X3_note_34 : zin zm_X3_note.2.2.2.2.2 34 = some (.ior, 1) := by rw [It_X3_note]; rfl
theorem I_X3_note_35 : zin zm_X3_note.2.2.2.2.2 35 = some (.putfield 26, 3) := by rw [It_X3_note]; rfl
theorem I_X3_note_38 : zin zm_X3_note.2.2.2.2.2 38 = some (.goto 17, 3) := by rw [It_X3_note]; rfl
theorem I_X3_note_41 : zin zm_X3_note.2.2.2.2.2 41 = some (.aload_n 0, 1) := by rw [It_X3_note]; rfl
theorem I_X3_note_42 : zin zm_X3_note.2.2.2.2.2 42 = some (.getfield 29, 3) := by rw [It_X3_note]; rfl
theorem I_X3_note_45 : zin zm_X3_note.2.2.2.2.2 45 = some (.bipush (-4), 2) := by rw [It_X3_note]; rfl
theorem I_X3_note_47 : zin zm_X3_note.2.2.2.2.2 47 = some (.if_icmp .ne 8, 3) := by rw [It_X3_note]; rfl
theorem I_X3_note_50 : zin zm_X3_note.2.2.2.2.2 50 = some (.aload_n 0, 1) := by rw [It_X3_note]; rfl
theorem I_X3_note_51 : zin zm_X3_note.2.2.2.2.2 51 = some (.iload_n 1, 1) := by rw [It_X3_note]; rfl
theorem I_X3_note_52 : zin zm_X3_note.2.2.2.2.2 52 = some (.putfield 29, 3) := by rw [It_X3_note]; rfl
theorem I_X3_note_55 : zin zm_X3_note.2.2.2.2.2 55 = some (.return_, 1) := by rw [It_X3_note]; rfl
theorem I_X3_play_27 : zin zm_X3_play.2.2.2.2.2 27 = some (.iload_n 2, 1) := by rw [It_X3_play]; rfl
theorem I_X3_play_28 : zin zm_X3_play.2.2.2.2.2 28 = some (.aload_n 0, 1) := by rw [It_X3_play]; rfl
theorem I_X3_play_29 : zin zm_X3_play.2.2.2.2.2 29 = some (.getfield 12, 3) := by rw [It_X3_play]; rfl
theorem I_X3_play_32 : zin zm_X3_play.2.2.2.2.2 32 = some (.getfield 38, 3) := by rw [It_X3_play]; rfl
theorem I_X3_play_35 : zin zm_X3_play.2.2.2.2.2 35 = some (.if_icmp .ge 60, 3) := by rw [It_X3_play]; rfl
theorem I_X3_play_38 : zin zm_X3_play.2.2.2.2.2 38 = some (.aload_n 0, 1) := by rw [It_X3_play]; rfl
theorem I_X3_play_39 : zin zm_X3_play.2.2.2.2.2 39 = some (.getfield 12, 3) := by rw [It_X3_play]; rfl
theorem I_X3_play_42 : zin zm_X3_play.2.2.2.2.2 42 = some (.getfield 41, 3) := by rw [It_X3_play]; rfl
theorem I_X3_play_45 : zin zm_X3_play.2.2.2.2.2 45 = some (.iload_n 2, 1) := by rw [It_X3_play]; rfl
theorem I_X3_play_46 : zin zm_X3_play.2.2.2.2.2 46 = some (.iaload, 1) := by rw [It_X3_play]; rfl
theorem I_X3_play_47 : zin zm_X3_play.2.2.2.2.2 47 = some (.istore_n 3, 1) := by rw [It_X3_play]; rfl
theorem I_X3_play_48 : zin zm_X3_play.2.2.2.2.2 48 = some (.iload_n 3, 1) := by rw [It_X3_play]; rfl
theorem I_X3_play_49 : zin zm_X3_play.2.2.2.2.2 49 = some (.ifCond .ne 13, 3) := by rw [It_X3_play]; rfl
theorem I_X3_play_52 : zin zm_X3_play.2.2.2.2.2 52 = some (.aload_n 0, 1) := by rw [It_X3_play]; rfl
theorem I_X3_play_53 : zin zm_X3_play.2.2.2.2.2 53 = some (.getfield 12, 3) := by rw [It_X3_play]; rfl
theorem I_X3_play_56 : zin zm_X3_play.2.2.2.2.2 56 = some (.invokevirtual 44, 3) := by rw [It_X3_play]; rfl
theorem I_X3_play_59 : zin zm_X3_play.2.2.2.2.2 59 = some (.goto 30, 3) := by rw [It_X3_play]; rfl
theorem I_X3_play_62 : zin zm_X3_play.2.2.2.2.2 62 = some (.iload_n 3, 1) := by rw [It_X3_play]; rfl
theorem I_X3_play_63 : zin zm_X3_play.2.2.2.2.2 63 = some (.iload_n 1, 1) := by rw [It_X3_play]; rfl
theorem I_X3_play_64 : zin zm_X3_play.2.2.2.2.2 64 = some (.iand, 1) := by rw [It_X3_play]; rfl
theorem I_X3_play_65 : zin zm_X3_play.2.2.2.2.2 65 = some (.ifCond .eq 24, 3) := by rw [It_X3_play]; rfl
theorem I_X3_play_68 : zin zm_X3_play.2.2.2.2.2 68 = some (.aload_n 0, 1) := by rw [It_X3_play]; rfl
theorem I_X3_play_69 : zin zm_X3_play.2.2.2.2.2 69 = some (.getfield 18, 3) := by rw [It_X3_play]; rfl
theorem I_X3_play_72 : zin zm_X3_play.2.2.2.2.2 72 = some (.iload_n 2, 1) := by rw [It_X3_play]; rfl
theorem I_X3_play_73 : zin zm_X3_play.2.2.2.2.2 73 = some (.aload_n 0, 1) := by rw [It_X3_play]; rfl
theorem I_X3_play_74 : zin zm_X3_play.2.2.2.2.2 74 = some (.getfield 12, 3) := by rw [It_X3_play]; rfl
theorem I_X3_play_77 : zin zm_X3_play.2.2.2.2.2 77 = some (.iload_n 3, 1) := by rw [It_X3_play]; rfl
theorem I_X3_play_78 : zin zm_X3_play.2.2.2.2.2 78 = some (.iload_n 1, 1) := by rw [It_X3_play]; rfl
theorem I_X3_play_79 : zin zm_X3_play.2.2.2.2.2 79 = some (.iand, 1) := by rw [It_X3_play]; rfl
theorem I_X3_play_80 : zin zm_X3_play.2.2.2.2.2 80 = some (.invokevirtual 47, 3) := by rw [It_X3_play]; rfl
theorem I_X3_play_83 : zin zm_X3_play.2.2.2.2.2 83 = some (.iastore, 1) := by rw [It_X3_play]; rfl
theorem I_X3_play_84 : zin zm_X3_play.2.2.2.2.2 84 = some (.aload_n 0, 1) := by rw [It_X3_play]; rfl
theorem I_X3_play_85 : zin zm_X3_play.2.2.2.2.2 85 = some (.iload_n 2, 1) := by rw [It_X3_play]; rfl
theorem I_X3_play_86 : zin zm_X3_play.2.2.2.2.2 86 = some (.invokevirtual 51, 3) := by rw [It_X3_play]; rfl
theorem I_X3_play_89 : zin zm_X3_play.2.2.2.2.2 89 = some (.iinc 2 1, 3) := by rw [It_X3_play]; rfl
theorem I_X3_play_92 : zin zm_X3_play.2.2.2.2.2 92 = some (.goto (-65), 3) := by rw [It_X3_play]; rfl
theorem I_X3_play_95 : zin zm_X3_play.2.2.2.2.2 95 = some (.aload_n 0, 1) := by rw [It_X3_play]; rfl
theorem I_X3_play_96 : zin zm_X3_play.2.2.2.2.2 96 = some (.getfield 22, 3) := by rw [It_X3_play]; rfl
theorem I_X3_play_99 : zin zm_X3_play.2.2.2.2.2 99 = some (.ireturn, 1) := by rw [It_X3_play]; rfl
theorem G_3_12 : zlk zfls 3 12 = some (3, 0, 207) := rfl
theorem G_3_18 : zlk zfls 3 18 = some (3, 1, 209) := rfl
theorem G_3_22 : zlk zfls 3 22 = some (3, 2, 211) := rfl
theorem G_3_26 : zlk zfls 3 26 = some (3, 3, 213) := rfl
theorem G_3_29 : zlk zfls 3 29 = some (3, 4, 215) := rfl
theorem G_3_38 : zlk zfls 3 38 = some (0, 3, 130) := rfl
theorem G_3_41 : zlk zfls 3 41 = some (0, 1, 122) := rfl
theorem K_3_44 : zlk zmls 3 44 = some (0, 17, 0, 605) := rfl
theorem K_3_47 : zlk zmls 3 47 = some (0, 16, 1, 606) := rfl
theorem K_3_51 : zlk zmls 3 51 = some (0, 45, 1, 607) := rfl
theorem Zm_16 : zms[16]? = some zm_X0_attempt := rfl
theorem Zm_17 : zms[17]? = some zm_X0_calm := rfl
theorem Zm_45 : zms[45]? = some zm_X3_note := rfl
theorem LY_19 : zLY[19]? = some (Sum.inr 3, [some (.ref 20), some (.ref 28), none, none, none]) := rfl
theorem LY_20 : zLY[20]? = some (Sum.inr 0, [some (.ref 21), some (.ref 22), none, none, none, none]) := rfl
theorem LY_22 : zLY[22]? = some (Sum.inl 0, List.replicate 8 none) := rfl
theorem LY_28 : zLY[28]? = some (Sum.inl 0, List.replicate 8 none) := rfl
theorem cl_X3_note : zm_X3_note.2.2.2.2.1 = 3 := by
  unfold zm_X3_note
  rfl
theorem cn_X3_note : zm_X3_note.2.2.2.2.1 ≠ 12 := by
  rw [cl_X3_note]
  decide
theorem cn2_X3_note : zm_X3_note.2.2.2.2.1 ≠ 2 := by
  rw [cl_X3_note]
  decide
theorem cl_X3_play : zm_X3_play.2.2.2.2.1 = 3 := by
  unfold zm_X3_play
  rfl
theorem cn_X3_play : zm_X3_play.2.2.2.2.1 ≠ 12 := by
  rw [cl_X3_play]
  decide
theorem cn2_X3_play : zm_X3_play.2.2.2.2.1 ≠ 2 := by
  rw [cl_X3_play]
  decide
theorem fl_loop {a n : Nat} {t : Nat ⊕ Nat} {v : Int32} (ha : zLY[a]? = some (t, List.replicate n none)) (hn : n ≤ 1000) : ∀ (j i d : Nat) (r : Option Value) (h' : zHp) (m : zM), i + j = n → zE none d zm_J7_fill_53178 5 [.ref a, .int v, .int (Int32.ofNat i), .int (Int32.ofNat n)] [] m r h' → ∃ m1, r = none ∧ h' = zhp m1 ∧ (∀ i', i ≤ i' → i' < n → m1 a i' = v) ∧ ∀ x y, ¬ (x = a ∧ i ≤ y ∧ y < n) → m1 x y = m x y := by
  intro j
  induction j with
  | zero =>
    intro i d r h' m hj H
    replace H := i_iln (q := 6) H I_J7_fill_53178_5 rfl rfl
    replace H := i_iln (q := 7) H I_J7_fill_53178_6 rfl rfl
    have W := i_ic_ge (t := 20) (q := 10) H I_J7_fill_53178_7 (by decide) rfl
    clear H
    rcases W with ⟨c_7, H⟩ | ⟨c_7, H⟩
    · skip
      obtain ⟨hr, hh⟩ := i_rt H I_J7_fill_53178_20
      exact ⟨m, hr, hh, fun i' h1 h2 => by omega, fun x y _ => rfl⟩
    · skip
      replace H := i_aln (q := 11) H I_J7_fill_53178_10 rfl rfl
      replace H := i_iln (q := 12) H I_J7_fill_53178_11 rfl rfl
      replace H := i_iln (q := 13) H I_J7_fill_53178_12 rfl rfl
      have W := i_iast (q := 14) H I_J7_fill_53178_13 ha rfl
      clear H
      obtain ⟨i_13, bi_13, ei_13, H⟩ := W
      replace H := i_inc (q := 17) H I_J7_fill_53178_14 rfl rfl rfl
      replace H := i_goto (q := 5) H I_J7_fill_53178_17 (by decide)
      exfalso
      exact absurd ((zofn_lt (by omega) (by omega)).mp c_7) (by omega)
  | succ j ih =>
    intro i d r h' m hj H
    replace H := i_iln (q := 6) H I_J7_fill_53178_5 rfl rfl
    replace H := i_iln (q := 7) H I_J7_fill_53178_6 rfl rfl
    have W := i_ic_ge (t := 20) (q := 10) H I_J7_fill_53178_7 (by decide) rfl
    clear H
    rcases W with ⟨c_7, H⟩ | ⟨c_7, H⟩
    · skip
      obtain ⟨hr, hh⟩ := i_rt H I_J7_fill_53178_20
      exfalso
      exact c_7 ((zofn_lt (by omega) (by omega)).mpr (by omega))
    · skip
      replace H := i_aln (q := 11) H I_J7_fill_53178_10 rfl rfl
      replace H := i_iln (q := 12) H I_J7_fill_53178_11 rfl rfl
      replace H := i_iln (q := 13) H I_J7_fill_53178_12 rfl rfl
      have W := i_iast (q := 14) H I_J7_fill_53178_13 ha rfl
      clear H
      obtain ⟨i_13, bi_13, ei_13, H⟩ := W
      replace H := i_inc (q := 17) H I_J7_fill_53178_14 rfl rfl rfl
      replace H := i_goto (q := 5) H I_J7_fill_53178_17 (by decide)
      have e : i = i_13 := zofn ei_13 (by omega) (by omega)
      subst e
      replace H : zE none d zm_J7_fill_53178 5 [.ref a, .int v, .int (Int32.ofNat (i + 1)), .int (Int32.ofNat n)] [] (zup m a i v) r h' := by
        rw [zofn_s] at H
        exact H
      obtain ⟨m1, g1, g2, g3, g4⟩ := ih (i + 1) d r h' _ (by omega) H
      refine ⟨m1, g1, g2, fun i' h1 h2 => ?_, fun x y hab => ?_⟩
      · by_cases hi' : i' = i
        · subst hi'
          rw [g4 _ _ (by omega), zup_s]
        · exact g3 i' (by omega) h2
      · rw [g4 x y (by omega), zup_n (by omega)]
theorem t_fill {d : Nat} {m : zM} {r : Option Value} {h' : zHp} {a n : Nat} {t : Nat ⊕ Nat} {v : Int32} (ha : zLY[a]? = some (t, List.replicate n none)) (hn : n ≤ 1000) (H : zE none d zm_J7_fill_53178 0 [.ref a, .int v, .null, .null] [] m r h') : ∃ m1, r = none ∧ h' = zhp m1 ∧ (∀ i, i < n → m1 a i = v) ∧ ∀ x y, ¬ (x = a ∧ y < n) → m1 x y = m x y := by
  replace H := i_icst (x := 0) (q := 1) H I_J7_fill_53178_0 (by decide) rfl
  replace H := i_isn (q := 2) H I_J7_fill_53178_1 rfl rfl
  replace H := i_aln (q := 3) H I_J7_fill_53178_2 rfl rfl
  replace H := i_len (q := 4) H I_J7_fill_53178_3 ha rfl
  replace H := i_isn (q := 5) H I_J7_fill_53178_4 rfl rfl
  replace H : zE none d zm_J7_fill_53178 5 [.ref a, .int v, .int (Int32.ofNat 0), .int (Int32.ofNat n)] [] m r h' := by
    rw [List.length_replicate] at H
    exact H
  obtain ⟨m1, g1, g2, g3, g4⟩ := fl_loop ha hn n 0 d r h' m (by omega) H
  exact ⟨m1, g1, g2, fun i hi => g3 i (by omega) hi, fun x y hxy => g4 x y (by omega)⟩
/-- the plan carried out so far: the page, how many, who, who first not, by each act -/
abbrev zPy : Type := (Nat → Int32) × Int32 × Int32 × Int32 × (Nat → Int32)
def pAct (c : Nat) (mk : Int32) (i : Nat) (P : zPy) : zPy := if P.1 (18 + i) = 0 then (gRest P.1, P.2) else if P.1 (18 + i) &&& mk = 0 then P else (gTry2 P.1 c (P.1 (18 + i) &&& mk), (if gTry1 P.1 c (P.1 (18 + i) &&& mk) = -4 then P.2.1 else P.2.1 + 1), (if gTry1 P.1 c (P.1 (18 + i) &&& mk) = -4 then P.2.2.1 else P.2.2.1 ||| (1 <<< (gTry1 P.1 c (P.1 (18 + i) &&& mk) &&& 31))), (if gTry1 P.1 c (P.1 (18 + i) &&& mk) = -4 ∧ P.2.2.2.1 = -4 then Int32.ofNat i else P.2.2.2.1), gset P.2.2.2.2 i (gTry1 P.1 c (P.1 (18 + i) &&& mk)))
def pPlays (c : Nat) (mk : Int32) : Nat → Nat → zPy → zPy
  | 0, _, P => P
  | j + 1, i, P => pPlays c mk j (i + 1) (pAct c mk i P)
theorem gTry2_k {g : Nat → Int32} {c : Nat} {s : Int32} (hc : c ≤ 5) {j : Nat} (h : 15 ≤ j) (h2 : ¬ j = 17) : gTry2 g c s j = g j := by
  unfold gTry2
  split
  · rw [gset_n h2]
  · rename_i hno
    rcases zwb_r (gcn g) s c hc with e | ⟨w, w1, w2⟩
    · exact absurd (Or.inl e) hno
    · rw [w2, Int32.toNatClampNeg_ofNat_of_lt (by omega)]
      have := gat_le (g := g) (i := w) (by omega)
      rw [gset_n (by omega), gset_n h2]
theorem zcap_b {x y : Int32} (hx : 0 ≤ x.toInt ∧ x.toInt ≤ 99) (hy : 0 ≤ y.toInt ∧ y.toInt ≤ 4) : 0 ≤ (zcap (x + y)).toInt ∧ (zcap (x + y)).toInt ≤ 99 := by
  obtain ⟨a, a1, rfl⟩ : ∃ a, a ≤ 99 ∧ x = Int32.ofNat a := ⟨x.toInt.toNat, by omega, by
    apply Int32.toInt_inj.mp
    rw [zofn_t (by omega)]
    omega⟩
  obtain ⟨b, b1, rfl⟩ : ∃ b, b ≤ 4 ∧ y = Int32.ofNat b := ⟨y.toInt.toNat, by omega, by
    apply Int32.toInt_inj.mp
    rw [zofn_t (by omega)]
    omega⟩
  rw [← Int32.ofNat_add]
  unfold zcap
  have e : (99 : Int32) < Int32.ofNat (a + b) ↔ 99 < a + b := zofn_lt (i := 99) (by decide) (by omega)
  by_cases h : 99 < a + b
  · rw [if_pos (e.mpr h)]; decide
  · rw [if_neg (fun w => h (e.mp w)), zofn_t (by omega)]
    omega
theorem zmrk_b (x : Int32) : 0 ≤ (zmrk x).toInt ∧ (zmrk x).toInt ≤ 4 := by
  unfold zmrk
  split
  · decide
  · split
    · decide
    · split <;> decide
theorem gok_t {g : Nat → Int32} {c : Nat} {s : Int32} (h : gok g c) : gok (gTry2 g c s) c := by
  have hc5 := h.1
  have h1 := gok_17 h (gtr_b h.2.2.1 h.2.2.2).1 (gtr_b h.2.2.1 h.2.2.2).2
  unfold gTry2
  split
  · exact h1
  · rename_i hno
    rcases zwb_r (gcn g) s c hc5 with e | ⟨w, w1, w2⟩
    · exact absurd (Or.inl e) hno
    · rw [w2, Int32.toNatClampNeg_ofNat_of_lt (by omega)]
      have hl := gat_le (g := g) (i := w) (by omega)
      have hcn : 0 ≤ (gcn g w).toInt ∧ (gcn g w).toInt ≤ 99 := by
        unfold gcn
        split
        · exact (h.2.1 w w1).2.2
        · exact (h.2.1 w w1).2.1
      have hv := zcap_b hcn (zmrk_b (g w))
      obtain ⟨a, b, d, e⟩ := h1
      refine ⟨a, fun i hi => ?_, by rw [gset_n (by omega)]; exact d, by rw [gset_n (by omega)]; exact e⟩
      obtain ⟨x, y, z⟩ := b i hi
      refine ⟨by rw [gset_n (by omega)]; exact x, ?_, ?_⟩
      · by_cases q : 5 + i = gat g w
        · rw [q, gset_s]; exact hv
        · rw [gset_n q]; exact y
      · by_cases q : 10 + i = gat g w
        · rw [q, gset_s]; exact hv
        · rw [gset_n q]; exact z
theorem pAct_ok {c i : Nat} {mk : Int32} {P : zPy} (h : gok P.1 c) : gok (pAct c mk i P).1 c ∧ ∀ j, 18 ≤ j → (pAct c mk i P).1 j = P.1 j := by
  unfold pAct
  split
  · exact ⟨gok_r h, fun j hj => gRest_k (by omega)⟩
  · split
    · exact ⟨h, fun j _ => rfl⟩
    · exact ⟨gok_t h, fun j hj => gTry2_k h.1 (by omega) (by omega)⟩
/-- the class's stage -/
def cP (m : zM) (c : Nat) (P : zPy) : Prop := LV m 20 c P.1 ∧ m 19 2 = P.2.1 ∧ m 19 3 = P.2.2.1 ∧ m 19 4 = P.2.2.2.1 ∧ ∀ i, i < 8 → m 28 i = P.2.2.2.2 i
theorem t_X3_note {d : Nat} {m : zM} {r : Option Value} {h' : zHp} {i : Nat} (hi : i < 8) (H : zE none d zm_X3_note 0 [.ref 19, .int (Int32.ofNat i)] [] m r h') : r = none ∧ h' = zhp (if m 28 i = -4 then (if m 19 4 = -4 then zup m 19 4 (Int32.ofNat i) else m) else zup (zup m 19 2 (m 19 2 + 1)) 19 3 (m 19 3 ||| (1 <<< (m 28 i &&& 31)))) := by
  replace H := i_aln (q := 1) H I_X3_note_0 rfl rfl
  replace H := i_gfr (q := 4) H I_X3_note_1 G_3_18 cn_X3_note LY_19 rfl rfl
  replace H := i_iln (q := 5) H I_X3_note_4 rfl rfl
  have W := i_ia (q := 6) H I_X3_note_5 LY_28 rfl
  clear H
  obtain ⟨i_5, bi_5, ei_5, H⟩ := W
  have ei_5 := zofn ei_5 (by omega) (by omega)
  subst ei_5
  replace H := i_bip (x := (-4)) (q := 8) H I_X3_note_6 (by decide) rfl
  have W := i_ic_eq (t := 41) (q := 11) H I_X3_note_8 (by decide) rfl
  clear H
  rcases W with ⟨c_8, H⟩ | ⟨c_8, H⟩
  · skip
    replace H := i_aln (q := 42) H I_X3_note_41 rfl rfl
    replace H := i_gfi (q := 45) H I_X3_note_42 G_3_29 cn_X3_note LY_19 rfl rfl
    replace H := i_bip (x := (-4)) (q := 47) H I_X3_note_45 (by decide) rfl
    have W := i_ic_ne (t := 55) (q := 50) H I_X3_note_47 (by decide) rfl
    clear H
    rcases W with ⟨c_47, H⟩ | ⟨c_47, H⟩
    · skip
      obtain ⟨hr, hh⟩ := i_rt H I_X3_note_55
      refine ⟨hr, hh.trans ?_⟩
      first
      | rw [if_neg c_8, zup_n (by omega), zup_n (by omega)]
      | rw [if_pos c_8, if_pos c_47]
      | rw [if_pos c_8, if_neg c_47]
    · skip
      replace H := i_aln (q := 51) H I_X3_note_50 rfl rfl
      replace H := i_iln (q := 52) H I_X3_note_51 rfl rfl
      replace H := i_pf (q := 55) H I_X3_note_52 G_3_29 cn_X3_note LY_19 rfl rfl
      obtain ⟨hr, hh⟩ := i_rt H I_X3_note_55
      refine ⟨hr, hh.trans ?_⟩
      first
      | rw [if_neg c_8, zup_n (by omega), zup_n (by omega)]
      | rw [if_pos c_8, if_pos c_47]
      | rw [if_pos c_8, if_neg c_47]
  · skip
    replace H := i_aln (q := 12) H I_X3_note_11 rfl rfl
    replace H := i_dup (q := 13) H I_X3_note_12 rfl rfl
    replace H := i_gfi (q := 16) H I_X3_note_13 G_3_22 cn_X3_note LY_19 rfl rfl
    replace H := i_icst (x := 1) (q := 17) H I_X3_note_16 (by decide) rfl
    replace H := i_iadd (q := 18) H I_X3_note_17 rfl
    replace H := i_pf (q := 21) H I_X3_note_18 G_3_22 cn_X3_note LY_19 rfl rfl
    replace H := i_aln (q := 22) H I_X3_note_21 rfl rfl
    replace H := i_dup (q := 23) H I_X3_note_22 rfl rfl
    replace H := i_gfi (q := 26) H I_X3_note_23 G_3_26 cn_X3_note LY_19 rfl rfl
    replace H := i_icst (x := 1) (q := 27) H I_X3_note_26 (by decide) rfl
    replace H := i_aln (q := 28) H I_X3_note_27 rfl rfl
    replace H := i_gfr (q := 31) H I_X3_note_28 G_3_18 cn_X3_note LY_19 rfl rfl
    replace H := i_iln (q := 32) H I_X3_note_31 rfl rfl
    have W := i_ia (q := 33) H I_X3_note_32 LY_28 rfl
    clear H
    obtain ⟨i_32, bi_32, ei_32, H⟩ := W
    have ei_32 := zofn ei_32 (by omega) (by omega)
    subst ei_32
    replace H := i_ishl (q := 34) H I_X3_note_33 rfl
    replace H := i_ior (q := 35) H I_X3_note_34 rfl
    replace H := i_pf (q := 38) H I_X3_note_35 G_3_26 cn_X3_note LY_19 rfl rfl
    replace H := i_goto (q := 55) H I_X3_note_38 (by decide)
    obtain ⟨hr, hh⟩ := i_rt H I_X3_note_55
    refine ⟨hr, hh.trans ?_⟩
    first
    | rw [if_neg c_8, zup_n (by omega), zup_n (by omega)]
    | rw [if_pos c_8, if_pos c_47]
    | rw [if_pos c_8, if_neg c_47]
theorem py_loop {c a : Nat} {mk : Int32} (ha8 : a ≤ 8) : ∀ (j i : Nat) (P : zPy) (d : Nat) (r : Option Value) (h' : zHp) (m : zM), i + j = a → cP m c P → gok P.1 c → P.1 26 = Int32.ofNat a → zE none d zm_X3_play 27 [.ref 19, .int mk, .int (Int32.ofNat i), .null] [] m r h' → ∃ m1, r = some (.int (pPlays c mk j i P).2.1) ∧ h' = zhp m1 ∧ cP m1 c (pPlays c mk j i P) ∧ ∀ x y, ¬ (19 ≤ x ∧ x ≤ 28) → m1 x y = m x y := by
  intro j
  induction j with
  | zero =>
    intro i P d r h' m hj hS hg h26 H
    obtain ⟨q1, q2, q3, q4, q5, b, b1, b2, b3, b4⟩ := id hS.1
    have eb : b = a := zofn (b2.symm.trans h26) (by omega) (by omega)
    subst eb
    have l3 : m 20 3 = Int32.ofNat b := b3
    replace H := i_iln (q := 28) H I_X3_play_27 rfl rfl
    replace H := i_aln (q := 29) H I_X3_play_28 rfl rfl
    replace H := i_gfr (q := 32) H I_X3_play_29 G_3_12 cn_X3_play LY_19 rfl rfl
    replace H := i_gfi (q := 35) H I_X3_play_32 G_3_38 cn_X3_play LY_20 rfl rfl
    have W := i_ic_ge (t := 95) (q := 38) H I_X3_play_35 (by decide) rfl
    clear H
    rcases W with ⟨c_35, H⟩ | ⟨c_35, H⟩
    · skip
      replace H := i_aln (q := 96) H I_X3_play_95 rfl rfl
      replace H := i_gfi (q := 99) H I_X3_play_96 G_3_22 cn_X3_play LY_19 rfl rfl
      obtain ⟨hr, hh⟩ := i_ir H I_X3_play_99
      refine ⟨m, hr.trans ?_, hh, hS, fun _ _ _ => rfl⟩
      rw [hS.2.1]
      rfl
    · skip
      replace H := i_aln (q := 39) H I_X3_play_38 rfl rfl
      replace H := i_gfr (q := 42) H I_X3_play_39 G_3_12 cn_X3_play LY_19 rfl rfl
      replace H := i_gfr (q := 45) H I_X3_play_42 G_3_41 cn_X3_play LY_20 rfl rfl
      replace H := i_iln (q := 46) H I_X3_play_45 rfl rfl
      have W := i_ia (q := 47) H I_X3_play_46 LY_22 rfl
      clear H
      obtain ⟨i_46, bi_46, ei_46, H⟩ := W
      have ei_46 := zofn ei_46 (by omega) (by omega)
      subst ei_46
      replace H := i_isn (q := 48) H I_X3_play_47 rfl rfl
      replace H := i_iln (q := 49) H I_X3_play_48 rfl rfl
      have W := i_if_ne (t := 62) (q := 52) H I_X3_play_49 (by decide) rfl
      clear H
      rcases W with ⟨c_49, H⟩ | ⟨c_49, H⟩
      · skip
        replace H := i_iln (q := 63) H I_X3_play_62 rfl rfl
        replace H := i_iln (q := 64) H I_X3_play_63 rfl rfl
        replace H := i_iand (q := 65) H I_X3_play_64 rfl
        have W := i_if_eq (t := 89) (q := 68) H I_X3_play_65 (by decide) rfl
        clear H
        rcases W with ⟨c_65, H⟩ | ⟨c_65, H⟩
        · skip
          replace H := i_inc (q := 92) H I_X3_play_89 rfl rfl rfl
          replace H := i_goto (q := 27) H I_X3_play_92 (by decide)
          exfalso
          rw [l3] at c_35
          exact absurd ((zofn_lt (by omega) (by omega)).mp c_35) (by omega)
        · skip
          replace H := i_aln (q := 69) H I_X3_play_68 rfl rfl
          replace H := i_gfr (q := 72) H I_X3_play_69 G_3_18 cn_X3_play LY_19 rfl rfl
          replace H := i_iln (q := 73) H I_X3_play_72 rfl rfl
          replace H := i_aln (q := 74) H I_X3_play_73 rfl rfl
          replace H := i_gfr (q := 77) H I_X3_play_74 G_3_12 cn_X3_play LY_19 rfl rfl
          replace H := i_iln (q := 78) H I_X3_play_77 rfl rfl
          replace H := i_iln (q := 79) H I_X3_play_78 rfl rfl
          replace H := i_iand (q := 80) H I_X3_play_79 rfl
          have W := i_cv1 1 (q := 83) H I_X3_play_80 K_3_47 Zm_16 rfl rfl
          clear H
          obtain ⟨r1, h1, Hc, K1, K2⟩ := W
          obtain ⟨M_80, e1, e2, F_80⟩ := t_X0_attempt lkk_20 hS.1 hg Hc
          have H := K1 _ _ e1 e2
          clear e1 e2 Hc K1 K2
          have W := i_iast (q := 84) H I_X3_play_83 LY_28 rfl
          clear H
          obtain ⟨i_83, bi_83, ei_83, H⟩ := W
          have ei_83 := zofn ei_83 (by omega) (by omega)
          subst ei_83
          replace H := i_aln (q := 85) H I_X3_play_84 rfl rfl
          replace H := i_iln (q := 86) H I_X3_play_85 rfl rfl
          have W := i_cv1 0 (q := 89) H I_X3_play_86 K_3_51 Zm_45 rfl rfl
          clear H
          obtain ⟨r1, h1, Hc, K1, K2⟩ := W
          obtain ⟨e1, e2⟩ := t_X3_note (by omega) Hc
          have H := K2 _ e1 e2
          clear e1 e2 Hc K1 K2
          replace H := i_inc (q := 92) H I_X3_play_89 rfl rfl rfl
          replace H := i_goto (q := 27) H I_X3_play_92 (by decide)
          exfalso
          rw [l3] at c_35
          exact absurd ((zofn_lt (by omega) (by omega)).mp c_35) (by omega)
      · skip
        replace H := i_aln (q := 53) H I_X3_play_52 rfl rfl
        replace H := i_gfr (q := 56) H I_X3_play_53 G_3_12 cn_X3_play LY_19 rfl rfl
        have W := i_cv0 1 (q := 59) H I_X3_play_56 K_3_44 Zm_17 rfl rfl
        clear H
        obtain ⟨r1, h1, Hc, K1, K2⟩ := W
        obtain ⟨M_56, e1, e2, F_56⟩ := t_X0_calm lkk_20 hS.1 hg Hc
        have H := K2 _ e1 e2
        clear e1 e2 Hc K1 K2
        replace H := i_goto (q := 89) H I_X3_play_59 (by decide)
        replace H := i_inc (q := 92) H I_X3_play_89 rfl rfl rfl
        replace H := i_goto (q := 27) H I_X3_play_92 (by decide)
        exfalso
        rw [l3] at c_35
        exact absurd ((zofn_lt (by omega) (by omega)).mp c_35) (by omega)
  | succ j ih =>
    intro i P d r h' m hj hS hg h26 H
    obtain ⟨q1, q2, q3, q4, q5, b, b1, b2, b3, b4⟩ := id hS.1
    have eb : b = a := zofn (b2.symm.trans h26) (by omega) (by omega)
    subst eb
    have l3 : m 20 3 = Int32.ofNat b := b3
    have l4 : ∀ i, i < b → m 22 i = P.1 (18 + i) := b4
    replace H := i_iln (q := 28) H I_X3_play_27 rfl rfl
    replace H := i_aln (q := 29) H I_X3_play_28 rfl rfl
    replace H := i_gfr (q := 32) H I_X3_play_29 G_3_12 cn_X3_play LY_19 rfl rfl
    replace H := i_gfi (q := 35) H I_X3_play_32 G_3_38 cn_X3_play LY_20 rfl rfl
    have W := i_ic_ge (t := 95) (q := 38) H I_X3_play_35 (by decide) rfl
    clear H
    rcases W with ⟨c_35, H⟩ | ⟨c_35, H⟩
    · skip
      replace H := i_aln (q := 96) H I_X3_play_95 rfl rfl
      replace H := i_gfi (q := 99) H I_X3_play_96 G_3_22 cn_X3_play LY_19 rfl rfl
      obtain ⟨hr, hh⟩ := i_ir H I_X3_play_99
      exfalso
      rw [l3] at c_35
      exact c_35 ((zofn_lt (by omega) (by omega)).mpr (by omega))
    · skip
      replace H := i_aln (q := 39) H I_X3_play_38 rfl rfl
      replace H := i_gfr (q := 42) H I_X3_play_39 G_3_12 cn_X3_play LY_19 rfl rfl
      replace H := i_gfr (q := 45) H I_X3_play_42 G_3_41 cn_X3_play LY_20 rfl rfl
      replace H := i_iln (q := 46) H I_X3_play_45 rfl rfl
      have W := i_ia (q := 47) H I_X3_play_46 LY_22 rfl
      clear H
      obtain ⟨i_46, bi_46, ei_46, H⟩ := W
      have ei_46 := zofn ei_46 (by omega) (by omega)
      subst ei_46
      replace H := i_isn (q := 48) H I_X3_play_47 rfl rfl
      replace H := i_iln (q := 49) H I_X3_play_48 rfl rfl
      have W := i_if_ne (t := 62) (q := 52) H I_X3_play_49 (by decide) rfl
      clear H
      rcases W with ⟨c_49, H⟩ | ⟨c_49, H⟩
      · skip
        replace H := i_iln (q := 63) H I_X3_play_62 rfl rfl
        replace H := i_iln (q := 64) H I_X3_play_63 rfl rfl
        replace H := i_iand (q := 65) H I_X3_play_64 rfl
        have W := i_if_eq (t := 89) (q := 68) H I_X3_play_65 (by decide) rfl
        clear H
        rcases W with ⟨c_65, H⟩ | ⟨c_65, H⟩
        · skip
          replace H := i_inc (q := 92) H I_X3_play_89 rfl rfl rfl
          replace H := i_goto (q := 27) H I_X3_play_92 (by decide)
          replace H := i_w [true, true, true, false] H
          rw [zofn_s] at H
          have ok := pAct_ok (i := i) (mk := mk) hg
          rw [show m 22 i = P.1 (18 + i) from l4 i (by omega)] at c_49 c_65
          have hS1 : cP m c (pAct c mk i P) := by
            unfold pAct
            rw [if_neg c_49, if_pos c_65]
            exact hS
          obtain ⟨m1, x1, x2, x3, x4⟩ := ih (i + 1) (pAct c mk i P) d r h' _ (by omega) hS1 ok.1 (by rw [ok.2 26 (by omega)]; exact h26) H
          exact ⟨m1, x1, x2, x3, fun x y hxy => by rw [x4 x y hxy]⟩
        · skip
          replace H := i_aln (q := 69) H I_X3_play_68 rfl rfl
          replace H := i_gfr (q := 72) H I_X3_play_69 G_3_18 cn_X3_play LY_19 rfl rfl
          replace H := i_iln (q := 73) H I_X3_play_72 rfl rfl
          replace H := i_aln (q := 74) H I_X3_play_73 rfl rfl
          replace H := i_gfr (q := 77) H I_X3_play_74 G_3_12 cn_X3_play LY_19 rfl rfl
          replace H := i_iln (q := 78) H I_X3_play_77 rfl rfl
          replace H := i_iln (q := 79) H I_X3_play_78 rfl rfl
          replace H := i_iand (q := 80) H I_X3_play_79 rfl
          have W := i_cv1 1 (q := 83) H I_X3_play_80 K_3_47 Zm_16 rfl rfl
          clear H
          obtain ⟨r1, h1, Hc, K1, K2⟩ := W
          obtain ⟨M_80, e1, e2, F_80⟩ := t_X0_attempt lkk_20 hS.1 hg Hc
          have H := K1 _ _ e1 e2
          clear e1 e2 Hc K1 K2
          have W := i_iast (q := 84) H I_X3_play_83 LY_28 rfl
          clear H
          obtain ⟨i_83, bi_83, ei_83, H⟩ := W
          have ei_83 := zofn ei_83 (by omega) (by omega)
          subst ei_83
          replace H := i_aln (q := 85) H I_X3_play_84 rfl rfl
          replace H := i_iln (q := 86) H I_X3_play_85 rfl rfl
          have W := i_cv1 0 (q := 89) H I_X3_play_86 K_3_51 Zm_45 rfl rfl
          clear H
          obtain ⟨r1, h1, Hc, K1, K2⟩ := W
          obtain ⟨e1, e2⟩ := t_X3_note (by omega) Hc
          have H := K2 _ e1 e2
          clear e1 e2 Hc K1 K2
          replace H := i_inc (q := 92) H I_X3_play_89 rfl rfl rfl
          replace H := i_goto (q := 27) H I_X3_play_92 (by decide)
          replace H := i_w [true, true, true, false] H
          rw [zofn_s] at H
          have ok := pAct_ok (i := i) (mk := mk) hg
          rw [show m 22 i = P.1 (18 + i) from l4 i (by omega)] at c_49 c_65
          obtain ⟨L_80, K_80⟩ := F_80
          rw [show m 22 i = P.1 (18 + i) from l4 i (by omega)] at L_80 H
          rw [zup_s] at H
          have A2 : ∀ v, zup M_80 28 i v 19 2 = P.2.1 := fun v => by rw [zup_n (by omega), K_80 _ _ (by omega)]; exact hS.2.1
          have A3 : ∀ v, zup M_80 28 i v 19 3 = P.2.2.1 := fun v => by rw [zup_n (by omega), K_80 _ _ (by omega)]; exact hS.2.2.1
          have A4 : ∀ v, zup M_80 28 i v 19 4 = P.2.2.2.1 := fun v => by rw [zup_n (by omega), K_80 _ _ (by omega)]; exact hS.2.2.2.1
          rw [A2, A3, A4] at H
          have A5 : ∀ (v : Int32) (j : Nat), j < 8 → zup M_80 28 i v 28 j = gset P.2.2.2.2 i v j := fun v j hj => by
            by_cases e : j = i
            · subst e
              rw [zup_s, gset_s]
            · rw [zup_n (by omega), gset_n e, K_80 _ _ (by omega)]
              exact hS.2.2.2.2 j hj
          generalize hv : gTry1 P.1 c (P.1 (18 + i) &&& mk) = v at H
          obtain ⟨Q, hQ, hS1, hF⟩ : ∃ Q, Q = (if v = -4 then (if P.2.2.2.1 = -4 then zup (zup M_80 28 i v) 19 4 (Int32.ofNat i) else zup M_80 28 i v) else zup (zup (zup M_80 28 i v) 19 2 (P.2.1 + 1)) 19 3 (P.2.2.1 ||| (1 <<< (v &&& 31)))) ∧ cP Q c (pAct c mk i P) ∧ ∀ x y, ¬ (19 ≤ x ∧ x ≤ 28) → Q x y = m x y := by
            refine ⟨_, rfl, ?_, fun x y hxy => ?_⟩
            · unfold pAct
              rw [if_neg c_49, if_neg c_65, hv]
              by_cases h4 : v = -4
              · rw [if_pos h4, if_pos h4, if_pos h4]
                by_cases h5 : P.2.2.2.1 = -4
                · rw [if_pos h5, if_pos ⟨h4, h5⟩]
                  exact ⟨LV_f L_80 (fun a b x y => by rw [zup_n (by omega), zup_n (by omega)]), by rw [zup_n (by omega)]; exact A2 v, by rw [zup_n (by omega)]; exact A3 v, by rw [zup_s], fun j hj => by rw [zup_n (by omega)]; exact A5 v j hj⟩
                · rw [if_neg h5, if_neg (fun q => h5 q.2)]
                  exact ⟨LV_f L_80 (fun a b x y => by rw [zup_n (by omega)]), A2 v, A3 v, A4 v, fun j hj => A5 v j hj⟩
              · rw [if_neg h4, if_neg h4, if_neg h4, if_neg (fun q => h4 q.1)]
                exact ⟨LV_f L_80 (fun a b x y => by rw [zup_n (by omega), zup_n (by omega), zup_n (by omega)]), by rw [zup_n (by omega), zup_s], by rw [zup_s], by rw [zup_n (by omega), zup_n (by omega)]; exact A4 v, fun j hj => by rw [zup_n (by omega), zup_n (by omega)]; exact A5 v j hj⟩
            · split
              · split
                · rw [zup_n (by omega), zup_n (by omega), K_80 _ _ (by omega)]
                · rw [zup_n (by omega), K_80 _ _ (by omega)]
              · rw [zup_n (by omega), zup_n (by omega), zup_n (by omega), K_80 _ _ (by omega)]
          rw [← hQ] at H
          obtain ⟨m1, x1, x2, x3, x4⟩ := ih (i + 1) (pAct c mk i P) d r h' _ (by omega) hS1 ok.1 (by rw [ok.2 26 (by omega)]; exact h26) H
          exact ⟨m1, x1, x2, x3, fun x y hxy => by rw [x4 x y hxy, hF _ _ (by omega)]⟩
      · skip
        replace H := i_aln (q := 53) H I_X3_play_52 rfl rfl
        replace H := i_gfr (q := 56) H I_X3_play_53 G_3_12 cn_X3_play LY_19 rfl rfl
        have W := i_cv0 1 (q := 59) H I_X3_play_56 K_3_44 Zm_17 rfl rfl
        clear H
        obtain ⟨r1, h1, Hc, K1, K2⟩ := W
        obtain ⟨M_56, e1, e2, F_56⟩ := t_X0_calm lkk_20 hS.1 hg Hc
        have H := K2 _ e1 e2
        clear e1 e2 Hc K1 K2
        replace H := i_goto (q := 89) H I_X3_play_59 (by decide)
        replace H := i_inc (q := 92) H I_X3_play_89 rfl rfl rfl
        replace H := i_goto (q := 27) H I_X3_play_92 (by decide)
        replace H := i_w [true, true, true, false] H
        rw [zofn_s] at H
        have ok := pAct_ok (i := i) (mk := mk) hg
        rw [show m 22 i = P.1 (18 + i) from l4 i (by omega)] at c_49
        obtain ⟨L_56, K_56⟩ := F_56
        have hS1 : cP M_56 c (pAct c mk i P) := by
          unfold pAct
          rw [if_pos c_49]
          exact ⟨L_56, by rw [K_56 _ _ (by omega)]; exact hS.2.1, by rw [K_56 _ _ (by omega)]; exact hS.2.2.1, by rw [K_56 _ _ (by omega)]; exact hS.2.2.2.1, fun j hj => by rw [K_56 _ _ (by omega)]; exact hS.2.2.2.2 j hj⟩
        obtain ⟨m1, x1, x2, x3, x4⟩ := ih (i + 1) (pAct c mk i P) d r h' _ (by omega) hS1 ok.1 (by rw [ok.2 26 (by omega)]; exact h26) H
        exact ⟨m1, x1, x2, x3, fun x y hxy => by rw [x4 x y hxy, K_56 _ _ (by omega)]⟩
