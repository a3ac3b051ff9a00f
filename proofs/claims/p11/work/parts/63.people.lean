/-! people -/
theorem It_X0_leastOf : zm_X0_leastOf.2.2.2.2.2 = zt_X0_leastOf := by
  unfold zm_X0_leastOf
  rfl
theorem It_X1_become : zm_X1_become.2.2.2.2.2 = zt_X1_become := by
  unfold zm_X1_become
  rfl
theorem It_X1_calm : zm_X1_calm.2.2.2.2.2 = zt_X1_calm := by
  unfold zm_X1_calm
  rfl
theorem It_X1_enter : zm_X1_enter.2.2.2.2.2 = zt_X1_enter := by
  unfold zm_X1_enter
  rfl
theorem It_X1_marks : zm_X1_marks.2.2.2.2.2 = zt_X1_marks := by
  unfold zm_X1_marks
  rfl
theorem It_X1_setTurned : zm_X1_setTurned.2.2.2.2.2 = zt_X1_setTurned := by
  unfold zm_X1_setTurned
  rfl
theorem It_X1_turned : zm_X1_turned.2.2.2.2.2 = zt_X1_turned := by
  unfold zm_X1_turned
  rfl
theorem I_X0_leastOf_5 : zin zm_X0_leastOf.2.2.2.2.2 5 = some (.iload_n 3, 1) := by rw [It_X0_leastOf]; rfl
theorem I_X0_leastOf_6 : zin zm_X0_leastOf.2.2.2.2.2 6 = some (.aload_n 0, 1) := by rw [It_X0_leastOf]; rfl
theorem I_X0_leastOf_7 : zin zm_X0_leastOf.2.2.2.2.2 7 = some (.getfield 26, 3) := by rw [It_X0_leastOf]; rfl
theorem I_X0_leastOf_10 : zin zm_X0_leastOf.2.2.2.2.2 10 = some (.if_icmp .ge 46, 3) := by rw [It_X0_leastOf]; rfl
theorem I_X0_leastOf_13 : zin zm_X0_leastOf.2.2.2.2.2 13 = some (.iload_n 1, 1) := by rw [It_X0_leastOf]; rfl
theorem I_X0_leastOf_14 : zin zm_X0_leastOf.2.2.2.2.2 14 = some (.iload_n 3, 1) := by rw [It_X0_leastOf]; rfl
theorem I_X0_leastOf_15 : zin zm_X0_leastOf.2.2.2.2.2 15 = some (.ishr, 1) := by rw [It_X0_leastOf]; rfl
theorem I_X0_leastOf_16 : zin zm_X0_leastOf.2.2.2.2.2 16 = some (.iconst 1, 1) := by rw [It_X0_leastOf]; rfl
theorem I_X0_leastOf_17 : zin zm_X0_leastOf.2.2.2.2.2 17 = some (.iand, 1) := by rw [It_X0_leastOf]; rfl
theorem I_X0_leastOf_18 : zin zm_X0_leastOf.2.2.2.2.2 18 = some (.ifCond .eq 32, 3) := by rw [It_X0_leastOf]; rfl
theorem I_X0_leastOf_21 : zin zm_X0_leastOf.2.2.2.2.2 21 = some (.iload_n 2, 1) := by rw [It_X0_leastOf]; rfl
theorem I_X0_leastOf_22 : zin zm_X0_leastOf.2.2.2.2.2 22 = some (.bipush (-4), 2) := by rw [It_X0_leastOf]; rfl
theorem I_X0_leastOf_24 : zin zm_X0_leastOf.2.2.2.2.2 24 = some (.if_icmp .eq 24, 3) := by rw [It_X0_leastOf]; rfl
theorem I_X0_leastOf_27 : zin zm_X0_leastOf.2.2.2.2.2 27 = some (.aload_n 0, 1) := by rw [It_X0_leastOf]; rfl
theorem I_X0_leastOf_28 : zin zm_X0_leastOf.2.2.2.2.2 28 = some (.getfield 11, 3) := by rw [It_X0_leastOf]; rfl
theorem I_X0_leastOf_31 : zin zm_X0_leastOf.2.2.2.2.2 31 = some (.iload_n 3, 1) := by rw [It_X0_leastOf]; rfl
theorem I_X0_leastOf_32 : zin zm_X0_leastOf.2.2.2.2.2 32 = some (.aaload, 1) := by rw [It_X0_leastOf]; rfl
theorem I_X0_leastOf_33 : zin zm_X0_leastOf.2.2.2.2.2 33 = some (.invokevirtual 51, 3) := by rw [It_X0_leastOf]; rfl
theorem I_X0_leastOf_36 : zin zm_X0_leastOf.2.2.2.2.2 36 = some (.aload_n 0, 1) := by rw [It_X0_leastOf]; rfl
theorem I_X0_leastOf_37 : zin zm_X0_leastOf.2.2.2.2.2 37 = some (.getfield 11, 3) := by rw [It_X0_leastOf]; rfl
theorem I_X0_leastOf_40 : zin zm_X0_leastOf.2.2.2.2.2 40 = some (.iload_n 2, 1) := by rw [It_X0_leastOf]; rfl
theorem I_X0_leastOf_41 : zin zm_X0_leastOf.2.2.2.2.2 41 = some (.aaload, 1) := by rw [It_X0_leastOf]; rfl
theorem I_X0_leastOf_42 : zin zm_X0_leastOf.2.2.2.2.2 42 = some (.invokevirtual 51, 3) := by rw [It_X0_leastOf]; rfl
theorem I_X0_leastOf_45 : zin zm_X0_leastOf.2.2.2.2.2 45 = some (.if_icmp .ge 5, 3) := by rw [It_X0_leastOf]; rfl
theorem I_X0_leastOf_48 : zin zm_X0_leastOf.2.2.2.2.2 48 = some (.iload_n 3, 1) := by rw [It_X0_leastOf]; rfl
theorem I_X0_leastOf_49 : zin zm_X0_leastOf.2.2.2.2.2 49 = some (.istore_n 2, 1) := by rw [It_X0_leastOf]; rfl
theorem I_X0_leastOf_50 : zin zm_X0_leastOf.2.2.2.2.2 50 = some (.iinc 3 1, 3) := by rw [It_X0_leastOf]; rfl
theorem I_X0_leastOf_53 : zin zm_X0_leastOf.2.2.2.2.2 53 = some (.goto (-48), 3) := by rw [It_X0_leastOf]; rfl
theorem I_X0_leastOf_56 : zin zm_X0_leastOf.2.2.2.2.2 56 = some (.iload_n 2, 1) := by rw [It_X0_leastOf]; rfl
theorem I_X0_leastOf_57 : zin zm_X0_leastOf.2.2.2.2.2 57 = some (.ireturn, 1) := by rw [It_X0_leastOf]; rfl
theorem I_X1_become_0 : zin zm_X1_become.2.2.2.2.2 0 = some (.aload_n 0, 1) := by rw [It_X1_become]; rfl
theorem I_X1_become_1 : zin zm_X1_become.2.2.2.2.2 1 = some (.aload_n 1, 1) := by rw [It_X1_become]; rfl
theorem I_X1_become_2 : zin zm_X1_become.2.2.2.2.2 2 = some (.getfield 9, 3) := by rw [It_X1_become]; rfl
theorem I_X1_become_5 : zin zm_X1_become.2.2.2.2.2 5 = some (.putfield 9, 3) := by rw [It_X1_become]; rfl
theorem I_X1_become_8 : zin zm_X1_become.2.2.2.2.2 8 = some (.aload_n 0, 1) := by rw [It_X1_become]; rfl
theorem I_X1_become_9 : zin zm_X1_become.2.2.2.2.2 9 = some (.aload_n 1, 1) := by rw [It_X1_become]; rfl
theorem I_X1_become_10 : zin zm_X1_become.2.2.2.2.2 10 = some (.getfield 15, 3) := by rw [It_X1_become]; rfl
theorem I_X1_become_13 : zin zm_X1_become.2.2.2.2.2 13 = some (.putfield 15, 3) := by rw [It_X1_become]; rfl
theorem I_X1_become_16 : zin zm_X1_become.2.2.2.2.2 16 = some (.aload_n 0, 1) := by rw [It_X1_become]; rfl
theorem I_X1_become_17 : zin zm_X1_become.2.2.2.2.2 17 = some (.aload_n 1, 1) := by rw [It_X1_become]; rfl
theorem I_X1_become_18 : zin zm_X1_become.2.2.2.2.2 18 = some (.getfield 18, 3) := by rw [It_X1_become]; rfl
theorem I_X1_become_21 : zin zm_X1_become.2.2.2.2.2 21 = some (.putfield 18, 3) := by rw [It_X1_become]; rfl
theorem I_X1_become_24 : zin zm_X1_become.2.2.2.2.2 24 = some (.aload_n 0, 1) := by rw [It_X1_become]; rfl
theorem I_X1_become_25 : zin zm_X1_become.2.2.2.2.2 25 = some (.aload_n 1, 1) := by rw [It_X1_become]; rfl
theorem I_X1_become_26 : zin zm_X1_become.2.2.2.2.2 26 = some (.getfield 21, 3) := by rw [It_X1_become]; rfl
theorem I_X1_become_29 : zin zm_X1_become.2.2.2.2.2 29 = some (.putfield 21, 3) := by rw [It_X1_become]; rfl
theorem I_X1_become_32 : zin zm_X1_become.2.2.2.2.2 32 = some (.return_, 1) := by rw [It_X1_become]; rfl
theorem I_X1_calm_0 : zin zm_X1_calm.2.2.2.2.2 0 = some (.aload_n 0, 1) := by rw [It_X1_calm]; rfl
theorem I_X1_calm_1 : zin zm_X1_calm.2.2.2.2.2 1 = some (.iconst 0, 1) := by rw [It_X1_calm]; rfl
theorem I_X1_calm_2 : zin zm_X1_calm.2.2.2.2.2 2 = some (.aload_n 0, 1) := by rw [It_X1_calm]; rfl
theorem I_X1_calm_3 : zin zm_X1_calm.2.2.2.2.2 3 = some (.getfield 15, 3) := by rw [It_X1_calm]; rfl
theorem I_X1_calm_6 : zin zm_X1_calm.2.2.2.2.2 6 = some (.iconst 1, 1) := by rw [It_X1_calm]; rfl
theorem I_X1_calm_7 : zin zm_X1_calm.2.2.2.2.2 7 = some (.isub, 1) := by rw [It_X1_calm]; rfl
theorem I_X1_calm_8 : zin zm_X1_calm.2.2.2.2.2 8 = some (.invokestatic 41, 3) := by rw [It_X1_calm]; rfl
theorem I_X1_calm_11 : zin zm_X1_calm.2.2.2.2.2 11 = some (.putfield 15, 3) := by rw [It_X1_calm]; rfl
theorem I_X1_calm_14 : zin zm_X1_calm.2.2.2.2.2 14 = some (.aload_n 0, 1) := by rw [It_X1_calm]; rfl
theorem I_X1_calm_15 : zin zm_X1_calm.2.2.2.2.2 15 = some (.iconst 0, 1) := by rw [It_X1_calm]; rfl
theorem I_X1_calm_16 : zin zm_X1_calm.2.2.2.2.2 16 = some (.aload_n 0, 1) := by rw [It_X1_calm]; rfl
theorem I_X1_calm_17 : zin zm_X1_calm.2.2.2.2.2 17 = some (.getfield 18, 3) := by rw [It_X1_calm]; rfl
theorem I_X1_calm_20 : zin zm_X1_calm.2.2.2.2.2 20 = some (.iconst 1, 1) := by rw [It_X1_calm]; rfl
theorem I_X1_calm_21 : zin zm_X1_calm.2.2.2.2.2 21 = some (.isub, 1) := by rw [It_X1_calm]; rfl
theorem I_X1_calm_22 : zin zm_X1_calm.2.2.2.2.2 22 = some (.invokestatic 41, 3) := by rw [It_X1_calm]; rfl
theorem I_X1_calm_25 : zin zm_X1_calm.2.2.2.2.2 25 = some (.putfield 18, 3) := by rw [It_X1_calm]; rfl
theorem I_X1_calm_28 : zin zm_X1_calm.2.2.2.2.2 28 = some (.return_, 1) := by rw [It_X1_calm]; rfl
theorem I_X1_enter_0 : zin zm_X1_enter.2.2.2.2.2 0 = some (.aload_n 0, 1) := by rw [It_X1_enter]; rfl
theorem I_X1_enter_1 : zin zm_X1_enter.2.2.2.2.2 1 = some (.bipush 99, 2) := by rw [It_X1_enter]; rfl
theorem I_X1_enter_3 : zin zm_X1_enter.2.2.2.2.2 3 = some (.aload_n 0, 1) := by rw [It_X1_enter]; rfl
theorem I_X1_enter_4 : zin zm_X1_enter.2.2.2.2.2 4 = some (.invokevirtual 24, 3) := by rw [It_X1_enter]; rfl
theorem I_X1_enter_7 : zin zm_X1_enter.2.2.2.2.2 7 = some (.aload_n 0, 1) := by rw [It_X1_enter]; rfl
theorem I_X1_enter_8 : zin zm_X1_enter.2.2.2.2.2 8 = some (.invokevirtual 28, 3) := by rw [It_X1_enter]; rfl
theorem I_X1_enter_11 : zin zm_X1_enter.2.2.2.2.2 11 = some (.iadd, 1) := by rw [It_X1_enter]; rfl
theorem I_X1_enter_12 : zin zm_X1_enter.2.2.2.2.2 12 = some (.invokestatic 31, 3) := by rw [It_X1_enter]; rfl
theorem I_X1_enter_15 : zin zm_X1_enter.2.2.2.2.2 15 = some (.invokevirtual 37, 3) := by rw [It_X1_enter]; rfl
theorem I_X1_enter_18 : zin zm_X1_enter.2.2.2.2.2 18 = some (.return_, 1) := by rw [It_X1_enter]; rfl
theorem I_X1_marks_0 : zin zm_X1_marks.2.2.2.2.2 0 = some (.aload_n 0, 1) := by rw [It_X1_marks]; rfl
theorem I_X1_marks_1 : zin zm_X1_marks.2.2.2.2.2 1 = some (.getfield 9, 3) := by rw [It_X1_marks]; rfl
theorem I_X1_marks_4 : zin zm_X1_marks.2.2.2.2.2 4 = some (.tableswitch 34 1 3 #[28, 30, 32], 28) := by rw [It_X1_marks]; rfl
theorem I_X1_marks_32 : zin zm_X1_marks.2.2.2.2.2 32 = some (.iconst 2, 1) := by rw [It_X1_marks]; rfl
theorem I_X1_marks_33 : zin zm_X1_marks.2.2.2.2.2 33 = some (.ireturn, 1) := by rw [It_X1_marks]; rfl
theorem I_X1_marks_34 : zin zm_X1_marks.2.2.2.2.2 34 = some (.iconst 0, 1) := by rw [It_X1_marks]; rfl
theorem I_X1_marks_35 : zin zm_X1_marks.2.2.2.2.2 35 = some (.ireturn, 1) := by rw [It_X1_marks]; rfl
theorem I_X1_marks_36 : zin zm_X1_marks.2.2.2.2.2 36 = some (.iconst 4, 1) := by rw [It_X1_marks]; rfl
theorem I_X1_marks_37 : zin zm_X1_marks.2.2.2.2.2 37 = some (.ireturn, 1) := by rw [It_X1_marks]; rfl
theorem I_X1_marks_38 : zin zm_X1_marks.2.2.2.2.2 38 = some (.iconst 1, 1) := by rw [It_X1_marks]; rfl
theorem I_X1_marks_39 : zin zm_X1_marks.2.2.2.2.2 39 = some (.ireturn, 1) := by rw [It_X1_marks]; rfl
theorem I_X1_setTurned_0 : zin zm_X1_setTurned.2.2.2.2.2 0 = some (.aload_n 0, 1) := by rw [It_X1_setTurned]; rfl
theorem I_X1_setTurned_1 : zin zm_X1_setTurned.2.2.2.2.2 1 = some (.getfield 21, 3) := by rw [It_X1_setTurned]; rfl
theorem I_X1_setTurned_4 : zin zm_X1_setTurned.2.2.2.2.2 4 = some (.iconst 1, 1) := by rw [It_X1_setTurned]; rfl
theorem I_X1_setTurned_5 : zin zm_X1_setTurned.2.2.2.2.2 5 = some (.if_icmp .ne 11, 3) := by rw [It_X1_setTurned]; rfl
theorem I_X1_setTurned_8 : zin zm_X1_setTurned.2.2.2.2.2 8 = some (.aload_n 0, 1) := by rw [It_X1_setTurned]; rfl
theorem I_X1_setTurned_9 : zin zm_X1_setTurned.2.2.2.2.2 9 = some (.iload_n 1, 1) := by rw [It_X1_setTurned]; rfl
theorem I_X1_setTurned_10 : zin zm_X1_setTurned.2.2.2.2.2 10 = some (.putfield 18, 3) := by rw [It_X1_setTurned]; rfl
theorem I_X1_setTurned_13 : zin zm_X1_setTurned.2.2.2.2.2 13 = some (.goto 8, 3) := by rw [It_X1_setTurned]; rfl
theorem I_X1_setTurned_16 : zin zm_X1_setTurned.2.2.2.2.2 16 = some (.aload_n 0, 1) := by rw [It_X1_setTurned]; rfl
theorem I_X1_setTurned_17 : zin zm_X1_setTurned.2.2.2.2.2 17 = some (.iload_n 1, 1) := by rw [It_X1_setTurned]; rfl
theorem I_X1_setTurned_18 : zin zm_X1_setTurned.2.2.2.2.2 18 = some (.putfield 15, 3) := by rw [It_X1_setTurned]; rfl
theorem I_X1_setTurned_21 : zin zm_X1_setTurned.2.2.2.2.2 21 = some (.return_, 1) := by rw [It_X1_setTurned]; rfl
theorem I_X1_turned_0 : zin zm_X1_turned.2.2.2.2.2 0 = some (.aload_n 0, 1) := by rw [It_X1_turned]; rfl
theorem I_X1_turned_1 : zin zm_X1_turned.2.2.2.2.2 1 = some (.getfield 21, 3) := by rw [It_X1_turned]; rfl
theorem I_X1_turned_4 : zin zm_X1_turned.2.2.2.2.2 4 = some (.iconst 1, 1) := by rw [It_X1_turned]; rfl
theorem I_X1_turned_5 : zin zm_X1_turned.2.2.2.2.2 5 = some (.if_icmp .ne 10, 3) := by rw [It_X1_turned]; rfl
theorem I_X1_turned_8 : zin zm_X1_turned.2.2.2.2.2 8 = some (.aload_n 0, 1) := by rw [It_X1_turned]; rfl
theorem I_X1_turned_9 : zin zm_X1_turned.2.2.2.2.2 9 = some (.getfield 18, 3) := by rw [It_X1_turned]; rfl
theorem I_X1_turned_12 : zin zm_X1_turned.2.2.2.2.2 12 = some (.goto 7, 3) := by rw [It_X1_turned]; rfl
theorem I_X1_turned_15 : zin zm_X1_turned.2.2.2.2.2 15 = some (.aload_n 0, 1) := by rw [It_X1_turned]; rfl
theorem I_X1_turned_16 : zin zm_X1_turned.2.2.2.2.2 16 = some (.getfield 15, 3) := by rw [It_X1_turned]; rfl
theorem I_X1_turned_19 : zin zm_X1_turned.2.2.2.2.2 19 = some (.ireturn, 1) := by rw [It_X1_turned]; rfl
theorem G_0_11 : zlk zfls 0 11 = some (0, 0, 118) := rfl
theorem G_0_26 : zlk zfls 0 26 = some (0, 2, 125) := rfl
theorem G_1_9 : zlk zfls 1 9 = some (1, 0, 95) := rfl
theorem G_1_15 : zlk zfls 1 15 = some (1, 1, 98) := rfl
theorem G_1_18 : zlk zfls 1 18 = some (1, 2, 101) := rfl
theorem G_1_21 : zlk zfls 1 21 = some (1, 3, 104) := rfl
theorem K_0_51 : zlk zmls 0 51 = some (0, 20, 0, 495) := rfl
theorem K_1_24 : zlk zmls 1 24 = some (0, 20, 0, 568) := rfl
theorem K_1_28 : zlk zmls 1 28 = some (0, 22, 0, 569) := rfl
theorem K_1_31 : zlk zmls 1 31 = some (6, 0, 2, 570) := rfl
theorem K_1_37 : zlk zmls 1 37 = some (0, 21, 1, 571) := rfl
theorem K_1_41 : zlk zmls 1 41 = some (5, 0, 2, 587) := rfl
theorem Zm_20 : zms[20]? = some zm_X1_turned := rfl
theorem Zm_21 : zms[21]? = some zm_X1_setTurned := rfl
theorem Zm_22 : zms[22]? = some zm_X1_marks := rfl
theorem cl_X0_leastOf : zm_X0_leastOf.2.2.2.2.1 = 0 := by
  unfold zm_X0_leastOf
  rfl
theorem cn_X0_leastOf : zm_X0_leastOf.2.2.2.2.1 ≠ 12 := by
  rw [cl_X0_leastOf]
  decide
theorem cn2_X0_leastOf : zm_X0_leastOf.2.2.2.2.1 ≠ 2 := by
  rw [cl_X0_leastOf]
  decide
theorem cl_X1_become : zm_X1_become.2.2.2.2.1 = 1 := by
  unfold zm_X1_become
  rfl
theorem cn_X1_become : zm_X1_become.2.2.2.2.1 ≠ 12 := by
  rw [cl_X1_become]
  decide
theorem cn2_X1_become : zm_X1_become.2.2.2.2.1 ≠ 2 := by
  rw [cl_X1_become]
  decide
theorem cl_X1_calm : zm_X1_calm.2.2.2.2.1 = 1 := by
  unfold zm_X1_calm
  rfl
theorem cn_X1_calm : zm_X1_calm.2.2.2.2.1 ≠ 12 := by
  rw [cl_X1_calm]
  decide
theorem cn2_X1_calm : zm_X1_calm.2.2.2.2.1 ≠ 2 := by
  rw [cl_X1_calm]
  decide
theorem cl_X1_marks : zm_X1_marks.2.2.2.2.1 = 1 := by
  unfold zm_X1_marks
  rfl
theorem cn_X1_marks : zm_X1_marks.2.2.2.2.1 ≠ 12 := by
  rw [cl_X1_marks]
  decide
theorem cn2_X1_marks : zm_X1_marks.2.2.2.2.1 ≠ 2 := by
  rw [cl_X1_marks]
  decide
theorem cl_X1_setTurned : zm_X1_setTurned.2.2.2.2.1 = 1 := by
  unfold zm_X1_setTurned
  rfl
theorem cn_X1_setTurned : zm_X1_setTurned.2.2.2.2.1 ≠ 12 := by
  rw [cl_X1_setTurned]
  decide
theorem cn2_X1_setTurned : zm_X1_setTurned.2.2.2.2.1 ≠ 2 := by
  rw [cl_X1_setTurned]
  decide
theorem cl_X1_turned : zm_X1_turned.2.2.2.2.1 = 1 := by
  unfold zm_X1_turned
  rfl
theorem cn_X1_turned : zm_X1_turned.2.2.2.2.1 ≠ 12 := by
  rw [cl_X1_turned]
  decide
theorem cn2_X1_turned : zm_X1_turned.2.2.2.2.1 ≠ 2 := by
  rw [cl_X1_turned]
  decide
def zcnt (m : zM) (p : Nat) : Int32 := if m p 3 = 1 then m p 2 else m p 1
def zmrk (k : Int32) : Int32 := if k = 1 then 2 else if k = 2 then 0 else if k = 3 then 4 else 1
def zset (m : zM) (p : Nat) (v : Int32) : zM := if m p 3 = 1 then zup m p 2 v else zup m p 1 v
def zmin (x y : Int32) : Int32 := if y < x then y else x
def zmax (x y : Int32) : Int32 := if x < y then y else x
def zent (m : zM) (p : Nat) : zM := zset m p (zmin 99 (zcnt m p + zmrk (m p 0)))
theorem t_X1_turned {d : Nat} {m : zM} {r : Option Value} {h' : zHp} {p : Nat} (hp : zLY[p]? = some (Sum.inr 1, List.replicate 4 none)) (H : zE none d zm_X1_turned 0 [.ref p] [] m r h') : r = some (.int (zcnt m p)) ∧ h' = zhp m := by
  replace H := i_aln (q := 1) H I_X1_turned_0 rfl rfl
  replace H := i_gfi (q := 4) H I_X1_turned_1 G_1_21 cn_X1_turned hp rfl rfl
  replace H := i_icst (x := 1) (q := 5) H I_X1_turned_4 (by decide) rfl
  have W := i_ic_ne (t := 15) (q := 8) H I_X1_turned_5 (by decide) rfl
  clear H
  rcases W with ⟨c_5, H⟩ | ⟨c_5, H⟩
  · skip
    replace H := i_aln (q := 16) H I_X1_turned_15 rfl rfl
    replace H := i_gfi (q := 19) H I_X1_turned_16 G_1_15 cn_X1_turned hp rfl rfl
    obtain ⟨hr, hh⟩ := i_ir H I_X1_turned_19
    refine ⟨hr.trans ?_, hh⟩
    simp [zcnt, *]
  · skip
    replace H := i_aln (q := 9) H I_X1_turned_8 rfl rfl
    replace H := i_gfi (q := 12) H I_X1_turned_9 G_1_18 cn_X1_turned hp rfl rfl
    replace H := i_goto (q := 19) H I_X1_turned_12 (by decide)
    obtain ⟨hr, hh⟩ := i_ir H I_X1_turned_19
    refine ⟨hr.trans ?_, hh⟩
    simp [zcnt, *]
theorem t_X1_setTurned {d : Nat} {m : zM} {r : Option Value} {h' : zHp} {p : Nat} {v : Int32} (hp : zLY[p]? = some (Sum.inr 1, List.replicate 4 none)) (H : zE none d zm_X1_setTurned 0 [.ref p, .int v] [] m r h') : r = none ∧ h' = zhp (zset m p v) := by
  replace H := i_aln (q := 1) H I_X1_setTurned_0 rfl rfl
  replace H := i_gfi (q := 4) H I_X1_setTurned_1 G_1_21 cn_X1_setTurned hp rfl rfl
  replace H := i_icst (x := 1) (q := 5) H I_X1_setTurned_4 (by decide) rfl
  have W := i_ic_ne (t := 16) (q := 8) H I_X1_setTurned_5 (by decide) rfl
  clear H
  rcases W with ⟨c_5, H⟩ | ⟨c_5, H⟩
  · skip
    replace H := i_aln (q := 17) H I_X1_setTurned_16 rfl rfl
    replace H := i_iln (q := 18) H I_X1_setTurned_17 rfl rfl
    replace H := i_pf (q := 21) H I_X1_setTurned_18 G_1_15 cn_X1_setTurned hp rfl rfl
    obtain ⟨hr, hh⟩ := i_rt H I_X1_setTurned_21
    refine ⟨hr, hh.trans ?_⟩
    simp [zset, *]
  · skip
    replace H := i_aln (q := 9) H I_X1_setTurned_8 rfl rfl
    replace H := i_iln (q := 10) H I_X1_setTurned_9 rfl rfl
    replace H := i_pf (q := 13) H I_X1_setTurned_10 G_1_18 cn_X1_setTurned hp rfl rfl
    replace H := i_goto (q := 21) H I_X1_setTurned_13 (by decide)
    obtain ⟨hr, hh⟩ := i_rt H I_X1_setTurned_21
    refine ⟨hr, hh.trans ?_⟩
    simp [zset, *]
theorem t_X1_marks {d : Nat} {m : zM} {r : Option Value} {h' : zHp} {p : Nat} (hp : zLY[p]? = some (Sum.inr 1, List.replicate 4 none)) (H : zE none d zm_X1_marks 0 [.ref p] [] m r h') : r = some (.int (zmrk (m p 0))) ∧ h' = zhp m := by
  replace H := i_aln (q := 1) H I_X1_marks_0 rfl rfl
  replace H := i_gfi (q := 4) H I_X1_marks_1 G_1_9 cn_X1_marks hp rfl rfl
  have W := i_ts1 1 (q := 32) H I_X1_marks_4 (by decide) rfl (by decide)
  clear H
  rcases W with ⟨w_4_1, H⟩ | ⟨w_4_1, H⟩
  · skip
    replace H := i_icst (x := 2) (q := 33) H I_X1_marks_32 (by decide) rfl
    obtain ⟨hr, hh⟩ := i_ir H I_X1_marks_33
    refine ⟨hr.trans ?_, hh⟩
    simp [zmrk, *]
  · skip
    have W := i_ts1 2 (q := 34) H I_X1_marks_4 (by decide) rfl (by decide)
    clear H
    rcases W with ⟨w_4_2, H⟩ | ⟨w_4_2, H⟩
    · skip
      replace H := i_icst (x := 0) (q := 35) H I_X1_marks_34 (by decide) rfl
      obtain ⟨hr, hh⟩ := i_ir H I_X1_marks_35
      refine ⟨hr.trans ?_, hh⟩
      simp [zmrk, *]
    · skip
      have W := i_ts1 3 (q := 36) H I_X1_marks_4 (by decide) rfl (by decide)
      clear H
      rcases W with ⟨w_4_3, H⟩ | ⟨w_4_3, H⟩
      · skip
        replace H := i_icst (x := 4) (q := 37) H I_X1_marks_36 (by decide) rfl
        obtain ⟨hr, hh⟩ := i_ir H I_X1_marks_37
        refine ⟨hr.trans ?_, hh⟩
        simp [zmrk, *]
      · skip
        replace H := i_tsd (q := 38) H I_X1_marks_4 (by have q0 := zne w_4_1 (z := 1) (by decide); have q1 := zne w_4_2 (z := 2) (by decide); have q2 := zne w_4_3 (z := 3) (by decide); omega) (by decide)
        replace H := i_icst (x := 1) (q := 39) H I_X1_marks_38 (by decide) rfl
        obtain ⟨hr, hh⟩ := i_ir H I_X1_marks_39
        refine ⟨hr.trans ?_, hh⟩
        simp [zmrk, *]
theorem t_X1_enter {d : Nat} {m : zM} {r : Option Value} {h' : zHp} {p : Nat} (hp : zLY[p]? = some (Sum.inr 1, List.replicate 4 none)) (H : zE none d zm_X1_enter 0 [.ref p] [] m r h') : r = none ∧ h' = zhp (zent m p) := by
  replace H := i_aln (q := 1) H I_X1_enter_0 rfl rfl
  replace H := i_bip (x := 99) (q := 3) H I_X1_enter_1 (by decide) rfl
  replace H := i_aln (q := 4) H I_X1_enter_3 rfl rfl
  have W := i_cv0 0 (q := 7) H I_X1_enter_4 K_1_24 Zm_20 rfl rfl
  clear H
  obtain ⟨r1, h1, Hc, K1, K2⟩ := W
  obtain ⟨e1, e2⟩ := t_X1_turned hp Hc
  have H := K1 _ _ e1 e2
  clear e1 e2 Hc K1 K2
  replace H := i_aln (q := 8) H I_X1_enter_7 rfl rfl
  have W := i_cv0 0 (q := 11) H I_X1_enter_8 K_1_28 Zm_22 rfl rfl
  clear H
  obtain ⟨r1, h1, Hc, K1, K2⟩ := W
  obtain ⟨e1, e2⟩ := t_X1_marks hp Hc
  have H := K1 _ _ e1 e2
  clear e1 e2 Hc K1 K2
  replace H := i_iadd (q := 12) H I_X1_enter_11 rfl
  replace H := i_min (q := 15) H I_X1_enter_12 K_1_31 rfl
  have W := i_cv1 0 (q := 18) H I_X1_enter_15 K_1_37 Zm_21 rfl rfl
  clear H
  obtain ⟨r1, h1, Hc, K1, K2⟩ := W
  obtain ⟨e1, e2⟩ := t_X1_setTurned hp Hc
  have H := K2 _ e1 e2
  clear e1 e2 Hc K1 K2
  obtain ⟨hr, hh⟩ := i_rt H I_X1_enter_18
  exact ⟨hr, hh⟩
theorem t_X1_calm {d : Nat} {m : zM} {r : Option Value} {h' : zHp} {p : Nat} (hp : zLY[p]? = some (Sum.inr 1, List.replicate 4 none)) (H : zE none d zm_X1_calm 0 [.ref p] [] m r h') : r = none ∧ h' = zhp (zup (zup m p 1 (zmax 0 (m p 1 - 1))) p 2 (zmax 0 (m p 2 - 1))) := by
  replace H := i_aln (q := 1) H I_X1_calm_0 rfl rfl
  replace H := i_icst (x := 0) (q := 2) H I_X1_calm_1 (by decide) rfl
  replace H := i_aln (q := 3) H I_X1_calm_2 rfl rfl
  replace H := i_gfi (q := 6) H I_X1_calm_3 G_1_15 cn_X1_calm hp rfl rfl
  replace H := i_icst (x := 1) (q := 7) H I_X1_calm_6 (by decide) rfl
  replace H := i_isub (q := 8) H I_X1_calm_7 rfl
  replace H := i_max (q := 11) H I_X1_calm_8 K_1_41 rfl
  replace H := i_pf (q := 14) H I_X1_calm_11 G_1_15 cn_X1_calm hp rfl rfl
  replace H := i_aln (q := 15) H I_X1_calm_14 rfl rfl
  replace H := i_icst (x := 0) (q := 16) H I_X1_calm_15 (by decide) rfl
  replace H := i_aln (q := 17) H I_X1_calm_16 rfl rfl
  replace H := i_gfi (q := 20) H I_X1_calm_17 G_1_18 cn_X1_calm hp rfl rfl
  replace H := i_icst (x := 1) (q := 21) H I_X1_calm_20 (by decide) rfl
  replace H := i_isub (q := 22) H I_X1_calm_21 rfl
  replace H := i_max (q := 25) H I_X1_calm_22 K_1_41 rfl
  replace H := i_pf (q := 28) H I_X1_calm_25 G_1_18 cn_X1_calm hp rfl rfl
  obtain ⟨hr, hh⟩ := i_rt H I_X1_calm_28
  refine ⟨hr, hh.trans ?_⟩
  simp [zmax, zup]
theorem t_X1_become {d : Nat} {m : zM} {r : Option Value} {h' : zHp} {p o : Nat} (hp : zLY[p]? = some (Sum.inr 1, List.replicate 4 none)) (ho : zLY[o]? = some (Sum.inr 1, List.replicate 4 none)) (H : zE none d zm_X1_become 0 [.ref p, .ref o] [] m r h') : r = none ∧ h' = zhp (zup (zup (zup (zup m p 0 (m o 0)) p 1 (m o 1)) p 2 (m o 2)) p 3 (m o 3)) := by
  replace H := i_aln (q := 1) H I_X1_become_0 rfl rfl
  replace H := i_aln (q := 2) H I_X1_become_1 rfl rfl
  replace H := i_gfi (q := 5) H I_X1_become_2 G_1_9 cn_X1_become ho rfl rfl
  replace H := i_pf (q := 8) H I_X1_become_5 G_1_9 cn_X1_become hp rfl rfl
  replace H := i_aln (q := 9) H I_X1_become_8 rfl rfl
  replace H := i_aln (q := 10) H I_X1_become_9 rfl rfl
  replace H := i_gfi (q := 13) H I_X1_become_10 G_1_15 cn_X1_become ho rfl rfl
  replace H := i_pf (q := 16) H I_X1_become_13 G_1_15 cn_X1_become hp rfl rfl
  replace H := i_aln (q := 17) H I_X1_become_16 rfl rfl
  replace H := i_aln (q := 18) H I_X1_become_17 rfl rfl
  replace H := i_gfi (q := 21) H I_X1_become_18 G_1_18 cn_X1_become ho rfl rfl
  replace H := i_pf (q := 24) H I_X1_become_21 G_1_18 cn_X1_become hp rfl rfl
  replace H := i_aln (q := 25) H I_X1_become_24 rfl rfl
  replace H := i_aln (q := 26) H I_X1_become_25 rfl rfl
  replace H := i_gfi (q := 29) H I_X1_become_26 G_1_21 cn_X1_become ho rfl rfl
  replace H := i_pf (q := 32) H I_X1_become_29 G_1_21 cn_X1_become hp rfl rfl
  obtain ⟨hr, hh⟩ := i_rt H I_X1_become_32
  refine ⟨hr, hh.trans ?_⟩
  congr 1
  funext a b
  simp only [zup]
  by_cases h1 : a = p <;> by_cases h2 : b = 0 <;> by_cases h3 : b = 1 <;> by_cases h4 : b = 2 <;> by_cases h5 : b = 3 <;> by_cases h6 : o = p <;> simp_all
