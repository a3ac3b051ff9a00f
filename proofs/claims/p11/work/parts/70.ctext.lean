/-! the class's text -/
theorem It_X0_become : zm_X0_become.2.2.2.2.2 = zt_X0_become := by
  unfold zm_X0_become
  rfl
theorem It_X0_clear : zm_X0_clear.2.2.2.2.2 = zt_X0_clear := by
  unfold zm_X0_clear
  rfl
theorem It_X0_useHands : zm_X0_useHands.2.2.2.2.2 = zt_X0_useHands := by
  unfold zm_X0_useHands
  rfl
theorem It_X2_allAreThere : zm_X2_allAreThere.2.2.2.2.2 = zt_X2_allAreThere := by
  unfold zm_X2_allAreThere
  rfl
theorem It_X2_readAll : zm_X2_readAll.2.2.2.2.2 = zt_X2_readAll := by
  unfold zm_X2_readAll
  rfl
theorem It_X7_text : zm_X7_text.2.2.2.2.2 = zt_X7_text := by
  unfold zm_X7_text
  rfl
theorem I_X0_become_0 : zin zm_X0_become.2.2.2.2.2 0 = some (.aload_n 0, 1) := by rw [It_X0_become]; rfl
theorem I_X0_become_1 : zin zm_X0_become.2.2.2.2.2 1 = some (.aload_n 1, 1) := by rw [It_X0_become]; rfl
theorem I_X0_become_2 : zin zm_X0_become.2.2.2.2.2 2 = some (.getfield 26, 3) := by rw [It_X0_become]; rfl
theorem I_X0_become_5 : zin zm_X0_become.2.2.2.2.2 5 = some (.putfield 26, 3) := by rw [It_X0_become]; rfl
theorem I_X0_become_8 : zin zm_X0_become.2.2.2.2.2 8 = some (.iconst 0, 1) := by rw [It_X0_become]; rfl
theorem I_X0_become_9 : zin zm_X0_become.2.2.2.2.2 9 = some (.istore_n 2, 1) := by rw [It_X0_become]; rfl
theorem I_X0_become_10 : zin zm_X0_become.2.2.2.2.2 10 = some (.iload_n 2, 1) := by rw [It_X0_become]; rfl
theorem I_X0_become_11 : zin zm_X0_become.2.2.2.2.2 11 = some (.aload_n 0, 1) := by rw [It_X0_become]; rfl
theorem I_X0_become_12 : zin zm_X0_become.2.2.2.2.2 12 = some (.getfield 26, 3) := by rw [It_X0_become]; rfl
theorem I_X0_become_15 : zin zm_X0_become.2.2.2.2.2 15 = some (.if_icmp .ge 24, 3) := by rw [It_X0_become]; rfl
theorem I_X0_become_18 : zin zm_X0_become.2.2.2.2.2 18 = some (.aload_n 0, 1) := by rw [It_X0_become]; rfl
theorem I_X0_become_19 : zin zm_X0_become.2.2.2.2.2 19 = some (.getfield 11, 3) := by rw [It_X0_become]; rfl
theorem I_X0_become_22 : zin zm_X0_become.2.2.2.2.2 22 = some (.iload_n 2, 1) := by rw [It_X0_become]; rfl
theorem I_X0_become_23 : zin zm_X0_become.2.2.2.2.2 23 = some (.aaload, 1) := by rw [It_X0_become]; rfl
theorem I_X0_become_24 : zin zm_X0_become.2.2.2.2.2 24 = some (.aload_n 1, 1) := by rw [It_X0_become]; rfl
theorem I_X0_become_25 : zin zm_X0_become.2.2.2.2.2 25 = some (.getfield 11, 3) := by rw [It_X0_become]; rfl
theorem I_X0_become_28 : zin zm_X0_become.2.2.2.2.2 28 = some (.iload_n 2, 1) := by rw [It_X0_become]; rfl
theorem I_X0_become_29 : zin zm_X0_become.2.2.2.2.2 29 = some (.aaload, 1) := by rw [It_X0_become]; rfl
theorem I_X0_become_30 : zin zm_X0_become.2.2.2.2.2 30 = some (.invokevirtual 35, 3) := by rw [It_X0_become]; rfl
theorem I_X0_become_33 : zin zm_X0_become.2.2.2.2.2 33 = some (.iinc 2 1, 3) := by rw [It_X0_become]; rfl
theorem I_X0_become_36 : zin zm_X0_become.2.2.2.2.2 36 = some (.goto (-26), 3) := by rw [It_X0_become]; rfl
theorem I_X0_become_39 : zin zm_X0_become.2.2.2.2.2 39 = some (.aload_n 0, 1) := by rw [It_X0_become]; rfl
theorem I_X0_become_40 : zin zm_X0_become.2.2.2.2.2 40 = some (.aload_n 1, 1) := by rw [It_X0_become]; rfl
theorem I_X0_become_41 : zin zm_X0_become.2.2.2.2.2 41 = some (.getfield 29, 3) := by rw [It_X0_become]; rfl
theorem I_X0_become_44 : zin zm_X0_become.2.2.2.2.2 44 = some (.putfield 29, 3) := by rw [It_X0_become]; rfl
theorem I_X0_become_47 : zin zm_X0_become.2.2.2.2.2 47 = some (.iconst 0, 1) := by rw [It_X0_become]; rfl
theorem I_X0_become_48 : zin zm_X0_become.2.2.2.2.2 48 = some (.istore_n 2, 1) := by rw [It_X0_become]; rfl
theorem I_X0_become_49 : zin zm_X0_become.2.2.2.2.2 49 = some (.iload_n 2, 1) := by rw [It_X0_become]; rfl
theorem I_X0_become_50 : zin zm_X0_become.2.2.2.2.2 50 = some (.aload_n 0, 1) := by rw [It_X0_become]; rfl
theorem I_X0_become_51 : zin zm_X0_become.2.2.2.2.2 51 = some (.getfield 29, 3) := by rw [It_X0_become]; rfl
theorem I_X0_become_54 : zin zm_X0_become.2.2.2.2.2 54 = some (.if_icmp .ge 21, 3) := by rw [It_X0_become]; rfl
theorem I_X0_become_57 : zin zm_X0_become.2.2.2.2.2 57 = some (.aload_n 0, 1) := by rw [It_X0_become]; rfl
theorem I_X0_become_58 : zin zm_X0_become.2.2.2.2.2 58 = some (.getfield 17, 3) := by rw [It_X0_become]; rfl
theorem I_X0_become_61 : zin zm_X0_become.2.2.2.2.2 61 = some (.iload_n 2, 1) := by rw [It_X0_become]; rfl
theorem I_X0_become_62 : zin zm_X0_become.2.2.2.2.2 62 = some (.aload_n 1, 1) := by rw [It_X0_become]; rfl
theorem I_X0_become_63 : zin zm_X0_become.2.2.2.2.2 63 = some (.getfield 17, 3) := by rw [It_X0_become]; rfl
theorem I_X0_become_66 : zin zm_X0_become.2.2.2.2.2 66 = some (.iload_n 2, 1) := by rw [It_X0_become]; rfl
theorem I_X0_become_67 : zin zm_X0_become.2.2.2.2.2 67 = some (.iaload, 1) := by rw [It_X0_become]; rfl
theorem I_X0_become_68 : zin zm_X0_become.2.2.2.2.2 68 = some (.iastore, 1) := by rw [It_X0_become]; rfl
theorem I_X0_become_69 : zin zm_X0_become.2.2.2.2.2 69 = some (.iinc 2 1, 3) := by rw [It_X0_become]; rfl
theorem I_X0_become_72 : zin zm_X0_become.2.2.2.2.2 72 = some (.goto (-23), 3) := by rw [It_X0_become]; rfl
theorem I_X0_become_75 : zin zm_X0_become.2.2.2.2.2 75 = some (.aload_n 0, 1) := by rw [It_X0_become]; rfl
theorem I_X0_become_76 : zin zm_X0_become.2.2.2.2.2 76 = some (.aload_n 1, 1) := by rw [It_X0_become]; rfl
theorem I_X0_become_77 : zin zm_X0_become.2.2.2.2.2 77 = some (.getfield 21, 3) := by rw [It_X0_become]; rfl
theorem I_X0_become_80 : zin zm_X0_become.2.2.2.2.2 80 = some (.putfield 21, 3) := by rw [It_X0_become]; rfl
theorem I_X0_become_83 : zin zm_X0_become.2.2.2.2.2 83 = some (.aload_n 0, 1) := by rw [It_X0_become]; rfl
theorem I_X0_become_84 : zin zm_X0_become.2.2.2.2.2 84 = some (.aload_n 1, 1) := by rw [It_X0_become]; rfl
theorem I_X0_become_85 : zin zm_X0_become.2.2.2.2.2 85 = some (.getfield 32, 3) := by rw [It_X0_become]; rfl
theorem I_X0_become_88 : zin zm_X0_become.2.2.2.2.2 88 = some (.putfield 32, 3) := by rw [It_X0_become]; rfl
theorem I_X0_become_91 : zin zm_X0_become.2.2.2.2.2 91 = some (.return_, 1) := by rw [It_X0_become]; rfl
theorem I_X0_clear_0 : zin zm_X0_clear.2.2.2.2.2 0 = some (.aload_n 0, 1) := by rw [It_X0_clear]; rfl
theorem I_X0_clear_1 : zin zm_X0_clear.2.2.2.2.2 1 = some (.iconst 0, 1) := by rw [It_X0_clear]; rfl
theorem I_X0_clear_2 : zin zm_X0_clear.2.2.2.2.2 2 = some (.putfield 26, 3) := by rw [It_X0_clear]; rfl
theorem I_X0_clear_5 : zin zm_X0_clear.2.2.2.2.2 5 = some (.aload_n 0, 1) := by rw [It_X0_clear]; rfl
theorem I_X0_clear_6 : zin zm_X0_clear.2.2.2.2.2 6 = some (.iconst 0, 1) := by rw [It_X0_clear]; rfl
theorem I_X0_clear_7 : zin zm_X0_clear.2.2.2.2.2 7 = some (.putfield 29, 3) := by rw [It_X0_clear]; rfl
theorem I_X0_clear_10 : zin zm_X0_clear.2.2.2.2.2 10 = some (.aload_n 0, 1) := by rw [It_X0_clear]; rfl
theorem I_X0_clear_11 : zin zm_X0_clear.2.2.2.2.2 11 = some (.iconst 1, 1) := by rw [It_X0_clear]; rfl
theorem I_X0_clear_12 : zin zm_X0_clear.2.2.2.2.2 12 = some (.putfield 21, 3) := by rw [It_X0_clear]; rfl
theorem I_X0_clear_15 : zin zm_X0_clear.2.2.2.2.2 15 = some (.aload_n 0, 1) := by rw [It_X0_clear]; rfl
theorem I_X0_clear_16 : zin zm_X0_clear.2.2.2.2.2 16 = some (.iconst 0, 1) := by rw [It_X0_clear]; rfl
theorem I_X0_clear_17 : zin zm_X0_clear.2.2.2.2.2 17 = some (.putfield 32, 3) := by rw [It_X0_clear]; rfl
theorem I_X0_clear_20 : zin zm_X0_clear.2.2.2.2.2 20 = some (.return_, 1) := by rw [It_X0_clear]; rfl
theorem I_X0_useHands_0 : zin zm_X0_useHands.2.2.2.2.2 0 = some (.iconst 0, 1) := by rw [It_X0_useHands]; rfl
theorem I_X0_useHands_1 : zin zm_X0_useHands.2.2.2.2.2 1 = some (.istore_n 2, 1) := by rw [It_X0_useHands]; rfl
theorem I_X0_useHands_2 : zin zm_X0_useHands.2.2.2.2.2 2 = some (.iload_n 2, 1) := by rw [It_X0_useHands]; rfl
theorem I_X0_useHands_3 : zin zm_X0_useHands.2.2.2.2.2 3 = some (.aload_n 0, 1) := by rw [It_X0_useHands]; rfl
theorem I_X0_useHands_4 : zin zm_X0_useHands.2.2.2.2.2 4 = some (.getfield 26, 3) := by rw [It_X0_useHands]; rfl
theorem I_X0_useHands_7 : zin zm_X0_useHands.2.2.2.2.2 7 = some (.if_icmp .ge 23, 3) := by rw [It_X0_useHands]; rfl
theorem I_X0_useHands_10 : zin zm_X0_useHands.2.2.2.2.2 10 = some (.aload_n 0, 1) := by rw [It_X0_useHands]; rfl
theorem I_X0_useHands_11 : zin zm_X0_useHands.2.2.2.2.2 11 = some (.getfield 11, 3) := by rw [It_X0_useHands]; rfl
theorem I_X0_useHands_14 : zin zm_X0_useHands.2.2.2.2.2 14 = some (.iload_n 2, 1) := by rw [It_X0_useHands]; rfl
theorem I_X0_useHands_15 : zin zm_X0_useHands.2.2.2.2.2 15 = some (.aaload, 1) := by rw [It_X0_useHands]; rfl
theorem I_X0_useHands_16 : zin zm_X0_useHands.2.2.2.2.2 16 = some (.iload_n 1, 1) := by rw [It_X0_useHands]; rfl
theorem I_X0_useHands_17 : zin zm_X0_useHands.2.2.2.2.2 17 = some (.iload_n 2, 1) := by rw [It_X0_useHands]; rfl
theorem I_X0_useHands_18 : zin zm_X0_useHands.2.2.2.2.2 18 = some (.ishr, 1) := by rw [It_X0_useHands]; rfl
theorem I_X0_useHands_19 : zin zm_X0_useHands.2.2.2.2.2 19 = some (.iconst 1, 1) := by rw [It_X0_useHands]; rfl
theorem I_X0_useHands_20 : zin zm_X0_useHands.2.2.2.2.2 20 = some (.iand, 1) := by rw [It_X0_useHands]; rfl
theorem I_X0_useHands_21 : zin zm_X0_useHands.2.2.2.2.2 21 = some (.putfield 48, 3) := by rw [It_X0_useHands]; rfl
theorem I_X0_useHands_24 : zin zm_X0_useHands.2.2.2.2.2 24 = some (.iinc 2 1, 3) := by rw [It_X0_useHands]; rfl
theorem I_X0_useHands_27 : zin zm_X0_useHands.2.2.2.2.2 27 = some (.goto (-25), 3) := by rw [It_X0_useHands]; rfl
theorem I_X0_useHands_30 : zin zm_X0_useHands.2.2.2.2.2 30 = some (.return_, 1) := by rw [It_X0_useHands]; rfl
theorem I_X2_allAreThere_0 : zin zm_X2_allAreThere.2.2.2.2.2 0 = some (.aload_n 0, 1) := by rw [It_X2_allAreThere]; rfl
theorem I_X2_allAreThere_1 : zin zm_X2_allAreThere.2.2.2.2.2 1 = some (.getfield 38, 3) := by rw [It_X2_allAreThere]; rfl
theorem I_X2_allAreThere_4 : zin zm_X2_allAreThere.2.2.2.2.2 4 = some (.istore_n 1, 1) := by rw [It_X2_allAreThere]; rfl
theorem I_X2_allAreThere_5 : zin zm_X2_allAreThere.2.2.2.2.2 5 = some (.iconst 0, 1) := by rw [It_X2_allAreThere]; rfl
theorem I_X2_allAreThere_6 : zin zm_X2_allAreThere.2.2.2.2.2 6 = some (.istore_n 2, 1) := by rw [It_X2_allAreThere]; rfl
theorem I_X2_allAreThere_7 : zin zm_X2_allAreThere.2.2.2.2.2 7 = some (.iload_n 2, 1) := by rw [It_X2_allAreThere]; rfl
theorem I_X2_allAreThere_8 : zin zm_X2_allAreThere.2.2.2.2.2 8 = some (.aload_n 0, 1) := by rw [It_X2_allAreThere]; rfl
theorem I_X2_allAreThere_9 : zin zm_X2_allAreThere.2.2.2.2.2 9 = some (.getfield 18, 3) := by rw [It_X2_allAreThere]; rfl
theorem I_X2_allAreThere_12 : zin zm_X2_allAreThere.2.2.2.2.2 12 = some (.getfield 61, 3) := by rw [It_X2_allAreThere]; rfl
theorem I_X2_allAreThere_15 : zin zm_X2_allAreThere.2.2.2.2.2 15 = some (.if_icmp .ge 21, 3) := by rw [It_X2_allAreThere]; rfl
theorem I_X2_allAreThere_18 : zin zm_X2_allAreThere.2.2.2.2.2 18 = some (.iload_n 1, 1) := by rw [It_X2_allAreThere]; rfl
theorem I_X2_allAreThere_19 : zin zm_X2_allAreThere.2.2.2.2.2 19 = some (.aload_n 0, 1) := by rw [It_X2_allAreThere]; rfl
theorem I_X2_allAreThere_20 : zin zm_X2_allAreThere.2.2.2.2.2 20 = some (.getfield 18, 3) := by rw [It_X2_allAreThere]; rfl
theorem I_X2_allAreThere_23 : zin zm_X2_allAreThere.2.2.2.2.2 23 = some (.getfield 64, 3) := by rw [It_X2_allAreThere]; rfl
theorem I_X2_allAreThere_26 : zin zm_X2_allAreThere.2.2.2.2.2 26 = some (.iload_n 2, 1) := by rw [It_X2_allAreThere]; rfl
theorem I_X2_allAreThere_27 : zin zm_X2_allAreThere.2.2.2.2.2 27 = some (.iaload, 1) := by rw [It_X2_allAreThere]; rfl
theorem I_X2_allAreThere_28 : zin zm_X2_allAreThere.2.2.2.2.2 28 = some (.ior, 1) := by rw [It_X2_allAreThere]; rfl
theorem I_X2_allAreThere_29 : zin zm_X2_allAreThere.2.2.2.2.2 29 = some (.istore_n 1, 1) := by rw [It_X2_allAreThere]; rfl
theorem I_X2_allAreThere_30 : zin zm_X2_allAreThere.2.2.2.2.2 30 = some (.iinc 2 1, 3) := by rw [It_X2_allAreThere]; rfl
theorem I_X2_allAreThere_33 : zin zm_X2_allAreThere.2.2.2.2.2 33 = some (.goto (-26), 3) := by rw [It_X2_allAreThere]; rfl
theorem I_X2_allAreThere_36 : zin zm_X2_allAreThere.2.2.2.2.2 36 = some (.iload_n 1, 1) := by rw [It_X2_allAreThere]; rfl
theorem I_X2_allAreThere_37 : zin zm_X2_allAreThere.2.2.2.2.2 37 = some (.aload_n 0, 1) := by rw [It_X2_allAreThere]; rfl
theorem I_X2_allAreThere_38 : zin zm_X2_allAreThere.2.2.2.2.2 38 = some (.getfield 18, 3) := by rw [It_X2_allAreThere]; rfl
theorem I_X2_allAreThere_41 : zin zm_X2_allAreThere.2.2.2.2.2 41 = some (.getfield 68, 3) := by rw [It_X2_allAreThere]; rfl
theorem I_X2_allAreThere_44 : zin zm_X2_allAreThere.2.2.2.2.2 44 = some (.ishr, 1) := by rw [It_X2_allAreThere]; rfl
theorem I_X2_allAreThere_45 : zin zm_X2_allAreThere.2.2.2.2.2 45 = some (.ifCond .eq 14, 3) := by rw [It_X2_allAreThere]; rfl
theorem I_X2_allAreThere_48 : zin zm_X2_allAreThere.2.2.2.2.2 48 = some (.aload_n 0, 1) := by rw [It_X2_allAreThere]; rfl
theorem I_X2_allAreThere_49 : zin zm_X2_allAreThere.2.2.2.2.2 49 = some (.bipush 6, 2) := by rw [It_X2_allAreThere]; rfl
theorem I_X2_allAreThere_51 : zin zm_X2_allAreThere.2.2.2.2.2 51 = some (.aload_n 0, 1) := by rw [It_X2_allAreThere]; rfl
theorem I_X2_allAreThere_52 : zin zm_X2_allAreThere.2.2.2.2.2 52 = some (.getfield 71, 3) := by rw [It_X2_allAreThere]; rfl
theorem I_X2_allAreThere_55 : zin zm_X2_allAreThere.2.2.2.2.2 55 = some (.invokevirtual 74, 3) := by rw [It_X2_allAreThere]; rfl
theorem I_X2_allAreThere_58 : zin zm_X2_allAreThere.2.2.2.2.2 58 = some (.ireturn, 1) := by rw [It_X2_allAreThere]; rfl
theorem I_X2_allAreThere_59 : zin zm_X2_allAreThere.2.2.2.2.2 59 = some (.aload_n 0, 1) := by rw [It_X2_allAreThere]; rfl
theorem I_X2_allAreThere_60 : zin zm_X2_allAreThere.2.2.2.2.2 60 = some (.getfield 18, 3) := by rw [It_X2_allAreThere]; rfl
theorem I_X2_allAreThere_63 : zin zm_X2_allAreThere.2.2.2.2.2 63 = some (.aload_n 0, 1) := by rw [It_X2_allAreThere]; rfl
theorem I_X2_allAreThere_64 : zin zm_X2_allAreThere.2.2.2.2.2 64 = some (.getfield 38, 3) := by rw [It_X2_allAreThere]; rfl
theorem I_X2_allAreThere_67 : zin zm_X2_allAreThere.2.2.2.2.2 67 = some (.invokevirtual 78, 3) := by rw [It_X2_allAreThere]; rfl
theorem I_X2_allAreThere_70 : zin zm_X2_allAreThere.2.2.2.2.2 70 = some (.iconst 1, 1) := by rw [It_X2_allAreThere]; rfl
theorem I_X2_allAreThere_71 : zin zm_X2_allAreThere.2.2.2.2.2 71 = some (.ireturn, 1) := by rw [It_X2_allAreThere]; rfl
theorem I_X2_readAll_0 : zin zm_X2_readAll.2.2.2.2.2 0 = some (.aload_n 0, 1) := by rw [It_X2_readAll]; rfl
theorem I_X2_readAll_1 : zin zm_X2_readAll.2.2.2.2.2 1 = some (.getfield 18, 3) := by rw [It_X2_readAll]; rfl
theorem I_X2_readAll_4 : zin zm_X2_readAll.2.2.2.2.2 4 = some (.invokevirtual 22, 3) := by rw [It_X2_readAll]; rfl
theorem I_X2_readAll_7 : zin zm_X2_readAll.2.2.2.2.2 7 = some (.aload_n 0, 1) := by rw [It_X2_readAll]; rfl
theorem I_X2_readAll_8 : zin zm_X2_readAll.2.2.2.2.2 8 = some (.iconst 0, 1) := by rw [It_X2_readAll]; rfl
theorem I_X2_readAll_9 : zin zm_X2_readAll.2.2.2.2.2 9 = some (.putfield 25, 3) := by rw [It_X2_readAll]; rfl
theorem I_X2_readAll_12 : zin zm_X2_readAll.2.2.2.2.2 12 = some (.aload_n 0, 1) := by rw [It_X2_readAll]; rfl
theorem I_X2_readAll_13 : zin zm_X2_readAll.2.2.2.2.2 13 = some (.iconst 0, 1) := by rw [It_X2_readAll]; rfl
theorem I_X2_readAll_14 : zin zm_X2_readAll.2.2.2.2.2 14 = some (.putfield 29, 3) := by rw [It_X2_readAll]; rfl
theorem I_X2_readAll_17 : zin zm_X2_readAll.2.2.2.2.2 17 = some (.aload_n 0, 1) := by rw [It_X2_readAll]; rfl
theorem I_X2_readAll_18 : zin zm_X2_readAll.2.2.2.2.2 18 = some (.iconst 0, 1) := by rw [It_X2_readAll]; rfl
theorem I_X2_readAll_19 : zin zm_X2_readAll.2.2.2.2.2 19 = some (.putfield 32, 3) := by rw [It_X2_readAll]; rfl
theorem I_X2_readAll_22 : zin zm_X2_readAll.2.2.2.2.2 22 = some (.aload_n 0, 1) := by rw [It_X2_readAll]; rfl
theorem I_X2_readAll_23 : zin zm_X2_readAll.2.2.2.2.2 23 = some (.iconst 0, 1) := by rw [It_X2_readAll]; rfl
theorem I_X2_readAll_24 : zin zm_X2_readAll.2.2.2.2.2 24 = some (.putfield 35, 3) := by rw [It_X2_readAll]; rfl
theorem I_X2_readAll_27 : zin zm_X2_readAll.2.2.2.2.2 27 = some (.aload_n 0, 1) := by rw [It_X2_readAll]; rfl
theorem I_X2_readAll_28 : zin zm_X2_readAll.2.2.2.2.2 28 = some (.iconst 0, 1) := by rw [It_X2_readAll]; rfl
theorem I_X2_readAll_29 : zin zm_X2_readAll.2.2.2.2.2 29 = some (.putfield 38, 3) := by rw [It_X2_readAll]; rfl
theorem I_X2_readAll_32 : zin zm_X2_readAll.2.2.2.2.2 32 = some (.aload_n 0, 1) := by rw [It_X2_readAll]; rfl
theorem I_X2_readAll_33 : zin zm_X2_readAll.2.2.2.2.2 33 = some (.iconst 0, 1) := by rw [It_X2_readAll]; rfl
theorem I_X2_readAll_34 : zin zm_X2_readAll.2.2.2.2.2 34 = some (.putfield 41, 3) := by rw [It_X2_readAll]; rfl
theorem I_X2_readAll_37 : zin zm_X2_readAll.2.2.2.2.2 37 = some (.aload_n 0, 1) := by rw [It_X2_readAll]; rfl
theorem I_X2_readAll_38 : zin zm_X2_readAll.2.2.2.2.2 38 = some (.iconst 0, 1) := by rw [It_X2_readAll]; rfl
theorem I_X2_readAll_39 : zin zm_X2_readAll.2.2.2.2.2 39 = some (.putfield 45, 3) := by rw [It_X2_readAll]; rfl
theorem I_X2_readAll_42 : zin zm_X2_readAll.2.2.2.2.2 42 = some (.iconst 0, 1) := by rw [It_X2_readAll]; rfl
theorem I_X2_readAll_43 : zin zm_X2_readAll.2.2.2.2.2 43 = some (.istore_n 1, 1) := by rw [It_X2_readAll]; rfl
theorem I_X2_readAll_44 : zin zm_X2_readAll.2.2.2.2.2 44 = some (.iload_n 1, 1) := by rw [It_X2_readAll]; rfl
theorem I_X2_readAll_45 : zin zm_X2_readAll.2.2.2.2.2 45 = some (.sipush 160, 3) := by rw [It_X2_readAll]; rfl
theorem I_X2_readAll_48 : zin zm_X2_readAll.2.2.2.2.2 48 = some (.if_icmp .gt 44, 3) := by rw [It_X2_readAll]; rfl
theorem I_X2_readAll_51 : zin zm_X2_readAll.2.2.2.2.2 51 = some (.aload_n 0, 1) := by rw [It_X2_readAll]; rfl
theorem I_X2_readAll_52 : zin zm_X2_readAll.2.2.2.2.2 52 = some (.invokevirtual 48, 3) := by rw [It_X2_readAll]; rfl
theorem I_X2_readAll_55 : zin zm_X2_readAll.2.2.2.2.2 55 = some (.aload_n 0, 1) := by rw [It_X2_readAll]; rfl
theorem I_X2_readAll_56 : zin zm_X2_readAll.2.2.2.2.2 56 = some (.getfield 51, 3) := by rw [It_X2_readAll]; rfl
theorem I_X2_readAll_59 : zin zm_X2_readAll.2.2.2.2.2 59 = some (.ifCond .ne 8, 3) := by rw [It_X2_readAll]; rfl
theorem I_X2_readAll_62 : zin zm_X2_readAll.2.2.2.2.2 62 = some (.aload_n 0, 1) := by rw [It_X2_readAll]; rfl
theorem I_X2_readAll_63 : zin zm_X2_readAll.2.2.2.2.2 63 = some (.invokevirtual 54, 3) := by rw [It_X2_readAll]; rfl
theorem I_X2_readAll_66 : zin zm_X2_readAll.2.2.2.2.2 66 = some (.ireturn, 1) := by rw [It_X2_readAll]; rfl
theorem I_X2_readAll_67 : zin zm_X2_readAll.2.2.2.2.2 67 = some (.aload_n 0, 1) := by rw [It_X2_readAll]; rfl
theorem I_X2_readAll_68 : zin zm_X2_readAll.2.2.2.2.2 68 = some (.invokevirtual 58, 3) := by rw [It_X2_readAll]; rfl
theorem I_X2_readAll_71 : zin zm_X2_readAll.2.2.2.2.2 71 = some (.ifCond .ne 5, 3) := by rw [It_X2_readAll]; rfl
theorem I_X2_readAll_74 : zin zm_X2_readAll.2.2.2.2.2 74 = some (.iconst 0, 1) := by rw [It_X2_readAll]; rfl
theorem I_X2_readAll_75 : zin zm_X2_readAll.2.2.2.2.2 75 = some (.ireturn, 1) := by rw [It_X2_readAll]; rfl
theorem I_X2_readAll_76 : zin zm_X2_readAll.2.2.2.2.2 76 = some (.aload_n 0, 1) := by rw [It_X2_readAll]; rfl
theorem I_X2_readAll_77 : zin zm_X2_readAll.2.2.2.2.2 77 = some (.dup, 1) := by rw [It_X2_readAll]; rfl
theorem I_X2_readAll_78 : zin zm_X2_readAll.2.2.2.2.2 78 = some (.getfield 29, 3) := by rw [It_X2_readAll]; rfl
theorem I_X2_readAll_81 : zin zm_X2_readAll.2.2.2.2.2 81 = some (.iconst 1, 1) := by rw [It_X2_readAll]; rfl
theorem I_X2_readAll_82 : zin zm_X2_readAll.2.2.2.2.2 82 = some (.iadd, 1) := by rw [It_X2_readAll]; rfl
theorem I_X2_readAll_83 : zin zm_X2_readAll.2.2.2.2.2 83 = some (.putfield 29, 3) := by rw [It_X2_readAll]; rfl
theorem I_X2_readAll_86 : zin zm_X2_readAll.2.2.2.2.2 86 = some (.iinc 1 1, 3) := by rw [It_X2_readAll]; rfl
theorem I_X2_readAll_89 : zin zm_X2_readAll.2.2.2.2.2 89 = some (.goto (-45), 3) := by rw [It_X2_readAll]; rfl
theorem I_X2_readAll_92 : zin zm_X2_readAll.2.2.2.2.2 92 = some (.iconst 0, 1) := by rw [It_X2_readAll]; rfl
theorem I_X2_readAll_93 : zin zm_X2_readAll.2.2.2.2.2 93 = some (.ireturn, 1) := by rw [It_X2_readAll]; rfl
theorem I_X7_text_0 : zin zm_X7_text.2.2.2.2.2 0 = some (.aload_n 0, 1) := by rw [It_X7_text]; rfl
theorem I_X7_text_1 : zin zm_X7_text.2.2.2.2.2 1 = some (.getfield 12, 3) := by rw [It_X7_text]; rfl
theorem I_X7_text_4 : zin zm_X7_text.2.2.2.2.2 4 = some (.invokevirtual 67, 3) := by rw [It_X7_text]; rfl
theorem I_X7_text_7 : zin zm_X7_text.2.2.2.2.2 7 = some (.istore_n 1, 1) := by rw [It_X7_text]; rfl
theorem I_X7_text_8 : zin zm_X7_text.2.2.2.2.2 8 = some (.aload_n 0, 1) := by rw [It_X7_text]; rfl
theorem I_X7_text_9 : zin zm_X7_text.2.2.2.2.2 9 = some (.getfield 12, 3) := by rw [It_X7_text]; rfl
theorem I_X7_text_12 : zin zm_X7_text.2.2.2.2.2 12 = some (.iconst 0, 1) := by rw [It_X7_text]; rfl
theorem I_X7_text_13 : zin zm_X7_text.2.2.2.2.2 13 = some (.putfield 59, 3) := by rw [It_X7_text]; rfl
theorem I_X7_text_16 : zin zm_X7_text.2.2.2.2.2 16 = some (.iload_n 1, 1) := by rw [It_X7_text]; rfl
theorem I_X7_text_17 : zin zm_X7_text.2.2.2.2.2 17 = some (.ifCond .ne 14, 3) := by rw [It_X7_text]; rfl
theorem I_X7_text_20 : zin zm_X7_text.2.2.2.2.2 20 = some (.bipush (-10), 2) := by rw [It_X7_text]; rfl
theorem I_X7_text_22 : zin zm_X7_text.2.2.2.2.2 22 = some (.aload_n 0, 1) := by rw [It_X7_text]; rfl
theorem I_X7_text_23 : zin zm_X7_text.2.2.2.2.2 23 = some (.getfield 12, 3) := by rw [It_X7_text]; rfl
theorem I_X7_text_26 : zin zm_X7_text.2.2.2.2.2 26 = some (.getfield 71, 3) := by rw [It_X7_text]; rfl
theorem I_X7_text_29 : zin zm_X7_text.2.2.2.2.2 29 = some (.isub, 1) := by rw [It_X7_text]; rfl
theorem I_X7_text_30 : zin zm_X7_text.2.2.2.2.2 30 = some (.ireturn, 1) := by rw [It_X7_text]; rfl
theorem I_X7_text_31 : zin zm_X7_text.2.2.2.2.2 31 = some (.aload_n 0, 1) := by rw [It_X7_text]; rfl
theorem I_X7_text_32 : zin zm_X7_text.2.2.2.2.2 32 = some (.getfield 19, 3) := by rw [It_X7_text]; rfl
theorem I_X7_text_35 : zin zm_X7_text.2.2.2.2.2 35 = some (.aload_n 0, 1) := by rw [It_X7_text]; rfl
theorem I_X7_text_36 : zin zm_X7_text.2.2.2.2.2 36 = some (.getfield 12, 3) := by rw [It_X7_text]; rfl
theorem I_X7_text_39 : zin zm_X7_text.2.2.2.2.2 39 = some (.getfield 74, 3) := by rw [It_X7_text]; rfl
theorem I_X7_text_42 : zin zm_X7_text.2.2.2.2.2 42 = some (.invokevirtual 77, 3) := by rw [It_X7_text]; rfl
theorem I_X7_text_45 : zin zm_X7_text.2.2.2.2.2 45 = some (.aload_n 0, 1) := by rw [It_X7_text]; rfl
theorem I_X7_text_46 : zin zm_X7_text.2.2.2.2.2 46 = some (.getfield 40, 3) := by rw [It_X7_text]; rfl
theorem I_X7_text_49 : zin zm_X7_text.2.2.2.2.2 49 = some (.iconst 0, 1) := by rw [It_X7_text]; rfl
theorem I_X7_text_50 : zin zm_X7_text.2.2.2.2.2 50 = some (.putfield 81, 3) := by rw [It_X7_text]; rfl
theorem I_X7_text_53 : zin zm_X7_text.2.2.2.2.2 53 = some (.iconst 0, 1) := by rw [It_X7_text]; rfl
theorem I_X7_text_54 : zin zm_X7_text.2.2.2.2.2 54 = some (.istore_n 2, 1) := by rw [It_X7_text]; rfl
theorem I_X7_text_55 : zin zm_X7_text.2.2.2.2.2 55 = some (.iload_n 2, 1) := by rw [It_X7_text]; rfl
theorem I_X7_text_56 : zin zm_X7_text.2.2.2.2.2 56 = some (.iconst 2, 1) := by rw [It_X7_text]; rfl
theorem I_X7_text_57 : zin zm_X7_text.2.2.2.2.2 57 = some (.if_icmp .ge 16, 3) := by rw [It_X7_text]; rfl
theorem I_X7_text_60 : zin zm_X7_text.2.2.2.2.2 60 = some (.aload_n 0, 1) := by rw [It_X7_text]; rfl
theorem I_X7_text_61 : zin zm_X7_text.2.2.2.2.2 61 = some (.getfield 48, 3) := by rw [It_X7_text]; rfl
theorem I_X7_text_64 : zin zm_X7_text.2.2.2.2.2 64 = some (.iload_n 2, 1) := by rw [It_X7_text]; rfl
theorem I_X7_text_65 : zin zm_X7_text.2.2.2.2.2 65 = some (.iconst 0, 1) := by rw [It_X7_text]; rfl
theorem I_X7_text_66 : zin zm_X7_text.2.2.2.2.2 66 = some (.bastore, 1) := by rw [It_X7_text]; rfl
theorem I_X7_text_67 : zin zm_X7_text.2.2.2.2.2 67 = some (.iinc 2 1, 3) := by rw [It_X7_text]; rfl
theorem I_X7_text_70 : zin zm_X7_text.2.2.2.2.2 70 = some (.goto (-15), 3) := by rw [It_X7_text]; rfl
theorem I_X7_text_73 : zin zm_X7_text.2.2.2.2.2 73 = some (.aload_n 0, 1) := by rw [It_X7_text]; rfl
theorem I_X7_text_74 : zin zm_X7_text.2.2.2.2.2 74 = some (.getfield 12, 3) := by rw [It_X7_text]; rfl
theorem I_X7_text_77 : zin zm_X7_text.2.2.2.2.2 77 = some (.getfield 84, 3) := by rw [It_X7_text]; rfl
theorem I_X7_text_80 : zin zm_X7_text.2.2.2.2.2 80 = some (.ireturn, 1) := by rw [It_X7_text]; rfl
theorem G_0_17 : zlk zfls 0 17 = some (0, 1, 121) := rfl
theorem G_0_21 : zlk zfls 0 21 = some (0, 4, 133) := rfl
theorem G_0_29 : zlk zfls 0 29 = some (0, 3, 129) := rfl
theorem G_0_32 : zlk zfls 0 32 = some (0, 5, 136) := rfl
theorem G_2_29 : zlk zfls 2 29 = some (2, 3, 157) := rfl
theorem G_7_12 : zlk zfls 7 12 = some (7, 0, 299) := rfl
theorem G_7_19 : zlk zfls 7 19 = some (7, 1, 300) := rfl
theorem G_7_40 : zlk zfls 7 40 = some (7, 4, 303) := rfl
theorem G_7_48 : zlk zfls 7 48 = some (7, 6, 305) := rfl
theorem G_7_59 : zlk zfls 7 59 = some (2, 2, 155) := rfl
theorem G_7_71 : zlk zfls 7 71 = some (2, 5, 162) := rfl
theorem G_7_74 : zlk zfls 7 74 = some (2, 1, 154) := rfl
theorem G_7_81 : zlk zfls 7 81 = some (6, 3, 264) := rfl
theorem G_7_84 : zlk zfls 7 84 = some (2, 3, 158) := rfl
theorem K_0_35 : zlk zmls 0 35 = some (0, 19, 1, 475) := rfl
theorem K_2_22 : zlk zmls 2 22 = some (0, 1, 0, 343) := rfl
theorem K_2_54 : zlk zmls 2 54 = some (0, 28, 0, 357) := rfl
theorem K_2_58 : zlk zmls 2 58 = some (0, 29, 0, 369) := rfl
theorem K_2_78 : zlk zmls 2 78 = some (0, 7, 1, 365) := rfl
theorem K_7_67 : zlk zmls 7 67 = some (0, 26, 0, 339) := rfl
theorem K_7_77 : zlk zmls 7 77 = some (0, 2, 1, 471) := rfl
theorem Zm_1 : zms[1]? = some zm_X0_clear := rfl
theorem Zm_2 : zms[2]? = some zm_X0_become := rfl
theorem Zm_7 : zms[7]? = some zm_X0_useHands := rfl
theorem Zm_19 : zms[19]? = some zm_X1_become := rfl
theorem Zm_26 : zms[26]? = some zm_X2_readAll := rfl
theorem Zm_28 : zms[28]? = some zm_X2_allAreThere := rfl
theorem Zm_29 : zms[29]? = some zm_X2_readLine := rfl
theorem LY_0 : zLY[0]? = some (Sum.inr 7, [some (.ref 1), some (.ref 11), some (.ref 19), some (.ref 29), some (.ref 40), some (.ref 44), some (.ref 45), some (.ref 46), none]) := rfl
theorem LY_40 : zLY[40]? = some (Sum.inr 6, [some (.ref 41), some (.ref 42), some (.ref 43), none]) := rfl
theorem LY_45 : zLY[45]? = some (Sum.inl 2, List.replicate 2 none) := rfl
theorem cl_X0_become : zm_X0_become.2.2.2.2.1 = 0 := by
  unfold zm_X0_become
  rfl
theorem cn_X0_become : zm_X0_become.2.2.2.2.1 ≠ 12 := by
  rw [cl_X0_become]
  decide
theorem cn2_X0_become : zm_X0_become.2.2.2.2.1 ≠ 2 := by
  rw [cl_X0_become]
  decide
theorem cl_X0_clear : zm_X0_clear.2.2.2.2.1 = 0 := by
  unfold zm_X0_clear
  rfl
theorem cn_X0_clear : zm_X0_clear.2.2.2.2.1 ≠ 12 := by
  rw [cl_X0_clear]
  decide
theorem cn2_X0_clear : zm_X0_clear.2.2.2.2.1 ≠ 2 := by
  rw [cl_X0_clear]
  decide
theorem cl_X0_useHands : zm_X0_useHands.2.2.2.2.1 = 0 := by
  unfold zm_X0_useHands
  rfl
theorem cn_X0_useHands : zm_X0_useHands.2.2.2.2.1 ≠ 12 := by
  rw [cl_X0_useHands]
  decide
theorem cn2_X0_useHands : zm_X0_useHands.2.2.2.2.1 ≠ 2 := by
  rw [cl_X0_useHands]
  decide
theorem cl_X2_allAreThere : zm_X2_allAreThere.2.2.2.2.1 = 2 := by
  unfold zm_X2_allAreThere
  rfl
theorem cn_X2_allAreThere : zm_X2_allAreThere.2.2.2.2.1 ≠ 12 := by
  rw [cl_X2_allAreThere]
  decide
theorem cl_X2_readAll : zm_X2_readAll.2.2.2.2.1 = 2 := by
  unfold zm_X2_readAll
  rfl
theorem cn_X2_readAll : zm_X2_readAll.2.2.2.2.1 ≠ 12 := by
  rw [cl_X2_readAll]
  decide
theorem cl_X7_text : zm_X7_text.2.2.2.2.1 = 7 := by
  unfold zm_X7_text
  rfl
theorem cn_X7_text : zm_X7_text.2.2.2.2.1 ≠ 12 := by
  rw [cl_X7_text]
  decide
theorem cn2_X7_text : zm_X7_text.2.2.2.2.1 ≠ 2 := by
  rw [cl_X7_text]
  decide
/-- a lock of the class holds the page g, of c people -/
def LV (m : zM) (k c : Nat) (g : Nat → Int32) : Prop := m k 2 = Int32.ofNat c ∧ c ≤ 5 ∧ (∀ i, i < c → m (k + 3 + i) 0 = g i ∧ m (k + 3 + i) 1 = g (5 + i) ∧ m (k + 3 + i) 2 = g (10 + i) ∧ m (k + 3 + i) 3 = (g 15 >>> (Int32.ofNat i &&& 31)) &&& 1) ∧ m k 4 = g 16 + 1 ∧ m k 5 = g 17 ∧ ∃ a, a ≤ 8 ∧ g 26 = Int32.ofNat a ∧ m k 3 = Int32.ofNat a ∧ ∀ i, i < a → m (k + 2) i = g (18 + i)
theorem LV_f {m m1 : zM} {k c : Nat} {g : Nat → Int32} (h : LV m k c g) (hf : ∀ a b, k ≤ a → a ≤ k + 7 → m1 a b = m a b) : LV m1 k c g := by
  obtain ⟨h1, h2, h3, h4, h5, a, a1, a2, a3, a4⟩ := h
  refine ⟨by rw [hf _ _ (by omega) (by omega)]; exact h1, h2, fun i hi => ?_, by rw [hf _ _ (by omega) (by omega)]; exact h4, by rw [hf _ _ (by omega) (by omega)]; exact h5, a, a1, a2, by rw [hf _ _ (by omega) (by omega)]; exact a3, fun i hi => by rw [hf _ _ (by omega) (by omega)]; exact a4 i hi⟩
  obtain ⟨x, y, z, w⟩ := h3 i hi
  exact ⟨by rw [hf _ _ (by omega) (by omega)]; exact x, by rw [hf _ _ (by omega) (by omega)]; exact y, by rw [hf _ _ (by omega) (by omega)]; exact z, by rw [hf _ _ (by omega) (by omega)]; exact w⟩
theorem lk_dj {k o : Nat} (hk : zlk6 k) (ho : zlk6 o) (h : k ≠ o) : o + 8 ≤ k ∨ k + 8 ≤ o := by
  unfold zlk6 at hk ho
  omega
theorem uh_loop {k c : Nat} {x : Int32} (hk : zlk6 k) (hc5 : c ≤ 5) : ∀ (j i d : Nat) (r : Option Value) (h' : zHp) (m : zM), i + j = c → m k 2 = Int32.ofNat c → zE none d zm_X0_useHands 2 [.ref k, .int x, .int (Int32.ofNat i)] [] m r h' → ∃ m1, r = none ∧ h' = zhp m1 ∧ (∀ i', i ≤ i' → i' < c → m1 (k + 3 + i') 3 = (x >>> (Int32.ofNat i' &&& 31)) &&& 1) ∧ ∀ a b, ¬ (b = 3 ∧ k + 3 + i ≤ a ∧ a < k + 3 + c) → m1 a b = m a b := by
  intro j
  induction j with
  | zero =>
    intro i d r h' m hj hc H
    replace H := i_iln (q := 3) H I_X0_useHands_2 rfl rfl
    replace H := i_aln (q := 4) H I_X0_useHands_3 rfl rfl
    replace H := i_gfi (q := 7) H I_X0_useHands_4 G_0_26 cn_X0_useHands (lk_0 hk) rfl rfl
    have W := i_ic_ge (t := 30) (q := 10) H I_X0_useHands_7 (by decide) rfl
    clear H
    rcases W with ⟨c_7, H⟩ | ⟨c_7, H⟩
    · skip
      obtain ⟨hr, hh⟩ := i_rt H I_X0_useHands_30
      exact ⟨m, hr, hh, fun i' h1 h2 => by omega, fun a b _ => rfl⟩
    · skip
      replace H := i_aln (q := 11) H I_X0_useHands_10 rfl rfl
      replace H := i_gfr (q := 14) H I_X0_useHands_11 G_0_11 cn_X0_useHands (lk_0 hk) rfl rfl
      replace H := i_iln (q := 15) H I_X0_useHands_14 rfl rfl
      have W := i_folk (k := k) hk (q := 16) H I_X0_useHands_15 rfl
      clear H
      obtain ⟨i_15, bi_15, ei_15, H⟩ := W
      replace H := i_iln (q := 17) H I_X0_useHands_16 rfl rfl
      replace H := i_iln (q := 18) H I_X0_useHands_17 rfl rfl
      replace H := i_ishr (q := 19) H I_X0_useHands_18 rfl
      replace H := i_icst (x := 1) (q := 20) H I_X0_useHands_19 (by decide) rfl
      replace H := i_iand (q := 21) H I_X0_useHands_20 rfl
      replace H := i_pf (q := 24) H I_X0_useHands_21 G_0_48 cn_X0_useHands (lk_p hk bi_15) rfl rfl
      replace H := i_inc (q := 27) H I_X0_useHands_24 rfl rfl rfl
      replace H := i_goto (q := 2) H I_X0_useHands_27 (by decide)
      exfalso
      rw [hc] at c_7
      exact absurd ((zofn_lt (by omega) (by omega)).mp c_7) (by omega)
  | succ j ih =>
    intro i d r h' m hj hc H
    replace H := i_iln (q := 3) H I_X0_useHands_2 rfl rfl
    replace H := i_aln (q := 4) H I_X0_useHands_3 rfl rfl
    replace H := i_gfi (q := 7) H I_X0_useHands_4 G_0_26 cn_X0_useHands (lk_0 hk) rfl rfl
    have W := i_ic_ge (t := 30) (q := 10) H I_X0_useHands_7 (by decide) rfl
    clear H
    rcases W with ⟨c_7, H⟩ | ⟨c_7, H⟩
    · skip
      obtain ⟨hr, hh⟩ := i_rt H I_X0_useHands_30
      exfalso
      rw [hc] at c_7
      exact c_7 ((zofn_lt (by omega) (by omega)).mpr (by omega))
    · skip
      replace H := i_aln (q := 11) H I_X0_useHands_10 rfl rfl
      replace H := i_gfr (q := 14) H I_X0_useHands_11 G_0_11 cn_X0_useHands (lk_0 hk) rfl rfl
      replace H := i_iln (q := 15) H I_X0_useHands_14 rfl rfl
      have W := i_folk (k := k) hk (q := 16) H I_X0_useHands_15 rfl
      clear H
      obtain ⟨i_15, bi_15, ei_15, H⟩ := W
      replace H := i_iln (q := 17) H I_X0_useHands_16 rfl rfl
      replace H := i_iln (q := 18) H I_X0_useHands_17 rfl rfl
      replace H := i_ishr (q := 19) H I_X0_useHands_18 rfl
      replace H := i_icst (x := 1) (q := 20) H I_X0_useHands_19 (by decide) rfl
      replace H := i_iand (q := 21) H I_X0_useHands_20 rfl
      replace H := i_pf (q := 24) H I_X0_useHands_21 G_0_48 cn_X0_useHands (lk_p hk bi_15) rfl rfl
      replace H := i_inc (q := 27) H I_X0_useHands_24 rfl rfl rfl
      replace H := i_goto (q := 2) H I_X0_useHands_27 (by decide)
      have e : i = i_15 := zofn ei_15 (by omega) (by omega)
      subst e
      replace H : zE none d zm_X0_useHands 2 [.ref k, .int x, .int (Int32.ofNat (i + 1))] [] (zup m (k + 3 + i) 3 ((x >>> (Int32.ofNat i &&& 31)) &&& 1)) r h' := by
        rw [zofn_s] at H
        exact H
      obtain ⟨m1, g1, g2, g3, g4⟩ := ih (i + 1) d r h' _ (by omega) (by rw [zup_n (by omega)]; exact hc) H
      refine ⟨m1, g1, g2, fun i' h1 h2 => ?_, fun a b hab => ?_⟩
      · by_cases hi' : i' = i
        · subst hi'
          rw [g4 _ _ (by omega), zup_s]
        · exact g3 i' (by omega) h2
      · rw [g4 a b (by omega), zup_n (by omega)]
theorem t_X0_useHands {d : Nat} {m : zM} {r : Option Value} {h' : zHp} {k c : Nat} {x : Int32} (hk : zlk6 k) (hc5 : c ≤ 5) (hc : m k 2 = Int32.ofNat c) (H : zE none d zm_X0_useHands 0 [.ref k, .int x, .null] [] m r h') : ∃ m1, r = none ∧ h' = zhp m1 ∧ (∀ i', i' < c → m1 (k + 3 + i') 3 = (x >>> (Int32.ofNat i' &&& 31)) &&& 1) ∧ ∀ a b, ¬ (b = 3 ∧ k + 3 ≤ a ∧ a < k + 3 + c) → m1 a b = m a b := by
  replace H := i_icst (x := 0) (q := 1) H I_X0_useHands_0 (by decide) rfl
  replace H := i_isn (q := 2) H I_X0_useHands_1 rfl rfl
  obtain ⟨m1, g1, g2, g3, g4⟩ := uh_loop hk hc5 c 0 d r h' m (by omega) hc H
  exact ⟨m1, g1, g2, fun i' h => g3 i' (by omega) h, fun a b hab => g4 a b (by omega)⟩
theorem t_X0_clear {d : Nat} {m : zM} {r : Option Value} {h' : zHp} {k : Nat} (hk : zlk6 k) (H : zE none d zm_X0_clear 0 [.ref k] [] m r h') : r = none ∧ h' = zhp (zup (zup (zup (zup m k 2 0) k 3 0) k 4 1) k 5 0) := by
  replace H := i_aln (q := 1) H I_X0_clear_0 rfl rfl
  replace H := i_icst (x := 0) (q := 2) H I_X0_clear_1 (by decide) rfl
  replace H := i_pf (q := 5) H I_X0_clear_2 G_0_26 cn_X0_clear (lk_0 hk) rfl rfl
  replace H := i_aln (q := 6) H I_X0_clear_5 rfl rfl
  replace H := i_icst (x := 0) (q := 7) H I_X0_clear_6 (by decide) rfl
  replace H := i_pf (q := 10) H I_X0_clear_7 G_0_29 cn_X0_clear (lk_0 hk) rfl rfl
  replace H := i_aln (q := 11) H I_X0_clear_10 rfl rfl
  replace H := i_icst (x := 1) (q := 12) H I_X0_clear_11 (by decide) rfl
  replace H := i_pf (q := 15) H I_X0_clear_12 G_0_21 cn_X0_clear (lk_0 hk) rfl rfl
  replace H := i_aln (q := 16) H I_X0_clear_15 rfl rfl
  replace H := i_icst (x := 0) (q := 17) H I_X0_clear_16 (by decide) rfl
  replace H := i_pf (q := 20) H I_X0_clear_17 G_0_32 cn_X0_clear (lk_0 hk) rfl rfl
  obtain ⟨hr, hh⟩ := i_rt H I_X0_clear_20
  exact ⟨hr, hh⟩
theorem bc_people {k o c : Nat} (hk : zlk6 k) (ho : zlk6 o) (hko : o + 8 ≤ k ∨ k + 8 ≤ o) (hc5 : c ≤ 5) : ∀ (j i d : Nat) (r : Option Value) (h' : zHp) (m : zM), i + j = c → m k 2 = Int32.ofNat c → zE none d zm_X0_become 10 [.ref k, .ref o, .int (Int32.ofNat i)] [] m r h' → ∃ m1, zE none d zm_X0_become 39 [.ref k, .ref o, .int (Int32.ofNat c)] [] m1 r h' ∧ (∀ i', i ≤ i' → i' < c → ∀ b, b < 4 → m1 (k + 3 + i') b = m (o + 3 + i') b) ∧ ∀ a b, ¬ (k + 3 + i ≤ a ∧ a < k + 3 + c) → m1 a b = m a b := by
  intro j
  induction j with
  | zero =>
    intro i d r h' m hj hc H
    have e : i = c := by omega
    subst e
    replace H := i_iln (q := 11) H I_X0_become_10 rfl rfl
    replace H := i_aln (q := 12) H I_X0_become_11 rfl rfl
    replace H := i_gfi (q := 15) H I_X0_become_12 G_0_26 cn_X0_become (lk_0 hk) rfl rfl
    have W := i_ic_ge (t := 39) (q := 18) H I_X0_become_15 (by decide) rfl
    clear H
    rcases W with ⟨c_15, H⟩ | ⟨c_15, H⟩
    · skip
      exact ⟨m, H, fun i' h1 h2 => by omega, fun a b _ => rfl⟩
    · skip
      replace H := i_aln (q := 19) H I_X0_become_18 rfl rfl
      replace H := i_gfr (q := 22) H I_X0_become_19 G_0_11 cn_X0_become (lk_0 hk) rfl rfl
      replace H := i_iln (q := 23) H I_X0_become_22 rfl rfl
      have W := i_folk (k := k) hk (q := 24) H I_X0_become_23 rfl
      clear H
      obtain ⟨i_23, bi_23, ei_23, H⟩ := W
      replace H := i_aln (q := 25) H I_X0_become_24 rfl rfl
      replace H := i_gfr (q := 28) H I_X0_become_25 G_0_11 cn_X0_become (lk_0 ho) rfl rfl
      replace H := i_iln (q := 29) H I_X0_become_28 rfl rfl
      have W := i_folk (k := o) ho (q := 30) H I_X0_become_29 rfl
      clear H
      obtain ⟨i_29, bi_29, ei_29, H⟩ := W
      have W := i_cv1 0 (q := 33) H I_X0_become_30 K_0_35 Zm_19 rfl rfl
      clear H
      obtain ⟨r1, h1, Hc, K1, K2⟩ := W
      obtain ⟨e1, e2⟩ := t_X1_become (lk_p hk bi_23) (lk_p ho bi_29) Hc
      have H := K2 _ e1 e2
      clear e1 e2 Hc K1 K2
      replace H := i_inc (q := 36) H I_X0_become_33 rfl rfl rfl
      replace H := i_goto (q := 10) H I_X0_become_36 (by decide)
      exfalso
      rw [hc] at c_15
      exact absurd ((zofn_lt (by omega) (by omega)).mp c_15) (by omega)
  | succ j ih =>
    intro i d r h' m hj hc H
    replace H := i_iln (q := 11) H I_X0_become_10 rfl rfl
    replace H := i_aln (q := 12) H I_X0_become_11 rfl rfl
    replace H := i_gfi (q := 15) H I_X0_become_12 G_0_26 cn_X0_become (lk_0 hk) rfl rfl
    have W := i_ic_ge (t := 39) (q := 18) H I_X0_become_15 (by decide) rfl
    clear H
    rcases W with ⟨c_15, H⟩ | ⟨c_15, H⟩
    · skip
      exfalso
      rw [hc] at c_15
      exact c_15 ((zofn_lt (by omega) (by omega)).mpr (by omega))
    · skip
      replace H := i_aln (q := 19) H I_X0_become_18 rfl rfl
      replace H := i_gfr (q := 22) H I_X0_become_19 G_0_11 cn_X0_become (lk_0 hk) rfl rfl
      replace H := i_iln (q := 23) H I_X0_become_22 rfl rfl
      have W := i_folk (k := k) hk (q := 24) H I_X0_become_23 rfl
      clear H
      obtain ⟨i_23, bi_23, ei_23, H⟩ := W
      replace H := i_aln (q := 25) H I_X0_become_24 rfl rfl
      replace H := i_gfr (q := 28) H I_X0_become_25 G_0_11 cn_X0_become (lk_0 ho) rfl rfl
      replace H := i_iln (q := 29) H I_X0_become_28 rfl rfl
      have W := i_folk (k := o) ho (q := 30) H I_X0_become_29 rfl
      clear H
      obtain ⟨i_29, bi_29, ei_29, H⟩ := W
      have W := i_cv1 0 (q := 33) H I_X0_become_30 K_0_35 Zm_19 rfl rfl
      clear H
      obtain ⟨r1, h1, Hc, K1, K2⟩ := W
      obtain ⟨e1, e2⟩ := t_X1_become (lk_p hk bi_23) (lk_p ho bi_29) Hc
      have H := K2 _ e1 e2
      clear e1 e2 Hc K1 K2
      replace H := i_inc (q := 36) H I_X0_become_33 rfl rfl rfl
      replace H := i_goto (q := 10) H I_X0_become_36 (by decide)
      have e : i = i_23 := zofn ei_23 (by omega) (by omega)
      subst e
      have e : i = i_29 := zofn ei_29 (by omega) (by omega)
      subst e
      replace H : zE none d zm_X0_become 10 [.ref k, .ref o, .int (Int32.ofNat (i + 1))] [] (zup (zup (zup (zup m (k + 3 + i) 0 (m (o + 3 + i) 0)) (k + 3 + i) 1 (m (o + 3 + i) 1)) (k + 3 + i) 2 (m (o + 3 + i) 2)) (k + 3 + i) 3 (m (o + 3 + i) 3)) r h' := by
        rw [zofn_s] at H
        exact H
      obtain ⟨m1, g1, g3, g4⟩ := ih (i + 1) d r h' _ (by omega) (by rw [zup_n (by omega), zup_n (by omega), zup_n (by omega), zup_n (by omega)]; exact hc) H
      refine ⟨m1, g1, fun i' h1 h2 b hb => ?_, fun a b hab => ?_⟩
      · by_cases hi' : i' = i
        · subst hi'
          rw [g4 _ _ (by omega)]
          rcases (by omega : b = 0 ∨ b = 1 ∨ b = 2 ∨ b = 3) with rfl | rfl | rfl | rfl
          · rw [zup_n (by omega), zup_n (by omega), zup_n (by omega), zup_s]
          · rw [zup_n (by omega), zup_n (by omega), zup_s]
          · rw [zup_n (by omega), zup_s]
          · rw [zup_s]
        · rw [g3 i' (by omega) h2 b hb, zup_n (by omega), zup_n (by omega), zup_n (by omega), zup_n (by omega)]
      · rw [g4 a b (by omega), zup_n (by omega), zup_n (by omega), zup_n (by omega), zup_n (by omega)]
theorem bc_acts {k o c : Nat} (hk : zlk6 k) (ho : zlk6 o) (hko : o + 8 ≤ k ∨ k + 8 ≤ o) (hc8 : c ≤ 8) : ∀ (j i d : Nat) (r : Option Value) (h' : zHp) (m : zM), i + j = c → m k 3 = Int32.ofNat c → zE none d zm_X0_become 49 [.ref k, .ref o, .int (Int32.ofNat i)] [] m r h' → ∃ m1, zE none d zm_X0_become 75 [.ref k, .ref o, .int (Int32.ofNat c)] [] m1 r h' ∧ (∀ i', i ≤ i' → i' < c → m1 (k + 2) i' = m (o + 2) i') ∧ ∀ a b, ¬ (a = k + 2 ∧ i ≤ b ∧ b < c) → m1 a b = m a b := by
  intro j
  induction j with
  | zero =>
    intro i d r h' m hj hc H
    have e : i = c := by omega
    subst e
    replace H := i_iln (q := 50) H I_X0_become_49 rfl rfl
    replace H := i_aln (q := 51) H I_X0_become_50 rfl rfl
    replace H := i_gfi (q := 54) H I_X0_become_51 G_0_29 cn_X0_become (lk_0 hk) rfl rfl
    have W := i_ic_ge (t := 75) (q := 57) H I_X0_become_54 (by decide) rfl
    clear H
    rcases W with ⟨c_54, H⟩ | ⟨c_54, H⟩
    · skip
      exact ⟨m, H, fun i' h1 h2 => by omega, fun a b _ => rfl⟩
    · skip
      replace H := i_aln (q := 58) H I_X0_become_57 rfl rfl
      replace H := i_gfr (q := 61) H I_X0_become_58 G_0_17 cn_X0_become (lk_0 hk) rfl rfl
      replace H := i_iln (q := 62) H I_X0_become_61 rfl rfl
      replace H := i_aln (q := 63) H I_X0_become_62 rfl rfl
      replace H := i_gfr (q := 66) H I_X0_become_63 G_0_17 cn_X0_become (lk_0 ho) rfl rfl
      replace H := i_iln (q := 67) H I_X0_become_66 rfl rfl
      have W := i_ia (q := 68) H I_X0_become_67 (lk_2 ho) rfl
      clear H
      obtain ⟨i_67, bi_67, ei_67, H⟩ := W
      have W := i_iast (q := 69) H I_X0_become_68 (lk_2 hk) rfl
      clear H
      obtain ⟨i_68, bi_68, ei_68, H⟩ := W
      replace H := i_inc (q := 72) H I_X0_become_69 rfl rfl rfl
      replace H := i_goto (q := 49) H I_X0_become_72 (by decide)
      exfalso
      rw [hc] at c_54
      exact absurd ((zofn_lt (by omega) (by omega)).mp c_54) (by omega)
  | succ j ih =>
    intro i d r h' m hj hc H
    replace H := i_iln (q := 50) H I_X0_become_49 rfl rfl
    replace H := i_aln (q := 51) H I_X0_become_50 rfl rfl
    replace H := i_gfi (q := 54) H I_X0_become_51 G_0_29 cn_X0_become (lk_0 hk) rfl rfl
    have W := i_ic_ge (t := 75) (q := 57) H I_X0_become_54 (by decide) rfl
    clear H
    rcases W with ⟨c_54, H⟩ | ⟨c_54, H⟩
    · skip
      exfalso
      rw [hc] at c_54
      exact c_54 ((zofn_lt (by omega) (by omega)).mpr (by omega))
    · skip
      replace H := i_aln (q := 58) H I_X0_become_57 rfl rfl
      replace H := i_gfr (q := 61) H I_X0_become_58 G_0_17 cn_X0_become (lk_0 hk) rfl rfl
      replace H := i_iln (q := 62) H I_X0_become_61 rfl rfl
      replace H := i_aln (q := 63) H I_X0_become_62 rfl rfl
      replace H := i_gfr (q := 66) H I_X0_become_63 G_0_17 cn_X0_become (lk_0 ho) rfl rfl
      replace H := i_iln (q := 67) H I_X0_become_66 rfl rfl
      have W := i_ia (q := 68) H I_X0_become_67 (lk_2 ho) rfl
      clear H
      obtain ⟨i_67, bi_67, ei_67, H⟩ := W
      have W := i_iast (q := 69) H I_X0_become_68 (lk_2 hk) rfl
      clear H
      obtain ⟨i_68, bi_68, ei_68, H⟩ := W
      replace H := i_inc (q := 72) H I_X0_become_69 rfl rfl rfl
      replace H := i_goto (q := 49) H I_X0_become_72 (by decide)
      have e : i = i_67 := zofn ei_67 (by omega) (by omega)
      subst e
      have e : i = i_68 := zofn ei_68 (by omega) (by omega)
      subst e
      replace H : zE none d zm_X0_become 49 [.ref k, .ref o, .int (Int32.ofNat (i + 1))] [] (zup m (k + 2) i (m (o + 2) i)) r h' := by
        rw [zofn_s] at H
        exact H
      obtain ⟨m1, g1, g3, g4⟩ := ih (i + 1) d r h' _ (by omega) (by rw [zup_n (by omega)]; exact hc) H
      refine ⟨m1, g1, fun i' h1 h2 => ?_, fun a b hab => ?_⟩
      · by_cases hi' : i' = i
        · subst hi'
          rw [g4 _ _ (by omega), zup_s]
        · rw [g3 i' (by omega) h2, zup_n (by omega)]
      · rw [g4 a b (by omega), zup_n (by omega)]
theorem t_X0_become {d : Nat} {m : zM} {r : Option Value} {h' : zHp} {k o c : Nat} {g : Nat → Int32} (hk : zlk6 k) (ho : zlk6 o) (hne : k ≠ o) (hL : LV m o c g) (H : zE none d zm_X0_become 0 [.ref k, .ref o, .null] [] m r h') : ∃ m1, r = none ∧ h' = zhp m1 ∧ LV m1 k c g ∧ ∀ a b, ¬ (k ≤ a ∧ a ≤ k + 7) → m1 a b = m a b := by
  have hko := lk_dj hk ho hne
  obtain ⟨h1, h2, h3, h4, h5, a, a1, a2, a3, a4⟩ := hL
  replace H := i_aln (q := 1) H I_X0_become_0 rfl rfl
  replace H := i_aln (q := 2) H I_X0_become_1 rfl rfl
  replace H := i_gfi (q := 5) H I_X0_become_2 G_0_26 cn_X0_become (lk_0 ho) rfl rfl
  replace H := i_pf (q := 8) H I_X0_become_5 G_0_26 cn_X0_become (lk_0 hk) rfl rfl
  replace H := i_icst (x := 0) (q := 9) H I_X0_become_8 (by decide) rfl
  replace H := i_isn (q := 10) H I_X0_become_9 rfl rfl
  obtain ⟨m2, H, n3, n4⟩ := bc_people hk ho hko h2 c 0 d r h' _ (by omega) (by rw [zup_s]; exact h1) H
  replace H := i_aln (q := 40) H I_X0_become_39 rfl rfl
  replace H := i_aln (q := 41) H I_X0_become_40 rfl rfl
  replace H := i_gfi (q := 44) H I_X0_become_41 G_0_29 cn_X0_become (lk_0 ho) rfl rfl
  replace H := i_pf (q := 47) H I_X0_become_44 G_0_29 cn_X0_become (lk_0 hk) rfl rfl
  replace H := i_icst (x := 0) (q := 48) H I_X0_become_47 (by decide) rfl
  replace H := i_isn (q := 49) H I_X0_become_48 rfl rfl
  obtain ⟨m3, H, p3, p4⟩ := bc_acts hk ho hko a1 a 0 d r h' _ (by omega) (by rw [zup_s, n4 _ _ (by omega), zup_n (by omega)]; exact a3) H
  replace H := i_aln (q := 76) H I_X0_become_75 rfl rfl
  replace H := i_aln (q := 77) H I_X0_become_76 rfl rfl
  replace H := i_gfi (q := 80) H I_X0_become_77 G_0_21 cn_X0_become (lk_0 ho) rfl rfl
  replace H := i_pf (q := 83) H I_X0_become_80 G_0_21 cn_X0_become (lk_0 hk) rfl rfl
  replace H := i_aln (q := 84) H I_X0_become_83 rfl rfl
  replace H := i_aln (q := 85) H I_X0_become_84 rfl rfl
  replace H := i_gfi (q := 88) H I_X0_become_85 G_0_32 cn_X0_become (lk_0 ho) rfl rfl
  replace H := i_pf (q := 91) H I_X0_become_88 G_0_32 cn_X0_become (lk_0 hk) rfl rfl
  obtain ⟨hr, hh⟩ := i_rt H I_X0_become_91
  refine ⟨_, hr, hh, ?_, fun x b hab => ?_⟩
  · refine ⟨?_, h2, fun i hi => ?_, ?_, ?_, a, a1, a2, ?_, fun i hi => ?_⟩
    · rw [zup_n (by omega), zup_n (by omega), p4 _ _ (by omega), zup_n (by omega), n4 _ _ (by omega), zup_s]
      exact h1
    · obtain ⟨x, y, z, w⟩ := h3 i hi
      refine ⟨?_, ?_, ?_, ?_⟩
      · rw [zup_n (by omega), zup_n (by omega), p4 _ _ (by omega), zup_n (by omega), n3 i (by omega) hi 0 (by omega), zup_n (by omega), x]
      · rw [zup_n (by omega), zup_n (by omega), p4 _ _ (by omega), zup_n (by omega), n3 i (by omega) hi 1 (by omega), zup_n (by omega), y]
      · rw [zup_n (by omega), zup_n (by omega), p4 _ _ (by omega), zup_n (by omega), n3 i (by omega) hi 2 (by omega), zup_n (by omega), z]
      · rw [zup_n (by omega), zup_n (by omega), p4 _ _ (by omega), zup_n (by omega), n3 i (by omega) hi 3 (by omega), zup_n (by omega), w]
    · rw [zup_n (by omega), zup_s, p4 _ _ (by omega), zup_n (by omega), n4 _ _ (by omega), zup_n (by omega), h4]
    · rw [zup_s, zup_n (by omega), p4 _ _ (by omega), zup_n (by omega), n4 _ _ (by omega), zup_n (by omega), h5]
    · rw [zup_n (by omega), zup_n (by omega), p4 _ _ (by omega), zup_s, n4 _ _ (by omega), zup_n (by omega), a3]
    · rw [zup_n (by omega), zup_n (by omega), p3 i (by omega) hi, zup_n (by omega), n4 _ _ (by omega), zup_n (by omega), a4 i hi]
  · rw [zup_n (by omega), zup_n (by omega), p4 _ _ (by omega), zup_n (by omega), n4 _ _ (by omega), zup_n (by omega)]
theorem aa_loop {m : zM} {c : Nat} {x : Int32} (hc8 : c ≤ 8) (hc : m 3 3 = Int32.ofNat c) : ∀ (j i d : Nat) (r : Option Value) (h' : zHp), i + j = c → zE none d zm_X2_allAreThere 7 [.ref 1, .int (x ||| zorf (m 5) i), .int (Int32.ofNat i)] [] m r h' → ∃ y, y = x ||| zorf (m 5) c ∧ zE none d zm_X2_allAreThere 36 [.ref 1, .int y, .int (Int32.ofNat c)] [] m r h' := by
  intro j
  induction j with
  | zero =>
    intro i d r h' hj H
    have e : i = c := by omega
    subst e
    replace H := i_iln (q := 8) H I_X2_allAreThere_7 rfl rfl
    replace H := i_aln (q := 9) H I_X2_allAreThere_8 rfl rfl
    replace H := i_gfr (q := 12) H I_X2_allAreThere_9 G_2_18 cn_X2_allAreThere LY_1 rfl rfl
    replace H := i_gfi (q := 15) H I_X2_allAreThere_12 G_2_61 cn_X2_allAreThere LY_3 rfl rfl
    have W := i_ic_ge (t := 36) (q := 18) H I_X2_allAreThere_15 (by decide) rfl
    clear H
    rcases W with ⟨c_15, H⟩ | ⟨c_15, H⟩
    · skip
      exact ⟨_, rfl, H⟩
    · skip
      replace H := i_iln (q := 19) H I_X2_allAreThere_18 rfl rfl
      replace H := i_aln (q := 20) H I_X2_allAreThere_19 rfl rfl
      replace H := i_gfr (q := 23) H I_X2_allAreThere_20 G_2_18 cn_X2_allAreThere LY_1 rfl rfl
      replace H := i_gfr (q := 26) H I_X2_allAreThere_23 G_2_64 cn_X2_allAreThere LY_3 rfl rfl
      replace H := i_iln (q := 27) H I_X2_allAreThere_26 rfl rfl
      have W := i_ia (q := 28) H I_X2_allAreThere_27 LY_5 rfl
      clear H
      obtain ⟨i_27, bi_27, ei_27, H⟩ := W
      replace H := i_ior (q := 29) H I_X2_allAreThere_28 rfl
      replace H := i_isn (q := 30) H I_X2_allAreThere_29 rfl rfl
      replace H := i_inc (q := 33) H I_X2_allAreThere_30 rfl rfl rfl
      replace H := i_goto (q := 7) H I_X2_allAreThere_33 (by decide)
      exfalso
      rw [hc] at c_15
      exact absurd ((zofn_lt (by omega) (by omega)).mp c_15) (by omega)
  | succ j ih =>
    intro i d r h' hj H
    replace H := i_iln (q := 8) H I_X2_allAreThere_7 rfl rfl
    replace H := i_aln (q := 9) H I_X2_allAreThere_8 rfl rfl
    replace H := i_gfr (q := 12) H I_X2_allAreThere_9 G_2_18 cn_X2_allAreThere LY_1 rfl rfl
    replace H := i_gfi (q := 15) H I_X2_allAreThere_12 G_2_61 cn_X2_allAreThere LY_3 rfl rfl
    have W := i_ic_ge (t := 36) (q := 18) H I_X2_allAreThere_15 (by decide) rfl
    clear H
    rcases W with ⟨c_15, H⟩ | ⟨c_15, H⟩
    · skip
      exfalso
      rw [hc] at c_15
      exact c_15 ((zofn_lt (by omega) (by omega)).mpr (by omega))
    · skip
      replace H := i_iln (q := 19) H I_X2_allAreThere_18 rfl rfl
      replace H := i_aln (q := 20) H I_X2_allAreThere_19 rfl rfl
      replace H := i_gfr (q := 23) H I_X2_allAreThere_20 G_2_18 cn_X2_allAreThere LY_1 rfl rfl
      replace H := i_gfr (q := 26) H I_X2_allAreThere_23 G_2_64 cn_X2_allAreThere LY_3 rfl rfl
      replace H := i_iln (q := 27) H I_X2_allAreThere_26 rfl rfl
      have W := i_ia (q := 28) H I_X2_allAreThere_27 LY_5 rfl
      clear H
      obtain ⟨i_27, bi_27, ei_27, H⟩ := W
      replace H := i_ior (q := 29) H I_X2_allAreThere_28 rfl
      replace H := i_isn (q := 30) H I_X2_allAreThere_29 rfl rfl
      replace H := i_inc (q := 33) H I_X2_allAreThere_30 rfl rfl rfl
      replace H := i_goto (q := 7) H I_X2_allAreThere_33 (by decide)
      have e : i = i_27 := zofn ei_27 (by omega) (by omega)
      subst e
      replace H : zE none d zm_X2_allAreThere 7 [.ref 1, .int (x ||| zorf (m 5) (i + 1)), .int (Int32.ofNat (i + 1))] [] m r h' := by
        rw [zofn_s, Int32.or_assoc] at H
        exact H
      exact ih (i + 1) d r h' (by omega) H
/-- nobody is named who is not there -/
def zthr (σ : zPs) : Prop := (σ.2.2.2.2 ||| σ.2.1 15) >>> (Int32.ofNat σ.1 &&& 31) = 0
theorem t_X2_allAreThere {d : Nat} {m : zM} {r : Option Value} {h' : zHp} {n c : Nat} {g : Nat → Int32} {sT pT : Bool} {sb : Int32} (hn : m 1 2 = Int32.ofNat n) (hV : cV m c g sT pT sb) (H : zE none d zm_X2_allAreThere 0 [.ref 1, .null, .null] [] m r h') : ∃ m1, h' = zhp m1 ∧ zfC m m1 ∧ ((zthr (c, g, sT, pT, sb) ∧ r = some (.int 1) ∧ LV m1 3 c g ∧ m1 1 4 = 0) ∨ (¬ zthr (c, g, sT, pT, sb) ∧ r = some (.int 0) ∧ m1 1 4 = 6 ∧ m1 1 5 = Int32.ofNat n)) := by
  obtain ⟨q1, q2, q3, q4, q5, q6, ⟨a, a1, a2, a3, a4, a5, a6⟩, q8, q9, q10⟩ := hV
  have hth : zthr (c, g, sT, pT, sb) ↔ (m 1 10 ||| zorf (m 5) a) >>> (m 3 2 &&& 31) = 0 := by
    unfold zthr
    rw [q4, q1, ← a6, Int32.or_comm]
  replace H := i_aln (q := 1) H I_X2_allAreThere_0 rfl rfl
  replace H := i_gfi (q := 4) H I_X2_allAreThere_1 G_2_38 cn_X2_allAreThere LY_1 rfl rfl
  replace H := i_isn (q := 5) H I_X2_allAreThere_4 rfl rfl
  replace H := i_icst (x := 0) (q := 6) H I_X2_allAreThere_5 (by decide) rfl
  replace H := i_isn (q := 7) H I_X2_allAreThere_6 rfl rfl
  replace H : zE none d zm_X2_allAreThere 7 [.ref 1, .int (m 1 10 ||| zorf (m 5) 0), .int (Int32.ofNat 0)] [] m r h' := by
    rw [show m 1 10 ||| zorf (m 5) 0 = m 1 10 from Int32.or_zero]
    exact H
  obtain ⟨y, hy, H⟩ := aa_loop a1 a3 a 0 d r h' (by omega) H
  replace H := i_iln (q := 37) H I_X2_allAreThere_36 rfl rfl
  replace H := i_aln (q := 38) H I_X2_allAreThere_37 rfl rfl
  replace H := i_gfr (q := 41) H I_X2_allAreThere_38 G_2_18 cn_X2_allAreThere LY_1 rfl rfl
  replace H := i_gfi (q := 44) H I_X2_allAreThere_41 G_2_68 cn_X2_allAreThere LY_3 rfl rfl
  replace H := i_ishr (q := 45) H I_X2_allAreThere_44 rfl
  have W := i_if_eq (t := 59) (q := 48) H I_X2_allAreThere_45 (by decide) rfl
  clear H
  rcases W with ⟨c_45, H⟩ | ⟨c_45, H⟩
  · skip
    replace H := i_aln (q := 60) H I_X2_allAreThere_59 rfl rfl
    replace H := i_gfr (q := 63) H I_X2_allAreThere_60 G_2_18 cn_X2_allAreThere LY_1 rfl rfl
    replace H := i_aln (q := 64) H I_X2_allAreThere_63 rfl rfl
    replace H := i_gfi (q := 67) H I_X2_allAreThere_64 G_2_38 cn_X2_allAreThere LY_1 rfl rfl
    have W := i_cv1 1 (q := 70) H I_X2_allAreThere_67 K_2_78 Zm_7 rfl rfl
    clear H
    obtain ⟨r1, h1, Hc, K1, K2⟩ := W
    obtain ⟨M_67, e1, e2, F_67⟩ := t_X0_useHands lkk_3 (c := c) q2 q1 Hc
    have H := K2 _ e1 e2
    clear e1 e2 Hc K1 K2
    replace H := i_icst (x := 1) (q := 71) H I_X2_allAreThere_70 (by decide) rfl
    obtain ⟨hr, hh⟩ := i_ir H I_X2_allAreThere_71
    rw [hy, ← hth] at c_45
    obtain ⟨u1, u2⟩ := F_67
    refine ⟨_, hh, fun x b k1 k2 => u2 x b (by omega), Or.inl ⟨c_45, hr, ⟨?_, q2, fun i hi => ?_, ?_, ?_, a, a1, a2, ?_, fun i hi => ?_⟩, ?_⟩⟩
    · rw [u2 _ _ (by omega)]; exact q1
    · obtain ⟨x, y, z⟩ := q3 i hi
      refine ⟨?_, ?_, ?_, ?_⟩
      · rw [u2 _ _ (by omega)]; exact x
      · rw [u2 _ _ (by omega)]; exact y
      · rw [u2 _ _ (by omega)]; exact z
      · rw [u1 i hi, q4]
    · rw [u2 _ _ (by omega)]; exact q5
    · rw [u2 _ _ (by omega)]; exact q6
    · rw [u2 _ _ (by omega)]; exact a3
    · rw [u2 _ _ (by omega)]; exact a4 i hi
    · rw [u2 _ _ (by omega)]; exact q10
  · skip
    replace H := i_aln (q := 49) H I_X2_allAreThere_48 rfl rfl
    replace H := i_bip (x := 6) (q := 51) H I_X2_allAreThere_49 (by decide) rfl
    replace H := i_aln (q := 52) H I_X2_allAreThere_51 rfl rfl
    replace H := i_gfi (q := 55) H I_X2_allAreThere_52 G_2_71 cn_X2_allAreThere LY_1 rfl rfl
    have W := i_cv2 0 (q := 58) H I_X2_allAreThere_55 K_2_74 Zm_27 rfl rfl
    clear H
    obtain ⟨r1, h1, Hc, K1, K2⟩ := W
    obtain ⟨e1, e2⟩ := t_X2_fail Hc
    have H := K1 _ _ e1 e2
    clear e1 e2 Hc K1 K2
    obtain ⟨hr, hh⟩ := i_ir H I_X2_allAreThere_58
    rw [hy, ← hth] at c_45
    rw [hn] at hh
    exact ⟨_, hh, fun x b _ _ => by rw [zup_n (by omega), zup_n (by omega)], Or.inr ⟨c_45, hr, by rw [zup_n (by omega), zup_s], by rw [zup_s]⟩⟩
def pTx (t : Nat → Int32) (n : Nat) : Nat → zPs → Nat → Nat → zPr
  | 0, _, _, _ => .inl (0, 0)
  | k + 1, σ, l, p => if tK t n p = 0 then (if (σ.2.2.2.2 ||| σ.2.1 15) >>> (Int32.ofNat σ.1 &&& 31) = 0 then .inr (σ, l) else .inl (6, n)) else (match pLn t n σ p with
    | .inl f => .inl f
    | .inr q => pTx t n k q.1 (l + 1) q.2)
theorem pEnd_ok {t : Nat → Int32} {n p : Nat} {x : zPs} {q : zPs × Nat} (h : pEnd t n p x = .inr q) : p + 1 ≤ q.2 ∧ (p ≤ n → q.2 ≤ n) := by
  unfold pEnd at h
  split at h
  · rename_i hk
    cases h
    exact ⟨tN_gt (by rw [hk]; decide), fun w => tN_le w⟩
  · cases h
theorem pPl_ok {t : Nat → Int32} {n c : Nat} {sT : Bool} : ∀ (k a : Nat) (g : Nat → Int32) (sb : Int32) (p : Nat) (q : zPs × Nat), pPl t n c sT k a g sb p = .inr q → p + 1 ≤ q.2 ∧ (p ≤ n → q.2 ≤ n)
  | 0, a, g, sb, p, q, h => by cases h
  | k + 1, a, g, sb, p, q, h => by
    rw [pPl] at h
    split at h
    · rename_i hk
      cases h
      exact ⟨tN_gt (by rw [hk]; decide), fun w => tN_le w⟩
    · split at h
      · rename_i hk
        split at h
        · cases h
        · split at h
          · cases h
          · have := pPl_ok k _ _ _ _ q h
            have h2 : p + 1 ≤ tN t n p := tN_gt (by rw [hk]; decide)
            exact ⟨by omega, fun w => this.2 (tN_le w)⟩
      · cases h
theorem pNm_gt {t : Nat → Int32} {n p : Nat} {x : Int32} (h : zNm t n p x = true) : p + 1 ≤ tN t n p := by
  simp only [zNm, Bool.and_eq_true, decide_eq_true_eq] at h
  exact tN_gt (by rw [h.1]; decide)
theorem pLn_ok {t : Nat → Int32} {n p : Nat} {σ : zPs} {q : zPs × Nat} (h : pLn t n σ p = .inr q) : p + 1 ≤ q.2 ∧ (p ≤ n → q.2 ≤ n) := by
  unfold pLn at h
  split at h
  · rename_i hk
    have h1 : p + 1 ≤ tN t n p := tN_gt (by rw [hk]; decide)
    split at h
    · unfold pOne at h
      split at h
      · cases h
      · split at h
        · rename_i k1
          have := pNm_gt k1
          split at h
          · rename_i k2
            have := pNm_gt k2
            have h3 := pEnd_ok h
            exact ⟨by omega, fun w => h3.2 (tN_le (tN_le (tN_le w)))⟩
          · cases h
        · cases h
    · split at h
      · unfold pLeft at h
        split at h
        · rename_i k1
          have := pNm_gt k1
          split at h
          · have h3 := pEnd_ok h
            exact ⟨by omega, fun w => h3.2 (tN_le (tN_le w))⟩
          · cases h
        · cases h
      · split at h
        · unfold pSlack at h
          split at h
          · cases h
          · split at h
            · rename_i k1
              have := pNm_gt k1
              have h3 := pEnd_ok h
              exact ⟨by omega, fun w => h3.2 (tN_le (tN_le w))⟩
            · cases h
        · split at h
          · unfold pPlan at h
            split at h
            · cases h
            · have h3 := pPl_ok _ _ _ _ _ _ h
              exact ⟨by omega, fun w => h3.2 (tN_le w)⟩
          · cases h
  · cases h
/-- what the class holds when all has been read -/
def cX (m1 : zM) (r : Option Value) (x : zPr) : Prop := match x with
  | .inl f => r = some (.int 0) ∧ m1 1 4 = f.1 ∧ m1 1 5 = Int32.ofNat f.2
  | .inr q => r = some (.int 1) ∧ LV m1 3 q.1.1 q.1.2.1 ∧ m1 1 3 = Int32.ofNat q.2 ∧ m1 1 4 = 0
def zfD (m m1 : zM) : Prop := ∀ a b, ¬ (a = 1 ∧ 3 ≤ b) → ¬ (3 ≤ a ∧ a ≤ 10) → m1 a b = m a b
theorem zfD_C {m m1 : zM} (h : zfC m m1) : zfD m m1 := fun a b x y => h a b (by omega) y
theorem zfD_t {m m1 m2 : zM} (h1 : zfD m m1) (h2 : zfD m1 m2) : zfD m m2 := fun a b x y => (h2 a b x y).trans (h1 a b x y)
theorem ra_loop {n : Nat} : ∀ (j i d : Nat) (r : Option Value) (h' : zHp) (m : zM) (c : Nat) (g : Nat → Int32) (sT pT : Bool) (sb : Int32) (l p : Nat), i + (j + 1) = 161 → i ≤ p → zPl m n p → cV m c g sT pT sb → m 1 3 = Int32.ofNat l → zE none d zm_X2_readAll 44 [.ref 1, .int (Int32.ofNat i)] [] m r h' → ∃ m1, h' = zhp m1 ∧ zfD m m1 ∧ cX m1 r (pTx (m 2) n (j + 1) (c, g, sT, pT, sb) l p) := by
  intro j
  induction j with
  | zero =>
    intro i d r h' m c g sT pT sb l p hj hip hq hV hl H
    replace H := i_iln (q := 45) H I_X2_readAll_44 rfl rfl
    replace H := i_sip (x := 160) (q := 48) H I_X2_readAll_45 (by decide) rfl
    have W := i_ic_gt (t := 92) (q := 51) H I_X2_readAll_48 (by decide) rfl
    clear H
    rcases W with ⟨c_48, H⟩ | ⟨c_48, H⟩
    · skip
      replace H := i_icst (x := 0) (q := 93) H I_X2_readAll_92 (by decide) rfl
      obtain ⟨hr, hh⟩ := i_ir H I_X2_readAll_93
      exfalso
      exact absurd ((zofn_lt (i := 160) (by decide) (by omega)).mp c_48) (by omega)
    · skip
      replace H := i_aln (q := 52) H I_X2_readAll_51 rfl rfl
      have W := i_cv0 1 (q := 55) H I_X2_readAll_52 K_2_48 Zm_37 rfl rfl
      clear H
      obtain ⟨r1, h1, Hc, K1, K2⟩ := W
      obtain ⟨M_52, e1, e2, F_52⟩ := t_X2_next (n := n) (p := p) hq.1 hq.2.1 hq.2.2.1 hq.2.2.2 Hc
      have H := K2 _ e1 e2
      clear e1 e2 Hc K1 K2
      replace H := i_aln (q := 56) H I_X2_readAll_55 rfl rfl
      replace H := i_gfi (q := 59) H I_X2_readAll_56 G_2_51 cn_X2_readAll LY_1 rfl rfl
      have W := i_if_ne (t := 67) (q := 62) H I_X2_readAll_59 (by decide) rfl
      clear H
      rcases W with ⟨c_59, H⟩ | ⟨c_59, H⟩
      · skip
        replace H := i_aln (q := 68) H I_X2_readAll_67 rfl rfl
        have W := i_cv0 1 (q := 71) H I_X2_readAll_68 K_2_58 Zm_29 rfl rfl
        clear H
        obtain ⟨r1, h1, Hc, K1, K2⟩ := W
        obtain ⟨M_68, e2, F_68, R_68⟩ := t_X2_readLine (n := n) (p := p) (sb := sb) (c := c) (g := g) (sT := sT) (pT := pT) (by rw [F_52.2.2.2.2 1 2 (by omega)]; exact hq.1) hq.2.1 hq.2.2.2 (by rw [zfC_2 (fun a b x y => F_52.2.2.2.2 a b (by omega))]; exact F_52.1) (by rw [zfC_2 (fun a b x y => F_52.2.2.2.2 a b (by omega))]; exact F_52.2.1) (by rw [zfC_2 (fun a b x y => F_52.2.2.2.2 a b (by omega))]; exact F_52.2.2.1) (cV_f hV (fun a b hab => F_52.2.2.2.2 a b (by omega)) (F_52.2.2.2.2 1 4 (by omega))) Hc
        have e1 := cR_v R_68
        have H := K1 _ _ e1 e2
        clear e1 e2 Hc K1 K2
        have W := i_if_ne (t := 76) (q := 74) H I_X2_readAll_71 (by decide) rfl
        clear H
        rcases W with ⟨c_71, H⟩ | ⟨c_71, H⟩
        · skip
          replace H := i_aln (q := 77) H I_X2_readAll_76 rfl rfl
          replace H := i_dup (q := 78) H I_X2_readAll_77 rfl rfl
          replace H := i_gfi (q := 81) H I_X2_readAll_78 G_2_29 cn_X2_readAll LY_1 rfl rfl
          replace H := i_icst (x := 1) (q := 82) H I_X2_readAll_81 (by decide) rfl
          replace H := i_iadd (q := 83) H I_X2_readAll_82 rfl
          replace H := i_pf (q := 86) H I_X2_readAll_83 G_2_29 cn_X2_readAll LY_1 rfl rfl
          replace H := i_inc (q := 89) H I_X2_readAll_86 rfl rfl rfl
          replace H := i_goto (q := 44) H I_X2_readAll_89 (by decide)
          obtain ⟨f6, f7, f8, f9, ff⟩ := F_52
          have fC : zfC m M_52 := fun a b x y => ff a b (by omega)
          have e2 : M_52 2 = m 2 := zfC_2 fC
          rw [f7] at c_59
          rw [e2] at R_68 c_71
          rw [pTx, if_neg c_59]
          cases hx : pLn (m 2) n (c, g, sT, pT, sb) p with
          | inl f =>
            rw [hx] at c_71
            exact absurd rfl c_71
          | inr q =>
            rw [hx] at R_68
            obtain ⟨r1, r2, r3, r4⟩ := R_68
            have hok := pLn_ok hx
            have hq2 := hok.2 hq.2.2.2
            have hq3 := hq.2.1
            omega
        · skip
          replace H := i_icst (x := 0) (q := 75) H I_X2_readAll_74 (by decide) rfl
          obtain ⟨hr, hh⟩ := i_ir H I_X2_readAll_75
          obtain ⟨f6, f7, f8, f9, ff⟩ := F_52
          have fC : zfC m M_52 := fun a b x y => ff a b (by omega)
          have e2 : M_52 2 = m 2 := zfC_2 fC
          rw [f7] at c_59
          refine ⟨_, hh, zfD_t (zfD_C fC) (zfD_C F_68), ?_⟩
          rw [e2] at R_68 c_71
          rw [pTx, if_neg c_59]
          cases hx : pLn (m 2) n (c, g, sT, pT, sb) p with
          | inl f =>
            rw [hx] at R_68
            exact ⟨hr, R_68.2⟩
          | inr q =>
            rw [hx] at c_71
            exact absurd c_71 (show ¬ (1 : Int32) = 0 by decide)
      · skip
        replace H := i_aln (q := 63) H I_X2_readAll_62 rfl rfl
        have W := i_cv0 2 (q := 66) H I_X2_readAll_63 K_2_54 Zm_28 rfl rfl
        clear H
        obtain ⟨r1, h1, Hc, K1, K2⟩ := W
        obtain ⟨M_63, e2, F_63⟩ := t_X2_allAreThere (n := n) (by rw [F_52.2.2.2.2 1 2 (by omega)]; exact hq.1) (cV_f hV (fun a b hab => F_52.2.2.2.2 a b (by omega)) (F_52.2.2.2.2 1 4 (by omega))) Hc
        obtain ⟨v_63, e1⟩ : ∃ v, r1 = some (.int v) := by
          rcases F_63.2 with w | w
          · exact ⟨_, w.2.1⟩
          · exact ⟨_, w.2.1⟩
        have H := K1 _ _ e1 e2
        rw [e1] at F_63
        clear e1 e2 Hc K1 K2
        obtain ⟨hr, hh⟩ := i_ir H I_X2_readAll_66
        obtain ⟨f6, f7, f8, f9, ff⟩ := F_52
        have fC : zfC m M_52 := fun a b x y => ff a b (by omega)
        have e2 : M_52 2 = m 2 := zfC_2 fC
        rw [f7] at c_59
        obtain ⟨g1, g2⟩ := F_63
        refine ⟨_, hh, zfD_t (zfD_C fC) (zfD_C g1), ?_⟩
        rw [pTx, if_pos c_59]
        rcases g2 with ⟨t1, t2, t3, t4⟩ | ⟨t1, t2, t3, t4⟩
        · rw [t2] at hr
          rw [if_pos (by exact t1)]
          exact ⟨hr, t3, by rw [g1 1 3 (by omega) (by omega), ff 1 3 (by omega)]; exact hl, t4⟩
        · rw [t2] at hr
          rw [if_neg (by exact t1)]
          exact ⟨hr, t3, t4⟩
  | succ j ih =>
    intro i d r h' m c g sT pT sb l p hj hip hq hV hl H
    replace H := i_iln (q := 45) H I_X2_readAll_44 rfl rfl
    replace H := i_sip (x := 160) (q := 48) H I_X2_readAll_45 (by decide) rfl
    have W := i_ic_gt (t := 92) (q := 51) H I_X2_readAll_48 (by decide) rfl
    clear H
    rcases W with ⟨c_48, H⟩ | ⟨c_48, H⟩
    · skip
      replace H := i_icst (x := 0) (q := 93) H I_X2_readAll_92 (by decide) rfl
      obtain ⟨hr, hh⟩ := i_ir H I_X2_readAll_93
      exfalso
      exact absurd ((zofn_lt (i := 160) (by decide) (by omega)).mp c_48) (by omega)
    · skip
      replace H := i_aln (q := 52) H I_X2_readAll_51 rfl rfl
      have W := i_cv0 1 (q := 55) H I_X2_readAll_52 K_2_48 Zm_37 rfl rfl
      clear H
      obtain ⟨r1, h1, Hc, K1, K2⟩ := W
      obtain ⟨M_52, e1, e2, F_52⟩ := t_X2_next (n := n) (p := p) hq.1 hq.2.1 hq.2.2.1 hq.2.2.2 Hc
      have H := K2 _ e1 e2
      clear e1 e2 Hc K1 K2
      replace H := i_aln (q := 56) H I_X2_readAll_55 rfl rfl
      replace H := i_gfi (q := 59) H I_X2_readAll_56 G_2_51 cn_X2_readAll LY_1 rfl rfl
      have W := i_if_ne (t := 67) (q := 62) H I_X2_readAll_59 (by decide) rfl
      clear H
      rcases W with ⟨c_59, H⟩ | ⟨c_59, H⟩
      · skip
        replace H := i_aln (q := 68) H I_X2_readAll_67 rfl rfl
        have W := i_cv0 1 (q := 71) H I_X2_readAll_68 K_2_58 Zm_29 rfl rfl
        clear H
        obtain ⟨r1, h1, Hc, K1, K2⟩ := W
        obtain ⟨M_68, e2, F_68, R_68⟩ := t_X2_readLine (n := n) (p := p) (sb := sb) (c := c) (g := g) (sT := sT) (pT := pT) (by rw [F_52.2.2.2.2 1 2 (by omega)]; exact hq.1) hq.2.1 hq.2.2.2 (by rw [zfC_2 (fun a b x y => F_52.2.2.2.2 a b (by omega))]; exact F_52.1) (by rw [zfC_2 (fun a b x y => F_52.2.2.2.2 a b (by omega))]; exact F_52.2.1) (by rw [zfC_2 (fun a b x y => F_52.2.2.2.2 a b (by omega))]; exact F_52.2.2.1) (cV_f hV (fun a b hab => F_52.2.2.2.2 a b (by omega)) (F_52.2.2.2.2 1 4 (by omega))) Hc
        have e1 := cR_v R_68
        have H := K1 _ _ e1 e2
        clear e1 e2 Hc K1 K2
        have W := i_if_ne (t := 76) (q := 74) H I_X2_readAll_71 (by decide) rfl
        clear H
        rcases W with ⟨c_71, H⟩ | ⟨c_71, H⟩
        · skip
          replace H := i_aln (q := 77) H I_X2_readAll_76 rfl rfl
          replace H := i_dup (q := 78) H I_X2_readAll_77 rfl rfl
          replace H := i_gfi (q := 81) H I_X2_readAll_78 G_2_29 cn_X2_readAll LY_1 rfl rfl
          replace H := i_icst (x := 1) (q := 82) H I_X2_readAll_81 (by decide) rfl
          replace H := i_iadd (q := 83) H I_X2_readAll_82 rfl
          replace H := i_pf (q := 86) H I_X2_readAll_83 G_2_29 cn_X2_readAll LY_1 rfl rfl
          replace H := i_inc (q := 89) H I_X2_readAll_86 rfl rfl rfl
          replace H := i_goto (q := 44) H I_X2_readAll_89 (by decide)
          obtain ⟨f6, f7, f8, f9, ff⟩ := F_52
          have fC : zfC m M_52 := fun a b x y => ff a b (by omega)
          have e2 : M_52 2 = m 2 := zfC_2 fC
          rw [f7] at c_59
          rw [e2] at R_68 c_71
          rw [pTx, if_neg c_59]
          cases hx : pLn (m 2) n (c, g, sT, pT, sb) p with
          | inl f =>
            rw [hx] at c_71
            exact absurd rfl c_71
          | inr q =>
            rw [hx] at R_68
            obtain ⟨r1, r2, r3, r4⟩ := R_68
            have hok := pLn_ok hx
            have hq2 := hok.2 hq.2.2.2
            have hq3 := hq.2.1
            replace H : zE none d zm_X2_readAll 44 [.ref 1, .int (Int32.ofNat (i + 1))] [] (zup M_68 1 3 (Int32.ofNat (l + 1))) r h' := by
              rw [zofn_s, F_68 1 3 (by omega) (by omega), ff 1 3 (by omega), hl, zofn_1] at H
              exact H
            have e3 : zup M_68 1 3 (Int32.ofNat (l + 1)) 2 = m 2 := by
              funext b
              rw [zup_n (by omega), F_68 2 b (by omega) (by omega), ff 2 b (by omega)]
            obtain ⟨m1, g1, g2, g3⟩ := ih (i + 1) d r h' _ q.1.1 q.1.2.1 q.1.2.2.1 q.1.2.2.2.1 q.1.2.2.2.2 (l + 1) q.2 (by omega) (by omega) ⟨by rw [zup_n (by omega), F_68 1 2 (by omega) (by omega), ff 1 2 (by omega)]; exact hq.1, hq3, by rw [zup_n (by omega)]; exact r3, hq2⟩ (by
              obtain ⟨q1, q2, q3, q4, q5, q6, ⟨a, a1, a2, a3, a4, a5, a6⟩, q8, q9, q10⟩ := r2
              refine ⟨by rw [zup_n (by omega)]; exact q1, q2, fun i hi => ?_, by rw [zup_n (by omega)]; exact q4, by rw [zup_n (by omega)]; exact q5, by rw [zup_n (by omega)]; exact q6, ⟨a, a1, a2, by rw [zup_n (by omega)]; exact a3, fun i hi => by rw [zup_n (by omega)]; exact a4 i hi, a5, a6.trans (zorf_c (fun i hi => by rw [zup_n (by omega)]))⟩, by rw [zup_n (by omega)]; exact q8, by rw [zup_n (by omega)]; exact q9, by rw [zup_n (by omega)]; exact q10⟩
              obtain ⟨x, y, z⟩ := q3 i hi
              exact ⟨by rw [zup_n (by omega)]; exact x, by rw [zup_n (by omega)]; exact y, by rw [zup_n (by omega)]; exact z⟩) (by rw [zup_s]) H
            rw [e3] at g3
            exact ⟨m1, g1, zfD_t (zfD_C fC) (zfD_t (zfD_C F_68) (zfD_t (fun a b x y => by rw [zup_n (by omega)]) g2)), g3⟩
        · skip
          replace H := i_icst (x := 0) (q := 75) H I_X2_readAll_74 (by decide) rfl
          obtain ⟨hr, hh⟩ := i_ir H I_X2_readAll_75
          obtain ⟨f6, f7, f8, f9, ff⟩ := F_52
          have fC : zfC m M_52 := fun a b x y => ff a b (by omega)
          have e2 : M_52 2 = m 2 := zfC_2 fC
          rw [f7] at c_59
          refine ⟨_, hh, zfD_t (zfD_C fC) (zfD_C F_68), ?_⟩
          rw [e2] at R_68 c_71
          rw [pTx, if_neg c_59]
          cases hx : pLn (m 2) n (c, g, sT, pT, sb) p with
          | inl f =>
            rw [hx] at R_68
            exact ⟨hr, R_68.2⟩
          | inr q =>
            rw [hx] at c_71
            exact absurd c_71 (show ¬ (1 : Int32) = 0 by decide)
      · skip
        replace H := i_aln (q := 63) H I_X2_readAll_62 rfl rfl
        have W := i_cv0 2 (q := 66) H I_X2_readAll_63 K_2_54 Zm_28 rfl rfl
        clear H
        obtain ⟨r1, h1, Hc, K1, K2⟩ := W
        obtain ⟨M_63, e2, F_63⟩ := t_X2_allAreThere (n := n) (by rw [F_52.2.2.2.2 1 2 (by omega)]; exact hq.1) (cV_f hV (fun a b hab => F_52.2.2.2.2 a b (by omega)) (F_52.2.2.2.2 1 4 (by omega))) Hc
        obtain ⟨v_63, e1⟩ : ∃ v, r1 = some (.int v) := by
          rcases F_63.2 with w | w
          · exact ⟨_, w.2.1⟩
          · exact ⟨_, w.2.1⟩
        have H := K1 _ _ e1 e2
        rw [e1] at F_63
        clear e1 e2 Hc K1 K2
        obtain ⟨hr, hh⟩ := i_ir H I_X2_readAll_66
        obtain ⟨f6, f7, f8, f9, ff⟩ := F_52
        have fC : zfC m M_52 := fun a b x y => ff a b (by omega)
        have e2 : M_52 2 = m 2 := zfC_2 fC
        rw [f7] at c_59
        obtain ⟨g1, g2⟩ := F_63
        refine ⟨_, hh, zfD_t (zfD_C fC) (zfD_C g1), ?_⟩
        rw [pTx, if_pos c_59]
        rcases g2 with ⟨t1, t2, t3, t4⟩ | ⟨t1, t2, t3, t4⟩
        · rw [t2] at hr
          rw [if_pos (by exact t1)]
          exact ⟨hr, t3, by rw [g1 1 3 (by omega) (by omega), ff 1 3 (by omega)]; exact hl, t4⟩
        · rw [t2] at hr
          rw [if_neg (by exact t1)]
          exact ⟨hr, t3, t4⟩
def zP0 : zPs := (0, fun _ => 0, false, false, 0)
theorem t_X2_readAll {d : Nat} {m : zM} {r : Option Value} {h' : zHp} {n : Nat} (hn : m 1 2 = Int32.ofNat n) (hn2 : n ≤ 160) (H : zE none d zm_X2_readAll 0 [.ref 1, .null] [] m r h') : ∃ m1, h' = zhp m1 ∧ zfD m m1 ∧ cX m1 r (pTx (m 2) n 161 zP0 0 0) := by
  replace H := i_aln (q := 1) H I_X2_readAll_0 rfl rfl
  replace H := i_gfr (q := 4) H I_X2_readAll_1 G_2_18 cn_X2_readAll LY_1 rfl rfl
  have W := i_cv0 0 (q := 7) H I_X2_readAll_4 K_2_22 Zm_1 rfl rfl
  clear H
  obtain ⟨r1, h1, Hc, K1, K2⟩ := W
  obtain ⟨e1, e2⟩ := t_X0_clear lkk_3 Hc
  have H := K2 _ e1 e2
  clear e1 e2 Hc K1 K2
  replace H := i_aln (q := 8) H I_X2_readAll_7 rfl rfl
  replace H := i_icst (x := 0) (q := 9) H I_X2_readAll_8 (by decide) rfl
  replace H := i_pf (q := 12) H I_X2_readAll_9 G_2_25 cn_X2_readAll LY_1 rfl rfl
  replace H := i_aln (q := 13) H I_X2_readAll_12 rfl rfl
  replace H := i_icst (x := 0) (q := 14) H I_X2_readAll_13 (by decide) rfl
  replace H := i_pf (q := 17) H I_X2_readAll_14 G_2_29 cn_X2_readAll LY_1 rfl rfl
  replace H := i_aln (q := 18) H I_X2_readAll_17 rfl rfl
  replace H := i_icst (x := 0) (q := 19) H I_X2_readAll_18 (by decide) rfl
  replace H := i_pf (q := 22) H I_X2_readAll_19 G_2_32 cn_X2_readAll LY_1 rfl rfl
  replace H := i_aln (q := 23) H I_X2_readAll_22 rfl rfl
  replace H := i_icst (x := 0) (q := 24) H I_X2_readAll_23 (by decide) rfl
  replace H := i_pf (q := 27) H I_X2_readAll_24 G_2_35 cn_X2_readAll LY_1 rfl rfl
  replace H := i_aln (q := 28) H I_X2_readAll_27 rfl rfl
  replace H := i_icst (x := 0) (q := 29) H I_X2_readAll_28 (by decide) rfl
  replace H := i_pf (q := 32) H I_X2_readAll_29 G_2_38 cn_X2_readAll LY_1 rfl rfl
  replace H := i_aln (q := 33) H I_X2_readAll_32 rfl rfl
  replace H := i_icst (x := 0) (q := 34) H I_X2_readAll_33 (by decide) rfl
  replace H := i_pf (q := 37) H I_X2_readAll_34 G_2_41 cn_X2_readAll LY_1 rfl rfl
  replace H := i_aln (q := 38) H I_X2_readAll_37 rfl rfl
  replace H := i_icst (x := 0) (q := 39) H I_X2_readAll_38 (by decide) rfl
  replace H := i_pf (q := 42) H I_X2_readAll_39 G_2_45 cn_X2_readAll LY_1 rfl rfl
  replace H := i_icst (x := 0) (q := 43) H I_X2_readAll_42 (by decide) rfl
  replace H := i_isn (q := 44) H I_X2_readAll_43 rfl rfl
  generalize hM : zup (zup (zup (zup (zup (zup (zup (zup (zup (zup (zup m 3 2 0) 3 3 0) 3 4 1) 3 5 0) 1 6 0) 1 3 0) 1 4 0) 1 5 0) 1 10 0) 1 11 0) 1 12 0 = M at H
  have hD : zfD m M := fun a b x y => by
    rw [← hM]
    repeat rw [zup_n (by omega)]
  have e2 : M 2 = m 2 := by
    funext b
    exact hD 2 b (by omega) (by omega)
  obtain ⟨m1, g1, g2, g3⟩ := ra_loop (n := n) 160 0 d r h' M 0 (fun _ => 0) false false 0 0 0 rfl (Nat.le_refl 0) ⟨by rw [hD 1 2 (by omega) (by omega)]; exact hn, hn2, by rw [← hM]; simp [zup], by omega⟩ (by
    refine ⟨by rw [← hM]; simp [zup], by omega, fun i hi => by omega, by rw [← hM]; simp [zup], by rw [← hM]; simp [zup], by rw [← hM]; simp [zup], ⟨0, by omega, by simp, by rw [← hM]; simp [zup], fun i hi => by omega, fun _ => rfl, rfl⟩, by rw [← hM]; simp [zup, zbi], by rw [← hM]; simp [zup, zbi], by rw [← hM]; simp [zup]⟩) (by rw [← hM]; simp [zup]) H
  rw [e2] at g3
  exact ⟨m1, g1, zfD_t hD g2, g3⟩
/-- what the class holds behind text() -/
def cT (m m1 : zM) (r : Option Value) (x : zPr) : Prop := match x with
  | .inl f => r = some (.int (-10 - Int32.ofNat f.2)) ∧ m1 1 4 = f.1 ∧ ∀ a b, a ≠ 1 → ¬ (3 ≤ a ∧ a ≤ 10) → m1 a b = m a b
  | .inr q => r = some (.int (Int32.ofNat q.2)) ∧ m1 1 4 = 0 ∧ LV m1 11 q.1.1 q.1.2.1 ∧ m1 40 3 = 0 ∧ m1 45 0 = 0 ∧ m1 45 1 = 0 ∧ ∀ a b, a ≠ 1 → ¬ (3 ≤ a ∧ a ≤ 18) → ¬ (a = 40 ∧ b = 3) → a ≠ 45 → m1 a b = m a b
theorem z_nar0 {t : Nat ⊕ Nat} : vp_nar (if t = Sum.inl 1 then .byte else .boolean) 0 = 0 := by
  split <;> decide
theorem t_X7_text {d : Nat} {m : zM} {r : Option Value} {h' : zHp} {n : Nat} (hn : m 1 2 = Int32.ofNat n) (hn2 : n ≤ 160) (H : zE none d zm_X7_text 0 [.ref 0, .null, .null] [] m r h') : ∃ m1, h' = zhp m1 ∧ m1 1 2 = 0 ∧ cT m m1 r (pTx (m 2) n 161 zP0 0 0) := by
  replace H := i_aln (q := 1) H I_X7_text_0 rfl rfl
  replace H := i_gfr (q := 4) H I_X7_text_1 G_7_12 cn_X7_text LY_0 rfl rfl
  have W := i_cv0 1 (q := 7) H I_X7_text_4 K_7_67 Zm_26 rfl rfl
  clear H
  obtain ⟨r1, h1, Hc, K1, K2⟩ := W
  obtain ⟨M_4, e2, F_4, X_4⟩ := t_X2_readAll (n := n) hn hn2 Hc
  obtain ⟨v_4, e1⟩ : ∃ v, r1 = some (.int v) := by
    cases hx : pTx (m 2) n 161 zP0 0 0 with
    | inl f => rw [hx] at X_4; exact ⟨_, X_4.1⟩
    | inr q => rw [hx] at X_4; exact ⟨_, X_4.1⟩
  have H := K1 _ _ e1 e2
  rw [e1] at X_4
  clear e1 e2 Hc K1 K2
  replace H := i_isn (q := 8) H I_X7_text_7 rfl rfl
  replace H := i_aln (q := 9) H I_X7_text_8 rfl rfl
  replace H := i_gfr (q := 12) H I_X7_text_9 G_7_12 cn_X7_text LY_0 rfl rfl
  replace H := i_icst (x := 0) (q := 13) H I_X7_text_12 (by decide) rfl
  replace H := i_pf (q := 16) H I_X7_text_13 G_7_59 cn_X7_text LY_1 rfl rfl
  replace H := i_iln (q := 17) H I_X7_text_16 rfl rfl
  have W := i_if_ne (t := 31) (q := 20) H I_X7_text_17 (by decide) rfl
  clear H
  rcases W with ⟨c_17, H⟩ | ⟨c_17, H⟩
  · skip
    replace H := i_aln (q := 32) H I_X7_text_31 rfl rfl
    replace H := i_gfr (q := 35) H I_X7_text_32 G_7_19 cn_X7_text LY_0 rfl rfl
    replace H := i_aln (q := 36) H I_X7_text_35 rfl rfl
    replace H := i_gfr (q := 39) H I_X7_text_36 G_7_12 cn_X7_text LY_0 rfl rfl
    replace H := i_gfr (q := 42) H I_X7_text_39 G_7_74 cn_X7_text LY_1 rfl rfl
    have W := i_cv1 1 (q := 45) H I_X7_text_42 K_7_77 Zm_2 rfl rfl
    clear H
    obtain ⟨r1, h1, Hc, K1, K2⟩ := W
    cases hx : pTx (m 2) n 161 zP0 0 0 with
    | inl f =>
      rw [hx] at X_4
      have e := X_4.1
      simp only [Option.some.injEq, Value.int.injEq] at e
      rw [e] at c_17
      exact absurd rfl c_17
    | inr q =>
    rw [hx] at X_4
    obtain ⟨M_42, e1, e2, L_42, F_42⟩ := t_X0_become lkk_11 lkk_3 (by decide) (LV_f X_4.2.1 (fun a b x y => zup_n (by omega))) Hc
    have H := K2 _ e1 e2
    clear e1 e2 Hc K1 K2
    replace H := i_aln (q := 46) H I_X7_text_45 rfl rfl
    replace H := i_gfr (q := 49) H I_X7_text_46 G_7_40 cn_X7_text LY_0 rfl rfl
    replace H := i_icst (x := 0) (q := 50) H I_X7_text_49 (by decide) rfl
    replace H := i_pf (q := 53) H I_X7_text_50 G_7_81 cn_X7_text LY_40 rfl rfl
    replace H := i_icst (x := 0) (q := 54) H I_X7_text_53 (by decide) rfl
    replace H := i_isn (q := 55) H I_X7_text_54 rfl rfl
    replace H : zE none d zm_X7_text 55 [.ref 0, .int v_4, .int 0] [] (zup M_42 40 3 0) r h' := H
    replace H := i_iln (q := 56) H I_X7_text_55 rfl rfl
    replace H := i_icst (x := 2) (q := 57) H I_X7_text_56 (by decide) rfl
    have W := i_ic_ge (t := 73) (q := 60) H I_X7_text_57 (by decide) rfl
    clear H
    rcases W with ⟨c_57, H⟩ | ⟨c_57, H⟩
    · skip
      replace H := i_aln (q := 74) H I_X7_text_73 rfl rfl
      replace H := i_gfr (q := 77) H I_X7_text_74 G_7_12 cn_X7_text LY_0 rfl rfl
      replace H := i_gfi (q := 80) H I_X7_text_77 G_7_84 cn_X7_text LY_1 rfl rfl
      obtain ⟨hr, hh⟩ := i_ir H I_X7_text_80
      exact absurd (by decide) c_57
    · skip
      replace H := i_aln (q := 61) H I_X7_text_60 rfl rfl
      replace H := i_gfr (q := 64) H I_X7_text_61 G_7_48 cn_X7_text LY_0 rfl rfl
      replace H := i_iln (q := 65) H I_X7_text_64 rfl rfl
      replace H := i_icst (x := 0) (q := 66) H I_X7_text_65 (by decide) rfl
      have W := i_bast (q := 67) H I_X7_text_66 LY_45 rfl
      clear H
      obtain ⟨i_66, bi_66, ei_66, H⟩ := W
      replace H := i_inc (q := 70) H I_X7_text_67 rfl rfl rfl
      replace H := i_goto (q := 55) H I_X7_text_70 (by decide)
      have ei : i_66 = 0 := (zofn (i := 0) ei_66 (by omega) (by omega)).symm
      subst ei
      replace H : zE none d zm_X7_text 55 [.ref 0, .int v_4, .int 1] [] (zup (zup M_42 40 3 0) 45 0 0) r h' := by
        rw [z_nar0] at H
        exact H
      clear c_57
      replace H := i_iln (q := 56) H I_X7_text_55 rfl rfl
      replace H := i_icst (x := 2) (q := 57) H I_X7_text_56 (by decide) rfl
      have W := i_ic_ge (t := 73) (q := 60) H I_X7_text_57 (by decide) rfl
      clear H
      rcases W with ⟨c_57, H⟩ | ⟨c_57, H⟩
      · skip
        replace H := i_aln (q := 74) H I_X7_text_73 rfl rfl
        replace H := i_gfr (q := 77) H I_X7_text_74 G_7_12 cn_X7_text LY_0 rfl rfl
        replace H := i_gfi (q := 80) H I_X7_text_77 G_7_84 cn_X7_text LY_1 rfl rfl
        obtain ⟨hr, hh⟩ := i_ir H I_X7_text_80
        exact absurd (by decide) c_57
      · skip
        replace H := i_aln (q := 61) H I_X7_text_60 rfl rfl
        replace H := i_gfr (q := 64) H I_X7_text_61 G_7_48 cn_X7_text LY_0 rfl rfl
        replace H := i_iln (q := 65) H I_X7_text_64 rfl rfl
        replace H := i_icst (x := 0) (q := 66) H I_X7_text_65 (by decide) rfl
        have W := i_bast (q := 67) H I_X7_text_66 LY_45 rfl
        clear H
        obtain ⟨i_66, bi_66, ei_66, H⟩ := W
        replace H := i_inc (q := 70) H I_X7_text_67 rfl rfl rfl
        replace H := i_goto (q := 55) H I_X7_text_70 (by decide)
        have ei : i_66 = 1 := (zofn (i := 1) ei_66 (by omega) (by omega)).symm
        subst ei
        replace H : zE none d zm_X7_text 55 [.ref 0, .int v_4, .int 2] [] (zup (zup (zup M_42 40 3 0) 45 0 0) 45 1 0) r h' := by
          rw [z_nar0] at H
          exact H
        clear c_57
        replace H := i_iln (q := 56) H I_X7_text_55 rfl rfl
        replace H := i_icst (x := 2) (q := 57) H I_X7_text_56 (by decide) rfl
        have W := i_ic_ge (t := 73) (q := 60) H I_X7_text_57 (by decide) rfl
        clear H
        rcases W with ⟨c_57, H⟩ | ⟨c_57, H⟩
        · skip
          replace H := i_aln (q := 74) H I_X7_text_73 rfl rfl
          replace H := i_gfr (q := 77) H I_X7_text_74 G_7_12 cn_X7_text LY_0 rfl rfl
          replace H := i_gfi (q := 80) H I_X7_text_77 G_7_84 cn_X7_text LY_1 rfl rfl
          obtain ⟨hr, hh⟩ := i_ir H I_X7_text_80
          refine ⟨_, hh, ?_, ?_, ?_, ?_, ?_, ?_, ?_, fun a b x y z w => ?_⟩
          · rw [zup_n (by omega), zup_n (by omega), zup_n (by omega), F_42 _ _ (by omega), zup_s]
          · rw [hr, zup_n (by omega), zup_n (by omega), zup_n (by omega), F_42 _ _ (by omega), zup_n (by omega), X_4.2.2.1]
          · rw [zup_n (by omega), zup_n (by omega), zup_n (by omega), F_42 _ _ (by omega), zup_n (by omega), X_4.2.2.2]
          · exact LV_f L_42 (fun a b x y => by rw [zup_n (by omega), zup_n (by omega), zup_n (by omega)])
          · rw [zup_n (by omega), zup_n (by omega), zup_s]
          · rw [zup_n (by omega), zup_s]
          · rw [zup_s]
          · rw [zup_n (by omega), zup_n (by omega), zup_n (by omega), F_42 _ _ (by omega), zup_n (by omega), F_4 _ _ (by omega) (by omega)]
        · skip
          replace H := i_aln (q := 61) H I_X7_text_60 rfl rfl
          replace H := i_gfr (q := 64) H I_X7_text_61 G_7_48 cn_X7_text LY_0 rfl rfl
          replace H := i_iln (q := 65) H I_X7_text_64 rfl rfl
          replace H := i_icst (x := 0) (q := 66) H I_X7_text_65 (by decide) rfl
          have W := i_bast (q := 67) H I_X7_text_66 LY_45 rfl
          clear H
          obtain ⟨i_66, bi_66, ei_66, H⟩ := W
          replace H := i_inc (q := 70) H I_X7_text_67 rfl rfl rfl
          replace H := i_goto (q := 55) H I_X7_text_70 (by decide)
          exact absurd c_57 (by decide)
  · skip
    replace H := i_bip (x := (-10)) (q := 22) H I_X7_text_20 (by decide) rfl
    replace H := i_aln (q := 23) H I_X7_text_22 rfl rfl
    replace H := i_gfr (q := 26) H I_X7_text_23 G_7_12 cn_X7_text LY_0 rfl rfl
    replace H := i_gfi (q := 29) H I_X7_text_26 G_7_71 cn_X7_text LY_1 rfl rfl
    replace H := i_isub (q := 30) H I_X7_text_29 rfl
    obtain ⟨hr, hh⟩ := i_ir H I_X7_text_30
    cases hx : pTx (m 2) n 161 zP0 0 0 with
    | inl f =>
      rw [hx] at X_4
      refine ⟨_, hh, by rw [zup_s], ?_⟩
      refine ⟨?_, ?_, fun a b x y => ?_⟩
      · rw [hr, zup_n (by omega), X_4.2.2]
      · rw [zup_n (by omega)]; exact X_4.2.1
      · rw [zup_n (by omega), F_4 a b (by omega) y]
    | inr q =>
      rw [hx] at X_4
      have e := X_4.1
      simp only [Option.some.injEq, Value.int.injEq] at e
      rw [e] at c_17
      exact absurd c_17 (by decide)
