/-! names -/
theorem It_J0_charAt_5068e : zm_J0_charAt_5068e.2.2.2.2.2 = zt_J0_charAt_5068e := by
  unfold zm_J0_charAt_5068e
  rfl
theorem It_J0_checkIndex_df160 : zm_J0_checkIndex_df160.2.2.2.2.2 = zt_J0_checkIndex_df160 := by
  unfold zm_J0_checkIndex_df160
  rfl
theorem It_J0_coder_7d493 : zm_J0_coder_7d493.2.2.2.2.2 = zt_J0_coder_7d493 := by
  unfold zm_J0_coder_7d493
  rfl
theorem It_J0_isLatin1_aae02 : zm_J0_isLatin1_aae02.2.2.2.2.2 = zt_J0_isLatin1_aae02 := by
  unfold zm_J0_isLatin1_aae02
  rfl
theorem It_J0_length_8abf5 : zm_J0_length_8abf5.2.2.2.2.2 = zt_J0_length_8abf5 := by
  unfold zm_J0_length_8abf5
  rfl
theorem It_J1_charAt_3b067 : zm_J1_charAt_3b067.2.2.2.2.2 = zt_J1_charAt_3b067 := by
  unfold zm_J1_charAt_3b067
  rfl
theorem It_J3_checkIndex_8e157 : zm_J3_checkIndex_8e157.2.2.2.2.2 = zt_J3_checkIndex_8e157 := by
  unfold zm_J3_checkIndex_8e157
  rfl
theorem It_X2_spells : zm_X2_spells.2.2.2.2.2 = zt_X2_spells := by
  unfold zm_X2_spells
  rfl
theorem It_X2_word : zm_X2_word.2.2.2.2.2 = zt_X2_word := by
  unfold zm_X2_word
  rfl
theorem It_X2_wordText : zm_X2_wordText.2.2.2.2.2 = zt_X2_wordText := by
  unfold zm_X2_wordText
  rfl
theorem It_X8_nameHere : zm_X8_nameHere.2.2.2.2.2 = zt_X8_nameHere := by
  unfold zm_X8_nameHere
  rfl
theorem I_J0_charAt_5068e_0 : zin zm_J0_charAt_5068e.2.2.2.2.2 0 = some (.aload_n 0, 1) := by rw [It_J0_charAt_5068e]; rfl
theorem I_J0_charAt_5068e_1 : zin zm_J0_charAt_5068e.2.2.2.2.2 1 = some (.invokevirtual 492, 3) := by rw [It_J0_charAt_5068e]; rfl
theorem I_J0_charAt_5068e_4 : zin zm_J0_charAt_5068e.2.2.2.2.2 4 = some (.ifCond .eq 12, 3) := by rw [It_J0_charAt_5068e]; rfl
theorem I_J0_charAt_5068e_7 : zin zm_J0_charAt_5068e.2.2.2.2.2 7 = some (.aload_n 0, 1) := by rw [It_J0_charAt_5068e]; rfl
theorem I_J0_charAt_5068e_8 : zin zm_J0_charAt_5068e.2.2.2.2.2 8 = some (.getfield 9, 3) := by rw [It_J0_charAt_5068e]; rfl
theorem I_J0_charAt_5068e_11 : zin zm_J0_charAt_5068e.2.2.2.2.2 11 = some (.iload_n 1, 1) := by rw [It_J0_charAt_5068e]; rfl
theorem I_J0_charAt_5068e_12 : zin zm_J0_charAt_5068e.2.2.2.2.2 12 = some (.invokestatic 495, 3) := by rw [It_J0_charAt_5068e]; rfl
theorem I_J0_charAt_5068e_15 : zin zm_J0_charAt_5068e.2.2.2.2.2 15 = some (.ireturn, 1) := by rw [It_J0_charAt_5068e]; rfl
theorem I_J0_checkIndex_df160_0 : zin zm_J0_checkIndex_df160.2.2.2.2.2 0 = some (.iload_n 0, 1) := by rw [It_J0_checkIndex_df160]; rfl
theorem I_J0_checkIndex_df160_1 : zin zm_J0_checkIndex_df160.2.2.2.2.2 1 = some (.iload_n 1, 1) := by rw [It_J0_checkIndex_df160]; rfl
theorem I_J0_checkIndex_df160_2 : zin zm_J0_checkIndex_df160.2.2.2.2.2 2 = some (.getstatic 1053, 3) := by rw [It_J0_checkIndex_df160]; rfl
theorem I_J0_checkIndex_df160_5 : zin zm_J0_checkIndex_df160.2.2.2.2.2 5 = some (.invokestatic 1059, 3) := by rw [It_J0_checkIndex_df160]; rfl
theorem I_J0_checkIndex_df160_8 : zin zm_J0_checkIndex_df160.2.2.2.2.2 8 = some (.pop, 1) := by rw [It_J0_checkIndex_df160]; rfl
theorem I_J0_checkIndex_df160_9 : zin zm_J0_checkIndex_df160.2.2.2.2.2 9 = some (.return_, 1) := by rw [It_J0_checkIndex_df160]; rfl
theorem I_J0_coder_7d493_0 : zin zm_J0_coder_7d493.2.2.2.2.2 0 = some (.getstatic 38, 3) := by rw [It_J0_coder_7d493]; rfl
theorem I_J0_coder_7d493_3 : zin zm_J0_coder_7d493.2.2.2.2.2 3 = some (.ifCond .eq 10, 3) := by rw [It_J0_coder_7d493]; rfl
theorem I_J0_coder_7d493_6 : zin zm_J0_coder_7d493.2.2.2.2.2 6 = some (.aload_n 0, 1) := by rw [It_J0_coder_7d493]; rfl
theorem I_J0_coder_7d493_7 : zin zm_J0_coder_7d493.2.2.2.2.2 7 = some (.getfield 15, 3) := by rw [It_J0_coder_7d493]; rfl
theorem I_J0_coder_7d493_10 : zin zm_J0_coder_7d493.2.2.2.2.2 10 = some (.goto 4, 3) := by rw [It_J0_coder_7d493]; rfl
theorem I_J0_coder_7d493_13 : zin zm_J0_coder_7d493.2.2.2.2.2 13 = some (.iconst 1, 1) := by rw [It_J0_coder_7d493]; rfl
theorem I_J0_coder_7d493_14 : zin zm_J0_coder_7d493.2.2.2.2.2 14 = some (.ireturn, 1) := by rw [It_J0_coder_7d493]; rfl
theorem I_J0_isLatin1_aae02_0 : zin zm_J0_isLatin1_aae02.2.2.2.2.2 0 = some (.getstatic 38, 3) := by rw [It_J0_isLatin1_aae02]; rfl
theorem I_J0_isLatin1_aae02_3 : zin zm_J0_isLatin1_aae02.2.2.2.2.2 3 = some (.ifCond .eq 14, 3) := by rw [It_J0_isLatin1_aae02]; rfl
theorem I_J0_isLatin1_aae02_6 : zin zm_J0_isLatin1_aae02.2.2.2.2.2 6 = some (.aload_n 0, 1) := by rw [It_J0_isLatin1_aae02]; rfl
theorem I_J0_isLatin1_aae02_7 : zin zm_J0_isLatin1_aae02.2.2.2.2.2 7 = some (.getfield 15, 3) := by rw [It_J0_isLatin1_aae02]; rfl
theorem I_J0_isLatin1_aae02_10 : zin zm_J0_isLatin1_aae02.2.2.2.2.2 10 = some (.ifCond .ne 7, 3) := by rw [It_J0_isLatin1_aae02]; rfl
theorem I_J0_isLatin1_aae02_13 : zin zm_J0_isLatin1_aae02.2.2.2.2.2 13 = some (.iconst 1, 1) := by rw [It_J0_isLatin1_aae02]; rfl
theorem I_J0_isLatin1_aae02_14 : zin zm_J0_isLatin1_aae02.2.2.2.2.2 14 = some (.goto 4, 3) := by rw [It_J0_isLatin1_aae02]; rfl
theorem I_J0_isLatin1_aae02_17 : zin zm_J0_isLatin1_aae02.2.2.2.2.2 17 = some (.iconst 0, 1) := by rw [It_J0_isLatin1_aae02]; rfl
theorem I_J0_isLatin1_aae02_18 : zin zm_J0_isLatin1_aae02.2.2.2.2.2 18 = some (.ireturn, 1) := by rw [It_J0_isLatin1_aae02]; rfl
theorem I_J0_length_8abf5_0 : zin zm_J0_length_8abf5.2.2.2.2.2 0 = some (.aload_n 0, 1) := by rw [It_J0_length_8abf5]; rfl
theorem I_J0_length_8abf5_1 : zin zm_J0_length_8abf5.2.2.2.2.2 1 = some (.getfield 9, 3) := by rw [It_J0_length_8abf5]; rfl
theorem I_J0_length_8abf5_4 : zin zm_J0_length_8abf5.2.2.2.2.2 4 = some (.arraylength, 1) := by rw [It_J0_length_8abf5]; rfl
theorem I_J0_length_8abf5_5 : zin zm_J0_length_8abf5.2.2.2.2.2 5 = some (.aload_n 0, 1) := by rw [It_J0_length_8abf5]; rfl
theorem I_J0_length_8abf5_6 : zin zm_J0_length_8abf5.2.2.2.2.2 6 = some (.invokevirtual 335, 3) := by rw [It_J0_length_8abf5]; rfl
theorem I_J0_length_8abf5_9 : zin zm_J0_length_8abf5.2.2.2.2.2 9 = some (.ishr, 1) := by rw [It_J0_length_8abf5]; rfl
theorem I_J0_length_8abf5_10 : zin zm_J0_length_8abf5.2.2.2.2.2 10 = some (.ireturn, 1) := by rw [It_J0_length_8abf5]; rfl
theorem I_J1_charAt_3b067_0 : zin zm_J1_charAt_3b067.2.2.2.2.2 0 = some (.iload_n 1, 1) := by rw [It_J1_charAt_3b067]; rfl
theorem I_J1_charAt_3b067_1 : zin zm_J1_charAt_3b067.2.2.2.2.2 1 = some (.aload_n 0, 1) := by rw [It_J1_charAt_3b067]; rfl
theorem I_J1_charAt_3b067_2 : zin zm_J1_charAt_3b067.2.2.2.2.2 2 = some (.arraylength, 1) := by rw [It_J1_charAt_3b067]; rfl
theorem I_J1_charAt_3b067_3 : zin zm_J1_charAt_3b067.2.2.2.2.2 3 = some (.invokestatic 9, 3) := by rw [It_J1_charAt_3b067]; rfl
theorem I_J1_charAt_3b067_6 : zin zm_J1_charAt_3b067.2.2.2.2.2 6 = some (.aload_n 0, 1) := by rw [It_J1_charAt_3b067]; rfl
theorem I_J1_charAt_3b067_7 : zin zm_J1_charAt_3b067.2.2.2.2.2 7 = some (.iload_n 1, 1) := by rw [It_J1_charAt_3b067]; rfl
theorem I_J1_charAt_3b067_8 : zin zm_J1_charAt_3b067.2.2.2.2.2 8 = some (.baload, 1) := by rw [It_J1_charAt_3b067]; rfl
theorem I_J1_charAt_3b067_9 : zin zm_J1_charAt_3b067.2.2.2.2.2 9 = some (.sipush 255, 3) := by rw [It_J1_charAt_3b067]; rfl
theorem I_J1_charAt_3b067_12 : zin zm_J1_charAt_3b067.2.2.2.2.2 12 = some (.iand, 1) := by rw [It_J1_charAt_3b067]; rfl
theorem I_J1_charAt_3b067_13 : zin zm_J1_charAt_3b067.2.2.2.2.2 13 = some (.i2c, 1) := by rw [It_J1_charAt_3b067]; rfl
theorem I_J1_charAt_3b067_14 : zin zm_J1_charAt_3b067.2.2.2.2.2 14 = some (.ireturn, 1) := by rw [It_J1_charAt_3b067]; rfl
theorem I_J3_checkIndex_8e157_0 : zin zm_J3_checkIndex_8e157.2.2.2.2.2 0 = some (.iload_n 0, 1) := by rw [It_J3_checkIndex_8e157]; rfl
theorem I_J3_checkIndex_8e157_1 : zin zm_J3_checkIndex_8e157.2.2.2.2.2 1 = some (.ifCond .lt 8, 3) := by rw [It_J3_checkIndex_8e157]; rfl
theorem I_J3_checkIndex_8e157_4 : zin zm_J3_checkIndex_8e157.2.2.2.2.2 4 = some (.iload_n 0, 1) := by rw [It_J3_checkIndex_8e157]; rfl
theorem I_J3_checkIndex_8e157_5 : zin zm_J3_checkIndex_8e157.2.2.2.2.2 5 = some (.iload_n 1, 1) := by rw [It_J3_checkIndex_8e157]; rfl
theorem I_J3_checkIndex_8e157_6 : zin zm_J3_checkIndex_8e157.2.2.2.2.2 6 = some (.if_icmp .lt 10, 3) := by rw [It_J3_checkIndex_8e157]; rfl
theorem I_J3_checkIndex_8e157_9 : zin zm_J3_checkIndex_8e157.2.2.2.2.2 9 = some (.aload_n 2, 1) := by rw [It_J3_checkIndex_8e157]; rfl
theorem I_J3_checkIndex_8e157_10 : zin zm_J3_checkIndex_8e157.2.2.2.2.2 10 = some (.iload_n 0, 1) := by rw [It_J3_checkIndex_8e157]; rfl
theorem I_J3_checkIndex_8e157_11 : zin zm_J3_checkIndex_8e157.2.2.2.2.2 11 = some (.iload_n 1, 1) := by rw [It_J3_checkIndex_8e157]; rfl
theorem I_J3_checkIndex_8e157_12 : zin zm_J3_checkIndex_8e157.2.2.2.2.2 12 = some (.invokestatic 95, 3) := by rw [It_J3_checkIndex_8e157]; rfl
theorem I_J3_checkIndex_8e157_16 : zin zm_J3_checkIndex_8e157.2.2.2.2.2 16 = some (.iload_n 0, 1) := by rw [It_J3_checkIndex_8e157]; rfl
theorem I_J3_checkIndex_8e157_17 : zin zm_J3_checkIndex_8e157.2.2.2.2.2 17 = some (.ireturn, 1) := by rw [It_J3_checkIndex_8e157]; rfl
theorem I_X2_spells_0 : zin zm_X2_spells.2.2.2.2.2 0 = some (.aload_n 0, 1) := by rw [It_X2_spells]; rfl
theorem I_X2_spells_1 : zin zm_X2_spells.2.2.2.2.2 1 = some (.getfield 25, 3) := by rw [It_X2_spells]; rfl
theorem I_X2_spells_4 : zin zm_X2_spells.2.2.2.2.2 4 = some (.aload_n 0, 1) := by rw [It_X2_spells]; rfl
theorem I_X2_spells_5 : zin zm_X2_spells.2.2.2.2.2 5 = some (.getfield 102, 3) := by rw [It_X2_spells]; rfl
theorem I_X2_spells_8 : zin zm_X2_spells.2.2.2.2.2 8 = some (.isub, 1) := by rw [It_X2_spells]; rfl
theorem I_X2_spells_9 : zin zm_X2_spells.2.2.2.2.2 9 = some (.aload_n 1, 1) := by rw [It_X2_spells]; rfl
theorem I_X2_spells_10 : zin zm_X2_spells.2.2.2.2.2 10 = some (.invokevirtual 135, 3) := by rw [It_X2_spells]; rfl
theorem I_X2_spells_13 : zin zm_X2_spells.2.2.2.2.2 13 = some (.if_icmp .eq 5, 3) := by rw [It_X2_spells]; rfl
theorem I_X2_spells_16 : zin zm_X2_spells.2.2.2.2.2 16 = some (.iconst 0, 1) := by rw [It_X2_spells]; rfl
theorem I_X2_spells_17 : zin zm_X2_spells.2.2.2.2.2 17 = some (.ireturn, 1) := by rw [It_X2_spells]; rfl
theorem I_X2_spells_18 : zin zm_X2_spells.2.2.2.2.2 18 = some (.iconst 0, 1) := by rw [It_X2_spells]; rfl
theorem I_X2_spells_19 : zin zm_X2_spells.2.2.2.2.2 19 = some (.istore_n 2, 1) := by rw [It_X2_spells]; rfl
theorem I_X2_spells_20 : zin zm_X2_spells.2.2.2.2.2 20 = some (.iload_n 2, 1) := by rw [It_X2_spells]; rfl
theorem I_X2_spells_21 : zin zm_X2_spells.2.2.2.2.2 21 = some (.aload_n 1, 1) := by rw [It_X2_spells]; rfl
theorem I_X2_spells_22 : zin zm_X2_spells.2.2.2.2.2 22 = some (.invokevirtual 135, 3) := by rw [It_X2_spells]; rfl
theorem I_X2_spells_25 : zin zm_X2_spells.2.2.2.2.2 25 = some (.if_icmp .ge 30, 3) := by rw [It_X2_spells]; rfl
theorem I_X2_spells_28 : zin zm_X2_spells.2.2.2.2.2 28 = some (.aload_n 0, 1) := by rw [It_X2_spells]; rfl
theorem I_X2_spells_29 : zin zm_X2_spells.2.2.2.2.2 29 = some (.getfield 9, 3) := by rw [It_X2_spells]; rfl
theorem I_X2_spells_32 : zin zm_X2_spells.2.2.2.2.2 32 = some (.aload_n 0, 1) := by rw [It_X2_spells]; rfl
theorem I_X2_spells_33 : zin zm_X2_spells.2.2.2.2.2 33 = some (.getfield 102, 3) := by rw [It_X2_spells]; rfl
theorem I_X2_spells_36 : zin zm_X2_spells.2.2.2.2.2 36 = some (.iload_n 2, 1) := by rw [It_X2_spells]; rfl
theorem I_X2_spells_37 : zin zm_X2_spells.2.2.2.2.2 37 = some (.iadd, 1) := by rw [It_X2_spells]; rfl
theorem I_X2_spells_38 : zin zm_X2_spells.2.2.2.2.2 38 = some (.baload, 1) := by rw [It_X2_spells]; rfl
theorem I_X2_spells_39 : zin zm_X2_spells.2.2.2.2.2 39 = some (.aload_n 1, 1) := by rw [It_X2_spells]; rfl
theorem I_X2_spells_40 : zin zm_X2_spells.2.2.2.2.2 40 = some (.iload_n 2, 1) := by rw [It_X2_spells]; rfl
theorem I_X2_spells_41 : zin zm_X2_spells.2.2.2.2.2 41 = some (.invokevirtual 139, 3) := by rw [It_X2_spells]; rfl
theorem I_X2_spells_44 : zin zm_X2_spells.2.2.2.2.2 44 = some (.if_icmp .eq 5, 3) := by rw [It_X2_spells]; rfl
theorem I_X2_spells_47 : zin zm_X2_spells.2.2.2.2.2 47 = some (.iconst 0, 1) := by rw [It_X2_spells]; rfl
theorem I_X2_spells_48 : zin zm_X2_spells.2.2.2.2.2 48 = some (.ireturn, 1) := by rw [It_X2_spells]; rfl
theorem I_X2_spells_49 : zin zm_X2_spells.2.2.2.2.2 49 = some (.iinc 2 1, 3) := by rw [It_X2_spells]; rfl
theorem I_X2_spells_52 : zin zm_X2_spells.2.2.2.2.2 52 = some (.goto (-32), 3) := by rw [It_X2_spells]; rfl
theorem I_X2_spells_55 : zin zm_X2_spells.2.2.2.2.2 55 = some (.iconst 1, 1) := by rw [It_X2_spells]; rfl
theorem I_X2_spells_56 : zin zm_X2_spells.2.2.2.2.2 56 = some (.ireturn, 1) := by rw [It_X2_spells]; rfl
theorem I_X2_word_0 : zin zm_X2_word.2.2.2.2.2 0 = some (.iconst 0, 1) := by rw [It_X2_word]; rfl
theorem I_X2_word_1 : zin zm_X2_word.2.2.2.2.2 1 = some (.istore_n 1, 1) := by rw [It_X2_word]; rfl
theorem I_X2_word_2 : zin zm_X2_word.2.2.2.2.2 2 = some (.iload_n 1, 1) := by rw [It_X2_word]; rfl
theorem I_X2_word_3 : zin zm_X2_word.2.2.2.2.2 3 = some (.bipush 7, 2) := by rw [It_X2_word]; rfl
theorem I_X2_word_5 : zin zm_X2_word.2.2.2.2.2 5 = some (.if_icmp .ge 22, 3) := by rw [It_X2_word]; rfl
theorem I_X2_word_8 : zin zm_X2_word.2.2.2.2.2 8 = some (.aload_n 0, 1) := by rw [It_X2_word]; rfl
theorem I_X2_word_9 : zin zm_X2_word.2.2.2.2.2 9 = some (.iload_n 1, 1) := by rw [It_X2_word]; rfl
theorem I_X2_word_10 : zin zm_X2_word.2.2.2.2.2 10 = some (.invokestatic 127, 3) := by rw [It_X2_word]; rfl
theorem I_X2_word_13 : zin zm_X2_word.2.2.2.2.2 13 = some (.invokevirtual 131, 3) := by rw [It_X2_word]; rfl
theorem I_X2_word_16 : zin zm_X2_word.2.2.2.2.2 16 = some (.ifCond .eq 5, 3) := by rw [It_X2_word]; rfl
theorem I_X2_word_19 : zin zm_X2_word.2.2.2.2.2 19 = some (.iload_n 1, 1) := by rw [It_X2_word]; rfl
theorem I_X2_word_20 : zin zm_X2_word.2.2.2.2.2 20 = some (.ireturn, 1) := by rw [It_X2_word]; rfl
theorem I_X2_word_21 : zin zm_X2_word.2.2.2.2.2 21 = some (.iinc 1 1, 3) := by rw [It_X2_word]; rfl
theorem I_X2_word_24 : zin zm_X2_word.2.2.2.2.2 24 = some (.goto (-22), 3) := by rw [It_X2_word]; rfl
theorem I_X2_word_27 : zin zm_X2_word.2.2.2.2.2 27 = some (.bipush 7, 2) := by rw [It_X2_word]; rfl
theorem I_X2_word_29 : zin zm_X2_word.2.2.2.2.2 29 = some (.ireturn, 1) := by rw [It_X2_word]; rfl
theorem I_X2_wordText_0 : zin zm_X2_wordText.2.2.2.2.2 0 = some (.iload_n 0, 1) := by rw [It_X2_wordText]; rfl
theorem I_X2_wordText_1 : zin zm_X2_wordText.2.2.2.2.2 1 = some (.tableswitch 57 0 5 #[39, 42, 45, 48, 51, 54], 39) := by rw [It_X2_wordText]; rfl
theorem I_X2_wordText_40 : zin zm_X2_wordText.2.2.2.2.2 40 = some (.ldc 143, 2) := by rw [It_X2_wordText]; rfl
theorem I_X2_wordText_42 : zin zm_X2_wordText.2.2.2.2.2 42 = some (.areturn, 1) := by rw [It_X2_wordText]; rfl
theorem I_X2_wordText_43 : zin zm_X2_wordText.2.2.2.2.2 43 = some (.ldc 145, 2) := by rw [It_X2_wordText]; rfl
theorem I_X2_wordText_45 : zin zm_X2_wordText.2.2.2.2.2 45 = some (.areturn, 1) := by rw [It_X2_wordText]; rfl
theorem I_X2_wordText_46 : zin zm_X2_wordText.2.2.2.2.2 46 = some (.ldc 147, 2) := by rw [It_X2_wordText]; rfl
theorem I_X2_wordText_48 : zin zm_X2_wordText.2.2.2.2.2 48 = some (.areturn, 1) := by rw [It_X2_wordText]; rfl
theorem I_X2_wordText_49 : zin zm_X2_wordText.2.2.2.2.2 49 = some (.ldc 149, 2) := by rw [It_X2_wordText]; rfl
theorem I_X2_wordText_51 : zin zm_X2_wordText.2.2.2.2.2 51 = some (.areturn, 1) := by rw [It_X2_wordText]; rfl
theorem I_X2_wordText_52 : zin zm_X2_wordText.2.2.2.2.2 52 = some (.ldc 151, 2) := by rw [It_X2_wordText]; rfl
theorem I_X2_wordText_54 : zin zm_X2_wordText.2.2.2.2.2 54 = some (.areturn, 1) := by rw [It_X2_wordText]; rfl
theorem I_X2_wordText_55 : zin zm_X2_wordText.2.2.2.2.2 55 = some (.ldc 153, 2) := by rw [It_X2_wordText]; rfl
theorem I_X2_wordText_57 : zin zm_X2_wordText.2.2.2.2.2 57 = some (.areturn, 1) := by rw [It_X2_wordText]; rfl
theorem I_X2_wordText_58 : zin zm_X2_wordText.2.2.2.2.2 58 = some (.ldc 154, 2) := by rw [It_X2_wordText]; rfl
theorem I_X2_wordText_60 : zin zm_X2_wordText.2.2.2.2.2 60 = some (.areturn, 1) := by rw [It_X2_wordText]; rfl
theorem I_X8_nameHere_0 : zin zm_X8_nameHere.2.2.2.2.2 0 = some (.iconst 0, 1) := by rw [It_X8_nameHere]; rfl
theorem I_X8_nameHere_1 : zin zm_X8_nameHere.2.2.2.2.2 1 = some (.istore_n 1, 1) := by rw [It_X8_nameHere]; rfl
theorem I_X8_nameHere_2 : zin zm_X8_nameHere.2.2.2.2.2 2 = some (.iload_n 1, 1) := by rw [It_X8_nameHere]; rfl
theorem I_X8_nameHere_3 : zin zm_X8_nameHere.2.2.2.2.2 3 = some (.bipush 7, 2) := by rw [It_X8_nameHere]; rfl
theorem I_X8_nameHere_5 : zin zm_X8_nameHere.2.2.2.2.2 5 = some (.if_icmp .ge 113, 3) := by rw [It_X8_nameHere]; rfl
theorem I_X8_nameHere_8 : zin zm_X8_nameHere.2.2.2.2.2 8 = some (.aload_n 0, 1) := by rw [It_X8_nameHere]; rfl
theorem I_X8_nameHere_9 : zin zm_X8_nameHere.2.2.2.2.2 9 = some (.getfield 72, 3) := by rw [It_X8_nameHere]; rfl
theorem I_X8_nameHere_12 : zin zm_X8_nameHere.2.2.2.2.2 12 = some (.iconst 1, 1) := by rw [It_X8_nameHere]; rfl
theorem I_X8_nameHere_13 : zin zm_X8_nameHere.2.2.2.2.2 13 = some (.if_icmp .ne 105, 3) := by rw [It_X8_nameHere]; rfl
theorem I_X8_nameHere_16 : zin zm_X8_nameHere.2.2.2.2.2 16 = some (.aload_n 0, 1) := by rw [It_X8_nameHere]; rfl
theorem I_X8_nameHere_17 : zin zm_X8_nameHere.2.2.2.2.2 17 = some (.getfield 75, 3) := by rw [It_X8_nameHere]; rfl
theorem I_X8_nameHere_20 : zin zm_X8_nameHere.2.2.2.2.2 20 = some (.aload_n 0, 1) := by rw [It_X8_nameHere]; rfl
theorem I_X8_nameHere_21 : zin zm_X8_nameHere.2.2.2.2.2 21 = some (.getfield 66, 3) := by rw [It_X8_nameHere]; rfl
theorem I_X8_nameHere_24 : zin zm_X8_nameHere.2.2.2.2.2 24 = some (.isub, 1) := by rw [It_X8_nameHere]; rfl
theorem I_X8_nameHere_25 : zin zm_X8_nameHere.2.2.2.2.2 25 = some (.aload_n 0, 1) := by rw [It_X8_nameHere]; rfl
theorem I_X8_nameHere_26 : zin zm_X8_nameHere.2.2.2.2.2 26 = some (.getfield 22, 3) := by rw [It_X8_nameHere]; rfl
theorem I_X8_nameHere_29 : zin zm_X8_nameHere.2.2.2.2.2 29 = some (.iload_n 1, 1) := by rw [It_X8_nameHere]; rfl
theorem I_X8_nameHere_30 : zin zm_X8_nameHere.2.2.2.2.2 30 = some (.iconst 1, 1) := by rw [It_X8_nameHere]; rfl
theorem I_X8_nameHere_31 : zin zm_X8_nameHere.2.2.2.2.2 31 = some (.iadd, 1) := by rw [It_X8_nameHere]; rfl
theorem I_X8_nameHere_32 : zin zm_X8_nameHere.2.2.2.2.2 32 = some (.iaload, 1) := by rw [It_X8_nameHere]; rfl
theorem I_X8_nameHere_33 : zin zm_X8_nameHere.2.2.2.2.2 33 = some (.aload_n 0, 1) := by rw [It_X8_nameHere]; rfl
theorem I_X8_nameHere_34 : zin zm_X8_nameHere.2.2.2.2.2 34 = some (.getfield 22, 3) := by rw [It_X8_nameHere]; rfl
theorem I_X8_nameHere_37 : zin zm_X8_nameHere.2.2.2.2.2 37 = some (.iload_n 1, 1) := by rw [It_X8_nameHere]; rfl
theorem I_X8_nameHere_38 : zin zm_X8_nameHere.2.2.2.2.2 38 = some (.iaload, 1) := by rw [It_X8_nameHere]; rfl
theorem I_X8_nameHere_39 : zin zm_X8_nameHere.2.2.2.2.2 39 = some (.isub, 1) := by rw [It_X8_nameHere]; rfl
theorem I_X8_nameHere_40 : zin zm_X8_nameHere.2.2.2.2.2 40 = some (.if_icmp .ne 7, 3) := by rw [It_X8_nameHere]; rfl
theorem I_X8_nameHere_43 : zin zm_X8_nameHere.2.2.2.2.2 43 = some (.iconst 1, 1) := by rw [It_X8_nameHere]; rfl
theorem I_X8_nameHere_44 : zin zm_X8_nameHere.2.2.2.2.2 44 = some (.goto 4, 3) := by rw [It_X8_nameHere]; rfl
theorem I_X8_nameHere_47 : zin zm_X8_nameHere.2.2.2.2.2 47 = some (.iconst 0, 1) := by rw [It_X8_nameHere]; rfl
theorem I_X8_nameHere_48 : zin zm_X8_nameHere.2.2.2.2.2 48 = some (.istore_n 2, 1) := by rw [It_X8_nameHere]; rfl
theorem I_X8_nameHere_49 : zin zm_X8_nameHere.2.2.2.2.2 49 = some (.iconst 0, 1) := by rw [It_X8_nameHere]; rfl
theorem I_X8_nameHere_50 : zin zm_X8_nameHere.2.2.2.2.2 50 = some (.istore_n 3, 1) := by rw [It_X8_nameHere]; rfl
theorem I_X8_nameHere_51 : zin zm_X8_nameHere.2.2.2.2.2 51 = some (.iload_n 2, 1) := by rw [It_X8_nameHere]; rfl
theorem I_X8_nameHere_52 : zin zm_X8_nameHere.2.2.2.2.2 52 = some (.ifCond .eq 54, 3) := by rw [It_X8_nameHere]; rfl
theorem I_X8_nameHere_55 : zin zm_X8_nameHere.2.2.2.2.2 55 = some (.iload_n 3, 1) := by rw [It_X8_nameHere]; rfl
theorem I_X8_nameHere_56 : zin zm_X8_nameHere.2.2.2.2.2 56 = some (.aload_n 0, 1) := by rw [It_X8_nameHere]; rfl
theorem I_X8_nameHere_57 : zin zm_X8_nameHere.2.2.2.2.2 57 = some (.getfield 75, 3) := by rw [It_X8_nameHere]; rfl
theorem I_X8_nameHere_60 : zin zm_X8_nameHere.2.2.2.2.2 60 = some (.aload_n 0, 1) := by rw [It_X8_nameHere]; rfl
theorem I_X8_nameHere_61 : zin zm_X8_nameHere.2.2.2.2.2 61 = some (.getfield 66, 3) := by rw [It_X8_nameHere]; rfl
theorem I_X8_nameHere_64 : zin zm_X8_nameHere.2.2.2.2.2 64 = some (.isub, 1) := by rw [It_X8_nameHere]; rfl
theorem I_X8_nameHere_65 : zin zm_X8_nameHere.2.2.2.2.2 65 = some (.if_icmp .ge 41, 3) := by rw [It_X8_nameHere]; rfl
theorem I_X8_nameHere_68 : zin zm_X8_nameHere.2.2.2.2.2 68 = some (.aload_n 0, 1) := by rw [It_X8_nameHere]; rfl
theorem I_X8_nameHere_69 : zin zm_X8_nameHere.2.2.2.2.2 69 = some (.aload_n 0, 1) := by rw [It_X8_nameHere]; rfl
theorem I_X8_nameHere_70 : zin zm_X8_nameHere.2.2.2.2.2 70 = some (.getfield 66, 3) := by rw [It_X8_nameHere]; rfl
theorem I_X8_nameHere_73 : zin zm_X8_nameHere.2.2.2.2.2 73 = some (.iload_n 3, 1) := by rw [It_X8_nameHere]; rfl
theorem I_X8_nameHere_74 : zin zm_X8_nameHere.2.2.2.2.2 74 = some (.iadd, 1) := by rw [It_X8_nameHere]; rfl
theorem I_X8_nameHere_75 : zin zm_X8_nameHere.2.2.2.2.2 75 = some (.invokevirtual 78, 3) := by rw [It_X8_nameHere]; rfl
theorem I_X8_nameHere_78 : zin zm_X8_nameHere.2.2.2.2.2 78 = some (.aload_n 0, 1) := by rw [It_X8_nameHere]; rfl
theorem I_X8_nameHere_79 : zin zm_X8_nameHere.2.2.2.2.2 79 = some (.getfield 25, 3) := by rw [It_X8_nameHere]; rfl
theorem I_X8_nameHere_82 : zin zm_X8_nameHere.2.2.2.2.2 82 = some (.aload_n 0, 1) := by rw [It_X8_nameHere]; rfl
theorem I_X8_nameHere_83 : zin zm_X8_nameHere.2.2.2.2.2 83 = some (.getfield 22, 3) := by rw [It_X8_nameHere]; rfl
theorem I_X8_nameHere_86 : zin zm_X8_nameHere.2.2.2.2.2 86 = some (.iload_n 1, 1) := by rw [It_X8_nameHere]; rfl
theorem I_X8_nameHere_87 : zin zm_X8_nameHere.2.2.2.2.2 87 = some (.iaload, 1) := by rw [It_X8_nameHere]; rfl
theorem I_X8_nameHere_88 : zin zm_X8_nameHere.2.2.2.2.2 88 = some (.iload_n 3, 1) := by rw [It_X8_nameHere]; rfl
theorem I_X8_nameHere_89 : zin zm_X8_nameHere.2.2.2.2.2 89 = some (.iadd, 1) := by rw [It_X8_nameHere]; rfl
theorem I_X8_nameHere_90 : zin zm_X8_nameHere.2.2.2.2.2 90 = some (.iaload, 1) := by rw [It_X8_nameHere]; rfl
theorem I_X8_nameHere_91 : zin zm_X8_nameHere.2.2.2.2.2 91 = some (.if_icmp .ne 7, 3) := by rw [It_X8_nameHere]; rfl
theorem I_X8_nameHere_94 : zin zm_X8_nameHere.2.2.2.2.2 94 = some (.iconst 1, 1) := by rw [It_X8_nameHere]; rfl
theorem I_X8_nameHere_95 : zin zm_X8_nameHere.2.2.2.2.2 95 = some (.goto 4, 3) := by rw [It_X8_nameHere]; rfl
theorem I_X8_nameHere_98 : zin zm_X8_nameHere.2.2.2.2.2 98 = some (.iconst 0, 1) := by rw [It_X8_nameHere]; rfl
theorem I_X8_nameHere_99 : zin zm_X8_nameHere.2.2.2.2.2 99 = some (.istore_n 2, 1) := by rw [It_X8_nameHere]; rfl
theorem I_X8_nameHere_100 : zin zm_X8_nameHere.2.2.2.2.2 100 = some (.iinc 3 1, 3) := by rw [It_X8_nameHere]; rfl
theorem I_X8_nameHere_103 : zin zm_X8_nameHere.2.2.2.2.2 103 = some (.goto (-52), 3) := by rw [It_X8_nameHere]; rfl
theorem I_X8_nameHere_106 : zin zm_X8_nameHere.2.2.2.2.2 106 = some (.iload_n 2, 1) := by rw [It_X8_nameHere]; rfl
theorem I_X8_nameHere_107 : zin zm_X8_nameHere.2.2.2.2.2 107 = some (.ifCond .eq 5, 3) := by rw [It_X8_nameHere]; rfl
theorem I_X8_nameHere_110 : zin zm_X8_nameHere.2.2.2.2.2 110 = some (.iload_n 1, 1) := by rw [It_X8_nameHere]; rfl
theorem I_X8_nameHere_111 : zin zm_X8_nameHere.2.2.2.2.2 111 = some (.ireturn, 1) := by rw [It_X8_nameHere]; rfl
theorem I_X8_nameHere_112 : zin zm_X8_nameHere.2.2.2.2.2 112 = some (.iinc 1 1, 3) := by rw [It_X8_nameHere]; rfl
theorem I_X8_nameHere_115 : zin zm_X8_nameHere.2.2.2.2.2 115 = some (.goto (-113), 3) := by rw [It_X8_nameHere]; rfl
theorem I_X8_nameHere_118 : zin zm_X8_nameHere.2.2.2.2.2 118 = some (.bipush (-4), 2) := by rw [It_X8_nameHere]; rfl
theorem I_X8_nameHere_120 : zin zm_X8_nameHere.2.2.2.2.2 120 = some (.ireturn, 1) := by rw [It_X8_nameHere]; rfl
theorem G_8_22 : zlk zfls 8 22 = some (8, 16, 857) := rfl
theorem G_8_25 : zlk zfls 8 25 = some (8, 17, 858) := rfl
theorem K_2_127 : zlk zmls 2 127 = some (1, 42, 1, 381) := rfl
theorem K_2_131 : zlk zmls 2 131 = some (0, 41, 1, 391) := rfl
theorem K_2_135 : zlk zmls 2 135 = some (0, 183, 0, 395) := rfl
theorem K_2_139 : zlk zmls 2 139 = some (0, 184, 1, 405) := rfl
theorem K_12_335 : zlk zmls 12 335 = some (0, 185, 0, 399) := rfl
theorem K_12_492 : zlk zmls 12 492 = some (0, 186, 0, 409) := rfl
theorem K_12_495 : zlk zmls 12 495 = some (1, 188, 2, 413) := rfl
theorem K_12_1059 : zlk zmls 12 1059 = some (1, 194, 3, 421) := rfl
theorem K_13_9 : zlk zmls 13 9 = some (1, 187, 2, 416) := rfl
theorem Zm_41 : zms[41]? = some zm_X2_spells := rfl
theorem Zm_42 : zms[42]? = some zm_X2_wordText := rfl
theorem Zm_183 : zms[183]? = some zm_J0_length_8abf5 := rfl
theorem Zm_184 : zms[184]? = some zm_J0_charAt_5068e := rfl
theorem Zm_185 : zms[185]? = some zm_J0_coder_7d493 := rfl
theorem Zm_186 : zms[186]? = some zm_J0_isLatin1_aae02 := rfl
theorem Zm_187 : zms[187]? = some zm_J0_checkIndex_df160 := rfl
theorem Zm_188 : zms[188]? = some zm_J1_charAt_3b067 := rfl
theorem Zm_194 : zms[194]? = some zm_J3_checkIndex_8e157 := rfl
theorem LY_76 : zLY[76]? = some (Sum.inl 0, List.replicate 8 none) := rfl
theorem LY_77 : zLY[77]? = some (Sum.inl 0, List.replicate 35 none) := rfl
theorem cl_J0_charAt_5068e : zm_J0_charAt_5068e.2.2.2.2.1 = 12 := by
  unfold zm_J0_charAt_5068e
  rfl
theorem cn2_J0_charAt_5068e : zm_J0_charAt_5068e.2.2.2.2.1 ≠ 2 := by
  rw [cl_J0_charAt_5068e]
  decide
theorem cl_J0_checkIndex_df160 : zm_J0_checkIndex_df160.2.2.2.2.1 = 12 := by
  unfold zm_J0_checkIndex_df160
  rfl
theorem cn2_J0_checkIndex_df160 : zm_J0_checkIndex_df160.2.2.2.2.1 ≠ 2 := by
  rw [cl_J0_checkIndex_df160]
  decide
theorem cl_J0_coder_7d493 : zm_J0_coder_7d493.2.2.2.2.1 = 12 := by
  unfold zm_J0_coder_7d493
  rfl
theorem cn2_J0_coder_7d493 : zm_J0_coder_7d493.2.2.2.2.1 ≠ 2 := by
  rw [cl_J0_coder_7d493]
  decide
theorem cl_J0_isLatin1_aae02 : zm_J0_isLatin1_aae02.2.2.2.2.1 = 12 := by
  unfold zm_J0_isLatin1_aae02
  rfl
theorem cn2_J0_isLatin1_aae02 : zm_J0_isLatin1_aae02.2.2.2.2.1 ≠ 2 := by
  rw [cl_J0_isLatin1_aae02]
  decide
theorem cl_J0_length_8abf5 : zm_J0_length_8abf5.2.2.2.2.1 = 12 := by
  unfold zm_J0_length_8abf5
  rfl
theorem cn2_J0_length_8abf5 : zm_J0_length_8abf5.2.2.2.2.1 ≠ 2 := by
  rw [cl_J0_length_8abf5]
  decide
theorem cl_X2_spells : zm_X2_spells.2.2.2.2.1 = 2 := by
  unfold zm_X2_spells
  rfl
theorem cn_X2_spells : zm_X2_spells.2.2.2.2.1 ≠ 12 := by
  rw [cl_X2_spells]
  decide
theorem cl_X2_wordText : zm_X2_wordText.2.2.2.2.1 = 2 := by
  unfold zm_X2_wordText
  rfl
theorem cn_X2_wordText : zm_X2_wordText.2.2.2.2.1 ≠ 12 := by
  rw [cl_X2_wordText]
  decide
theorem cl_X8_nameHere : zm_X8_nameHere.2.2.2.2.1 = 8 := by
  unfold zm_X8_nameHere
  rfl
theorem cn_X8_nameHere : zm_X8_nameHere.2.2.2.2.1 ≠ 12 := by
  rw [cl_X8_nameHere]
  decide
theorem cn2_X8_nameHere : zm_X8_nameHere.2.2.2.2.1 ≠ 2 := by
  rw [cl_X8_nameHere]
  decide
theorem t_J0_coder_7d493 {d : Nat} {m : zM} {r : Option Value} {h' : zHp} {w : Nat}  (H : zE none d zm_J0_coder_7d493 0 [.retAddr (2 * w + 1)] [] m r h') : r = some (.int 0) ∧ h' = zhp m := by
  replace H := i_gs1 (q := 3) H I_J0_coder_7d493_0 cl_J0_coder_7d493 rfl
  have W := i_if_eq (t := 13) (q := 6) H I_J0_coder_7d493_3 (by decide) rfl
  clear H
  rcases W with ⟨c_3, H⟩ | ⟨c_3, H⟩
  · skip
    replace H := i_icst (x := 1) (q := 14) H I_J0_coder_7d493_13 (by decide) rfl
    obtain ⟨hr, hh⟩ := i_ir H I_J0_coder_7d493_14
    first
    | exact ⟨hr, hh⟩
    | exact absurd c_3 (by decide)
  · skip
    replace H := i_xln (q := 7) H I_J0_coder_7d493_6 rfl rfl
    replace H := i_sco (q := 10) H I_J0_coder_7d493_7 cl_J0_coder_7d493 rfl
    replace H := i_goto (q := 14) H I_J0_coder_7d493_10 (by decide)
    obtain ⟨hr, hh⟩ := i_ir H I_J0_coder_7d493_14
    first
    | exact ⟨hr, hh⟩
    | exact absurd c_3 (by decide)
theorem t_J0_isLatin1_aae02 {d : Nat} {m : zM} {r : Option Value} {h' : zHp} {w : Nat}  (H : zE none d zm_J0_isLatin1_aae02 0 [.retAddr (2 * w + 1)] [] m r h') : r = some (.int 1) ∧ h' = zhp m := by
  replace H := i_gs1 (q := 3) H I_J0_isLatin1_aae02_0 cl_J0_isLatin1_aae02 rfl
  have W := i_if_eq (t := 17) (q := 6) H I_J0_isLatin1_aae02_3 (by decide) rfl
  clear H
  rcases W with ⟨c_3, H⟩ | ⟨c_3, H⟩
  · skip
    replace H := i_icst (x := 0) (q := 18) H I_J0_isLatin1_aae02_17 (by decide) rfl
    obtain ⟨hr, hh⟩ := i_ir H I_J0_isLatin1_aae02_18
    first
    | exact ⟨hr, hh⟩
    | exact absurd c_3 (by decide)
    | exact absurd rfl c_10
  · skip
    replace H := i_xln (q := 7) H I_J0_isLatin1_aae02_6 rfl rfl
    replace H := i_sco (q := 10) H I_J0_isLatin1_aae02_7 cl_J0_isLatin1_aae02 rfl
    have W := i_if_ne (t := 17) (q := 13) H I_J0_isLatin1_aae02_10 (by decide) rfl
    clear H
    rcases W with ⟨c_10, H⟩ | ⟨c_10, H⟩
    · skip
      replace H := i_icst (x := 0) (q := 18) H I_J0_isLatin1_aae02_17 (by decide) rfl
      obtain ⟨hr, hh⟩ := i_ir H I_J0_isLatin1_aae02_18
      first
      | exact ⟨hr, hh⟩
      | exact absurd c_3 (by decide)
      | exact absurd rfl c_10
    · skip
      replace H := i_icst (x := 1) (q := 14) H I_J0_isLatin1_aae02_13 (by decide) rfl
      replace H := i_goto (q := 18) H I_J0_isLatin1_aae02_14 (by decide)
      obtain ⟨hr, hh⟩ := i_ir H I_J0_isLatin1_aae02_18
      first
      | exact ⟨hr, hh⟩
      | exact absurd c_3 (by decide)
      | exact absurd rfl c_10
theorem zw2 {w : Nat} : (2 * w + 1) / 2 = w := by omega
theorem z_sh0 {x : Int32} : x >>> ((0 : Int32) &&& 31) = x := by
  rw [show (0 : Int32) &&& 31 = 0 by decide]
  exact Int32.shiftRight_zero
theorem t_J0_length_8abf5 {d : Nat} {m : zM} {r : Option Value} {h' : zHp} {w : Nat}  (H : zE none d zm_J0_length_8abf5 0 [.retAddr (2 * w + 1)] [] m r h') : r = some (.int (Int32.ofNat (zlen.getD w 0))) ∧ h' = zhp m := by
  replace H := i_xln (q := 1) H I_J0_length_8abf5_0 rfl rfl
  replace H := i_sv (q := 4) H I_J0_length_8abf5_1 cl_J0_length_8abf5 rfl
  replace H := i_sal (q := 5) H I_J0_length_8abf5_4 rfl
  replace H := i_xln (q := 6) H I_J0_length_8abf5_5 rfl rfl
  have W := i_cv0 0 (q := 9) H I_J0_length_8abf5_6 K_12_335 Zm_185 rfl rfl
  clear H
  obtain ⟨r1, h1, Hc, K1, K2⟩ := W
  obtain ⟨e1, e2⟩ := t_J0_coder_7d493 Hc
  have H := K1 _ _ e1 e2
  clear e1 e2 Hc K1 K2
  replace H := i_ishr (q := 10) H I_J0_length_8abf5_9 rfl
  obtain ⟨hr, hh⟩ := i_ir H I_J0_length_8abf5_10
  refine ⟨hr.trans ?_, hh⟩
  rw [zw2, z_sh0]
theorem t_J3_checkIndex_8e157 {d : Nat} {m : zM} {r : Option Value} {h' : zHp} {x y : Int32} {a : Nat} (H : zE none d zm_J3_checkIndex_8e157 0 [.int x, .int y, .retAddr a] [] m r h') : r = some (.int x) ∧ h' = zhp m := by
  replace H := i_iln (q := 1) H I_J3_checkIndex_8e157_0 rfl rfl
  have W := i_if_lt (t := 9) (q := 4) H I_J3_checkIndex_8e157_1 (by decide) rfl
  clear H
  rcases W with ⟨c_1, H⟩ | ⟨c_1, H⟩
  · skip
    replace H := i_xln (q := 10) H I_J3_checkIndex_8e157_9 rfl rfl
    replace H := i_iln (q := 11) H I_J3_checkIndex_8e157_10 rfl rfl
    replace H := i_iln (q := 12) H I_J3_checkIndex_8e157_11 rfl rfl
    exact (i_dead H I_J3_checkIndex_8e157_12 rfl).elim
  · skip
    replace H := i_iln (q := 5) H I_J3_checkIndex_8e157_4 rfl rfl
    replace H := i_iln (q := 6) H I_J3_checkIndex_8e157_5 rfl rfl
    have W := i_ic_lt (t := 16) (q := 9) H I_J3_checkIndex_8e157_6 (by decide) rfl
    clear H
    rcases W with ⟨c_6, H⟩ | ⟨c_6, H⟩
    · skip
      replace H := i_iln (q := 17) H I_J3_checkIndex_8e157_16 rfl rfl
      obtain ⟨hr, hh⟩ := i_ir H I_J3_checkIndex_8e157_17
      exact ⟨hr, hh⟩
    · skip
      replace H := i_xln (q := 10) H I_J3_checkIndex_8e157_9 rfl rfl
      replace H := i_iln (q := 11) H I_J3_checkIndex_8e157_10 rfl rfl
      replace H := i_iln (q := 12) H I_J3_checkIndex_8e157_11 rfl rfl
      exact (i_dead H I_J3_checkIndex_8e157_12 rfl).elim
theorem t_J0_checkIndex_df160 {d : Nat} {m : zM} {r : Option Value} {h' : zHp} {x y : Int32}  (H : zE none d zm_J0_checkIndex_df160 0 [.int x, .int y] [] m r h') : r = none ∧ h' = zhp m := by
  replace H := i_iln (q := 1) H I_J0_checkIndex_df160_0 rfl rfl
  replace H := i_iln (q := 2) H I_J0_checkIndex_df160_1 rfl rfl
  replace H := i_gs2 (q := 5) H I_J0_checkIndex_df160_2 cl_J0_checkIndex_df160 rfl
  have W := i_cs3 0 (q := 8) H I_J0_checkIndex_df160_5 K_12_1059 Zm_194 rfl rfl
  clear H
  obtain ⟨r1, h1, Hc, K1, K2⟩ := W
  obtain ⟨e1, e2⟩ := t_J3_checkIndex_8e157 Hc
  have H := K1 _ _ e1 e2
  clear e1 e2 Hc K1 K2
  replace H := i_pop (q := 9) H I_J0_checkIndex_df160_8 rfl rfl
  obtain ⟨hr, hh⟩ := i_rt H I_J0_checkIndex_df160_9
  exact ⟨hr, hh⟩
def zch (w i : Nat) : Int32 := (zbyt.getD w []).getD i 0
theorem zch_c : ∀ w, w < 7 → ∀ i, i < 6 → (((zch w i &&& 255).toUInt32 % 65536).toInt32) = zch w i := by decide
theorem zlen_6 : ∀ w, w < 7 → zlen.getD w 0 ≤ 6 := by decide
theorem t_J1_charAt_3b067 {d : Nat} {m : zM} {r : Option Value} {h' : zHp} {w i : Nat} {x : Int32} (hw : w < 7) (hx : x = Int32.ofNat i) (hi : i < 6) (H : zE none d zm_J1_charAt_3b067 0 [.retAddr (2 * w + 1 + 1), .int x] [] m r h') : r = some (.int (zch w i)) ∧ h' = zhp m := by
  replace H := i_iln (q := 1) H I_J1_charAt_3b067_0 rfl rfl
  replace H := i_xln (q := 2) H I_J1_charAt_3b067_1 rfl rfl
  replace H := i_sal (q := 3) H I_J1_charAt_3b067_2 rfl
  have W := i_cs2 0 (q := 6) H I_J1_charAt_3b067_3 K_13_9 Zm_187 rfl rfl
  clear H
  obtain ⟨r1, h1, Hc, K1, K2⟩ := W
  obtain ⟨e1, e2⟩ := t_J0_checkIndex_df160 Hc
  have H := K2 _ e1 e2
  clear e1 e2 Hc K1 K2
  replace H := i_xln (q := 7) H I_J1_charAt_3b067_6 rfl rfl
  replace H := i_iln (q := 8) H I_J1_charAt_3b067_7 rfl rfl
  replace H := i_sba (q := 9) H I_J1_charAt_3b067_8 rfl
  replace H := i_sip (x := 255) (q := 12) H I_J1_charAt_3b067_9 (by decide) rfl
  replace H := i_iand (q := 13) H I_J1_charAt_3b067_12 rfl
  replace H := i_i2c (q := 14) H I_J1_charAt_3b067_13 rfl
  obtain ⟨hr, hh⟩ := i_ir H I_J1_charAt_3b067_14
  refine ⟨hr.trans ?_, hh⟩
  rw [zw2, hx, Int32.toNatClampNeg_ofNat_of_lt (by omega)]
  exact congrArg (fun z => some (Value.int z)) (zch_c w hw i hi)
theorem t_J0_charAt_5068e {d : Nat} {m : zM} {r : Option Value} {h' : zHp} {w i : Nat} {x : Int32} (hw : w < 7) (hx : x = Int32.ofNat i) (hi : i < 6) (H : zE none d zm_J0_charAt_5068e 0 [.retAddr (2 * w + 1), .int x] [] m r h') : r = some (.int (zch w i)) ∧ h' = zhp m := by
  replace H := i_xln (q := 1) H I_J0_charAt_5068e_0 rfl rfl
  have W := i_cv0 0 (q := 4) H I_J0_charAt_5068e_1 K_12_492 Zm_186 rfl rfl
  clear H
  obtain ⟨r1, h1, Hc, K1, K2⟩ := W
  obtain ⟨e1, e2⟩ := t_J0_isLatin1_aae02 Hc
  have H := K1 _ _ e1 e2
  clear e1 e2 Hc K1 K2
  have W := i_if_eq (t := 16) (q := 7) H I_J0_charAt_5068e_4 (by decide) rfl
  clear H
  rcases W with ⟨c_4, H⟩ | ⟨c_4, H⟩
  · skip
    exact absurd c_4 (by decide)
  · skip
    replace H := i_xln (q := 8) H I_J0_charAt_5068e_7 rfl rfl
    replace H := i_sv (q := 11) H I_J0_charAt_5068e_8 cl_J0_charAt_5068e rfl
    replace H := i_iln (q := 12) H I_J0_charAt_5068e_11 rfl rfl
    have W := i_cs2 0 (q := 15) H I_J0_charAt_5068e_12 K_12_495 Zm_188 rfl rfl
    clear H
    obtain ⟨r1, h1, Hc, K1, K2⟩ := W
    obtain ⟨e1, e2⟩ := t_J1_charAt_3b067 hw hx hi Hc
    have H := K1 _ _ e1 e2
    clear e1 e2 Hc K1 K2
    obtain ⟨hr, hh⟩ := i_ir H I_J0_charAt_5068e_15
    exact ⟨hr, hh⟩
theorem t_X2_wordText {d : Nat} {m : zM} {r : Option Value} {h' : zHp} {x : Int32} {w : Nat} (hw : w < 7) (hx : x = Int32.ofNat w) (H : zE none d zm_X2_wordText 0 [.int x] [] m r h') : r = some (.retAddr (2 * w + 1)) ∧ h' = zhp m := by
  replace H := i_iln (q := 1) H I_X2_wordText_0 rfl rfl
  have W := i_ts1 0 (q := 40) H I_X2_wordText_1 (by decide) rfl (by decide)
  clear H
  rcases W with ⟨w_1_0, H⟩ | ⟨w_1_0, H⟩
  · skip
    replace H := i_ldx (q := 42) H I_X2_wordText_40 cl_X2_wordText rfl rfl
    obtain ⟨hr, hh⟩ := i_xr H I_X2_wordText_42
    refine ⟨hr.trans ?_, hh⟩
    have h7 : w = 0 ∨ w = 1 ∨ w = 2 ∨ w = 3 ∨ w = 4 ∨ w = 5 ∨ w = 6 := by omega
    subst hx
    rcases h7 with rfl | rfl | rfl | rfl | rfl | rfl | rfl <;> first | rfl | (exfalso; revert w_1_0; decide) | (exfalso; revert w_1_1; decide) | (exfalso; revert w_1_2; decide) | (exfalso; revert w_1_3; decide) | (exfalso; revert w_1_4; decide) | (exfalso; revert w_1_5; decide)
  · skip
    have W := i_ts1 1 (q := 43) H I_X2_wordText_1 (by decide) rfl (by decide)
    clear H
    rcases W with ⟨w_1_1, H⟩ | ⟨w_1_1, H⟩
    · skip
      replace H := i_ldx (q := 45) H I_X2_wordText_43 cl_X2_wordText rfl rfl
      obtain ⟨hr, hh⟩ := i_xr H I_X2_wordText_45
      refine ⟨hr.trans ?_, hh⟩
      have h7 : w = 0 ∨ w = 1 ∨ w = 2 ∨ w = 3 ∨ w = 4 ∨ w = 5 ∨ w = 6 := by omega
      subst hx
      rcases h7 with rfl | rfl | rfl | rfl | rfl | rfl | rfl <;> first | rfl | (exfalso; revert w_1_0; decide) | (exfalso; revert w_1_1; decide) | (exfalso; revert w_1_2; decide) | (exfalso; revert w_1_3; decide) | (exfalso; revert w_1_4; decide) | (exfalso; revert w_1_5; decide)
    · skip
      have W := i_ts1 2 (q := 46) H I_X2_wordText_1 (by decide) rfl (by decide)
      clear H
      rcases W with ⟨w_1_2, H⟩ | ⟨w_1_2, H⟩
      · skip
        replace H := i_ldx (q := 48) H I_X2_wordText_46 cl_X2_wordText rfl rfl
        obtain ⟨hr, hh⟩ := i_xr H I_X2_wordText_48
        refine ⟨hr.trans ?_, hh⟩
        have h7 : w = 0 ∨ w = 1 ∨ w = 2 ∨ w = 3 ∨ w = 4 ∨ w = 5 ∨ w = 6 := by omega
        subst hx
        rcases h7 with rfl | rfl | rfl | rfl | rfl | rfl | rfl <;> first | rfl | (exfalso; revert w_1_0; decide) | (exfalso; revert w_1_1; decide) | (exfalso; revert w_1_2; decide) | (exfalso; revert w_1_3; decide) | (exfalso; revert w_1_4; decide) | (exfalso; revert w_1_5; decide)
      · skip
        have W := i_ts1 3 (q := 49) H I_X2_wordText_1 (by decide) rfl (by decide)
        clear H
        rcases W with ⟨w_1_3, H⟩ | ⟨w_1_3, H⟩
        · skip
          replace H := i_ldx (q := 51) H I_X2_wordText_49 cl_X2_wordText rfl rfl
          obtain ⟨hr, hh⟩ := i_xr H I_X2_wordText_51
          refine ⟨hr.trans ?_, hh⟩
          have h7 : w = 0 ∨ w = 1 ∨ w = 2 ∨ w = 3 ∨ w = 4 ∨ w = 5 ∨ w = 6 := by omega
          subst hx
          rcases h7 with rfl | rfl | rfl | rfl | rfl | rfl | rfl <;> first | rfl | (exfalso; revert w_1_0; decide) | (exfalso; revert w_1_1; decide) | (exfalso; revert w_1_2; decide) | (exfalso; revert w_1_3; decide) | (exfalso; revert w_1_4; decide) | (exfalso; revert w_1_5; decide)
        · skip
          have W := i_ts1 4 (q := 52) H I_X2_wordText_1 (by decide) rfl (by decide)
          clear H
          rcases W with ⟨w_1_4, H⟩ | ⟨w_1_4, H⟩
          · skip
            replace H := i_ldx (q := 54) H I_X2_wordText_52 cl_X2_wordText rfl rfl
            obtain ⟨hr, hh⟩ := i_xr H I_X2_wordText_54
            refine ⟨hr.trans ?_, hh⟩
            have h7 : w = 0 ∨ w = 1 ∨ w = 2 ∨ w = 3 ∨ w = 4 ∨ w = 5 ∨ w = 6 := by omega
            subst hx
            rcases h7 with rfl | rfl | rfl | rfl | rfl | rfl | rfl <;> first | rfl | (exfalso; revert w_1_0; decide) | (exfalso; revert w_1_1; decide) | (exfalso; revert w_1_2; decide) | (exfalso; revert w_1_3; decide) | (exfalso; revert w_1_4; decide) | (exfalso; revert w_1_5; decide)
          · skip
            have W := i_ts1 5 (q := 55) H I_X2_wordText_1 (by decide) rfl (by decide)
            clear H
            rcases W with ⟨w_1_5, H⟩ | ⟨w_1_5, H⟩
            · skip
              replace H := i_ldx (q := 57) H I_X2_wordText_55 cl_X2_wordText rfl rfl
              obtain ⟨hr, hh⟩ := i_xr H I_X2_wordText_57
              refine ⟨hr.trans ?_, hh⟩
              have h7 : w = 0 ∨ w = 1 ∨ w = 2 ∨ w = 3 ∨ w = 4 ∨ w = 5 ∨ w = 6 := by omega
              subst hx
              rcases h7 with rfl | rfl | rfl | rfl | rfl | rfl | rfl <;> first | rfl | (exfalso; revert w_1_0; decide) | (exfalso; revert w_1_1; decide) | (exfalso; revert w_1_2; decide) | (exfalso; revert w_1_3; decide) | (exfalso; revert w_1_4; decide) | (exfalso; revert w_1_5; decide)
            · skip
              replace H := i_tsd (q := 58) H I_X2_wordText_1 (by have q0 := zne w_1_0 (z := 0) (by decide); have q1 := zne w_1_1 (z := 1) (by decide); have q2 := zne w_1_2 (z := 2) (by decide); have q3 := zne w_1_3 (z := 3) (by decide); have q4 := zne w_1_4 (z := 4) (by decide); have q5 := zne w_1_5 (z := 5) (by decide); omega) (by decide)
              replace H := i_ldx (q := 60) H I_X2_wordText_58 cl_X2_wordText rfl rfl
              obtain ⟨hr, hh⟩ := i_xr H I_X2_wordText_60
              refine ⟨hr.trans ?_, hh⟩
              have h7 : w = 0 ∨ w = 1 ∨ w = 2 ∨ w = 3 ∨ w = 4 ∨ w = 5 ∨ w = 6 := by omega
              subst hx
              rcases h7 with rfl | rfl | rfl | rfl | rfl | rfl | rfl <;> first | rfl | (exfalso; revert w_1_0; decide) | (exfalso; revert w_1_1; decide) | (exfalso; revert w_1_2; decide) | (exfalso; revert w_1_3; decide) | (exfalso; revert w_1_4; decide) | (exfalso; revert w_1_5; decide)
/-- the letters from place s on are those of the word w, from its k-th on, j of them -/
def zal (t : Nat → Int32) (s w : Nat) : Nat → Nat → Bool
  | _, 0 => true
  | k, j + 1 => decide (t (s + k) = zch w k) && zal t s w (k + 1) j
def zmat (t : Nat → Int32) (s e w : Nat) : Bool := decide (e - s = zlen.getD w 0) && zal t s w 0 (zlen.getD w 0)
def zwf (t : Nat → Int32) (s e : Nat) : Nat → Nat → Nat
  | 0, w => w
  | k + 1, w => if zmat t s e w = true then w else zwf t s e k (w + 1)
/-- which word stands there; 7: none -/
def zword (t : Nat → Int32) (s e : Nat) : Nat := zwf t s e 7 0
theorem sp_loop {m : zM} {w s : Nat} (hw : w < 7) (hs : m 1 8 = Int32.ofNat s) (hs2 : s ≤ 160) : ∀ (j k d : Nat) (r : Option Value) (h' : zHp), k + j = zlen.getD w 0 → zE none d zm_X2_spells 20 [.ref 1, .retAddr (2 * w + 1), .int (Int32.ofNat k)] [] m r h' → r = some (.int (if zal (m 2) s w k j = true then 1 else 0)) ∧ h' = zhp m := by
  have h6 := zlen_6 w hw
  intro j
  induction j with
  | zero =>
    intro k d r h' hk H
    replace H := i_iln (q := 21) H I_X2_spells_20 rfl rfl
    replace H := i_xln (q := 22) H I_X2_spells_21 rfl rfl
    have W := i_cv0 0 (q := 25) H I_X2_spells_22 K_2_135 Zm_183 rfl rfl
    clear H
    obtain ⟨r1, h1, Hc, K1, K2⟩ := W
    obtain ⟨e1, e2⟩ := t_J0_length_8abf5 Hc
    have H := K1 _ _ e1 e2
    clear e1 e2 Hc K1 K2
    have W := i_ic_ge (t := 55) (q := 28) H I_X2_spells_25 (by decide) rfl
    clear H
    rcases W with ⟨c_25, H⟩ | ⟨c_25, H⟩
    · skip
      replace H := i_icst (x := 1) (q := 56) H I_X2_spells_55 (by decide) rfl
      obtain ⟨hr, hh⟩ := i_ir H I_X2_spells_56
      refine ⟨hr.trans ?_, hh⟩
      rfl
    · skip
      replace H := i_aln (q := 29) H I_X2_spells_28 rfl rfl
      replace H := i_gfr (q := 32) H I_X2_spells_29 G_2_9 cn_X2_spells LY_1 rfl rfl
      replace H := i_aln (q := 33) H I_X2_spells_32 rfl rfl
      replace H := i_gfi (q := 36) H I_X2_spells_33 G_2_102 cn_X2_spells LY_1 rfl rfl
      replace H := i_iln (q := 37) H I_X2_spells_36 rfl rfl
      replace H := i_iadd (q := 38) H I_X2_spells_37 rfl
      have W := i_ba (q := 39) H I_X2_spells_38 LY_2 rfl
      clear H
      obtain ⟨i_38, bi_38, ei_38, H⟩ := W
      replace H := i_xln (q := 40) H I_X2_spells_39 rfl rfl
      replace H := i_iln (q := 41) H I_X2_spells_40 rfl rfl
      have W := i_cv1 0 (q := 44) H I_X2_spells_41 K_2_139 Zm_184 rfl rfl
      clear H
      obtain ⟨r1, h1, Hc, K1, K2⟩ := W
      obtain ⟨e1, e2⟩ := t_J0_charAt_5068e hw rfl (by have := (zofn_lt (by omega) (by omega)).mp c_25; omega) Hc
      have H := K1 _ _ e1 e2
      clear e1 e2 Hc K1 K2
      have W := i_ic_eq (t := 49) (q := 47) H I_X2_spells_44 (by decide) rfl
      clear H
      rcases W with ⟨c_44, H⟩ | ⟨c_44, H⟩
      · skip
        replace H := i_inc (q := 52) H I_X2_spells_49 rfl rfl rfl
        replace H := i_goto (q := 20) H I_X2_spells_52 (by decide)
        exfalso
        exact absurd ((zofn_lt (by omega) (by omega)).mp c_25) (by omega)
      · skip
        replace H := i_icst (x := 0) (q := 48) H I_X2_spells_47 (by decide) rfl
        obtain ⟨hr, hh⟩ := i_ir H I_X2_spells_48
        exfalso
        exact absurd ((zofn_lt (by omega) (by omega)).mp c_25) (by omega)
  | succ j ih =>
    intro k d r h' hk H
    replace H := i_iln (q := 21) H I_X2_spells_20 rfl rfl
    replace H := i_xln (q := 22) H I_X2_spells_21 rfl rfl
    have W := i_cv0 0 (q := 25) H I_X2_spells_22 K_2_135 Zm_183 rfl rfl
    clear H
    obtain ⟨r1, h1, Hc, K1, K2⟩ := W
    obtain ⟨e1, e2⟩ := t_J0_length_8abf5 Hc
    have H := K1 _ _ e1 e2
    clear e1 e2 Hc K1 K2
    have W := i_ic_ge (t := 55) (q := 28) H I_X2_spells_25 (by decide) rfl
    clear H
    rcases W with ⟨c_25, H⟩ | ⟨c_25, H⟩
    · skip
      replace H := i_icst (x := 1) (q := 56) H I_X2_spells_55 (by decide) rfl
      obtain ⟨hr, hh⟩ := i_ir H I_X2_spells_56
      exfalso
      exact c_25 ((zofn_lt (by omega) (by omega)).mpr (by omega))
    · skip
      replace H := i_aln (q := 29) H I_X2_spells_28 rfl rfl
      replace H := i_gfr (q := 32) H I_X2_spells_29 G_2_9 cn_X2_spells LY_1 rfl rfl
      replace H := i_aln (q := 33) H I_X2_spells_32 rfl rfl
      replace H := i_gfi (q := 36) H I_X2_spells_33 G_2_102 cn_X2_spells LY_1 rfl rfl
      replace H := i_iln (q := 37) H I_X2_spells_36 rfl rfl
      replace H := i_iadd (q := 38) H I_X2_spells_37 rfl
      have W := i_ba (q := 39) H I_X2_spells_38 LY_2 rfl
      clear H
      obtain ⟨i_38, bi_38, ei_38, H⟩ := W
      replace H := i_xln (q := 40) H I_X2_spells_39 rfl rfl
      replace H := i_iln (q := 41) H I_X2_spells_40 rfl rfl
      have W := i_cv1 0 (q := 44) H I_X2_spells_41 K_2_139 Zm_184 rfl rfl
      clear H
      obtain ⟨r1, h1, Hc, K1, K2⟩ := W
      obtain ⟨e1, e2⟩ := t_J0_charAt_5068e hw rfl (by have := (zofn_lt (by omega) (by omega)).mp c_25; omega) Hc
      have H := K1 _ _ e1 e2
      clear e1 e2 Hc K1 K2
      have W := i_ic_eq (t := 49) (q := 47) H I_X2_spells_44 (by decide) rfl
      clear H
      rcases W with ⟨c_44, H⟩ | ⟨c_44, H⟩
      · skip
        replace H := i_inc (q := 52) H I_X2_spells_49 rfl rfl rfl
        replace H := i_goto (q := 20) H I_X2_spells_52 (by decide)
        rw [hs, ← Int32.ofNat_add] at ei_38
        have ei : i_38 = s + k := zofn ei_38.symm (by omega) (by omega)
        subst ei
        replace H : zE none d zm_X2_spells 20 [.ref 1, .retAddr (2 * w + 1), .int (Int32.ofNat (k + 1))] [] m r h' := by rw [← zofn_s]; exact H
        obtain ⟨g1, g2⟩ := ih (k + 1) d r h' (by omega) H
        refine ⟨g1.trans ?_, g2⟩
        simp [zal, c_44]
      · skip
        replace H := i_icst (x := 0) (q := 48) H I_X2_spells_47 (by decide) rfl
        obtain ⟨hr, hh⟩ := i_ir H I_X2_spells_48
        rw [hs, ← Int32.ofNat_add] at ei_38
        have ei : i_38 = s + k := zofn ei_38.symm (by omega) (by omega)
        subst ei
        refine ⟨hr.trans ?_, hh⟩
        simp [zal, c_44]
theorem t_X2_spells {d : Nat} {m : zM} {r : Option Value} {h' : zHp} {w s e : Nat} (hw : w < 7) (hs : m 1 8 = Int32.ofNat s) (he : m 1 6 = Int32.ofNat e) (hse : s ≤ e) (he2 : e ≤ 160) (H : zE none d zm_X2_spells 0 [.ref 1, .retAddr (2 * w + 1), .null] [] m r h') : r = some (.int (if zmat (m 2) s e w = true then 1 else 0)) ∧ h' = zhp m := by
  have h6 := zlen_6 w hw
  have hsub : m 1 6 - m 1 8 = Int32.ofNat (e - s) := by rw [he, hs, ← zofn_sub hse]
  replace H := i_aln (q := 1) H I_X2_spells_0 rfl rfl
  replace H := i_gfi (q := 4) H I_X2_spells_1 G_2_25 cn_X2_spells LY_1 rfl rfl
  replace H := i_aln (q := 5) H I_X2_spells_4 rfl rfl
  replace H := i_gfi (q := 8) H I_X2_spells_5 G_2_102 cn_X2_spells LY_1 rfl rfl
  replace H := i_isub (q := 9) H I_X2_spells_8 rfl
  replace H := i_xln (q := 10) H I_X2_spells_9 rfl rfl
  have W := i_cv0 0 (q := 13) H I_X2_spells_10 K_2_135 Zm_183 rfl rfl
  clear H
  obtain ⟨r1, h1, Hc, K1, K2⟩ := W
  obtain ⟨e1, e2⟩ := t_J0_length_8abf5 Hc
  have H := K1 _ _ e1 e2
  clear e1 e2 Hc K1 K2
  have W := i_ic_eq (t := 18) (q := 16) H I_X2_spells_13 (by decide) rfl
  clear H
  rcases W with ⟨c_13, H⟩ | ⟨c_13, H⟩
  · skip
    replace H := i_icst (x := 0) (q := 19) H I_X2_spells_18 (by decide) rfl
    replace H := i_isn (q := 20) H I_X2_spells_19 rfl rfl
    rw [hsub] at c_13
    have heq : e - s = zlen.getD w 0 := zofn c_13 (by omega) (by omega)
    obtain ⟨g1, g2⟩ := sp_loop hw hs (by omega) (zlen.getD w 0) 0 d r h' (by omega) H
    refine ⟨g1.trans ?_, g2⟩
    rw [zmat, decide_eq_true heq, Bool.true_and]
  · skip
    replace H := i_icst (x := 0) (q := 17) H I_X2_spells_16 (by decide) rfl
    obtain ⟨hr, hh⟩ := i_ir H I_X2_spells_17
    rw [hsub] at c_13
    have hne : ¬ e - s = zlen.getD w 0 := fun q => c_13 (by rw [q])
    refine ⟨hr.trans ?_, hh⟩
    rw [zmat, decide_eq_false hne, Bool.false_and]
    rfl
theorem wd_loop {m : zM} {s e : Nat} (hs : m 1 8 = Int32.ofNat s) (he : m 1 6 = Int32.ofNat e) (hse : s ≤ e) (he2 : e ≤ 160) : ∀ (j w d : Nat) (r : Option Value) (h' : zHp), w + j = 7 → zE none d zm_X2_word 2 [.ref 1, .int (Int32.ofNat w)] [] m r h' → r = some (.int (Int32.ofNat (zwf (m 2) s e j w))) ∧ h' = zhp m := by
  intro j
  induction j with
  | zero =>
    intro w d r h' hj H
    replace H := i_iln (q := 3) H I_X2_word_2 rfl rfl
    replace H := i_bip (x := 7) (q := 5) H I_X2_word_3 (by decide) rfl
    have W := i_ic_ge (t := 27) (q := 8) H I_X2_word_5 (by decide) rfl
    clear H
    rcases W with ⟨c_5, H⟩ | ⟨c_5, H⟩
    · skip
      replace H := i_bip (x := 7) (q := 29) H I_X2_word_27 (by decide) rfl
      obtain ⟨hr, hh⟩ := i_ir H I_X2_word_29
      have hw7 : w = 7 := by omega
      subst hw7
      exact ⟨hr, hh⟩
    · skip
      replace H := i_aln (q := 9) H I_X2_word_8 rfl rfl
      replace H := i_iln (q := 10) H I_X2_word_9 rfl rfl
      have W := i_cs1 0 (q := 13) H I_X2_word_10 K_2_127 Zm_42 rfl rfl
      clear H
      obtain ⟨r1, h1, Hc, K1, K2⟩ := W
      have hw : w < 7 := (zofn_lt (j := 7) (by omega) (by decide)).mp c_5
      obtain ⟨e1, e2⟩ := t_X2_wordText hw rfl Hc
      have H := K1 _ _ e1 e2
      clear e1 e2 Hc K1 K2
      have W := i_cv1 1 (q := 16) H I_X2_word_13 K_2_131 Zm_41 rfl rfl
      clear H
      obtain ⟨r1, h1, Hc, K1, K2⟩ := W
      obtain ⟨e1, e2⟩ := t_X2_spells hw hs he hse he2 Hc
      have H := K1 _ _ e1 e2
      clear e1 e2 Hc K1 K2
      have W := i_if_eq (t := 21) (q := 19) H I_X2_word_16 (by decide) rfl
      clear H
      rcases W with ⟨c_16, H⟩ | ⟨c_16, H⟩
      · skip
        replace H := i_inc (q := 24) H I_X2_word_21 rfl rfl rfl
        replace H := i_goto (q := 2) H I_X2_word_24 (by decide)
        omega
      · skip
        replace H := i_iln (q := 20) H I_X2_word_19 rfl rfl
        obtain ⟨hr, hh⟩ := i_ir H I_X2_word_20
        exfalso
        exact absurd ((zofn_lt (j := 7) (by omega) (by decide)).mp c_5) (by omega)
  | succ j ih =>
    intro w d r h' hj H
    replace H := i_iln (q := 3) H I_X2_word_2 rfl rfl
    replace H := i_bip (x := 7) (q := 5) H I_X2_word_3 (by decide) rfl
    have W := i_ic_ge (t := 27) (q := 8) H I_X2_word_5 (by decide) rfl
    clear H
    rcases W with ⟨c_5, H⟩ | ⟨c_5, H⟩
    · skip
      replace H := i_bip (x := 7) (q := 29) H I_X2_word_27 (by decide) rfl
      obtain ⟨hr, hh⟩ := i_ir H I_X2_word_29
      exfalso
      exact c_5 ((zofn_lt (j := 7) (by omega) (by decide)).mpr (by omega))
    · skip
      replace H := i_aln (q := 9) H I_X2_word_8 rfl rfl
      replace H := i_iln (q := 10) H I_X2_word_9 rfl rfl
      have W := i_cs1 0 (q := 13) H I_X2_word_10 K_2_127 Zm_42 rfl rfl
      clear H
      obtain ⟨r1, h1, Hc, K1, K2⟩ := W
      have hw : w < 7 := (zofn_lt (j := 7) (by omega) (by decide)).mp c_5
      obtain ⟨e1, e2⟩ := t_X2_wordText hw rfl Hc
      have H := K1 _ _ e1 e2
      clear e1 e2 Hc K1 K2
      have W := i_cv1 1 (q := 16) H I_X2_word_13 K_2_131 Zm_41 rfl rfl
      clear H
      obtain ⟨r1, h1, Hc, K1, K2⟩ := W
      obtain ⟨e1, e2⟩ := t_X2_spells hw hs he hse he2 Hc
      have H := K1 _ _ e1 e2
      clear e1 e2 Hc K1 K2
      have W := i_if_eq (t := 21) (q := 19) H I_X2_word_16 (by decide) rfl
      clear H
      rcases W with ⟨c_16, H⟩ | ⟨c_16, H⟩
      · skip
        replace H := i_inc (q := 24) H I_X2_word_21 rfl rfl rfl
        replace H := i_goto (q := 2) H I_X2_word_24 (by decide)
        replace H : zE none d zm_X2_word 2 [.ref 1, .int (Int32.ofNat (w + 1))] [] m r h' := by rw [← zofn_s]; exact H
        obtain ⟨g1, g2⟩ := ih (w + 1) d r h' (by omega) H
        refine ⟨g1.trans ?_, g2⟩
        have hz : zmat (m 2) s e w = false := by simpa using c_16
        simp [zwf, hz]
      · skip
        replace H := i_iln (q := 20) H I_X2_word_19 rfl rfl
        obtain ⟨hr, hh⟩ := i_ir H I_X2_word_20
        have hz : zmat (m 2) s e w = true := by simpa using c_16
        refine ⟨hr.trans ?_, hh⟩
        simp [zwf, hz]
theorem t_X2_word {d : Nat} {m : zM} {r : Option Value} {h' : zHp} {s e : Nat} (hs : m 1 8 = Int32.ofNat s) (he : m 1 6 = Int32.ofNat e) (hse : s ≤ e) (he2 : e ≤ 160) (H : zE none d zm_X2_word 0 [.ref 1, .null] [] m r h') : r = some (.int (Int32.ofNat (zword (m 2) s e))) ∧ h' = zhp m := by
  replace H := i_icst (x := 0) (q := 1) H I_X2_word_0 (by decide) rfl
  replace H := i_isn (q := 2) H I_X2_word_1 rfl rfl
  exact wd_loop hs he hse he2 7 0 d r h' rfl H
def zcut : Nat → Nat
  | 0 => 0
  | 1 => 5
  | 2 => 11
  | 3 => 16
  | 4 => 22
  | 5 => 26
  | 6 => 31
  | _ => 35
theorem zcut_1 : ∀ w, w < 7 → zcut (w + 1) = zcut w + zlen.getD w 0 := by decide
theorem zcut_2 : ∀ w, w < 7 → zcut w ≤ 31 := by decide
/-- the reference's tables of names -/
def zTab (m : zM) : Prop := (∀ w, w < 8 → m 76 w = Int32.ofNat (zcut w)) ∧ ∀ w, w < 7 → ∀ k, k < zlen.getD w 0 → m 77 (zcut w + k) = zch w k
theorem nh_in {m : zM} {w s e n : Nat} (hT : zTab m) (hw : w < 7) (hs : m 71 13 = Int32.ofNat s) (he : m 71 12 = Int32.ofNat e) (hse : s ≤ e) (hen : e ≤ n) (hn : m 71 8 = Int32.ofNat n) (hn2 : n ≤ 160) (hl : e - s = zlen.getD w 0) : ∀ (j k d : Nat) (r : Option Value) (h' : zHp), k + j = e - s → zE none d zm_X8_nameHere 51 [.ref 71, .int (Int32.ofNat w), .int 1, .int (Int32.ofNat k)] [] m r h' → zE none d zm_X8_nameHere 106 [.ref 71, .int (Int32.ofNat w), .int (if zal (m 75) s w k j = true then 1 else 0), .null] [] m r h' := by
  have hsub : m 71 12 - m 71 13 = Int32.ofNat (e - s) := by rw [he, hs, ← zofn_sub hse]
  have hc2 := zcut_2 w hw
  have h6 := zlen_6 w hw
  intro j
  induction j with
  | zero =>
    intro k d r h' hk H
    replace H := i_iln (q := 52) H I_X8_nameHere_51 rfl rfl
    have W := i_if_eq (t := 106) (q := 55) H I_X8_nameHere_52 (by decide) rfl
    clear H
    rcases W with ⟨c_52, H⟩ | ⟨c_52, H⟩
    · skip
      exact absurd c_52 (by decide)
    · skip
      replace H := i_iln (q := 56) H I_X8_nameHere_55 rfl rfl
      replace H := i_aln (q := 57) H I_X8_nameHere_56 rfl rfl
      replace H := i_gfi (q := 60) H I_X8_nameHere_57 G_8_75 cn_X8_nameHere LY_71 rfl rfl
      replace H := i_aln (q := 61) H I_X8_nameHere_60 rfl rfl
      replace H := i_gfi (q := 64) H I_X8_nameHere_61 G_8_66 cn_X8_nameHere LY_71 rfl rfl
      replace H := i_isub (q := 65) H I_X8_nameHere_64 rfl
      have W := i_ic_ge (t := 106) (q := 68) H I_X8_nameHere_65 (by decide) rfl
      clear H
      rcases W with ⟨c_65, H⟩ | ⟨c_65, H⟩
      · skip
        replace H := i_w [true, true, true, false] H
        exact H
      · skip
        replace H := i_aln (q := 69) H I_X8_nameHere_68 rfl rfl
        replace H := i_aln (q := 70) H I_X8_nameHere_69 rfl rfl
        replace H := i_gfi (q := 73) H I_X8_nameHere_70 G_8_66 cn_X8_nameHere LY_71 rfl rfl
        replace H := i_iln (q := 74) H I_X8_nameHere_73 rfl rfl
        replace H := i_iadd (q := 75) H I_X8_nameHere_74 rfl
        have W := i_cv1 0 (q := 78) H I_X8_nameHere_75 K_8_78 Zm_117 rfl rfl
        clear H
        obtain ⟨r1, h1, Hc, K1, K2⟩ := W
        obtain ⟨e1, e2⟩ := t_X8_byteAt (p := s + k) (n := n) (by rw [hs, ← Int32.ofNat_add]) (by omega) hn hn2 Hc
        have H := K1 _ _ e1 e2
        clear e1 e2 Hc K1 K2
        replace H := i_aln (q := 79) H I_X8_nameHere_78 rfl rfl
        replace H := i_gfr (q := 82) H I_X8_nameHere_79 G_8_25 cn_X8_nameHere LY_71 rfl rfl
        replace H := i_aln (q := 83) H I_X8_nameHere_82 rfl rfl
        replace H := i_gfr (q := 86) H I_X8_nameHere_83 G_8_22 cn_X8_nameHere LY_71 rfl rfl
        replace H := i_iln (q := 87) H I_X8_nameHere_86 rfl rfl
        have W := i_ia (q := 88) H I_X8_nameHere_87 LY_76 rfl
        clear H
        obtain ⟨i_87, bi_87, ei_87, H⟩ := W
        replace H := i_iln (q := 89) H I_X8_nameHere_88 rfl rfl
        replace H := i_iadd (q := 90) H I_X8_nameHere_89 rfl
        have W := i_ia (q := 91) H I_X8_nameHere_90 LY_77 rfl
        clear H
        obtain ⟨i_90, bi_90, ei_90, H⟩ := W
        have W := i_ic_ne (t := 98) (q := 94) H I_X8_nameHere_91 (by decide) rfl
        clear H
        rcases W with ⟨c_91, H⟩ | ⟨c_91, H⟩
        · skip
          replace H := i_icst (x := 0) (q := 99) H I_X8_nameHere_98 (by decide) rfl
          replace H := i_isn (q := 100) H I_X8_nameHere_99 rfl rfl
          replace H := i_inc (q := 103) H I_X8_nameHere_100 rfl rfl rfl
          replace H := i_goto (q := 51) H I_X8_nameHere_103 (by decide)
          exfalso
          rw [hsub] at c_65
          exact absurd ((zofn_lt (by omega) (by omega)).mp c_65) (by omega)
        · skip
          replace H := i_icst (x := 1) (q := 95) H I_X8_nameHere_94 (by decide) rfl
          replace H := i_goto (q := 99) H I_X8_nameHere_95 (by decide)
          replace H := i_isn (q := 100) H I_X8_nameHere_99 rfl rfl
          replace H := i_inc (q := 103) H I_X8_nameHere_100 rfl rfl rfl
          replace H := i_goto (q := 51) H I_X8_nameHere_103 (by decide)
          exfalso
          rw [hsub] at c_65
          exact absurd ((zofn_lt (by omega) (by omega)).mp c_65) (by omega)
  | succ j ih =>
    intro k d r h' hk H
    replace H := i_iln (q := 52) H I_X8_nameHere_51 rfl rfl
    have W := i_if_eq (t := 106) (q := 55) H I_X8_nameHere_52 (by decide) rfl
    clear H
    rcases W with ⟨c_52, H⟩ | ⟨c_52, H⟩
    · skip
      exact absurd c_52 (by decide)
    · skip
      replace H := i_iln (q := 56) H I_X8_nameHere_55 rfl rfl
      replace H := i_aln (q := 57) H I_X8_nameHere_56 rfl rfl
      replace H := i_gfi (q := 60) H I_X8_nameHere_57 G_8_75 cn_X8_nameHere LY_71 rfl rfl
      replace H := i_aln (q := 61) H I_X8_nameHere_60 rfl rfl
      replace H := i_gfi (q := 64) H I_X8_nameHere_61 G_8_66 cn_X8_nameHere LY_71 rfl rfl
      replace H := i_isub (q := 65) H I_X8_nameHere_64 rfl
      have W := i_ic_ge (t := 106) (q := 68) H I_X8_nameHere_65 (by decide) rfl
      clear H
      rcases W with ⟨c_65, H⟩ | ⟨c_65, H⟩
      · skip
        exfalso
        rw [hsub] at c_65
        exact c_65 ((zofn_lt (by omega) (by omega)).mpr (by omega))
      · skip
        replace H := i_aln (q := 69) H I_X8_nameHere_68 rfl rfl
        replace H := i_aln (q := 70) H I_X8_nameHere_69 rfl rfl
        replace H := i_gfi (q := 73) H I_X8_nameHere_70 G_8_66 cn_X8_nameHere LY_71 rfl rfl
        replace H := i_iln (q := 74) H I_X8_nameHere_73 rfl rfl
        replace H := i_iadd (q := 75) H I_X8_nameHere_74 rfl
        have W := i_cv1 0 (q := 78) H I_X8_nameHere_75 K_8_78 Zm_117 rfl rfl
        clear H
        obtain ⟨r1, h1, Hc, K1, K2⟩ := W
        obtain ⟨e1, e2⟩ := t_X8_byteAt (p := s + k) (n := n) (by rw [hs, ← Int32.ofNat_add]) (by omega) hn hn2 Hc
        have H := K1 _ _ e1 e2
        clear e1 e2 Hc K1 K2
        replace H := i_aln (q := 79) H I_X8_nameHere_78 rfl rfl
        replace H := i_gfr (q := 82) H I_X8_nameHere_79 G_8_25 cn_X8_nameHere LY_71 rfl rfl
        replace H := i_aln (q := 83) H I_X8_nameHere_82 rfl rfl
        replace H := i_gfr (q := 86) H I_X8_nameHere_83 G_8_22 cn_X8_nameHere LY_71 rfl rfl
        replace H := i_iln (q := 87) H I_X8_nameHere_86 rfl rfl
        have W := i_ia (q := 88) H I_X8_nameHere_87 LY_76 rfl
        clear H
        obtain ⟨i_87, bi_87, ei_87, H⟩ := W
        replace H := i_iln (q := 89) H I_X8_nameHere_88 rfl rfl
        replace H := i_iadd (q := 90) H I_X8_nameHere_89 rfl
        have W := i_ia (q := 91) H I_X8_nameHere_90 LY_77 rfl
        clear H
        obtain ⟨i_90, bi_90, ei_90, H⟩ := W
        have W := i_ic_ne (t := 98) (q := 94) H I_X8_nameHere_91 (by decide) rfl
        clear H
        rcases W with ⟨c_91, H⟩ | ⟨c_91, H⟩
        · skip
          replace H := i_icst (x := 0) (q := 99) H I_X8_nameHere_98 (by decide) rfl
          replace H := i_isn (q := 100) H I_X8_nameHere_99 rfl rfl
          replace H := i_inc (q := 103) H I_X8_nameHere_100 rfl rfl rfl
          replace H := i_goto (q := 51) H I_X8_nameHere_103 (by decide)
          rw [if_pos (by omega)] at c_91
          have e1 : i_87 = w := zofn ei_87.symm (by omega) (by omega)
          subst e1
          rw [hT.1 i_87 (by omega), ← Int32.ofNat_add] at ei_90
          have e2 : i_90 = zcut i_87 + k := zofn ei_90.symm (by omega) (by omega)
          subst e2
          rw [hT.2 i_87 hw k (by omega)] at c_91
          replace H : zE none d zm_X8_nameHere 51 [.ref 71, .int (Int32.ofNat i_87), .int 0, .int (Int32.ofNat (k + 1))] [] m r h' := by rw [← zofn_s]; exact H
          rw [show zal (m 75) s i_87 k (j + 1) = false by simp [zal, c_91]]
          replace H := i_iln (q := 52) H I_X8_nameHere_51 rfl rfl
          have W := i_if_eq (t := 106) (q := 55) H I_X8_nameHere_52 (by decide) rfl
          clear H
          rcases W with ⟨c_52, H⟩ | ⟨c_52, H⟩
          · skip
            replace H := i_w [true, true, true, false] H
            exact H
          · skip
            exact absurd rfl c_52
        · skip
          replace H := i_icst (x := 1) (q := 95) H I_X8_nameHere_94 (by decide) rfl
          replace H := i_goto (q := 99) H I_X8_nameHere_95 (by decide)
          replace H := i_isn (q := 100) H I_X8_nameHere_99 rfl rfl
          replace H := i_inc (q := 103) H I_X8_nameHere_100 rfl rfl rfl
          replace H := i_goto (q := 51) H I_X8_nameHere_103 (by decide)
          rw [if_pos (by omega)] at c_91
          have e1 : i_87 = w := zofn ei_87.symm (by omega) (by omega)
          subst e1
          rw [hT.1 i_87 (by omega), ← Int32.ofNat_add] at ei_90
          have e2 : i_90 = zcut i_87 + k := zofn ei_90.symm (by omega) (by omega)
          subst e2
          rw [hT.2 i_87 hw k (by omega)] at c_91
          replace H : zE none d zm_X8_nameHere 51 [.ref 71, .int (Int32.ofNat i_87), .int 1, .int (Int32.ofNat (k + 1))] [] m r h' := by rw [← zofn_s]; exact H
          have := ih (k + 1) d r h' (by omega) H
          rw [show zal (m 75) s i_87 k (j + 1) = zal (m 75) s i_87 (k + 1) j by simp [zal, c_91]]
          exact this
def znm (w : Nat) : Int32 := if w = 7 then -4 else Int32.ofNat w
theorem nh_loop {m : zM} {s e n : Nat} (hT : zTab m) (ht : m 71 14 = 1) (hs : m 71 13 = Int32.ofNat s) (he : m 71 12 = Int32.ofNat e) (hse : s ≤ e) (hen : e ≤ n) (hn : m 71 8 = Int32.ofNat n) (hn2 : n ≤ 160) : ∀ (j w d : Nat) (r : Option Value) (h' : zHp), w + j = 7 → zE none d zm_X8_nameHere 2 [.ref 71, .int (Int32.ofNat w), .null, .null] [] m r h' → r = some (.int (znm (zwf (m 75) s e j w))) ∧ h' = zhp m := by
  have hsub : m 71 12 - m 71 13 = Int32.ofNat (e - s) := by rw [he, hs, ← zofn_sub hse]
  intro j
  induction j with
  | zero =>
    intro w d r h' hj H
    replace H := i_iln (q := 3) H I_X8_nameHere_2 rfl rfl
    replace H := i_bip (x := 7) (q := 5) H I_X8_nameHere_3 (by decide) rfl
    have W := i_ic_ge (t := 118) (q := 8) H I_X8_nameHere_5 (by decide) rfl
    clear H
    rcases W with ⟨c_5, H⟩ | ⟨c_5, H⟩
    · skip
      replace H := i_bip (x := (-4)) (q := 120) H I_X8_nameHere_118 (by decide) rfl
      obtain ⟨hr, hh⟩ := i_ir H I_X8_nameHere_120
      have hw7 : w = 7 := by omega
      subst hw7
      exact ⟨hr, hh⟩
    · skip
      replace H := i_aln (q := 9) H I_X8_nameHere_8 rfl rfl
      replace H := i_gfi (q := 12) H I_X8_nameHere_9 G_8_72 cn_X8_nameHere LY_71 rfl rfl
      replace H := i_icst (x := 1) (q := 13) H I_X8_nameHere_12 (by decide) rfl
      have W := i_ic_ne (t := 118) (q := 16) H I_X8_nameHere_13 (by decide) rfl
      clear H
      rcases W with ⟨c_13, H⟩ | ⟨c_13, H⟩
      · skip
        replace H := i_bip (x := (-4)) (q := 120) H I_X8_nameHere_118 (by decide) rfl
        obtain ⟨hr, hh⟩ := i_ir H I_X8_nameHere_120
        exact absurd ht c_13
      · skip
        replace H := i_aln (q := 17) H I_X8_nameHere_16 rfl rfl
        replace H := i_gfi (q := 20) H I_X8_nameHere_17 G_8_75 cn_X8_nameHere LY_71 rfl rfl
        replace H := i_aln (q := 21) H I_X8_nameHere_20 rfl rfl
        replace H := i_gfi (q := 24) H I_X8_nameHere_21 G_8_66 cn_X8_nameHere LY_71 rfl rfl
        replace H := i_isub (q := 25) H I_X8_nameHere_24 rfl
        replace H := i_aln (q := 26) H I_X8_nameHere_25 rfl rfl
        replace H := i_gfr (q := 29) H I_X8_nameHere_26 G_8_22 cn_X8_nameHere LY_71 rfl rfl
        replace H := i_iln (q := 30) H I_X8_nameHere_29 rfl rfl
        replace H := i_icst (x := 1) (q := 31) H I_X8_nameHere_30 (by decide) rfl
        replace H := i_iadd (q := 32) H I_X8_nameHere_31 rfl
        have W := i_ia (q := 33) H I_X8_nameHere_32 LY_76 rfl
        clear H
        obtain ⟨i_32, bi_32, ei_32, H⟩ := W
        replace H := i_aln (q := 34) H I_X8_nameHere_33 rfl rfl
        replace H := i_gfr (q := 37) H I_X8_nameHere_34 G_8_22 cn_X8_nameHere LY_71 rfl rfl
        replace H := i_iln (q := 38) H I_X8_nameHere_37 rfl rfl
        have W := i_ia (q := 39) H I_X8_nameHere_38 LY_76 rfl
        clear H
        obtain ⟨i_38, bi_38, ei_38, H⟩ := W
        replace H := i_isub (q := 40) H I_X8_nameHere_39 rfl
        have W := i_ic_ne (t := 47) (q := 43) H I_X8_nameHere_40 (by decide) rfl
        clear H
        rcases W with ⟨c_40, H⟩ | ⟨c_40, H⟩
        · skip
          replace H := i_icst (x := 0) (q := 48) H I_X8_nameHere_47 (by decide) rfl
          replace H := i_isn (q := 49) H I_X8_nameHere_48 rfl rfl
          replace H := i_icst (x := 0) (q := 50) H I_X8_nameHere_49 (by decide) rfl
          replace H := i_isn (q := 51) H I_X8_nameHere_50 rfl rfl
          exfalso
          exact absurd ((zofn_lt (j := 7) (by omega) (by decide)).mp c_5) (by omega)
        · skip
          replace H := i_icst (x := 1) (q := 44) H I_X8_nameHere_43 (by decide) rfl
          replace H := i_goto (q := 48) H I_X8_nameHere_44 (by decide)
          replace H := i_isn (q := 49) H I_X8_nameHere_48 rfl rfl
          replace H := i_icst (x := 0) (q := 50) H I_X8_nameHere_49 (by decide) rfl
          replace H := i_isn (q := 51) H I_X8_nameHere_50 rfl rfl
          exfalso
          exact absurd ((zofn_lt (j := 7) (by omega) (by decide)).mp c_5) (by omega)
  | succ j ih =>
    intro w d r h' hj H
    have hw7 : ¬ w = 7 := by omega
    replace H := i_iln (q := 3) H I_X8_nameHere_2 rfl rfl
    replace H := i_bip (x := 7) (q := 5) H I_X8_nameHere_3 (by decide) rfl
    have W := i_ic_ge (t := 118) (q := 8) H I_X8_nameHere_5 (by decide) rfl
    clear H
    rcases W with ⟨c_5, H⟩ | ⟨c_5, H⟩
    · skip
      replace H := i_bip (x := (-4)) (q := 120) H I_X8_nameHere_118 (by decide) rfl
      obtain ⟨hr, hh⟩ := i_ir H I_X8_nameHere_120
      exfalso
      exact c_5 ((zofn_lt (j := 7) (by omega) (by decide)).mpr (by omega))
    · skip
      replace H := i_aln (q := 9) H I_X8_nameHere_8 rfl rfl
      replace H := i_gfi (q := 12) H I_X8_nameHere_9 G_8_72 cn_X8_nameHere LY_71 rfl rfl
      replace H := i_icst (x := 1) (q := 13) H I_X8_nameHere_12 (by decide) rfl
      have W := i_ic_ne (t := 118) (q := 16) H I_X8_nameHere_13 (by decide) rfl
      clear H
      rcases W with ⟨c_13, H⟩ | ⟨c_13, H⟩
      · skip
        replace H := i_bip (x := (-4)) (q := 120) H I_X8_nameHere_118 (by decide) rfl
        obtain ⟨hr, hh⟩ := i_ir H I_X8_nameHere_120
        exact absurd ht c_13
      · skip
        replace H := i_aln (q := 17) H I_X8_nameHere_16 rfl rfl
        replace H := i_gfi (q := 20) H I_X8_nameHere_17 G_8_75 cn_X8_nameHere LY_71 rfl rfl
        replace H := i_aln (q := 21) H I_X8_nameHere_20 rfl rfl
        replace H := i_gfi (q := 24) H I_X8_nameHere_21 G_8_66 cn_X8_nameHere LY_71 rfl rfl
        replace H := i_isub (q := 25) H I_X8_nameHere_24 rfl
        replace H := i_aln (q := 26) H I_X8_nameHere_25 rfl rfl
        replace H := i_gfr (q := 29) H I_X8_nameHere_26 G_8_22 cn_X8_nameHere LY_71 rfl rfl
        replace H := i_iln (q := 30) H I_X8_nameHere_29 rfl rfl
        replace H := i_icst (x := 1) (q := 31) H I_X8_nameHere_30 (by decide) rfl
        replace H := i_iadd (q := 32) H I_X8_nameHere_31 rfl
        have W := i_ia (q := 33) H I_X8_nameHere_32 LY_76 rfl
        clear H
        obtain ⟨i_32, bi_32, ei_32, H⟩ := W
        replace H := i_aln (q := 34) H I_X8_nameHere_33 rfl rfl
        replace H := i_gfr (q := 37) H I_X8_nameHere_34 G_8_22 cn_X8_nameHere LY_71 rfl rfl
        replace H := i_iln (q := 38) H I_X8_nameHere_37 rfl rfl
        have W := i_ia (q := 39) H I_X8_nameHere_38 LY_76 rfl
        clear H
        obtain ⟨i_38, bi_38, ei_38, H⟩ := W
        replace H := i_isub (q := 40) H I_X8_nameHere_39 rfl
        have W := i_ic_ne (t := 47) (q := 43) H I_X8_nameHere_40 (by decide) rfl
        clear H
        rcases W with ⟨c_40, H⟩ | ⟨c_40, H⟩
        · skip
          replace H := i_icst (x := 0) (q := 48) H I_X8_nameHere_47 (by decide) rfl
          replace H := i_isn (q := 49) H I_X8_nameHere_48 rfl rfl
          replace H := i_icst (x := 0) (q := 50) H I_X8_nameHere_49 (by decide) rfl
          replace H := i_isn (q := 51) H I_X8_nameHere_50 rfl rfl
          have hw : w < 7 := (zofn_lt (j := 7) (by omega) (by decide)).mp c_5
          have hc2 := zcut_2 w hw
          have h6 := zlen_6 w hw
          rw [zofn_1] at ei_32
          have e1 : i_32 = w + 1 := zofn ei_32.symm (by omega) (by omega)
          subst e1
          have e2 : w = i_38 := zofn ei_38 (by omega) (by omega)
          subst e2
          rw [hsub, hT.1 (w + 1) (by omega), hT.1 w (by omega), ← zofn_sub (by rw [zcut_1 w hw]; omega), show zcut (w + 1) - zcut w = zlen.getD w 0 by rw [zcut_1 w hw]; omega] at c_40
          have hl : ¬ e - s = zlen.getD w 0 := fun q => c_40 (by rw [q])
          have hz : zmat (m 75) s e w = false := by rw [zmat, decide_eq_false hl, Bool.false_and]
          replace H := i_iln (q := 52) H I_X8_nameHere_51 rfl rfl
          have W := i_if_eq (t := 106) (q := 55) H I_X8_nameHere_52 (by decide) rfl
          clear H
          rcases W with ⟨c_52, H⟩ | ⟨c_52, H⟩
          · skip
            replace H := i_iln (q := 107) H I_X8_nameHere_106 rfl rfl
            have W := i_if_eq (t := 112) (q := 110) H I_X8_nameHere_107 (by decide) rfl
            clear H
            rcases W with ⟨c_107, H⟩ | ⟨c_107, H⟩
            · skip
              replace H := i_inc (q := 115) H I_X8_nameHere_112 rfl rfl rfl
              replace H := i_goto (q := 2) H I_X8_nameHere_115 (by decide)
              replace H := i_w [true, true, false, false] H
              replace H : zE none d zm_X8_nameHere 2 [.ref 71, .int (Int32.ofNat (w + 1)), .null, .null] [] m r h' := by rw [← zofn_s]; exact H
              obtain ⟨g1, g2⟩ := ih (w + 1) d r h' (by omega) H
              refine ⟨g1.trans ?_, g2⟩
              simp [zwf, hz]
            · skip
              replace H := i_iln (q := 111) H I_X8_nameHere_110 rfl rfl
              obtain ⟨hr, hh⟩ := i_ir H I_X8_nameHere_111
              exact absurd rfl c_107
          · skip
            exact absurd rfl c_52
        · skip
          replace H := i_icst (x := 1) (q := 44) H I_X8_nameHere_43 (by decide) rfl
          replace H := i_goto (q := 48) H I_X8_nameHere_44 (by decide)
          replace H := i_isn (q := 49) H I_X8_nameHere_48 rfl rfl
          replace H := i_icst (x := 0) (q := 50) H I_X8_nameHere_49 (by decide) rfl
          replace H := i_isn (q := 51) H I_X8_nameHere_50 rfl rfl
          have hw : w < 7 := (zofn_lt (j := 7) (by omega) (by decide)).mp c_5
          have hc2 := zcut_2 w hw
          have h6 := zlen_6 w hw
          rw [zofn_1] at ei_32
          have e1 : i_32 = w + 1 := zofn ei_32.symm (by omega) (by omega)
          subst e1
          have e2 : w = i_38 := zofn ei_38 (by omega) (by omega)
          subst e2
          rw [hsub, hT.1 (w + 1) (by omega), hT.1 w (by omega), ← zofn_sub (by rw [zcut_1 w hw]; omega), show zcut (w + 1) - zcut w = zlen.getD w 0 by rw [zcut_1 w hw]; omega] at c_40
          have hl : e - s = zlen.getD w 0 := zofn c_40 (by omega) (by omega)
          have H2 := nh_in hT hw hs he hse hen hn hn2 hl (e - s) 0 d r h' (by omega) H
          clear H
          cases hzz : zal (m 75) s w 0 (e - s) with
          | true =>
            rw [hzz] at H2
            replace H : zE none d zm_X8_nameHere 106 [.ref 71, .int (Int32.ofNat w), .int 1, .null] [] m r h' := H2
            have hz : zmat (m 75) s e w = true := by rw [zmat, decide_eq_true hl, Bool.true_and, ← hl]; exact hzz
            replace H := i_iln (q := 107) H I_X8_nameHere_106 rfl rfl
            have W := i_if_eq (t := 112) (q := 110) H I_X8_nameHere_107 (by decide) rfl
            clear H
            rcases W with ⟨c_107, H⟩ | ⟨c_107, H⟩
            · skip
              replace H := i_inc (q := 115) H I_X8_nameHere_112 rfl rfl rfl
              replace H := i_goto (q := 2) H I_X8_nameHere_115 (by decide)
              exact absurd c_107 (by decide)
            · skip
              replace H := i_iln (q := 111) H I_X8_nameHere_110 rfl rfl
              obtain ⟨hr, hh⟩ := i_ir H I_X8_nameHere_111
              exact ⟨hr.trans (by simp [zwf, hz, znm, hw7]), hh⟩
          | false =>
            rw [hzz] at H2
            replace H : zE none d zm_X8_nameHere 106 [.ref 71, .int (Int32.ofNat w), .int 0, .null] [] m r h' := H2
            have hz : zmat (m 75) s e w = false := by rw [zmat, decide_eq_true hl, Bool.true_and, ← hl]; exact hzz
            replace H := i_iln (q := 107) H I_X8_nameHere_106 rfl rfl
            have W := i_if_eq (t := 112) (q := 110) H I_X8_nameHere_107 (by decide) rfl
            clear H
            rcases W with ⟨c_107, H⟩ | ⟨c_107, H⟩
            · skip
              replace H := i_inc (q := 115) H I_X8_nameHere_112 rfl rfl rfl
              replace H := i_goto (q := 2) H I_X8_nameHere_115 (by decide)
              replace H := i_w [true, true, false, false] H
              replace H : zE none d zm_X8_nameHere 2 [.ref 71, .int (Int32.ofNat (w + 1)), .null, .null] [] m r h' := by rw [← zofn_s]; exact H
              obtain ⟨g1, g2⟩ := ih (w + 1) d r h' (by omega) H
              refine ⟨g1.trans ?_, g2⟩
              simp [zwf, hz]
            · skip
              replace H := i_iln (q := 111) H I_X8_nameHere_110 rfl rfl
              obtain ⟨hr, hh⟩ := i_ir H I_X8_nameHere_111
              exact absurd rfl c_107
theorem t_X8_nameHere {d : Nat} {m : zM} {r : Option Value} {h' : zHp} {s e n : Nat} (hT : zTab m) (ht : m 71 14 = 1) (hs : m 71 13 = Int32.ofNat s) (he : m 71 12 = Int32.ofNat e) (hse : s ≤ e) (hen : e ≤ n) (hn : m 71 8 = Int32.ofNat n) (hn2 : n ≤ 160) (H : zE none d zm_X8_nameHere 0 [.ref 71, .null, .null, .null] [] m r h') : r = some (.int (znm (zword (m 75) s e))) ∧ h' = zhp m := by
  replace H := i_icst (x := 0) (q := 1) H I_X8_nameHere_0 (by decide) rfl
  replace H := i_isn (q := 2) H I_X8_nameHere_1 rfl rfl
  exact nh_loop hT ht hs he hse hen hn hn2 7 0 d r h' rfl H
