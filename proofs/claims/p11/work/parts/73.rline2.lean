/-! the reference's lines, on -/
theorem It_X8_readPlan : zm_X8_readPlan.2.2.2.2.2 = zt_X8_readPlan := by
  unfold zm_X8_readPlan
  rfl
theorem I_X8_readMore_67 : zin zm_X8_readMore.2.2.2.2.2 67 = some (.iload_n 1, 1) := by rw [It_X8_readMore]; rfl
theorem I_X8_readMore_68 : zin zm_X8_readMore.2.2.2.2.2 68 = some (.iconst 4, 1) := by rw [It_X8_readMore]; rfl
theorem I_X8_readMore_69 : zin zm_X8_readMore.2.2.2.2.2 69 = some (.if_icmp .ne 33, 3) := by rw [It_X8_readMore]; rfl
theorem I_X8_readMore_72 : zin zm_X8_readMore.2.2.2.2.2 72 = some (.aload_n 0, 1) := by rw [It_X8_readMore]; rfl
theorem I_X8_readMore_73 : zin zm_X8_readMore.2.2.2.2.2 73 = some (.iconst 0, 1) := by rw [It_X8_readMore]; rfl
theorem I_X8_readMore_74 : zin zm_X8_readMore.2.2.2.2.2 74 = some (.iconst 4, 1) := by rw [It_X8_readMore]; rfl
theorem I_X8_readMore_75 : zin zm_X8_readMore.2.2.2.2.2 75 = some (.aload_n 0, 1) := by rw [It_X8_readMore]; rfl
theorem I_X8_readMore_76 : zin zm_X8_readMore.2.2.2.2.2 76 = some (.getfield 16, 3) := by rw [It_X8_readMore]; rfl
theorem I_X8_readMore_79 : zin zm_X8_readMore.2.2.2.2.2 79 = some (.bipush 15, 2) := by rw [It_X8_readMore]; rfl
theorem I_X8_readMore_81 : zin zm_X8_readMore.2.2.2.2.2 81 = some (.iaload, 1) := by rw [It_X8_readMore]; rfl
theorem I_X8_readMore_82 : zin zm_X8_readMore.2.2.2.2.2 82 = some (.invokevirtual 100, 3) := by rw [It_X8_readMore]; rfl
theorem I_X8_readMore_85 : zin zm_X8_readMore.2.2.2.2.2 85 = some (.istore_n 2, 1) := by rw [It_X8_readMore]; rfl
theorem I_X8_readMore_86 : zin zm_X8_readMore.2.2.2.2.2 86 = some (.aload_n 0, 1) := by rw [It_X8_readMore]; rfl
theorem I_X8_readMore_87 : zin zm_X8_readMore.2.2.2.2.2 87 = some (.getfield 16, 3) := by rw [It_X8_readMore]; rfl
theorem I_X8_readMore_90 : zin zm_X8_readMore.2.2.2.2.2 90 = some (.bipush 15, 2) := by rw [It_X8_readMore]; rfl
theorem I_X8_readMore_92 : zin zm_X8_readMore.2.2.2.2.2 92 = some (.dup2, 1) := by rw [It_X8_readMore]; rfl
theorem I_X8_readMore_93 : zin zm_X8_readMore.2.2.2.2.2 93 = some (.iaload, 1) := by rw [It_X8_readMore]; rfl
theorem I_X8_readMore_94 : zin zm_X8_readMore.2.2.2.2.2 94 = some (.iconst 1, 1) := by rw [It_X8_readMore]; rfl
theorem I_X8_readMore_95 : zin zm_X8_readMore.2.2.2.2.2 95 = some (.iload_n 2, 1) := by rw [It_X8_readMore]; rfl
theorem I_X8_readMore_96 : zin zm_X8_readMore.2.2.2.2.2 96 = some (.ishl, 1) := by rw [It_X8_readMore]; rfl
theorem I_X8_readMore_97 : zin zm_X8_readMore.2.2.2.2.2 97 = some (.ior, 1) := by rw [It_X8_readMore]; rfl
theorem I_X8_readMore_98 : zin zm_X8_readMore.2.2.2.2.2 98 = some (.iastore, 1) := by rw [It_X8_readMore]; rfl
theorem I_X8_readMore_99 : zin zm_X8_readMore.2.2.2.2.2 99 = some (.goto 32, 3) := by rw [It_X8_readMore]; rfl
theorem I_X8_readMore_102 : zin zm_X8_readMore.2.2.2.2.2 102 = some (.iload_n 1, 1) := by rw [It_X8_readMore]; rfl
theorem I_X8_readMore_103 : zin zm_X8_readMore.2.2.2.2.2 103 = some (.iconst 5, 1) := by rw [It_X8_readMore]; rfl
theorem I_X8_readMore_104 : zin zm_X8_readMore.2.2.2.2.2 104 = some (.if_icmp .ne 23, 3) := by rw [It_X8_readMore]; rfl
theorem I_X8_readMore_107 : zin zm_X8_readMore.2.2.2.2.2 107 = some (.aload_n 0, 1) := by rw [It_X8_readMore]; rfl
theorem I_X8_readMore_108 : zin zm_X8_readMore.2.2.2.2.2 108 = some (.getfield 16, 3) := by rw [It_X8_readMore]; rfl
theorem I_X8_readMore_111 : zin zm_X8_readMore.2.2.2.2.2 111 = some (.bipush 16, 2) := by rw [It_X8_readMore]; rfl
theorem I_X8_readMore_113 : zin zm_X8_readMore.2.2.2.2.2 113 = some (.aload_n 0, 1) := by rw [It_X8_readMore]; rfl
theorem I_X8_readMore_114 : zin zm_X8_readMore.2.2.2.2.2 114 = some (.iconst 0, 1) := by rw [It_X8_readMore]; rfl
theorem I_X8_readMore_115 : zin zm_X8_readMore.2.2.2.2.2 115 = some (.bipush 9, 2) := by rw [It_X8_readMore]; rfl
theorem I_X8_readMore_117 : zin zm_X8_readMore.2.2.2.2.2 117 = some (.iconst 0, 1) := by rw [It_X8_readMore]; rfl
theorem I_X8_readMore_118 : zin zm_X8_readMore.2.2.2.2.2 118 = some (.invokevirtual 100, 3) := by rw [It_X8_readMore]; rfl
theorem I_X8_readMore_121 : zin zm_X8_readMore.2.2.2.2.2 121 = some (.iconst 1, 1) := by rw [It_X8_readMore]; rfl
theorem I_X8_readMore_122 : zin zm_X8_readMore.2.2.2.2.2 122 = some (.isub, 1) := by rw [It_X8_readMore]; rfl
theorem I_X8_readMore_123 : zin zm_X8_readMore.2.2.2.2.2 123 = some (.iastore, 1) := by rw [It_X8_readMore]; rfl
theorem I_X8_readMore_124 : zin zm_X8_readMore.2.2.2.2.2 124 = some (.goto 7, 3) := by rw [It_X8_readMore]; rfl
theorem I_X8_readMore_127 : zin zm_X8_readMore.2.2.2.2.2 127 = some (.aload_n 0, 1) := by rw [It_X8_readMore]; rfl
theorem I_X8_readMore_128 : zin zm_X8_readMore.2.2.2.2.2 128 = some (.invokevirtual 110, 3) := by rw [It_X8_readMore]; rfl
theorem I_X8_readPlan_0 : zin zm_X8_readPlan.2.2.2.2.2 0 = some (.aload_n 0, 1) := by rw [It_X8_readPlan]; rfl
theorem I_X8_readPlan_1 : zin zm_X8_readPlan.2.2.2.2.2 1 = some (.getfield 63, 3) := by rw [It_X8_readPlan]; rfl
theorem I_X8_readPlan_4 : zin zm_X8_readPlan.2.2.2.2.2 4 = some (.ifCond .ne 80, 3) := by rw [It_X8_readPlan]; rfl
theorem I_X8_readPlan_7 : zin zm_X8_readPlan.2.2.2.2.2 7 = some (.aload_n 0, 1) := by rw [It_X8_readPlan]; rfl
theorem I_X8_readPlan_8 : zin zm_X8_readPlan.2.2.2.2.2 8 = some (.getfield 72, 3) := by rw [It_X8_readPlan]; rfl
theorem I_X8_readPlan_11 : zin zm_X8_readPlan.2.2.2.2.2 11 = some (.iconst 2, 1) := by rw [It_X8_readPlan]; rfl
theorem I_X8_readPlan_12 : zin zm_X8_readPlan.2.2.2.2.2 12 = some (.if_icmp .ne 72, 3) := by rw [It_X8_readPlan]; rfl
theorem I_X8_readPlan_15 : zin zm_X8_readPlan.2.2.2.2.2 15 = some (.aload_n 0, 1) := by rw [It_X8_readPlan]; rfl
theorem I_X8_readPlan_16 : zin zm_X8_readPlan.2.2.2.2.2 16 = some (.getfield 16, 3) := by rw [It_X8_readPlan]; rfl
theorem I_X8_readPlan_19 : zin zm_X8_readPlan.2.2.2.2.2 19 = some (.bipush 26, 2) := by rw [It_X8_readPlan]; rfl
theorem I_X8_readPlan_21 : zin zm_X8_readPlan.2.2.2.2.2 21 = some (.iaload, 1) := by rw [It_X8_readPlan]; rfl
theorem I_X8_readPlan_22 : zin zm_X8_readPlan.2.2.2.2.2 22 = some (.bipush 8, 2) := by rw [It_X8_readPlan]; rfl
theorem I_X8_readPlan_24 : zin zm_X8_readPlan.2.2.2.2.2 24 = some (.if_icmp .ne 11, 3) := by rw [It_X8_readPlan]; rfl
theorem I_X8_readPlan_27 : zin zm_X8_readPlan.2.2.2.2.2 27 = some (.aload_n 0, 1) := by rw [It_X8_readPlan]; rfl
theorem I_X8_readPlan_28 : zin zm_X8_readPlan.2.2.2.2.2 28 = some (.iconst 5, 1) := by rw [It_X8_readPlan]; rfl
theorem I_X8_readPlan_29 : zin zm_X8_readPlan.2.2.2.2.2 29 = some (.invokevirtual 93, 3) := by rw [It_X8_readPlan]; rfl
theorem I_X8_readPlan_32 : zin zm_X8_readPlan.2.2.2.2.2 32 = some (.goto (-32), 3) := by rw [It_X8_readPlan]; rfl
theorem I_X8_readPlan_35 : zin zm_X8_readPlan.2.2.2.2.2 35 = some (.aload_n 0, 1) := by rw [It_X8_readPlan]; rfl
theorem I_X8_readPlan_36 : zin zm_X8_readPlan.2.2.2.2.2 36 = some (.iconst 0, 1) := by rw [It_X8_readPlan]; rfl
theorem I_X8_readPlan_37 : zin zm_X8_readPlan.2.2.2.2.2 37 = some (.bipush 31, 2) := by rw [It_X8_readPlan]; rfl
theorem I_X8_readPlan_39 : zin zm_X8_readPlan.2.2.2.2.2 39 = some (.iconst 0, 1) := by rw [It_X8_readPlan]; rfl
theorem I_X8_readPlan_40 : zin zm_X8_readPlan.2.2.2.2.2 40 = some (.invokevirtual 100, 3) := by rw [It_X8_readPlan]; rfl
theorem I_X8_readPlan_43 : zin zm_X8_readPlan.2.2.2.2.2 43 = some (.istore_n 1, 1) := by rw [It_X8_readPlan]; rfl
theorem I_X8_readPlan_44 : zin zm_X8_readPlan.2.2.2.2.2 44 = some (.aload_n 0, 1) := by rw [It_X8_readPlan]; rfl
theorem I_X8_readPlan_45 : zin zm_X8_readPlan.2.2.2.2.2 45 = some (.dup, 1) := by rw [It_X8_readPlan]; rfl
theorem I_X8_readPlan_46 : zin zm_X8_readPlan.2.2.2.2.2 46 = some (.getfield 104, 3) := by rw [It_X8_readPlan]; rfl
theorem I_X8_readPlan_49 : zin zm_X8_readPlan.2.2.2.2.2 49 = some (.iload_n 1, 1) := by rw [It_X8_readPlan]; rfl
theorem I_X8_readPlan_50 : zin zm_X8_readPlan.2.2.2.2.2 50 = some (.ior, 1) := by rw [It_X8_readPlan]; rfl
theorem I_X8_readPlan_51 : zin zm_X8_readPlan.2.2.2.2.2 51 = some (.putfield 104, 3) := by rw [It_X8_readPlan]; rfl
theorem I_X8_readPlan_54 : zin zm_X8_readPlan.2.2.2.2.2 54 = some (.aload_n 0, 1) := by rw [It_X8_readPlan]; rfl
theorem I_X8_readPlan_55 : zin zm_X8_readPlan.2.2.2.2.2 55 = some (.getfield 16, 3) := by rw [It_X8_readPlan]; rfl
theorem I_X8_readPlan_58 : zin zm_X8_readPlan.2.2.2.2.2 58 = some (.bipush 18, 2) := by rw [It_X8_readPlan]; rfl
theorem I_X8_readPlan_60 : zin zm_X8_readPlan.2.2.2.2.2 60 = some (.aload_n 0, 1) := by rw [It_X8_readPlan]; rfl
theorem I_X8_readPlan_61 : zin zm_X8_readPlan.2.2.2.2.2 61 = some (.getfield 16, 3) := by rw [It_X8_readPlan]; rfl
theorem I_X8_readPlan_64 : zin zm_X8_readPlan.2.2.2.2.2 64 = some (.bipush 26, 2) := by rw [It_X8_readPlan]; rfl
theorem I_X8_readPlan_66 : zin zm_X8_readPlan.2.2.2.2.2 66 = some (.iaload, 1) := by rw [It_X8_readPlan]; rfl
theorem I_X8_readPlan_67 : zin zm_X8_readPlan.2.2.2.2.2 67 = some (.iadd, 1) := by rw [It_X8_readPlan]; rfl
theorem I_X8_readPlan_68 : zin zm_X8_readPlan.2.2.2.2.2 68 = some (.iload_n 1, 1) := by rw [It_X8_readPlan]; rfl
theorem I_X8_readPlan_69 : zin zm_X8_readPlan.2.2.2.2.2 69 = some (.iastore, 1) := by rw [It_X8_readPlan]; rfl
theorem I_X8_readPlan_70 : zin zm_X8_readPlan.2.2.2.2.2 70 = some (.aload_n 0, 1) := by rw [It_X8_readPlan]; rfl
theorem I_X8_readPlan_71 : zin zm_X8_readPlan.2.2.2.2.2 71 = some (.getfield 16, 3) := by rw [It_X8_readPlan]; rfl
theorem I_X8_readPlan_74 : zin zm_X8_readPlan.2.2.2.2.2 74 = some (.bipush 26, 2) := by rw [It_X8_readPlan]; rfl
theorem I_X8_readPlan_76 : zin zm_X8_readPlan.2.2.2.2.2 76 = some (.dup2, 1) := by rw [It_X8_readPlan]; rfl
theorem I_X8_readPlan_77 : zin zm_X8_readPlan.2.2.2.2.2 77 = some (.iaload, 1) := by rw [It_X8_readPlan]; rfl
theorem I_X8_readPlan_78 : zin zm_X8_readPlan.2.2.2.2.2 78 = some (.iconst 1, 1) := by rw [It_X8_readPlan]; rfl
theorem I_X8_readPlan_79 : zin zm_X8_readPlan.2.2.2.2.2 79 = some (.iadd, 1) := by rw [It_X8_readPlan]; rfl
theorem I_X8_readPlan_80 : zin zm_X8_readPlan.2.2.2.2.2 80 = some (.iastore, 1) := by rw [It_X8_readPlan]; rfl
theorem I_X8_readPlan_81 : zin zm_X8_readPlan.2.2.2.2.2 81 = some (.goto (-81), 3) := by rw [It_X8_readPlan]; rfl
theorem I_X8_readPlan_84 : zin zm_X8_readPlan.2.2.2.2.2 84 = some (.return_, 1) := by rw [It_X8_readPlan]; rfl
theorem G_8_104 : zlk zfls 8 104 = some (8, 6, 847) := rfl
theorem K_8_110 : zlk zmls 8 110 = some (0, 122, 0, 984) := rfl
theorem Zm_122 : zms[122]? = some zm_X8_readPlan := rfl
theorem cl_X8_readPlan : zm_X8_readPlan.2.2.2.2.1 = 8 := by
  unfold zm_X8_readPlan
  rfl
theorem cn_X8_readPlan : zm_X8_readPlan.2.2.2.2.1 ≠ 12 := by
  rw [cl_X8_readPlan]
  decide
theorem cn2_X8_readPlan : zm_X8_readPlan.2.2.2.2.1 ≠ 2 := by
  rw [cl_X8_readPlan]
  decide
theorem rm_left {d : Nat} {m : zM} {r : Option Value} {h' : zHp} {n p c : Nat} {g : Nat → Int32} {sT pT : Bool} {sb : Int32} (hE : rE m n) (hC : rC m n p) (hV : rV m c g sT pT sb) (H : zE none d zm_X8_readMore 0 [.ref 71, .int (Int32.ofNat 4), .null] [] m r h') : ∃ m1, r = none ∧ h' = zhp m1 ∧ zfR m m1 ∧ rR m1 n (pMore (m 75) n (c, g, sT, pT, sb) 4 p) := by
  replace H := i_iln (q := 1) H I_X8_readMore_0 rfl rfl
  replace H := i_icst (x := 3) (q := 2) H I_X8_readMore_1 (by decide) rfl
  have W := i_ic_gt (t := 67) (q := 5) H I_X8_readMore_2 (by decide) rfl
  clear H
  rcases W with ⟨c_2, H⟩ | ⟨c_2, H⟩
  · skip
    replace H := i_iln (q := 68) H I_X8_readMore_67 rfl rfl
    replace H := i_icst (x := 4) (q := 69) H I_X8_readMore_68 (by decide) rfl
    have W := i_ic_ne (t := 102) (q := 72) H I_X8_readMore_69 (by decide) rfl
    clear H
    rcases W with ⟨c_69, H⟩ | ⟨c_69, H⟩
    · exact absurd (by decide) c_69
    · skip
      replace H := i_aln (q := 73) H I_X8_readMore_72 rfl rfl
      replace H := i_icst (x := 0) (q := 74) H I_X8_readMore_73 (by decide) rfl
      replace H := i_icst (x := 4) (q := 75) H I_X8_readMore_74 (by decide) rfl
      replace H := i_aln (q := 76) H I_X8_readMore_75 rfl rfl
      replace H := i_gfr (q := 79) H I_X8_readMore_76 G_8_16 cn_X8_readMore LY_71 rfl rfl
      replace H := i_bip (x := 15) (q := 81) H I_X8_readMore_79 (by decide) rfl
      have W := i_ia (q := 82) H I_X8_readMore_81 LY_74 rfl
      clear H
      obtain ⟨i_81, bi_81, ei_81, H⟩ := W
      have W := i_cv3 1 (q := 85) H I_X8_readMore_82 K_8_100 Zm_121 rfl rfl
      clear H
      obtain ⟨r1, h1, Hc, K1, K2⟩ := W
      obtain ⟨M_82, v_82, e1, e2, G_82, D_82⟩ := t_other (n := n) (p := p) hE hC Hc
      have H := K1 _ _ e1 e2
      clear e1 e2 Hc K1 K2
      rcases D_82 with ⟨o_82, C_82⟩ | ⟨f_82, o_82, C_82⟩
      · skip
        replace H := i_isn (q := 86) H I_X8_readMore_85 rfl rfl
        replace H := i_aln (q := 87) H I_X8_readMore_86 rfl rfl
        replace H := i_gfr (q := 90) H I_X8_readMore_87 G_8_16 cn_X8_readMore LY_71 rfl rfl
        replace H := i_bip (x := 15) (q := 92) H I_X8_readMore_90 (by decide) rfl
        replace H := i_dup2 (q := 93) H I_X8_readMore_92 rfl rfl rfl
        have W := i_ia (q := 94) H I_X8_readMore_93 LY_74 rfl
        clear H
        obtain ⟨i_93, bi_93, ei_93, H⟩ := W
        replace H := i_icst (x := 1) (q := 95) H I_X8_readMore_94 (by decide) rfl
        replace H := i_iln (q := 96) H I_X8_readMore_95 rfl rfl
        replace H := i_ishl (q := 97) H I_X8_readMore_96 rfl
        replace H := i_ior (q := 98) H I_X8_readMore_97 rfl
        have W := i_iast (q := 99) H I_X8_readMore_98 LY_74 rfl
        clear H
        obtain ⟨i_98, bi_98, ei_98, H⟩ := W
        replace H := i_goto (q := 131) H I_X8_readMore_99 (by decide)
        obtain ⟨hr, hh⟩ := i_rt H I_X8_readMore_131
        have i1 : i_81 = 15 := (zofn (i := 15) ei_81 (by decide) (by omega)).symm
        subst i1
        have i2 : i_93 = 15 := (zofn (i := 15) ei_93 (by decide) (by omega)).symm
        subst i2
        have i3 : i_98 = 15 := (zofn (i := 15) ei_98 (by decide) (by omega)).symm
        subst i3
        rw [hV.2.2.1 15 (by omega)] at o_82
        have hk : zNm (m 75) n p 4 = true ∧ (g 15 >>> (tV (m 75) n p &&& 31)) &&& 1 = 0 ∧ v_82 = tV (m 75) n p := by
          rw [pOth] at o_82
          split at o_82
          · rename_i hk
            split at o_82
            · rename_i hx
              cases o_82
              exact ⟨hk, hx, rfl⟩
            · cases o_82
          · cases o_82
        obtain ⟨k1, k2, rfl⟩ := hk
        rw [show pMore (m 75) n (c, g, sT, pT, sb) 4 p = .inr ((c, gset g 15 (g 15 ||| (1 <<< (tV (m 75) n p &&& 31))), sT, pT, sb), tN (m 75) n p) by
          rw [pMore, if_neg (show ¬ 4 < 4 by omega), if_pos (show 4 = 4 from rfl), if_pos k1, if_pos k2]]
        obtain ⟨q1, q2, q3, ⟨τ, t1, t2, t3, t4⟩, q5, a, a1, a2, a3⟩ := hV
        refine ⟨_, hr, hh, fun a b x y => by rw [zup_n (by omega), G_82 _ _ (by omega)], ⟨?_, q2, fun k hk => ?_, ⟨τ, t1, ?_, t3, t4⟩, ?_, a, a1, ?_, a3⟩, ?_⟩
        · rw [zup_n (by omega), G_82 _ _ (by omega), q1]
        · dsimp only
          by_cases h1 : k = 15
          · subst h1
            rw [zup_s, gset_s, G_82 _ _ (by omega), q3 15 (by omega)]
          · rw [zup_n (by omega), gset_n h1, G_82 _ _ (by omega), q3 k hk]
        · rw [zup_n (by omega), G_82 _ _ (by omega), t2]
        · rw [zup_n (by omega), G_82 _ _ (by omega), q5]
        · dsimp only
          rw [gset_n (by omega), a2]
        · refine rC_f C_82 (fun b x y => ?_) ?_
          · rw [zup_n (by omega)]
          · funext b
            rw [zup_n (by omega)]
      · skip
        replace H := i_isn (q := 86) H I_X8_readMore_85 rfl rfl
        replace H := i_aln (q := 87) H I_X8_readMore_86 rfl rfl
        replace H := i_gfr (q := 90) H I_X8_readMore_87 G_8_16 cn_X8_readMore LY_71 rfl rfl
        replace H := i_bip (x := 15) (q := 92) H I_X8_readMore_90 (by decide) rfl
        replace H := i_dup2 (q := 93) H I_X8_readMore_92 rfl rfl rfl
        have W := i_ia (q := 94) H I_X8_readMore_93 LY_74 rfl
        clear H
        obtain ⟨i_93, bi_93, ei_93, H⟩ := W
        replace H := i_icst (x := 1) (q := 95) H I_X8_readMore_94 (by decide) rfl
        replace H := i_iln (q := 96) H I_X8_readMore_95 rfl rfl
        replace H := i_ishl (q := 97) H I_X8_readMore_96 rfl
        replace H := i_ior (q := 98) H I_X8_readMore_97 rfl
        have W := i_iast (q := 99) H I_X8_readMore_98 LY_74 rfl
        clear H
        obtain ⟨i_98, bi_98, ei_98, H⟩ := W
        replace H := i_goto (q := 131) H I_X8_readMore_99 (by decide)
        obtain ⟨hr, hh⟩ := i_rt H I_X8_readMore_131
        have i1 : i_81 = 15 := (zofn (i := 15) ei_81 (by decide) (by omega)).symm
        subst i1
        have i2 : i_93 = 15 := (zofn (i := 15) ei_93 (by decide) (by omega)).symm
        subst i2
        have i3 : i_98 = 15 := (zofn (i := 15) ei_98 (by decide) (by omega)).symm
        subst i3
        rw [hV.2.2.1 15 (by omega)] at o_82
        refine ⟨_, hr, hh, fun a b x y => by rw [zup_n (by omega), G_82 _ _ (by omega)], ?_⟩
        rw [show pMore (m 75) n (c, g, sT, pT, sb) 4 p = .inl f_82 by
          rw [pMore, if_neg (show ¬ 4 < 4 by omega), if_pos (show 4 = 4 from rfl)]
          rw [pOth] at o_82
          split
          · rename_i hk
            rw [if_pos hk] at o_82
            split
            · rename_i hx
              rw [if_pos hx] at o_82
              cases o_82
            · rename_i hx
              rw [if_neg hx] at o_82
              cases o_82
              rfl
          · rename_i hk
            rw [if_neg hk] at o_82
            cases o_82
            rfl]
        exact ⟨by rw [zup_n (by omega)]; exact C_82.1, by rw [zup_n (by omega)]; exact C_82.2.1, C_82.2.2⟩
  · exact absurd (by decide) c_2
theorem rm_slack {d : Nat} {m : zM} {r : Option Value} {h' : zHp} {n p c : Nat} {g : Nat → Int32} {sT pT : Bool} {sb : Int32} (hE : rE m n) (hC : rC m n p) (hV : rV m c g sT pT sb) (hsT : sT = true) (H : zE none d zm_X8_readMore 0 [.ref 71, .int (Int32.ofNat 5), .null] [] m r h') : ∃ m1, r = none ∧ h' = zhp m1 ∧ zfR m m1 ∧ rR m1 n (pMore (m 75) n (c, g, sT, pT, sb) 5 p) := by
  replace H := i_iln (q := 1) H I_X8_readMore_0 rfl rfl
  replace H := i_icst (x := 3) (q := 2) H I_X8_readMore_1 (by decide) rfl
  have W := i_ic_gt (t := 67) (q := 5) H I_X8_readMore_2 (by decide) rfl
  clear H
  rcases W with ⟨c_2, H⟩ | ⟨c_2, H⟩
  · skip
    replace H := i_iln (q := 68) H I_X8_readMore_67 rfl rfl
    replace H := i_icst (x := 4) (q := 69) H I_X8_readMore_68 (by decide) rfl
    have W := i_ic_ne (t := 102) (q := 72) H I_X8_readMore_69 (by decide) rfl
    clear H
    rcases W with ⟨c_69, H⟩ | ⟨c_69, H⟩
    · skip
      replace H := i_iln (q := 103) H I_X8_readMore_102 rfl rfl
      replace H := i_icst (x := 5) (q := 104) H I_X8_readMore_103 (by decide) rfl
      have W := i_ic_ne (t := 127) (q := 107) H I_X8_readMore_104 (by decide) rfl
      clear H
      rcases W with ⟨c_104, H⟩ | ⟨c_104, H⟩
      · exact absurd (by decide) c_104
      · skip
        replace H := i_aln (q := 108) H I_X8_readMore_107 rfl rfl
        replace H := i_gfr (q := 111) H I_X8_readMore_108 G_8_16 cn_X8_readMore LY_71 rfl rfl
        replace H := i_bip (x := 16) (q := 113) H I_X8_readMore_111 (by decide) rfl
        replace H := i_aln (q := 114) H I_X8_readMore_113 rfl rfl
        replace H := i_icst (x := 0) (q := 115) H I_X8_readMore_114 (by decide) rfl
        replace H := i_bip (x := 9) (q := 117) H I_X8_readMore_115 (by decide) rfl
        replace H := i_icst (x := 0) (q := 118) H I_X8_readMore_117 (by decide) rfl
        have W := i_cv3 1 (q := 121) H I_X8_readMore_118 K_8_100 Zm_121 rfl rfl
        clear H
        obtain ⟨r1, h1, Hc, K1, K2⟩ := W
        obtain ⟨M_118, v_118, e1, e2, G_118, D_118⟩ := t_other (n := n) (p := p) hE hC Hc
        have H := K1 _ _ e1 e2
        clear e1 e2 Hc K1 K2
        rcases D_118 with ⟨o_118, C_118⟩ | ⟨f_118, o_118, C_118⟩
        · skip
          replace H := i_icst (x := 1) (q := 122) H I_X8_readMore_121 (by decide) rfl
          replace H := i_isub (q := 123) H I_X8_readMore_122 rfl
          have W := i_iast (q := 124) H I_X8_readMore_123 LY_74 rfl
          clear H
          obtain ⟨i_123, bi_123, ei_123, H⟩ := W
          replace H := i_goto (q := 131) H I_X8_readMore_124 (by decide)
          obtain ⟨hr, hh⟩ := i_rt H I_X8_readMore_131
          have i1 : i_123 = 16 := (zofn (i := 16) ei_123 (by decide) (by omega)).symm
          subst i1
          obtain ⟨k1, rfl⟩ := pOth_ok o_118
          rw [show pMore (m 75) n (c, g, sT, pT, sb) 5 p = .inr ((c, gset g 16 (tV (m 75) n p - 1), true, pT, sb), tN (m 75) n p) by
            rw [pMore, if_neg (show ¬ 5 < 4 by omega), if_neg (show ¬ 5 = 4 by omega), if_pos (show 5 = 5 from rfl), if_pos k1]]
          obtain ⟨q1, q2, q3, ⟨τ, t1, t2, t3, t4⟩, q5, a, a1, a2, a3⟩ := hV
          refine ⟨_, hr, hh, fun a b x y => by rw [zup_n (by omega), G_118 _ _ (by omega)], ⟨?_, q2, fun k hk => ?_, ⟨τ, t1, ?_, ?_, t4⟩, ?_, a, a1, ?_, a3⟩, ?_⟩
          · rw [zup_n (by omega), G_118 _ _ (by omega), q1]
          · dsimp only
            by_cases h1 : k = 16
            · subst h1
              rw [zup_s, gset_s]
            · rw [zup_n (by omega), gset_n h1, G_118 _ _ (by omega), q3 k hk]
          · rw [zup_n (by omega), G_118 _ _ (by omega), t2]
          · rw [t3, hsT]
          · rw [zup_n (by omega), G_118 _ _ (by omega), q5]
          · dsimp only
            rw [gset_n (by omega), a2]
          · refine rC_f C_118 (fun b x y => ?_) ?_
            · rw [zup_n (by omega)]
            · funext b
              rw [zup_n (by omega)]
        · skip
          replace H := i_icst (x := 1) (q := 122) H I_X8_readMore_121 (by decide) rfl
          replace H := i_isub (q := 123) H I_X8_readMore_122 rfl
          have W := i_iast (q := 124) H I_X8_readMore_123 LY_74 rfl
          clear H
          obtain ⟨i_123, bi_123, ei_123, H⟩ := W
          replace H := i_goto (q := 131) H I_X8_readMore_124 (by decide)
          obtain ⟨hr, hh⟩ := i_rt H I_X8_readMore_131
          have i1 : i_123 = 16 := (zofn (i := 16) ei_123 (by decide) (by omega)).symm
          subst i1
          obtain ⟨k1, rfl⟩ := pOth_no o_118
          refine ⟨_, hr, hh, fun a b x y => by rw [zup_n (by omega), G_118 _ _ (by omega)], ?_⟩
          rw [show pMore (m 75) n (c, g, sT, pT, sb) 5 p = .inl (zfn (m 75) n p) by
            rw [pMore, if_neg (show ¬ 5 < 4 by omega), if_neg (show ¬ 5 = 4 by omega), if_pos (show 5 = 5 from rfl), if_neg k1]]
          exact ⟨by rw [zup_n (by omega)]; exact C_118.1, by rw [zup_n (by omega)]; exact C_118.2.1, C_118.2.2⟩
    · exact absurd c_69 (by decide)
  · exact absurd (by decide) c_2
theorem rp_plan {n c : Nat} {sT : Bool} : ∀ (j a d : Nat) (r : Option Value) (h' : zHp) (m : zM) (g : Nat → Int32) (sb : Int32) (p : Nat), a + (j + 1) = 9 → rE m n → rC m n p → rV m c g sT true sb → g 26 = Int32.ofNat a → zE none d zm_X8_readPlan 0 [.ref 71, .null] [] m r h' → ∃ m1, r = none ∧ h' = zhp m1 ∧ zfR m m1 ∧ rR m1 n (pPlM (m 75) n c sT (j + 1) a g sb p) := by
  intro j
  induction j with
  | zero =>
    intro a d r h' m g sb p hj hE hC hV hg H
    replace H := i_aln (q := 1) H I_X8_readPlan_0 rfl rfl
    replace H := i_gfi (q := 4) H I_X8_readPlan_1 G_8_63 cn_X8_readPlan LY_71 rfl rfl
    have W := i_if_ne (t := 84) (q := 7) H I_X8_readPlan_4 (by decide) rfl
    clear H
    rcases W with ⟨c_4, H⟩ | ⟨c_4, H⟩
    · skip
      obtain ⟨hr, hh⟩ := i_rt H I_X8_readPlan_84
      obtain ⟨hpn, hC | ⟨hk, hF⟩⟩ := hC
      · exact absurd hC.2.1 c_4
      · have h2 : ¬ tK (m 75) n p = 2 := by rw [hk]; decide
        rw [show pPlM (m 75) n c sT (0 + 1) a g sb p = .inr ((c, g, sT, true, sb), p) by rw [pPlM, if_neg h2]]
        exact ⟨_, hr, hh, fun _ _ _ _ => rfl, hV, hpn, Or.inr ⟨hk, hF⟩⟩
    · skip
      replace H := i_aln (q := 8) H I_X8_readPlan_7 rfl rfl
      replace H := i_gfi (q := 11) H I_X8_readPlan_8 G_8_72 cn_X8_readPlan LY_71 rfl rfl
      replace H := i_icst (x := 2) (q := 12) H I_X8_readPlan_11 (by decide) rfl
      have W := i_ic_ne (t := 84) (q := 15) H I_X8_readPlan_12 (by decide) rfl
      clear H
      rcases W with ⟨c_12, H⟩ | ⟨c_12, H⟩
      · skip
        obtain ⟨hr, hh⟩ := i_rt H I_X8_readPlan_84
        obtain ⟨hpn, hC | ⟨hk, hF⟩⟩ := hC
        · rw [hC.2.2.2.2.1] at c_12
          rw [show pPlM (m 75) n c sT (0 + 1) a g sb p = .inr ((c, g, sT, true, sb), p) by rw [pPlM, if_neg c_12]]
          exact ⟨_, hr, hh, fun _ _ _ _ => rfl, hV, hpn, Or.inl hC⟩
        · exact absurd c_4 (rF_0 hF)
      · skip
        replace H := i_aln (q := 16) H I_X8_readPlan_15 rfl rfl
        replace H := i_gfr (q := 19) H I_X8_readPlan_16 G_8_16 cn_X8_readPlan LY_71 rfl rfl
        replace H := i_bip (x := 26) (q := 21) H I_X8_readPlan_19 (by decide) rfl
        have W := i_ia (q := 22) H I_X8_readPlan_21 LY_74 rfl
        clear H
        obtain ⟨i_21, bi_21, ei_21, H⟩ := W
        replace H := i_bip (x := 8) (q := 24) H I_X8_readPlan_22 (by decide) rfl
        have W := i_ic_ne (t := 35) (q := 27) H I_X8_readPlan_24 (by decide) rfl
        clear H
        rcases W with ⟨c_24, H⟩ | ⟨c_24, H⟩
        · skip
          replace H := i_aln (q := 36) H I_X8_readPlan_35 rfl rfl
          replace H := i_icst (x := 0) (q := 37) H I_X8_readPlan_36 (by decide) rfl
          replace H := i_bip (x := 31) (q := 39) H I_X8_readPlan_37 (by decide) rfl
          replace H := i_icst (x := 0) (q := 40) H I_X8_readPlan_39 (by decide) rfl
          have W := i_cv3 1 (q := 43) H I_X8_readPlan_40 K_8_100 Zm_121 rfl rfl
          clear H
          obtain ⟨r1, h1, Hc, K1, K2⟩ := W
          obtain ⟨M_40, v_40, e1, e2, G_40, D_40⟩ := t_other (n := n) (p := p) hE hC Hc
          have H := K1 _ _ e1 e2
          clear e1 e2 Hc K1 K2
          rcases D_40 with ⟨o_40, C_40⟩ | ⟨f_40, o_40, C_40⟩
          · skip
            replace H := i_isn (q := 44) H I_X8_readPlan_43 rfl rfl
            replace H := i_aln (q := 45) H I_X8_readPlan_44 rfl rfl
            replace H := i_dup (q := 46) H I_X8_readPlan_45 rfl rfl
            replace H := i_gfi (q := 49) H I_X8_readPlan_46 G_8_104 cn_X8_readPlan LY_71 rfl rfl
            replace H := i_iln (q := 50) H I_X8_readPlan_49 rfl rfl
            replace H := i_ior (q := 51) H I_X8_readPlan_50 rfl
            replace H := i_pf (q := 54) H I_X8_readPlan_51 G_8_104 cn_X8_readPlan LY_71 rfl rfl
            replace H := i_aln (q := 55) H I_X8_readPlan_54 rfl rfl
            replace H := i_gfr (q := 58) H I_X8_readPlan_55 G_8_16 cn_X8_readPlan LY_71 rfl rfl
            replace H := i_bip (x := 18) (q := 60) H I_X8_readPlan_58 (by decide) rfl
            replace H := i_aln (q := 61) H I_X8_readPlan_60 rfl rfl
            replace H := i_gfr (q := 64) H I_X8_readPlan_61 G_8_16 cn_X8_readPlan LY_71 rfl rfl
            replace H := i_bip (x := 26) (q := 66) H I_X8_readPlan_64 (by decide) rfl
            have W := i_ia (q := 67) H I_X8_readPlan_66 LY_74 rfl
            clear H
            obtain ⟨i_66, bi_66, ei_66, H⟩ := W
            replace H := i_iadd (q := 68) H I_X8_readPlan_67 rfl
            replace H := i_iln (q := 69) H I_X8_readPlan_68 rfl rfl
            have W := i_iast (q := 70) H I_X8_readPlan_69 LY_74 rfl
            clear H
            obtain ⟨i_69, bi_69, ei_69, H⟩ := W
            replace H := i_aln (q := 71) H I_X8_readPlan_70 rfl rfl
            replace H := i_gfr (q := 74) H I_X8_readPlan_71 G_8_16 cn_X8_readPlan LY_71 rfl rfl
            replace H := i_bip (x := 26) (q := 76) H I_X8_readPlan_74 (by decide) rfl
            replace H := i_dup2 (q := 77) H I_X8_readPlan_76 rfl rfl rfl
            have W := i_ia (q := 78) H I_X8_readPlan_77 LY_74 rfl
            clear H
            obtain ⟨i_77, bi_77, ei_77, H⟩ := W
            replace H := i_icst (x := 1) (q := 79) H I_X8_readPlan_78 (by decide) rfl
            replace H := i_iadd (q := 80) H I_X8_readPlan_79 rfl
            have W := i_iast (q := 81) H I_X8_readPlan_80 LY_74 rfl
            clear H
            obtain ⟨i_80, bi_80, ei_80, H⟩ := W
            replace H := i_goto (q := 0) H I_X8_readPlan_81 (by decide)
            obtain ⟨hpn, hC0 | ⟨hk, hF⟩⟩ := id hC
            rotate_left
            · exact absurd c_4 (rF_0 hF)
            rw [hC0.2.2.2.2.1] at c_12
            have i1 : i_21 = 26 := (zofn (i := 26) ei_21 (by decide) (by omega)).symm
            subst i1
            rw [hV.2.2.1 26 (by omega), hg] at c_24
            exact absurd (show Int32.ofNat a = 8 by rw [show a = 8 by omega]; rfl) c_24
          · skip
            replace H := i_isn (q := 44) H I_X8_readPlan_43 rfl rfl
            replace H := i_aln (q := 45) H I_X8_readPlan_44 rfl rfl
            replace H := i_dup (q := 46) H I_X8_readPlan_45 rfl rfl
            replace H := i_gfi (q := 49) H I_X8_readPlan_46 G_8_104 cn_X8_readPlan LY_71 rfl rfl
            replace H := i_iln (q := 50) H I_X8_readPlan_49 rfl rfl
            replace H := i_ior (q := 51) H I_X8_readPlan_50 rfl
            replace H := i_pf (q := 54) H I_X8_readPlan_51 G_8_104 cn_X8_readPlan LY_71 rfl rfl
            replace H := i_aln (q := 55) H I_X8_readPlan_54 rfl rfl
            replace H := i_gfr (q := 58) H I_X8_readPlan_55 G_8_16 cn_X8_readPlan LY_71 rfl rfl
            replace H := i_bip (x := 18) (q := 60) H I_X8_readPlan_58 (by decide) rfl
            replace H := i_aln (q := 61) H I_X8_readPlan_60 rfl rfl
            replace H := i_gfr (q := 64) H I_X8_readPlan_61 G_8_16 cn_X8_readPlan LY_71 rfl rfl
            replace H := i_bip (x := 26) (q := 66) H I_X8_readPlan_64 (by decide) rfl
            have W := i_ia (q := 67) H I_X8_readPlan_66 LY_74 rfl
            clear H
            obtain ⟨i_66, bi_66, ei_66, H⟩ := W
            replace H := i_iadd (q := 68) H I_X8_readPlan_67 rfl
            replace H := i_iln (q := 69) H I_X8_readPlan_68 rfl rfl
            have W := i_iast (q := 70) H I_X8_readPlan_69 LY_74 rfl
            clear H
            obtain ⟨i_69, bi_69, ei_69, H⟩ := W
            replace H := i_aln (q := 71) H I_X8_readPlan_70 rfl rfl
            replace H := i_gfr (q := 74) H I_X8_readPlan_71 G_8_16 cn_X8_readPlan LY_71 rfl rfl
            replace H := i_bip (x := 26) (q := 76) H I_X8_readPlan_74 (by decide) rfl
            replace H := i_dup2 (q := 77) H I_X8_readPlan_76 rfl rfl rfl
            have W := i_ia (q := 78) H I_X8_readPlan_77 LY_74 rfl
            clear H
            obtain ⟨i_77, bi_77, ei_77, H⟩ := W
            replace H := i_icst (x := 1) (q := 79) H I_X8_readPlan_78 (by decide) rfl
            replace H := i_iadd (q := 80) H I_X8_readPlan_79 rfl
            have W := i_iast (q := 81) H I_X8_readPlan_80 LY_74 rfl
            clear H
            obtain ⟨i_80, bi_80, ei_80, H⟩ := W
            replace H := i_goto (q := 0) H I_X8_readPlan_81 (by decide)
            obtain ⟨hpn, hC0 | ⟨hk, hF⟩⟩ := id hC
            rotate_left
            · exact absurd c_4 (rF_0 hF)
            rw [hC0.2.2.2.2.1] at c_12
            have i1 : i_21 = 26 := (zofn (i := 26) ei_21 (by decide) (by omega)).symm
            subst i1
            rw [hV.2.2.1 26 (by omega), hg] at c_24
            exact absurd (show Int32.ofNat a = 8 by rw [show a = 8 by omega]; rfl) c_24
        · skip
          replace H := i_aln (q := 28) H I_X8_readPlan_27 rfl rfl
          replace H := i_icst (x := 5) (q := 29) H I_X8_readPlan_28 (by decide) rfl
          have W := i_cv1 0 (q := 32) H I_X8_readPlan_29 K_8_93 Zm_118 rfl rfl
          clear H
          obtain ⟨r1, h1, Hc, K1, K2⟩ := W
          obtain ⟨e1, e2⟩ := t_fails0 c_4 Hc
          have H := K2 _ e1 e2
          clear e1 e2 Hc K1 K2
          replace H := i_goto (q := 0) H I_X8_readPlan_32 (by decide)
          obtain ⟨hpn, hC0 | ⟨hk, hF⟩⟩ := id hC
          rotate_left
          · exact absurd c_4 (rF_0 hF)
          rw [hC0.2.2.2.2.1] at c_12
          have i1 : i_21 = 26 := (zofn (i := 26) ei_21 (by decide) (by omega)).symm
          subst i1
          rw [hV.2.2.1 26 (by omega), hg] at c_24
          have h8 : a = 8 := zofn (j := 8) c_24 (by omega) (by decide)
          rw [show pPlM (m 75) n c sT (0 + 1) a g sb p = .inl (5, tS (m 75) n p) by rw [pPlM, if_pos c_12, if_pos (by omega)]]
          have hz : zup (zup m 71 10 5) 71 11 (m 71 13) 71 10 = 5 := by rw [zup_n (by omega), zup_s]
          replace H := i_aln (q := 1) H I_X8_readPlan_0 rfl rfl
          replace H := i_gfi (q := 4) H I_X8_readPlan_1 G_8_63 cn_X8_readPlan LY_71 rfl rfl
          have W := i_if_ne (t := 84) (q := 7) H I_X8_readPlan_4 (by decide) rfl
          clear H
          rcases W with ⟨d_4, H⟩ | ⟨d_4, H⟩
          · skip
            obtain ⟨hr, hh⟩ := i_rt H I_X8_readPlan_84
            refine ⟨_, hr, hh, fun a b x y => by rw [zup_n (by omega), zup_n (by omega)], ?_⟩
            exact ⟨hz, by rw [zup_s, hC0.2.2.2.1], (show (0 : Int32) < 5 by decide)⟩
          · rw [hz] at d_4
            exact absurd d_4 (by decide)
  | succ j ih =>
    intro a d r h' m g sb p hj hE hC hV hg H
    replace H := i_aln (q := 1) H I_X8_readPlan_0 rfl rfl
    replace H := i_gfi (q := 4) H I_X8_readPlan_1 G_8_63 cn_X8_readPlan LY_71 rfl rfl
    have W := i_if_ne (t := 84) (q := 7) H I_X8_readPlan_4 (by decide) rfl
    clear H
    rcases W with ⟨c_4, H⟩ | ⟨c_4, H⟩
    · skip
      obtain ⟨hr, hh⟩ := i_rt H I_X8_readPlan_84
      obtain ⟨hpn, hC | ⟨hk, hF⟩⟩ := hC
      · exact absurd hC.2.1 c_4
      · have h2 : ¬ tK (m 75) n p = 2 := by rw [hk]; decide
        rw [show pPlM (m 75) n c sT (j + 1 + 1) a g sb p = .inr ((c, g, sT, true, sb), p) by rw [pPlM, if_neg h2]]
        exact ⟨_, hr, hh, fun _ _ _ _ => rfl, hV, hpn, Or.inr ⟨hk, hF⟩⟩
    · skip
      replace H := i_aln (q := 8) H I_X8_readPlan_7 rfl rfl
      replace H := i_gfi (q := 11) H I_X8_readPlan_8 G_8_72 cn_X8_readPlan LY_71 rfl rfl
      replace H := i_icst (x := 2) (q := 12) H I_X8_readPlan_11 (by decide) rfl
      have W := i_ic_ne (t := 84) (q := 15) H I_X8_readPlan_12 (by decide) rfl
      clear H
      rcases W with ⟨c_12, H⟩ | ⟨c_12, H⟩
      · skip
        obtain ⟨hr, hh⟩ := i_rt H I_X8_readPlan_84
        obtain ⟨hpn, hC | ⟨hk, hF⟩⟩ := hC
        · rw [hC.2.2.2.2.1] at c_12
          rw [show pPlM (m 75) n c sT (j + 1 + 1) a g sb p = .inr ((c, g, sT, true, sb), p) by rw [pPlM, if_neg c_12]]
          exact ⟨_, hr, hh, fun _ _ _ _ => rfl, hV, hpn, Or.inl hC⟩
        · exact absurd c_4 (rF_0 hF)
      · skip
        replace H := i_aln (q := 16) H I_X8_readPlan_15 rfl rfl
        replace H := i_gfr (q := 19) H I_X8_readPlan_16 G_8_16 cn_X8_readPlan LY_71 rfl rfl
        replace H := i_bip (x := 26) (q := 21) H I_X8_readPlan_19 (by decide) rfl
        have W := i_ia (q := 22) H I_X8_readPlan_21 LY_74 rfl
        clear H
        obtain ⟨i_21, bi_21, ei_21, H⟩ := W
        replace H := i_bip (x := 8) (q := 24) H I_X8_readPlan_22 (by decide) rfl
        have W := i_ic_ne (t := 35) (q := 27) H I_X8_readPlan_24 (by decide) rfl
        clear H
        rcases W with ⟨c_24, H⟩ | ⟨c_24, H⟩
        · skip
          replace H := i_aln (q := 36) H I_X8_readPlan_35 rfl rfl
          replace H := i_icst (x := 0) (q := 37) H I_X8_readPlan_36 (by decide) rfl
          replace H := i_bip (x := 31) (q := 39) H I_X8_readPlan_37 (by decide) rfl
          replace H := i_icst (x := 0) (q := 40) H I_X8_readPlan_39 (by decide) rfl
          have W := i_cv3 1 (q := 43) H I_X8_readPlan_40 K_8_100 Zm_121 rfl rfl
          clear H
          obtain ⟨r1, h1, Hc, K1, K2⟩ := W
          obtain ⟨M_40, v_40, e1, e2, G_40, D_40⟩ := t_other (n := n) (p := p) hE hC Hc
          have H := K1 _ _ e1 e2
          clear e1 e2 Hc K1 K2
          rcases D_40 with ⟨o_40, C_40⟩ | ⟨f_40, o_40, C_40⟩
          · skip
            replace H := i_isn (q := 44) H I_X8_readPlan_43 rfl rfl
            replace H := i_aln (q := 45) H I_X8_readPlan_44 rfl rfl
            replace H := i_dup (q := 46) H I_X8_readPlan_45 rfl rfl
            replace H := i_gfi (q := 49) H I_X8_readPlan_46 G_8_104 cn_X8_readPlan LY_71 rfl rfl
            replace H := i_iln (q := 50) H I_X8_readPlan_49 rfl rfl
            replace H := i_ior (q := 51) H I_X8_readPlan_50 rfl
            replace H := i_pf (q := 54) H I_X8_readPlan_51 G_8_104 cn_X8_readPlan LY_71 rfl rfl
            replace H := i_aln (q := 55) H I_X8_readPlan_54 rfl rfl
            replace H := i_gfr (q := 58) H I_X8_readPlan_55 G_8_16 cn_X8_readPlan LY_71 rfl rfl
            replace H := i_bip (x := 18) (q := 60) H I_X8_readPlan_58 (by decide) rfl
            replace H := i_aln (q := 61) H I_X8_readPlan_60 rfl rfl
            replace H := i_gfr (q := 64) H I_X8_readPlan_61 G_8_16 cn_X8_readPlan LY_71 rfl rfl
            replace H := i_bip (x := 26) (q := 66) H I_X8_readPlan_64 (by decide) rfl
            have W := i_ia (q := 67) H I_X8_readPlan_66 LY_74 rfl
            clear H
            obtain ⟨i_66, bi_66, ei_66, H⟩ := W
            replace H := i_iadd (q := 68) H I_X8_readPlan_67 rfl
            replace H := i_iln (q := 69) H I_X8_readPlan_68 rfl rfl
            have W := i_iast (q := 70) H I_X8_readPlan_69 LY_74 rfl
            clear H
            obtain ⟨i_69, bi_69, ei_69, H⟩ := W
            replace H := i_aln (q := 71) H I_X8_readPlan_70 rfl rfl
            replace H := i_gfr (q := 74) H I_X8_readPlan_71 G_8_16 cn_X8_readPlan LY_71 rfl rfl
            replace H := i_bip (x := 26) (q := 76) H I_X8_readPlan_74 (by decide) rfl
            replace H := i_dup2 (q := 77) H I_X8_readPlan_76 rfl rfl rfl
            have W := i_ia (q := 78) H I_X8_readPlan_77 LY_74 rfl
            clear H
            obtain ⟨i_77, bi_77, ei_77, H⟩ := W
            replace H := i_icst (x := 1) (q := 79) H I_X8_readPlan_78 (by decide) rfl
            replace H := i_iadd (q := 80) H I_X8_readPlan_79 rfl
            have W := i_iast (q := 81) H I_X8_readPlan_80 LY_74 rfl
            clear H
            obtain ⟨i_80, bi_80, ei_80, H⟩ := W
            replace H := i_goto (q := 0) H I_X8_readPlan_81 (by decide)
            obtain ⟨hpn, hC0 | ⟨hk, hF⟩⟩ := id hC
            rotate_left
            · exact absurd c_4 (rF_0 hF)
            rw [hC0.2.2.2.2.1] at c_12
            have i1 : i_21 = 26 := (zofn (i := 26) ei_21 (by decide) (by omega)).symm
            subst i1
            rw [hV.2.2.1 26 (by omega), hg] at c_24
            have h8 : a < 8 := by
              rcases Nat.lt_or_ge a 8 with w | w
              · exact w
              · exact absurd (show Int32.ofNat a = 8 by rw [show a = 8 by omega]; rfl) c_24
            have i66 : i_66 = 26 := (zofn (i := 26) ei_66 (by decide) (by omega)).symm
            subst i66
            have i77 : i_77 = 26 := (zofn (i := 26) ei_77 (by decide) (by omega)).symm
            subst i77
            have i80 : i_80 = 26 := (zofn (i := 26) ei_80 (by decide) (by omega)).symm
            subst i80
            have hm26 : M_40 74 26 = Int32.ofNat a := by rw [G_40 _ _ (by omega), hV.2.2.1 26 (by omega), hg]
            have i69 : i_69 = 18 + a := zix_add rfl (by rw [zup_n (by omega)]; exact hm26) ei_69 (by omega) (by omega)
            subst i69
            obtain ⟨k1, rfl⟩ := pOth_ok o_40
            have k2 : ¬ 31 < tV (m 75) n p := by
              simp only [zNm, c_12, decide_true, Bool.true_and, Bool.not_eq_true', decide_eq_false_iff_not] at k1
              exact k1
            rw [show pPlM (m 75) n c sT (j + 1 + 1) a g sb p = pPlM (m 75) n c sT (j + 1) (a + 1) (gset (gset g (18 + a) (tV (m 75) n p)) 26 (Int32.ofNat (a + 1))) (sb ||| tV (m 75) n p) (tN (m 75) n p) by rw [pPlM, if_pos c_12, if_neg (by omega), if_neg k2]]
            generalize hQ : zup (zup (zup M_40 71 6 _) 74 (18 + a) _) 74 26 _ = Q at H
            have q5 : Q 75 = m 75 := by
              funext b
              rw [← hQ, zup_n (by omega), zup_n (by omega), zup_n (by omega), G_40 _ _ (by omega)]
            have qR : zfR m Q := fun a b x y => by
              rw [← hQ, zup_n (by omega), zup_n (by omega), zup_n (by omega), G_40 _ _ (by omega)]
            obtain ⟨p1, p2, p3, ⟨τ, t1, t2, t3, t4⟩, p5, a0, a1, a2, a3⟩ := hV
            replace H := i_w [true, false] H
            obtain ⟨m1, g0, g1, g2, g3⟩ := ih (a + 1) d r h' Q (gset (gset g (18 + a) (tV (m 75) n p)) 26 (Int32.ofNat (a + 1))) (sb ||| tV (m 75) n p) (tN (m 75) n p) (by omega) (rE_f hE qR) (rC_f C_40 (fun b x y => by rw [← hQ, zup_n (by omega), zup_n (by omega), zup_n (by omega)]) (by rw [q5]; funext b; rw [G_40 _ _ (by omega)])) (by
              refine ⟨?_, p2, fun k hk => ?_, ⟨τ, t1, ?_, t3, t4⟩, ?_, a + 1, by omega, by rw [gset_s], fun w => by simp at w⟩
              · rw [← hQ, zup_n (by omega), zup_n (by omega), zup_n (by omega), G_40 _ _ (by omega), p1]
              · rw [← hQ]
                by_cases h1 : k = 26
                · subst h1
                  rw [zup_s, gset_s, zup_n (by omega), zup_n (by omega), hm26, zofn_1]
                · rw [zup_n (by omega), gset_n h1]
                  by_cases h2 : k = 18 + a
                  · subst h2
                    rw [zup_s, gset_s]
                  · rw [zup_n (by omega), zup_n (by omega), gset_n h2, G_40 _ _ (by omega), p3 k hk]
              · rw [← hQ, zup_n (by omega), zup_n (by omega), zup_n (by omega), G_40 _ _ (by omega), t2]
              · rw [← hQ, zup_n (by omega), zup_n (by omega), zup_s, G_40 _ _ (by omega), p5]) (by rw [gset_s]) H
            rw [q5] at g3
            exact ⟨m1, g0, g1, zfR_t qR g2, g3⟩
          · skip
            replace H := i_isn (q := 44) H I_X8_readPlan_43 rfl rfl
            replace H := i_aln (q := 45) H I_X8_readPlan_44 rfl rfl
            replace H := i_dup (q := 46) H I_X8_readPlan_45 rfl rfl
            replace H := i_gfi (q := 49) H I_X8_readPlan_46 G_8_104 cn_X8_readPlan LY_71 rfl rfl
            replace H := i_iln (q := 50) H I_X8_readPlan_49 rfl rfl
            replace H := i_ior (q := 51) H I_X8_readPlan_50 rfl
            replace H := i_pf (q := 54) H I_X8_readPlan_51 G_8_104 cn_X8_readPlan LY_71 rfl rfl
            replace H := i_aln (q := 55) H I_X8_readPlan_54 rfl rfl
            replace H := i_gfr (q := 58) H I_X8_readPlan_55 G_8_16 cn_X8_readPlan LY_71 rfl rfl
            replace H := i_bip (x := 18) (q := 60) H I_X8_readPlan_58 (by decide) rfl
            replace H := i_aln (q := 61) H I_X8_readPlan_60 rfl rfl
            replace H := i_gfr (q := 64) H I_X8_readPlan_61 G_8_16 cn_X8_readPlan LY_71 rfl rfl
            replace H := i_bip (x := 26) (q := 66) H I_X8_readPlan_64 (by decide) rfl
            have W := i_ia (q := 67) H I_X8_readPlan_66 LY_74 rfl
            clear H
            obtain ⟨i_66, bi_66, ei_66, H⟩ := W
            replace H := i_iadd (q := 68) H I_X8_readPlan_67 rfl
            replace H := i_iln (q := 69) H I_X8_readPlan_68 rfl rfl
            have W := i_iast (q := 70) H I_X8_readPlan_69 LY_74 rfl
            clear H
            obtain ⟨i_69, bi_69, ei_69, H⟩ := W
            replace H := i_aln (q := 71) H I_X8_readPlan_70 rfl rfl
            replace H := i_gfr (q := 74) H I_X8_readPlan_71 G_8_16 cn_X8_readPlan LY_71 rfl rfl
            replace H := i_bip (x := 26) (q := 76) H I_X8_readPlan_74 (by decide) rfl
            replace H := i_dup2 (q := 77) H I_X8_readPlan_76 rfl rfl rfl
            have W := i_ia (q := 78) H I_X8_readPlan_77 LY_74 rfl
            clear H
            obtain ⟨i_77, bi_77, ei_77, H⟩ := W
            replace H := i_icst (x := 1) (q := 79) H I_X8_readPlan_78 (by decide) rfl
            replace H := i_iadd (q := 80) H I_X8_readPlan_79 rfl
            have W := i_iast (q := 81) H I_X8_readPlan_80 LY_74 rfl
            clear H
            obtain ⟨i_80, bi_80, ei_80, H⟩ := W
            replace H := i_goto (q := 0) H I_X8_readPlan_81 (by decide)
            obtain ⟨hpn, hC0 | ⟨hk, hF⟩⟩ := id hC
            rotate_left
            · exact absurd c_4 (rF_0 hF)
            rw [hC0.2.2.2.2.1] at c_12
            have i1 : i_21 = 26 := (zofn (i := 26) ei_21 (by decide) (by omega)).symm
            subst i1
            rw [hV.2.2.1 26 (by omega), hg] at c_24
            have h8 : a < 8 := by
              rcases Nat.lt_or_ge a 8 with w | w
              · exact w
              · exact absurd (show Int32.ofNat a = 8 by rw [show a = 8 by omega]; rfl) c_24
            have i66 : i_66 = 26 := (zofn (i := 26) ei_66 (by decide) (by omega)).symm
            subst i66
            have i77 : i_77 = 26 := (zofn (i := 26) ei_77 (by decide) (by omega)).symm
            subst i77
            have i80 : i_80 = 26 := (zofn (i := 26) ei_80 (by decide) (by omega)).symm
            subst i80
            have hm26 : M_40 74 26 = Int32.ofNat a := by rw [G_40 _ _ (by omega), hV.2.2.1 26 (by omega), hg]
            have i69 : i_69 = 18 + a := zix_add rfl (by rw [zup_n (by omega)]; exact hm26) ei_69 (by omega) (by omega)
            subst i69
            obtain ⟨k1, rfl⟩ := pOth_no o_40
            have k2 : 31 < tV (m 75) n p := by
              simp only [zNm, c_12, decide_true, Bool.true_and, Bool.not_eq_true', decide_eq_false_iff_not] at k1
              exact Decidable.not_not.mp k1
            rw [show pPlM (m 75) n c sT (j + 1 + 1) a g sb p = .inl (3, tS (m 75) n p) by rw [pPlM, if_pos c_12, if_neg (by omega), if_pos k2]]
            generalize hQ : zup (zup (zup M_40 71 6 _) 74 (18 + a) v_40) 74 26 _ = Q at H
            have q10 : Q 71 10 = 3 := by
              rw [← hQ, zup_n (by omega), zup_n (by omega), zup_n (by omega), C_40.1, zfn, if_pos c_12]
            have q11 : Q 71 11 = Int32.ofNat (tS (m 75) n p) := by
              rw [← hQ, zup_n (by omega), zup_n (by omega), zup_n (by omega), C_40.2.1, zfn]
            replace H := i_aln (q := 1) H I_X8_readPlan_0 rfl rfl
            replace H := i_gfi (q := 4) H I_X8_readPlan_1 G_8_63 cn_X8_readPlan LY_71 rfl rfl
            have W := i_if_ne (t := 84) (q := 7) H I_X8_readPlan_4 (by decide) rfl
            clear H
            rcases W with ⟨d_4, H⟩ | ⟨d_4, H⟩
            · skip
              obtain ⟨hr, hh⟩ := i_rt H I_X8_readPlan_84
              refine ⟨_, hr, hh, fun a b x y => ?_, q10, q11, (show (0 : Int32) < 3 by decide)⟩
              rw [← hQ, zup_n (by omega), zup_n (by omega), zup_n (by omega), G_40 _ _ (by omega)]
            · rw [q10] at d_4
              exact absurd d_4 (by decide)
        · skip
          replace H := i_aln (q := 28) H I_X8_readPlan_27 rfl rfl
          replace H := i_icst (x := 5) (q := 29) H I_X8_readPlan_28 (by decide) rfl
          have W := i_cv1 0 (q := 32) H I_X8_readPlan_29 K_8_93 Zm_118 rfl rfl
          clear H
          obtain ⟨r1, h1, Hc, K1, K2⟩ := W
          obtain ⟨e1, e2⟩ := t_fails0 c_4 Hc
          have H := K2 _ e1 e2
          clear e1 e2 Hc K1 K2
          replace H := i_goto (q := 0) H I_X8_readPlan_32 (by decide)
          obtain ⟨hpn, hC0 | ⟨hk, hF⟩⟩ := id hC
          rotate_left
          · exact absurd c_4 (rF_0 hF)
          rw [hC0.2.2.2.2.1] at c_12
          have i1 : i_21 = 26 := (zofn (i := 26) ei_21 (by decide) (by omega)).symm
          subst i1
          rw [hV.2.2.1 26 (by omega), hg] at c_24
          have h8 : a = 8 := zofn (j := 8) c_24 (by omega) (by decide)
          rw [show pPlM (m 75) n c sT (j + 1 + 1) a g sb p = .inl (5, tS (m 75) n p) by rw [pPlM, if_pos c_12, if_pos (by omega)]]
          have hz : zup (zup m 71 10 5) 71 11 (m 71 13) 71 10 = 5 := by rw [zup_n (by omega), zup_s]
          replace H := i_aln (q := 1) H I_X8_readPlan_0 rfl rfl
          replace H := i_gfi (q := 4) H I_X8_readPlan_1 G_8_63 cn_X8_readPlan LY_71 rfl rfl
          have W := i_if_ne (t := 84) (q := 7) H I_X8_readPlan_4 (by decide) rfl
          clear H
          rcases W with ⟨d_4, H⟩ | ⟨d_4, H⟩
          · skip
            obtain ⟨hr, hh⟩ := i_rt H I_X8_readPlan_84
            refine ⟨_, hr, hh, fun a b x y => by rw [zup_n (by omega), zup_n (by omega)], ?_⟩
            exact ⟨hz, by rw [zup_s, hC0.2.2.2.1], (show (0 : Int32) < 5 by decide)⟩
          · rw [hz] at d_4
            exact absurd d_4 (by decide)
theorem rm_plan {d : Nat} {m : zM} {r : Option Value} {h' : zHp} {n p c : Nat} {g : Nat → Int32} {sT pT : Bool} {sb : Int32} (hE : rE m n) (hC : rC m n p) (hV : rV m c g sT pT sb) (hpT : pT = true) (hg : g 26 = Int32.ofNat 0) (H : zE none d zm_X8_readMore 0 [.ref 71, .int (Int32.ofNat 6), .null] [] m r h') : ∃ m1, r = none ∧ h' = zhp m1 ∧ zfR m m1 ∧ rR m1 n (pMore (m 75) n (c, g, sT, pT, sb) 6 p) := by
  subst hpT
  replace H := i_iln (q := 1) H I_X8_readMore_0 rfl rfl
  replace H := i_icst (x := 3) (q := 2) H I_X8_readMore_1 (by decide) rfl
  have W := i_ic_gt (t := 67) (q := 5) H I_X8_readMore_2 (by decide) rfl
  clear H
  rcases W with ⟨c_2, H⟩ | ⟨c_2, H⟩
  · skip
    replace H := i_iln (q := 68) H I_X8_readMore_67 rfl rfl
    replace H := i_icst (x := 4) (q := 69) H I_X8_readMore_68 (by decide) rfl
    have W := i_ic_ne (t := 102) (q := 72) H I_X8_readMore_69 (by decide) rfl
    clear H
    rcases W with ⟨c_69, H⟩ | ⟨c_69, H⟩
    · skip
      replace H := i_iln (q := 103) H I_X8_readMore_102 rfl rfl
      replace H := i_icst (x := 5) (q := 104) H I_X8_readMore_103 (by decide) rfl
      have W := i_ic_ne (t := 127) (q := 107) H I_X8_readMore_104 (by decide) rfl
      clear H
      rcases W with ⟨c_104, H⟩ | ⟨c_104, H⟩
      · skip
        replace H := i_aln (q := 128) H I_X8_readMore_127 rfl rfl
        have W := i_cv0 1 (q := 131) H I_X8_readMore_128 K_8_110 Zm_122 rfl rfl
        clear H
        obtain ⟨r1, h1, Hc, K1, K2⟩ := W
        obtain ⟨M_128, e1, e2, F_128⟩ := rp_plan (n := n) 8 0 _ _ _ m g sb p rfl hE hC hV hg Hc
        have H := K2 _ e1 e2
        clear e1 e2 Hc K1 K2
        obtain ⟨hr, hh⟩ := i_rt H I_X8_readMore_131
        obtain ⟨g1, g2⟩ := F_128
        rw [show pMore (m 75) n (c, g, sT, true, sb) 6 p = pPlM (m 75) n c sT 9 0 g sb p by rw [pMore, if_neg (show ¬ 6 < 4 by omega), if_neg (show ¬ 6 = 4 by omega), if_neg (show ¬ 6 = 5 by omega)]]
        exact ⟨_, hr, hh, g1, g2⟩
      · exact absurd c_104 (by decide)
    · exact absurd c_69 (by decide)
  · exact absurd (by decide) c_2
