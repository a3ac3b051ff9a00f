/-! the class's plan and line -/
theorem It_X2_readLine : zm_X2_readLine.2.2.2.2.2 = zt_X2_readLine := by
  unfold zm_X2_readLine
  rfl
theorem It_X2_readPlan : zm_X2_readPlan.2.2.2.2.2 = zt_X2_readPlan := by
  unfold zm_X2_readPlan
  rfl
theorem I_X2_readLine_0 : zin zm_X2_readLine.2.2.2.2.2 0 = some (.aload_n 0, 1) := by rw [It_X2_readLine]; rfl
theorem I_X2_readLine_1 : zin zm_X2_readLine.2.2.2.2.2 1 = some (.getfield 51, 3) := by rw [It_X2_readLine]; rfl
theorem I_X2_readLine_4 : zin zm_X2_readLine.2.2.2.2.2 4 = some (.iconst 1, 1) := by rw [It_X2_readLine]; rfl
theorem I_X2_readLine_5 : zin zm_X2_readLine.2.2.2.2.2 5 = some (.if_icmp .eq 8, 3) := by rw [It_X2_readLine]; rfl
theorem I_X2_readLine_8 : zin zm_X2_readLine.2.2.2.2.2 8 = some (.aload_n 0, 1) := by rw [It_X2_readLine]; rfl
theorem I_X2_readLine_9 : zin zm_X2_readLine.2.2.2.2.2 9 = some (.invokevirtual 82, 3) := by rw [It_X2_readLine]; rfl
theorem I_X2_readLine_12 : zin zm_X2_readLine.2.2.2.2.2 12 = some (.ireturn, 1) := by rw [It_X2_readLine]; rfl
theorem I_X2_readLine_13 : zin zm_X2_readLine.2.2.2.2.2 13 = some (.aload_n 0, 1) := by rw [It_X2_readLine]; rfl
theorem I_X2_readLine_14 : zin zm_X2_readLine.2.2.2.2.2 14 = some (.invokevirtual 85, 3) := by rw [It_X2_readLine]; rfl
theorem I_X2_readLine_17 : zin zm_X2_readLine.2.2.2.2.2 17 = some (.istore_n 1, 1) := by rw [It_X2_readLine]; rfl
theorem I_X2_readLine_18 : zin zm_X2_readLine.2.2.2.2.2 18 = some (.iload_n 1, 1) := by rw [It_X2_readLine]; rfl
theorem I_X2_readLine_19 : zin zm_X2_readLine.2.2.2.2.2 19 = some (.tableswitch 62 0 6 #[41, 41, 41, 41, 47, 52, 57], 41) := by rw [It_X2_readLine]; rfl
theorem I_X2_readLine_60 : zin zm_X2_readLine.2.2.2.2.2 60 = some (.aload_n 0, 1) := by rw [It_X2_readLine]; rfl
theorem I_X2_readLine_61 : zin zm_X2_readLine.2.2.2.2.2 61 = some (.iload_n 1, 1) := by rw [It_X2_readLine]; rfl
theorem I_X2_readLine_62 : zin zm_X2_readLine.2.2.2.2.2 62 = some (.invokevirtual 89, 3) := by rw [It_X2_readLine]; rfl
theorem I_X2_readLine_65 : zin zm_X2_readLine.2.2.2.2.2 65 = some (.ireturn, 1) := by rw [It_X2_readLine]; rfl
theorem I_X2_readLine_66 : zin zm_X2_readLine.2.2.2.2.2 66 = some (.aload_n 0, 1) := by rw [It_X2_readLine]; rfl
theorem I_X2_readLine_67 : zin zm_X2_readLine.2.2.2.2.2 67 = some (.invokevirtual 93, 3) := by rw [It_X2_readLine]; rfl
theorem I_X2_readLine_70 : zin zm_X2_readLine.2.2.2.2.2 70 = some (.ireturn, 1) := by rw [It_X2_readLine]; rfl
theorem I_X2_readLine_71 : zin zm_X2_readLine.2.2.2.2.2 71 = some (.aload_n 0, 1) := by rw [It_X2_readLine]; rfl
theorem I_X2_readLine_72 : zin zm_X2_readLine.2.2.2.2.2 72 = some (.invokevirtual 96, 3) := by rw [It_X2_readLine]; rfl
theorem I_X2_readLine_75 : zin zm_X2_readLine.2.2.2.2.2 75 = some (.ireturn, 1) := by rw [It_X2_readLine]; rfl
theorem I_X2_readLine_76 : zin zm_X2_readLine.2.2.2.2.2 76 = some (.aload_n 0, 1) := by rw [It_X2_readLine]; rfl
theorem I_X2_readLine_77 : zin zm_X2_readLine.2.2.2.2.2 77 = some (.invokevirtual 99, 3) := by rw [It_X2_readLine]; rfl
theorem I_X2_readLine_80 : zin zm_X2_readLine.2.2.2.2.2 80 = some (.ireturn, 1) := by rw [It_X2_readLine]; rfl
theorem I_X2_readLine_81 : zin zm_X2_readLine.2.2.2.2.2 81 = some (.aload_n 0, 1) := by rw [It_X2_readLine]; rfl
theorem I_X2_readLine_82 : zin zm_X2_readLine.2.2.2.2.2 82 = some (.iconst 2, 1) := by rw [It_X2_readLine]; rfl
theorem I_X2_readLine_83 : zin zm_X2_readLine.2.2.2.2.2 83 = some (.aload_n 0, 1) := by rw [It_X2_readLine]; rfl
theorem I_X2_readLine_84 : zin zm_X2_readLine.2.2.2.2.2 84 = some (.getfield 102, 3) := by rw [It_X2_readLine]; rfl
theorem I_X2_readLine_87 : zin zm_X2_readLine.2.2.2.2.2 87 = some (.invokevirtual 74, 3) := by rw [It_X2_readLine]; rfl
theorem I_X2_readLine_90 : zin zm_X2_readLine.2.2.2.2.2 90 = some (.ireturn, 1) := by rw [It_X2_readLine]; rfl
theorem I_X2_readPlan_0 : zin zm_X2_readPlan.2.2.2.2.2 0 = some (.aload_n 0, 1) := by rw [It_X2_readPlan]; rfl
theorem I_X2_readPlan_1 : zin zm_X2_readPlan.2.2.2.2.2 1 = some (.getfield 45, 3) := by rw [It_X2_readPlan]; rfl
theorem I_X2_readPlan_4 : zin zm_X2_readPlan.2.2.2.2.2 4 = some (.ifCond .eq 13, 3) := by rw [It_X2_readPlan]; rfl
theorem I_X2_readPlan_7 : zin zm_X2_readPlan.2.2.2.2.2 7 = some (.aload_n 0, 1) := by rw [It_X2_readPlan]; rfl
theorem I_X2_readPlan_8 : zin zm_X2_readPlan.2.2.2.2.2 8 = some (.iconst 4, 1) := by rw [It_X2_readPlan]; rfl
theorem I_X2_readPlan_9 : zin zm_X2_readPlan.2.2.2.2.2 9 = some (.aload_n 0, 1) := by rw [It_X2_readPlan]; rfl
theorem I_X2_readPlan_10 : zin zm_X2_readPlan.2.2.2.2.2 10 = some (.getfield 102, 3) := by rw [It_X2_readPlan]; rfl
theorem I_X2_readPlan_13 : zin zm_X2_readPlan.2.2.2.2.2 13 = some (.invokevirtual 74, 3) := by rw [It_X2_readPlan]; rfl
theorem I_X2_readPlan_16 : zin zm_X2_readPlan.2.2.2.2.2 16 = some (.ireturn, 1) := by rw [It_X2_readPlan]; rfl
theorem I_X2_readPlan_17 : zin zm_X2_readPlan.2.2.2.2.2 17 = some (.aload_n 0, 1) := by rw [It_X2_readPlan]; rfl
theorem I_X2_readPlan_18 : zin zm_X2_readPlan.2.2.2.2.2 18 = some (.iconst 1, 1) := by rw [It_X2_readPlan]; rfl
theorem I_X2_readPlan_19 : zin zm_X2_readPlan.2.2.2.2.2 19 = some (.putfield 45, 3) := by rw [It_X2_readPlan]; rfl
theorem I_X2_readPlan_22 : zin zm_X2_readPlan.2.2.2.2.2 22 = some (.iconst 0, 1) := by rw [It_X2_readPlan]; rfl
theorem I_X2_readPlan_23 : zin zm_X2_readPlan.2.2.2.2.2 23 = some (.istore_n 1, 1) := by rw [It_X2_readPlan]; rfl
theorem I_X2_readPlan_24 : zin zm_X2_readPlan.2.2.2.2.2 24 = some (.iload_n 1, 1) := by rw [It_X2_readPlan]; rfl
theorem I_X2_readPlan_25 : zin zm_X2_readPlan.2.2.2.2.2 25 = some (.bipush 8, 2) := by rw [It_X2_readPlan]; rfl
theorem I_X2_readPlan_27 : zin zm_X2_readPlan.2.2.2.2.2 27 = some (.if_icmp .gt 94, 3) := by rw [It_X2_readPlan]; rfl
theorem I_X2_readPlan_30 : zin zm_X2_readPlan.2.2.2.2.2 30 = some (.aload_n 0, 1) := by rw [It_X2_readPlan]; rfl
theorem I_X2_readPlan_31 : zin zm_X2_readPlan.2.2.2.2.2 31 = some (.invokevirtual 48, 3) := by rw [It_X2_readPlan]; rfl
theorem I_X2_readPlan_34 : zin zm_X2_readPlan.2.2.2.2.2 34 = some (.aload_n 0, 1) := by rw [It_X2_readPlan]; rfl
theorem I_X2_readPlan_35 : zin zm_X2_readPlan.2.2.2.2.2 35 = some (.getfield 51, 3) := by rw [It_X2_readPlan]; rfl
theorem I_X2_readPlan_38 : zin zm_X2_readPlan.2.2.2.2.2 38 = some (.iconst 3, 1) := by rw [It_X2_readPlan]; rfl
theorem I_X2_readPlan_39 : zin zm_X2_readPlan.2.2.2.2.2 39 = some (.if_icmp .ne 5, 3) := by rw [It_X2_readPlan]; rfl
theorem I_X2_readPlan_42 : zin zm_X2_readPlan.2.2.2.2.2 42 = some (.iconst 1, 1) := by rw [It_X2_readPlan]; rfl
theorem I_X2_readPlan_43 : zin zm_X2_readPlan.2.2.2.2.2 43 = some (.ireturn, 1) := by rw [It_X2_readPlan]; rfl
theorem I_X2_readPlan_44 : zin zm_X2_readPlan.2.2.2.2.2 44 = some (.aload_n 0, 1) := by rw [It_X2_readPlan]; rfl
theorem I_X2_readPlan_45 : zin zm_X2_readPlan.2.2.2.2.2 45 = some (.getfield 51, 3) := by rw [It_X2_readPlan]; rfl
theorem I_X2_readPlan_48 : zin zm_X2_readPlan.2.2.2.2.2 48 = some (.iconst 2, 1) := by rw [It_X2_readPlan]; rfl
theorem I_X2_readPlan_49 : zin zm_X2_readPlan.2.2.2.2.2 49 = some (.if_icmp .eq 8, 3) := by rw [It_X2_readPlan]; rfl
theorem I_X2_readPlan_52 : zin zm_X2_readPlan.2.2.2.2.2 52 = some (.aload_n 0, 1) := by rw [It_X2_readPlan]; rfl
theorem I_X2_readPlan_53 : zin zm_X2_readPlan.2.2.2.2.2 53 = some (.invokevirtual 82, 3) := by rw [It_X2_readPlan]; rfl
theorem I_X2_readPlan_56 : zin zm_X2_readPlan.2.2.2.2.2 56 = some (.ireturn, 1) := by rw [It_X2_readPlan]; rfl
theorem I_X2_readPlan_57 : zin zm_X2_readPlan.2.2.2.2.2 57 = some (.iload_n 1, 1) := by rw [It_X2_readPlan]; rfl
theorem I_X2_readPlan_58 : zin zm_X2_readPlan.2.2.2.2.2 58 = some (.bipush 8, 2) := by rw [It_X2_readPlan]; rfl
theorem I_X2_readPlan_60 : zin zm_X2_readPlan.2.2.2.2.2 60 = some (.if_icmp .lt 13, 3) := by rw [It_X2_readPlan]; rfl
theorem I_X2_readPlan_63 : zin zm_X2_readPlan.2.2.2.2.2 63 = some (.aload_n 0, 1) := by rw [It_X2_readPlan]; rfl
theorem I_X2_readPlan_64 : zin zm_X2_readPlan.2.2.2.2.2 64 = some (.iconst 5, 1) := by rw [It_X2_readPlan]; rfl
theorem I_X2_readPlan_65 : zin zm_X2_readPlan.2.2.2.2.2 65 = some (.aload_n 0, 1) := by rw [It_X2_readPlan]; rfl
theorem I_X2_readPlan_66 : zin zm_X2_readPlan.2.2.2.2.2 66 = some (.getfield 102, 3) := by rw [It_X2_readPlan]; rfl
theorem I_X2_readPlan_69 : zin zm_X2_readPlan.2.2.2.2.2 69 = some (.invokevirtual 74, 3) := by rw [It_X2_readPlan]; rfl
theorem I_X2_readPlan_72 : zin zm_X2_readPlan.2.2.2.2.2 72 = some (.ireturn, 1) := by rw [It_X2_readPlan]; rfl
theorem I_X2_readPlan_73 : zin zm_X2_readPlan.2.2.2.2.2 73 = some (.aload_n 0, 1) := by rw [It_X2_readPlan]; rfl
theorem I_X2_readPlan_74 : zin zm_X2_readPlan.2.2.2.2.2 74 = some (.getfield 105, 3) := by rw [It_X2_readPlan]; rfl
theorem I_X2_readPlan_77 : zin zm_X2_readPlan.2.2.2.2.2 77 = some (.bipush 31, 2) := by rw [It_X2_readPlan]; rfl
theorem I_X2_readPlan_79 : zin zm_X2_readPlan.2.2.2.2.2 79 = some (.if_icmp .le 13, 3) := by rw [It_X2_readPlan]; rfl
theorem I_X2_readPlan_82 : zin zm_X2_readPlan.2.2.2.2.2 82 = some (.aload_n 0, 1) := by rw [It_X2_readPlan]; rfl
theorem I_X2_readPlan_83 : zin zm_X2_readPlan.2.2.2.2.2 83 = some (.iconst 3, 1) := by rw [It_X2_readPlan]; rfl
theorem I_X2_readPlan_84 : zin zm_X2_readPlan.2.2.2.2.2 84 = some (.aload_n 0, 1) := by rw [It_X2_readPlan]; rfl
theorem I_X2_readPlan_85 : zin zm_X2_readPlan.2.2.2.2.2 85 = some (.getfield 102, 3) := by rw [It_X2_readPlan]; rfl
theorem I_X2_readPlan_88 : zin zm_X2_readPlan.2.2.2.2.2 88 = some (.invokevirtual 74, 3) := by rw [It_X2_readPlan]; rfl
theorem I_X2_readPlan_91 : zin zm_X2_readPlan.2.2.2.2.2 91 = some (.ireturn, 1) := by rw [It_X2_readPlan]; rfl
theorem I_X2_readPlan_92 : zin zm_X2_readPlan.2.2.2.2.2 92 = some (.aload_n 0, 1) := by rw [It_X2_readPlan]; rfl
theorem I_X2_readPlan_93 : zin zm_X2_readPlan.2.2.2.2.2 93 = some (.getfield 18, 3) := by rw [It_X2_readPlan]; rfl
theorem I_X2_readPlan_96 : zin zm_X2_readPlan.2.2.2.2.2 96 = some (.getfield 64, 3) := by rw [It_X2_readPlan]; rfl
theorem I_X2_readPlan_99 : zin zm_X2_readPlan.2.2.2.2.2 99 = some (.iload_n 1, 1) := by rw [It_X2_readPlan]; rfl
theorem I_X2_readPlan_100 : zin zm_X2_readPlan.2.2.2.2.2 100 = some (.aload_n 0, 1) := by rw [It_X2_readPlan]; rfl
theorem I_X2_readPlan_101 : zin zm_X2_readPlan.2.2.2.2.2 101 = some (.getfield 105, 3) := by rw [It_X2_readPlan]; rfl
theorem I_X2_readPlan_104 : zin zm_X2_readPlan.2.2.2.2.2 104 = some (.iastore, 1) := by rw [It_X2_readPlan]; rfl
theorem I_X2_readPlan_105 : zin zm_X2_readPlan.2.2.2.2.2 105 = some (.aload_n 0, 1) := by rw [It_X2_readPlan]; rfl
theorem I_X2_readPlan_106 : zin zm_X2_readPlan.2.2.2.2.2 106 = some (.getfield 18, 3) := by rw [It_X2_readPlan]; rfl
theorem I_X2_readPlan_109 : zin zm_X2_readPlan.2.2.2.2.2 109 = some (.iload_n 1, 1) := by rw [It_X2_readPlan]; rfl
theorem I_X2_readPlan_110 : zin zm_X2_readPlan.2.2.2.2.2 110 = some (.iconst 1, 1) := by rw [It_X2_readPlan]; rfl
theorem I_X2_readPlan_111 : zin zm_X2_readPlan.2.2.2.2.2 111 = some (.iadd, 1) := by rw [It_X2_readPlan]; rfl
theorem I_X2_readPlan_112 : zin zm_X2_readPlan.2.2.2.2.2 112 = some (.putfield 61, 3) := by rw [It_X2_readPlan]; rfl
theorem I_X2_readPlan_115 : zin zm_X2_readPlan.2.2.2.2.2 115 = some (.iinc 1 1, 3) := by rw [It_X2_readPlan]; rfl
theorem I_X2_readPlan_118 : zin zm_X2_readPlan.2.2.2.2.2 118 = some (.goto (-94), 3) := by rw [It_X2_readPlan]; rfl
theorem I_X2_readPlan_121 : zin zm_X2_readPlan.2.2.2.2.2 121 = some (.iconst 0, 1) := by rw [It_X2_readPlan]; rfl
theorem I_X2_readPlan_122 : zin zm_X2_readPlan.2.2.2.2.2 122 = some (.ireturn, 1) := by rw [It_X2_readPlan]; rfl
theorem G_2_45 : zlk zfls 2 45 = some (2, 12, 169) := rfl
theorem G_2_61 : zlk zfls 2 61 = some (0, 3, 131) := rfl
theorem G_2_64 : zlk zfls 2 64 = some (0, 1, 123) := rfl
theorem K_2_85 : zlk zmls 2 85 = some (0, 40, 0, 377) := rfl
theorem K_2_89 : zlk zmls 2 89 = some (0, 33, 1, 443) := rfl
theorem K_2_93 : zlk zmls 2 93 = some (0, 34, 0, 459) := rfl
theorem K_2_96 : zlk zmls 2 96 = some (0, 35, 0, 463) := rfl
theorem K_2_99 : zlk zmls 2 99 = some (0, 36, 0, 467) := rfl
theorem Zm_33 : zms[33]? = some zm_X2_readOne := rfl
theorem Zm_34 : zms[34]? = some zm_X2_readLeft := rfl
theorem Zm_35 : zms[35]? = some zm_X2_readSlack := rfl
theorem Zm_36 : zms[36]? = some zm_X2_readPlan := rfl
theorem Zm_40 : zms[40]? = some zm_X2_word := rfl
theorem LY_5 : zLY[5]? = some (Sum.inl 0, List.replicate 8 none) := rfl
theorem cl_X2_readLine : zm_X2_readLine.2.2.2.2.1 = 2 := by
  unfold zm_X2_readLine
  rfl
theorem cn_X2_readLine : zm_X2_readLine.2.2.2.2.1 ≠ 12 := by
  rw [cl_X2_readLine]
  decide
theorem cl_X2_readPlan : zm_X2_readPlan.2.2.2.2.1 = 2 := by
  unfold zm_X2_readPlan
  rfl
theorem cn_X2_readPlan : zm_X2_readPlan.2.2.2.2.1 ≠ 12 := by
  rw [cl_X2_readPlan]
  decide
def zrb (x : zPr) : Int32 := match x with
  | .inl _ => 0
  | .inr _ => 1
theorem cR_v {m1 : zM} {r : Option Value} {x : zPr} (h : cR m1 r x) : r = some (.int (zrb x)) := by
  match x, h with
  | .inl f, h => exact h.1
  | .inr q, h => exact h.1
theorem cR_r {m1 : zM} {r r1 : Option Value} {x : zPr} (hr : r = some (.int (zrb x))) (h : cR m1 r1 x) : cR m1 r x := by
  match x, h, hr with
  | .inl f, h, hr => exact ⟨hr, h.2⟩
  | .inr q, h, hr => exact ⟨hr, h.2⟩
theorem rp_loop {n c : Nat} {sT : Bool} : ∀ (j a d : Nat) (r : Option Value) (h' : zHp) (m : zM) (g : Nat → Int32) (sb : Int32) (p : Nat), a + (j + 1) = 9 → zPl m n p → cV m c g sT true sb → g 26 = Int32.ofNat a → zE none d zm_X2_readPlan 24 [.ref 1, .int (Int32.ofNat a)] [] m r h' → ∃ m1, h' = zhp m1 ∧ zfC m m1 ∧ cR m1 r (pPl (m 2) n c sT (j + 1) a g sb p) := by
  intro j
  induction j with
  | zero =>
    intro a d r h' m g sb p hj hq hV hg H
    replace H := i_iln (q := 25) H I_X2_readPlan_24 rfl rfl
    replace H := i_bip (x := 8) (q := 27) H I_X2_readPlan_25 (by decide) rfl
    have W := i_ic_gt (t := 121) (q := 30) H I_X2_readPlan_27 (by decide) rfl
    clear H
    rcases W with ⟨c_27, H⟩ | ⟨c_27, H⟩
    · skip
      replace H := i_icst (x := 0) (q := 122) H I_X2_readPlan_121 (by decide) rfl
      obtain ⟨hr, hh⟩ := i_ir H I_X2_readPlan_122
      exfalso
      exact absurd ((zofn_lt (i := 8) (by decide) (by omega)).mp c_27) (by omega)
    · skip
      replace H := i_aln (q := 31) H I_X2_readPlan_30 rfl rfl
      have W := i_cv0 1 (q := 34) H I_X2_readPlan_31 K_2_48 Zm_37 rfl rfl
      clear H
      obtain ⟨r1, h1, Hc, K1, K2⟩ := W
      obtain ⟨M_31, e1, e2, F_31⟩ := t_X2_next (n := n) (p := p) hq.1 hq.2.1 hq.2.2.1 hq.2.2.2 Hc
      have H := K2 _ e1 e2
      clear e1 e2 Hc K1 K2
      replace H := i_aln (q := 35) H I_X2_readPlan_34 rfl rfl
      replace H := i_gfi (q := 38) H I_X2_readPlan_35 G_2_51 cn_X2_readPlan LY_1 rfl rfl
      replace H := i_icst (x := 3) (q := 39) H I_X2_readPlan_38 (by decide) rfl
      have W := i_ic_ne (t := 44) (q := 42) H I_X2_readPlan_39 (by decide) rfl
      clear H
      rcases W with ⟨c_39, H⟩ | ⟨c_39, H⟩
      · skip
        replace H := i_aln (q := 45) H I_X2_readPlan_44 rfl rfl
        replace H := i_gfi (q := 48) H I_X2_readPlan_45 G_2_51 cn_X2_readPlan LY_1 rfl rfl
        replace H := i_icst (x := 2) (q := 49) H I_X2_readPlan_48 (by decide) rfl
        have W := i_ic_eq (t := 57) (q := 52) H I_X2_readPlan_49 (by decide) rfl
        clear H
        rcases W with ⟨c_49, H⟩ | ⟨c_49, H⟩
        · skip
          replace H := i_iln (q := 58) H I_X2_readPlan_57 rfl rfl
          replace H := i_bip (x := 8) (q := 60) H I_X2_readPlan_58 (by decide) rfl
          have W := i_ic_lt (t := 73) (q := 63) H I_X2_readPlan_60 (by decide) rfl
          clear H
          rcases W with ⟨c_60, H⟩ | ⟨c_60, H⟩
          · skip
            replace H := i_aln (q := 74) H I_X2_readPlan_73 rfl rfl
            replace H := i_gfi (q := 77) H I_X2_readPlan_74 G_2_105 cn_X2_readPlan LY_1 rfl rfl
            replace H := i_bip (x := 31) (q := 79) H I_X2_readPlan_77 (by decide) rfl
            have W := i_ic_le (t := 92) (q := 82) H I_X2_readPlan_79 (by decide) rfl
            clear H
            rcases W with ⟨c_79, H⟩ | ⟨c_79, H⟩
            · skip
              replace H := i_aln (q := 93) H I_X2_readPlan_92 rfl rfl
              replace H := i_gfr (q := 96) H I_X2_readPlan_93 G_2_18 cn_X2_readPlan LY_1 rfl rfl
              replace H := i_gfr (q := 99) H I_X2_readPlan_96 G_2_64 cn_X2_readPlan LY_3 rfl rfl
              replace H := i_iln (q := 100) H I_X2_readPlan_99 rfl rfl
              replace H := i_aln (q := 101) H I_X2_readPlan_100 rfl rfl
              replace H := i_gfi (q := 104) H I_X2_readPlan_101 G_2_105 cn_X2_readPlan LY_1 rfl rfl
              have W := i_iast (q := 105) H I_X2_readPlan_104 LY_5 rfl
              clear H
              obtain ⟨i_104, bi_104, ei_104, H⟩ := W
              replace H := i_aln (q := 106) H I_X2_readPlan_105 rfl rfl
              replace H := i_gfr (q := 109) H I_X2_readPlan_106 G_2_18 cn_X2_readPlan LY_1 rfl rfl
              replace H := i_iln (q := 110) H I_X2_readPlan_109 rfl rfl
              replace H := i_icst (x := 1) (q := 111) H I_X2_readPlan_110 (by decide) rfl
              replace H := i_iadd (q := 112) H I_X2_readPlan_111 rfl
              replace H := i_pf (q := 115) H I_X2_readPlan_112 G_2_61 cn_X2_readPlan LY_3 rfl rfl
              replace H := i_inc (q := 118) H I_X2_readPlan_115 rfl rfl rfl
              replace H := i_goto (q := 24) H I_X2_readPlan_118 (by decide)
              have h8 : a < 8 := (zofn_lt (j := 8) (by omega) (by decide)).mp c_60
              omega
            · skip
              replace H := i_aln (q := 83) H I_X2_readPlan_82 rfl rfl
              replace H := i_icst (x := 3) (q := 84) H I_X2_readPlan_83 (by decide) rfl
              replace H := i_aln (q := 85) H I_X2_readPlan_84 rfl rfl
              replace H := i_gfi (q := 88) H I_X2_readPlan_85 G_2_102 cn_X2_readPlan LY_1 rfl rfl
              have W := i_cv2 0 (q := 91) H I_X2_readPlan_88 K_2_74 Zm_27 rfl rfl
              clear H
              obtain ⟨r1, h1, Hc, K1, K2⟩ := W
              obtain ⟨e1, e2⟩ := t_X2_fail Hc
              have H := K1 _ _ e1 e2
              clear e1 e2 Hc K1 K2
              obtain ⟨hr, hh⟩ := i_ir H I_X2_readPlan_91
              have h8 : a < 8 := (zofn_lt (j := 8) (by omega) (by decide)).mp c_60
              omega
          · skip
            replace H := i_aln (q := 64) H I_X2_readPlan_63 rfl rfl
            replace H := i_icst (x := 5) (q := 65) H I_X2_readPlan_64 (by decide) rfl
            replace H := i_aln (q := 66) H I_X2_readPlan_65 rfl rfl
            replace H := i_gfi (q := 69) H I_X2_readPlan_66 G_2_102 cn_X2_readPlan LY_1 rfl rfl
            have W := i_cv2 0 (q := 72) H I_X2_readPlan_69 K_2_74 Zm_27 rfl rfl
            clear H
            obtain ⟨r1, h1, Hc, K1, K2⟩ := W
            obtain ⟨e1, e2⟩ := t_X2_fail Hc
            have H := K1 _ _ e1 e2
            clear e1 e2 Hc K1 K2
            obtain ⟨hr, hh⟩ := i_ir H I_X2_readPlan_72
            obtain ⟨f6, f7, f8, f9, ff⟩ := F_31
            have f49 : zf49 m M_31 := fun a b hab => ff a b (by omega)
            rw [f7] at c_39
            rw [f7] at c_49
            have h8 : 8 ≤ a := Nat.le_of_not_lt (fun w => c_60 ((zofn_lt (j := 8) (by omega) (by decide)).mpr w))
            rw [f8] at hh
            refine ⟨_, hh, zfC_t (zfC_4 f49) (fun a b x y => by rw [zup_n (by omega), zup_n (by omega)]), ?_⟩
            rw [show pPl (m 2) n c sT (0 + 1) a g sb p = .inl (5, tS (m 2) n p) by rw [pPl, if_neg c_39, if_pos c_49, if_pos h8]]
            exact ⟨hr, by rw [zup_n (by omega), zup_s], by rw [zup_s]⟩
        · skip
          replace H := i_aln (q := 53) H I_X2_readPlan_52 rfl rfl
          have W := i_cv0 0 (q := 56) H I_X2_readPlan_53 K_2_82 Zm_30 rfl rfl
          clear H
          obtain ⟨r1, h1, Hc, K1, K2⟩ := W
          obtain ⟨e1, e2⟩ := t_X2_failToken Hc
          have H := K1 _ _ e1 e2
          clear e1 e2 Hc K1 K2
          obtain ⟨hr, hh⟩ := i_ir H I_X2_readPlan_56
          obtain ⟨f6, f7, f8, f9, ff⟩ := F_31
          have f49 : zf49 m M_31 := fun a b hab => ff a b (by omega)
          rw [f7] at c_39
          rw [f7] at c_49
          rw [f7, f8] at hh
          refine ⟨_, hh, zfC_t (zfC_4 f49) (fun a b x y => by rw [zup_n (by omega), zup_n (by omega)]), ?_⟩
          rw [show pPl (m 2) n c sT (0 + 1) a g sb p = .inl (zft (m 2) n p) by simp [pPl, c_39, c_49]]
          exact ⟨hr, by rw [zup_n (by omega), zup_s]; rfl, by rw [zup_s]; rfl⟩
      · skip
        replace H := i_icst (x := 1) (q := 43) H I_X2_readPlan_42 (by decide) rfl
        obtain ⟨hr, hh⟩ := i_ir H I_X2_readPlan_43
        obtain ⟨f6, f7, f8, f9, ff⟩ := F_31
        have f49 : zf49 m M_31 := fun a b hab => ff a b (by omega)
        rw [f7] at c_39
        refine ⟨_, hh, zfC_4 f49, ?_⟩
        rw [show pPl (m 2) n c sT (0 + 1) a g sb p = .inr ((c, g, sT, true, sb), tN (m 2) n p) by simp [pPl, c_39]]
        exact ⟨hr, cV_f hV f49 (ff 1 4 (by omega)), f6, Nat.le_trans (tN_le hq.2.2.2) hq.2.1⟩
  | succ j ih =>
    intro a d r h' m g sb p hj hq hV hg H
    replace H := i_iln (q := 25) H I_X2_readPlan_24 rfl rfl
    replace H := i_bip (x := 8) (q := 27) H I_X2_readPlan_25 (by decide) rfl
    have W := i_ic_gt (t := 121) (q := 30) H I_X2_readPlan_27 (by decide) rfl
    clear H
    rcases W with ⟨c_27, H⟩ | ⟨c_27, H⟩
    · skip
      replace H := i_icst (x := 0) (q := 122) H I_X2_readPlan_121 (by decide) rfl
      obtain ⟨hr, hh⟩ := i_ir H I_X2_readPlan_122
      exfalso
      exact absurd ((zofn_lt (i := 8) (by decide) (by omega)).mp c_27) (by omega)
    · skip
      replace H := i_aln (q := 31) H I_X2_readPlan_30 rfl rfl
      have W := i_cv0 1 (q := 34) H I_X2_readPlan_31 K_2_48 Zm_37 rfl rfl
      clear H
      obtain ⟨r1, h1, Hc, K1, K2⟩ := W
      obtain ⟨M_31, e1, e2, F_31⟩ := t_X2_next (n := n) (p := p) hq.1 hq.2.1 hq.2.2.1 hq.2.2.2 Hc
      have H := K2 _ e1 e2
      clear e1 e2 Hc K1 K2
      replace H := i_aln (q := 35) H I_X2_readPlan_34 rfl rfl
      replace H := i_gfi (q := 38) H I_X2_readPlan_35 G_2_51 cn_X2_readPlan LY_1 rfl rfl
      replace H := i_icst (x := 3) (q := 39) H I_X2_readPlan_38 (by decide) rfl
      have W := i_ic_ne (t := 44) (q := 42) H I_X2_readPlan_39 (by decide) rfl
      clear H
      rcases W with ⟨c_39, H⟩ | ⟨c_39, H⟩
      · skip
        replace H := i_aln (q := 45) H I_X2_readPlan_44 rfl rfl
        replace H := i_gfi (q := 48) H I_X2_readPlan_45 G_2_51 cn_X2_readPlan LY_1 rfl rfl
        replace H := i_icst (x := 2) (q := 49) H I_X2_readPlan_48 (by decide) rfl
        have W := i_ic_eq (t := 57) (q := 52) H I_X2_readPlan_49 (by decide) rfl
        clear H
        rcases W with ⟨c_49, H⟩ | ⟨c_49, H⟩
        · skip
          replace H := i_iln (q := 58) H I_X2_readPlan_57 rfl rfl
          replace H := i_bip (x := 8) (q := 60) H I_X2_readPlan_58 (by decide) rfl
          have W := i_ic_lt (t := 73) (q := 63) H I_X2_readPlan_60 (by decide) rfl
          clear H
          rcases W with ⟨c_60, H⟩ | ⟨c_60, H⟩
          · skip
            replace H := i_aln (q := 74) H I_X2_readPlan_73 rfl rfl
            replace H := i_gfi (q := 77) H I_X2_readPlan_74 G_2_105 cn_X2_readPlan LY_1 rfl rfl
            replace H := i_bip (x := 31) (q := 79) H I_X2_readPlan_77 (by decide) rfl
            have W := i_ic_le (t := 92) (q := 82) H I_X2_readPlan_79 (by decide) rfl
            clear H
            rcases W with ⟨c_79, H⟩ | ⟨c_79, H⟩
            · skip
              replace H := i_aln (q := 93) H I_X2_readPlan_92 rfl rfl
              replace H := i_gfr (q := 96) H I_X2_readPlan_93 G_2_18 cn_X2_readPlan LY_1 rfl rfl
              replace H := i_gfr (q := 99) H I_X2_readPlan_96 G_2_64 cn_X2_readPlan LY_3 rfl rfl
              replace H := i_iln (q := 100) H I_X2_readPlan_99 rfl rfl
              replace H := i_aln (q := 101) H I_X2_readPlan_100 rfl rfl
              replace H := i_gfi (q := 104) H I_X2_readPlan_101 G_2_105 cn_X2_readPlan LY_1 rfl rfl
              have W := i_iast (q := 105) H I_X2_readPlan_104 LY_5 rfl
              clear H
              obtain ⟨i_104, bi_104, ei_104, H⟩ := W
              replace H := i_aln (q := 106) H I_X2_readPlan_105 rfl rfl
              replace H := i_gfr (q := 109) H I_X2_readPlan_106 G_2_18 cn_X2_readPlan LY_1 rfl rfl
              replace H := i_iln (q := 110) H I_X2_readPlan_109 rfl rfl
              replace H := i_icst (x := 1) (q := 111) H I_X2_readPlan_110 (by decide) rfl
              replace H := i_iadd (q := 112) H I_X2_readPlan_111 rfl
              replace H := i_pf (q := 115) H I_X2_readPlan_112 G_2_61 cn_X2_readPlan LY_3 rfl rfl
              replace H := i_inc (q := 118) H I_X2_readPlan_115 rfl rfl rfl
              replace H := i_goto (q := 24) H I_X2_readPlan_118 (by decide)
              obtain ⟨f6, f7, f8, f9, ff⟩ := F_31
              have f49 : zf49 m M_31 := fun a b hab => ff a b (by omega)
              rw [f7] at c_39
              rw [f7] at c_49
              have h8 : a < 8 := (zofn_lt (j := 8) (by omega) (by decide)).mp c_60
              rw [f9 c_49] at c_79
              have ea : a = i_104 := zofn ei_104 (by omega) (by omega)
              subst ea
              rw [f9 c_49, zofn_1] at H
              replace H : zE none d zm_X2_readPlan 24 [.ref 1, .int (Int32.ofNat (a + 1))] [] (zup (zup M_31 5 a (tV (m 2) n p)) 3 3 (Int32.ofNat (a + 1))) r h' := by
                rw [zofn_s] at H
                exact H
              have e2 : zup (zup M_31 5 a (tV (m 2) n p)) 3 3 (Int32.ofNat (a + 1)) 2 = m 2 := by
                funext b
                rw [zup_n (by omega), zup_n (by omega), f49 2 b (by omega)]
              obtain ⟨q1, q2, q3, q4, q5, q6, ⟨x, a1, a2, a3, a4, a5, a6⟩, q8, q9, q10⟩ := cV_f hV f49 (ff 1 4 (by omega))
              rw [hg] at a2
              have ex : x = a := zofn a2.symm (by omega) (by omega)
              subst ex
              obtain ⟨m1, g1, g2, g3⟩ := ih (x + 1) d r h' _ (gset (gset g (18 + x) (tV (m 2) n p)) 26 (Int32.ofNat (x + 1))) (sb ||| tV (m 2) n p) (tN (m 2) n p) (by omega) ⟨by rw [zup_n (by omega), zup_n (by omega), f49 1 2 (by omega)]; exact hq.1, hq.2.1, by rw [zup_n (by omega), zup_n (by omega)]; exact f6, tN_le hq.2.2.2⟩ (by
                refine ⟨by rw [zup_n (by omega), zup_n (by omega)]; exact q1, q2, fun i hi => ?_, ?_, ?_, ?_, ⟨x + 1, by omega, by rw [gset_s], by rw [zup_s], fun i hi => ?_, fun w => by simp at w, ?_⟩, ?_, ?_, ?_⟩
                · obtain ⟨y0, y1, y2⟩ := q3 i hi
                  have hi5 : i < 5 := by omega
                  refine ⟨?_, ?_, ?_⟩
                  · rw [zup_n (by omega), zup_n (by omega), gset_n (by omega), gset_n (by omega), y0]
                  · rw [zup_n (by omega), zup_n (by omega), gset_n (by omega), gset_n (by omega), y1]
                  · rw [zup_n (by omega), zup_n (by omega), gset_n (by omega), gset_n (by omega), y2]
                · rw [zup_n (by omega), zup_n (by omega), gset_n (by omega), gset_n (by omega), q4]
                · rw [zup_n (by omega), zup_n (by omega), gset_n (by omega), gset_n (by omega), q5]
                · rw [zup_n (by omega), zup_n (by omega), gset_n (by omega), gset_n (by omega), q6]
                · rw [zup_n (by omega), gset_n (by omega)]
                  by_cases hix : i = x
                  · subst hix
                    rw [zup_s, gset_s]
                  · rw [zup_n (by omega), gset_n (by omega), a4 i (by omega)]
                · show sb ||| tV (m 2) n p = zorf _ x ||| _
                  rw [zup_n (by omega), zup_s, a6]
                  congr 1
                  exact zorf_c (fun i hi => by rw [zup_n (by omega), zup_n (by omega)])
                · rw [zup_n (by omega), zup_n (by omega), q8]
                · rw [zup_n (by omega), zup_n (by omega), q9]
                · rw [zup_n (by omega), zup_n (by omega), q10]) (by rw [gset_s]) H
              refine ⟨m1, g1, zfC_t (zfC_4 f49) (zfC_t (fun a b y z => by rw [zup_n (by omega), zup_n (by omega)]) g2), ?_⟩
              rw [e2] at g3
              rw [pPl, if_neg c_39, if_pos c_49, if_neg (by omega), if_neg c_79]
              exact g3
            · skip
              replace H := i_aln (q := 83) H I_X2_readPlan_82 rfl rfl
              replace H := i_icst (x := 3) (q := 84) H I_X2_readPlan_83 (by decide) rfl
              replace H := i_aln (q := 85) H I_X2_readPlan_84 rfl rfl
              replace H := i_gfi (q := 88) H I_X2_readPlan_85 G_2_102 cn_X2_readPlan LY_1 rfl rfl
              have W := i_cv2 0 (q := 91) H I_X2_readPlan_88 K_2_74 Zm_27 rfl rfl
              clear H
              obtain ⟨r1, h1, Hc, K1, K2⟩ := W
              obtain ⟨e1, e2⟩ := t_X2_fail Hc
              have H := K1 _ _ e1 e2
              clear e1 e2 Hc K1 K2
              obtain ⟨hr, hh⟩ := i_ir H I_X2_readPlan_91
              obtain ⟨f6, f7, f8, f9, ff⟩ := F_31
              have f49 : zf49 m M_31 := fun a b hab => ff a b (by omega)
              rw [f7] at c_39
              rw [f7] at c_49
              have h8 : a < 8 := (zofn_lt (j := 8) (by omega) (by decide)).mp c_60
              rw [f9 c_49] at c_79
              rw [f8] at hh
              refine ⟨_, hh, zfC_t (zfC_4 f49) (fun a b x y => by rw [zup_n (by omega), zup_n (by omega)]), ?_⟩
              rw [show pPl (m 2) n c sT (j + 1 + 1) a g sb p = .inl (3, tS (m 2) n p) by rw [pPl, if_neg c_39, if_pos c_49, if_neg (by omega), if_pos c_79]]
              exact ⟨hr, by rw [zup_n (by omega), zup_s], by rw [zup_s]⟩
          · skip
            replace H := i_aln (q := 64) H I_X2_readPlan_63 rfl rfl
            replace H := i_icst (x := 5) (q := 65) H I_X2_readPlan_64 (by decide) rfl
            replace H := i_aln (q := 66) H I_X2_readPlan_65 rfl rfl
            replace H := i_gfi (q := 69) H I_X2_readPlan_66 G_2_102 cn_X2_readPlan LY_1 rfl rfl
            have W := i_cv2 0 (q := 72) H I_X2_readPlan_69 K_2_74 Zm_27 rfl rfl
            clear H
            obtain ⟨r1, h1, Hc, K1, K2⟩ := W
            obtain ⟨e1, e2⟩ := t_X2_fail Hc
            have H := K1 _ _ e1 e2
            clear e1 e2 Hc K1 K2
            obtain ⟨hr, hh⟩ := i_ir H I_X2_readPlan_72
            obtain ⟨f6, f7, f8, f9, ff⟩ := F_31
            have f49 : zf49 m M_31 := fun a b hab => ff a b (by omega)
            rw [f7] at c_39
            rw [f7] at c_49
            have h8 : 8 ≤ a := Nat.le_of_not_lt (fun w => c_60 ((zofn_lt (j := 8) (by omega) (by decide)).mpr w))
            rw [f8] at hh
            refine ⟨_, hh, zfC_t (zfC_4 f49) (fun a b x y => by rw [zup_n (by omega), zup_n (by omega)]), ?_⟩
            rw [show pPl (m 2) n c sT (j + 1 + 1) a g sb p = .inl (5, tS (m 2) n p) by rw [pPl, if_neg c_39, if_pos c_49, if_pos h8]]
            exact ⟨hr, by rw [zup_n (by omega), zup_s], by rw [zup_s]⟩
        · skip
          replace H := i_aln (q := 53) H I_X2_readPlan_52 rfl rfl
          have W := i_cv0 0 (q := 56) H I_X2_readPlan_53 K_2_82 Zm_30 rfl rfl
          clear H
          obtain ⟨r1, h1, Hc, K1, K2⟩ := W
          obtain ⟨e1, e2⟩ := t_X2_failToken Hc
          have H := K1 _ _ e1 e2
          clear e1 e2 Hc K1 K2
          obtain ⟨hr, hh⟩ := i_ir H I_X2_readPlan_56
          obtain ⟨f6, f7, f8, f9, ff⟩ := F_31
          have f49 : zf49 m M_31 := fun a b hab => ff a b (by omega)
          rw [f7] at c_39
          rw [f7] at c_49
          rw [f7, f8] at hh
          refine ⟨_, hh, zfC_t (zfC_4 f49) (fun a b x y => by rw [zup_n (by omega), zup_n (by omega)]), ?_⟩
          rw [show pPl (m 2) n c sT (j + 1 + 1) a g sb p = .inl (zft (m 2) n p) by simp [pPl, c_39, c_49]]
          exact ⟨hr, by rw [zup_n (by omega), zup_s]; rfl, by rw [zup_s]; rfl⟩
      · skip
        replace H := i_icst (x := 1) (q := 43) H I_X2_readPlan_42 (by decide) rfl
        obtain ⟨hr, hh⟩ := i_ir H I_X2_readPlan_43
        obtain ⟨f6, f7, f8, f9, ff⟩ := F_31
        have f49 : zf49 m M_31 := fun a b hab => ff a b (by omega)
        rw [f7] at c_39
        refine ⟨_, hh, zfC_4 f49, ?_⟩
        rw [show pPl (m 2) n c sT (j + 1 + 1) a g sb p = .inr ((c, g, sT, true, sb), tN (m 2) n p) by simp [pPl, c_39]]
        exact ⟨hr, cV_f hV f49 (ff 1 4 (by omega)), f6, Nat.le_trans (tN_le hq.2.2.2) hq.2.1⟩
theorem t_X2_readPlan {d : Nat} {m : zM} {r : Option Value} {h' : zHp} {n p s c : Nat} {g : Nat → Int32} {sT pT : Bool} {sb : Int32} (hq : zPl m n p) (hs : m 1 8 = Int32.ofNat s) (hV : cV m c g sT pT sb) (H : zE none d zm_X2_readPlan 0 [.ref 1, .null] [] m r h') : ∃ m1, h' = zhp m1 ∧ zfC m m1 ∧ cR m1 r (pPlan (m 2) n (c, g, sT, pT, sb) s p) := by
  replace H := i_aln (q := 1) H I_X2_readPlan_0 rfl rfl
  replace H := i_gfi (q := 4) H I_X2_readPlan_1 G_2_45 cn_X2_readPlan LY_1 rfl rfl
  have W := i_if_eq (t := 17) (q := 7) H I_X2_readPlan_4 (by decide) rfl
  clear H
  rcases W with ⟨c_4, H⟩ | ⟨c_4, H⟩
  · skip
    replace H := i_aln (q := 18) H I_X2_readPlan_17 rfl rfl
    replace H := i_icst (x := 1) (q := 19) H I_X2_readPlan_18 (by decide) rfl
    replace H := i_pf (q := 22) H I_X2_readPlan_19 G_2_45 cn_X2_readPlan LY_1 rfl rfl
    replace H := i_icst (x := 0) (q := 23) H I_X2_readPlan_22 (by decide) rfl
    replace H := i_isn (q := 24) H I_X2_readPlan_23 rfl rfl
    rw [hV.2.2.2.2.2.2.2.2.1] at c_4
    have hT : pT = false := by cases pT <;> simp_all [zbi]
    have e2 : zup m 1 12 1 2 = m 2 := by
      funext b
      rw [zup_n (by omega)]
    obtain ⟨q1, q2, q3, q4, q5, q6, ⟨x, a1, a2, a3, a4, a5, a6⟩, q8, q9, q10⟩ := hV
    have x0 := a5 hT
    subst x0
    obtain ⟨m1, g1, g2, g3⟩ := rp_loop (n := n) (c := c) (sT := sT) 8 0 d r h' _ g sb p rfl ⟨by rw [zup_n (by omega)]; exact hq.1, hq.2.1, by rw [zup_n (by omega)]; exact hq.2.2.1, hq.2.2.2⟩ (by
      refine ⟨by rw [zup_n (by omega)]; exact q1, q2, fun i hi => ?_, ?_, ?_, ?_, ⟨0, a1, a2, ?_, fun i hi => ?_, fun _ => rfl, a6⟩, ?_, ?_, ?_⟩
      · obtain ⟨y0, y1, y2⟩ := q3 i hi
        refine ⟨?_, ?_, ?_⟩
        · rw [zup_n (by omega), y0]
        · rw [zup_n (by omega), y1]
        · rw [zup_n (by omega), y2]
      · rw [zup_n (by omega), q4]
      · rw [zup_n (by omega), q5]
      · rw [zup_n (by omega), q6]
      · rw [zup_n (by omega), a3]
      · omega
      · rw [zup_n (by omega), q8]
      · rw [zup_s]; rfl
      · rw [zup_n (by omega), q10]) a2 H
    refine ⟨m1, g1, zfC_t (fun a b y z => by rw [zup_n (by omega)]) g2, ?_⟩
    rw [e2] at g3
    rw [show pPlan (m 2) n (c, g, sT, pT, sb) s p = pPl (m 2) n c sT 9 0 g sb p by simp [pPlan, hT]]
    exact g3
  · skip
    replace H := i_aln (q := 8) H I_X2_readPlan_7 rfl rfl
    replace H := i_icst (x := 4) (q := 9) H I_X2_readPlan_8 (by decide) rfl
    replace H := i_aln (q := 10) H I_X2_readPlan_9 rfl rfl
    replace H := i_gfi (q := 13) H I_X2_readPlan_10 G_2_102 cn_X2_readPlan LY_1 rfl rfl
    have W := i_cv2 0 (q := 16) H I_X2_readPlan_13 K_2_74 Zm_27 rfl rfl
    clear H
    obtain ⟨r1, h1, Hc, K1, K2⟩ := W
    obtain ⟨e1, e2⟩ := t_X2_fail Hc
    have H := K1 _ _ e1 e2
    clear e1 e2 Hc K1 K2
    obtain ⟨hr, hh⟩ := i_ir H I_X2_readPlan_16
    rw [hV.2.2.2.2.2.2.2.2.1] at c_4
    have hT : pT = true := by cases pT <;> simp_all [zbi]
    rw [hs] at hh
    refine ⟨_, hh, fun a b h1 h2 => by rw [zup_n (by omega), zup_n (by omega)], ?_⟩
    rw [show pPlan (m 2) n (c, g, sT, pT, sb) s p = .inl (4, s) by simp [pPlan, hT]]
    exact ⟨hr, by rw [zup_n (by omega), zup_s], by rw [zup_s]⟩
theorem zwf_le {t : Nat → Int32} {s e : Nat} : ∀ (k w : Nat), zwf t s e k w ≤ w + k
  | 0, w => Nat.le_refl w
  | k + 1, w => by
    simp only [zwf]
    split
    · omega
    · have := zwf_le (t := t) (s := s) (e := e) k (w + 1)
      omega
theorem zword_le {t : Nat → Int32} {s e : Nat} : zword t s e ≤ 7 := zwf_le 7 0
theorem zofn_eq {i j : Nat} (h : Int32.ofNat i = Int32.ofNat j) (hi : i ≤ 1000) (hj : j ≤ 1000) : i = j := zofn h (by omega) (by omega)
theorem t_X2_readLine {d : Nat} {m : zM} {r : Option Value} {h' : zHp} {n p c : Nat} {g : Nat → Int32} {sT pT : Bool} {sb : Int32} (hn : m 1 2 = Int32.ofNat n) (hn2 : n ≤ 160) (hpn : p ≤ n) (h6 : m 1 6 = Int32.ofNat (tN (m 2) n p)) (h7 : m 1 7 = tK (m 2) n p) (h8 : m 1 8 = Int32.ofNat (tS (m 2) n p)) (hV : cV m c g sT pT sb) (H : zE none d zm_X2_readLine 0 [.ref 1, .null] [] m r h') : ∃ m1, h' = zhp m1 ∧ zfC m m1 ∧ cR m1 r (pLn (m 2) n (c, g, sT, pT, sb) p) := by
  replace H := i_aln (q := 1) H I_X2_readLine_0 rfl rfl
  replace H := i_gfi (q := 4) H I_X2_readLine_1 G_2_51 cn_X2_readLine LY_1 rfl rfl
  replace H := i_icst (x := 1) (q := 5) H I_X2_readLine_4 (by decide) rfl
  have W := i_ic_eq (t := 13) (q := 8) H I_X2_readLine_5 (by decide) rfl
  clear H
  rcases W with ⟨c_5, H⟩ | ⟨c_5, H⟩
  · skip
    replace H := i_aln (q := 14) H I_X2_readLine_13 rfl rfl
    have W := i_cv0 1 (q := 17) H I_X2_readLine_14 K_2_85 Zm_40 rfl rfl
    clear H
    obtain ⟨r1, h1, Hc, K1, K2⟩ := W
    obtain ⟨e1, e2⟩ := t_X2_word h8 h6 tN_ge (Nat.le_trans (tN_le hpn) hn2) Hc
    have H := K1 _ _ e1 e2
    clear e1 e2 Hc K1 K2
    replace H := i_isn (q := 18) H I_X2_readLine_17 rfl rfl
    replace H := i_iln (q := 19) H I_X2_readLine_18 rfl rfl
    have W := i_ts1 0 (q := 60) H I_X2_readLine_19 (by decide) rfl (by decide)
    clear H
    rcases W with ⟨w_19_0, H⟩ | ⟨w_19_0, H⟩
    · skip
      replace H := i_aln (q := 61) H I_X2_readLine_60 rfl rfl
      replace H := i_iln (q := 62) H I_X2_readLine_61 rfl rfl
      have W := i_cv1 1 (q := 65) H I_X2_readLine_62 K_2_89 Zm_33 rfl rfl
      clear H
      obtain ⟨r1, h1, Hc, K1, K2⟩ := W
      obtain ⟨M_62, e2, F_62, R_62⟩ := t_X2_readOne (sb := sb) (⟨hn, hn2, h6, tN_le hpn⟩ : zPl m n (tN (m 2) n p)) h8 hV Hc
      have e1 := cR_v R_62
      have H := K1 _ _ e1 e2
      clear e1 e2 Hc K1 K2
      obtain ⟨hr, hh⟩ := i_ir H I_X2_readLine_65
      rw [h7] at c_5
      have zw : zword (m 2) (tS (m 2) n p) (tN (m 2) n p) = 0 := zofn (j := 0) w_19_0 (by have := zword_le (t := m 2) (s := tS (m 2) n p) (e := tN (m 2) n p); omega) (by decide)
      refine ⟨_, hh, F_62, ?_⟩
      rw [pLn, if_pos c_5]
      simp only [zw] at R_62 hr ⊢
      exact cR_r hr R_62
    · skip
      have W := i_ts1 1 (q := 60) H I_X2_readLine_19 (by decide) rfl (by decide)
      clear H
      rcases W with ⟨w_19_1, H⟩ | ⟨w_19_1, H⟩
      · skip
        replace H := i_aln (q := 61) H I_X2_readLine_60 rfl rfl
        replace H := i_iln (q := 62) H I_X2_readLine_61 rfl rfl
        have W := i_cv1 1 (q := 65) H I_X2_readLine_62 K_2_89 Zm_33 rfl rfl
        clear H
        obtain ⟨r1, h1, Hc, K1, K2⟩ := W
        obtain ⟨M_62, e2, F_62, R_62⟩ := t_X2_readOne (sb := sb) (⟨hn, hn2, h6, tN_le hpn⟩ : zPl m n (tN (m 2) n p)) h8 hV Hc
        have e1 := cR_v R_62
        have H := K1 _ _ e1 e2
        clear e1 e2 Hc K1 K2
        obtain ⟨hr, hh⟩ := i_ir H I_X2_readLine_65
        rw [h7] at c_5
        have zw : zword (m 2) (tS (m 2) n p) (tN (m 2) n p) = 1 := zofn (j := 1) w_19_1 (by have := zword_le (t := m 2) (s := tS (m 2) n p) (e := tN (m 2) n p); omega) (by decide)
        refine ⟨_, hh, F_62, ?_⟩
        rw [pLn, if_pos c_5]
        simp only [zw] at R_62 hr ⊢
        exact cR_r hr R_62
      · skip
        have W := i_ts1 2 (q := 60) H I_X2_readLine_19 (by decide) rfl (by decide)
        clear H
        rcases W with ⟨w_19_2, H⟩ | ⟨w_19_2, H⟩
        · skip
          replace H := i_aln (q := 61) H I_X2_readLine_60 rfl rfl
          replace H := i_iln (q := 62) H I_X2_readLine_61 rfl rfl
          have W := i_cv1 1 (q := 65) H I_X2_readLine_62 K_2_89 Zm_33 rfl rfl
          clear H
          obtain ⟨r1, h1, Hc, K1, K2⟩ := W
          obtain ⟨M_62, e2, F_62, R_62⟩ := t_X2_readOne (sb := sb) (⟨hn, hn2, h6, tN_le hpn⟩ : zPl m n (tN (m 2) n p)) h8 hV Hc
          have e1 := cR_v R_62
          have H := K1 _ _ e1 e2
          clear e1 e2 Hc K1 K2
          obtain ⟨hr, hh⟩ := i_ir H I_X2_readLine_65
          rw [h7] at c_5
          have zw : zword (m 2) (tS (m 2) n p) (tN (m 2) n p) = 2 := zofn (j := 2) w_19_2 (by have := zword_le (t := m 2) (s := tS (m 2) n p) (e := tN (m 2) n p); omega) (by decide)
          refine ⟨_, hh, F_62, ?_⟩
          rw [pLn, if_pos c_5]
          simp only [zw] at R_62 hr ⊢
          exact cR_r hr R_62
        · skip
          have W := i_ts1 3 (q := 60) H I_X2_readLine_19 (by decide) rfl (by decide)
          clear H
          rcases W with ⟨w_19_3, H⟩ | ⟨w_19_3, H⟩
          · skip
            replace H := i_aln (q := 61) H I_X2_readLine_60 rfl rfl
            replace H := i_iln (q := 62) H I_X2_readLine_61 rfl rfl
            have W := i_cv1 1 (q := 65) H I_X2_readLine_62 K_2_89 Zm_33 rfl rfl
            clear H
            obtain ⟨r1, h1, Hc, K1, K2⟩ := W
            obtain ⟨M_62, e2, F_62, R_62⟩ := t_X2_readOne (sb := sb) (⟨hn, hn2, h6, tN_le hpn⟩ : zPl m n (tN (m 2) n p)) h8 hV Hc
            have e1 := cR_v R_62
            have H := K1 _ _ e1 e2
            clear e1 e2 Hc K1 K2
            obtain ⟨hr, hh⟩ := i_ir H I_X2_readLine_65
            rw [h7] at c_5
            have zw : zword (m 2) (tS (m 2) n p) (tN (m 2) n p) = 3 := zofn (j := 3) w_19_3 (by have := zword_le (t := m 2) (s := tS (m 2) n p) (e := tN (m 2) n p); omega) (by decide)
            refine ⟨_, hh, F_62, ?_⟩
            rw [pLn, if_pos c_5]
            simp only [zw] at R_62 hr ⊢
            exact cR_r hr R_62
          · skip
            have W := i_ts1 4 (q := 66) H I_X2_readLine_19 (by decide) rfl (by decide)
            clear H
            rcases W with ⟨w_19_4, H⟩ | ⟨w_19_4, H⟩
            · skip
              replace H := i_aln (q := 67) H I_X2_readLine_66 rfl rfl
              have W := i_cv0 0 (q := 70) H I_X2_readLine_67 K_2_93 Zm_34 rfl rfl
              clear H
              obtain ⟨r1, h1, Hc, K1, K2⟩ := W
              obtain ⟨M_67, e2, F_67, R_67⟩ := t_X2_readLeft (sb := sb) (⟨hn, hn2, h6, tN_le hpn⟩ : zPl m n (tN (m 2) n p)) h8 hV Hc
              have e1 := cR_v R_67
              have H := K1 _ _ e1 e2
              clear e1 e2 Hc K1 K2
              obtain ⟨hr, hh⟩ := i_ir H I_X2_readLine_70
              rw [h7] at c_5
              have zw : zword (m 2) (tS (m 2) n p) (tN (m 2) n p) = 4 := zofn (j := 4) w_19_4 (by have := zword_le (t := m 2) (s := tS (m 2) n p) (e := tN (m 2) n p); omega) (by decide)
              refine ⟨_, hh, F_67, ?_⟩
              rw [pLn, if_pos c_5]
              simp only [zw] at R_67 hr ⊢
              exact cR_r hr R_67
            · skip
              have W := i_ts1 5 (q := 71) H I_X2_readLine_19 (by decide) rfl (by decide)
              clear H
              rcases W with ⟨w_19_5, H⟩ | ⟨w_19_5, H⟩
              · skip
                replace H := i_aln (q := 72) H I_X2_readLine_71 rfl rfl
                have W := i_cv0 0 (q := 75) H I_X2_readLine_72 K_2_96 Zm_35 rfl rfl
                clear H
                obtain ⟨r1, h1, Hc, K1, K2⟩ := W
                obtain ⟨M_72, e2, F_72, R_72⟩ := t_X2_readSlack (sb := sb) (⟨hn, hn2, h6, tN_le hpn⟩ : zPl m n (tN (m 2) n p)) h8 hV Hc
                have e1 := cR_v R_72
                have H := K1 _ _ e1 e2
                clear e1 e2 Hc K1 K2
                obtain ⟨hr, hh⟩ := i_ir H I_X2_readLine_75
                rw [h7] at c_5
                have zw : zword (m 2) (tS (m 2) n p) (tN (m 2) n p) = 5 := zofn (j := 5) w_19_5 (by have := zword_le (t := m 2) (s := tS (m 2) n p) (e := tN (m 2) n p); omega) (by decide)
                refine ⟨_, hh, F_72, ?_⟩
                rw [pLn, if_pos c_5]
                simp only [zw] at R_72 hr ⊢
                exact cR_r hr R_72
              · skip
                have W := i_ts1 6 (q := 76) H I_X2_readLine_19 (by decide) rfl (by decide)
                clear H
                rcases W with ⟨w_19_6, H⟩ | ⟨w_19_6, H⟩
                · skip
                  replace H := i_aln (q := 77) H I_X2_readLine_76 rfl rfl
                  have W := i_cv0 1 (q := 80) H I_X2_readLine_77 K_2_99 Zm_36 rfl rfl
                  clear H
                  obtain ⟨r1, h1, Hc, K1, K2⟩ := W
                  obtain ⟨M_77, e2, F_77, R_77⟩ := t_X2_readPlan (sb := sb) (⟨hn, hn2, h6, tN_le hpn⟩ : zPl m n (tN (m 2) n p)) h8 hV Hc
                  have e1 := cR_v R_77
                  have H := K1 _ _ e1 e2
                  clear e1 e2 Hc K1 K2
                  obtain ⟨hr, hh⟩ := i_ir H I_X2_readLine_80
                  rw [h7] at c_5
                  have zw : zword (m 2) (tS (m 2) n p) (tN (m 2) n p) = 6 := zofn (j := 6) w_19_6 (by have := zword_le (t := m 2) (s := tS (m 2) n p) (e := tN (m 2) n p); omega) (by decide)
                  refine ⟨_, hh, F_77, ?_⟩
                  rw [pLn, if_pos c_5]
                  simp only [zw] at R_77 hr ⊢
                  exact cR_r hr R_77
                · skip
                  replace H := i_tsd (q := 81) H I_X2_readLine_19 (by have q0 := zne w_19_0 (z := 0) (by decide); have q1 := zne w_19_1 (z := 1) (by decide); have q2 := zne w_19_2 (z := 2) (by decide); have q3 := zne w_19_3 (z := 3) (by decide); have q4 := zne w_19_4 (z := 4) (by decide); have q5 := zne w_19_5 (z := 5) (by decide); have q6 := zne w_19_6 (z := 6) (by decide); omega) (by decide)
                  replace H := i_aln (q := 82) H I_X2_readLine_81 rfl rfl
                  replace H := i_icst (x := 2) (q := 83) H I_X2_readLine_82 (by decide) rfl
                  replace H := i_aln (q := 84) H I_X2_readLine_83 rfl rfl
                  replace H := i_gfi (q := 87) H I_X2_readLine_84 G_2_102 cn_X2_readLine LY_1 rfl rfl
                  have W := i_cv2 0 (q := 90) H I_X2_readLine_87 K_2_74 Zm_27 rfl rfl
                  clear H
                  obtain ⟨r1, h1, Hc, K1, K2⟩ := W
                  obtain ⟨e1, e2⟩ := t_X2_fail Hc
                  have H := K1 _ _ e1 e2
                  clear e1 e2 Hc K1 K2
                  obtain ⟨hr, hh⟩ := i_ir H I_X2_readLine_90
                  rw [h7] at c_5
                  have z7 : zword (m 2) (tS (m 2) n p) (tN (m 2) n p) = 7 := by
                    have := zword_le (t := m 2) (s := tS (m 2) n p) (e := tN (m 2) n p)
                    rcases (by omega : zword (m 2) (tS (m 2) n p) (tN (m 2) n p) = 0 ∨ zword (m 2) (tS (m 2) n p) (tN (m 2) n p) = 1 ∨ zword (m 2) (tS (m 2) n p) (tN (m 2) n p) = 2 ∨ zword (m 2) (tS (m 2) n p) (tN (m 2) n p) = 3 ∨ zword (m 2) (tS (m 2) n p) (tN (m 2) n p) = 4 ∨ zword (m 2) (tS (m 2) n p) (tN (m 2) n p) = 5 ∨ zword (m 2) (tS (m 2) n p) (tN (m 2) n p) = 6 ∨ zword (m 2) (tS (m 2) n p) (tN (m 2) n p) = 7) with e | e | e | e | e | e | e | e
                    · rw [e] at w_19_0; exact absurd rfl w_19_0
                    · rw [e] at w_19_1; exact absurd rfl w_19_1
                    · rw [e] at w_19_2; exact absurd rfl w_19_2
                    · rw [e] at w_19_3; exact absurd rfl w_19_3
                    · rw [e] at w_19_4; exact absurd rfl w_19_4
                    · rw [e] at w_19_5; exact absurd rfl w_19_5
                    · rw [e] at w_19_6; exact absurd rfl w_19_6
                    · exact e
                  rw [h8] at hh
                  refine ⟨_, hh, fun a b x y => by rw [zup_n (by omega), zup_n (by omega)], ?_⟩
                  rw [show pLn (m 2) n (c, g, sT, pT, sb) p = .inl (2, tS (m 2) n p) by simp [pLn, c_5, z7]]
                  exact ⟨hr, by rw [zup_n (by omega), zup_s], by rw [zup_s]⟩
  · skip
    replace H := i_aln (q := 9) H I_X2_readLine_8 rfl rfl
    have W := i_cv0 0 (q := 12) H I_X2_readLine_9 K_2_82 Zm_30 rfl rfl
    clear H
    obtain ⟨r1, h1, Hc, K1, K2⟩ := W
    obtain ⟨e1, e2⟩ := t_X2_failToken Hc
    have H := K1 _ _ e1 e2
    clear e1 e2 Hc K1 K2
    obtain ⟨hr, hh⟩ := i_ir H I_X2_readLine_12
    rw [h7] at c_5
    rw [h7, h8] at hh
    refine ⟨_, hh, fun a b x y => by rw [zup_n (by omega), zup_n (by omega)], ?_⟩
    rw [show pLn (m 2) n (c, g, sT, pT, sb) p = .inl (zft (m 2) n p) by simp [pLn, c_5]]
    exact ⟨hr, by rw [zup_n (by omega), zup_s]; rfl, by rw [zup_s]; rfl⟩
