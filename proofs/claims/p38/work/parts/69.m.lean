section
/-! the class's plan and line -/
theorem It_X2_readLine : zm_X2_readLine.2.2.2.2.2 = zt_X2_readLine := by
  unfold zm_X2_readLine
  rfl
theorem It_X2_readPlan : zm_X2_readPlan.2.2.2.2.2 = zt_X2_readPlan := by
  unfold zm_X2_readPlan
  rfl
theorem I_X2_readLine_0 : zin zm_X2_readLine.2.2.2.2.2 0 = some (.aload_n 0, 1) := by rw [It_X2_readLine]; rfl
theorem I_X2_readLine_1 : zin zm_X2_readLine.2.2.2.2.2 1 = some (.getfield 51, 3) := by rw [It_X2_readLine]; rfl
theorem I_X2_readLine_4 : zin zm_X2_readLine.2.2.2.2.2 4 = some (.iconst 1, 1) := by rw [It_X2_readLine]; rfl
theorem I_X2_readLine_5 : zin zm_X2_readLine.2.2.2.2.2 5 = some (.if_icmp .eq 8, 3) := by rw [It_X2_readLine]; rfl
theorem I_X2_readLine_8 : zin zm_X2_readLine.2.2.2.2.2 8 = some (.aload_n 0, 1) := by rw [It_X2_readLine]; rfl
theorem I_X2_readLine_9 : zin zm_X2_readLine.2.2.2.2.2 9 = some (.invokevirtual 82, 3) := by rw [It_X2_readLine]; rfl
theorem I_X2_readLine_12 : zin zm_X2_readLine.2.2.2.2.2 12 = some (.ireturn, 1) := by rw [It_X2_readLine]; rfl
theorem I_X2_readLine_13 : zin zm_X2_readLine.2.2.2.2.2 13 = some (.aload_n 0, 1) := by rw [It_X2_readLine]; rfl
theorem I_X2_readLine_14 : zin zm_X2_readLine.2.2.2.2.2 14 = some (.invokevirtual 85, 3) := by rw [It_X2_readLine]; rfl
theorem I_X2_readLine_17 : zin zm_X2_readLine.2.2.2.2.2 17 = some (.istore_n 1, 1) := by rw [It_X2_readLine]; rfl
theorem I_X2_readLine_18 : zin zm_X2_readLine.2.2.2.2.2 18 = some (.iload_n 1, 1) := by rw [It_X2_readLine]; rfl
theorem I_X2_readLine_19 : zin zm_X2_readLine.2.2.2.2.2 19 = some (.tableswitch 62 0 6 #[41, 41, 41, 41, 47, 52, 57], 41) := by rw [It_X2_readLine]; rfl
theorem I_X2_readLine_60 : zin zm_X2_readLine.2.2.2.2.2 60 = some (.aload_n 0, 1) := by rw [It_X2_readLine]; rfl
theorem I_X2_readLine_61 : zin zm_X2_readLine.2.2.2.2.2 61 = some (.iload_n 1, 1) := by rw [It_X2_readLine]; rfl
theorem I_X2_readLine_62 : zin zm_X2_readLine.2.2.2.2.2 62 = some (.invokevirtual 89, 3) := by rw [It_X2_readLine]; rfl
theorem I_X2_readLine_65 : zin zm_X2_readLine.2.2.2.2.2 65 = some (.ireturn, 1) := by rw [It_X2_readLine]; rfl
theorem I_X2_readLine_66 : zin zm_X2_readLine.2.2.2.2.2 66 = some (.aload_n 0, 1) := by rw [It_X2_readLine]; rfl
theorem I_X2_readLine_67 : zin zm_X2_readLine.2.2.2.2.2 67 = some (.invokevirtual 93, 3) := by rw [It_X2_readLine]; rfl
theorem I_X2_readLine_70 : zin zm_X2_readLine.2.2.2.2.2 70 = some (.ireturn, 1) := by rw [It_X2_readLine]; rfl
theorem I_X2_readLine_71 : zin zm_X2_readLine.2.2.2.2.2 71 = some (.aload_n 0, 1) := by rw [It_X2_readLine]; rfl
theorem I_X2_readLine_72 : zin zm_X2_readLine.2.2.2.2.2 72 = some (.invokevirtual 96, 3) := by rw [It_X2_readLine]; rfl
theorem I_X2_readLine_75 : zin zm_X2_readLine.2.2.2.2.2 75 = some (.ireturn, 1) := by rw [It_X2_readLine]; rfl
theorem I_X2_readLine_76 : zin zm_X2_readLine.2.2.2.2.2 76 = some (.aload_n 0, 1) := by rw [It_X2_readLine]; rfl
theorem I_X2_readLine_77 : zin zm_X2_readLine.2.2.2.2.2 77 = some (.invokevirtual 99, 3) := by rw [It_X2_readLine]; rfl
theorem I_X2_readLine_80 : zin zm_X2_readLine.2.2.2.2.2 80 = some (.ireturn, 1) := by rw [It_X2_readLine]; rfl
theorem I_X2_readLine_81 : zin zm_X2_readLine.2.2.2.2.2 81 = some (.aload_n 0, 1) := by rw [It_X2_readLine]; rfl
theorem I_X2_readLine_82 : zin zm_X2_readLine.2.2.2.2.2 82 = some (.iconst 2, 1) := by rw [It_X2_readLine]; rfl
theorem I_X2_readLine_83 : zin zm_X2_readLine.2.2.2.2.2 83 = some (.aload_n 0, 1) := by rw [It_X2_readLine]; rfl
theorem I_X2_readLine_84 : zin zm_X2_readLine.2.2.2.2.2 84 = some (.getfield 102, 3) := by rw [It_X2_readLine]; rfl
theorem I_X2_readLine_87 : zin zm_X2_readLine.2.2.2.2.2 87 = some (.invokevirtual 74, 3) := by rw [It_X2_readLine]; rfl
theorem I_X2_readLine_90 : zin zm_X2_readLine.2.2.2.2.2 90 = some (.ireturn, 1) := by rw [It_X2_readLine]; rfl
theorem I_X2_readPlan_0 : zin zm_X2_readPlan.2.2.2.2.2 0 = some (.aload_n 0, 1) := by rw [It_X2_readPlan]; rfl
theorem I_X2_readPlan_1 : zin zm_X2_readPlan.2.2.2.2.2 1 = some (.getfield 45, 3) := by rw [It_X2_readPlan]; rfl
theorem I_X2_readPlan_4 : zin zm_X2_readPlan.2.2.2.2.2 4 = some (.ifCond .eq 13, 3) := by rw [It_X2_readPlan]; rfl
theorem I_X2_readPlan_7 : zin zm_X2_readPlan.2.2.2.2.2 7 = some (.aload_n 0, 1) := by rw [It_X2_readPlan]; rfl
theorem I_X2_readPlan_8 : zin zm_X2_readPlan.2.2.2.2.2 8 = some (.iconst 4, 1) := by rw [It_X2_readPlan]; rfl
theorem I_X2_readPlan_9 : zin zm_X2_readPlan.2.2.2.2.2 9 = some (.aload_n 0, 1) := by rw [It_X2_readPlan]; rfl
theorem I_X2_readPlan_10 : zin zm_X2_readPlan.2.2.2.2.2 10 = some (.getfield 102, 3) := by rw [It_X2_readPlan]; rfl
theorem I_X2_readPlan_13 : zin zm_X2_readPlan.2.2.2.2.2 13 = some (.invokevirtual 74, 3) := by rw [It_X2_readPlan]; rfl
theorem I_X2_readPlan_16 : zin zm_X2_readPlan.2.2.2.2.2 16 = some (.ireturn, 1) := by rw [It_X2_readPlan]; rfl
theorem I_X2_readPlan_17 : zin zm_X2_readPlan.2.2.2.2.2 17 = some (.aload_n 0, 1) := by rw [It_X2_readPlan]; rfl
theorem I_X2_readPlan_18 : zin zm_X2_readPlan.2.2.2.2.2 18 = some (.iconst 1, 1) := by rw [It_X2_readPlan]; rfl
theorem I_X2_readPlan_19 : zin zm_X2_readPlan.2.2.2.2.2 19 = some (.putfield 45, 3) := by rw [It_X2_readPlan]; rfl
theorem I_X2_readPlan_22 : zin zm_X2_readPlan.2.2.2.2.2 22 = some (.iconst 0, 1) := by rw [It_X2_readPlan]; rfl
theorem I_X2_readPlan_23 : zin zm_X2_readPlan.2.2.2.2.2 23 = some (.istore_n 1, 1) := by rw [It_X2_readPlan]; rfl
theorem I_X2_readPlan_24 : zin zm_X2_readPlan.2.2.2.2.2 24 = some (.iload_n 1, 1) := by rw [It_X2_readPlan]; rfl
theorem I_X2_readPlan_25 : zin zm_X2_readPlan.2.2.2.2.2 25 = some (.bipush 8, 2) := by rw [It_X2_readPlan]; rfl
theorem I_X2_readPlan_27 : zin zm_X2_readPlan.2.2.2.2.2 27 = some (.if_icmp .gt 94, 3) := by rw [It_X2_readPlan]; rfl
theorem I_X2_readPlan_30 : zin zm_X2_readPlan.2.2.2.2.2 30 = some (.aload_n 0, 1) := by rw [It_X2_readPlan]; rfl
theorem I_X2_readPlan_31 : zin zm_X2_readPlan.2.2.2.2.2 31 = some (.invokevirtual 48, 3) := by rw [It_X2_readPlan]; rfl
theorem I_X2_readPlan_34 : zin zm_X2_readPlan.2.2.2.2.2 34 = some (.aload_n 0, 1) := by rw [It_X2_readPlan]; rfl
theorem I_X2_readPlan_35 : zin zm_X2_readPlan.2.2.2.2.2 35 = some (.getfield 51, 3) := by rw [It_X2_readPlan]; rfl
theorem I_X2_readPlan_38 : zin zm_X2_readPlan.2.2.2.2.2 38 = some (.iconst 3, 1) := by rw [It_X2_readPlan]; rfl
theorem I_X2_readPlan_39 : zin zm_X2_readPlan.2.2.2.2.2 39 = some (.if_icmp .ne 5, 3) := by rw [It_X2_readPlan]; rfl
theorem I_X2_readPlan_42 : zin zm_X2_readPlan.2.2.2.2.2 42 = some (.iconst 1, 1) := by rw [It_X2_readPlan]; rfl
theorem I_X2_readPlan_43 : zin zm_X2_readPlan.2.2.2.2.2 43 = some (.ireturn, 1) := by rw [It_X2_readPlan]; rfl
theorem I_X2_readPlan_44 : zin zm_X2_readPlan.2.2.2.2.2 44 = some (.aload_n 0, 1) := by rw [It_X2_readPlan]; rfl
theorem I_X2_readPlan_45 : zin zm_X2_readPlan.2.2.2.2.2 45 = some (.getfield 51, 3) := by rw [It_X2_readPlan]; rfl
theorem I_X2_readPlan_48 : zin zm_X2_readPlan.2.2.2.2.2 48 = some (.iconst 2, 1) := by rw [It_X2_readPlan]; rfl
theorem I_X2_readPlan_49 : zin zm_X2_readPlan.2.2.2.2.2 49 = some (.if_icmp .eq 8, 3) := by rw [It_X2_readPlan]; rfl
theorem I_X2_readPlan_52 : zin zm_X2_readPlan.2.2.2.2.2 52 = some (.aload_n 0, 1) := by rw [It_X2_readPlan]; rfl
theorem I_X2_readPlan_53 : zin zm_X2_readPlan.2.2.2.2.2 53 = some (.invokevirtual 82, 3) := by rw [It_X2_readPlan]; rfl
theorem I_X2_readPlan_56 : zin zm_X2_readPlan.2.2.2.2.2 56 = some (.ireturn, 1) := by rw [It_X2_readPlan]; rfl
theorem I_X2_readPlan_57 : zin zm_X2_readPlan.2.2.2.2.2 57 = some (.iload_n 1, 1) := by rw [It_X2_readPlan]; rfl
theorem I_X2_readPlan_58 : zin zm_X2_readPlan.2.2.2.2.2 58 = some (.bipush 8, 2) := by rw [It_X2_readPlan]; rfl
theorem I_X2_readPlan_60 : zin zm_X2_readPlan.2.2.2.2.2 60 = some (.if_icmp .lt 13, 3) := by rw [It_X2_readPlan]; rfl
theorem I_X2_readPlan_63 : zin zm_X2_readPlan.2.2.2.2.2 63 = some (.aload_n 0, 1) := by rw [It_X2_readPlan]; rfl
theorem I_X2_readPlan_64 : zin zm_X2_readPlan.2.2.2.2.2 64 = some (.iconst 5, 1) := by rw [It_X2_readPlan]; rfl
theorem I_X2_readPlan_65 : zin zm_X2_readPlan.2.2.2.2.2 65 = some (.aload_n 0, 1) := by rw [It_X2_readPlan]; rfl
theorem I_X2_readPlan_66 : zin zm_X2_readPlan.2.2.2.2.2 66 = some (.getfield 102, 3) := by rw [It_X2_readPlan]; rfl
theorem I_X2_readPlan_69 : zin zm_X2_readPlan.2.2.2.2.2 69 = some (.invokevirtual 74, 3) := by rw [It_X2_readPlan]; rfl
theorem I_X2_readPlan_72 : zin zm_X2_readPlan.2.2.2.2.2 72 = some (.ireturn, 1) := by rw [It_X2_readPlan]; rfl
theorem I_X2_readPlan_73 : zin zm_X2_readPlan.2.2.2.2.2 73 = some (.aload_n 0, 1) := by rw [It_X2_readPlan]; rfl
theorem I_X2_readPlan_74 : zin zm_X2_readPlan.2.2.2.2.2 74 = some (.getfield 105, 3) := by rw [It_X2_readPlan]; rfl
theorem I_X2_readPlan_77 : zin zm_X2_readPlan.2.2.2.2.2 77 = some (.bipush 31, 2) := by rw [It_X2_readPlan]; rfl
theorem I_X2_readPlan_79 : zin zm_X2_readPlan.2.2.2.2.2 79 = some (.if_icmp .le 13, 3) := by rw [It_X2_readPlan]; rfl
theorem I_X2_readPlan_82 : zin zm_X2_readPlan.2.2.2.2.2 82 = some (.aload_n 0, 1) := by rw [It_X2_readPlan]; rfl
theorem I_X2_readPlan_83 : zin zm_X2_readPlan.2.2.2.2.2 83 = some (.iconst 3, 1) := by rw [It_X2_readPlan]; rfl
theorem I_X2_readPlan_84 : zin zm_X2_readPlan.2.2.2.2.2 84 = some (.aload_n 0, 1) := by rw [It_X2_readPlan]; rfl
theorem I_X2_readPlan_85 : zin zm_X2_readPlan.2.2.2.2.2 85 = some (.getfield 102, 3) := by rw [It_X2_readPlan]; rfl
theorem I_X2_readPlan_88 : zin zm_X2_readPlan.2.2.2.2.2 88 = some (.invokevirtual 74, 3) := by rw [It_X2_readPlan]; rfl
theorem I_X2_readPlan_91 : zin zm_X2_readPlan.2.2.2.2.2 91 = some (.ireturn, 1) := by rw [It_X2_readPlan]; rfl
theorem I_X2_readPlan_92 : zin zm_X2_readPlan.2.2.2.2.2 92 = some (.aload_n 0, 1) := by rw [It_X2_readPlan]; rfl
theorem I_X2_readPlan_93 : zin zm_X2_readPlan.2.2.2.2.2 93 = some (.getfield 18, 3) := by rw [It_X2_readPlan]; rfl
theorem I_X2_readPlan_96 : zin zm_X2_readPlan.2.2.2.2.2 96 = some (.getfield 64, 3) := by rw [It_X2_readPlan]; rfl
theorem I_X2_readPlan_99 : zin zm_X2_readPlan.2.2.2.2.2 99 = some (.iload_n 1, 1) := by rw [It_X2_readPlan]; rfl
theorem I_X2_readPlan_100 : zin zm_X2_readPlan.2.2.2.2.2 100 = some (.aload_n 0, 1) := by rw [It_X2_readPlan]; rfl
theorem I_X2_readPlan_101 : zin zm_X2_readPlan.2.2.2.2.2 101 = some (.getfield 105, 3) := by rw [It_X2_readPlan]; rfl
theorem I_X2_readPlan_104 : zin zm_X2_readPlan.2.2.2.2.2 104 = some (.iastore, 1) := by rw [It_X2_readPlan]; rfl
theorem I_X2_readPlan_105 : zin zm_X2_readPlan.2.2.2.2.2 105 = some (.aload_n 0, 1) := by rw [It_X2_readPlan]; rfl
theorem I_X2_readPlan_106 : zin zm_X2_readPlan.2.2.2.2.2 106 = some (.getfield 18, 3) := by rw [It_X2_readPlan]; rfl
theorem I_X2_readPlan_109 : zin zm_X2_readPlan.2.2.2.2.2 109 = some (.iload_n 1, 1) := by rw [It_X2_readPlan]; rfl
theorem I_X2_readPlan_110 : zin zm_X2_readPlan.2.2.2.2.2 110 = some (.iconst 1, 1) := by rw [It_X2_readPlan]; rfl
theorem I_X2_readPlan_111 : zin zm_X2_readPlan.2.2.2.2.2 111 = some (.iadd, 1) := by rw [It_X2_readPlan]; rfl
theorem I_X2_readPlan_112 : zin zm_X2_readPlan.2.2.2.2.2 112 = some (.putfield 61, 3) := by rw [It_X2_readPlan]; rfl
theorem I_X2_readPlan_115 : zin zm_X2_readPlan.2.2.2.2.2 115 = some (.iinc 1 1, 3) := by rw [It_X2_readPlan]; rfl
theorem I_X2_readPlan_118 : zin zm_X2_readPlan.2.2.2.2.2 118 = some (.goto (-94), 3) := by rw [It_X2_readPlan]; rfl
theorem I_X2_readPlan_121 : zin zm_X2_readPlan.2.2.2.2.2 121 = some (.iconst 0, 1) := by rw [It_X2_readPlan]; rfl
theorem I_X2_readPlan_122 : zin zm_X2_readPlan.2.2.2.2.2 122 = some (.ireturn, 1) := by rw [It_X2_readPlan]; rfl
theorem G_2_45 : zlk zfls 2 45 = some (2, 12, 169) := rfl
theorem G_2_61 : zlk zfls 2 61 = some (0, 3, 131) := rfl
theorem G_2_64 : zlk zfls 2 64 = some (0, 1, 123) := rfl
theorem K_2_85 : zlk zmls 2 85 = some (0, 40, 0, 377) := rfl
theorem K_2_89 : zlk zmls 2 89 = some (0, 33, 1, 443) := rfl
theorem K_2_93 : zlk zmls 2 93 = some (0, 34, 0, 459) := rfl
theorem K_2_96 : zlk zmls 2 96 = some (0, 35, 0, 463) := rfl
theorem K_2_99 : zlk zmls 2 99 = some (0, 36, 0, 467) := rfl
theorem Zm_33 : zms[33]? = some zm_X2_readOne := rfl
theorem Zm_34 : zms[34]? = some zm_X2_readLeft := rfl
theorem Zm_35 : zms[35]? = some zm_X2_readSlack := rfl
theorem Zm_36 : zms[36]? = some zm_X2_readPlan := rfl
theorem Zm_40 : zms[40]? = some zm_X2_word := rfl
theorem LY_5 : zLY[5]? = some (Sum.inl 0, List.replicate 8 none) := rfl
theorem cl_X2_readLine : zm_X2_readLine.2.2.2.2.1 = 2 := by
  unfold zm_X2_readLine
  rfl
theorem cn_X2_readLine : zm_X2_readLine.2.2.2.2.1 ≠ 12 := by
  rw [cl_X2_readLine]
  decide
theorem cl_X2_readPlan : zm_X2_readPlan.2.2.2.2.1 = 2 := by
  unfold zm_X2_readPlan
  rfl
theorem cn_X2_readPlan : zm_X2_readPlan.2.2.2.2.1 ≠ 12 := by
  rw [cl_X2_readPlan]
  decide
def zrb (x : zPr) : Int32 := match x with
  | .inl _ => 0
  | .inr _ => 1
theorem cR_v {m1 : zM} {r : Option Value} {x : zPr} (h : cR m1 r x) : r = some (.int (zrb x)) := by
  match x, h with
  | .inl f, h => exact h.1
  | .inr q, h => exact h.1
theorem cR_r {m1 : zM} {r r1 : Option Value} {x : zPr} (hr : r = some (.int (zrb x))) (h : cR m1 r1 x) : cR m1 r x := by
  match x, h, hr with
  | .inl f, h, hr => exact ⟨hr, h.2⟩
  | .inr q, h, hr => exact ⟨hr, h.2⟩
theorem rp_loop {n c : Nat} {sT : Bool} : ∀ (j a d : Nat) (r : Option Value) (h' : zHp) (m : zM) (g : Nat → Int32) (sb : Int32) (p : Nat), a + (j + 1) = 9 → zPl m n p → cV m c g sT true sb → g 26 = Int32.ofNat a → zE none d zm_X2_readPlan 24 [.ref 1, .int (Int32.ofNat a)] [] m r h' → ∃ m1, h' = zhp m1 ∧ zfC m m1 ∧ cR m1 r (pPl (m 2) n c sT (j + 1) a g sb p) := by
  intro j
  induction j with
  | zero =>
    intro a d r h' m g sb p hj hq hV hg H
    replace H := i_iln (q := 25) H I_X2_readPlan_24 rfl rfl
    replace H := i_bip (x := 8) (q := 27) H I_X2_readPlan_25 (by decide) rfl
    have W := i_ic_gt (t := 121) (q := 30) H I_X2_readPlan_27 (by decide) rfl
    clear H
    rcases W with ⟨c_27, H⟩ | ⟨c_27, H⟩
    · skip
      replace H := i_icst (x := 0) (q := 122) H I_X2_readPlan_121 (by decide) rfl
      obtain ⟨hr, hh⟩ := i_ir H I_X2_readPlan_122
      exfalso
      exact absurd ((zofn_lt (i := 8) (by decide) (by omega)).mp c_27) (by omega)
    · skip
      replace H := i_aln (q := 31) H I_X2_readPlan_30 rfl rfl
      have W := i_cv0 1 (q := 34) H I_X2_readPlan_31 K_2_48 Zm_37 rfl rfl
      clear H
      obtain ⟨r1, h1, Hc, K1, K2⟩ := W
      obtain ⟨M_31, e1, e2, F_31⟩ := t_X2_next (n := n) (p := p) hq.1 hq.2.1 hq.2.2.1 hq.2.2.2 Hc
      have H := K2 _ e1 e2
      clear e1 e2 Hc K1 K2
      replace H := i_aln (q := 35) H I_X2_readPlan_34 rfl rfl
      replace H := i_gfi (q := 38) H I_X2_readPlan_35 G_2_51 cn_X2_readPlan LY_1 rfl rfl
      replace H := i_icst (x := 3) (q := 39) H I_X2_readPlan_38 (by decide) rfl
      have W := i_ic_ne (t := 44) (q := 42) H I_X2_readPlan_39 (by decide) rfl
      clear H
      rcases W with ⟨c_39, H⟩ | ⟨c_39, H⟩
      · skip
        replace H := i_aln (q := 45) H I_X2_readPlan_44 rfl rfl
        replace H := i_gfi (q := 48) H I_X2_readPlan_45 G_2_51 cn_X2_readPlan LY_1 rfl rfl
        replace H := i_icst (x := 2) (q := 49) H I_X2_readPlan_48 (by decide) rfl
        have W := i_ic_eq (t := 57) (q := 52) H I_X2_readPlan_49 (by decide) rfl
        clear H
        rcases W with ⟨c_49, H⟩ | ⟨c_49, H⟩
        · skip
          replace H := i_iln (q := 58) H I_X2_readPlan_57 rfl rfl
          replace H := i_bip (x := 8) (q := 60) H I_X2_readPlan_58 (by decide) rfl
          have W := i_ic_lt (t := 73) (q := 63) H I_X2_readPlan_60 (by decide) rfl
          clear H
          rcases W with ⟨c_60, H⟩ | ⟨c_60, H⟩
          · skip
            replace H := i_aln (q := 74) H I_X2_readPlan_73 rfl rfl
            replace H := i_gfi (q := 77) H I_X2_readPlan_74 G_2_105 cn_X2_readPlan LY_1 rfl rfl
            replace H := i_bip (x := 31) (q := 79) H I_X2_readPlan_77 (by decide) rfl
            have W := i_ic_le (t := 92) (q := 82) H I_X2_readPlan_79 (by decide) rfl
            clear H
            rcases W with ⟨c_79, H⟩ | ⟨c_79, H⟩
            · skip
              replace H := i_aln (q := 93) H I_X2_readPlan_92 rfl rfl
              replace H := i_gfr (q := 96) H I_X2_readPlan_93 G_2_18 cn_X2_readPlan LY_1 rfl rfl
              replace H := i_gfr (q := 99) H I_X2_readPlan_96 G_2_64 cn_X2_readPlan LY_3 rfl rfl
              replace H := i_iln (q := 100) H I_X2_readPlan_99 rfl rfl
              replace H := i_aln (q := 101) H I_X2_readPlan_100 rfl rfl
              replace H := i_gfi (q := 104) H I_X2_readPlan_101 G_2_105 cn_X2_readPlan LY_1 rfl rfl
              have W := i_iast (q := 105) H I_X2_readPlan_104 LY_5 rfl
              clear H
              obtain ⟨i_104, bi_104, ei_104, H⟩ := W
              replace H := i_aln (q := 106) H I_X2_readPlan_105 rfl rfl
              replace H := i_gfr (q := 109) H I_X2_readPlan_106 G_2_18 cn_X2_readPlan LY_1 rfl rfl
              replace H := i_iln (q := 110) H I_X2_readPlan_109 rfl rfl
              replace H := i_icst (x := 1) (q := 111) H I_X2_readPlan_110 (by decide) rfl
              replace H := i_iadd (q := 112) H I_X2_readPlan_111 rfl
              replace H := i_pf (q := 115) H I_X2_readPlan_112 G_2_61 cn_X2_readPlan LY_3 rfl rfl
              replace H := i_inc (q := 118) H I_X2_readPlan_115 rfl rfl rfl
              replace H := i_goto (q := 24) H I_X2_readPlan_118 (by decide)
              have h8 : a < 8 := (zofn_lt (j := 8) (by omega) (by decide)).mp c_60
              omega
            · skip
              replace H := i_aln (q := 83) H I_X2_readPlan_82 rfl rfl
              replace H := i_icst (x := 3) (q := 84) H I_X2_readPlan_83 (by decide) rfl
              replace H := i_aln (q := 85) H I_X2_readPlan_84 rfl rfl
              replace H := i_gfi (q := 88) H I_X2_readPlan_85 G_2_102 cn_X2_readPlan LY_1 rfl rfl
              have W := i_cv2 0 (q := 91) H I_X2_readPlan_88 K_2_74 Zm_27 rfl rfl
              clear H
              obtain ⟨r1, h1, Hc, K1, K2⟩ := W
              obtain ⟨e1, e2⟩ := t_X2_fail Hc
              have H := K1 _ _ e1 e2
              clear e1 e2 Hc K1 K2
              obtain ⟨hr, hh⟩ := i_ir H I_X2_readPlan_91
              have h8 : a < 8 := (zofn_lt (j := 8) (by omega) (by decide)).mp c_60
              omega
          · skip
            replace H := i_aln (q := 64) H I_X2_readPlan_63 rfl rfl
            replace H := i_icst (x := 5) (q := 65) H I_X2_readPlan_64 (by decide) rfl
            replace H := i_aln (q := 66) H I_X2_readPlan_65 rfl rfl
            replace H := i_gfi (q := 69) H I_X2_readPlan_66 G_2_102 cn_X2_readPlan LY_1 rfl rfl
            have W := i_cv2 0 (q := 72) H I_X2_readPlan_69 K_2_74 Zm_27 rfl rfl
            clear H
            obtain ⟨r1, h1, Hc, K1, K2⟩ := W
            obtain ⟨e1, e2⟩ := t_X2_fail Hc
            have H := K1 _ _ e1 e2
            clear e1 e2 Hc K1 K2
            obtain ⟨hr, hh⟩ := i_ir H I_X2_readPlan_72
            obtain ⟨f6, f7, f8, f9, ff⟩ := F_31
            have f49 : zf49 m M_31 := fun a b hab => ff a b (by omega)
            rw [f7] at c_39
            rw [f7] at c_49
            have h8 : 8 ≤ a := Nat.le_of_not_lt (fun w => c_60 ((zofn_lt (j := 8) (by omega) (by decide)).mpr w))
            rw [f8] at hh
            refine ⟨_, hh, zfC_t (zfC_4 f49) (fun a b x y => by rw [zup_n (by omega), zup_n (by omega)]), ?_⟩
            rw [show pPl (m 2) n c sT (0 + 1) a g sb p = .inl (5, tS (m 2) n p) by rw [pPl, if_neg c_39, if_pos c_49, if_pos h8]]
            exact ⟨hr, by rw [zup_n (by omega), zup_s], by rw [zup_s]⟩
        · skip
          replace H := i_aln (q := 53) H I_X2_readPlan_52 rfl rfl
          have W := i_cv0 0 (q := 56) H I_X2_readPlan_53 K_2_82 Zm_30 rfl rfl
          clear H
          obtain ⟨r1, h1, Hc, K1, K2⟩ := W
          obtain ⟨e1, e2⟩ := t_X2_failToken Hc
          have H := K1 _ _ e1 e2
          clear e1 e2 Hc K1 K2
          obtain ⟨hr, hh⟩ := i_ir H I_X2_readPlan_56
          obtain ⟨f6, f7, f8, f9, ff⟩ := F_31
          have f49 : zf49 m M_31 := fun a b hab => ff a b (by omega)
          rw [f7] at c_39
          rw [f7] at c_49
          rw [f7, f8] at hh
          refine ⟨_, hh, zfC_t (zfC_4 f49) (fun a b x y => by rw [zup_n (by omega), zup_n (by omega)]), ?_⟩
          rw [show pPl (m 2) n c sT (0 + 1) a g sb p = .inl (zft (m 2) n p) by simp [pPl, c_39, c_49]]
          exact ⟨hr, by rw [zup_n (by omega), zup_s]; rfl, by rw [zup_s]; rfl⟩
      · skip
        replace H := i_icst (x := 1) (q := 43) H I_X2_readPlan_42 (by decide) rfl
        obtain ⟨hr, hh⟩ := i_ir H I_X2_readPlan_43
        obtain ⟨f6, f7, f8, f9, ff⟩ := F_31
        have f49 : zf49 m M_31 := fun a b hab => ff a b (by omega)
        rw [f7] at c_39
        refine ⟨_, hh, zfC_4 f49, ?_⟩
        rw [show pPl (m 2) n c sT (0 + 1) a g sb p = .inr ((c, g, sT, true, sb), tN (m 2) n p) by simp [pPl, c_39]]
        exact ⟨hr, cV_f hV f49 (ff 1 4 (by omega)), f6, Nat.le_trans (tN_le hq.2.2.2) hq.2.1⟩
  | succ j ih =>
    intro a d r h' m g sb p hj hq hV hg H
    replace H := i_iln (q := 25) H I_X2_readPlan_24 rfl rfl
    replace H := i_bip (x := 8) (q := 27) H I_X2_readPlan_25 (by decide) rfl
    have W := i_ic_gt (t := 121) (q := 30) H I_X2_readPlan_27 (by decide) rfl
    clear H
    rcases W with ⟨c_27, H⟩ | ⟨c_27, H⟩
    · skip
      replace H := i_icst (x := 0) (q := 122) H I_X2_readPlan_121 (by decide) rfl
      obtain ⟨hr, hh⟩ := i_ir H I_X2_readPlan_122
      exfalso
      exact absurd ((zofn_lt (i := 8) (by decide) (by omega)).mp c_27) (by omega)
    · skip
      replace H := i_aln (q := 31) H I_X2_readPlan_30 rfl rfl
      have W := i_cv0 1 (q := 34) H I_X2_readPlan_31 K_2_48 Zm_37 rfl rfl
      clear H
      obtain ⟨r1, h1, Hc, K1, K2⟩ := W
      obtain ⟨M_31, e1, e2, F_31⟩ := t_X2_next (n := n) (p := p) hq.1 hq.2.1 hq.2.2.1 hq.2.2.2 Hc
      have H := K2 _ e1 e2
      clear e1 e2 Hc K1 K2
      replace H := i_aln (q := 35) H I_X2_readPlan_34 rfl rfl
      replace H := i_gfi (q := 38) H I_X2_readPlan_35 G_2_51 cn_X2_readPlan LY_1 rfl rfl
      replace H := i_icst (x := 3) (q := 39) H I_X2_readPlan_38 (by decide) rfl
      have W := i_ic_ne (t := 44) (q := 42) H I_X2_readPlan_39 (by decide) rfl
      clear H
      rcases W with ⟨c_39, H⟩ | ⟨c_39, H⟩
      · skip
        replace H := i_aln (q := 45) H I_X2_readPlan_44 rfl rfl
        replace H := i_gfi (q := 48) H I_X2_readPlan_45 G_2_51 cn_X2_readPlan LY_1 rfl rfl
        replace H := i_icst (x := 2) (q := 49) H I_X2_readPlan_48 (by decide) rfl
        have W := i_ic_eq (t := 57) (q := 52) H I_X2_readPlan_49 (by decide) rfl
        clear H
        rcases W with ⟨c_49, H⟩ | ⟨c_49, H⟩
        · skip
          replace H := i_iln (q := 58) H I_X2_readPlan_57 rfl rfl
          replace H := i_bip (x := 8) (q := 60) H I_X2_readPlan_58 (by decide) rfl
          have W := i_ic_lt (t := 73) (q := 63) H I_X2_readPlan_60 (by decide) rfl
          clear H
          rcases W with ⟨c_60, H⟩ | ⟨c_60, H⟩
          · skip
            replace H := i_aln (q := 74) H I_X2_readPlan_73 rfl rfl
            replace H := i_gfi (q := 77) H I_X2_readPlan_74 G_2_105 cn_X2_readPlan LY_1 rfl rfl
            replace H := i_bip (x := 31) (q := 79) H I_X2_readPlan_77 (by decide) rfl
            have W := i_ic_le (t := 92) (q := 82) H I_X2_readPlan_79 (by decide) rfl
            clear H
            rcases W with ⟨c_79, H⟩ | ⟨c_79, H⟩
            · skip
              replace H := i_aln (q := 93) H I_X2_readPlan_92 rfl rfl
              replace H := i_gfr (q := 96) H I_X2_readPlan_93 G_2_18 cn_X2_readPlan LY_1 rfl rfl
              replace H := i_gfr (q := 99) H I_X2_readPlan_96 G_2_64 cn_X2_readPlan LY_3 rfl rfl
              replace H := i_iln (q := 100) H I_X2_readPlan_99 rfl rfl
              replace H := i_aln (q := 101) H I_X2_readPlan_100 rfl rfl
              replace H := i_gfi (q := 104) H I_X2_readPlan_101 G_2_105 cn_X2_readPlan LY_1 rfl rfl
              have W := i_iast (q := 105) H I_X2_readPlan_104 LY_5 rfl
              clear H
              obtain ⟨i_104, bi_104, ei_104, H⟩ := W
              replace H := i_aln (q := 106) H I_X2_readPlan_105 rfl rfl
              replace H := i_gfr (q := 109) H I_X2_readPlan_106 G_2_18 cn_X2_readPlan LY_1 rfl rfl
              replace H := i_iln (q := 110) H I_X2_readPlan_109 rfl rfl
              replace H := i_icst (x := 1) (q := 111) H I_X2_readPlan_110 (by decide) rfl
              replace H := i_iadd (q := 112) H I_X2_readPlan_111 rfl
              replace H := i_pf (q := 115) H I_X2_readPlan_112 G_2_61 cn_X2_readPlan LY_3 rfl rfl
              replace H := i_inc (q := 118) H I_X2_readPlan_115 rfl rfl rfl
              replace H := i_goto (q := 24) H I_X2_readPlan_118 (by decide)
              obtain ⟨f6, f7, f8, f9, ff⟩ := F_31
              have f49 : zf49 m M_31 := fun a b hab => ff a b (by omega)
              rw [f7] at c_39
              rw [f7] at c_49
              have h8 : a < 8 := (zofn_lt (j := 8) (by omega) (by decide)).mp c_60
              rw [f9 c_49] at c_79
              have ea : a = i_104 := zofn ei_104 (by omega) (by omega)
              subst ea
              rw [f9 c_49, zofn_1] at H
              replace H : zE none d zm_X2_readPlan 24 [.ref 1, .int (Int32.ofNat (a + 1))] [] (zup (zup M_31 5 a (tV (m 2) n p)) 3 3 (Int32.ofNat (a + 1))) r h' := by
                rw [zofn_s] at H
                exact H
              have e2 : zup (zup M_31 5 a (tV (m 2) n p)) 3 3 (Int32.ofNat (a + 1)) 2 = m 2 := by
                funext b
                rw [zup_n (by omega), zup_n (by omega), f49 2 b (by omega)]
              obtain ⟨q1, q2, q3, q4, q5, q6, ⟨x, a1, a2, a3, a4, a5, a6⟩, q8, q9, q10⟩ := cV_f hV f49 (ff 1 4 (by omega))
              rw [hg] at a2
              have ex : x = a := zofn a2.symm (by omega) (by omega)
              subst ex
              obtain ⟨m1, g1, g2, g3⟩ := ih (x + 1) d r h' _ (gset (gset g (18 + x) (tV (m 2) n p)) 26 (Int32.ofNat (x + 1))) (sb ||| tV (m 2) n p) (tN (m 2) n p) (by omega) ⟨by rw [zup_n (by omega), zup_n (by omega), f49 1 2 (by omega)]; exact hq.1, hq.2.1, by rw [zup_n (by omega), zup_n (by omega)]; exact f6, tN_le hq.2.2.2⟩ (by
                refine ⟨by rw [zup_n (by omega), zup_n (by omega)]; exact q1, q2, fun i hi => ?_, ?_, ?_, ?_, ⟨x + 1, by omega, by rw [gset_s], by rw [zup_s], fun i hi => ?_, fun w => by simp at w, ?_⟩, ?_, ?_, ?_⟩
                · obtain ⟨y0, y1, y2⟩ := q3 i hi
                  have hi5 : i < 5 := by omega
                  refine ⟨?_, ?_, ?_⟩
                  · rw [zup_n (by omega), zup_n (by omega), gset_n (by omega), gset_n (by omega), y0]
                  · rw [zup_n (by omega), zup_n (by omega), gset_n (by omega), gset_n (by omega), y1]
                  · rw [zup_n (by omega), zup_n (by omega), gset_n (by omega), gset_n (by omega), y2]
                · rw [zup_n (by omega), zup_n (by omega), gset_n (by omega), gset_n (by omega), q4]
                · rw [zup_n (by omega), zup_n (by omega), gset_n (by omega), gset_n (by omega), q5]
                · rw [zup_n (by omega), zup_n (by omega), gset_n (by omega), gset_n (by omega), q6]
                · rw [zup_n (by omega), gset_n (by omega)]
                  by_cases hix : i = x
                  · subst hix
                    rw [zup_s, gset_s]
                  · rw [zup_n (by omega), gset_n (by omega), a4 i (by omega)]
                · show sb ||| tV (m 2) n p = zorf _ x ||| _
                  rw [zup_n (by omega), zup_s, a6]
                  congr 1
                  exact zorf_c (fun i hi => by rw [zup_n (by omega), zup_n (by omega)])
                · rw [zup_n (by omega), zup_n (by omega), q8]
                · rw [zup_n (by omega), zup_n (by omega), q9]
                · rw [zup_n (by omega), zup_n (by omega), q10]) (by rw [gset_s]) H
              refine ⟨m1, g1, zfC_t (zfC_4 f49) (zfC_t (fun a b y z => by rw [zup_n (by omega), zup_n (by omega)]) g2), ?_⟩
              rw [e2] at g3
              rw [pPl, if_neg c_39, if_pos c_49, if_neg (by omega), if_neg c_79]
              exact g3
            · skip
              replace H := i_aln (q := 83) H I_X2_readPlan_82 rfl rfl
              replace H := i_icst (x := 3) (q := 84) H I_X2_readPlan_83 (by decide) rfl
              replace H := i_aln (q := 85) H I_X2_readPlan_84 rfl rfl
              replace H := i_gfi (q := 88) H I_X2_readPlan_85 G_2_102 cn_X2_readPlan LY_1 rfl rfl
              have W := i_cv2 0 (q := 91) H I_X2_readPlan_88 K_2_74 Zm_27 rfl rfl
              clear H
              obtain ⟨r1, h1, Hc, K1, K2⟩ := W
              obtain ⟨e1, e2⟩ := t_X2_fail Hc
              have H := K1 _ _ e1 e2
              clear e1 e2 Hc K1 K2
              obtain ⟨hr, hh⟩ := i_ir H I_X2_readPlan_91
              obtain ⟨f6, f7, f8, f9, ff⟩ := F_31
              have f49 : zf49 m M_31 := fun a b hab => ff a b (by omega)
              rw [f7] at c_39
              rw [f7] at c_49
              have h8 : a < 8 := (zofn_lt (j := 8) (by omega) (by decide)).mp c_60
              rw [f9 c_49] at c_79
              rw [f8] at hh
              refine ⟨_, hh, zfC_t (zfC_4 f49) (fun a b x y => by rw [zup_n (by omega), zup_n (by omega)]), ?_⟩
              rw [show pPl (m 2) n c sT (j + 1 + 1) a g sb p = .inl (3, tS (m 2) n p) by rw [pPl, if_neg c_39, if_pos c_49, if_neg (by omega), if_pos c_79]]
              exact ⟨hr, by rw [zup_n (by omega), zup_s], by rw [zup_s]⟩
          · skip
            replace H := i_aln (q := 64) H I_X2_readPlan_63 rfl rfl
            replace H := i_icst (x := 5) (q := 65) H I_X2_readPlan_64 (by decide) rfl
            replace H := i_aln (q := 66) H I_X2_readPlan_65 rfl rfl
            replace H := i_gfi (q := 69) H I_X2_readPlan_66 G_2_102 cn_X2_readPlan LY_1 rfl rfl
            have W := i_cv2 0 (q := 72) H I_X2_readPlan_69 K_2_74 Zm_27 rfl rfl
            clear H
            obtain ⟨r1, h1, Hc, K1, K2⟩ := W
            obtain ⟨e1, e2⟩ := t_X2_fail Hc
            have H := K1 _ _ e1 e2
            clear e1 e2 Hc K1 K2
            obtain ⟨hr, hh⟩ := i_ir H I_X2_readPlan_72
            obtain ⟨f6, f7, f8, f9, ff⟩ := F_31
            have f49 : zf49 m M_31 := fun a b hab => ff a b (by omega)
            rw [f7] at c_39
            rw [f7] at c_49
            have h8 : 8 ≤ a := Nat.le_of_not_lt (fun w => c_60 ((zofn_lt (j := 8) (by omega) (by decide)).mpr w))
            rw [f8] at hh
            refine ⟨_, hh, zfC_t (zfC_4 f49) (fun a b x y => by rw [zup_n (by omega), zup_n (by omega)]), ?_⟩
            rw [show pPl (m 2) n c sT (j + 1 + 1) a g sb p = .inl (5, tS (m 2) n p) by rw [pPl, if_neg c_39, if_pos c_49, if_pos h8]]
            exact ⟨hr, by rw [zup_n (by omega), zup_s], by rw [zup_s]⟩
        · skip
          replace H := i_aln (q := 53) H I_X2_readPlan_52 rfl rfl
          have W := i_cv0 0 (q := 56) H I_X2_readPlan_53 K_2_82 Zm_30 rfl rfl
          clear H
          obtain ⟨r1, h1, Hc, K1, K2⟩ := W
          obtain ⟨e1, e2⟩ := t_X2_failToken Hc
          have H := K1 _ _ e1 e2
          clear e1 e2 Hc K1 K2
          obtain ⟨hr, hh⟩ := i_ir H I_X2_readPlan_56
          obtain ⟨f6, f7, f8, f9, ff⟩ := F_31
          have f49 : zf49 m M_31 := fun a b hab => ff a b (by omega)
          rw [f7] at c_39
          rw [f7] at c_49
          rw [f7, f8] at hh
          refine ⟨_, hh, zfC_t (zfC_4 f49) (fun a b x y => by rw [zup_n (by omega), zup_n (by omega)]), ?_⟩
          rw [show pPl (m 2) n c sT (j + 1 + 1) a g sb p = .inl (zft (m 2) n p) by simp [pPl, c_39, c_49]]
          exact ⟨hr, by rw [zup_n (by omega), zup_s]; rfl, by rw [zup_s]; rfl⟩
      · skip
        replace H := i_icst (x := 1) (q := 43) H I_X2_readPlan_42 (by decide) rfl
        obtain ⟨hr, hh⟩ := i_ir H I_X2_readPlan_43
        obtain ⟨f6, f7, f8, f9, ff⟩ := F_31
        have f49 : zf49 m M_31 := fun a b hab => ff a b (by omega)
        rw [f7] at c_39
        refine ⟨_, hh, zfC_4 f49, ?_⟩
        rw [show pPl (m 2) n c sT (j + 1 + 1) a g sb p = .inr ((c, g, sT, true, sb), tN (m 2) n p) by simp [pPl, c_39]]
        exact ⟨hr, cV_f hV f49 (ff 1 4 (by omega)), f6, Nat.le_trans (tN_le hq.2.2.2) hq.2.1⟩
theorem t_X2_readPlan {d : Nat} {m : zM} {r : Option Value} {h' : zHp} {n p s c : Nat} {g : Nat → Int32} {sT pT : Bool} {sb : Int32} (hq : zPl m n p) (hs : m 1 8 = Int32.ofNat s) (hV : cV m c g sT pT sb) (H : zE none d zm_X2_readPlan 0 [.ref 1, .null] [] m r h') : ∃ m1, h' = zhp m1 ∧ zfC m m1 ∧ cR m1 r (pPlan (m 2) n (c, g, sT, pT, sb) s p) := by
  replace H := i_aln (q := 1) H I_X2_readPlan_0 rfl rfl
  replace H := i_gfi (q := 4) H I_X2_readPlan_1 G_2_45 cn_X2_readPlan LY_1 rfl rfl
  have W := i_if_eq (t := 17) (q := 7) H I_X2_readPlan_4 (by decide) rfl
  clear H
  rcases W with ⟨c_4, H⟩ | ⟨c_4, H⟩
  · skip
    replace H := i_aln (q := 18) H I_X2_readPlan_17 rfl rfl
    replace H := i_icst (x := 1) (q := 19) H I_X2_readPlan_18 (by decide) rfl
    replace H := i_pf (q := 22) H I_X2_readPlan_19 G_2_45 cn_X2_readPlan LY_1 rfl rfl
    replace H := i_icst (x := 0) (q := 23) H I_X2_readPlan_22 (by decide) rfl
    replace H := i_isn (q := 24) H I_X2_readPlan_23 rfl rfl
    rw [hV.2.2.2.2.2.2.2.2.1] at c_4
    have hT : pT = false := by cases pT <;> simp_all [zbi]
    have e2 : zup m 1 12 1 2 = m 2 := by
      funext b
      rw [zup_n (by omega)]
    obtain ⟨q1, q2, q3, q4, q5, q6, ⟨x, a1, a2, a3, a4, a5, a6⟩, q8, q9, q10⟩ := hV
    have x0 := a5 hT
    subst x0
    obtain ⟨m1, g1, g2, g3⟩ := rp_loop (n := n) (c := c) (sT := sT) 8 0 d r h' _ g sb p rfl ⟨by rw [zup_n (by omega)]; exact hq.1, hq.2.1, by rw [zup_n (by omega)]; exact hq.2.2.1, hq.2.2.2⟩ (by
      refine ⟨by rw [zup_n (by omega)]; exact q1, q2, fun i hi => ?_, ?_, ?_, ?_, ⟨0, a1, a2, ?_, fun i hi => ?_, fun _ => rfl, a6⟩, ?_, ?_, ?_⟩
      · obtain ⟨y0, y1, y2⟩ := q3 i hi
        refine ⟨?_, ?_, ?_⟩
        · rw [zup_n (by omega), y0]
        · rw [zup_n (by omega), y1]
        · rw [zup_n (by omega), y2]
      · rw [zup_n (by omega), q4]
      · rw [zup_n (by omega), q5]
      · rw [zup_n (by omega), q6]
      · rw [zup_n (by omega), a3]
      · omega
      · rw [zup_n (by omega), q8]
      · rw [zup_s]; rfl
      · rw [zup_n (by omega), q10]) a2 H
    refine ⟨m1, g1, zfC_t (fun a b y z => by rw [zup_n (by omega)]) g2, ?_⟩
    rw [e2] at g3
    rw [show pPlan (m 2) n (c, g, sT, pT, sb) s p = pPl (m 2) n c sT 9 0 g sb p by simp [pPlan, hT]]
    exact g3
  · skip
    replace H := i_aln (q := 8) H I_X2_readPlan_7 rfl rfl
    replace H := i_icst (x := 4) (q := 9) H I_X2_readPlan_8 (by decide) rfl
    replace H := i_aln (q := 10) H I_X2_readPlan_9 rfl rfl
    replace H := i_gfi (q := 13) H I_X2_readPlan_10 G_2_102 cn_X2_readPlan LY_1 rfl rfl
    have W := i_cv2 0 (q := 16) H I_X2_readPlan_13 K_2_74 Zm_27 rfl rfl
    clear H
    obtain ⟨r1, h1, Hc, K1, K2⟩ := W
    obtain ⟨e1, e2⟩ := t_X2_fail Hc
    have H := K1 _ _ e1 e2
    clear e1 e2 Hc K1 K2
    obtain ⟨hr, hh⟩ := i_ir H I_X2_readPlan_16
    rw [hV.2.2.2.2.2.2.2.2.1] at c_4
    have hT : pT = true := by cases pT <;> simp_all [zbi]
    rw [hs] at hh
    refine ⟨_, hh, fun a b h1 h2 => by rw [zup_n (by omega), zup_n (by omega)], ?_⟩
    rw [show pPlan (m 2) n (c, g, sT, pT, sb) s p = .inl (4, s) by simp [pPlan, hT]]
    exact ⟨hr, by rw [zup_n (by omega), zup_s], by rw [zup_s]⟩
theorem zwf_le {t : Nat → Int32} {s e : Nat} : ∀ (k w : Nat), zwf t s e k w ≤ w + k
  | 0, w => Nat.le_refl w
  | k + 1, w => by
    simp only [zwf]
    split
    · omega
    · have := zwf_le (t := t) (s := s) (e := e) k (w + 1)
      omega
theorem zword_le {t : Nat → Int32} {s e : Nat} : zword t s e ≤ 7 := zwf_le 7 0
theorem zofn_eq {i j : Nat} (h : Int32.ofNat i = Int32.ofNat j) (hi : i ≤ 1000) (hj : j ≤ 1000) : i = j := zofn h (by omega) (by omega)
theorem t_X2_readLine {d : Nat} {m : zM} {r : Option Value} {h' : zHp} {n p c : Nat} {g : Nat → Int32} {sT pT : Bool} {sb : Int32} (hn : m 1 2 = Int32.ofNat n) (hn2 : n ≤ 160) (hpn : p ≤ n) (h6 : m 1 6 = Int32.ofNat (tN (m 2) n p)) (h7 : m 1 7 = tK (m 2) n p) (h8 : m 1 8 = Int32.ofNat (tS (m 2) n p)) (hV : cV m c g sT pT sb) (H : zE none d zm_X2_readLine 0 [.ref 1, .null] [] m r h') : ∃ m1, h' = zhp m1 ∧ zfC m m1 ∧ cR m1 r (pLn (m 2) n (c, g, sT, pT, sb) p) := by
  replace H := i_aln (q := 1) H I_X2_readLine_0 rfl rfl
  replace H := i_gfi (q := 4) H I_X2_readLine_1 G_2_51 cn_X2_readLine LY_1 rfl rfl
  replace H := i_icst (x := 1) (q := 5) H I_X2_readLine_4 (by decide) rfl
  have W := i_ic_eq (t := 13) (q := 8) H I_X2_readLine_5 (by decide) rfl
  clear H
  rcases W with ⟨c_5, H⟩ | ⟨c_5, H⟩
  · skip
    replace H := i_aln (q := 14) H I_X2_readLine_13 rfl rfl
    have W := i_cv0 1 (q := 17) H I_X2_readLine_14 K_2_85 Zm_40 rfl rfl
    clear H
    obtain ⟨r1, h1, Hc, K1, K2⟩ := W
    obtain ⟨e1, e2⟩ := t_X2_word h8 h6 tN_ge (Nat.le_trans (tN_le hpn) hn2) Hc
    have H := K1 _ _ e1 e2
    clear e1 e2 Hc K1 K2
    replace H := i_isn (q := 18) H I_X2_readLine_17 rfl rfl
    replace H := i_iln (q := 19) H I_X2_readLine_18 rfl rfl
    have W := i_ts1 0 (q := 60) H I_X2_readLine_19 (by decide) rfl (by decide)
    clear H
    rcases W with ⟨w_19_0, H⟩ | ⟨w_19_0, H⟩
    · skip
      replace H := i_aln (q := 61) H I_X2_readLine_60 rfl rfl
      replace H := i_iln (q := 62) H I_X2_readLine_61 rfl rfl
      have W := i_cv1 1 (q := 65) H I_X2_readLine_62 K_2_89 Zm_33 rfl rfl
      clear H
      obtain ⟨r1, h1, Hc, K1, K2⟩ := W
      obtain ⟨M_62, e2, F_62, R_62⟩ := t_X2_readOne (sb := sb) (⟨hn, hn2, h6, tN_le hpn⟩ : zPl m n (tN (m 2) n p)) h8 hV Hc
      have e1 := cR_v R_62
      have H := K1 _ _ e1 e2
      clear e1 e2 Hc K1 K2
      obtain ⟨hr, hh⟩ := i_ir H I_X2_readLine_65
      rw [h7] at c_5
      have zw : zword (m 2) (tS (m 2) n p) (tN (m 2) n p) = 0 := zofn (j := 0) w_19_0 (by have := zword_le (t := m 2) (s := tS (m 2) n p) (e := tN (m 2) n p); omega) (by decide)
      refine ⟨_, hh, F_62, ?_⟩
      rw [pLn, if_pos c_5]
      simp only [zw] at R_62 hr ⊢
      exact cR_r hr R_62
    · skip
      have W := i_ts1 1 (q := 60) H I_X2_readLine_19 (by decide) rfl (by decide)
      clear H
      rcases W with ⟨w_19_1, H⟩ | ⟨w_19_1, H⟩
      · skip
        replace H := i_aln (q := 61) H I_X2_readLine_60 rfl rfl
        replace H := i_iln (q := 62) H I_X2_readLine_61 rfl rfl
        have W := i_cv1 1 (q := 65) H I_X2_readLine_62 K_2_89 Zm_33 rfl rfl
        clear H
        obtain ⟨r1, h1, Hc, K1, K2⟩ := W
        obtain ⟨M_62, e2, F_62, R_62⟩ := t_X2_readOne (sb := sb) (⟨hn, hn2, h6, tN_le hpn⟩ : zPl m n (tN (m 2) n p)) h8 hV Hc
        have e1 := cR_v R_62
        have H := K1 _ _ e1 e2
        clear e1 e2 Hc K1 K2
        obtain ⟨hr, hh⟩ := i_ir H I_X2_readLine_65
        rw [h7] at c_5
        have zw : zword (m 2) (tS (m 2) n p) (tN (m 2) n p) = 1 := zofn (j := 1) w_19_1 (by have := zword_le (t := m 2) (s := tS (m 2) n p) (e := tN (m 2) n p); omega) (by decide)
        refine ⟨_, hh, F_62, ?_⟩
        rw [pLn, if_pos c_5]
        simp only [zw] at R_62 hr ⊢
        exact cR_r hr R_62
      · skip
        have W := i_ts1 2 (q := 60) H I_X2_readLine_19 (by decide) rfl (by decide)
        clear H
        rcases W with ⟨w_19_2, H⟩ | ⟨w_19_2, H⟩
        · skip
          replace H := i_aln (q := 61) H I_X2_readLine_60 rfl rfl
          replace H := i_iln (q := 62) H I_X2_readLine_61 rfl rfl
          have W := i_cv1 1 (q := 65) H I_X2_readLine_62 K_2_89 Zm_33 rfl rfl
          clear H
          obtain ⟨r1, h1, Hc, K1, K2⟩ := W
          obtain ⟨M_62, e2, F_62, R_62⟩ := t_X2_readOne (sb := sb) (⟨hn, hn2, h6, tN_le hpn⟩ : zPl m n (tN (m 2) n p)) h8 hV Hc
          have e1 := cR_v R_62
          have H := K1 _ _ e1 e2
          clear e1 e2 Hc K1 K2
          obtain ⟨hr, hh⟩ := i_ir H I_X2_readLine_65
          rw [h7] at c_5
          have zw : zword (m 2) (tS (m 2) n p) (tN (m 2) n p) = 2 := zofn (j := 2) w_19_2 (by have := zword_le (t := m 2) (s := tS (m 2) n p) (e := tN (m 2) n p); omega) (by decide)
          refine ⟨_, hh, F_62, ?_⟩
          rw [pLn, if_pos c_5]
          simp only [zw] at R_62 hr ⊢
          exact cR_r hr R_62
        · skip
          have W := i_ts1 3 (q := 60) H I_X2_readLine_19 (by decide) rfl (by decide)
          clear H
          rcases W with ⟨w_19_3, H⟩ | ⟨w_19_3, H⟩
          · skip
            replace H := i_aln (q := 61) H I_X2_readLine_60 rfl rfl
            replace H := i_iln (q := 62) H I_X2_readLine_61 rfl rfl
            have W := i_cv1 1 (q := 65) H I_X2_readLine_62 K_2_89 Zm_33 rfl rfl
            clear H
            obtain ⟨r1, h1, Hc, K1, K2⟩ := W
            obtain ⟨M_62, e2, F_62, R_62⟩ := t_X2_readOne (sb := sb) (⟨hn, hn2, h6, tN_le hpn⟩ : zPl m n (tN (m 2) n p)) h8 hV Hc
            have e1 := cR_v R_62
            have H := K1 _ _ e1 e2
            clear e1 e2 Hc K1 K2
            obtain ⟨hr, hh⟩ := i_ir H I_X2_readLine_65
            rw [h7] at c_5
            have zw : zword (m 2) (tS (m 2) n p) (tN (m 2) n p) = 3 := zofn (j := 3) w_19_3 (by have := zword_le (t := m 2) (s := tS (m 2) n p) (e := tN (m 2) n p); omega) (by decide)
            refine ⟨_, hh, F_62, ?_⟩
            rw [pLn, if_pos c_5]
            simp only [zw] at R_62 hr ⊢
            exact cR_r hr R_62
          · skip
            have W := i_ts1 4 (q := 66) H I_X2_readLine_19 (by decide) rfl (by decide)
            clear H
            rcases W with ⟨w_19_4, H⟩ | ⟨w_19_4, H⟩
            · skip
              replace H := i_aln (q := 67) H I_X2_readLine_66 rfl rfl
              have W := i_cv0 0 (q := 70) H I_X2_readLine_67 K_2_93 Zm_34 rfl rfl
              clear H
              obtain ⟨r1, h1, Hc, K1, K2⟩ := W
              obtain ⟨M_67, e2, F_67, R_67⟩ := t_X2_readLeft (sb := sb) (⟨hn, hn2, h6, tN_le hpn⟩ : zPl m n (tN (m 2) n p)) h8 hV Hc
              have e1 := cR_v R_67
              have H := K1 _ _ e1 e2
              clear e1 e2 Hc K1 K2
              obtain ⟨hr, hh⟩ := i_ir H I_X2_readLine_70
              rw [h7] at c_5
              have zw : zword (m 2) (tS (m 2) n p) (tN (m 2) n p) = 4 := zofn (j := 4) w_19_4 (by have := zword_le (t := m 2) (s := tS (m 2) n p) (e := tN (m 2) n p); omega) (by decide)
              refine ⟨_, hh, F_67, ?_⟩
              rw [pLn, if_pos c_5]
              simp only [zw] at R_67 hr ⊢
              exact cR_r hr R_67
            · skip
              have W := i_ts1 5 (q := 71) H I_X2_readLine_19 (by decide) rfl (by decide)
              clear H
              rcases W with ⟨w_19_5, H⟩ | ⟨w_19_5, H⟩
              · skip
                replace H := i_aln (q := 72) H I_X2_readLine_71 rfl rfl
                have W := i_cv0 0 (q := 75) H I_X2_readLine_72 K_2_96 Zm_35 rfl rfl
                clear H
                obtain ⟨r1, h1, Hc, K1, K2⟩ := W
                obtain ⟨M_72, e2, F_72, R_72⟩ := t_X2_readSlack (sb := sb) (⟨hn, hn2, h6, tN_le hpn⟩ : zPl m n (tN (m 2) n p)) h8 hV Hc
                have e1 := cR_v R_72
                have H := K1 _ _ e1 e2
                clear e1 e2 Hc K1 K2
                obtain ⟨hr, hh⟩ := i_ir H I_X2_readLine_75
                rw [h7] at c_5
                have zw : zword (m 2) (tS (m 2) n p) (tN (m 2) n p) = 5 := zofn (j := 5) w_19_5 (by have := zword_le (t := m 2) (s := tS (m 2) n p) (e := tN (m 2) n p); omega) (by decide)
                refine ⟨_, hh, F_72, ?_⟩
                rw [pLn, if_pos c_5]
                simp only [zw] at R_72 hr ⊢
                exact cR_r hr R_72
              · skip
                have W := i_ts1 6 (q := 76) H I_X2_readLine_19 (by decide) rfl (by decide)
                clear H
                rcases W with ⟨w_19_6, H⟩ | ⟨w_19_6, H⟩
                · skip
                  replace H := i_aln (q := 77) H I_X2_readLine_76 rfl rfl
                  have W := i_cv0 1 (q := 80) H I_X2_readLine_77 K_2_99 Zm_36 rfl rfl
                  clear H
                  obtain ⟨r1, h1, Hc, K1, K2⟩ := W
                  obtain ⟨M_77, e2, F_77, R_77⟩ := t_X2_readPlan (sb := sb) (⟨hn, hn2, h6, tN_le hpn⟩ : zPl m n (tN (m 2) n p)) h8 hV Hc
                  have e1 := cR_v R_77
                  have H := K1 _ _ e1 e2
                  clear e1 e2 Hc K1 K2
                  obtain ⟨hr, hh⟩ := i_ir H I_X2_readLine_80
                  rw [h7] at c_5
                  have zw : zword (m 2) (tS (m 2) n p) (tN (m 2) n p) = 6 := zofn (j := 6) w_19_6 (by have := zword_le (t := m 2) (s := tS (m 2) n p) (e := tN (m 2) n p); omega) (by decide)
                  refine ⟨_, hh, F_77, ?_⟩
                  rw [pLn, if_pos c_5]
                  simp only [zw] at R_77 hr ⊢
                  exact cR_r hr R_77
                · skip
                  replace H := i_tsd (q := 81) H I_X2_readLine_19 (by have q0 := zne w_19_0 (z := 0) (by decide); have q1 := zne w_19_1 (z := 1) (by decide); have q2 := zne w_19_2 (z := 2) (by decide); have q3 := zne w_19_3 (z := 3) (by decide); have q4 := zne w_19_4 (z := 4) (by decide); have q5 := zne w_19_5 (z := 5) (by decide); have q6 := zne w_19_6 (z := 6) (by decide); omega) (by decide)
                  replace H := i_aln (q := 82) H I_X2_readLine_81 rfl rfl
                  replace H := i_icst (x := 2) (q := 83) H I_X2_readLine_82 (by decide) rfl
                  replace H := i_aln (q := 84) H I_X2_readLine_83 rfl rfl
                  replace H := i_gfi (q := 87) H I_X2_readLine_84 G_2_102 cn_X2_readLine LY_1 rfl rfl
                  have W := i_cv2 0 (q := 90) H I_X2_readLine_87 K_2_74 Zm_27 rfl rfl
                  clear H
                  obtain ⟨r1, h1, Hc, K1, K2⟩ := W
                  obtain ⟨e1, e2⟩ := t_X2_fail Hc
                  have H := K1 _ _ e1 e2
                  clear e1 e2 Hc K1 K2
                  obtain ⟨hr, hh⟩ := i_ir H I_X2_readLine_90
                  rw [h7] at c_5
                  have z7 : zword (m 2) (tS (m 2) n p) (tN (m 2) n p) = 7 := by
                    have := zword_le (t := m 2) (s := tS (m 2) n p) (e := tN (m 2) n p)
                    rcases (by omega : zword (m 2) (tS (m 2) n p) (tN (m 2) n p) = 0 ∨ zword (m 2) (tS (m 2) n p) (tN (m 2) n p) = 1 ∨ zword (m 2) (tS (m 2) n p) (tN (m 2) n p) = 2 ∨ zword (m 2) (tS (m 2) n p) (tN (m 2) n p) = 3 ∨ zword (m 2) (tS (m 2) n p) (tN (m 2) n p) = 4 ∨ zword (m 2) (tS (m 2) n p) (tN (m 2) n p) = 5 ∨ zword (m 2) (tS (m 2) n p) (tN (m 2) n p) = 6 ∨ zword (m 2) (tS (m 2) n p) (tN (m 2) n p) = 7) with e | e | e | e | e | e | e | e
                    · rw [e] at w_19_0; exact absurd rfl w_19_0
                    · rw [e] at w_19_1; exact absurd rfl w_19_1
                    · rw [e] at w_19_2; exact absurd rfl w_19_2
                    · rw [e] at w_19_3; exact absurd rfl w_19_3
                    · rw [e] at w_19_4; exact absurd rfl w_19_4
                    · rw [e] at w_19_5; exact absurd rfl w_19_5
                    · rw [e] at w_19_6; exact absurd rfl w_19_6
                    · exact e
                  rw [h8] at hh
                  refine ⟨_, hh, fun a b x y => by rw [zup_n (by omega), zup_n (by omega)], ?_⟩
                  rw [show pLn (m 2) n (c, g, sT, pT, sb) p = .inl (2, tS (m 2) n p) by simp [pLn, c_5, z7]]
                  exact ⟨hr, by rw [zup_n (by omega), zup_s], by rw [zup_s]⟩
  · skip
    replace H := i_aln (q := 9) H I_X2_readLine_8 rfl rfl
    have W := i_cv0 0 (q := 12) H I_X2_readLine_9 K_2_82 Zm_30 rfl rfl
    clear H
    obtain ⟨r1, h1, Hc, K1, K2⟩ := W
    obtain ⟨e1, e2⟩ := t_X2_failToken Hc
    have H := K1 _ _ e1 e2
    clear e1 e2 Hc K1 K2
    obtain ⟨hr, hh⟩ := i_ir H I_X2_readLine_12
    rw [h7] at c_5
    rw [h7, h8] at hh
    refine ⟨_, hh, fun a b x y => by rw [zup_n (by omega), zup_n (by omega)], ?_⟩
    rw [show pLn (m 2) n (c, g, sT, pT, sb) p = .inl (zft (m 2) n p) by simp [pLn, c_5]]
    exact ⟨hr, by rw [zup_n (by omega), zup_s]; rfl, by rw [zup_s]; rfl⟩
end
section
/-! the class's text -/
theorem It_X0_become : zm_X0_become.2.2.2.2.2 = zt_X0_become := by
  unfold zm_X0_become
  rfl
theorem It_X0_clear : zm_X0_clear.2.2.2.2.2 = zt_X0_clear := by
  unfold zm_X0_clear
  rfl
theorem It_X0_useHands : zm_X0_useHands.2.2.2.2.2 = zt_X0_useHands := by
  unfold zm_X0_useHands
  rfl
theorem It_X2_allAreThere : zm_X2_allAreThere.2.2.2.2.2 = zt_X2_allAreThere := by
  unfold zm_X2_allAreThere
  rfl
theorem It_X2_readAll : zm_X2_readAll.2.2.2.2.2 = zt_X2_readAll := by
  unfold zm_X2_readAll
  rfl
theorem It_X7_text : zm_X7_text.2.2.2.2.2 = zt_X7_text := by
  unfold zm_X7_text
  rfl
theorem I_X0_become_0 : zin zm_X0_become.2.2.2.2.2 0 = some (.aload_n 0, 1) := by rw [It_X0_become]; rfl
theorem I_X0_become_1 : zin zm_X0_become.2.2.2.2.2 1 = some (.aload_n 1, 1) := by rw [It_X0_become]; rfl
theorem I_X0_become_2 : zin zm_X0_become.2.2.2.2.2 2 = some (.getfield 26, 3) := by rw [It_X0_become]; rfl
theorem I_X0_become_5 : zin zm_X0_become.2.2.2.2.2 5 = some (.putfield 26, 3) := by rw [It_X0_become]; rfl
theorem I_X0_become_8 : zin zm_X0_become.2.2.2.2.2 8 = some (.iconst 0, 1) := by rw [It_X0_become]; rfl
theorem I_X0_become_9 : zin zm_X0_become.2.2.2.2.2 9 = some (.istore_n 2, 1) := by rw [It_X0_become]; rfl
theorem I_X0_become_10 : zin zm_X0_become.2.2.2.2.2 10 = some (.iload_n 2, 1) := by rw [It_X0_become]; rfl
theorem I_X0_become_11 : zin zm_X0_become.2.2.2.2.2 11 = some (.aload_n 0, 1) := by rw [It_X0_become]; rfl
theorem I_X0_become_12 : zin zm_X0_become.2.2.2.2.2 12 = some (.getfield 26, 3) := by rw [It_X0_become]; rfl
theorem I_X0_become_15 : zin zm_X0_become.2.2.2.2.2 15 = some (.if_icmp .ge 24, 3) := by rw [It_X0_become]; rfl
theorem I_X0_become_18 : zin zm_X0_become.2.2.2.2.2 18 = some (.aload_n 0, 1) := by rw [It_X0_become]; rfl
theorem I_X0_become_19 : zin zm_X0_become.2.2.2.2.2 19 = some (.getfield 11, 3) := by rw [It_X0_become]; rfl
theorem I_X0_become_22 : zin zm_X0_become.2.2.2.2.2 22 = some (.iload_n 2, 1) := by rw [It_X0_become]; rfl
theorem I_X0_become_23 : zin zm_X0_become.2.2.2.2.2 23 = some (.aaload, 1) := by rw [It_X0_become]; rfl
theorem I_X0_become_24 : zin zm_X0_become.2.2.2.2.2 24 = some (.aload_n 1, 1) := by rw [It_X0_become]; rfl
theorem I_X0_become_25 : zin zm_X0_become.2.2.2.2.2 25 = some (.getfield 11, 3) := by rw [It_X0_become]; rfl
theorem I_X0_become_28 : zin zm_X0_become.2.2.2.2.2 28 = some (.iload_n 2, 1) := by rw [It_X0_become]; rfl
theorem I_X0_become_29 : zin zm_X0_become.2.2.2.2.2 29 = some (.aaload, 1) := by rw [It_X0_become]; rfl
theorem I_X0_become_30 : zin zm_X0_become.2.2.2.2.2 30 = some (.invokevirtual 35, 3) := by rw [It_X0_become]; rfl
theorem I_X0_become_33 : zin zm_X0_become.2.2.2.2.2 33 = some (.iinc 2 1, 3) := by rw [It_X0_become]; rfl
theorem I_X0_become_36 : zin zm_X0_become.2.2.2.2.2 36 = some (.goto (-26), 3) := by rw [It_X0_become]; rfl
theorem I_X0_become_39 : zin zm_X0_become.2.2.2.2.2 39 = some (.aload_n 0, 1) := by rw [It_X0_become]; rfl
theorem I_X0_become_40 : zin zm_X0_become.2.2.2.2.2 40 = some (.aload_n 1, 1) := by rw [It_X0_become]; rfl
theorem I_X0_become_41 : zin zm_X0_become.2.2.2.2.2 41 = some (.getfield 29, 3) := by rw [It_X0_become]; rfl
theorem I_X0_become_44 : zin zm_X0_become.2.2.2.2.2 44 = some (.putfield 29, 3) := by rw [It_X0_become]; rfl
theorem I_X0_become_47 : zin zm_X0_become.2.2.2.2.2 47 = some (.iconst 0, 1) := by rw [It_X0_become]; rfl
theorem I_X0_become_48 : zin zm_X0_become.2.2.2.2.2 48 = some (.istore_n 2, 1) := by rw [It_X0_become]; rfl
theorem I_X0_become_49 : zin zm_X0_become.2.2.2.2.2 49 = some (.iload_n 2, 1) := by rw [It_X0_become]; rfl
theorem I_X0_become_50 : zin zm_X0_become.2.2.2.2.2 50 = some (.aload_n 0, 1) := by rw [It_X0_become]; rfl
theorem I_X0_become_51 : zin zm_X0_become.2.2.2.2.2 51 = some (.getfield 29, 3) := by rw [It_X0_become]; rfl
theorem I_X0_become_54 : zin zm_X0_become.2.2.2.2.2 54 = some (.if_icmp .ge 21, 3) := by rw [It_X0_become]; rfl
theorem I_X0_become_57 : zin zm_X0_become.2.2.2.2.2 57 = some (.aload_n 0, 1) := by rw [It_X0_become]; rfl
theorem I_X0_become_58 : zin zm_X0_become.2.2.2.2.2 58 = some (.getfield 17, 3) := by rw [It_X0_become]; rfl
theorem I_X0_become_61 : zin zm_X0_become.2.2.2.2.2 61 = some (.iload_n 2, 1) := by rw [It_X0_become]; rfl
theorem I_X0_become_62 : zin zm_X0_become.2.2.2.2.2 62 = some (.aload_n 1, 1) := by rw [It_X0_become]; rfl
theorem I_X0_become_63 : zin zm_X0_become.2.2.2.2.2 63 = some (.getfield 17, 3) := by rw [It_X0_become]; rfl
theorem I_X0_become_66 : zin zm_X0_become.2.2.2.2.2 66 = some (.iload_n 2, 1) := by rw [It_X0_become]; rfl
theorem I_X0_become_67 : zin zm_X0_become.2.2.2.2.2 67 = some (.iaload, 1) := by rw [It_X0_become]; rfl
theorem I_X0_become_68 : zin zm_X0_become.2.2.2.2.2 68 = some (.iastore, 1) := by rw [It_X0_become]; rfl
theorem I_X0_become_69 : zin zm_X0_become.2.2.2.2.2 69 = some (.iinc 2 1, 3) := by rw [It_X0_become]; rfl
theorem I_X0_become_72 : zin zm_X0_become.2.2.2.2.2 72 = some (.goto (-23), 3) := by rw [It_X0_become]; rfl
theorem I_X0_become_75 : zin zm_X0_become.2.2.2.2.2 75 = some (.aload_n 0, 1) := by rw [It_X0_become]; rfl
theorem I_X0_become_76 : zin zm_X0_become.2.2.2.2.2 76 = some (.aload_n 1, 1) := by rw [It_X0_become]; rfl
theorem I_X0_become_77 : zin zm_X0_become.2.2.2.2.2 77 = some (.getfield 21, 3) := by rw [It_X0_become]; rfl
theorem I_X0_become_80 : zin zm_X0_become.2.2.2.2.2 80 = some (.putfield 21, 3) := by rw [It_X0_become]; rfl
theorem I_X0_become_83 : zin zm_X0_become.2.2.2.2.2 83 = some (.aload_n 0, 1) := by rw [It_X0_become]; rfl
theorem I_X0_become_84 : zin zm_X0_become.2.2.2.2.2 84 = some (.aload_n 1, 1) := by rw [It_X0_become]; rfl
theorem I_X0_become_85 : zin zm_X0_become.2.2.2.2.2 85 = some (.getfield 32, 3) := by rw [It_X0_become]; rfl
theorem I_X0_become_88 : zin zm_X0_become.2.2.2.2.2 88 = some (.putfield 32, 3) := by rw [It_X0_become]; rfl
theorem I_X0_become_91 : zin zm_X0_become.2.2.2.2.2 91 = some (.return_, 1) := by rw [It_X0_become]; rfl
theorem I_X0_clear_0 : zin zm_X0_clear.2.2.2.2.2 0 = some (.aload_n 0, 1) := by rw [It_X0_clear]; rfl
theorem I_X0_clear_1 : zin zm_X0_clear.2.2.2.2.2 1 = some (.iconst 0, 1) := by rw [It_X0_clear]; rfl
theorem I_X0_clear_2 : zin zm_X0_clear.2.2.2.2.2 2 = some (.putfield 26, 3) := by rw [It_X0_clear]; rfl
theorem I_X0_clear_5 : zin zm_X0_clear.2.2.2.2.2 5 = some (.aload_n 0, 1) := by rw [It_X0_clear]; rfl
theorem I_X0_clear_6 : zin zm_X0_clear.2.2.2.2.2 6 = some (.iconst 0, 1) := by rw [It_X0_clear]; rfl
theorem I_X0_clear_7 : zin zm_X0_clear.2.2.2.2.2 7 = some (.putfield 29, 3) := by rw [It_X0_clear]; rfl
theorem I_X0_clear_10 : zin zm_X0_clear.2.2.2.2.2 10 = some (.aload_n 0, 1) := by rw [It_X0_clear]; rfl
theorem I_X0_clear_11 : zin zm_X0_clear.2.2.2.2.2 11 = some (.iconst 1, 1) := by rw [It_X0_clear]; rfl
theorem I_X0_clear_12 : zin zm_X0_clear.2.2.2.2.2 12 = some (.putfield 21, 3) := by rw [It_X0_clear]; rfl
theorem I_X0_clear_15 : zin zm_X0_clear.2.2.2.2.2 15 = some (.aload_n 0, 1) := by rw [It_X0_clear]; rfl
theorem I_X0_clear_16 : zin zm_X0_clear.2.2.2.2.2 16 = some (.iconst 0, 1) := by rw [It_X0_clear]; rfl
theorem I_X0_clear_17 : zin zm_X0_clear.2.2.2.2.2 17 = some (.putfield 32, 3) := by rw [It_X0_clear]; rfl
theorem I_X0_clear_20 : zin zm_X0_clear.2.2.2.2.2 20 = some (.return_, 1) := by rw [It_X0_clear]; rfl
theorem I_X0_useHands_0 : zin zm_X0_useHands.2.2.2.2.2 0 = some (.iconst 0, 1) := by rw [It_X0_useHands]; rfl
theorem I_X0_useHands_1 : zin zm_X0_useHands.2.2.2.2.2 1 = some (.istore_n 2, 1) := by rw [It_X0_useHands]; rfl
theorem I_X0_useHands_2 : zin zm_X0_useHands.2.2.2.2.2 2 = some (.iload_n 2, 1) := by rw [It_X0_useHands]; rfl
theorem I_X0_useHands_3 : zin zm_X0_useHands.2.2.2.2.2 3 = some (.aload_n 0, 1) := by rw [It_X0_useHands]; rfl
theorem I_X0_useHands_4 : zin zm_X0_useHands.2.2.2.2.2 4 = some (.getfield 26, 3) := by rw [It_X0_useHands]; rfl
theorem I_X0_useHands_7 : zin zm_X0_useHands.2.2.2.2.2 7 = some (.if_icmp .ge 23, 3) := by rw [It_X0_useHands]; rfl
theorem I_X0_useHands_10 : zin zm_X0_useHands.2.2.2.2.2 10 = some (.aload_n 0, 1) := by rw [It_X0_useHands]; rfl
theorem I_X0_useHands_11 : zin zm_X0_useHands.2.2.2.2.2 11 = some (.getfield 11, 3) := by rw [It_X0_useHands]; rfl
theorem I_X0_useHands_14 : zin zm_X0_useHands.2.2.2.2.2 14 = some (.iload_n 2, 1) := by rw [It_X0_useHands]; rfl
theorem I_X0_useHands_15 : zin zm_X0_useHands.2.2.2.2.2 15 = some (.aaload, 1) := by rw [It_X0_useHands]; rfl
theorem I_X0_useHands_16 : zin zm_X0_useHands.2.2.2.2.2 16 = some (.iload_n 1, 1) := by rw [It_X0_useHands]; rfl
theorem I_X0_useHands_17 : zin zm_X0_useHands.2.2.2.2.2 17 = some (.iload_n 2, 1) := by rw [It_X0_useHands]; rfl
theorem I_X0_useHands_18 : zin zm_X0_useHands.2.2.2.2.2 18 = some (.ishr, 1) := by rw [It_X0_useHands]; rfl
theorem I_X0_useHands_19 : zin zm_X0_useHands.2.2.2.2.2 19 = some (.iconst 1, 1) := by rw [It_X0_useHands]; rfl
theorem I_X0_useHands_20 : zin zm_X0_useHands.2.2.2.2.2 20 = some (.iand, 1) := by rw [It_X0_useHands]; rfl
theorem I_X0_useHands_21 : zin zm_X0_useHands.2.2.2.2.2 21 = some (.putfield 48, 3) := by rw [It_X0_useHands]; rfl
theorem I_X0_useHands_24 : zin zm_X0_useHands.2.2.2.2.2 24 = some (.iinc 2 1, 3) := by rw [It_X0_useHands]; rfl
theorem I_X0_useHands_27 : zin zm_X0_useHands.2.2.2.2.2 27 = some (.goto (-25), 3) := by rw [It_X0_useHands]; rfl
theorem I_X0_useHands_30 : zin zm_X0_useHands.2.2.2.2.2 30 = some (.return_, 1) := by rw [It_X0_useHands]; rfl
theorem I_X2_allAreThere_0 : zin zm_X2_allAreThere.2.2.2.2.2 0 = some (.aload_n 0, 1) := by rw [It_X2_allAreThere]; rfl
theorem I_X2_allAreThere_1 : zin zm_X2_allAreThere.2.2.2.2.2 1 = some (.getfield 38, 3) := by rw [It_X2_allAreThere]; rfl
theorem I_X2_allAreThere_4 : zin zm_X2_allAreThere.2.2.2.2.2 4 = some (.istore_n 1, 1) := by rw [It_X2_allAreThere]; rfl
theorem I_X2_allAreThere_5 : zin zm_X2_allAreThere.2.2.2.2.2 5 = some (.iconst 0, 1) := by rw [It_X2_allAreThere]; rfl
theorem I_X2_allAreThere_6 : zin zm_X2_allAreThere.2.2.2.2.2 6 = some (.istore_n 2, 1) := by rw [It_X2_allAreThere]; rfl
theorem I_X2_allAreThere_7 : zin zm_X2_allAreThere.2.2.2.2.2 7 = some (.iload_n 2, 1) := by rw [It_X2_allAreThere]; rfl
theorem I_X2_allAreThere_8 : zin zm_X2_allAreThere.2.2.2.2.2 8 = some (.aload_n 0, 1) := by rw [It_X2_allAreThere]; rfl
theorem I_X2_allAreThere_9 : zin zm_X2_allAreThere.2.2.2.2.2 9 = some (.getfield 18, 3) := by rw [It_X2_allAreThere]; rfl
theorem I_X2_allAreThere_12 : zin zm_X2_allAreThere.2.2.2.2.2 12 = some (.getfield 61, 3) := by rw [It_X2_allAreThere]; rfl
theorem I_X2_allAreThere_15 : zin zm_X2_allAreThere.2.2.2.2.2 15 = some (.if_icmp .ge 21, 3) := by rw [It_X2_allAreThere]; rfl
theorem I_X2_allAreThere_18 : zin zm_X2_allAreThere.2.2.2.2.2 18 = some (.iload_n 1, 1) := by rw [It_X2_allAreThere]; rfl
theorem I_X2_allAreThere_19 : zin zm_X2_allAreThere.2.2.2.2.2 19 = some (.aload_n 0, 1) := by rw [It_X2_allAreThere]; rfl
theorem I_X2_allAreThere_20 : zin zm_X2_allAreThere.2.2.2.2.2 20 = some (.getfield 18, 3) := by rw [It_X2_allAreThere]; rfl
theorem I_X2_allAreThere_23 : zin zm_X2_allAreThere.2.2.2.2.2 23 = some (.getfield 64, 3) := by rw [It_X2_allAreThere]; rfl
theorem I_X2_allAreThere_26 : zin zm_X2_allAreThere.2.2.2.2.2 26 = some (.iload_n 2, 1) := by rw [It_X2_allAreThere]; rfl
theorem I_X2_allAreThere_27 : zin zm_X2_allAreThere.2.2.2.2.2 27 = some (.iaload, 1) := by rw [It_X2_allAreThere]; rfl
theorem I_X2_allAreThere_28 : zin zm_X2_allAreThere.2.2.2.2.2 28 = some (.ior, 1) := by rw [It_X2_allAreThere]; rfl
theorem I_X2_allAreThere_29 : zin zm_X2_allAreThere.2.2.2.2.2 29 = some (.istore_n 1, 1) := by rw [It_X2_allAreThere]; rfl
theorem I_X2_allAreThere_30 : zin zm_X2_allAreThere.2.2.2.2.2 30 = some (.iinc 2 1, 3) := by rw [It_X2_allAreThere]; rfl
theorem I_X2_allAreThere_33 : zin zm_X2_allAreThere.2.2.2.2.2 33 = some (.goto (-26), 3) := by rw [It_X2_allAreThere]; rfl
theorem I_X2_allAreThere_36 : zin zm_X2_allAreThere.2.2.2.2.2 36 = some (.iload_n 1, 1) := by rw [It_X2_allAreThere]; rfl
theorem I_X2_allAreThere_37 : zin zm_X2_allAreThere.2.2.2.2.2 37 = some (.aload_n 0, 1) := by rw [It_X2_allAreThere]; rfl
theorem I_X2_allAreThere_38 : zin zm_X2_allAreThere.2.2.2.2.2 38 = some (.getfield 18, 3) := by rw [It_X2_allAreThere]; rfl
theorem I_X2_allAreThere_41 : zin zm_X2_allAreThere.2.2.2.2.2 41 = some (.getfield 68, 3) := by rw [It_X2_allAreThere]; rfl
theorem I_X2_allAreThere_44 : zin zm_X2_allAreThere.2.2.2.2.2 44 = some (.ishr, 1) := by rw [It_X2_allAreThere]; rfl
theorem I_X2_allAreThere_45 : zin zm_X2_allAreThere.2.2.2.2.2 45 = some (.ifCond .eq 14, 3) := by rw [It_X2_allAreThere]; rfl
theorem I_X2_allAreThere_48 : zin zm_X2_allAreThere.2.2.2.2.2 48 = some (.aload_n 0, 1) := by rw [It_X2_allAreThere]; rfl
theorem I_X2_allAreThere_49 : zin zm_X2_allAreThere.2.2.2.2.2 49 = some (.bipush 6, 2) := by rw [It_X2_allAreThere]; rfl
theorem I_X2_allAreThere_51 : zin zm_X2_allAreThere.2.2.2.2.2 51 = some (.aload_n 0, 1) := by rw [It_X2_allAreThere]; rfl
theorem I_X2_allAreThere_52 : zin zm_X2_allAreThere.2.2.2.2.2 52 = some (.getfield 71, 3) := by rw [It_X2_allAreThere]; rfl
theorem I_X2_allAreThere_55 : zin zm_X2_allAreThere.2.2.2.2.2 55 = some (.invokevirtual 74, 3) := by rw [It_X2_allAreThere]; rfl
theorem I_X2_allAreThere_58 : zin zm_X2_allAreThere.2.2.2.2.2 58 = some (.ireturn, 1) := by rw [It_X2_allAreThere]; rfl
theorem I_X2_allAreThere_59 : zin zm_X2_allAreThere.2.2.2.2.2 59 = some (.aload_n 0, 1) := by rw [It_X2_allAreThere]; rfl
theorem I_X2_allAreThere_60 : zin zm_X2_allAreThere.2.2.2.2.2 60 = some (.getfield 18, 3) := by rw [It_X2_allAreThere]; rfl
theorem I_X2_allAreThere_63 : zin zm_X2_allAreThere.2.2.2.2.2 63 = some (.aload_n 0, 1) := by rw [It_X2_allAreThere]; rfl
theorem I_X2_allAreThere_64 : zin zm_X2_allAreThere.2.2.2.2.2 64 = some (.getfield 38, 3) := by rw [It_X2_allAreThere]; rfl
theorem I_X2_allAreThere_67 : zin zm_X2_allAreThere.2.2.2.2.2 67 = some (.invokevirtual 78, 3) := by rw [It_X2_allAreThere]; rfl
theorem I_X2_allAreThere_70 : zin zm_X2_allAreThere.2.2.2.2.2 70 = some (.iconst 1, 1) := by rw [It_X2_allAreThere]; rfl
theorem I_X2_allAreThere_71 : zin zm_X2_allAreThere.2.2.2.2.2 71 = some (.ireturn, 1) := by rw [It_X2_allAreThere]; rfl
theorem I_X2_readAll_0 : zin zm_X2_readAll.2.2.2.2.2 0 = some (.aload_n 0, 1) := by rw [It_X2_readAll]; rfl
theorem I_X2_readAll_1 : zin zm_X2_readAll.2.2.2.2.2 1 = some (.getfield 18, 3) := by rw [It_X2_readAll]; rfl
theorem I_X2_readAll_4 : zin zm_X2_readAll.2.2.2.2.2 4 = some (.invokevirtual 22, 3) := by rw [It_X2_readAll]; rfl
theorem I_X2_readAll_7 : zin zm_X2_readAll.2.2.2.2.2 7 = some (.aload_n 0, 1) := by rw [It_X2_readAll]; rfl
theorem I_X2_readAll_8 : zin zm_X2_readAll.2.2.2.2.2 8 = some (.iconst 0, 1) := by rw [It_X2_readAll]; rfl
theorem I_X2_readAll_9 : zin zm_X2_readAll.2.2.2.2.2 9 = some (.putfield 25, 3) := by rw [It_X2_readAll]; rfl
theorem I_X2_readAll_12 : zin zm_X2_readAll.2.2.2.2.2 12 = some (.aload_n 0, 1) := by rw [It_X2_readAll]; rfl
theorem I_X2_readAll_13 : zin zm_X2_readAll.2.2.2.2.2 13 = some (.iconst 0, 1) := by rw [It_X2_readAll]; rfl
theorem I_X2_readAll_14 : zin zm_X2_readAll.2.2.2.2.2 14 = some (.putfield 29, 3) := by rw [It_X2_readAll]; rfl
theorem I_X2_readAll_17 : zin zm_X2_readAll.2.2.2.2.2 17 = some (.aload_n 0, 1) := by rw [It_X2_readAll]; rfl
theorem I_X2_readAll_18 : zin zm_X2_readAll.2.2.2.2.2 18 = some (.iconst 0, 1) := by rw [It_X2_readAll]; rfl
theorem I_X2_readAll_19 : zin zm_X2_readAll.2.2.2.2.2 19 = some (.putfield 32, 3) := by rw [It_X2_readAll]; rfl
theorem I_X2_readAll_22 : zin zm_X2_readAll.2.2.2.2.2 22 = some (.aload_n 0, 1) := by rw [It_X2_readAll]; rfl
theorem I_X2_readAll_23 : zin zm_X2_readAll.2.2.2.2.2 23 = some (.iconst 0, 1) := by rw [It_X2_readAll]; rfl
theorem I_X2_readAll_24 : zin zm_X2_readAll.2.2.2.2.2 24 = some (.putfield 35, 3) := by rw [It_X2_readAll]; rfl
theorem I_X2_readAll_27 : zin zm_X2_readAll.2.2.2.2.2 27 = some (.aload_n 0, 1) := by rw [It_X2_readAll]; rfl
theorem I_X2_readAll_28 : zin zm_X2_readAll.2.2.2.2.2 28 = some (.iconst 0, 1) := by rw [It_X2_readAll]; rfl
theorem I_X2_readAll_29 : zin zm_X2_readAll.2.2.2.2.2 29 = some (.putfield 38, 3) := by rw [It_X2_readAll]; rfl
theorem I_X2_readAll_32 : zin zm_X2_readAll.2.2.2.2.2 32 = some (.aload_n 0, 1) := by rw [It_X2_readAll]; rfl
theorem I_X2_readAll_33 : zin zm_X2_readAll.2.2.2.2.2 33 = some (.iconst 0, 1) := by rw [It_X2_readAll]; rfl
theorem I_X2_readAll_34 : zin zm_X2_readAll.2.2.2.2.2 34 = some (.putfield 41, 3) := by rw [It_X2_readAll]; rfl
theorem I_X2_readAll_37 : zin zm_X2_readAll.2.2.2.2.2 37 = some (.aload_n 0, 1) := by rw [It_X2_readAll]; rfl
theorem I_X2_readAll_38 : zin zm_X2_readAll.2.2.2.2.2 38 = some (.iconst 0, 1) := by rw [It_X2_readAll]; rfl
theorem I_X2_readAll_39 : zin zm_X2_readAll.2.2.2.2.2 39 = some (.putfield 45, 3) := by rw [It_X2_readAll]; rfl
theorem I_X2_readAll_42 : zin zm_X2_readAll.2.2.2.2.2 42 = some (.iconst 0, 1) := by rw [It_X2_readAll]; rfl
theorem I_X2_readAll_43 : zin zm_X2_readAll.2.2.2.2.2 43 = some (.istore_n 1, 1) := by rw [It_X2_readAll]; rfl
theorem I_X2_readAll_44 : zin zm_X2_readAll.2.2.2.2.2 44 = some (.iload_n 1, 1) := by rw [It_X2_readAll]; rfl
theorem I_X2_readAll_45 : zin zm_X2_readAll.2.2.2.2.2 45 = some (.sipush 160, 3) := by rw [It_X2_readAll]; rfl
theorem I_X2_readAll_48 : zin zm_X2_readAll.2.2.2.2.2 48 = some (.if_icmp .gt 44, 3) := by rw [It_X2_readAll]; rfl
theorem I_X2_readAll_51 : zin zm_X2_readAll.2.2.2.2.2 51 = some (.aload_n 0, 1) := by rw [It_X2_readAll]; rfl
theorem I_X2_readAll_52 : zin zm_X2_readAll.2.2.2.2.2 52 = some (.invokevirtual 48, 3) := by rw [It_X2_readAll]; rfl
theorem I_X2_readAll_55 : zin zm_X2_readAll.2.2.2.2.2 55 = some (.aload_n 0, 1) := by rw [It_X2_readAll]; rfl
theorem I_X2_readAll_56 : zin zm_X2_readAll.2.2.2.2.2 56 = some (.getfield 51, 3) := by rw [It_X2_readAll]; rfl
theorem I_X2_readAll_59 : zin zm_X2_readAll.2.2.2.2.2 59 = some (.ifCond .ne 8, 3) := by rw [It_X2_readAll]; rfl
theorem I_X2_readAll_62 : zin zm_X2_readAll.2.2.2.2.2 62 = some (.aload_n 0, 1) := by rw [It_X2_readAll]; rfl
theorem I_X2_readAll_63 : zin zm_X2_readAll.2.2.2.2.2 63 = some (.invokevirtual 54, 3) := by rw [It_X2_readAll]; rfl
theorem I_X2_readAll_66 : zin zm_X2_readAll.2.2.2.2.2 66 = some (.ireturn, 1) := by rw [It_X2_readAll]; rfl
theorem I_X2_readAll_67 : zin zm_X2_readAll.2.2.2.2.2 67 = some (.aload_n 0, 1) := by rw [It_X2_readAll]; rfl
theorem I_X2_readAll_68 : zin zm_X2_readAll.2.2.2.2.2 68 = some (.invokevirtual 58, 3) := by rw [It_X2_readAll]; rfl
theorem I_X2_readAll_71 : zin zm_X2_readAll.2.2.2.2.2 71 = some (.ifCond .ne 5, 3) := by rw [It_X2_readAll]; rfl
theorem I_X2_readAll_74 : zin zm_X2_readAll.2.2.2.2.2 74 = some (.iconst 0, 1) := by rw [It_X2_readAll]; rfl
theorem I_X2_readAll_75 : zin zm_X2_readAll.2.2.2.2.2 75 = some (.ireturn, 1) := by rw [It_X2_readAll]; rfl
theorem I_X2_readAll_76 : zin zm_X2_readAll.2.2.2.2.2 76 = some (.aload_n 0, 1) := by rw [It_X2_readAll]; rfl
theorem I_X2_readAll_77 : zin zm_X2_readAll.2.2.2.2.2 77 = some (.dup, 1) := by rw [It_X2_readAll]; rfl
theorem I_X2_readAll_78 : zin zm_X2_readAll.2.2.2.2.2 78 = some (.getfield 29, 3) := by rw [It_X2_readAll]; rfl
theorem I_X2_readAll_81 : zin zm_X2_readAll.2.2.2.2.2 81 = some (.iconst 1, 1) := by rw [It_X2_readAll]; rfl
theorem I_X2_readAll_82 : zin zm_X2_readAll.2.2.2.2.2 82 = some (.iadd, 1) := by rw [It_X2_readAll]; rfl
theorem I_X2_readAll_83 : zin zm_X2_readAll.2.2.2.2.2 83 = some (.putfield 29, 3) := by rw [It_X2_readAll]; rfl
theorem I_X2_readAll_86 : zin zm_X2_readAll.2.2.2.2.2 86 = some (.iinc 1 1, 3) := by rw [It_X2_readAll]; rfl
theorem I_X2_readAll_89 : zin zm_X2_readAll.2.2.2.2.2 89 = some (.goto (-45), 3) := by rw [It_X2_readAll]; rfl
theorem I_X2_readAll_92 : zin zm_X2_readAll.2.2.2.2.2 92 = some (.iconst 0, 1) := by rw [It_X2_readAll]; rfl
theorem I_X2_readAll_93 : zin zm_X2_readAll.2.2.2.2.2 93 = some (.ireturn, 1) := by rw [It_X2_readAll]; rfl
theorem I_X7_text_0 : zin zm_X7_text.2.2.2.2.2 0 = some (.aload_n 0, 1) := by rw [It_X7_text]; rfl
theorem I_X7_text_1 : zin zm_X7_text.2.2.2.2.2 1 = some (.getfield 12, 3) := by rw [It_X7_text]; rfl
theorem I_X7_text_4 : zin zm_X7_text.2.2.2.2.2 4 = some (.invokevirtual 67, 3) := by rw [It_X7_text]; rfl
theorem I_X7_text_7 : zin zm_X7_text.2.2.2.2.2 7 = some (.istore_n 1, 1) := by rw [It_X7_text]; rfl
theorem I_X7_text_8 : zin zm_X7_text.2.2.2.2.2 8 = some (.aload_n 0, 1) := by rw [It_X7_text]; rfl
theorem I_X7_text_9 : zin zm_X7_text.2.2.2.2.2 9 = some (.getfield 12, 3) := by rw [It_X7_text]; rfl
theorem I_X7_text_12 : zin zm_X7_text.2.2.2.2.2 12 = some (.iconst 0, 1) := by rw [It_X7_text]; rfl
theorem I_X7_text_13 : zin zm_X7_text.2.2.2.2.2 13 = some (.putfield 59, 3) := by rw [It_X7_text]; rfl
theorem I_X7_text_16 : zin zm_X7_text.2.2.2.2.2 16 = some (.iload_n 1, 1) := by rw [It_X7_text]; rfl
theorem I_X7_text_17 : zin zm_X7_text.2.2.2.2.2 17 = some (.ifCond .ne 14, 3) := by rw [It_X7_text]; rfl
theorem I_X7_text_20 : zin zm_X7_text.2.2.2.2.2 20 = some (.bipush (-10), 2) := by rw [It_X7_text]; rfl
theorem I_X7_text_22 : zin zm_X7_text.2.2.2.2.2 22 = some (.aload_n 0, 1) := by rw [It_X7_text]; rfl
theorem I_X7_text_23 : zin zm_X7_text.2.2.2.2.2 23 = some (.getfield 12, 3) := by rw [It_X7_text]; rfl
theorem I_X7_text_26 : zin zm_X7_text.2.2.2.2.2 26 = some (.getfield 71, 3) := by rw [It_X7_text]; rfl
theorem I_X7_text_29 : zin zm_X7_text.2.2.2.2.2 29 = some (.isub, 1) := by rw [It_X7_text]; rfl
theorem I_X7_text_30 : zin zm_X7_text.2.2.2.2.2 30 = some (.ireturn, 1) := by rw [It_X7_text]; rfl
theorem I_X7_text_31 : zin zm_X7_text.2.2.2.2.2 31 = some (.aload_n 0, 1) := by rw [It_X7_text]; rfl
theorem I_X7_text_32 : zin zm_X7_text.2.2.2.2.2 32 = some (.getfield 19, 3) := by rw [It_X7_text]; rfl
theorem I_X7_text_35 : zin zm_X7_text.2.2.2.2.2 35 = some (.aload_n 0, 1) := by rw [It_X7_text]; rfl
theorem I_X7_text_36 : zin zm_X7_text.2.2.2.2.2 36 = some (.getfield 12, 3) := by rw [It_X7_text]; rfl
theorem I_X7_text_39 : zin zm_X7_text.2.2.2.2.2 39 = some (.getfield 74, 3) := by rw [It_X7_text]; rfl
theorem I_X7_text_42 : zin zm_X7_text.2.2.2.2.2 42 = some (.invokevirtual 77, 3) := by rw [It_X7_text]; rfl
theorem I_X7_text_45 : zin zm_X7_text.2.2.2.2.2 45 = some (.aload_n 0, 1) := by rw [It_X7_text]; rfl
theorem I_X7_text_46 : zin zm_X7_text.2.2.2.2.2 46 = some (.getfield 40, 3) := by rw [It_X7_text]; rfl
theorem I_X7_text_49 : zin zm_X7_text.2.2.2.2.2 49 = some (.iconst 0, 1) := by rw [It_X7_text]; rfl
theorem I_X7_text_50 : zin zm_X7_text.2.2.2.2.2 50 = some (.putfield 81, 3) := by rw [It_X7_text]; rfl
theorem I_X7_text_53 : zin zm_X7_text.2.2.2.2.2 53 = some (.iconst 0, 1) := by rw [It_X7_text]; rfl
theorem I_X7_text_54 : zin zm_X7_text.2.2.2.2.2 54 = some (.istore_n 2, 1) := by rw [It_X7_text]; rfl
theorem I_X7_text_55 : zin zm_X7_text.2.2.2.2.2 55 = some (.iload_n 2, 1) := by rw [It_X7_text]; rfl
theorem I_X7_text_56 : zin zm_X7_text.2.2.2.2.2 56 = some (.iconst 2, 1) := by rw [It_X7_text]; rfl
theorem I_X7_text_57 : zin zm_X7_text.2.2.2.2.2 57 = some (.if_icmp .ge 16, 3) := by rw [It_X7_text]; rfl
theorem I_X7_text_60 : zin zm_X7_text.2.2.2.2.2 60 = some (.aload_n 0, 1) := by rw [It_X7_text]; rfl
theorem I_X7_text_61 : zin zm_X7_text.2.2.2.2.2 61 = some (.getfield 48, 3) := by rw [It_X7_text]; rfl
theorem I_X7_text_64 : zin zm_X7_text.2.2.2.2.2 64 = some (.iload_n 2, 1) := by rw [It_X7_text]; rfl
theorem I_X7_text_65 : zin zm_X7_text.2.2.2.2.2 65 = some (.iconst 0, 1) := by rw [It_X7_text]; rfl
theorem I_X7_text_66 : zin zm_X7_text.2.2.2.2.2 66 = some (.bastore, 1) := by rw [It_X7_text]; rfl
theorem I_X7_text_67 : zin zm_X7_text.2.2.2.2.2 67 = some (.iinc 2 1, 3) := by rw [It_X7_text]; rfl
theorem I_X7_text_70 : zin zm_X7_text.2.2.2.2.2 70 = some (.goto (-15), 3) := by rw [It_X7_text]; rfl
theorem I_X7_text_73 : zin zm_X7_text.2.2.2.2.2 73 = some (.aload_n 0, 1) := by rw [It_X7_text]; rfl
theorem I_X7_text_74 : zin zm_X7_text.2.2.2.2.2 74 = some (.getfield 12, 3) := by rw [It_X7_text]; rfl
theorem I_X7_text_77 : zin zm_X7_text.2.2.2.2.2 77 = some (.getfield 84, 3) := by rw [It_X7_text]; rfl
theorem I_X7_text_80 : zin zm_X7_text.2.2.2.2.2 80 = some (.ireturn, 1) := by rw [It_X7_text]; rfl
theorem G_0_17 : zlk zfls 0 17 = some (0, 1, 121) := rfl
theorem G_0_21 : zlk zfls 0 21 = some (0, 4, 133) := rfl
theorem G_0_29 : zlk zfls 0 29 = some (0, 3, 129) := rfl
theorem G_0_32 : zlk zfls 0 32 = some (0, 5, 136) := rfl
theorem G_2_29 : zlk zfls 2 29 = some (2, 3, 157) := rfl
theorem G_7_12 : zlk zfls 7 12 = some (7, 0, 299) := rfl
theorem G_7_19 : zlk zfls 7 19 = some (7, 1, 300) := rfl
theorem G_7_40 : zlk zfls 7 40 = some (7, 4, 303) := rfl
theorem G_7_48 : zlk zfls 7 48 = some (7, 6, 305) := rfl
theorem G_7_59 : zlk zfls 7 59 = some (2, 2, 155) := rfl
theorem G_7_71 : zlk zfls 7 71 = some (2, 5, 162) := rfl
theorem G_7_74 : zlk zfls 7 74 = some (2, 1, 154) := rfl
theorem G_7_81 : zlk zfls 7 81 = some (6, 3, 264) := rfl
theorem G_7_84 : zlk zfls 7 84 = some (2, 3, 158) := rfl
theorem K_0_35 : zlk zmls 0 35 = some (0, 19, 1, 475) := rfl
theorem K_2_22 : zlk zmls 2 22 = some (0, 1, 0, 343) := rfl
theorem K_2_54 : zlk zmls 2 54 = some (0, 28, 0, 357) := rfl
theorem K_2_58 : zlk zmls 2 58 = some (0, 29, 0, 369) := rfl
theorem K_2_78 : zlk zmls 2 78 = some (0, 7, 1, 365) := rfl
theorem K_7_67 : zlk zmls 7 67 = some (0, 26, 0, 339) := rfl
theorem K_7_77 : zlk zmls 7 77 = some (0, 2, 1, 471) := rfl
theorem Zm_1 : zms[1]? = some zm_X0_clear := rfl
theorem Zm_2 : zms[2]? = some zm_X0_become := rfl
theorem Zm_7 : zms[7]? = some zm_X0_useHands := rfl
theorem Zm_19 : zms[19]? = some zm_X1_become := rfl
theorem Zm_26 : zms[26]? = some zm_X2_readAll := rfl
theorem Zm_28 : zms[28]? = some zm_X2_allAreThere := rfl
theorem Zm_29 : zms[29]? = some zm_X2_readLine := rfl
theorem LY_0 : zLY[0]? = some (Sum.inr 7, [some (.ref 1), some (.ref 11), some (.ref 19), some (.ref 29), some (.ref 40), some (.ref 44), some (.ref 45), some (.ref 46), none]) := rfl
theorem LY_40 : zLY[40]? = some (Sum.inr 6, [some (.ref 41), some (.ref 42), some (.ref 43), none]) := rfl
theorem LY_45 : zLY[45]? = some (Sum.inl 2, List.replicate 2 none) := rfl
theorem cl_X0_become : zm_X0_become.2.2.2.2.1 = 0 := by
  unfold zm_X0_become
  rfl
theorem cn_X0_become : zm_X0_become.2.2.2.2.1 ≠ 12 := by
  rw [cl_X0_become]
  decide
theorem cn2_X0_become : zm_X0_become.2.2.2.2.1 ≠ 2 := by
  rw [cl_X0_become]
  decide
theorem cl_X0_clear : zm_X0_clear.2.2.2.2.1 = 0 := by
  unfold zm_X0_clear
  rfl
theorem cn_X0_clear : zm_X0_clear.2.2.2.2.1 ≠ 12 := by
  rw [cl_X0_clear]
  decide
theorem cn2_X0_clear : zm_X0_clear.2.2.2.2.1 ≠ 2 := by
  rw [cl_X0_clear]
  decide
theorem cl_X0_useHands : zm_X0_useHands.2.2.2.2.1 = 0 := by
  unfold zm_X0_useHands
  rfl
theorem cn_X0_useHands : zm_X0_useHands.2.2.2.2.1 ≠ 12 := by
  rw [cl_X0_useHands]
  decide
theorem cn2_X0_useHands : zm_X0_useHands.2.2.2.2.1 ≠ 2 := by
  rw [cl_X0_useHands]
  decide
theorem cl_X2_allAreThere : zm_X2_allAreThere.2.2.2.2.1 = 2 := by
  unfold zm_X2_allAreThere
  rfl
theorem cn_X2_allAreThere : zm_X2_allAreThere.2.2.2.2.1 ≠ 12 := by
  rw [cl_X2_allAreThere]
  decide
theorem cl_X2_readAll : zm_X2_readAll.2.2.2.2.1 = 2 := by
  unfold zm_X2_readAll
  rfl
theorem cn_X2_readAll : zm_X2_readAll.2.2.2.2.1 ≠ 12 := by
  rw [cl_X2_readAll]
  decide
theorem cl_X7_text : zm_X7_text.2.2.2.2.1 = 7 := by
  unfold zm_X7_text
  rfl
theorem cn_X7_text : zm_X7_text.2.2.2.2.1 ≠ 12 := by
  rw [cl_X7_text]
  decide
theorem cn2_X7_text : zm_X7_text.2.2.2.2.1 ≠ 2 := by
  rw [cl_X7_text]
  decide
/-- a lock of the class holds the page g, of c people -/
def LV (m : zM) (k c : Nat) (g : Nat → Int32) : Prop := m k 2 = Int32.ofNat c ∧ c ≤ 5 ∧ (∀ i, i < c → m (k + 3 + i) 0 = g i ∧ m (k + 3 + i) 1 = g (5 + i) ∧ m (k + 3 + i) 2 = g (10 + i) ∧ m (k + 3 + i) 3 = (g 15 >>> (Int32.ofNat i &&& 31)) &&& 1) ∧ m k 4 = g 16 + 1 ∧ m k 5 = g 17 ∧ ∃ a, a ≤ 8 ∧ g 26 = Int32.ofNat a ∧ m k 3 = Int32.ofNat a ∧ ∀ i, i < a → m (k + 2) i = g (18 + i)
theorem LV_f {m m1 : zM} {k c : Nat} {g : Nat → Int32} (h : LV m k c g) (hf : ∀ a b, k ≤ a → a ≤ k + 7 → m1 a b = m a b) : LV m1 k c g := by
  obtain ⟨h1, h2, h3, h4, h5, a, a1, a2, a3, a4⟩ := h
  refine ⟨by rw [hf _ _ (by omega) (by omega)]; exact h1, h2, fun i hi => ?_, by rw [hf _ _ (by omega) (by omega)]; exact h4, by rw [hf _ _ (by omega) (by omega)]; exact h5, a, a1, a2, by rw [hf _ _ (by omega) (by omega)]; exact a3, fun i hi => by rw [hf _ _ (by omega) (by omega)]; exact a4 i hi⟩
  obtain ⟨x, y, z, w⟩ := h3 i hi
  exact ⟨by rw [hf _ _ (by omega) (by omega)]; exact x, by rw [hf _ _ (by omega) (by omega)]; exact y, by rw [hf _ _ (by omega) (by omega)]; exact z, by rw [hf _ _ (by omega) (by omega)]; exact w⟩
theorem lk_dj {k o : Nat} (hk : zlk6 k) (ho : zlk6 o) (h : k ≠ o) : o + 8 ≤ k ∨ k + 8 ≤ o := by
  unfold zlk6 at hk ho
  omega
theorem uh_loop {k c : Nat} {x : Int32} (hk : zlk6 k) (hc5 : c ≤ 5) : ∀ (j i d : Nat) (r : Option Value) (h' : zHp) (m : zM), i + j = c → m k 2 = Int32.ofNat c → zE none d zm_X0_useHands 2 [.ref k, .int x, .int (Int32.ofNat i)] [] m r h' → ∃ m1, r = none ∧ h' = zhp m1 ∧ (∀ i', i ≤ i' → i' < c → m1 (k + 3 + i') 3 = (x >>> (Int32.ofNat i' &&& 31)) &&& 1) ∧ ∀ a b, ¬ (b = 3 ∧ k + 3 + i ≤ a ∧ a < k + 3 + c) → m1 a b = m a b := by
  intro j
  induction j with
  | zero =>
    intro i d r h' m hj hc H
    replace H := i_iln (q := 3) H I_X0_useHands_2 rfl rfl
    replace H := i_aln (q := 4) H I_X0_useHands_3 rfl rfl
    replace H := i_gfi (q := 7) H I_X0_useHands_4 G_0_26 cn_X0_useHands (lk_0 hk) rfl rfl
    have W := i_ic_ge (t := 30) (q := 10) H I_X0_useHands_7 (by decide) rfl
    clear H
    rcases W with ⟨c_7, H⟩ | ⟨c_7, H⟩
    · skip
      obtain ⟨hr, hh⟩ := i_rt H I_X0_useHands_30
      exact ⟨m, hr, hh, fun i' h1 h2 => by omega, fun a b _ => rfl⟩
    · skip
      replace H := i_aln (q := 11) H I_X0_useHands_10 rfl rfl
      replace H := i_gfr (q := 14) H I_X0_useHands_11 G_0_11 cn_X0_useHands (lk_0 hk) rfl rfl
      replace H := i_iln (q := 15) H I_X0_useHands_14 rfl rfl
      have W := i_folk (k := k) hk (q := 16) H I_X0_useHands_15 rfl
      clear H
      obtain ⟨i_15, bi_15, ei_15, H⟩ := W
      replace H := i_iln (q := 17) H I_X0_useHands_16 rfl rfl
      replace H := i_iln (q := 18) H I_X0_useHands_17 rfl rfl
      replace H := i_ishr (q := 19) H I_X0_useHands_18 rfl
      replace H := i_icst (x := 1) (q := 20) H I_X0_useHands_19 (by decide) rfl
      replace H := i_iand (q := 21) H I_X0_useHands_20 rfl
      replace H := i_pf (q := 24) H I_X0_useHands_21 G_0_48 cn_X0_useHands (lk_p hk bi_15) rfl rfl
      replace H := i_inc (q := 27) H I_X0_useHands_24 rfl rfl rfl
      replace H := i_goto (q := 2) H I_X0_useHands_27 (by decide)
      exfalso
      rw [hc] at c_7
      exact absurd ((zofn_lt (by omega) (by omega)).mp c_7) (by omega)
  | succ j ih =>
    intro i d r h' m hj hc H
    replace H := i_iln (q := 3) H I_X0_useHands_2 rfl rfl
    replace H := i_aln (q := 4) H I_X0_useHands_3 rfl rfl
    replace H := i_gfi (q := 7) H I_X0_useHands_4 G_0_26 cn_X0_useHands (lk_0 hk) rfl rfl
    have W := i_ic_ge (t := 30) (q := 10) H I_X0_useHands_7 (by decide) rfl
    clear H
    rcases W with ⟨c_7, H⟩ | ⟨c_7, H⟩
    · skip
      obtain ⟨hr, hh⟩ := i_rt H I_X0_useHands_30
      exfalso
      rw [hc] at c_7
      exact c_7 ((zofn_lt (by omega) (by omega)).mpr (by omega))
    · skip
      replace H := i_aln (q := 11) H I_X0_useHands_10 rfl rfl
      replace H := i_gfr (q := 14) H I_X0_useHands_11 G_0_11 cn_X0_useHands (lk_0 hk) rfl rfl
      replace H := i_iln (q := 15) H I_X0_useHands_14 rfl rfl
      have W := i_folk (k := k) hk (q := 16) H I_X0_useHands_15 rfl
      clear H
      obtain ⟨i_15, bi_15, ei_15, H⟩ := W
      replace H := i_iln (q := 17) H I_X0_useHands_16 rfl rfl
      replace H := i_iln (q := 18) H I_X0_useHands_17 rfl rfl
      replace H := i_ishr (q := 19) H I_X0_useHands_18 rfl
      replace H := i_icst (x := 1) (q := 20) H I_X0_useHands_19 (by decide) rfl
      replace H := i_iand (q := 21) H I_X0_useHands_20 rfl
      replace H := i_pf (q := 24) H I_X0_useHands_21 G_0_48 cn_X0_useHands (lk_p hk bi_15) rfl rfl
      replace H := i_inc (q := 27) H I_X0_useHands_24 rfl rfl rfl
      replace H := i_goto (q := 2) H I_X0_useHands_27 (by decide)
      have e : i = i_15 := zofn ei_15 (by omega) (by omega)
      subst e
      replace H : zE none d zm_X0_useHands 2 [.ref k, .int x, .int (Int32.ofNat (i + 1))] [] (zup m (k + 3 + i) 3 ((x >>> (Int32.ofNat i &&& 31)) &&& 1)) r h' := by
        rw [zofn_s] at H
        exact H
      obtain ⟨m1, g1, g2, g3, g4⟩ := ih (i + 1) d r h' _ (by omega) (by rw [zup_n (by omega)]; exact hc) H
      refine ⟨m1, g1, g2, fun i' h1 h2 => ?_, fun a b hab => ?_⟩
      · by_cases hi' : i' = i
        · subst hi'
          rw [g4 _ _ (by omega), zup_s]
        · exact g3 i' (by omega) h2
      · rw [g4 a b (by omega), zup_n (by omega)]
theorem t_X0_useHands {d : Nat} {m : zM} {r : Option Value} {h' : zHp} {k c : Nat} {x : Int32} (hk : zlk6 k) (hc5 : c ≤ 5) (hc : m k 2 = Int32.ofNat c) (H : zE none d zm_X0_useHands 0 [.ref k, .int x, .null] [] m r h') : ∃ m1, r = none ∧ h' = zhp m1 ∧ (∀ i', i' < c → m1 (k + 3 + i') 3 = (x >>> (Int32.ofNat i' &&& 31)) &&& 1) ∧ ∀ a b, ¬ (b = 3 ∧ k + 3 ≤ a ∧ a < k + 3 + c) → m1 a b = m a b := by
  replace H := i_icst (x := 0) (q := 1) H I_X0_useHands_0 (by decide) rfl
  replace H := i_isn (q := 2) H I_X0_useHands_1 rfl rfl
  obtain ⟨m1, g1, g2, g3, g4⟩ := uh_loop hk hc5 c 0 d r h' m (by omega) hc H
  exact ⟨m1, g1, g2, fun i' h => g3 i' (by omega) h, fun a b hab => g4 a b (by omega)⟩
theorem t_X0_clear {d : Nat} {m : zM} {r : Option Value} {h' : zHp} {k : Nat} (hk : zlk6 k) (H : zE none d zm_X0_clear 0 [.ref k] [] m r h') : r = none ∧ h' = zhp (zup (zup (zup (zup m k 2 0) k 3 0) k 4 1) k 5 0) := by
  replace H := i_aln (q := 1) H I_X0_clear_0 rfl rfl
  replace H := i_icst (x := 0) (q := 2) H I_X0_clear_1 (by decide) rfl
  replace H := i_pf (q := 5) H I_X0_clear_2 G_0_26 cn_X0_clear (lk_0 hk) rfl rfl
  replace H := i_aln (q := 6) H I_X0_clear_5 rfl rfl
  replace H := i_icst (x := 0) (q := 7) H I_X0_clear_6 (by decide) rfl
  replace H := i_pf (q := 10) H I_X0_clear_7 G_0_29 cn_X0_clear (lk_0 hk) rfl rfl
  replace H := i_aln (q := 11) H I_X0_clear_10 rfl rfl
  replace H := i_icst (x := 1) (q := 12) H I_X0_clear_11 (by decide) rfl
  replace H := i_pf (q := 15) H I_X0_clear_12 G_0_21 cn_X0_clear (lk_0 hk) rfl rfl
  replace H := i_aln (q := 16) H I_X0_clear_15 rfl rfl
  replace H := i_icst (x := 0) (q := 17) H I_X0_clear_16 (by decide) rfl
  replace H := i_pf (q := 20) H I_X0_clear_17 G_0_32 cn_X0_clear (lk_0 hk) rfl rfl
  obtain ⟨hr, hh⟩ := i_rt H I_X0_clear_20
  exact ⟨hr, hh⟩
theorem bc_people {k o c : Nat} (hk : zlk6 k) (ho : zlk6 o) (hko : o + 8 ≤ k ∨ k + 8 ≤ o) (hc5 : c ≤ 5) : ∀ (j i d : Nat) (r : Option Value) (h' : zHp) (m : zM), i + j = c → m k 2 = Int32.ofNat c → zE none d zm_X0_become 10 [.ref k, .ref o, .int (Int32.ofNat i)] [] m r h' → ∃ m1, zE none d zm_X0_become 39 [.ref k, .ref o, .int (Int32.ofNat c)] [] m1 r h' ∧ (∀ i', i ≤ i' → i' < c → ∀ b, b < 4 → m1 (k + 3 + i') b = m (o + 3 + i') b) ∧ ∀ a b, ¬ (k + 3 + i ≤ a ∧ a < k + 3 + c) → m1 a b = m a b := by
  intro j
  induction j with
  | zero =>
    intro i d r h' m hj hc H
    have e : i = c := by omega
    subst e
    replace H := i_iln (q := 11) H I_X0_become_10 rfl rfl
    replace H := i_aln (q := 12) H I_X0_become_11 rfl rfl
    replace H := i_gfi (q := 15) H I_X0_become_12 G_0_26 cn_X0_become (lk_0 hk) rfl rfl
    have W := i_ic_ge (t := 39) (q := 18) H I_X0_become_15 (by decide) rfl
    clear H
    rcases W with ⟨c_15, H⟩ | ⟨c_15, H⟩
    · skip
      exact ⟨m, H, fun i' h1 h2 => by omega, fun a b _ => rfl⟩
    · skip
      replace H := i_aln (q := 19) H I_X0_become_18 rfl rfl
      replace H := i_gfr (q := 22) H I_X0_become_19 G_0_11 cn_X0_become (lk_0 hk) rfl rfl
      replace H := i_iln (q := 23) H I_X0_become_22 rfl rfl
      have W := i_folk (k := k) hk (q := 24) H I_X0_become_23 rfl
      clear H
      obtain ⟨i_23, bi_23, ei_23, H⟩ := W
      replace H := i_aln (q := 25) H I_X0_become_24 rfl rfl
      replace H := i_gfr (q := 28) H I_X0_become_25 G_0_11 cn_X0_become (lk_0 ho) rfl rfl
      replace H := i_iln (q := 29) H I_X0_become_28 rfl rfl
      have W := i_folk (k := o) ho (q := 30) H I_X0_become_29 rfl
      clear H
      obtain ⟨i_29, bi_29, ei_29, H⟩ := W
      have W := i_cv1 0 (q := 33) H I_X0_become_30 K_0_35 Zm_19 rfl rfl
      clear H
      obtain ⟨r1, h1, Hc, K1, K2⟩ := W
      obtain ⟨e1, e2⟩ := t_X1_become (lk_p hk bi_23) (lk_p ho bi_29) Hc
      have H := K2 _ e1 e2
      clear e1 e2 Hc K1 K2
      replace H := i_inc (q := 36) H I_X0_become_33 rfl rfl rfl
      replace H := i_goto (q := 10) H I_X0_become_36 (by decide)
      exfalso
      rw [hc] at c_15
      exact absurd ((zofn_lt (by omega) (by omega)).mp c_15) (by omega)
  | succ j ih =>
    intro i d r h' m hj hc H
    replace H := i_iln (q := 11) H I_X0_become_10 rfl rfl
    replace H := i_aln (q := 12) H I_X0_become_11 rfl rfl
    replace H := i_gfi (q := 15) H I_X0_become_12 G_0_26 cn_X0_become (lk_0 hk) rfl rfl
    have W := i_ic_ge (t := 39) (q := 18) H I_X0_become_15 (by decide) rfl
    clear H
    rcases W with ⟨c_15, H⟩ | ⟨c_15, H⟩
    · skip
      exfalso
      rw [hc] at c_15
      exact c_15 ((zofn_lt (by omega) (by omega)).mpr (by omega))
    · skip
      replace H := i_aln (q := 19) H I_X0_become_18 rfl rfl
      replace H := i_gfr (q := 22) H I_X0_become_19 G_0_11 cn_X0_become (lk_0 hk) rfl rfl
      replace H := i_iln (q := 23) H I_X0_become_22 rfl rfl
      have W := i_folk (k := k) hk (q := 24) H I_X0_become_23 rfl
      clear H
      obtain ⟨i_23, bi_23, ei_23, H⟩ := W
      replace H := i_aln (q := 25) H I_X0_become_24 rfl rfl
      replace H := i_gfr (q := 28) H I_X0_become_25 G_0_11 cn_X0_become (lk_0 ho) rfl rfl
      replace H := i_iln (q := 29) H I_X0_become_28 rfl rfl
      have W := i_folk (k := o) ho (q := 30) H I_X0_become_29 rfl
      clear H
      obtain ⟨i_29, bi_29, ei_29, H⟩ := W
      have W := i_cv1 0 (q := 33) H I_X0_become_30 K_0_35 Zm_19 rfl rfl
      clear H
      obtain ⟨r1, h1, Hc, K1, K2⟩ := W
      obtain ⟨e1, e2⟩ := t_X1_become (lk_p hk bi_23) (lk_p ho bi_29) Hc
      have H := K2 _ e1 e2
      clear e1 e2 Hc K1 K2
      replace H := i_inc (q := 36) H I_X0_become_33 rfl rfl rfl
      replace H := i_goto (q := 10) H I_X0_become_36 (by decide)
      have e : i = i_23 := zofn ei_23 (by omega) (by omega)
      subst e
      have e : i = i_29 := zofn ei_29 (by omega) (by omega)
      subst e
      replace H : zE none d zm_X0_become 10 [.ref k, .ref o, .int (Int32.ofNat (i + 1))] [] (zup (zup (zup (zup m (k + 3 + i) 0 (m (o + 3 + i) 0)) (k + 3 + i) 1 (m (o + 3 + i) 1)) (k + 3 + i) 2 (m (o + 3 + i) 2)) (k + 3 + i) 3 (m (o + 3 + i) 3)) r h' := by
        rw [zofn_s] at H
        exact H
      obtain ⟨m1, g1, g3, g4⟩ := ih (i + 1) d r h' _ (by omega) (by rw [zup_n (by omega), zup_n (by omega), zup_n (by omega), zup_n (by omega)]; exact hc) H
      refine ⟨m1, g1, fun i' h1 h2 b hb => ?_, fun a b hab => ?_⟩
      · by_cases hi' : i' = i
        · subst hi'
          rw [g4 _ _ (by omega)]
          rcases (by omega : b = 0 ∨ b = 1 ∨ b = 2 ∨ b = 3) with rfl | rfl | rfl | rfl
          · rw [zup_n (by omega), zup_n (by omega), zup_n (by omega), zup_s]
          · rw [zup_n (by omega), zup_n (by omega), zup_s]
          · rw [zup_n (by omega), zup_s]
          · rw [zup_s]
        · rw [g3 i' (by omega) h2 b hb, zup_n (by omega), zup_n (by omega), zup_n (by omega), zup_n (by omega)]
      · rw [g4 a b (by omega), zup_n (by omega), zup_n (by omega), zup_n (by omega), zup_n (by omega)]
theorem bc_acts {k o c : Nat} (hk : zlk6 k) (ho : zlk6 o) (hko : o + 8 ≤ k ∨ k + 8 ≤ o) (hc8 : c ≤ 8) : ∀ (j i d : Nat) (r : Option Value) (h' : zHp) (m : zM), i + j = c → m k 3 = Int32.ofNat c → zE none d zm_X0_become 49 [.ref k, .ref o, .int (Int32.ofNat i)] [] m r h' → ∃ m1, zE none d zm_X0_become 75 [.ref k, .ref o, .int (Int32.ofNat c)] [] m1 r h' ∧ (∀ i', i ≤ i' → i' < c → m1 (k + 2) i' = m (o + 2) i') ∧ ∀ a b, ¬ (a = k + 2 ∧ i ≤ b ∧ b < c) → m1 a b = m a b := by
  intro j
  induction j with
  | zero =>
    intro i d r h' m hj hc H
    have e : i = c := by omega
    subst e
    replace H := i_iln (q := 50) H I_X0_become_49 rfl rfl
    replace H := i_aln (q := 51) H I_X0_become_50 rfl rfl
    replace H := i_gfi (q := 54) H I_X0_become_51 G_0_29 cn_X0_become (lk_0 hk) rfl rfl
    have W := i_ic_ge (t := 75) (q := 57) H I_X0_become_54 (by decide) rfl
    clear H
    rcases W with ⟨c_54, H⟩ | ⟨c_54, H⟩
    · skip
      exact ⟨m, H, fun i' h1 h2 => by omega, fun a b _ => rfl⟩
    · skip
      replace H := i_aln (q := 58) H I_X0_become_57 rfl rfl
      replace H := i_gfr (q := 61) H I_X0_become_58 G_0_17 cn_X0_become (lk_0 hk) rfl rfl
      replace H := i_iln (q := 62) H I_X0_become_61 rfl rfl
      replace H := i_aln (q := 63) H I_X0_become_62 rfl rfl
      replace H := i_gfr (q := 66) H I_X0_become_63 G_0_17 cn_X0_become (lk_0 ho) rfl rfl
      replace H := i_iln (q := 67) H I_X0_become_66 rfl rfl
      have W := i_ia (q := 68) H I_X0_become_67 (lk_2 ho) rfl
      clear H
      obtain ⟨i_67, bi_67, ei_67, H⟩ := W
      have W := i_iast (q := 69) H I_X0_become_68 (lk_2 hk) rfl
      clear H
      obtain ⟨i_68, bi_68, ei_68, H⟩ := W
      replace H := i_inc (q := 72) H I_X0_become_69 rfl rfl rfl
      replace H := i_goto (q := 49) H I_X0_become_72 (by decide)
      exfalso
      rw [hc] at c_54
      exact absurd ((zofn_lt (by omega) (by omega)).mp c_54) (by omega)
  | succ j ih =>
    intro i d r h' m hj hc H
    replace H := i_iln (q := 50) H I_X0_become_49 rfl rfl
    replace H := i_aln (q := 51) H I_X0_become_50 rfl rfl
    replace H := i_gfi (q := 54) H I_X0_become_51 G_0_29 cn_X0_become (lk_0 hk) rfl rfl
    have W := i_ic_ge (t := 75) (q := 57) H I_X0_become_54 (by decide) rfl
    clear H
    rcases W with ⟨c_54, H⟩ | ⟨c_54, H⟩
    · skip
      exfalso
      rw [hc] at c_54
      exact c_54 ((zofn_lt (by omega) (by omega)).mpr (by omega))
    · skip
      replace H := i_aln (q := 58) H I_X0_become_57 rfl rfl
      replace H := i_gfr (q := 61) H I_X0_become_58 G_0_17 cn_X0_become (lk_0 hk) rfl rfl
      replace H := i_iln (q := 62) H I_X0_become_61 rfl rfl
      replace H := i_aln (q := 63) H I_X0_become_62 rfl rfl
      replace H := i_gfr (q := 66) H I_X0_become_63 G_0_17 cn_X0_become (lk_0 ho) rfl rfl
      replace H := i_iln (q := 67) H I_X0_become_66 rfl rfl
      have W := i_ia (q := 68) H I_X0_become_67 (lk_2 ho) rfl
      clear H
      obtain ⟨i_67, bi_67, ei_67, H⟩ := W
      have W := i_iast (q := 69) H I_X0_become_68 (lk_2 hk) rfl
      clear H
      obtain ⟨i_68, bi_68, ei_68, H⟩ := W
      replace H := i_inc (q := 72) H I_X0_become_69 rfl rfl rfl
      replace H := i_goto (q := 49) H I_X0_become_72 (by decide)
      have e : i = i_67 := zofn ei_67 (by omega) (by omega)
      subst e
      have e : i = i_68 := zofn ei_68 (by omega) (by omega)
      subst e
      replace H : zE none d zm_X0_become 49 [.ref k, .ref o, .int (Int32.ofNat (i + 1))] [] (zup m (k + 2) i (m (o + 2) i)) r h' := by
        rw [zofn_s] at H
        exact H
      obtain ⟨m1, g1, g3, g4⟩ := ih (i + 1) d r h' _ (by omega) (by rw [zup_n (by omega)]; exact hc) H
      refine ⟨m1, g1, fun i' h1 h2 => ?_, fun a b hab => ?_⟩
      · by_cases hi' : i' = i
        · subst hi'
          rw [g4 _ _ (by omega), zup_s]
        · rw [g3 i' (by omega) h2, zup_n (by omega)]
      · rw [g4 a b (by omega), zup_n (by omega)]
theorem t_X0_become {d : Nat} {m : zM} {r : Option Value} {h' : zHp} {k o c : Nat} {g : Nat → Int32} (hk : zlk6 k) (ho : zlk6 o) (hne : k ≠ o) (hL : LV m o c g) (H : zE none d zm_X0_become 0 [.ref k, .ref o, .null] [] m r h') : ∃ m1, r = none ∧ h' = zhp m1 ∧ LV m1 k c g ∧ ∀ a b, ¬ (k ≤ a ∧ a ≤ k + 7) → m1 a b = m a b := by
  have hko := lk_dj hk ho hne
  obtain ⟨h1, h2, h3, h4, h5, a, a1, a2, a3, a4⟩ := hL
  replace H := i_aln (q := 1) H I_X0_become_0 rfl rfl
  replace H := i_aln (q := 2) H I_X0_become_1 rfl rfl
  replace H := i_gfi (q := 5) H I_X0_become_2 G_0_26 cn_X0_become (lk_0 ho) rfl rfl
  replace H := i_pf (q := 8) H I_X0_become_5 G_0_26 cn_X0_become (lk_0 hk) rfl rfl
  replace H := i_icst (x := 0) (q := 9) H I_X0_become_8 (by decide) rfl
  replace H := i_isn (q := 10) H I_X0_become_9 rfl rfl
  obtain ⟨m2, H, n3, n4⟩ := bc_people hk ho hko h2 c 0 d r h' _ (by omega) (by rw [zup_s]; exact h1) H
  replace H := i_aln (q := 40) H I_X0_become_39 rfl rfl
  replace H := i_aln (q := 41) H I_X0_become_40 rfl rfl
  replace H := i_gfi (q := 44) H I_X0_become_41 G_0_29 cn_X0_become (lk_0 ho) rfl rfl
  replace H := i_pf (q := 47) H I_X0_become_44 G_0_29 cn_X0_become (lk_0 hk) rfl rfl
  replace H := i_icst (x := 0) (q := 48) H I_X0_become_47 (by decide) rfl
  replace H := i_isn (q := 49) H I_X0_become_48 rfl rfl
  obtain ⟨m3, H, p3, p4⟩ := bc_acts hk ho hko a1 a 0 d r h' _ (by omega) (by rw [zup_s, n4 _ _ (by omega), zup_n (by omega)]; exact a3) H
  replace H := i_aln (q := 76) H I_X0_become_75 rfl rfl
  replace H := i_aln (q := 77) H I_X0_become_76 rfl rfl
  replace H := i_gfi (q := 80) H I_X0_become_77 G_0_21 cn_X0_become (lk_0 ho) rfl rfl
  replace H := i_pf (q := 83) H I_X0_become_80 G_0_21 cn_X0_become (lk_0 hk) rfl rfl
  replace H := i_aln (q := 84) H I_X0_become_83 rfl rfl
  replace H := i_aln (q := 85) H I_X0_become_84 rfl rfl
  replace H := i_gfi (q := 88) H I_X0_become_85 G_0_32 cn_X0_become (lk_0 ho) rfl rfl
  replace H := i_pf (q := 91) H I_X0_become_88 G_0_32 cn_X0_become (lk_0 hk) rfl rfl
  obtain ⟨hr, hh⟩ := i_rt H I_X0_become_91
  refine ⟨_, hr, hh, ?_, fun x b hab => ?_⟩
  · refine ⟨?_, h2, fun i hi => ?_, ?_, ?_, a, a1, a2, ?_, fun i hi => ?_⟩
    · rw [zup_n (by omega), zup_n (by omega), p4 _ _ (by omega), zup_n (by omega), n4 _ _ (by omega), zup_s]
      exact h1
    · obtain ⟨x, y, z, w⟩ := h3 i hi
      refine ⟨?_, ?_, ?_, ?_⟩
      · rw [zup_n (by omega), zup_n (by omega), p4 _ _ (by omega), zup_n (by omega), n3 i (by omega) hi 0 (by omega), zup_n (by omega), x]
      · rw [zup_n (by omega), zup_n (by omega), p4 _ _ (by omega), zup_n (by omega), n3 i (by omega) hi 1 (by omega), zup_n (by omega), y]
      · rw [zup_n (by omega), zup_n (by omega), p4 _ _ (by omega), zup_n (by omega), n3 i (by omega) hi 2 (by omega), zup_n (by omega), z]
      · rw [zup_n (by omega), zup_n (by omega), p4 _ _ (by omega), zup_n (by omega), n3 i (by omega) hi 3 (by omega), zup_n (by omega), w]
    · rw [zup_n (by omega), zup_s, p4 _ _ (by omega), zup_n (by omega), n4 _ _ (by omega), zup_n (by omega), h4]
    · rw [zup_s, zup_n (by omega), p4 _ _ (by omega), zup_n (by omega), n4 _ _ (by omega), zup_n (by omega), h5]
    · rw [zup_n (by omega), zup_n (by omega), p4 _ _ (by omega), zup_s, n4 _ _ (by omega), zup_n (by omega), a3]
    · rw [zup_n (by omega), zup_n (by omega), p3 i (by omega) hi, zup_n (by omega), n4 _ _ (by omega), zup_n (by omega), a4 i hi]
  · rw [zup_n (by omega), zup_n (by omega), p4 _ _ (by omega), zup_n (by omega), n4 _ _ (by omega), zup_n (by omega)]
theorem aa_loop {m : zM} {c : Nat} {x : Int32} (hc8 : c ≤ 8) (hc : m 3 3 = Int32.ofNat c) : ∀ (j i d : Nat) (r : Option Value) (h' : zHp), i + j = c → zE none d zm_X2_allAreThere 7 [.ref 1, .int (x ||| zorf (m 5) i), .int (Int32.ofNat i)] [] m r h' → ∃ y, y = x ||| zorf (m 5) c ∧ zE none d zm_X2_allAreThere 36 [.ref 1, .int y, .int (Int32.ofNat c)] [] m r h' := by
  intro j
  induction j with
  | zero =>
    intro i d r h' hj H
    have e : i = c := by omega
    subst e
    replace H := i_iln (q := 8) H I_X2_allAreThere_7 rfl rfl
    replace H := i_aln (q := 9) H I_X2_allAreThere_8 rfl rfl
    replace H := i_gfr (q := 12) H I_X2_allAreThere_9 G_2_18 cn_X2_allAreThere LY_1 rfl rfl
    replace H := i_gfi (q := 15) H I_X2_allAreThere_12 G_2_61 cn_X2_allAreThere LY_3 rfl rfl
    have W := i_ic_ge (t := 36) (q := 18) H I_X2_allAreThere_15 (by decide) rfl
    clear H
    rcases W with ⟨c_15, H⟩ | ⟨c_15, H⟩
    · skip
      exact ⟨_, rfl, H⟩
    · skip
      replace H := i_iln (q := 19) H I_X2_allAreThere_18 rfl rfl
      replace H := i_aln (q := 20) H I_X2_allAreThere_19 rfl rfl
      replace H := i_gfr (q := 23) H I_X2_allAreThere_20 G_2_18 cn_X2_allAreThere LY_1 rfl rfl
      replace H := i_gfr (q := 26) H I_X2_allAreThere_23 G_2_64 cn_X2_allAreThere LY_3 rfl rfl
      replace H := i_iln (q := 27) H I_X2_allAreThere_26 rfl rfl
      have W := i_ia (q := 28) H I_X2_allAreThere_27 LY_5 rfl
      clear H
      obtain ⟨i_27, bi_27, ei_27, H⟩ := W
      replace H := i_ior (q := 29) H I_X2_allAreThere_28 rfl
      replace H := i_isn (q := 30) H I_X2_allAreThere_29 rfl rfl
      replace H := i_inc (q := 33) H I_X2_allAreThere_30 rfl rfl rfl
      replace H := i_goto (q := 7) H I_X2_allAreThere_33 (by decide)
      exfalso
      rw [hc] at c_15
      exact absurd ((zofn_lt (by omega) (by omega)).mp c_15) (by omega)
  | succ j ih =>
    intro i d r h' hj H
    replace H := i_iln (q := 8) H I_X2_allAreThere_7 rfl rfl
    replace H := i_aln (q := 9) H I_X2_allAreThere_8 rfl rfl
    replace H := i_gfr (q := 12) H I_X2_allAreThere_9 G_2_18 cn_X2_allAreThere LY_1 rfl rfl
    replace H := i_gfi (q := 15) H I_X2_allAreThere_12 G_2_61 cn_X2_allAreThere LY_3 rfl rfl
    have W := i_ic_ge (t := 36) (q := 18) H I_X2_allAreThere_15 (by decide) rfl
    clear H
    rcases W with ⟨c_15, H⟩ | ⟨c_15, H⟩
    · skip
      exfalso
      rw [hc] at c_15
      exact c_15 ((zofn_lt (by omega) (by omega)).mpr (by omega))
    · skip
      replace H := i_iln (q := 19) H I_X2_allAreThere_18 rfl rfl
      replace H := i_aln (q := 20) H I_X2_allAreThere_19 rfl rfl
      replace H := i_gfr (q := 23) H I_X2_allAreThere_20 G_2_18 cn_X2_allAreThere LY_1 rfl rfl
      replace H := i_gfr (q := 26) H I_X2_allAreThere_23 G_2_64 cn_X2_allAreThere LY_3 rfl rfl
      replace H := i_iln (q := 27) H I_X2_allAreThere_26 rfl rfl
      have W := i_ia (q := 28) H I_X2_allAreThere_27 LY_5 rfl
      clear H
      obtain ⟨i_27, bi_27, ei_27, H⟩ := W
      replace H := i_ior (q := 29) H I_X2_allAreThere_28 rfl
      replace H := i_isn (q := 30) H I_X2_allAreThere_29 rfl rfl
      replace H := i_inc (q := 33) H I_X2_allAreThere_30 rfl rfl rfl
      replace H := i_goto (q := 7) H I_X2_allAreThere_33 (by decide)
      have e : i = i_27 := zofn ei_27 (by omega) (by omega)
      subst e
      replace H : zE none d zm_X2_allAreThere 7 [.ref 1, .int (x ||| zorf (m 5) (i + 1)), .int (Int32.ofNat (i + 1))] [] m r h' := by
        rw [zofn_s, Int32.or_assoc] at H
        exact H
      exact ih (i + 1) d r h' (by omega) H
/-- nobody is named who is not there -/
def zthr (σ : zPs) : Prop := (σ.2.2.2.2 ||| σ.2.1 15) >>> (Int32.ofNat σ.1 &&& 31) = 0
theorem t_X2_allAreThere {d : Nat} {m : zM} {r : Option Value} {h' : zHp} {n c : Nat} {g : Nat → Int32} {sT pT : Bool} {sb : Int32} (hn : m 1 2 = Int32.ofNat n) (hV : cV m c g sT pT sb) (H : zE none d zm_X2_allAreThere 0 [.ref 1, .null, .null] [] m r h') : ∃ m1, h' = zhp m1 ∧ zfC m m1 ∧ ((zthr (c, g, sT, pT, sb) ∧ r = some (.int 1) ∧ LV m1 3 c g ∧ m1 1 4 = 0) ∨ (¬ zthr (c, g, sT, pT, sb) ∧ r = some (.int 0) ∧ m1 1 4 = 6 ∧ m1 1 5 = Int32.ofNat n)) := by
  obtain ⟨q1, q2, q3, q4, q5, q6, ⟨a, a1, a2, a3, a4, a5, a6⟩, q8, q9, q10⟩ := hV
  have hth : zthr (c, g, sT, pT, sb) ↔ (m 1 10 ||| zorf (m 5) a) >>> (m 3 2 &&& 31) = 0 := by
    unfold zthr
    rw [q4, q1, ← a6, Int32.or_comm]
  replace H := i_aln (q := 1) H I_X2_allAreThere_0 rfl rfl
  replace H := i_gfi (q := 4) H I_X2_allAreThere_1 G_2_38 cn_X2_allAreThere LY_1 rfl rfl
  replace H := i_isn (q := 5) H I_X2_allAreThere_4 rfl rfl
  replace H := i_icst (x := 0) (q := 6) H I_X2_allAreThere_5 (by decide) rfl
  replace H := i_isn (q := 7) H I_X2_allAreThere_6 rfl rfl
  replace H : zE none d zm_X2_allAreThere 7 [.ref 1, .int (m 1 10 ||| zorf (m 5) 0), .int (Int32.ofNat 0)] [] m r h' := by
    rw [show m 1 10 ||| zorf (m 5) 0 = m 1 10 from Int32.or_zero]
    exact H
  obtain ⟨y, hy, H⟩ := aa_loop a1 a3 a 0 d r h' (by omega) H
  replace H := i_iln (q := 37) H I_X2_allAreThere_36 rfl rfl
  replace H := i_aln (q := 38) H I_X2_allAreThere_37 rfl rfl
  replace H := i_gfr (q := 41) H I_X2_allAreThere_38 G_2_18 cn_X2_allAreThere LY_1 rfl rfl
  replace H := i_gfi (q := 44) H I_X2_allAreThere_41 G_2_68 cn_X2_allAreThere LY_3 rfl rfl
  replace H := i_ishr (q := 45) H I_X2_allAreThere_44 rfl
  have W := i_if_eq (t := 59) (q := 48) H I_X2_allAreThere_45 (by decide) rfl
  clear H
  rcases W with ⟨c_45, H⟩ | ⟨c_45, H⟩
  · skip
    replace H := i_aln (q := 60) H I_X2_allAreThere_59 rfl rfl
    replace H := i_gfr (q := 63) H I_X2_allAreThere_60 G_2_18 cn_X2_allAreThere LY_1 rfl rfl
    replace H := i_aln (q := 64) H I_X2_allAreThere_63 rfl rfl
    replace H := i_gfi (q := 67) H I_X2_allAreThere_64 G_2_38 cn_X2_allAreThere LY_1 rfl rfl
    have W := i_cv1 1 (q := 70) H I_X2_allAreThere_67 K_2_78 Zm_7 rfl rfl
    clear H
    obtain ⟨r1, h1, Hc, K1, K2⟩ := W
    obtain ⟨M_67, e1, e2, F_67⟩ := t_X0_useHands lkk_3 (c := c) q2 q1 Hc
    have H := K2 _ e1 e2
    clear e1 e2 Hc K1 K2
    replace H := i_icst (x := 1) (q := 71) H I_X2_allAreThere_70 (by decide) rfl
    obtain ⟨hr, hh⟩ := i_ir H I_X2_allAreThere_71
    rw [hy, ← hth] at c_45
    obtain ⟨u1, u2⟩ := F_67
    refine ⟨_, hh, fun x b k1 k2 => u2 x b (by omega), Or.inl ⟨c_45, hr, ⟨?_, q2, fun i hi => ?_, ?_, ?_, a, a1, a2, ?_, fun i hi => ?_⟩, ?_⟩⟩
    · rw [u2 _ _ (by omega)]; exact q1
    · obtain ⟨x, y, z⟩ := q3 i hi
      refine ⟨?_, ?_, ?_, ?_⟩
      · rw [u2 _ _ (by omega)]; exact x
      · rw [u2 _ _ (by omega)]; exact y
      · rw [u2 _ _ (by omega)]; exact z
      · rw [u1 i hi, q4]
    · rw [u2 _ _ (by omega)]; exact q5
    · rw [u2 _ _ (by omega)]; exact q6
    · rw [u2 _ _ (by omega)]; exact a3
    · rw [u2 _ _ (by omega)]; exact a4 i hi
    · rw [u2 _ _ (by omega)]; exact q10
  · skip
    replace H := i_aln (q := 49) H I_X2_allAreThere_48 rfl rfl
    replace H := i_bip (x := 6) (q := 51) H I_X2_allAreThere_49 (by decide) rfl
    replace H := i_aln (q := 52) H I_X2_allAreThere_51 rfl rfl
    replace H := i_gfi (q := 55) H I_X2_allAreThere_52 G_2_71 cn_X2_allAreThere LY_1 rfl rfl
    have W := i_cv2 0 (q := 58) H I_X2_allAreThere_55 K_2_74 Zm_27 rfl rfl
    clear H
    obtain ⟨r1, h1, Hc, K1, K2⟩ := W
    obtain ⟨e1, e2⟩ := t_X2_fail Hc
    have H := K1 _ _ e1 e2
    clear e1 e2 Hc K1 K2
    obtain ⟨hr, hh⟩ := i_ir H I_X2_allAreThere_58
    rw [hy, ← hth] at c_45
    rw [hn] at hh
    exact ⟨_, hh, fun x b _ _ => by rw [zup_n (by omega), zup_n (by omega)], Or.inr ⟨c_45, hr, by rw [zup_n (by omega), zup_s], by rw [zup_s]⟩⟩
def pTx (t : Nat → Int32) (n : Nat) : Nat → zPs → Nat → Nat → zPr
  | 0, _, _, _ => .inl (0, 0)
  | k + 1, σ, l, p => if tK t n p = 0 then (if (σ.2.2.2.2 ||| σ.2.1 15) >>> (Int32.ofNat σ.1 &&& 31) = 0 then .inr (σ, l) else .inl (6, n)) else (match pLn t n σ p with
    | .inl f => .inl f
    | .inr q => pTx t n k q.1 (l + 1) q.2)
theorem pEnd_ok {t : Nat → Int32} {n p : Nat} {x : zPs} {q : zPs × Nat} (h : pEnd t n p x = .inr q) : p + 1 ≤ q.2 ∧ (p ≤ n → q.2 ≤ n) := by
  unfold pEnd at h
  split at h
  · rename_i hk
    cases h
    exact ⟨tN_gt (by rw [hk]; decide), fun w => tN_le w⟩
  · cases h
theorem pPl_ok {t : Nat → Int32} {n c : Nat} {sT : Bool} : ∀ (k a : Nat) (g : Nat → Int32) (sb : Int32) (p : Nat) (q : zPs × Nat), pPl t n c sT k a g sb p = .inr q → p + 1 ≤ q.2 ∧ (p ≤ n → q.2 ≤ n)
  | 0, a, g, sb, p, q, h => by cases h
  | k + 1, a, g, sb, p, q, h => by
    rw [pPl] at h
    split at h
    · rename_i hk
      cases h
      exact ⟨tN_gt (by rw [hk]; decide), fun w => tN_le w⟩
    · split at h
      · rename_i hk
        split at h
        · cases h
        · split at h
          · cases h
          · have := pPl_ok k _ _ _ _ q h
            have h2 : p + 1 ≤ tN t n p := tN_gt (by rw [hk]; decide)
            exact ⟨by omega, fun w => this.2 (tN_le w)⟩
      · cases h
theorem pNm_gt {t : Nat → Int32} {n p : Nat} {x : Int32} (h : zNm t n p x = true) : p + 1 ≤ tN t n p := by
  simp only [zNm, Bool.and_eq_true, decide_eq_true_eq] at h
  exact tN_gt (by rw [h.1]; decide)
theorem pLn_ok {t : Nat → Int32} {n p : Nat} {σ : zPs} {q : zPs × Nat} (h : pLn t n σ p = .inr q) : p + 1 ≤ q.2 ∧ (p ≤ n → q.2 ≤ n) := by
  unfold pLn at h
  split at h
  · rename_i hk
    have h1 : p + 1 ≤ tN t n p := tN_gt (by rw [hk]; decide)
    split at h
    · unfold pOne at h
      split at h
      · cases h
      · split at h
        · rename_i k1
          have := pNm_gt k1
          split at h
          · rename_i k2
            have := pNm_gt k2
            have h3 := pEnd_ok h
            exact ⟨by omega, fun w => h3.2 (tN_le (tN_le (tN_le w)))⟩
          · cases h
        · cases h
    · split at h
      · unfold pLeft at h
        split at h
        · rename_i k1
          have := pNm_gt k1
          split at h
          · have h3 := pEnd_ok h
            exact ⟨by omega, fun w => h3.2 (tN_le (tN_le w))⟩
          · cases h
        · cases h
      · split at h
        · unfold pSlack at h
          split at h
          · cases h
          · split at h
            · rename_i k1
              have := pNm_gt k1
              have h3 := pEnd_ok h
              exact ⟨by omega, fun w => h3.2 (tN_le (tN_le w))⟩
            · cases h
        · split at h
          · unfold pPlan at h
            split at h
            · cases h
            · have h3 := pPl_ok _ _ _ _ _ _ h
              exact ⟨by omega, fun w => h3.2 (tN_le w)⟩
          · cases h
  · cases h
/-- what the class holds when all has been read -/
def cX (m1 : zM) (r : Option Value) (x : zPr) : Prop := match x with
  | .inl f => r = some (.int 0) ∧ m1 1 4 = f.1 ∧ m1 1 5 = Int32.ofNat f.2
  | .inr q => r = some (.int 1) ∧ LV m1 3 q.1.1 q.1.2.1 ∧ m1 1 3 = Int32.ofNat q.2 ∧ m1 1 4 = 0
def zfD (m m1 : zM) : Prop := ∀ a b, ¬ (a = 1 ∧ 3 ≤ b) → ¬ (3 ≤ a ∧ a ≤ 10) → m1 a b = m a b
theorem zfD_C {m m1 : zM} (h : zfC m m1) : zfD m m1 := fun a b x y => h a b (by omega) y
theorem zfD_t {m m1 m2 : zM} (h1 : zfD m m1) (h2 : zfD m1 m2) : zfD m m2 := fun a b x y => (h2 a b x y).trans (h1 a b x y)
theorem ra_loop {n : Nat} : ∀ (j i d : Nat) (r : Option Value) (h' : zHp) (m : zM) (c : Nat) (g : Nat → Int32) (sT pT : Bool) (sb : Int32) (l p : Nat), i + (j + 1) = 161 → i ≤ p → zPl m n p → cV m c g sT pT sb → m 1 3 = Int32.ofNat l → zE none d zm_X2_readAll 44 [.ref 1, .int (Int32.ofNat i)] [] m r h' → ∃ m1, h' = zhp m1 ∧ zfD m m1 ∧ cX m1 r (pTx (m 2) n (j + 1) (c, g, sT, pT, sb) l p) := by
  intro j
  induction j with
  | zero =>
    intro i d r h' m c g sT pT sb l p hj hip hq hV hl H
    replace H := i_iln (q := 45) H I_X2_readAll_44 rfl rfl
    replace H := i_sip (x := 160) (q := 48) H I_X2_readAll_45 (by decide) rfl
    have W := i_ic_gt (t := 92) (q := 51) H I_X2_readAll_48 (by decide) rfl
    clear H
    rcases W with ⟨c_48, H⟩ | ⟨c_48, H⟩
    · skip
      replace H := i_icst (x := 0) (q := 93) H I_X2_readAll_92 (by decide) rfl
      obtain ⟨hr, hh⟩ := i_ir H I_X2_readAll_93
      exfalso
      exact absurd ((zofn_lt (i := 160) (by decide) (by omega)).mp c_48) (by omega)
    · skip
      replace H := i_aln (q := 52) H I_X2_readAll_51 rfl rfl
      have W := i_cv0 1 (q := 55) H I_X2_readAll_52 K_2_48 Zm_37 rfl rfl
      clear H
      obtain ⟨r1, h1, Hc, K1, K2⟩ := W
      obtain ⟨M_52, e1, e2, F_52⟩ := t_X2_next (n := n) (p := p) hq.1 hq.2.1 hq.2.2.1 hq.2.2.2 Hc
      have H := K2 _ e1 e2
      clear e1 e2 Hc K1 K2
      replace H := i_aln (q := 56) H I_X2_readAll_55 rfl rfl
      replace H := i_gfi (q := 59) H I_X2_readAll_56 G_2_51 cn_X2_readAll LY_1 rfl rfl
      have W := i_if_ne (t := 67) (q := 62) H I_X2_readAll_59 (by decide) rfl
      clear H
      rcases W with ⟨c_59, H⟩ | ⟨c_59, H⟩
      · skip
        replace H := i_aln (q := 68) H I_X2_readAll_67 rfl rfl
        have W := i_cv0 1 (q := 71) H I_X2_readAll_68 K_2_58 Zm_29 rfl rfl
        clear H
        obtain ⟨r1, h1, Hc, K1, K2⟩ := W
        obtain ⟨M_68, e2, F_68, R_68⟩ := t_X2_readLine (n := n) (p := p) (sb := sb) (c := c) (g := g) (sT := sT) (pT := pT) (by rw [F_52.2.2.2.2 1 2 (by omega)]; exact hq.1) hq.2.1 hq.2.2.2 (by rw [zfC_2 (fun a b x y => F_52.2.2.2.2 a b (by omega))]; exact F_52.1) (by rw [zfC_2 (fun a b x y => F_52.2.2.2.2 a b (by omega))]; exact F_52.2.1) (by rw [zfC_2 (fun a b x y => F_52.2.2.2.2 a b (by omega))]; exact F_52.2.2.1) (cV_f hV (fun a b hab => F_52.2.2.2.2 a b (by omega)) (F_52.2.2.2.2 1 4 (by omega))) Hc
        have e1 := cR_v R_68
        have H := K1 _ _ e1 e2
        clear e1 e2 Hc K1 K2
        have W := i_if_ne (t := 76) (q := 74) H I_X2_readAll_71 (by decide) rfl
        clear H
        rcases W with ⟨c_71, H⟩ | ⟨c_71, H⟩
        · skip
          replace H := i_aln (q := 77) H I_X2_readAll_76 rfl rfl
          replace H := i_dup (q := 78) H I_X2_readAll_77 rfl rfl
          replace H := i_gfi (q := 81) H I_X2_readAll_78 G_2_29 cn_X2_readAll LY_1 rfl rfl
          replace H := i_icst (x := 1) (q := 82) H I_X2_readAll_81 (by decide) rfl
          replace H := i_iadd (q := 83) H I_X2_readAll_82 rfl
          replace H := i_pf (q := 86) H I_X2_readAll_83 G_2_29 cn_X2_readAll LY_1 rfl rfl
          replace H := i_inc (q := 89) H I_X2_readAll_86 rfl rfl rfl
          replace H := i_goto (q := 44) H I_X2_readAll_89 (by decide)
          obtain ⟨f6, f7, f8, f9, ff⟩ := F_52
          have fC : zfC m M_52 := fun a b x y => ff a b (by omega)
          have e2 : M_52 2 = m 2 := zfC_2 fC
          rw [f7] at c_59
          rw [e2] at R_68 c_71
          rw [pTx, if_neg c_59]
          cases hx : pLn (m 2) n (c, g, sT, pT, sb) p with
          | inl f =>
            rw [hx] at c_71
            exact absurd rfl c_71
          | inr q =>
            rw [hx] at R_68
            obtain ⟨r1, r2, r3, r4⟩ := R_68
            have hok := pLn_ok hx
            have hq2 := hok.2 hq.2.2.2
            have hq3 := hq.2.1
            omega
        · skip
          replace H := i_icst (x := 0) (q := 75) H I_X2_readAll_74 (by decide) rfl
          obtain ⟨hr, hh⟩ := i_ir H I_X2_readAll_75
          obtain ⟨f6, f7, f8, f9, ff⟩ := F_52
          have fC : zfC m M_52 := fun a b x y => ff a b (by omega)
          have e2 : M_52 2 = m 2 := zfC_2 fC
          rw [f7] at c_59
          refine ⟨_, hh, zfD_t (zfD_C fC) (zfD_C F_68), ?_⟩
          rw [e2] at R_68 c_71
          rw [pTx, if_neg c_59]
          cases hx : pLn (m 2) n (c, g, sT, pT, sb) p with
          | inl f =>
            rw [hx] at R_68
            exact ⟨hr, R_68.2⟩
          | inr q =>
            rw [hx] at c_71
            exact absurd c_71 (show ¬ (1 : Int32) = 0 by decide)
      · skip
        replace H := i_aln (q := 63) H I_X2_readAll_62 rfl rfl
        have W := i_cv0 2 (q := 66) H I_X2_readAll_63 K_2_54 Zm_28 rfl rfl
        clear H
        obtain ⟨r1, h1, Hc, K1, K2⟩ := W
        obtain ⟨M_63, e2, F_63⟩ := t_X2_allAreThere (n := n) (by rw [F_52.2.2.2.2 1 2 (by omega)]; exact hq.1) (cV_f hV (fun a b hab => F_52.2.2.2.2 a b (by omega)) (F_52.2.2.2.2 1 4 (by omega))) Hc
        obtain ⟨v_63, e1⟩ : ∃ v, r1 = some (.int v) := by
          rcases F_63.2 with w | w
          · exact ⟨_, w.2.1⟩
          · exact ⟨_, w.2.1⟩
        have H := K1 _ _ e1 e2
        rw [e1] at F_63
        clear e1 e2 Hc K1 K2
        obtain ⟨hr, hh⟩ := i_ir H I_X2_readAll_66
        obtain ⟨f6, f7, f8, f9, ff⟩ := F_52
        have fC : zfC m M_52 := fun a b x y => ff a b (by omega)
        have e2 : M_52 2 = m 2 := zfC_2 fC
        rw [f7] at c_59
        obtain ⟨g1, g2⟩ := F_63
        refine ⟨_, hh, zfD_t (zfD_C fC) (zfD_C g1), ?_⟩
        rw [pTx, if_pos c_59]
        rcases g2 with ⟨t1, t2, t3, t4⟩ | ⟨t1, t2, t3, t4⟩
        · rw [t2] at hr
          rw [if_pos (by exact t1)]
          exact ⟨hr, t3, by rw [g1 1 3 (by omega) (by omega), ff 1 3 (by omega)]; exact hl, t4⟩
        · rw [t2] at hr
          rw [if_neg (by exact t1)]
          exact ⟨hr, t3, t4⟩
  | succ j ih =>
    intro i d r h' m c g sT pT sb l p hj hip hq hV hl H
    replace H := i_iln (q := 45) H I_X2_readAll_44 rfl rfl
    replace H := i_sip (x := 160) (q := 48) H I_X2_readAll_45 (by decide) rfl
    have W := i_ic_gt (t := 92) (q := 51) H I_X2_readAll_48 (by decide) rfl
    clear H
    rcases W with ⟨c_48, H⟩ | ⟨c_48, H⟩
    · skip
      replace H := i_icst (x := 0) (q := 93) H I_X2_readAll_92 (by decide) rfl
      obtain ⟨hr, hh⟩ := i_ir H I_X2_readAll_93
      exfalso
      exact absurd ((zofn_lt (i := 160) (by decide) (by omega)).mp c_48) (by omega)
    · skip
      replace H := i_aln (q := 52) H I_X2_readAll_51 rfl rfl
      have W := i_cv0 1 (q := 55) H I_X2_readAll_52 K_2_48 Zm_37 rfl rfl
      clear H
      obtain ⟨r1, h1, Hc, K1, K2⟩ := W
      obtain ⟨M_52, e1, e2, F_52⟩ := t_X2_next (n := n) (p := p) hq.1 hq.2.1 hq.2.2.1 hq.2.2.2 Hc
      have H := K2 _ e1 e2
      clear e1 e2 Hc K1 K2
      replace H := i_aln (q := 56) H I_X2_readAll_55 rfl rfl
      replace H := i_gfi (q := 59) H I_X2_readAll_56 G_2_51 cn_X2_readAll LY_1 rfl rfl
      have W := i_if_ne (t := 67) (q := 62) H I_X2_readAll_59 (by decide) rfl
      clear H
      rcases W with ⟨c_59, H⟩ | ⟨c_59, H⟩
      · skip
        replace H := i_aln (q := 68) H I_X2_readAll_67 rfl rfl
        have W := i_cv0 1 (q := 71) H I_X2_readAll_68 K_2_58 Zm_29 rfl rfl
        clear H
        obtain ⟨r1, h1, Hc, K1, K2⟩ := W
        obtain ⟨M_68, e2, F_68, R_68⟩ := t_X2_readLine (n := n) (p := p) (sb := sb) (c := c) (g := g) (sT := sT) (pT := pT) (by rw [F_52.2.2.2.2 1 2 (by omega)]; exact hq.1) hq.2.1 hq.2.2.2 (by rw [zfC_2 (fun a b x y => F_52.2.2.2.2 a b (by omega))]; exact F_52.1) (by rw [zfC_2 (fun a b x y => F_52.2.2.2.2 a b (by omega))]; exact F_52.2.1) (by rw [zfC_2 (fun a b x y => F_52.2.2.2.2 a b (by omega))]; exact F_52.2.2.1) (cV_f hV (fun a b hab => F_52.2.2.2.2 a b (by omega)) (F_52.2.2.2.2 1 4 (by omega))) Hc
        have e1 := cR_v R_68
        have H := K1 _ _ e1 e2
        clear e1 e2 Hc K1 K2
        have W := i_if_ne (t := 76) (q := 74) H I_X2_readAll_71 (by decide) rfl
        clear H
        rcases W with ⟨c_71, H⟩ | ⟨c_71, H⟩
        · skip
          replace H := i_aln (q := 77) H I_X2_readAll_76 rfl rfl
          replace H := i_dup (q := 78) H I_X2_readAll_77 rfl rfl
          replace H := i_gfi (q := 81) H I_X2_readAll_78 G_2_29 cn_X2_readAll LY_1 rfl rfl
          replace H := i_icst (x := 1) (q := 82) H I_X2_readAll_81 (by decide) rfl
          replace H := i_iadd (q := 83) H I_X2_readAll_82 rfl
          replace H := i_pf (q := 86) H I_X2_readAll_83 G_2_29 cn_X2_readAll LY_1 rfl rfl
          replace H := i_inc (q := 89) H I_X2_readAll_86 rfl rfl rfl
          replace H := i_goto (q := 44) H I_X2_readAll_89 (by decide)
          obtain ⟨f6, f7, f8, f9, ff⟩ := F_52
          have fC : zfC m M_52 := fun a b x y => ff a b (by omega)
          have e2 : M_52 2 = m 2 := zfC_2 fC
          rw [f7] at c_59
          rw [e2] at R_68 c_71
          rw [pTx, if_neg c_59]
          cases hx : pLn (m 2) n (c, g, sT, pT, sb) p with
          | inl f =>
            rw [hx] at c_71
            exact absurd rfl c_71
          | inr q =>
            rw [hx] at R_68
            obtain ⟨r1, r2, r3, r4⟩ := R_68
            have hok := pLn_ok hx
            have hq2 := hok.2 hq.2.2.2
            have hq3 := hq.2.1
            replace H : zE none d zm_X2_readAll 44 [.ref 1, .int (Int32.ofNat (i + 1))] [] (zup M_68 1 3 (Int32.ofNat (l + 1))) r h' := by
              rw [zofn_s, F_68 1 3 (by omega) (by omega), ff 1 3 (by omega), hl, zofn_1] at H
              exact H
            have e3 : zup M_68 1 3 (Int32.ofNat (l + 1)) 2 = m 2 := by
              funext b
              rw [zup_n (by omega), F_68 2 b (by omega) (by omega), ff 2 b (by omega)]
            obtain ⟨m1, g1, g2, g3⟩ := ih (i + 1) d r h' _ q.1.1 q.1.2.1 q.1.2.2.1 q.1.2.2.2.1 q.1.2.2.2.2 (l + 1) q.2 (by omega) (by omega) ⟨by rw [zup_n (by omega), F_68 1 2 (by omega) (by omega), ff 1 2 (by omega)]; exact hq.1, hq3, by rw [zup_n (by omega)]; exact r3, hq2⟩ (by
              obtain ⟨q1, q2, q3, q4, q5, q6, ⟨a, a1, a2, a3, a4, a5, a6⟩, q8, q9, q10⟩ := r2
              refine ⟨by rw [zup_n (by omega)]; exact q1, q2, fun i hi => ?_, by rw [zup_n (by omega)]; exact q4, by rw [zup_n (by omega)]; exact q5, by rw [zup_n (by omega)]; exact q6, ⟨a, a1, a2, by rw [zup_n (by omega)]; exact a3, fun i hi => by rw [zup_n (by omega)]; exact a4 i hi, a5, a6.trans (zorf_c (fun i hi => by rw [zup_n (by omega)]))⟩, by rw [zup_n (by omega)]; exact q8, by rw [zup_n (by omega)]; exact q9, by rw [zup_n (by omega)]; exact q10⟩
              obtain ⟨x, y, z⟩ := q3 i hi
              exact ⟨by rw [zup_n (by omega)]; exact x, by rw [zup_n (by omega)]; exact y, by rw [zup_n (by omega)]; exact z⟩) (by rw [zup_s]) H
            rw [e3] at g3
            exact ⟨m1, g1, zfD_t (zfD_C fC) (zfD_t (zfD_C F_68) (zfD_t (fun a b x y => by rw [zup_n (by omega)]) g2)), g3⟩
        · skip
          replace H := i_icst (x := 0) (q := 75) H I_X2_readAll_74 (by decide) rfl
          obtain ⟨hr, hh⟩ := i_ir H I_X2_readAll_75
          obtain ⟨f6, f7, f8, f9, ff⟩ := F_52
          have fC : zfC m M_52 := fun a b x y => ff a b (by omega)
          have e2 : M_52 2 = m 2 := zfC_2 fC
          rw [f7] at c_59
          refine ⟨_, hh, zfD_t (zfD_C fC) (zfD_C F_68), ?_⟩
          rw [e2] at R_68 c_71
          rw [pTx, if_neg c_59]
          cases hx : pLn (m 2) n (c, g, sT, pT, sb) p with
          | inl f =>
            rw [hx] at R_68
            exact ⟨hr, R_68.2⟩
          | inr q =>
            rw [hx] at c_71
            exact absurd c_71 (show ¬ (1 : Int32) = 0 by decide)
      · skip
        replace H := i_aln (q := 63) H I_X2_readAll_62 rfl rfl
        have W := i_cv0 2 (q := 66) H I_X2_readAll_63 K_2_54 Zm_28 rfl rfl
        clear H
        obtain ⟨r1, h1, Hc, K1, K2⟩ := W
        obtain ⟨M_63, e2, F_63⟩ := t_X2_allAreThere (n := n) (by rw [F_52.2.2.2.2 1 2 (by omega)]; exact hq.1) (cV_f hV (fun a b hab => F_52.2.2.2.2 a b (by omega)) (F_52.2.2.2.2 1 4 (by omega))) Hc
        obtain ⟨v_63, e1⟩ : ∃ v, r1 = some (.int v) := by
          rcases F_63.2 with w | w
          · exact ⟨_, w.2.1⟩
          · exact ⟨_, w.2.1⟩
        have H := K1 _ _ e1 e2
        rw [e1] at F_63
        clear e1 e2 Hc K1 K2
        obtain ⟨hr, hh⟩ := i_ir H I_X2_readAll_66
        obtain ⟨f6, f7, f8, f9, ff⟩ := F_52
        have fC : zfC m M_52 := fun a b x y => ff a b (by omega)
        have e2 : M_52 2 = m 2 := zfC_2 fC
        rw [f7] at c_59
        obtain ⟨g1, g2⟩ := F_63
        refine ⟨_, hh, zfD_t (zfD_C fC) (zfD_C g1), ?_⟩
        rw [pTx, if_pos c_59]
        rcases g2 with ⟨t1, t2, t3, t4⟩ | ⟨t1, t2, t3, t4⟩
        · rw [t2] at hr
          rw [if_pos (by exact t1)]
          exact ⟨hr, t3, by rw [g1 1 3 (by omega) (by omega), ff 1 3 (by omega)]; exact hl, t4⟩
        · rw [t2] at hr
          rw [if_neg (by exact t1)]
          exact ⟨hr, t3, t4⟩
def zP0 : zPs := (0, fun _ => 0, false, false, 0)
theorem t_X2_readAll {d : Nat} {m : zM} {r : Option Value} {h' : zHp} {n : Nat} (hn : m 1 2 = Int32.ofNat n) (hn2 : n ≤ 160) (H : zE none d zm_X2_readAll 0 [.ref 1, .null] [] m r h') : ∃ m1, h' = zhp m1 ∧ zfD m m1 ∧ cX m1 r (pTx (m 2) n 161 zP0 0 0) := by
  replace H := i_aln (q := 1) H I_X2_readAll_0 rfl rfl
  replace H := i_gfr (q := 4) H I_X2_readAll_1 G_2_18 cn_X2_readAll LY_1 rfl rfl
  have W := i_cv0 0 (q := 7) H I_X2_readAll_4 K_2_22 Zm_1 rfl rfl
  clear H
  obtain ⟨r1, h1, Hc, K1, K2⟩ := W
  obtain ⟨e1, e2⟩ := t_X0_clear lkk_3 Hc
  have H := K2 _ e1 e2
  clear e1 e2 Hc K1 K2
  replace H := i_aln (q := 8) H I_X2_readAll_7 rfl rfl
  replace H := i_icst (x := 0) (q := 9) H I_X2_readAll_8 (by decide) rfl
  replace H := i_pf (q := 12) H I_X2_readAll_9 G_2_25 cn_X2_readAll LY_1 rfl rfl
  replace H := i_aln (q := 13) H I_X2_readAll_12 rfl rfl
  replace H := i_icst (x := 0) (q := 14) H I_X2_readAll_13 (by decide) rfl
  replace H := i_pf (q := 17) H I_X2_readAll_14 G_2_29 cn_X2_readAll LY_1 rfl rfl
  replace H := i_aln (q := 18) H I_X2_readAll_17 rfl rfl
  replace H := i_icst (x := 0) (q := 19) H I_X2_readAll_18 (by decide) rfl
  replace H := i_pf (q := 22) H I_X2_readAll_19 G_2_32 cn_X2_readAll LY_1 rfl rfl
  replace H := i_aln (q := 23) H I_X2_readAll_22 rfl rfl
  replace H := i_icst (x := 0) (q := 24) H I_X2_readAll_23 (by decide) rfl
  replace H := i_pf (q := 27) H I_X2_readAll_24 G_2_35 cn_X2_readAll LY_1 rfl rfl
  replace H := i_aln (q := 28) H I_X2_readAll_27 rfl rfl
  replace H := i_icst (x := 0) (q := 29) H I_X2_readAll_28 (by decide) rfl
  replace H := i_pf (q := 32) H I_X2_readAll_29 G_2_38 cn_X2_readAll LY_1 rfl rfl
  replace H := i_aln (q := 33) H I_X2_readAll_32 rfl rfl
  replace H := i_icst (x := 0) (q := 34) H I_X2_readAll_33 (by decide) rfl
  replace H := i_pf (q := 37) H I_X2_readAll_34 G_2_41 cn_X2_readAll LY_1 rfl rfl
  replace H := i_aln (q := 38) H I_X2_readAll_37 rfl rfl
  replace H := i_icst (x := 0) (q := 39) H I_X2_readAll_38 (by decide) rfl
  replace H := i_pf (q := 42) H I_X2_readAll_39 G_2_45 cn_X2_readAll LY_1 rfl rfl
  replace H := i_icst (x := 0) (q := 43) H I_X2_readAll_42 (by decide) rfl
  replace H := i_isn (q := 44) H I_X2_readAll_43 rfl rfl
  generalize hM : zup (zup (zup (zup (zup (zup (zup (zup (zup (zup (zup m 3 2 0) 3 3 0) 3 4 1) 3 5 0) 1 6 0) 1 3 0) 1 4 0) 1 5 0) 1 10 0) 1 11 0) 1 12 0 = M at H
  have hD : zfD m M := fun a b x y => by
    rw [← hM]
    repeat rw [zup_n (by omega)]
  have e2 : M 2 = m 2 := by
    funext b
    exact hD 2 b (by omega) (by omega)
  obtain ⟨m1, g1, g2, g3⟩ := ra_loop (n := n) 160 0 d r h' M 0 (fun _ => 0) false false 0 0 0 rfl (Nat.le_refl 0) ⟨by rw [hD 1 2 (by omega) (by omega)]; exact hn, hn2, by rw [← hM]; simp [zup], by omega⟩ (by
    refine ⟨by rw [← hM]; simp [zup], by omega, fun i hi => by omega, by rw [← hM]; simp [zup], by rw [← hM]; simp [zup], by rw [← hM]; simp [zup], ⟨0, by omega, by simp, by rw [← hM]; simp [zup], fun i hi => by omega, fun _ => rfl, rfl⟩, by rw [← hM]; simp [zup, zbi], by rw [← hM]; simp [zup, zbi], by rw [← hM]; simp [zup]⟩) (by rw [← hM]; simp [zup]) H
  rw [e2] at g3
  exact ⟨m1, g1, zfD_t hD g2, g3⟩
/-- what the class holds behind text() -/
def cT (m m1 : zM) (r : Option Value) (x : zPr) : Prop := match x with
  | .inl f => r = some (.int (-10 - Int32.ofNat f.2)) ∧ m1 1 4 = f.1 ∧ ∀ a b, a ≠ 1 → ¬ (3 ≤ a ∧ a ≤ 10) → m1 a b = m a b
  | .inr q => r = some (.int (Int32.ofNat q.2)) ∧ m1 1 4 = 0 ∧ LV m1 11 q.1.1 q.1.2.1 ∧ m1 40 3 = 0 ∧ m1 45 0 = 0 ∧ m1 45 1 = 0 ∧ ∀ a b, a ≠ 1 → ¬ (3 ≤ a ∧ a ≤ 18) → ¬ (a = 40 ∧ b = 3) → a ≠ 45 → m1 a b = m a b
theorem z_nar0 {t : Nat ⊕ Nat} : vp_nar (if t = Sum.inl 1 then .byte else .boolean) 0 = 0 := by
  split <;> decide
theorem t_X7_text {d : Nat} {m : zM} {r : Option Value} {h' : zHp} {n : Nat} (hn : m 1 2 = Int32.ofNat n) (hn2 : n ≤ 160) (H : zE none d zm_X7_text 0 [.ref 0, .null, .null] [] m r h') : ∃ m1, h' = zhp m1 ∧ m1 1 2 = 0 ∧ cT m m1 r (pTx (m 2) n 161 zP0 0 0) := by
  replace H := i_aln (q := 1) H I_X7_text_0 rfl rfl
  replace H := i_gfr (q := 4) H I_X7_text_1 G_7_12 cn_X7_text LY_0 rfl rfl
  have W := i_cv0 1 (q := 7) H I_X7_text_4 K_7_67 Zm_26 rfl rfl
  clear H
  obtain ⟨r1, h1, Hc, K1, K2⟩ := W
  obtain ⟨M_4, e2, F_4, X_4⟩ := t_X2_readAll (n := n) hn hn2 Hc
  obtain ⟨v_4, e1⟩ : ∃ v, r1 = some (.int v) := by
    cases hx : pTx (m 2) n 161 zP0 0 0 with
    | inl f => rw [hx] at X_4; exact ⟨_, X_4.1⟩
    | inr q => rw [hx] at X_4; exact ⟨_, X_4.1⟩
  have H := K1 _ _ e1 e2
  rw [e1] at X_4
  clear e1 e2 Hc K1 K2
  replace H := i_isn (q := 8) H I_X7_text_7 rfl rfl
  replace H := i_aln (q := 9) H I_X7_text_8 rfl rfl
  replace H := i_gfr (q := 12) H I_X7_text_9 G_7_12 cn_X7_text LY_0 rfl rfl
  replace H := i_icst (x := 0) (q := 13) H I_X7_text_12 (by decide) rfl
  replace H := i_pf (q := 16) H I_X7_text_13 G_7_59 cn_X7_text LY_1 rfl rfl
  replace H := i_iln (q := 17) H I_X7_text_16 rfl rfl
  have W := i_if_ne (t := 31) (q := 20) H I_X7_text_17 (by decide) rfl
  clear H
  rcases W with ⟨c_17, H⟩ | ⟨c_17, H⟩
  · skip
    replace H := i_aln (q := 32) H I_X7_text_31 rfl rfl
    replace H := i_gfr (q := 35) H I_X7_text_32 G_7_19 cn_X7_text LY_0 rfl rfl
    replace H := i_aln (q := 36) H I_X7_text_35 rfl rfl
    replace H := i_gfr (q := 39) H I_X7_text_36 G_7_12 cn_X7_text LY_0 rfl rfl
    replace H := i_gfr (q := 42) H I_X7_text_39 G_7_74 cn_X7_text LY_1 rfl rfl
    have W := i_cv1 1 (q := 45) H I_X7_text_42 K_7_77 Zm_2 rfl rfl
    clear H
    obtain ⟨r1, h1, Hc, K1, K2⟩ := W
    cases hx : pTx (m 2) n 161 zP0 0 0 with
    | inl f =>
      rw [hx] at X_4
      have e := X_4.1
      simp only [Option.some.injEq, Value.int.injEq] at e
      rw [e] at c_17
      exact absurd rfl c_17
    | inr q =>
    rw [hx] at X_4
    obtain ⟨M_42, e1, e2, L_42, F_42⟩ := t_X0_become lkk_11 lkk_3 (by decide) (LV_f X_4.2.1 (fun a b x y => zup_n (by omega))) Hc
    have H := K2 _ e1 e2
    clear e1 e2 Hc K1 K2
    replace H := i_aln (q := 46) H I_X7_text_45 rfl rfl
    replace H := i_gfr (q := 49) H I_X7_text_46 G_7_40 cn_X7_text LY_0 rfl rfl
    replace H := i_icst (x := 0) (q := 50) H I_X7_text_49 (by decide) rfl
    replace H := i_pf (q := 53) H I_X7_text_50 G_7_81 cn_X7_text LY_40 rfl rfl
    replace H := i_icst (x := 0) (q := 54) H I_X7_text_53 (by decide) rfl
    replace H := i_isn (q := 55) H I_X7_text_54 rfl rfl
    replace H : zE none d zm_X7_text 55 [.ref 0, .int v_4, .int 0] [] (zup M_42 40 3 0) r h' := H
    replace H := i_iln (q := 56) H I_X7_text_55 rfl rfl
    replace H := i_icst (x := 2) (q := 57) H I_X7_text_56 (by decide) rfl
    have W := i_ic_ge (t := 73) (q := 60) H I_X7_text_57 (by decide) rfl
    clear H
    rcases W with ⟨c_57, H⟩ | ⟨c_57, H⟩
    · skip
      replace H := i_aln (q := 74) H I_X7_text_73 rfl rfl
      replace H := i_gfr (q := 77) H I_X7_text_74 G_7_12 cn_X7_text LY_0 rfl rfl
      replace H := i_gfi (q := 80) H I_X7_text_77 G_7_84 cn_X7_text LY_1 rfl rfl
      obtain ⟨hr, hh⟩ := i_ir H I_X7_text_80
      exact absurd (by decide) c_57
    · skip
      replace H := i_aln (q := 61) H I_X7_text_60 rfl rfl
      replace H := i_gfr (q := 64) H I_X7_text_61 G_7_48 cn_X7_text LY_0 rfl rfl
      replace H := i_iln (q := 65) H I_X7_text_64 rfl rfl
      replace H := i_icst (x := 0) (q := 66) H I_X7_text_65 (by decide) rfl
      have W := i_bast (q := 67) H I_X7_text_66 LY_45 rfl
      clear H
      obtain ⟨i_66, bi_66, ei_66, H⟩ := W
      replace H := i_inc (q := 70) H I_X7_text_67 rfl rfl rfl
      replace H := i_goto (q := 55) H I_X7_text_70 (by decide)
      have ei : i_66 = 0 := (zofn (i := 0) ei_66 (by omega) (by omega)).symm
      subst ei
      replace H : zE none d zm_X7_text 55 [.ref 0, .int v_4, .int 1] [] (zup (zup M_42 40 3 0) 45 0 0) r h' := by
        rw [z_nar0] at H
        exact H
      clear c_57
      replace H := i_iln (q := 56) H I_X7_text_55 rfl rfl
      replace H := i_icst (x := 2) (q := 57) H I_X7_text_56 (by decide) rfl
      have W := i_ic_ge (t := 73) (q := 60) H I_X7_text_57 (by decide) rfl
      clear H
      rcases W with ⟨c_57, H⟩ | ⟨c_57, H⟩
      · skip
        replace H := i_aln (q := 74) H I_X7_text_73 rfl rfl
        replace H := i_gfr (q := 77) H I_X7_text_74 G_7_12 cn_X7_text LY_0 rfl rfl
        replace H := i_gfi (q := 80) H I_X7_text_77 G_7_84 cn_X7_text LY_1 rfl rfl
        obtain ⟨hr, hh⟩ := i_ir H I_X7_text_80
        exact absurd (by decide) c_57
      · skip
        replace H := i_aln (q := 61) H I_X7_text_60 rfl rfl
        replace H := i_gfr (q := 64) H I_X7_text_61 G_7_48 cn_X7_text LY_0 rfl rfl
        replace H := i_iln (q := 65) H I_X7_text_64 rfl rfl
        replace H := i_icst (x := 0) (q := 66) H I_X7_text_65 (by decide) rfl
        have W := i_bast (q := 67) H I_X7_text_66 LY_45 rfl
        clear H
        obtain ⟨i_66, bi_66, ei_66, H⟩ := W
        replace H := i_inc (q := 70) H I_X7_text_67 rfl rfl rfl
        replace H := i_goto (q := 55) H I_X7_text_70 (by decide)
        have ei : i_66 = 1 := (zofn (i := 1) ei_66 (by omega) (by omega)).symm
        subst ei
        replace H : zE none d zm_X7_text 55 [.ref 0, .int v_4, .int 2] [] (zup (zup (zup M_42 40 3 0) 45 0 0) 45 1 0) r h' := by
          rw [z_nar0] at H
          exact H
        clear c_57
        replace H := i_iln (q := 56) H I_X7_text_55 rfl rfl
        replace H := i_icst (x := 2) (q := 57) H I_X7_text_56 (by decide) rfl
        have W := i_ic_ge (t := 73) (q := 60) H I_X7_text_57 (by decide) rfl
        clear H
        rcases W with ⟨c_57, H⟩ | ⟨c_57, H⟩
        · skip
          replace H := i_aln (q := 74) H I_X7_text_73 rfl rfl
          replace H := i_gfr (q := 77) H I_X7_text_74 G_7_12 cn_X7_text LY_0 rfl rfl
          replace H := i_gfi (q := 80) H I_X7_text_77 G_7_84 cn_X7_text LY_1 rfl rfl
          obtain ⟨hr, hh⟩ := i_ir H I_X7_text_80
          refine ⟨_, hh, ?_, ?_, ?_, ?_, ?_, ?_, ?_, fun a b x y z w => ?_⟩
          · rw [zup_n (by omega), zup_n (by omega), zup_n (by omega), F_42 _ _ (by omega), zup_s]
          · rw [hr, zup_n (by omega), zup_n (by omega), zup_n (by omega), F_42 _ _ (by omega), zup_n (by omega), X_4.2.2.1]
          · rw [zup_n (by omega), zup_n (by omega), zup_n (by omega), F_42 _ _ (by omega), zup_n (by omega), X_4.2.2.2]
          · exact LV_f L_42 (fun a b x y => by rw [zup_n (by omega), zup_n (by omega), zup_n (by omega)])
          · rw [zup_n (by omega), zup_n (by omega), zup_s]
          · rw [zup_n (by omega), zup_s]
          · rw [zup_s]
          · rw [zup_n (by omega), zup_n (by omega), zup_n (by omega), F_42 _ _ (by omega), zup_n (by omega), F_4 _ _ (by omega) (by omega)]
        · skip
          replace H := i_aln (q := 61) H I_X7_text_60 rfl rfl
          replace H := i_gfr (q := 64) H I_X7_text_61 G_7_48 cn_X7_text LY_0 rfl rfl
          replace H := i_iln (q := 65) H I_X7_text_64 rfl rfl
          replace H := i_icst (x := 0) (q := 66) H I_X7_text_65 (by decide) rfl
          have W := i_bast (q := 67) H I_X7_text_66 LY_45 rfl
          clear H
          obtain ⟨i_66, bi_66, ei_66, H⟩ := W
          replace H := i_inc (q := 70) H I_X7_text_67 rfl rfl rfl
          replace H := i_goto (q := 55) H I_X7_text_70 (by decide)
          exact absurd c_57 (by decide)
  · skip
    replace H := i_bip (x := (-10)) (q := 22) H I_X7_text_20 (by decide) rfl
    replace H := i_aln (q := 23) H I_X7_text_22 rfl rfl
    replace H := i_gfr (q := 26) H I_X7_text_23 G_7_12 cn_X7_text LY_0 rfl rfl
    replace H := i_gfi (q := 29) H I_X7_text_26 G_7_71 cn_X7_text LY_1 rfl rfl
    replace H := i_isub (q := 30) H I_X7_text_29 rfl
    obtain ⟨hr, hh⟩ := i_ir H I_X7_text_30
    cases hx : pTx (m 2) n 161 zP0 0 0 with
    | inl f =>
      rw [hx] at X_4
      refine ⟨_, hh, by rw [zup_s], ?_⟩
      refine ⟨?_, ?_, fun a b x y => ?_⟩
      · rw [hr, zup_n (by omega), X_4.2.2]
      · rw [zup_n (by omega)]; exact X_4.2.1
      · rw [zup_n (by omega), F_4 a b (by omega) y]
    | inr q =>
      rw [hx] at X_4
      have e := X_4.1
      simp only [Option.some.injEq, Value.int.injEq] at e
      rw [e] at c_17
      exact absurd c_17 (by decide)
end
section
/-! the reference's numbers -/
theorem It_X8_other : zm_X8_other.2.2.2.2.2 = zt_X8_other := by
  unfold zm_X8_other
  rfl
theorem I_X8_other_0 : zin zm_X8_other.2.2.2.2.2 0 = some (.aload_n 0, 1) := by rw [It_X8_other]; rfl
theorem I_X8_other_1 : zin zm_X8_other.2.2.2.2.2 1 = some (.getfield 63, 3) := by rw [It_X8_other]; rfl
theorem I_X8_other_4 : zin zm_X8_other.2.2.2.2.2 4 = some (.ifCond .ne 16, 3) := by rw [It_X8_other]; rfl
theorem I_X8_other_7 : zin zm_X8_other.2.2.2.2.2 7 = some (.aload_n 0, 1) := by rw [It_X8_other]; rfl
theorem I_X8_other_8 : zin zm_X8_other.2.2.2.2.2 8 = some (.getfield 72, 3) := by rw [It_X8_other]; rfl
theorem I_X8_other_11 : zin zm_X8_other.2.2.2.2.2 11 = some (.iconst 2, 1) := by rw [It_X8_other]; rfl
theorem I_X8_other_12 : zin zm_X8_other.2.2.2.2.2 12 = some (.if_icmp .eq 8, 3) := by rw [It_X8_other]; rfl
theorem I_X8_other_15 : zin zm_X8_other.2.2.2.2.2 15 = some (.aload_n 0, 1) := by rw [It_X8_other]; rfl
theorem I_X8_other_16 : zin zm_X8_other.2.2.2.2.2 16 = some (.iconst 2, 1) := by rw [It_X8_other]; rfl
theorem I_X8_other_17 : zin zm_X8_other.2.2.2.2.2 17 = some (.invokevirtual 93, 3) := by rw [It_X8_other]; rfl
theorem I_X8_other_20 : zin zm_X8_other.2.2.2.2.2 20 = some (.aload_n 0, 1) := by rw [It_X8_other]; rfl
theorem I_X8_other_21 : zin zm_X8_other.2.2.2.2.2 21 = some (.getfield 63, 3) := by rw [It_X8_other]; rfl
theorem I_X8_other_24 : zin zm_X8_other.2.2.2.2.2 24 = some (.ifCond .ne 23, 3) := by rw [It_X8_other]; rfl
theorem I_X8_other_27 : zin zm_X8_other.2.2.2.2.2 27 = some (.aload_n 0, 1) := by rw [It_X8_other]; rfl
theorem I_X8_other_28 : zin zm_X8_other.2.2.2.2.2 28 = some (.getfield 82, 3) := by rw [It_X8_other]; rfl
theorem I_X8_other_31 : zin zm_X8_other.2.2.2.2.2 31 = some (.i2l, 1) := by rw [It_X8_other]; rfl
theorem I_X8_other_32 : zin zm_X8_other.2.2.2.2.2 32 = some (.iload_n 1, 1) := by rw [It_X8_other]; rfl
theorem I_X8_other_33 : zin zm_X8_other.2.2.2.2.2 33 = some (.i2l, 1) := by rw [It_X8_other]; rfl
theorem I_X8_other_34 : zin zm_X8_other.2.2.2.2.2 34 = some (.iload_n 2, 1) := by rw [It_X8_other]; rfl
theorem I_X8_other_35 : zin zm_X8_other.2.2.2.2.2 35 = some (.i2l, 1) := by rw [It_X8_other]; rfl
theorem I_X8_other_36 : zin zm_X8_other.2.2.2.2.2 36 = some (.invokestatic 55, 3) := by rw [It_X8_other]; rfl
theorem I_X8_other_39 : zin zm_X8_other.2.2.2.2.2 39 = some (.ifCond .ne 8, 3) := by rw [It_X8_other]; rfl
theorem I_X8_other_42 : zin zm_X8_other.2.2.2.2.2 42 = some (.aload_n 0, 1) := by rw [It_X8_other]; rfl
theorem I_X8_other_43 : zin zm_X8_other.2.2.2.2.2 43 = some (.iconst 3, 1) := by rw [It_X8_other]; rfl
theorem I_X8_other_44 : zin zm_X8_other.2.2.2.2.2 44 = some (.invokevirtual 93, 3) := by rw [It_X8_other]; rfl
theorem I_X8_other_47 : zin zm_X8_other.2.2.2.2.2 47 = some (.aload_n 0, 1) := by rw [It_X8_other]; rfl
theorem I_X8_other_48 : zin zm_X8_other.2.2.2.2.2 48 = some (.getfield 63, 3) := by rw [It_X8_other]; rfl
theorem I_X8_other_51 : zin zm_X8_other.2.2.2.2.2 51 = some (.ifCond .ne 24, 3) := by rw [It_X8_other]; rfl
theorem I_X8_other_54 : zin zm_X8_other.2.2.2.2.2 54 = some (.iload_n 3, 1) := by rw [It_X8_other]; rfl
theorem I_X8_other_55 : zin zm_X8_other.2.2.2.2.2 55 = some (.ifCond .eq 20, 3) := by rw [It_X8_other]; rfl
theorem I_X8_other_58 : zin zm_X8_other.2.2.2.2.2 58 = some (.iload_n 3, 1) := by rw [It_X8_other]; rfl
theorem I_X8_other_59 : zin zm_X8_other.2.2.2.2.2 59 = some (.aload_n 0, 1) := by rw [It_X8_other]; rfl
theorem I_X8_other_60 : zin zm_X8_other.2.2.2.2.2 60 = some (.getfield 82, 3) := by rw [It_X8_other]; rfl
theorem I_X8_other_63 : zin zm_X8_other.2.2.2.2.2 63 = some (.ishr, 1) := by rw [It_X8_other]; rfl
theorem I_X8_other_64 : zin zm_X8_other.2.2.2.2.2 64 = some (.iconst 1, 1) := by rw [It_X8_other]; rfl
theorem I_X8_other_65 : zin zm_X8_other.2.2.2.2.2 65 = some (.iand, 1) := by rw [It_X8_other]; rfl
theorem I_X8_other_66 : zin zm_X8_other.2.2.2.2.2 66 = some (.iconst 1, 1) := by rw [It_X8_other]; rfl
theorem I_X8_other_67 : zin zm_X8_other.2.2.2.2.2 67 = some (.if_icmp .ne 8, 3) := by rw [It_X8_other]; rfl
theorem I_X8_other_70 : zin zm_X8_other.2.2.2.2.2 70 = some (.aload_n 0, 1) := by rw [It_X8_other]; rfl
theorem I_X8_other_71 : zin zm_X8_other.2.2.2.2.2 71 = some (.iconst 4, 1) := by rw [It_X8_other]; rfl
theorem I_X8_other_72 : zin zm_X8_other.2.2.2.2.2 72 = some (.invokevirtual 93, 3) := by rw [It_X8_other]; rfl
theorem I_X8_other_75 : zin zm_X8_other.2.2.2.2.2 75 = some (.aload_n 0, 1) := by rw [It_X8_other]; rfl
theorem I_X8_other_76 : zin zm_X8_other.2.2.2.2.2 76 = some (.getfield 63, 3) := by rw [It_X8_other]; rfl
theorem I_X8_other_79 : zin zm_X8_other.2.2.2.2.2 79 = some (.ifCond .ne 10, 3) := by rw [It_X8_other]; rfl
theorem I_X8_other_82 : zin zm_X8_other.2.2.2.2.2 82 = some (.aload_n 0, 1) := by rw [It_X8_other]; rfl
theorem I_X8_other_83 : zin zm_X8_other.2.2.2.2.2 83 = some (.getfield 82, 3) := by rw [It_X8_other]; rfl
theorem I_X8_other_86 : zin zm_X8_other.2.2.2.2.2 86 = some (.goto 4, 3) := by rw [It_X8_other]; rfl
theorem I_X8_other_89 : zin zm_X8_other.2.2.2.2.2 89 = some (.iload_n 1, 1) := by rw [It_X8_other]; rfl
theorem I_X8_other_90 : zin zm_X8_other.2.2.2.2.2 90 = some (.istore 4, 2) := by rw [It_X8_other]; rfl
theorem I_X8_other_92 : zin zm_X8_other.2.2.2.2.2 92 = some (.aload_n 0, 1) := by rw [It_X8_other]; rfl
theorem I_X8_other_93 : zin zm_X8_other.2.2.2.2.2 93 = some (.invokevirtual 97, 3) := by rw [It_X8_other]; rfl
theorem I_X8_other_96 : zin zm_X8_other.2.2.2.2.2 96 = some (.iload 4, 2) := by rw [It_X8_other]; rfl
theorem I_X8_other_98 : zin zm_X8_other.2.2.2.2.2 98 = some (.ireturn, 1) := by rw [It_X8_other]; rfl
theorem K_8_97 : zlk zmls 8 97 = some (0, 120, 0, 951) := rfl
theorem Zm_120 : zms[120]? = some zm_X8_step := rfl
theorem cl_X8_other : zm_X8_other.2.2.2.2.1 = 8 := by
  unfold zm_X8_other
  rfl
theorem cn_X8_other : zm_X8_other.2.2.2.2.1 ≠ 12 := by
  rw [cl_X8_other]
  decide
theorem cn2_X8_other : zm_X8_other.2.2.2.2.1 ≠ 2 := by
  rw [cl_X8_other]
  decide
theorem tE_c {f : Int32 → Bool} {t : Nat → Int32} {n p : Nat} (h : ¬ tE f t n p = p) : f (t p) = true := by
  cases hf : f (t p) with
  | true => rfl
  | false => exact absurd (tE_no hf) h
theorem zdg_n {c : Int32} (h : zdg c = true) : ∃ a, a < 10 ∧ c = Int32.ofNat (48 + a) := by
  simp only [zdg, Bool.and_eq_true, decide_eq_true_eq, Int32.lt_iff_toInt_lt] at h
  have h1 : ¬ c.toInt < 48 := h.1
  have h2 : ¬ 57 < c.toInt := h.2
  refine ⟨(c.toInt - 48).toNat, by omega, ?_⟩
  apply Int32.toInt_inj.mp
  rw [zofn_t (by omega)]
  omega
theorem zd_1 : ∀ a, a < 10 → Int32.ofNat (48 + a) - 48 = Int32.ofNat a := by decide
theorem zd_2 : ∀ a, a < 10 → ∀ b, b < 10 → (Int32.ofNat (48 + a) - 48) * 10 + Int32.ofNat (48 + b) - 48 = Int32.ofNat (10 * a + b) := by decide
theorem tV_n {t : Nat → Int32} {n p : Nat} (h : tK t n p = 2) : ∃ v, v ≤ 99 ∧ tV t n p = Int32.ofNat v := by
  unfold tK tKs at h
  unfold tV tVs
  generalize tS t n p = s at h ⊢
  split at h
  · cases h
  · split at h
    · cases h
    · split at h
      · rename_i hd
        rw [if_pos hd]
        obtain ⟨a, a1, a2⟩ := zdg_n hd
        by_cases he : tE zdg t n (s + 1) = s + 1
        · rw [if_pos he, a2, zd_1 a a1]
          exact ⟨a, by omega, rfl⟩
        · rw [if_neg he]
          obtain ⟨b, b1, b2⟩ := zdg_n (tE_c he)
          rw [a2, b2, zd_2 a a1 b b1]
          exact ⟨10 * a + b, by omega, rfl⟩
      · split at h <;> cases h
theorem zin_V {t : Nat → Int32} {n p : Nat} {most : Int32} (h : tK t n p = 2) : zin64 (tV t n p).toInt64 (Int32.toInt64 0) most.toInt64 = if most < tV t n p then 0 else 1 := by
  obtain ⟨v, v1, v2⟩ := tV_n h
  rw [zin_32, Int32.toInt_toInt64, Int32.toInt_toInt64, v2, zofn_t (by omega)]
  have e0 : (0 : Int32).toInt = 0 := rfl
  have e1 : most < Int32.ofNat v ↔ most.toInt < (v : Int) := by rw [Int32.lt_iff_toInt_lt, zofn_t (by omega)]
  by_cases hm : most.toInt < (v : Int)
  · rw [if_pos (e1.mpr hm), if_neg (by omega)]
  · rw [if_neg (fun w => hm (e1.mp w)), if_pos (by omega)]
theorem zbt01 (x : Int32) : x &&& 1 = 0 ∨ x &&& 1 = 1 := by
  have h : (x &&& 1).toBitVec = BitVec.setWidth 32 (BitVec.ofBool (x.toBitVec.getLsbD 0)) := by
    rw [Int32.toBitVec_and]
    exact BitVec.and_one_eq_setWidth_ofBool_getLsbD
  cases hb : x.toBitVec.getLsbD 0 with
  | true => rw [hb] at h; exact Or.inr (Int32.toBitVec_inj.mp (h.trans (by decide)))
  | false => rw [hb] at h; exact Or.inl (Int32.toBitVec_inj.mp (h.trans (by decide)))
/-- the reference's tape and tables -/
def rE (m : zM) (n : Nat) : Prop := m 71 8 = Int32.ofNat n ∧ n ≤ 160 ∧ (∀ i, i < n → ¬ m 75 i = -4) ∧ zTab m
def rF (m : zM) (f : Int32 × Nat) : Prop := m 71 10 = f.1 ∧ m 71 11 = Int32.ofNat f.2 ∧ 0 < f.1
/-- the token at p is the one at hand -/
def rC0 (m : zM) (n p : Nat) : Prop := ¬ tK (m 75) n p = 4 ∧ m 71 10 = 0 ∧ m 71 12 = Int32.ofNat (tN (m 75) n p) ∧ m 71 13 = Int32.ofNat (tS (m 75) n p) ∧ m 71 14 = tK (m 75) n p ∧ (tK (m 75) n p = 2 → m 71 15 = tV (m 75) n p)
def rC (m : zM) (n p : Nat) : Prop := p ≤ n ∧ (rC0 m n p ∨ (tK (m 75) n p = 4 ∧ rF m (1, tS (m 75) n p)))
/-- what the reference's reading writes -/
def zfR (m m1 : zM) : Prop := ∀ a b, ¬ a = 74 → ¬ (a = 71 ∧ ((4 ≤ b ∧ b ≤ 6) ∨ (10 ≤ b ∧ b ≤ 15))) → m1 a b = m a b
theorem zfR_g {m m1 : zM} (h : zg1015 m m1) : zfR m m1 := fun a b x y => h a b (by omega)
theorem zfR_t {m m1 m2 : zM} (h1 : zfR m m1) (h2 : zfR m1 m2) : zfR m m2 := fun a b x y => (h2 a b x y).trans (h1 a b x y)
theorem zg_t {m m1 m2 : zM} (h1 : zg1015 m m1) (h2 : zg1015 m1 m2) : zg1015 m m2 := fun a b x => (h2 a b x).trans (h1 a b x)
theorem zfR_5 {m m1 : zM} (h : zfR m m1) : m1 75 = m 75 := by funext b; exact h 75 b (by omega) (by omega)
theorem rE_f {m m1 : zM} {n : Nat} (h : rE m n) (hf : zfR m m1) : rE m1 n := by
  obtain ⟨h1, h2, h3, h4, h5⟩ := h
  exact ⟨by rw [hf 71 8 (by omega) (by omega)]; exact h1, h2, fun i hi => by rw [hf 75 i (by omega) (by omega)]; exact h3 i hi, fun w hw => by rw [hf 76 w (by omega) (by omega)]; exact h4 w hw, fun w hw k hk => by rw [hf 77 _ (by omega) (by omega)]; exact h5 w hw k hk⟩
theorem t_step1 {d : Nat} {m : zM} {r : Option Value} {h' : zHp} {n p : Nat} (hE : rE m n) (h0 : m 71 10 = 0) (hp : m 71 12 = Int32.ofNat p) (hpn : p ≤ n) (H : zE none d zm_X8_step 0 [.ref 71, .null] [] m r h') : ∃ m1, r = none ∧ h' = zhp m1 ∧ rC m1 n p ∧ zg1015 m m1 := by
  obtain ⟨m1, x1, x2, x3, x4, x5, x6, x7, x8⟩ := t_X8_step h0 hE.1 hE.2.1 hp hpn hE.2.2.1 H
  have e : m1 75 = m 75 := by funext b; exact x8 75 b (by omega)
  refine ⟨m1, x1, x2, ⟨hpn, ?_⟩, x8⟩
  unfold rC0
  rw [e]
  by_cases hk : tK (m 75) n p = 4
  · exact Or.inr ⟨hk, (x6 hk).1, (x6 hk).2, (show (0 : Int32) < 1 by decide)⟩
  · exact Or.inl ⟨hk, (x5 hk).2, x3, x4, (x5 hk).1, x7⟩
theorem t_fails0 {d : Nat} {m : zM} {r : Option Value} {h' : zHp} {c : Int32} (h0 : m 71 10 = 0) (H : zE none d zm_X8_fails 0 [.ref 71, .int c] [] m r h') : r = none ∧ h' = zhp (zup (zup m 71 10 c) 71 11 (m 71 13)) := by
  obtain ⟨x, y⟩ := t_X8_fails H
  rw [if_pos h0] at y
  exact ⟨x, y⟩
theorem t_fails1 {d : Nat} {m : zM} {r : Option Value} {h' : zHp} {c : Int32} (h0 : ¬ m 71 10 = 0) (H : zE none d zm_X8_fails 0 [.ref 71, .int c] [] m r h') : r = none ∧ h' = zhp m := by
  obtain ⟨x, y⟩ := t_X8_fails H
  rw [if_neg h0] at y
  exact ⟨x, y⟩
theorem rF_0 {m : zM} {f : Int32 × Nat} (h : rF m f) : ¬ m 71 10 = 0 := fun e => by
  have := h.2.2
  rw [← h.1, e] at this
  exact absurd this (by decide)
theorem rF_p {m : zM} {f : Int32 × Nat} (h : rF m f) : 0 < m 71 10 := by rw [h.1]; exact h.2.2
theorem t_other_br {d : Nat} {m : zM} {r : Option Value} {h' : zHp} {most x : Int32} {f : Int32 × Nat} (hF : rF m f) (H : zE none d zm_X8_other 0 [.ref 71, .int 0, .int most, .int x, .null] [] m r h') : r = some (.int 0) ∧ h' = zhp m := by
  have h0 := rF_0 hF
  replace H := i_aln (q := 1) H I_X8_other_0 rfl rfl
  replace H := i_gfi (q := 4) H I_X8_other_1 G_8_63 cn_X8_other LY_71 rfl rfl
  have W := i_if_ne (t := 20) (q := 7) H I_X8_other_4 (by decide) rfl
  clear H
  rcases W with ⟨c_4, H⟩ | ⟨c_4, H⟩
  · skip
    replace H := i_aln (q := 21) H I_X8_other_20 rfl rfl
    replace H := i_gfi (q := 24) H I_X8_other_21 G_8_63 cn_X8_other LY_71 rfl rfl
    have W := i_if_ne (t := 47) (q := 27) H I_X8_other_24 (by decide) rfl
    clear H
    rcases W with ⟨c_24, H⟩ | ⟨c_24, H⟩
    · skip
      replace H := i_aln (q := 48) H I_X8_other_47 rfl rfl
      replace H := i_gfi (q := 51) H I_X8_other_48 G_8_63 cn_X8_other LY_71 rfl rfl
      have W := i_if_ne (t := 75) (q := 54) H I_X8_other_51 (by decide) rfl
      clear H
      rcases W with ⟨c_51, H⟩ | ⟨c_51, H⟩
      · skip
        replace H := i_aln (q := 76) H I_X8_other_75 rfl rfl
        replace H := i_gfi (q := 79) H I_X8_other_76 G_8_63 cn_X8_other LY_71 rfl rfl
        have W := i_if_ne (t := 89) (q := 82) H I_X8_other_79 (by decide) rfl
        clear H
        rcases W with ⟨c_79, H⟩ | ⟨c_79, H⟩
        · skip
          replace H := i_iln (q := 90) H I_X8_other_89 rfl rfl
          replace H := i_is (q := 92) H I_X8_other_90 rfl rfl
          replace H := i_aln (q := 93) H I_X8_other_92 rfl rfl
          have W := i_cv0 1 (q := 96) H I_X8_other_93 K_8_97 Zm_120 rfl rfl
          clear H
          obtain ⟨r1, h1, Hc, K1, K2⟩ := W
          obtain ⟨e1, e2⟩ := t_X8_step0 (rF_p hF) Hc
          have H := K2 _ e1 e2
          clear e1 e2 Hc K1 K2
          replace H := i_il (q := 98) H I_X8_other_96 rfl rfl
          obtain ⟨hr, hh⟩ := i_ir H I_X8_other_98
          exact ⟨hr, hh⟩
        · exact absurd c_79 h0
      · exact absurd c_51 h0
    · exact absurd c_24 h0
  · exact absurd c_4 h0
theorem t_other_ok {d : Nat} {m : zM} {r : Option Value} {h' : zHp} {n p : Nat} {most x : Int32} (hE : rE m n) (hpn : p ≤ n) (hC : rC0 m n p) (hk : zNm (m 75) n p most = true) (hx : (x >>> (tV (m 75) n p &&& 31)) &&& 1 = 0) (H : zE none d zm_X8_other 0 [.ref 71, .int 0, .int most, .int x, .null] [] m r h') : ∃ m1, r = some (.int (tV (m 75) n p)) ∧ h' = zhp m1 ∧ rC m1 n (tN (m 75) n p) ∧ zg1015 m m1 := by
  obtain ⟨h4, h0, h12, h13, h14, h15⟩ := hC
  simp only [zNm, Bool.and_eq_true, decide_eq_true_eq, Bool.not_eq_true', decide_eq_false_iff_not] at hk
  rw [hk.1] at h14
  have h15 := h15 hk.1
  replace H := i_aln (q := 1) H I_X8_other_0 rfl rfl
  replace H := i_gfi (q := 4) H I_X8_other_1 G_8_63 cn_X8_other LY_71 rfl rfl
  have W := i_if_ne (t := 20) (q := 7) H I_X8_other_4 (by decide) rfl
  clear H
  rcases W with ⟨c_4, H⟩ | ⟨c_4, H⟩
  · exact absurd h0 c_4
  · skip
    replace H := i_aln (q := 8) H I_X8_other_7 rfl rfl
    replace H := i_gfi (q := 11) H I_X8_other_8 G_8_72 cn_X8_other LY_71 rfl rfl
    replace H := i_icst (x := 2) (q := 12) H I_X8_other_11 (by decide) rfl
    have W := i_ic_eq (t := 20) (q := 15) H I_X8_other_12 (by decide) rfl
    clear H
    rcases W with ⟨c_12, H⟩ | ⟨c_12, H⟩
    · skip
      replace H := i_aln (q := 21) H I_X8_other_20 rfl rfl
      replace H := i_gfi (q := 24) H I_X8_other_21 G_8_63 cn_X8_other LY_71 rfl rfl
      have W := i_if_ne (t := 47) (q := 27) H I_X8_other_24 (by decide) rfl
      clear H
      rcases W with ⟨c_24, H⟩ | ⟨c_24, H⟩
      · exact absurd h0 c_24
      · skip
        replace H := i_aln (q := 28) H I_X8_other_27 rfl rfl
        replace H := i_gfi (q := 31) H I_X8_other_28 G_8_82 cn_X8_other LY_71 rfl rfl
        replace H := i_i2l (q := 32) H I_X8_other_31 rfl
        replace H := i_iln (q := 33) H I_X8_other_32 rfl rfl
        replace H := i_i2l (q := 34) H I_X8_other_33 rfl
        replace H := i_iln (q := 35) H I_X8_other_34 rfl rfl
        replace H := i_i2l (q := 36) H I_X8_other_35 rfl
        replace H := i_in (q := 39) H I_X8_other_36 K_8_55 rfl
        have W := i_if_ne (t := 47) (q := 42) H I_X8_other_39 (by decide) rfl
        clear H
        rcases W with ⟨c_39, H⟩ | ⟨c_39, H⟩
        · skip
          replace H := i_aln (q := 48) H I_X8_other_47 rfl rfl
          replace H := i_gfi (q := 51) H I_X8_other_48 G_8_63 cn_X8_other LY_71 rfl rfl
          have W := i_if_ne (t := 75) (q := 54) H I_X8_other_51 (by decide) rfl
          clear H
          rcases W with ⟨c_51, H⟩ | ⟨c_51, H⟩
          · exact absurd h0 c_51
          · skip
            replace H := i_iln (q := 55) H I_X8_other_54 rfl rfl
            have W := i_if_eq (t := 75) (q := 58) H I_X8_other_55 (by decide) rfl
            clear H
            rcases W with ⟨c_55, H⟩ | ⟨c_55, H⟩
            · skip
              replace H := i_aln (q := 76) H I_X8_other_75 rfl rfl
              replace H := i_gfi (q := 79) H I_X8_other_76 G_8_63 cn_X8_other LY_71 rfl rfl
              have W := i_if_ne (t := 89) (q := 82) H I_X8_other_79 (by decide) rfl
              clear H
              rcases W with ⟨c_79, H⟩ | ⟨c_79, H⟩
              · exact absurd h0 c_79
              · skip
                replace H := i_aln (q := 83) H I_X8_other_82 rfl rfl
                replace H := i_gfi (q := 86) H I_X8_other_83 G_8_82 cn_X8_other LY_71 rfl rfl
                replace H := i_goto (q := 90) H I_X8_other_86 (by decide)
                replace H := i_is (q := 92) H I_X8_other_90 rfl rfl
                replace H := i_aln (q := 93) H I_X8_other_92 rfl rfl
                have W := i_cv0 1 (q := 96) H I_X8_other_93 K_8_97 Zm_120 rfl rfl
                clear H
                obtain ⟨r1, h1, Hc, K1, K2⟩ := W
                obtain ⟨M_93, e1, e2, F_93⟩ := t_step1 (n := n) (p := tN (m 75) n p) hE h0 h12 (tN_le hpn) Hc
                have H := K2 _ e1 e2
                clear e1 e2 Hc K1 K2
                replace H := i_il (q := 98) H I_X8_other_96 rfl rfl
                obtain ⟨hr, hh⟩ := i_ir H I_X8_other_98
                refine ⟨_, hr.trans ?_, hh, F_93⟩
                rw [h15]
            · skip
              replace H := i_iln (q := 59) H I_X8_other_58 rfl rfl
              replace H := i_aln (q := 60) H I_X8_other_59 rfl rfl
              replace H := i_gfi (q := 63) H I_X8_other_60 G_8_82 cn_X8_other LY_71 rfl rfl
              replace H := i_ishr (q := 64) H I_X8_other_63 rfl
              replace H := i_icst (x := 1) (q := 65) H I_X8_other_64 (by decide) rfl
              replace H := i_iand (q := 66) H I_X8_other_65 rfl
              replace H := i_icst (x := 1) (q := 67) H I_X8_other_66 (by decide) rfl
              have W := i_ic_ne (t := 75) (q := 70) H I_X8_other_67 (by decide) rfl
              clear H
              rcases W with ⟨c_67, H⟩ | ⟨c_67, H⟩
              · skip
                replace H := i_aln (q := 76) H I_X8_other_75 rfl rfl
                replace H := i_gfi (q := 79) H I_X8_other_76 G_8_63 cn_X8_other LY_71 rfl rfl
                have W := i_if_ne (t := 89) (q := 82) H I_X8_other_79 (by decide) rfl
                clear H
                rcases W with ⟨c_79, H⟩ | ⟨c_79, H⟩
                · exact absurd h0 c_79
                · skip
                  replace H := i_aln (q := 83) H I_X8_other_82 rfl rfl
                  replace H := i_gfi (q := 86) H I_X8_other_83 G_8_82 cn_X8_other LY_71 rfl rfl
                  replace H := i_goto (q := 90) H I_X8_other_86 (by decide)
                  replace H := i_is (q := 92) H I_X8_other_90 rfl rfl
                  replace H := i_aln (q := 93) H I_X8_other_92 rfl rfl
                  have W := i_cv0 1 (q := 96) H I_X8_other_93 K_8_97 Zm_120 rfl rfl
                  clear H
                  obtain ⟨r1, h1, Hc, K1, K2⟩ := W
                  obtain ⟨M_93, e1, e2, F_93⟩ := t_step1 (n := n) (p := tN (m 75) n p) hE h0 h12 (tN_le hpn) Hc
                  have H := K2 _ e1 e2
                  clear e1 e2 Hc K1 K2
                  replace H := i_il (q := 98) H I_X8_other_96 rfl rfl
                  obtain ⟨hr, hh⟩ := i_ir H I_X8_other_98
                  refine ⟨_, hr.trans ?_, hh, F_93⟩
                  rw [h15]
              · rw [h15, hx] at c_67
                exact absurd c_67 (by decide)
        · rw [h15, zin_V hk.1, if_neg hk.2] at c_39
          exact absurd c_39 (by decide)
    · exact absurd h14 c_12
theorem z_0sh {y : Int32} : ((0 : Int32) >>> y) &&& 1 = 0 := by
  rw [Int32.zero_shiftRight]
  decide
theorem t_other_b2 {d : Nat} {m : zM} {r : Option Value} {h' : zHp} {n p : Nat} {most x : Int32} (hC : rC0 m n p) (hk : ¬ tK (m 75) n p = 2) (H : zE none d zm_X8_other 0 [.ref 71, .int 0, .int most, .int x, .null] [] m r h') : ∃ m1, r = some (.int 0) ∧ h' = zhp m1 ∧ rF m1 (2, tS (m 75) n p) ∧ zg1015 m m1 := by
  obtain ⟨h4, h0, h12, h13, h14, h15⟩ := hC
  rw [← h14] at hk
  have hz : ∀ c y : Int32, zup (zup m 71 10 c) 71 11 y 71 10 = c := fun c y => by rw [zup_n (by omega), zup_s]
  replace H := i_aln (q := 1) H I_X8_other_0 rfl rfl
  replace H := i_gfi (q := 4) H I_X8_other_1 G_8_63 cn_X8_other LY_71 rfl rfl
  have W := i_if_ne (t := 20) (q := 7) H I_X8_other_4 (by decide) rfl
  clear H
  rcases W with ⟨c_4, H⟩ | ⟨c_4, H⟩
  · exact absurd h0 c_4
  · skip
    replace H := i_aln (q := 8) H I_X8_other_7 rfl rfl
    replace H := i_gfi (q := 11) H I_X8_other_8 G_8_72 cn_X8_other LY_71 rfl rfl
    replace H := i_icst (x := 2) (q := 12) H I_X8_other_11 (by decide) rfl
    have W := i_ic_eq (t := 20) (q := 15) H I_X8_other_12 (by decide) rfl
    clear H
    rcases W with ⟨c_12, H⟩ | ⟨c_12, H⟩
    · exact absurd c_12 hk
    · skip
      replace H := i_aln (q := 16) H I_X8_other_15 rfl rfl
      replace H := i_icst (x := 2) (q := 17) H I_X8_other_16 (by decide) rfl
      have W := i_cv1 0 (q := 20) H I_X8_other_17 K_8_93 Zm_118 rfl rfl
      clear H
      obtain ⟨r1, h1, Hc, K1, K2⟩ := W
      obtain ⟨e1, e2⟩ := t_fails0 h0 Hc
      have H := K2 _ e1 e2
      clear e1 e2 Hc K1 K2
      replace H := i_aln (q := 21) H I_X8_other_20 rfl rfl
      replace H := i_gfi (q := 24) H I_X8_other_21 G_8_63 cn_X8_other LY_71 rfl rfl
      have W := i_if_ne (t := 47) (q := 27) H I_X8_other_24 (by decide) rfl
      clear H
      rcases W with ⟨c_24, H⟩ | ⟨c_24, H⟩
      · skip
        replace H := i_aln (q := 48) H I_X8_other_47 rfl rfl
        replace H := i_gfi (q := 51) H I_X8_other_48 G_8_63 cn_X8_other LY_71 rfl rfl
        have W := i_if_ne (t := 75) (q := 54) H I_X8_other_51 (by decide) rfl
        clear H
        rcases W with ⟨c_51, H⟩ | ⟨c_51, H⟩
        · skip
          replace H := i_aln (q := 76) H I_X8_other_75 rfl rfl
          replace H := i_gfi (q := 79) H I_X8_other_76 G_8_63 cn_X8_other LY_71 rfl rfl
          have W := i_if_ne (t := 89) (q := 82) H I_X8_other_79 (by decide) rfl
          clear H
          rcases W with ⟨c_79, H⟩ | ⟨c_79, H⟩
          · skip
            replace H := i_iln (q := 90) H I_X8_other_89 rfl rfl
            replace H := i_is (q := 92) H I_X8_other_90 rfl rfl
            replace H := i_aln (q := 93) H I_X8_other_92 rfl rfl
            have W := i_cv0 1 (q := 96) H I_X8_other_93 K_8_97 Zm_120 rfl rfl
            clear H
            obtain ⟨r1, h1, Hc, K1, K2⟩ := W
            obtain ⟨e1, e2⟩ := t_X8_step0 (by rw [hz]; decide) Hc
            have H := K2 _ e1 e2
            clear e1 e2 Hc K1 K2
            replace H := i_il (q := 98) H I_X8_other_96 rfl rfl
            obtain ⟨hr, hh⟩ := i_ir H I_X8_other_98
            refine ⟨_, hr, hh, ⟨?_, ?_, (show (0 : Int32) < 2 by decide)⟩, fun a b hab => ?_⟩
            · rw [zup_n (by omega), zup_s]
            · rw [zup_s, h13]
            · rw [zup_n (by omega), zup_n (by omega)]
          · rw [hz] at c_79
            exact absurd c_79 (by decide)
        · rw [hz] at c_51
          exact absurd c_51 (by decide)
      · rw [hz] at c_24
        exact absurd c_24 (by decide)
theorem t_other_b3 {d : Nat} {m : zM} {r : Option Value} {h' : zHp} {n p : Nat} {most x : Int32} (hC : rC0 m n p) (hk : tK (m 75) n p = 2) (hv : most < tV (m 75) n p) (H : zE none d zm_X8_other 0 [.ref 71, .int 0, .int most, .int x, .null] [] m r h') : ∃ m1, r = some (.int 0) ∧ h' = zhp m1 ∧ rF m1 (3, tS (m 75) n p) ∧ zg1015 m m1 := by
  obtain ⟨h4, h0, h12, h13, h14, h15⟩ := hC
  rw [hk] at h14
  have h15 := h15 hk
  have hz : ∀ c y : Int32, zup (zup m 71 10 c) 71 11 y 71 10 = c := fun c y => by rw [zup_n (by omega), zup_s]
  replace H := i_aln (q := 1) H I_X8_other_0 rfl rfl
  replace H := i_gfi (q := 4) H I_X8_other_1 G_8_63 cn_X8_other LY_71 rfl rfl
  have W := i_if_ne (t := 20) (q := 7) H I_X8_other_4 (by decide) rfl
  clear H
  rcases W with ⟨c_4, H⟩ | ⟨c_4, H⟩
  · exact absurd h0 c_4
  · skip
    replace H := i_aln (q := 8) H I_X8_other_7 rfl rfl
    replace H := i_gfi (q := 11) H I_X8_other_8 G_8_72 cn_X8_other LY_71 rfl rfl
    replace H := i_icst (x := 2) (q := 12) H I_X8_other_11 (by decide) rfl
    have W := i_ic_eq (t := 20) (q := 15) H I_X8_other_12 (by decide) rfl
    clear H
    rcases W with ⟨c_12, H⟩ | ⟨c_12, H⟩
    · skip
      replace H := i_aln (q := 21) H I_X8_other_20 rfl rfl
      replace H := i_gfi (q := 24) H I_X8_other_21 G_8_63 cn_X8_other LY_71 rfl rfl
      have W := i_if_ne (t := 47) (q := 27) H I_X8_other_24 (by decide) rfl
      clear H
      rcases W with ⟨c_24, H⟩ | ⟨c_24, H⟩
      · exact absurd h0 c_24
      · skip
        replace H := i_aln (q := 28) H I_X8_other_27 rfl rfl
        replace H := i_gfi (q := 31) H I_X8_other_28 G_8_82 cn_X8_other LY_71 rfl rfl
        replace H := i_i2l (q := 32) H I_X8_other_31 rfl
        replace H := i_iln (q := 33) H I_X8_other_32 rfl rfl
        replace H := i_i2l (q := 34) H I_X8_other_33 rfl
        replace H := i_iln (q := 35) H I_X8_other_34 rfl rfl
        replace H := i_i2l (q := 36) H I_X8_other_35 rfl
        replace H := i_in (q := 39) H I_X8_other_36 K_8_55 rfl
        have W := i_if_ne (t := 47) (q := 42) H I_X8_other_39 (by decide) rfl
        clear H
        rcases W with ⟨c_39, H⟩ | ⟨c_39, H⟩
        · rw [h15, zin_V hk, if_pos hv] at c_39
          exact absurd rfl c_39
        · skip
          replace H := i_aln (q := 43) H I_X8_other_42 rfl rfl
          replace H := i_icst (x := 3) (q := 44) H I_X8_other_43 (by decide) rfl
          have W := i_cv1 0 (q := 47) H I_X8_other_44 K_8_93 Zm_118 rfl rfl
          clear H
          obtain ⟨r1, h1, Hc, K1, K2⟩ := W
          obtain ⟨e1, e2⟩ := t_fails0 h0 Hc
          have H := K2 _ e1 e2
          clear e1 e2 Hc K1 K2
          replace H := i_aln (q := 48) H I_X8_other_47 rfl rfl
          replace H := i_gfi (q := 51) H I_X8_other_48 G_8_63 cn_X8_other LY_71 rfl rfl
          have W := i_if_ne (t := 75) (q := 54) H I_X8_other_51 (by decide) rfl
          clear H
          rcases W with ⟨c_51, H⟩ | ⟨c_51, H⟩
          · skip
            replace H := i_aln (q := 76) H I_X8_other_75 rfl rfl
            replace H := i_gfi (q := 79) H I_X8_other_76 G_8_63 cn_X8_other LY_71 rfl rfl
            have W := i_if_ne (t := 89) (q := 82) H I_X8_other_79 (by decide) rfl
            clear H
            rcases W with ⟨c_79, H⟩ | ⟨c_79, H⟩
            · skip
              replace H := i_iln (q := 90) H I_X8_other_89 rfl rfl
              replace H := i_is (q := 92) H I_X8_other_90 rfl rfl
              replace H := i_aln (q := 93) H I_X8_other_92 rfl rfl
              have W := i_cv0 1 (q := 96) H I_X8_other_93 K_8_97 Zm_120 rfl rfl
              clear H
              obtain ⟨r1, h1, Hc, K1, K2⟩ := W
              obtain ⟨e1, e2⟩ := t_X8_step0 (by rw [hz]; decide) Hc
              have H := K2 _ e1 e2
              clear e1 e2 Hc K1 K2
              replace H := i_il (q := 98) H I_X8_other_96 rfl rfl
              obtain ⟨hr, hh⟩ := i_ir H I_X8_other_98
              refine ⟨_, hr, hh, ⟨?_, ?_, (show (0 : Int32) < 3 by decide)⟩, fun a b hab => ?_⟩
              · rw [zup_n (by omega), zup_s]
              · rw [zup_s, h13]
              · rw [zup_n (by omega), zup_n (by omega)]
            · rw [hz] at c_79
              exact absurd c_79 (by decide)
          · rw [hz] at c_51
            exact absurd c_51 (by decide)
    · exact absurd h14 c_12
theorem t_other_b4 {d : Nat} {m : zM} {r : Option Value} {h' : zHp} {n p : Nat} {most x : Int32} (hC : rC0 m n p) (hk : zNm (m 75) n p most = true) (hx : ¬ (x >>> (tV (m 75) n p &&& 31)) &&& 1 = 0) (H : zE none d zm_X8_other 0 [.ref 71, .int 0, .int most, .int x, .null] [] m r h') : ∃ m1, r = some (.int 0) ∧ h' = zhp m1 ∧ rF m1 (4, tS (m 75) n p) ∧ zg1015 m m1 := by
  obtain ⟨h4, h0, h12, h13, h14, h15⟩ := hC
  simp only [zNm, Bool.and_eq_true, decide_eq_true_eq, Bool.not_eq_true', decide_eq_false_iff_not] at hk
  rw [hk.1] at h14
  have h15 := h15 hk.1
  have hx1 : (x >>> (tV (m 75) n p &&& 31)) &&& 1 = 1 := (zbt01 _).resolve_left hx
  have hz : ∀ c y : Int32, zup (zup m 71 10 c) 71 11 y 71 10 = c := fun c y => by rw [zup_n (by omega), zup_s]
  replace H := i_aln (q := 1) H I_X8_other_0 rfl rfl
  replace H := i_gfi (q := 4) H I_X8_other_1 G_8_63 cn_X8_other LY_71 rfl rfl
  have W := i_if_ne (t := 20) (q := 7) H I_X8_other_4 (by decide) rfl
  clear H
  rcases W with ⟨c_4, H⟩ | ⟨c_4, H⟩
  · exact absurd h0 c_4
  · skip
    replace H := i_aln (q := 8) H I_X8_other_7 rfl rfl
    replace H := i_gfi (q := 11) H I_X8_other_8 G_8_72 cn_X8_other LY_71 rfl rfl
    replace H := i_icst (x := 2) (q := 12) H I_X8_other_11 (by decide) rfl
    have W := i_ic_eq (t := 20) (q := 15) H I_X8_other_12 (by decide) rfl
    clear H
    rcases W with ⟨c_12, H⟩ | ⟨c_12, H⟩
    · skip
      replace H := i_aln (q := 21) H I_X8_other_20 rfl rfl
      replace H := i_gfi (q := 24) H I_X8_other_21 G_8_63 cn_X8_other LY_71 rfl rfl
      have W := i_if_ne (t := 47) (q := 27) H I_X8_other_24 (by decide) rfl
      clear H
      rcases W with ⟨c_24, H⟩ | ⟨c_24, H⟩
      · exact absurd h0 c_24
      · skip
        replace H := i_aln (q := 28) H I_X8_other_27 rfl rfl
        replace H := i_gfi (q := 31) H I_X8_other_28 G_8_82 cn_X8_other LY_71 rfl rfl
        replace H := i_i2l (q := 32) H I_X8_other_31 rfl
        replace H := i_iln (q := 33) H I_X8_other_32 rfl rfl
        replace H := i_i2l (q := 34) H I_X8_other_33 rfl
        replace H := i_iln (q := 35) H I_X8_other_34 rfl rfl
        replace H := i_i2l (q := 36) H I_X8_other_35 rfl
        replace H := i_in (q := 39) H I_X8_other_36 K_8_55 rfl
        have W := i_if_ne (t := 47) (q := 42) H I_X8_other_39 (by decide) rfl
        clear H
        rcases W with ⟨c_39, H⟩ | ⟨c_39, H⟩
        · skip
          replace H := i_aln (q := 48) H I_X8_other_47 rfl rfl
          replace H := i_gfi (q := 51) H I_X8_other_48 G_8_63 cn_X8_other LY_71 rfl rfl
          have W := i_if_ne (t := 75) (q := 54) H I_X8_other_51 (by decide) rfl
          clear H
          rcases W with ⟨c_51, H⟩ | ⟨c_51, H⟩
          · exact absurd h0 c_51
          · skip
            replace H := i_iln (q := 55) H I_X8_other_54 rfl rfl
            have W := i_if_eq (t := 75) (q := 58) H I_X8_other_55 (by decide) rfl
            clear H
            rcases W with ⟨c_55, H⟩ | ⟨c_55, H⟩
            · exfalso
              rw [c_55] at hx
              revert hx
              rw [z_0sh]
              decide
            · skip
              replace H := i_iln (q := 59) H I_X8_other_58 rfl rfl
              replace H := i_aln (q := 60) H I_X8_other_59 rfl rfl
              replace H := i_gfi (q := 63) H I_X8_other_60 G_8_82 cn_X8_other LY_71 rfl rfl
              replace H := i_ishr (q := 64) H I_X8_other_63 rfl
              replace H := i_icst (x := 1) (q := 65) H I_X8_other_64 (by decide) rfl
              replace H := i_iand (q := 66) H I_X8_other_65 rfl
              replace H := i_icst (x := 1) (q := 67) H I_X8_other_66 (by decide) rfl
              have W := i_ic_ne (t := 75) (q := 70) H I_X8_other_67 (by decide) rfl
              clear H
              rcases W with ⟨c_67, H⟩ | ⟨c_67, H⟩
              · rw [h15] at c_67
                exact absurd hx1 c_67
              · skip
                replace H := i_aln (q := 71) H I_X8_other_70 rfl rfl
                replace H := i_icst (x := 4) (q := 72) H I_X8_other_71 (by decide) rfl
                have W := i_cv1 0 (q := 75) H I_X8_other_72 K_8_93 Zm_118 rfl rfl
                clear H
                obtain ⟨r1, h1, Hc, K1, K2⟩ := W
                obtain ⟨e1, e2⟩ := t_fails0 h0 Hc
                have H := K2 _ e1 e2
                clear e1 e2 Hc K1 K2
                replace H := i_aln (q := 76) H I_X8_other_75 rfl rfl
                replace H := i_gfi (q := 79) H I_X8_other_76 G_8_63 cn_X8_other LY_71 rfl rfl
                have W := i_if_ne (t := 89) (q := 82) H I_X8_other_79 (by decide) rfl
                clear H
                rcases W with ⟨c_79, H⟩ | ⟨c_79, H⟩
                · skip
                  replace H := i_iln (q := 90) H I_X8_other_89 rfl rfl
                  replace H := i_is (q := 92) H I_X8_other_90 rfl rfl
                  replace H := i_aln (q := 93) H I_X8_other_92 rfl rfl
                  have W := i_cv0 1 (q := 96) H I_X8_other_93 K_8_97 Zm_120 rfl rfl
                  clear H
                  obtain ⟨r1, h1, Hc, K1, K2⟩ := W
                  obtain ⟨e1, e2⟩ := t_X8_step0 (by rw [hz]; decide) Hc
                  have H := K2 _ e1 e2
                  clear e1 e2 Hc K1 K2
                  replace H := i_il (q := 98) H I_X8_other_96 rfl rfl
                  obtain ⟨hr, hh⟩ := i_ir H I_X8_other_98
                  refine ⟨_, hr, hh, ⟨?_, ?_, (show (0 : Int32) < 4 by decide)⟩, fun a b hab => ?_⟩
                  · rw [zup_n (by omega), zup_s]
                  · rw [zup_s, h13]
                  · rw [zup_n (by omega), zup_n (by omega)]
                · rw [hz] at c_79
                  exact absurd c_79 (by decide)
        · rw [h15, zin_V hk.1, if_neg hk.2] at c_39
          exact absurd c_39 (by decide)
    · exact absurd h14 c_12
/-- a number is wanted: up to most, not one of x -/
def pOth (t : Nat → Int32) (n p : Nat) (most x : Int32) : (Int32 × Nat) ⊕ Int32 := if zNm t n p most = true then (if (x >>> (tV t n p &&& 31)) &&& 1 = 0 then .inr (tV t n p) else .inl (4, tS t n p)) else .inl (zfn t n p)
theorem t_other {d : Nat} {m : zM} {r : Option Value} {h' : zHp} {n p : Nat} {most x : Int32} (hE : rE m n) (hC : rC m n p) (H : zE none d zm_X8_other 0 [.ref 71, .int 0, .int most, .int x, .null] [] m r h') : ∃ m1 v, r = some (.int v) ∧ h' = zhp m1 ∧ zg1015 m m1 ∧ ((pOth (m 75) n p most x = .inr v ∧ rC m1 n (tN (m 75) n p)) ∨ ∃ f, pOth (m 75) n p most x = .inl f ∧ rF m1 f) := by
  obtain ⟨hpn, hC | ⟨hk, hF⟩⟩ := hC
  · by_cases hn : zNm (m 75) n p most = true
    · by_cases hx : (x >>> (tV (m 75) n p &&& 31)) &&& 1 = 0
      · obtain ⟨m1, x1, x2, x3, x4⟩ := t_other_ok hE hpn hC hn hx H
        exact ⟨m1, _, x1, x2, x4, Or.inl ⟨by rw [pOth, if_pos hn, if_pos hx], x3⟩⟩
      · obtain ⟨m1, x1, x2, x3, x4⟩ := t_other_b4 hC hn hx H
        exact ⟨m1, _, x1, x2, x4, Or.inr ⟨_, by rw [pOth, if_pos hn, if_neg hx], x3⟩⟩
    · by_cases hk : tK (m 75) n p = 2
      · have hv : most < tV (m 75) n p := by
          simp only [zNm, hk, decide_true, Bool.true_and, Bool.not_eq_true', decide_eq_false_iff_not] at hn
          exact Decidable.not_not.mp hn
        obtain ⟨m1, x1, x2, x3, x4⟩ := t_other_b3 hC hk hv H
        exact ⟨m1, _, x1, x2, x4, Or.inr ⟨_, by rw [pOth, if_neg hn], by rw [zfn, if_pos hk]; exact x3⟩⟩
      · obtain ⟨m1, x1, x2, x3, x4⟩ := t_other_b2 hC hk H
        exact ⟨m1, _, x1, x2, x4, Or.inr ⟨_, by rw [pOth, if_neg hn], by rw [zfn, if_neg hk, zfk, if_neg hC.1]; exact x3⟩⟩
  · have h2 : ¬ tK (m 75) n p = 2 := by rw [hk]; decide
    have hn : ¬ zNm (m 75) n p most = true := by simp [zNm, h2]
    obtain ⟨x1, x2⟩ := t_other_br hF H
    exact ⟨m, _, x1, x2, fun _ _ _ => rfl, Or.inr ⟨_, by rw [pOth, if_neg hn], by rw [zfn, if_neg h2, zfk, if_pos hk]; exact hF⟩⟩
end
section
/-! the reference's lines -/
theorem It_X8_readMore : zm_X8_readMore.2.2.2.2.2 = zt_X8_readMore := by
  unfold zm_X8_readMore
  rfl
theorem I_X8_readMore_0 : zin zm_X8_readMore.2.2.2.2.2 0 = some (.iload_n 1, 1) := by rw [It_X8_readMore]; rfl
theorem I_X8_readMore_1 : zin zm_X8_readMore.2.2.2.2.2 1 = some (.iconst 3, 1) := by rw [It_X8_readMore]; rfl
theorem I_X8_readMore_2 : zin zm_X8_readMore.2.2.2.2.2 2 = some (.if_icmp .gt 65, 3) := by rw [It_X8_readMore]; rfl
theorem I_X8_readMore_5 : zin zm_X8_readMore.2.2.2.2.2 5 = some (.aload_n 0, 1) := by rw [It_X8_readMore]; rfl
theorem I_X8_readMore_6 : zin zm_X8_readMore.2.2.2.2.2 6 = some (.getfield 16, 3) := by rw [It_X8_readMore]; rfl
theorem I_X8_readMore_9 : zin zm_X8_readMore.2.2.2.2.2 9 = some (.aload_n 0, 1) := by rw [It_X8_readMore]; rfl
theorem I_X8_readMore_10 : zin zm_X8_readMore.2.2.2.2.2 10 = some (.getfield 107, 3) := by rw [It_X8_readMore]; rfl
theorem I_X8_readMore_13 : zin zm_X8_readMore.2.2.2.2.2 13 = some (.iload_n 1, 1) := by rw [It_X8_readMore]; rfl
theorem I_X8_readMore_14 : zin zm_X8_readMore.2.2.2.2.2 14 = some (.iastore, 1) := by rw [It_X8_readMore]; rfl
theorem I_X8_readMore_15 : zin zm_X8_readMore.2.2.2.2.2 15 = some (.aload_n 0, 1) := by rw [It_X8_readMore]; rfl
theorem I_X8_readMore_16 : zin zm_X8_readMore.2.2.2.2.2 16 = some (.getfield 16, 3) := by rw [It_X8_readMore]; rfl
theorem I_X8_readMore_19 : zin zm_X8_readMore.2.2.2.2.2 19 = some (.iconst 5, 1) := by rw [It_X8_readMore]; rfl
theorem I_X8_readMore_20 : zin zm_X8_readMore.2.2.2.2.2 20 = some (.aload_n 0, 1) := by rw [It_X8_readMore]; rfl
theorem I_X8_readMore_21 : zin zm_X8_readMore.2.2.2.2.2 21 = some (.getfield 107, 3) := by rw [It_X8_readMore]; rfl
theorem I_X8_readMore_24 : zin zm_X8_readMore.2.2.2.2.2 24 = some (.iadd, 1) := by rw [It_X8_readMore]; rfl
theorem I_X8_readMore_25 : zin zm_X8_readMore.2.2.2.2.2 25 = some (.aload_n 0, 1) := by rw [It_X8_readMore]; rfl
theorem I_X8_readMore_26 : zin zm_X8_readMore.2.2.2.2.2 26 = some (.iconst 0, 1) := by rw [It_X8_readMore]; rfl
theorem I_X8_readMore_27 : zin zm_X8_readMore.2.2.2.2.2 27 = some (.bipush 99, 2) := by rw [It_X8_readMore]; rfl
theorem I_X8_readMore_29 : zin zm_X8_readMore.2.2.2.2.2 29 = some (.iconst 0, 1) := by rw [It_X8_readMore]; rfl
theorem I_X8_readMore_30 : zin zm_X8_readMore.2.2.2.2.2 30 = some (.invokevirtual 100, 3) := by rw [It_X8_readMore]; rfl
theorem I_X8_readMore_33 : zin zm_X8_readMore.2.2.2.2.2 33 = some (.iastore, 1) := by rw [It_X8_readMore]; rfl
theorem I_X8_readMore_34 : zin zm_X8_readMore.2.2.2.2.2 34 = some (.aload_n 0, 1) := by rw [It_X8_readMore]; rfl
theorem I_X8_readMore_35 : zin zm_X8_readMore.2.2.2.2.2 35 = some (.getfield 16, 3) := by rw [It_X8_readMore]; rfl
theorem I_X8_readMore_38 : zin zm_X8_readMore.2.2.2.2.2 38 = some (.bipush 10, 2) := by rw [It_X8_readMore]; rfl
theorem I_X8_readMore_40 : zin zm_X8_readMore.2.2.2.2.2 40 = some (.aload_n 0, 1) := by rw [It_X8_readMore]; rfl
theorem I_X8_readMore_41 : zin zm_X8_readMore.2.2.2.2.2 41 = some (.getfield 107, 3) := by rw [It_X8_readMore]; rfl
theorem I_X8_readMore_44 : zin zm_X8_readMore.2.2.2.2.2 44 = some (.iadd, 1) := by rw [It_X8_readMore]; rfl
theorem I_X8_readMore_45 : zin zm_X8_readMore.2.2.2.2.2 45 = some (.aload_n 0, 1) := by rw [It_X8_readMore]; rfl
theorem I_X8_readMore_46 : zin zm_X8_readMore.2.2.2.2.2 46 = some (.iconst 0, 1) := by rw [It_X8_readMore]; rfl
theorem I_X8_readMore_47 : zin zm_X8_readMore.2.2.2.2.2 47 = some (.bipush 99, 2) := by rw [It_X8_readMore]; rfl
theorem I_X8_readMore_49 : zin zm_X8_readMore.2.2.2.2.2 49 = some (.iconst 0, 1) := by rw [It_X8_readMore]; rfl
theorem I_X8_readMore_50 : zin zm_X8_readMore.2.2.2.2.2 50 = some (.invokevirtual 100, 3) := by rw [It_X8_readMore]; rfl
theorem I_X8_readMore_53 : zin zm_X8_readMore.2.2.2.2.2 53 = some (.iastore, 1) := by rw [It_X8_readMore]; rfl
theorem I_X8_readMore_54 : zin zm_X8_readMore.2.2.2.2.2 54 = some (.aload_n 0, 1) := by rw [It_X8_readMore]; rfl
theorem I_X8_readMore_55 : zin zm_X8_readMore.2.2.2.2.2 55 = some (.dup, 1) := by rw [It_X8_readMore]; rfl
theorem I_X8_readMore_56 : zin zm_X8_readMore.2.2.2.2.2 56 = some (.getfield 107, 3) := by rw [It_X8_readMore]; rfl
theorem I_X8_readMore_59 : zin zm_X8_readMore.2.2.2.2.2 59 = some (.iconst 1, 1) := by rw [It_X8_readMore]; rfl
theorem I_X8_readMore_60 : zin zm_X8_readMore.2.2.2.2.2 60 = some (.iadd, 1) := by rw [It_X8_readMore]; rfl
theorem I_X8_readMore_61 : zin zm_X8_readMore.2.2.2.2.2 61 = some (.putfield 107, 3) := by rw [It_X8_readMore]; rfl
theorem I_X8_readMore_64 : zin zm_X8_readMore.2.2.2.2.2 64 = some (.goto 67, 3) := by rw [It_X8_readMore]; rfl
theorem I_X8_readMore_131 : zin zm_X8_readMore.2.2.2.2.2 131 = some (.return_, 1) := by rw [It_X8_readMore]; rfl
theorem G_8_16 : zlk zfls 8 16 = some (8, 3, 844) := rfl
theorem G_8_107 : zlk zfls 8 107 = some (8, 4, 845) := rfl
theorem K_8_100 : zlk zmls 8 100 = some (0, 121, 3, 980) := rfl
theorem Zm_121 : zms[121]? = some zm_X8_other := rfl
theorem LY_74 : zLY[74]? = some (Sum.inl 0, List.replicate 27 none) := rfl
theorem cl_X8_readMore : zm_X8_readMore.2.2.2.2.1 = 8 := by
  unfold zm_X8_readMore
  rfl
theorem cn_X8_readMore : zm_X8_readMore.2.2.2.2.1 ≠ 12 := by
  rw [cl_X8_readMore]
  decide
theorem cn2_X8_readMore : zm_X8_readMore.2.2.2.2.1 ≠ 2 := by
  rw [cl_X8_readMore]
  decide
/-- what the reference's page holds of what has been read -/
def rV (m : zM) (c : Nat) (g : Nat → Int32) (sT pT : Bool) (sb : Int32) : Prop := m 71 4 = Int32.ofNat c ∧ c ≤ 5 ∧ (∀ k, k < 27 → m 74 k = g k) ∧ (∃ τ, τ < 128 ∧ m 71 5 = Int32.ofNat τ ∧ (Int32.ofNat τ >>> ((5 : Int32) &&& 31)) &&& 1 = zbi sT ∧ (Int32.ofNat τ >>> ((6 : Int32) &&& 31)) &&& 1 = zbi pT) ∧ m 71 6 = sb ∧ (∃ a, a ≤ 8 ∧ g 26 = Int32.ofNat a ∧ (pT = false → a = 0))
theorem rV_g {m m1 : zM} {c : Nat} {g : Nat → Int32} {sT pT : Bool} {sb : Int32} (h : rV m c g sT pT sb) (hf : zg1015 m m1) : rV m1 c g sT pT sb := by
  obtain ⟨h1, h2, h3, ⟨τ, t1, t2, t3, t4⟩, h5, h6⟩ := h
  exact ⟨by rw [hf _ _ (by omega)]; exact h1, h2, fun k hk => by rw [hf _ _ (by omega)]; exact h3 k hk, ⟨τ, t1, by rw [hf _ _ (by omega)]; exact t2, t3, t4⟩, by rw [hf _ _ (by omega)]; exact h5, h6⟩
theorem rC_f {m m1 : zM} {n p : Nat} (h : rC m n p) (hf : ∀ b, 10 ≤ b → b ≤ 15 → m1 71 b = m 71 b) (h5 : m1 75 = m 75) : rC m1 n p := by
  obtain ⟨h0, h⟩ := h
  refine ⟨h0, ?_⟩
  unfold rC0 rF at *
  rw [h5, hf 10 (by omega) (by omega), hf 11 (by omega) (by omega), hf 12 (by omega) (by omega), hf 13 (by omega) (by omega), hf 14 (by omega) (by omega), hf 15 (by omega) (by omega)]
  exact h
def rR (m1 : zM) (n : Nat) (x : zPr) : Prop := match x with
  | .inl f => rF m1 f
  | .inr q => rV m1 q.1.1 q.1.2.1 q.1.2.2.1 q.1.2.2.2.1 q.1.2.2.2.2 ∧ rC m1 n q.2
section
variable (t : Nat → Int32) (n : Nat) (σ : zPs)
def pPlM (c : Nat) (sT : Bool) : Nat → Nat → (Nat → Int32) → Int32 → Nat → zPr
  | 0, _, _, _, _ => .inl (0, 0)
  | k + 1, a, g, sb, p => if tK t n p = 2 then (if 8 ≤ a then .inl (5, tS t n p) else if 31 < tV t n p then .inl (3, tS t n p) else pPlM c sT k (a + 1) (gset (gset g (18 + a) (tV t n p)) 26 (Int32.ofNat (a + 1))) (sb ||| tV t n p) (tN t n p)) else .inr ((c, g, sT, true, sb), p)
/-- a line's numbers, behind its name, up to its stop -/
def pMore (w p : Nat) : zPr := if w < 4 then (if zNm t n p 99 = true then (if zNm t n (tN t n p) 99 = true then .inr ((σ.1 + 1, gset (gset (gset σ.2.1 σ.1 (Int32.ofNat w)) (5 + σ.1) (tV t n p)) (10 + σ.1) (tV t n (tN t n p)), σ.2.2), tN t n (tN t n p)) else .inl (zfn t n (tN t n p))) else .inl (zfn t n p))
  else if w = 4 then (if zNm t n p 4 = true then (if (σ.2.1 15 >>> (tV t n p &&& 31)) &&& 1 = 0 then .inr ((σ.1, gset σ.2.1 15 (σ.2.1 15 ||| (1 <<< (tV t n p &&& 31))), σ.2.2), tN t n p) else .inl (4, tS t n p)) else .inl (zfn t n p))
  else if w = 5 then (if zNm t n p 9 = true then .inr ((σ.1, gset σ.2.1 16 (tV t n p - 1), true, σ.2.2.2), tN t n p) else .inl (zfn t n p))
  else pPlM t n σ.1 σ.2.2.1 9 0 σ.2.1 σ.2.2.2.2 p
def pBd (x : zPr) : zPr := match x with
  | .inl f => .inl f
  | .inr q => pEnd t n q.2 q.1
theorem pPlM_b (c : Nat) (sT : Bool) : ∀ (k a : Nat) (g : Nat → Int32) (sb : Int32) (p : Nat), pBd t n (pPlM t n c sT k a g sb p) = pPl t n c sT k a g sb p
  | 0, a, g, sb, p => rfl
  | k + 1, a, g, sb, p => by
    rw [pPlM, pPl]
    by_cases h2 : tK t n p = 2
    · have h3 : ¬ tK t n p = 3 := by rw [h2]; decide
      rw [if_pos h2, if_neg h3, if_pos h2]
      by_cases h8 : 8 ≤ a
      · rw [if_pos h8, if_pos h8]; rfl
      · rw [if_neg h8, if_neg h8]
        by_cases h31 : 31 < tV t n p
        · rw [if_pos h31, if_pos h31]; rfl
        · rw [if_neg h31, if_neg h31]
          exact pPlM_b c sT k _ _ _ _
    · rw [if_neg h2, if_neg h2]
      show pEnd t n p _ = _
      rw [pEnd]
theorem pOne_b (w s p : Nat) (hw : w < 4) (hc : ¬ σ.1 = 5) : pOne t n σ w s p = pBd t n (pMore t n σ w p) := by
  rw [pOne, if_neg hc, pMore, if_pos hw]
  split
  · split <;> rfl
  · rfl
theorem pLeft_b (p : Nat) : pLeft t n σ p = pBd t n (pMore t n σ 4 p) := by
  rw [pLeft, pMore, if_neg (show ¬ 4 < 4 by omega), if_pos (show 4 = 4 from rfl)]
  split
  · split <;> rfl
  · rfl
theorem pSlack_b (s p : Nat) (hs : ¬ σ.2.2.1 = true) : pSlack t n σ s p = pBd t n (pMore t n σ 5 p) := by
  rw [pSlack, if_neg hs, pMore, if_neg (show ¬ 5 < 4 by omega), if_neg (show ¬ 5 = 4 by omega), if_pos (show 5 = 5 from rfl)]
  split <;> rfl
theorem pPlan_b (s p : Nat) (hs : ¬ σ.2.2.2.1 = true) : pPlan t n σ s p = pBd t n (pMore t n σ 6 p) := by
  rw [pPlan, if_neg hs, pMore, if_neg (show ¬ 6 < 4 by omega), if_neg (show ¬ 6 = 4 by omega), if_neg (show ¬ 6 = 5 by omega), pPlM_b]
end
theorem zix_add {k c i : Nat} {x y : Int32} (hy : y = Int32.ofNat k) (hx : x = Int32.ofNat c) (h : y + x = Int32.ofNat i) (hk : k + c < 1000) (hi : i < 1000) : i = k + c := by
  rw [hy, hx, ← Int32.ofNat_add] at h
  exact zofn h.symm (by omega) (by omega)
theorem pOth_0 {t : Nat → Int32} {n p : Nat} {most : Int32} : pOth t n p most 0 = if zNm t n p most = true then .inr (tV t n p) else .inl (zfn t n p) := by
  rw [pOth]
  split
  · rw [if_pos z_0sh]
  · rfl
theorem pOth_ok {t : Nat → Int32} {n p : Nat} {most v : Int32} (h : pOth t n p most 0 = .inr v) : zNm t n p most = true ∧ v = tV t n p := by
  rw [pOth_0] at h
  split at h
  · rename_i hk; cases h; exact ⟨hk, rfl⟩
  · cases h
theorem pOth_no {t : Nat → Int32} {n p : Nat} {most : Int32} {f : Int32 × Nat} (h : pOth t n p most 0 = .inl f) : ¬ zNm t n p most = true ∧ f = zfn t n p := by
  rw [pOth_0] at h
  split at h
  · cases h
  · rename_i hk; cases h; exact ⟨hk, rfl⟩
theorem rm_one {d : Nat} {m : zM} {r : Option Value} {h' : zHp} {n p c : Nat} {g : Nat → Int32} {sT pT : Bool} {sb : Int32} (hE : rE m n) (hC : rC m n p) (hV : rV m c g sT pT sb) {w : Nat} (hw : w < 4) (hc : c < 5) (H : zE none d zm_X8_readMore 0 [.ref 71, .int (Int32.ofNat w), .null] [] m r h') : ∃ m1, r = none ∧ h' = zhp m1 ∧ zfR m m1 ∧ rR m1 n (pMore (m 75) n (c, g, sT, pT, sb) w p) := by
  replace H := i_iln (q := 1) H I_X8_readMore_0 rfl rfl
  replace H := i_icst (x := 3) (q := 2) H I_X8_readMore_1 (by decide) rfl
  have W := i_ic_gt (t := 67) (q := 5) H I_X8_readMore_2 (by decide) rfl
  clear H
  rcases W with ⟨c_2, H⟩ | ⟨c_2, H⟩
  · exact absurd ((zofn_lt (i := 3) (by decide) (by omega)).mp c_2) (by omega)
  · skip
    replace H := i_aln (q := 6) H I_X8_readMore_5 rfl rfl
    replace H := i_gfr (q := 9) H I_X8_readMore_6 G_8_16 cn_X8_readMore LY_71 rfl rfl
    replace H := i_aln (q := 10) H I_X8_readMore_9 rfl rfl
    replace H := i_gfi (q := 13) H I_X8_readMore_10 G_8_107 cn_X8_readMore LY_71 rfl rfl
    replace H := i_iln (q := 14) H I_X8_readMore_13 rfl rfl
    have W := i_iast (q := 15) H I_X8_readMore_14 LY_74 rfl
    clear H
    obtain ⟨i_14, bi_14, ei_14, H⟩ := W
    replace H := i_aln (q := 16) H I_X8_readMore_15 rfl rfl
    replace H := i_gfr (q := 19) H I_X8_readMore_16 G_8_16 cn_X8_readMore LY_71 rfl rfl
    replace H := i_icst (x := 5) (q := 20) H I_X8_readMore_19 (by decide) rfl
    replace H := i_aln (q := 21) H I_X8_readMore_20 rfl rfl
    replace H := i_gfi (q := 24) H I_X8_readMore_21 G_8_107 cn_X8_readMore LY_71 rfl rfl
    replace H := i_iadd (q := 25) H I_X8_readMore_24 rfl
    replace H := i_aln (q := 26) H I_X8_readMore_25 rfl rfl
    replace H := i_icst (x := 0) (q := 27) H I_X8_readMore_26 (by decide) rfl
    replace H := i_bip (x := 99) (q := 29) H I_X8_readMore_27 (by decide) rfl
    replace H := i_icst (x := 0) (q := 30) H I_X8_readMore_29 (by decide) rfl
    have W := i_cv3 1 (q := 33) H I_X8_readMore_30 K_8_100 Zm_121 rfl rfl
    clear H
    obtain ⟨r1, h1, Hc, K1, K2⟩ := W
    obtain ⟨M_30, v_30, e1, e2, G_30, D_30⟩ := t_other (n := n) (p := p) (rE_f hE (fun a b x y => by rw [zup_n (by omega)])) (rC_f hC (fun b x y => by rw [zup_n (by omega)]) (by funext b; rw [zup_n (by omega)])) Hc
    have H := K1 _ _ e1 e2
    clear e1 e2 Hc K1 K2
    rcases D_30 with ⟨o_30, C_30⟩ | ⟨f_30, o_30, C_30⟩
    · skip
      have W := i_iast (q := 34) H I_X8_readMore_33 LY_74 rfl
      clear H
      obtain ⟨i_33, bi_33, ei_33, H⟩ := W
      replace H := i_aln (q := 35) H I_X8_readMore_34 rfl rfl
      replace H := i_gfr (q := 38) H I_X8_readMore_35 G_8_16 cn_X8_readMore LY_71 rfl rfl
      replace H := i_bip (x := 10) (q := 40) H I_X8_readMore_38 (by decide) rfl
      replace H := i_aln (q := 41) H I_X8_readMore_40 rfl rfl
      replace H := i_gfi (q := 44) H I_X8_readMore_41 G_8_107 cn_X8_readMore LY_71 rfl rfl
      replace H := i_iadd (q := 45) H I_X8_readMore_44 rfl
      replace H := i_aln (q := 46) H I_X8_readMore_45 rfl rfl
      replace H := i_icst (x := 0) (q := 47) H I_X8_readMore_46 (by decide) rfl
      replace H := i_bip (x := 99) (q := 49) H I_X8_readMore_47 (by decide) rfl
      replace H := i_icst (x := 0) (q := 50) H I_X8_readMore_49 (by decide) rfl
      have W := i_cv3 1 (q := 53) H I_X8_readMore_50 K_8_100 Zm_121 rfl rfl
      clear H
      obtain ⟨r1, h1, Hc, K1, K2⟩ := W
      obtain ⟨M_50, v_50, e1, e2, G_50, D_50⟩ := t_other (n := n) (p := tN (m 75) n p) (rE_f (rE_f hE (fun a b x y => by rw [zup_n (by omega)])) (zfR_t (zfR_g G_30) (fun a b x y => by rw [zup_n (by omega)]))) (rC_f (by have C := C_30; rw [show zup m 74 i_14 (Int32.ofNat w) 75 = m 75 from by funext b; rw [zup_n (by omega)]] at C; exact C) (fun b x y => by rw [zup_n (by omega)]) (by funext b; rw [zup_n (by omega)])) Hc
      have H := K1 _ _ e1 e2
      clear e1 e2 Hc K1 K2
      rcases D_50 with ⟨o_50, C_50⟩ | ⟨f_50, o_50, C_50⟩
      · skip
        have W := i_iast (q := 54) H I_X8_readMore_53 LY_74 rfl
        clear H
        obtain ⟨i_53, bi_53, ei_53, H⟩ := W
        replace H := i_aln (q := 55) H I_X8_readMore_54 rfl rfl
        replace H := i_dup (q := 56) H I_X8_readMore_55 rfl rfl
        replace H := i_gfi (q := 59) H I_X8_readMore_56 G_8_107 cn_X8_readMore LY_71 rfl rfl
        replace H := i_icst (x := 1) (q := 60) H I_X8_readMore_59 (by decide) rfl
        replace H := i_iadd (q := 61) H I_X8_readMore_60 rfl
        replace H := i_pf (q := 64) H I_X8_readMore_61 G_8_107 cn_X8_readMore LY_71 rfl rfl
        replace H := i_goto (q := 131) H I_X8_readMore_64 (by decide)
        obtain ⟨hr, hh⟩ := i_rt H I_X8_readMore_131
        have i1 : i_14 = c := zofn (ei_14.symm.trans hV.1) (by omega) (by omega)
        subst i1
        obtain ⟨k1, rfl⟩ := pOth_ok o_30
        have e0 : zup m 74 i_14 (Int32.ofNat w) 75 = m 75 := by funext b; rw [zup_n (by omega)]
        rw [e0] at k1 C_30 o_50 G_50 ei_53
        try rw [e0] at C_50
        have i2 : i_33 = 5 + i_14 := zix_add rfl (by rw [zup_n (by omega)]; exact hV.1) ei_33 (by omega) (by omega)
        subst i2
        have e1 : zup M_30 74 (5 + i_14) (tV (m 75) n p) 75 = m 75 := by
          funext b
          rw [zup_n (by omega), G_30 _ _ (by omega), zup_n (by omega)]
        rw [e1] at o_50
        try rw [e1] at C_50
        obtain ⟨k2, rfl⟩ := pOth_ok o_50
        have i3 : i_53 = 10 + i_14 := zix_add rfl (by rw [zup_n (by omega), G_30 _ _ (by omega), zup_n (by omega)]; exact hV.1) ei_53 (by omega) (by omega)
        subst i3
        rw [show pMore (m 75) n (i_14, g, sT, pT, sb) w p = .inr ((i_14 + 1, gset (gset (gset g i_14 (Int32.ofNat w)) (5 + i_14) (tV (m 75) n p)) (10 + i_14) (tV (m 75) n (tN (m 75) n p)), sT, pT, sb), tN (m 75) n (tN (m 75) n p)) by rw [pMore, if_pos hw, if_pos k1, if_pos k2]]
        obtain ⟨q1, q2, q3, ⟨τ, t1, t2, t3, t4⟩, q5, a, a1, a2, a3⟩ := hV
        refine ⟨_, hr, hh, fun a b x y => ?_, ⟨?_, ?_, fun k hk => ?_, ⟨τ, t1, ?_, t3, t4⟩, ?_, a, a1, ?_, a3⟩, ?_⟩
        · rw [zup_n (by omega), zup_n (by omega), G_50 _ _ (by omega), zup_n (by omega), G_30 _ _ (by omega), zup_n (by omega)]
        · rw [zup_s, zup_n (by omega), G_50 _ _ (by omega), zup_n (by omega), G_30 _ _ (by omega), zup_n (by omega), q1, zofn_1]
        · show i_14 + 1 ≤ 5
          omega
        · dsimp only
          rw [zup_n (by omega)]
          by_cases h1 : k = 10 + i_14
          · subst h1
            rw [zup_s, gset_s]
          · rw [zup_n (by omega), gset_n h1, G_50 _ _ (by omega)]
            by_cases h2 : k = 5 + i_14
            · subst h2
              rw [zup_s, gset_s]
            · rw [zup_n (by omega), gset_n h2, G_30 _ _ (by omega)]
              by_cases h3 : k = i_14
              · subst h3
                rw [zup_s, gset_s]
              · rw [zup_n (by omega), gset_n h3, q3 k hk]
        · rw [zup_n (by omega), zup_n (by omega), G_50 _ _ (by omega), zup_n (by omega), G_30 _ _ (by omega), zup_n (by omega), t2]
        · rw [zup_n (by omega), zup_n (by omega), G_50 _ _ (by omega), zup_n (by omega), G_30 _ _ (by omega), zup_n (by omega), q5]
        · dsimp only
          rw [gset_n (by omega), gset_n (by omega), gset_n (by omega), a2]
        · refine rC_f C_50 (fun b x y => ?_) ?_
          · rw [zup_n (by omega), zup_n (by omega)]
          · funext b
            rw [zup_n (by omega), zup_n (by omega)]
      · skip
        have W := i_iast (q := 54) H I_X8_readMore_53 LY_74 rfl
        clear H
        obtain ⟨i_53, bi_53, ei_53, H⟩ := W
        replace H := i_aln (q := 55) H I_X8_readMore_54 rfl rfl
        replace H := i_dup (q := 56) H I_X8_readMore_55 rfl rfl
        replace H := i_gfi (q := 59) H I_X8_readMore_56 G_8_107 cn_X8_readMore LY_71 rfl rfl
        replace H := i_icst (x := 1) (q := 60) H I_X8_readMore_59 (by decide) rfl
        replace H := i_iadd (q := 61) H I_X8_readMore_60 rfl
        replace H := i_pf (q := 64) H I_X8_readMore_61 G_8_107 cn_X8_readMore LY_71 rfl rfl
        replace H := i_goto (q := 131) H I_X8_readMore_64 (by decide)
        obtain ⟨hr, hh⟩ := i_rt H I_X8_readMore_131
        have i1 : i_14 = c := zofn (ei_14.symm.trans hV.1) (by omega) (by omega)
        subst i1
        obtain ⟨k1, rfl⟩ := pOth_ok o_30
        have e0 : zup m 74 i_14 (Int32.ofNat w) 75 = m 75 := by funext b; rw [zup_n (by omega)]
        rw [e0] at k1 C_30 o_50 G_50 ei_53
        try rw [e0] at C_50
        have i2 : i_33 = 5 + i_14 := zix_add rfl (by rw [zup_n (by omega)]; exact hV.1) ei_33 (by omega) (by omega)
        subst i2
        have e1 : zup M_30 74 (5 + i_14) (tV (m 75) n p) 75 = m 75 := by
          funext b
          rw [zup_n (by omega), G_30 _ _ (by omega), zup_n (by omega)]
        rw [e1] at o_50
        try rw [e1] at C_50
        obtain ⟨k2, rfl⟩ := pOth_no o_50
        rw [show pMore (m 75) n (i_14, g, sT, pT, sb) w p = .inl (zfn (m 75) n (tN (m 75) n p)) by rw [pMore, if_pos hw, if_pos k1, if_neg k2]]
        refine ⟨_, hr, hh, fun a b x y => ?_, ?_⟩
        · rw [zup_n (by omega), zup_n (by omega), G_50 _ _ (by omega), zup_n (by omega), G_30 _ _ (by omega), zup_n (by omega)]
        · exact ⟨by rw [zup_n (by omega), zup_n (by omega)]; exact C_50.1, by rw [zup_n (by omega), zup_n (by omega)]; exact C_50.2.1, C_50.2.2⟩
    · skip
      have W := i_iast (q := 34) H I_X8_readMore_33 LY_74 rfl
      clear H
      obtain ⟨i_33, bi_33, ei_33, H⟩ := W
      replace H := i_aln (q := 35) H I_X8_readMore_34 rfl rfl
      replace H := i_gfr (q := 38) H I_X8_readMore_35 G_8_16 cn_X8_readMore LY_71 rfl rfl
      replace H := i_bip (x := 10) (q := 40) H I_X8_readMore_38 (by decide) rfl
      replace H := i_aln (q := 41) H I_X8_readMore_40 rfl rfl
      replace H := i_gfi (q := 44) H I_X8_readMore_41 G_8_107 cn_X8_readMore LY_71 rfl rfl
      replace H := i_iadd (q := 45) H I_X8_readMore_44 rfl
      replace H := i_aln (q := 46) H I_X8_readMore_45 rfl rfl
      replace H := i_icst (x := 0) (q := 47) H I_X8_readMore_46 (by decide) rfl
      replace H := i_bip (x := 99) (q := 49) H I_X8_readMore_47 (by decide) rfl
      replace H := i_icst (x := 0) (q := 50) H I_X8_readMore_49 (by decide) rfl
      have W := i_cv3 1 (q := 53) H I_X8_readMore_50 K_8_100 Zm_121 rfl rfl
      clear H
      obtain ⟨r1, h1, Hc, K1, K2⟩ := W
      obtain ⟨e1, e2⟩ := t_other_br (f := f_30) ⟨by rw [zup_n (by omega)]; exact C_30.1, by rw [zup_n (by omega)]; exact C_30.2.1, C_30.2.2⟩ Hc
      have H := K1 _ _ e1 e2
      clear e1 e2 Hc K1 K2
      have W := i_iast (q := 54) H I_X8_readMore_53 LY_74 rfl
      clear H
      obtain ⟨i_53, bi_53, ei_53, H⟩ := W
      replace H := i_aln (q := 55) H I_X8_readMore_54 rfl rfl
      replace H := i_dup (q := 56) H I_X8_readMore_55 rfl rfl
      replace H := i_gfi (q := 59) H I_X8_readMore_56 G_8_107 cn_X8_readMore LY_71 rfl rfl
      replace H := i_icst (x := 1) (q := 60) H I_X8_readMore_59 (by decide) rfl
      replace H := i_iadd (q := 61) H I_X8_readMore_60 rfl
      replace H := i_pf (q := 64) H I_X8_readMore_61 G_8_107 cn_X8_readMore LY_71 rfl rfl
      replace H := i_goto (q := 131) H I_X8_readMore_64 (by decide)
      obtain ⟨hr, hh⟩ := i_rt H I_X8_readMore_131
      have i1 : i_14 = c := zofn (ei_14.symm.trans hV.1) (by omega) (by omega)
      subst i1
      obtain ⟨k1, rfl⟩ := pOth_no o_30
      rw [show zup m 74 i_14 (Int32.ofNat w) 75 = m 75 from by funext b; rw [zup_n (by omega)]] at k1 C_30
      rw [show pMore (m 75) n (i_14, g, sT, pT, sb) w p = .inl (zfn (m 75) n p) by rw [pMore, if_pos hw, if_neg k1]]
      refine ⟨_, hr, hh, fun a b x y => ?_, ?_⟩
      · rw [zup_n (by omega), zup_n (by omega), zup_n (by omega), G_30 _ _ (by omega), zup_n (by omega)]
      · exact ⟨by rw [zup_n (by omega), zup_n (by omega), zup_n (by omega)]; exact C_30.1, by rw [zup_n (by omega), zup_n (by omega), zup_n (by omega)]; exact C_30.2.1, C_30.2.2⟩
end
