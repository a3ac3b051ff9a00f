/-! the reference's line -/
theorem It_X8_readLine : zm_X8_readLine.2.2.2.2.2 = zt_X8_readLine := by
  unfold zm_X8_readLine
  rfl
theorem I_X8_readLine_0 : zin zm_X8_readLine.2.2.2.2.2 0 = some (.aload_n 0, 1) := by rw [It_X8_readLine]; rfl
theorem I_X8_readLine_1 : zin zm_X8_readLine.2.2.2.2.2 1 = some (.invokevirtual 113, 3) := by rw [It_X8_readLine]; rfl
theorem I_X8_readLine_4 : zin zm_X8_readLine.2.2.2.2.2 4 = some (.istore_n 1, 1) := by rw [It_X8_readLine]; rfl
theorem I_X8_readLine_5 : zin zm_X8_readLine.2.2.2.2.2 5 = some (.iload_n 1, 1) := by rw [It_X8_readLine]; rfl
theorem I_X8_readLine_6 : zin zm_X8_readLine.2.2.2.2.2 6 = some (.i2l, 1) := by rw [It_X8_readLine]; rfl
theorem I_X8_readLine_7 : zin zm_X8_readLine.2.2.2.2.2 7 = some (.lconst 0, 1) := by rw [It_X8_readLine]; rfl
theorem I_X8_readLine_8 : zin zm_X8_readLine.2.2.2.2.2 8 = some (.ldc2_w 117, 3) := by rw [It_X8_readLine]; rfl
theorem I_X8_readLine_11 : zin zm_X8_readLine.2.2.2.2.2 11 = some (.invokestatic 55, 3) := by rw [It_X8_readLine]; rfl
theorem I_X8_readLine_14 : zin zm_X8_readLine.2.2.2.2.2 14 = some (.ifCond .ne 9, 3) := by rw [It_X8_readLine]; rfl
theorem I_X8_readLine_17 : zin zm_X8_readLine.2.2.2.2.2 17 = some (.aload_n 0, 1) := by rw [It_X8_readLine]; rfl
theorem I_X8_readLine_18 : zin zm_X8_readLine.2.2.2.2.2 18 = some (.iconst 2, 1) := by rw [It_X8_readLine]; rfl
theorem I_X8_readLine_19 : zin zm_X8_readLine.2.2.2.2.2 19 = some (.invokevirtual 93, 3) := by rw [It_X8_readLine]; rfl
theorem I_X8_readLine_22 : zin zm_X8_readLine.2.2.2.2.2 22 = some (.return_, 1) := by rw [It_X8_readLine]; rfl
theorem I_X8_readLine_23 : zin zm_X8_readLine.2.2.2.2.2 23 = some (.iload_n 1, 1) := by rw [It_X8_readLine]; rfl
theorem I_X8_readLine_24 : zin zm_X8_readLine.2.2.2.2.2 24 = some (.iconst 3, 1) := by rw [It_X8_readLine]; rfl
theorem I_X8_readLine_25 : zin zm_X8_readLine.2.2.2.2.2 25 = some (.if_icmp .gt 16, 3) := by rw [It_X8_readLine]; rfl
theorem I_X8_readLine_28 : zin zm_X8_readLine.2.2.2.2.2 28 = some (.aload_n 0, 1) := by rw [It_X8_readLine]; rfl
theorem I_X8_readLine_29 : zin zm_X8_readLine.2.2.2.2.2 29 = some (.getfield 107, 3) := by rw [It_X8_readLine]; rfl
theorem I_X8_readLine_32 : zin zm_X8_readLine.2.2.2.2.2 32 = some (.iconst 5, 1) := by rw [It_X8_readLine]; rfl
theorem I_X8_readLine_33 : zin zm_X8_readLine.2.2.2.2.2 33 = some (.if_icmp .ne 8, 3) := by rw [It_X8_readLine]; rfl
theorem I_X8_readLine_36 : zin zm_X8_readLine.2.2.2.2.2 36 = some (.aload_n 0, 1) := by rw [It_X8_readLine]; rfl
theorem I_X8_readLine_37 : zin zm_X8_readLine.2.2.2.2.2 37 = some (.iconst 5, 1) := by rw [It_X8_readLine]; rfl
theorem I_X8_readLine_38 : zin zm_X8_readLine.2.2.2.2.2 38 = some (.invokevirtual 93, 3) := by rw [It_X8_readLine]; rfl
theorem I_X8_readLine_41 : zin zm_X8_readLine.2.2.2.2.2 41 = some (.iload_n 1, 1) := by rw [It_X8_readLine]; rfl
theorem I_X8_readLine_42 : zin zm_X8_readLine.2.2.2.2.2 42 = some (.iconst 5, 1) := by rw [It_X8_readLine]; rfl
theorem I_X8_readLine_43 : zin zm_X8_readLine.2.2.2.2.2 43 = some (.if_icmp .lt 20, 3) := by rw [It_X8_readLine]; rfl
theorem I_X8_readLine_46 : zin zm_X8_readLine.2.2.2.2.2 46 = some (.aload_n 0, 1) := by rw [It_X8_readLine]; rfl
theorem I_X8_readLine_47 : zin zm_X8_readLine.2.2.2.2.2 47 = some (.getfield 119, 3) := by rw [It_X8_readLine]; rfl
theorem I_X8_readLine_50 : zin zm_X8_readLine.2.2.2.2.2 50 = some (.iload_n 1, 1) := by rw [It_X8_readLine]; rfl
theorem I_X8_readLine_51 : zin zm_X8_readLine.2.2.2.2.2 51 = some (.ishr, 1) := by rw [It_X8_readLine]; rfl
theorem I_X8_readLine_52 : zin zm_X8_readLine.2.2.2.2.2 52 = some (.iconst 1, 1) := by rw [It_X8_readLine]; rfl
theorem I_X8_readLine_53 : zin zm_X8_readLine.2.2.2.2.2 53 = some (.iand, 1) := by rw [It_X8_readLine]; rfl
theorem I_X8_readLine_54 : zin zm_X8_readLine.2.2.2.2.2 54 = some (.iconst 1, 1) := by rw [It_X8_readLine]; rfl
theorem I_X8_readLine_55 : zin zm_X8_readLine.2.2.2.2.2 55 = some (.if_icmp .ne 8, 3) := by rw [It_X8_readLine]; rfl
theorem I_X8_readLine_58 : zin zm_X8_readLine.2.2.2.2.2 58 = some (.aload_n 0, 1) := by rw [It_X8_readLine]; rfl
theorem I_X8_readLine_59 : zin zm_X8_readLine.2.2.2.2.2 59 = some (.iconst 4, 1) := by rw [It_X8_readLine]; rfl
theorem I_X8_readLine_60 : zin zm_X8_readLine.2.2.2.2.2 60 = some (.invokevirtual 93, 3) := by rw [It_X8_readLine]; rfl
theorem I_X8_readLine_63 : zin zm_X8_readLine.2.2.2.2.2 63 = some (.aload_n 0, 1) := by rw [It_X8_readLine]; rfl
theorem I_X8_readLine_64 : zin zm_X8_readLine.2.2.2.2.2 64 = some (.dup, 1) := by rw [It_X8_readLine]; rfl
theorem I_X8_readLine_65 : zin zm_X8_readLine.2.2.2.2.2 65 = some (.getfield 119, 3) := by rw [It_X8_readLine]; rfl
theorem I_X8_readLine_68 : zin zm_X8_readLine.2.2.2.2.2 68 = some (.iconst 1, 1) := by rw [It_X8_readLine]; rfl
theorem I_X8_readLine_69 : zin zm_X8_readLine.2.2.2.2.2 69 = some (.iload_n 1, 1) := by rw [It_X8_readLine]; rfl
theorem I_X8_readLine_70 : zin zm_X8_readLine.2.2.2.2.2 70 = some (.ishl, 1) := by rw [It_X8_readLine]; rfl
theorem I_X8_readLine_71 : zin zm_X8_readLine.2.2.2.2.2 71 = some (.ior, 1) := by rw [It_X8_readLine]; rfl
theorem I_X8_readLine_72 : zin zm_X8_readLine.2.2.2.2.2 72 = some (.putfield 119, 3) := by rw [It_X8_readLine]; rfl
theorem I_X8_readLine_75 : zin zm_X8_readLine.2.2.2.2.2 75 = some (.aload_n 0, 1) := by rw [It_X8_readLine]; rfl
theorem I_X8_readLine_76 : zin zm_X8_readLine.2.2.2.2.2 76 = some (.invokevirtual 97, 3) := by rw [It_X8_readLine]; rfl
theorem I_X8_readLine_79 : zin zm_X8_readLine.2.2.2.2.2 79 = some (.aload_n 0, 1) := by rw [It_X8_readLine]; rfl
theorem I_X8_readLine_80 : zin zm_X8_readLine.2.2.2.2.2 80 = some (.getfield 63, 3) := by rw [It_X8_readLine]; rfl
theorem I_X8_readLine_83 : zin zm_X8_readLine.2.2.2.2.2 83 = some (.ifCond .le 4, 3) := by rw [It_X8_readLine]; rfl
theorem I_X8_readLine_86 : zin zm_X8_readLine.2.2.2.2.2 86 = some (.return_, 1) := by rw [It_X8_readLine]; rfl
theorem I_X8_readLine_87 : zin zm_X8_readLine.2.2.2.2.2 87 = some (.aload_n 0, 1) := by rw [It_X8_readLine]; rfl
theorem I_X8_readLine_88 : zin zm_X8_readLine.2.2.2.2.2 88 = some (.iload_n 1, 1) := by rw [It_X8_readLine]; rfl
theorem I_X8_readLine_89 : zin zm_X8_readLine.2.2.2.2.2 89 = some (.invokevirtual 122, 3) := by rw [It_X8_readLine]; rfl
theorem I_X8_readLine_92 : zin zm_X8_readLine.2.2.2.2.2 92 = some (.aload_n 0, 1) := by rw [It_X8_readLine]; rfl
theorem I_X8_readLine_93 : zin zm_X8_readLine.2.2.2.2.2 93 = some (.getfield 63, 3) := by rw [It_X8_readLine]; rfl
theorem I_X8_readLine_96 : zin zm_X8_readLine.2.2.2.2.2 96 = some (.ifCond .ne 16, 3) := by rw [It_X8_readLine]; rfl
theorem I_X8_readLine_99 : zin zm_X8_readLine.2.2.2.2.2 99 = some (.aload_n 0, 1) := by rw [It_X8_readLine]; rfl
theorem I_X8_readLine_100 : zin zm_X8_readLine.2.2.2.2.2 100 = some (.getfield 72, 3) := by rw [It_X8_readLine]; rfl
theorem I_X8_readLine_103 : zin zm_X8_readLine.2.2.2.2.2 103 = some (.iconst 3, 1) := by rw [It_X8_readLine]; rfl
theorem I_X8_readLine_104 : zin zm_X8_readLine.2.2.2.2.2 104 = some (.if_icmp .eq 8, 3) := by rw [It_X8_readLine]; rfl
theorem I_X8_readLine_107 : zin zm_X8_readLine.2.2.2.2.2 107 = some (.aload_n 0, 1) := by rw [It_X8_readLine]; rfl
theorem I_X8_readLine_108 : zin zm_X8_readLine.2.2.2.2.2 108 = some (.iconst 2, 1) := by rw [It_X8_readLine]; rfl
theorem I_X8_readLine_109 : zin zm_X8_readLine.2.2.2.2.2 109 = some (.invokevirtual 93, 3) := by rw [It_X8_readLine]; rfl
theorem I_X8_readLine_112 : zin zm_X8_readLine.2.2.2.2.2 112 = some (.aload_n 0, 1) := by rw [It_X8_readLine]; rfl
theorem I_X8_readLine_113 : zin zm_X8_readLine.2.2.2.2.2 113 = some (.invokevirtual 97, 3) := by rw [It_X8_readLine]; rfl
theorem I_X8_readLine_116 : zin zm_X8_readLine.2.2.2.2.2 116 = some (.return_, 1) := by rw [It_X8_readLine]; rfl
theorem G_8_119 : zlk zfls 8 119 = some (8, 5, 846) := rfl
theorem K_8_113 : zlk zmls 8 113 = some (0, 119, 0, 971) := rfl
theorem K_8_122 : zlk zmls 8 122 = some (0, 123, 1, 976) := rfl
theorem Zm_119 : zms[119]? = some zm_X8_nameHere := rfl
theorem Zm_123 : zms[123]? = some zm_X8_readMore := rfl
theorem J_8_117 : zlk zcJs 8 117 = some (6, 975) := rfl
theorem cl_X8_readLine : zm_X8_readLine.2.2.2.2.1 = 8 := by
  unfold zm_X8_readLine
  rfl
theorem cn_X8_readLine : zm_X8_readLine.2.2.2.2.1 ≠ 12 := by
  rw [cl_X8_readLine]
  decide
theorem cn2_X8_readLine : zm_X8_readLine.2.2.2.2.1 ≠ 2 := by
  rw [cl_X8_readLine]
  decide
theorem told_ok : ∀ τ, τ < 128 → ∀ w, w < 7 → (Int32.ofNat τ ||| ((1 : Int32) <<< (Int32.ofNat w &&& 31))) = Int32.ofNat (τ ||| 2 ^ w) ∧ τ ||| 2 ^ w < 128 ∧ (Int32.ofNat (τ ||| 2 ^ w) >>> ((5 : Int32) &&& 31)) &&& 1 = (if w = 5 then 1 else (Int32.ofNat τ >>> ((5 : Int32) &&& 31)) &&& 1) ∧ (Int32.ofNat (τ ||| 2 ^ w) >>> ((6 : Int32) &&& 31)) &&& 1 = (if w = 6 then 1 else (Int32.ofNat τ >>> ((6 : Int32) &&& 31)) &&& 1) := by decide +kernel
theorem t_nameHere0 {d : Nat} {m : zM} {r : Option Value} {h' : zHp} (ht : ¬ m 71 14 = 1) (H : zE none d zm_X8_nameHere 0 [.ref 71, .null, .null, .null] [] m r h') : r = some (.int (-4)) ∧ h' = zhp m := by
  replace H := i_icst (x := 0) (q := 1) H I_X8_nameHere_0 (by decide) rfl
  replace H := i_isn (q := 2) H I_X8_nameHere_1 rfl rfl
  replace H := i_iln (q := 3) H I_X8_nameHere_2 rfl rfl
  replace H := i_bip (x := 7) (q := 5) H I_X8_nameHere_3 (by decide) rfl
  have W := i_ic_ge (t := 118) (q := 8) H I_X8_nameHere_5 (by decide) rfl
  clear H
  rcases W with ⟨c_5, H⟩ | ⟨c_5, H⟩
  · skip
    replace H := i_bip (x := (-4)) (q := 120) H I_X8_nameHere_118 (by decide) rfl
    obtain ⟨hr, hh⟩ := i_ir H I_X8_nameHere_120
    exact ⟨hr, hh⟩
  · skip
    replace H := i_aln (q := 9) H I_X8_nameHere_8 rfl rfl
    replace H := i_gfi (q := 12) H I_X8_nameHere_9 G_8_72 cn_X8_nameHere LY_71 rfl rfl
    replace H := i_icst (x := 1) (q := 13) H I_X8_nameHere_12 (by decide) rfl
    have W := i_ic_ne (t := 118) (q := 16) H I_X8_nameHere_13 (by decide) rfl
    clear H
    rcases W with ⟨c_13, H⟩ | ⟨c_13, H⟩
    · skip
      replace H := i_bip (x := (-4)) (q := 120) H I_X8_nameHere_118 (by decide) rfl
      obtain ⟨hr, hh⟩ := i_ir H I_X8_nameHere_120
      exact ⟨hr, hh⟩
    · skip
      exact absurd c_13 ht
theorem pMore_4 {t : Nat → Int32} {n p w : Nat} {σ : zPs} (h : tK t n p = 4) : pBd t n (pMore t n σ w p) = .inl (1, tS t n p) := by
  have h2 : ¬ tK t n p = 2 := by rw [h]; decide
  have h3 : ¬ tK t n p = 3 := by rw [h]; decide
  have hn : ∀ x, ¬ zNm t n p x = true := fun x => by simp [zNm, h2]
  have hz : zfn t n p = (1, tS t n p) := by rw [zfn, if_neg h2, zfk, if_pos h]
  rw [pMore]
  split
  · rw [if_neg (hn _), hz]; rfl
  · split
    · rw [if_neg (hn _), hz]; rfl
    · split
      · rw [if_neg (hn _), hz]; rfl
      · rw [pPlM, if_neg h2]
        show pEnd t n p _ = _
        rw [pEnd, if_neg h3, zft, zfk, if_pos h]
/-- what a line needs, behind its name w -/
def rOk (c : Nat) (g : Nat → Int32) (sT pT : Bool) (w : Nat) : Prop := w < 7 ∧ (w < 4 → c < 5) ∧ (w = 5 → sT = true) ∧ (w = 6 → pT = true ∧ g 26 = Int32.ofNat 0)
theorem t_X8_readMore {d : Nat} {m : zM} {r : Option Value} {h' : zHp} {n p c : Nat} {g : Nat → Int32} {sT pT : Bool} {sb : Int32} (hE : rE m n) (hC : rC m n p) (hV : rV m c g sT pT sb) {w : Nat} (hw : rOk c g sT pT w) (H : zE none d zm_X8_readMore 0 [.ref 71, .int (Int32.ofNat w), .null] [] m r h') : ∃ m1, r = none ∧ h' = zhp m1 ∧ zfR m m1 ∧ rR m1 n (pMore (m 75) n (c, g, sT, pT, sb) w p) := by
  obtain ⟨h7, h4, h5, h6⟩ := hw
  rcases Nat.lt_or_ge w 4 with hlt | hge
  · exact rm_one hE hC hV hlt (h4 hlt) H
  · rcases (by omega : w = 4 ∨ w = 5 ∨ w = 6) with rfl | rfl | rfl
    · exact rm_left hE hC hV H
    · exact rm_slack hE hC hV (h5 rfl) H
    · exact rm_plan hE hC hV (h6 rfl).1 (h6 rfl).2 H
theorem rl_endF {d : Nat} {m : zM} {r : Option Value} {h' : zHp} {f : Int32 × Nat} {x : Int32} (hF : rF m f) (H : zE none d zm_X8_readLine 92 [.ref 71, .int x] [] m r h') : r = none ∧ h' = zhp m := by
  replace H := i_aln (q := 93) H I_X8_readLine_92 rfl rfl
  replace H := i_gfi (q := 96) H I_X8_readLine_93 G_8_63 cn_X8_readLine LY_71 rfl rfl
  have W := i_if_ne (t := 112) (q := 99) H I_X8_readLine_96 (by decide) rfl
  clear H
  rcases W with ⟨c_96, H⟩ | ⟨c_96, H⟩
  · skip
    replace H := i_aln (q := 113) H I_X8_readLine_112 rfl rfl
    have W := i_cv0 1 (q := 116) H I_X8_readLine_113 K_8_97 Zm_120 rfl rfl
    clear H
    obtain ⟨r1, h1, Hc, K1, K2⟩ := W
    obtain ⟨e1, e2⟩ := t_X8_step0 (rF_p hF) Hc
    have H := K2 _ e1 e2
    clear e1 e2 Hc K1 K2
    obtain ⟨hr, hh⟩ := i_rt H I_X8_readLine_116
    exact ⟨hr, hh⟩
  · exact absurd c_96 (rF_0 hF)
theorem rl_end3 {d : Nat} {m : zM} {r : Option Value} {h' : zHp} {n p : Nat} {x : Int32} (hE : rE m n) (hpn : p ≤ n) (hC : rC0 m n p) (h3 : tK (m 75) n p = 3) (H : zE none d zm_X8_readLine 92 [.ref 71, .int x] [] m r h') : ∃ m1, r = none ∧ h' = zhp m1 ∧ zg1015 m m1 ∧ rC m1 n (tN (m 75) n p) := by
  obtain ⟨k4, h0, h12, h13, h14, h15⟩ := hC
  rw [h3] at h14
  replace H := i_aln (q := 93) H I_X8_readLine_92 rfl rfl
  replace H := i_gfi (q := 96) H I_X8_readLine_93 G_8_63 cn_X8_readLine LY_71 rfl rfl
  have W := i_if_ne (t := 112) (q := 99) H I_X8_readLine_96 (by decide) rfl
  clear H
  rcases W with ⟨c_96, H⟩ | ⟨c_96, H⟩
  · exact absurd h0 c_96
  · skip
    replace H := i_aln (q := 100) H I_X8_readLine_99 rfl rfl
    replace H := i_gfi (q := 103) H I_X8_readLine_100 G_8_72 cn_X8_readLine LY_71 rfl rfl
    replace H := i_icst (x := 3) (q := 104) H I_X8_readLine_103 (by decide) rfl
    have W := i_ic_eq (t := 112) (q := 107) H I_X8_readLine_104 (by decide) rfl
    clear H
    rcases W with ⟨c_104, H⟩ | ⟨c_104, H⟩
    · skip
      replace H := i_aln (q := 113) H I_X8_readLine_112 rfl rfl
      have W := i_cv0 1 (q := 116) H I_X8_readLine_113 K_8_97 Zm_120 rfl rfl
      clear H
      obtain ⟨r1, h1, Hc, K1, K2⟩ := W
      obtain ⟨M_113, e1, e2, F_113⟩ := t_step1 (n := n) (p := tN (m 75) n p) hE h0 h12 (tN_le hpn) Hc
      have H := K2 _ e1 e2
      clear e1 e2 Hc K1 K2
      obtain ⟨hr, hh⟩ := i_rt H I_X8_readLine_116
      exact ⟨_, hr, hh, F_113.2, F_113.1⟩
    · exact absurd h14 c_104
theorem rl_end2 {d : Nat} {m : zM} {r : Option Value} {h' : zHp} {n p : Nat} {x : Int32} (hC : rC0 m n p) (h3 : ¬ tK (m 75) n p = 3) (H : zE none d zm_X8_readLine 92 [.ref 71, .int x] [] m r h') : ∃ m1, r = none ∧ h' = zhp m1 ∧ zg1015 m m1 ∧ rF m1 (2, tS (m 75) n p) := by
  obtain ⟨k4, h0, h12, h13, h14, h15⟩ := hC
  rw [← h14] at h3
  have hz : zup (zup m 71 10 2) 71 11 (m 71 13) 71 10 = 2 := by rw [zup_n (by omega), zup_s]
  replace H := i_aln (q := 93) H I_X8_readLine_92 rfl rfl
  replace H := i_gfi (q := 96) H I_X8_readLine_93 G_8_63 cn_X8_readLine LY_71 rfl rfl
  have W := i_if_ne (t := 112) (q := 99) H I_X8_readLine_96 (by decide) rfl
  clear H
  rcases W with ⟨c_96, H⟩ | ⟨c_96, H⟩
  · exact absurd h0 c_96
  · skip
    replace H := i_aln (q := 100) H I_X8_readLine_99 rfl rfl
    replace H := i_gfi (q := 103) H I_X8_readLine_100 G_8_72 cn_X8_readLine LY_71 rfl rfl
    replace H := i_icst (x := 3) (q := 104) H I_X8_readLine_103 (by decide) rfl
    have W := i_ic_eq (t := 112) (q := 107) H I_X8_readLine_104 (by decide) rfl
    clear H
    rcases W with ⟨c_104, H⟩ | ⟨c_104, H⟩
    · exact absurd c_104 h3
    · skip
      replace H := i_aln (q := 108) H I_X8_readLine_107 rfl rfl
      replace H := i_icst (x := 2) (q := 109) H I_X8_readLine_108 (by decide) rfl
      have W := i_cv1 0 (q := 112) H I_X8_readLine_109 K_8_93 Zm_118 rfl rfl
      clear H
      obtain ⟨r1, h1, Hc, K1, K2⟩ := W
      obtain ⟨e1, e2⟩ := t_fails0 h0 Hc
      have H := K2 _ e1 e2
      clear e1 e2 Hc K1 K2
      replace H := i_aln (q := 113) H I_X8_readLine_112 rfl rfl
      have W := i_cv0 1 (q := 116) H I_X8_readLine_113 K_8_97 Zm_120 rfl rfl
      clear H
      obtain ⟨r1, h1, Hc, K1, K2⟩ := W
      obtain ⟨e1, e2⟩ := t_X8_step0 (by rw [hz]; decide) Hc
      have H := K2 _ e1 e2
      clear e1 e2 Hc K1 K2
      obtain ⟨hr, hh⟩ := i_rt H I_X8_readLine_116
      refine ⟨_, hr, hh, fun a b hab => by rw [zup_n (by omega), zup_n (by omega)], hz, by rw [zup_s, h13], (show (0 : Int32) < 2 by decide)⟩
theorem rl_end {d : Nat} {m : zM} {r : Option Value} {h' : zHp} {n : Nat} {x : Int32} {y : zPr} (hE : rE m n) (hR : rR m n y) (H : zE none d zm_X8_readLine 92 [.ref 71, .int x] [] m r h') : ∃ m1, r = none ∧ h' = zhp m1 ∧ zfR m m1 ∧ rR m1 n (pBd (m 75) n y) := by
  match y, hR with
  | .inl f, hR =>
    obtain ⟨x1, x2⟩ := rl_endF hR H
    exact ⟨m, x1, x2, fun _ _ _ _ => rfl, hR⟩
  | .inr q, hR =>
    obtain ⟨hV, hpn, hC | ⟨hk, hF⟩⟩ := hR
    · by_cases h3 : tK (m 75) n q.2 = 3
      · obtain ⟨m1, x1, x2, x3, x4⟩ := rl_end3 hE hpn hC h3 H
        refine ⟨m1, x1, x2, zfR_g x3, ?_⟩
        rw [show pBd (m 75) n (.inr q) = .inr (q.1, tN (m 75) n q.2) by show pEnd _ _ _ _ = _; rw [pEnd, if_pos h3]]
        exact ⟨rV_g hV x3, x4⟩
      · obtain ⟨m1, x1, x2, x3, x4⟩ := rl_end2 hC h3 H
        refine ⟨m1, x1, x2, zfR_g x3, ?_⟩
        rw [show pBd (m 75) n (.inr q) = .inl (2, tS (m 75) n q.2) by show pEnd _ _ _ _ = _; rw [pEnd, if_neg h3, zft, zfk, if_neg hC.1]]
        exact x4
    · obtain ⟨x1, x2⟩ := rl_endF hF H
      refine ⟨m, x1, x2, fun _ _ _ _ => rfl, ?_⟩
      rw [show pBd (m 75) n (.inr q) = .inl (1, tS (m 75) n q.2) by show pEnd _ _ _ _ = _; rw [pEnd, if_neg (by rw [hk]; decide), zft, zfk, if_pos hk]]
      exact hF
theorem rl_75F {d : Nat} {m : zM} {r : Option Value} {h' : zHp} {f : Int32 × Nat} {x : Int32} (hF : rF m f) (H : zE none d zm_X8_readLine 75 [.ref 71, .int x] [] m r h') : r = none ∧ h' = zhp m := by
  replace H := i_aln (q := 76) H I_X8_readLine_75 rfl rfl
  have W := i_cv0 1 (q := 79) H I_X8_readLine_76 K_8_97 Zm_120 rfl rfl
  clear H
  obtain ⟨r1, h1, Hc, K1, K2⟩ := W
  obtain ⟨e1, e2⟩ := t_X8_step0 (rF_p hF) Hc
  have H := K2 _ e1 e2
  clear e1 e2 Hc K1 K2
  replace H := i_aln (q := 80) H I_X8_readLine_79 rfl rfl
  replace H := i_gfi (q := 83) H I_X8_readLine_80 G_8_63 cn_X8_readLine LY_71 rfl rfl
  have W := i_if_le (t := 87) (q := 86) H I_X8_readLine_83 (by decide) rfl
  clear H
  rcases W with ⟨c_83, H⟩ | ⟨c_83, H⟩
  · skip
    exact absurd (rF_p hF) c_83
  · skip
    obtain ⟨hr, hh⟩ := i_rt H I_X8_readLine_86
    exact ⟨hr, hh⟩
theorem rl_75 {d : Nat} {m : zM} {r : Option Value} {h' : zHp} {n p c w : Nat} {g : Nat → Int32} {sT pT : Bool} {sb : Int32} (hE : rE m n) (h0 : m 71 10 = 0) (h12 : m 71 12 = Int32.ofNat p) (hpn : p ≤ n) (hV : rV m c g sT pT sb) (hw : rOk c g sT pT w) (H : zE none d zm_X8_readLine 75 [.ref 71, .int (Int32.ofNat w)] [] m r h') : ∃ m1, r = none ∧ h' = zhp m1 ∧ zfR m m1 ∧ rR m1 n (pBd (m 75) n (pMore (m 75) n (c, g, sT, pT, sb) w p)) := by
  replace H := i_aln (q := 76) H I_X8_readLine_75 rfl rfl
  have W := i_cv0 1 (q := 79) H I_X8_readLine_76 K_8_97 Zm_120 rfl rfl
  clear H
  obtain ⟨r1, h1, Hc, K1, K2⟩ := W
  obtain ⟨M_76, e1, e2, F_76⟩ := t_step1 (n := n) (p := p) hE h0 h12 hpn Hc
  have H := K2 _ e1 e2
  clear e1 e2 Hc K1 K2
  replace H := i_aln (q := 80) H I_X8_readLine_79 rfl rfl
  replace H := i_gfi (q := 83) H I_X8_readLine_80 G_8_63 cn_X8_readLine LY_71 rfl rfl
  have W := i_if_le (t := 87) (q := 86) H I_X8_readLine_83 (by decide) rfl
  clear H
  rcases W with ⟨c_83, H⟩ | ⟨c_83, H⟩
  · skip
    replace H := i_aln (q := 88) H I_X8_readLine_87 rfl rfl
    replace H := i_iln (q := 89) H I_X8_readLine_88 rfl rfl
    have W := i_cv1 1 (q := 92) H I_X8_readLine_89 K_8_122 Zm_123 rfl rfl
    clear H
    obtain ⟨r1, h1, Hc, K1, K2⟩ := W
    obtain ⟨M_89, e1, e2, F_89⟩ := t_X8_readMore (rE_f hE (zfR_g F_76.2)) F_76.1 (rV_g hV F_76.2) hw Hc
    have H := K2 _ e1 e2
    clear e1 e2 Hc K1 K2
    obtain ⟨x1, x2⟩ := F_76
    have e5 : M_76 75 = m 75 := by funext b; exact x2 75 b (by omega)
    obtain ⟨y1, y2⟩ := F_89
    have e6 : M_89 75 = m 75 := by rw [zfR_5 y1, e5]
    obtain ⟨m1, z1, z2, z3, z4⟩ := rl_end (rE_f (rE_f hE (zfR_g x2)) y1) y2 H
    rw [e6, e5] at z4
    exact ⟨m1, z1, z2, zfR_t (zfR_g x2) (zfR_t y1 z3), z4⟩
  · skip
    obtain ⟨hr, hh⟩ := i_rt H I_X8_readLine_86
    obtain ⟨x1, x2⟩ := F_76
    have e5 : M_76 75 = m 75 := by funext b; exact x2 75 b (by omega)
    obtain ⟨hpn, hC | ⟨hk, hF⟩⟩ := x1
    · rw [hC.2.1] at c_83
      exact absurd c_83 (by decide)
    · rw [e5] at hk hF
      refine ⟨_, hr, hh, zfR_g x2, ?_⟩
      rw [pMore_4 hk]
      exact hF
theorem rl_no {d : Nat} {m : zM} {r : Option Value} {h' : zHp} {n p : Nat} (hC : rC0 m n p) (hN : ∀ d r h', zE none d zm_X8_nameHere 0 [.ref 71, .null, .null, .null] [] m r h' → r = some (.int (-4)) ∧ h' = zhp m) (H : zE none d zm_X8_readLine 0 [.ref 71, .null] [] m r h') : ∃ m1, r = none ∧ h' = zhp m1 ∧ zfR m m1 ∧ rF m1 (2, tS (m 75) n p) := by
  obtain ⟨k4, h0, h12, h13, h14, h15⟩ := hC
  replace H := i_aln (q := 1) H I_X8_readLine_0 rfl rfl
  have W := i_cv0 3 (q := 4) H I_X8_readLine_1 K_8_113 Zm_119 rfl rfl
  clear H
  obtain ⟨r1, h1, Hc, K1, K2⟩ := W
  obtain ⟨e1, e2⟩ := hN _ _ _ Hc
  have H := K1 _ _ e1 e2
  clear e1 e2 Hc K1 K2
  replace H := i_isn (q := 5) H I_X8_readLine_4 rfl rfl
  replace H := i_iln (q := 6) H I_X8_readLine_5 rfl rfl
  replace H := i_i2l (q := 7) H I_X8_readLine_6 rfl
  replace H := i_lcst (x := 0) (q := 8) H I_X8_readLine_7 (by decide) rfl
  replace H := i_ldc2 (x := 6) (q := 11) H I_X8_readLine_8 J_8_117 (by decide) rfl
  replace H := i_in (q := 14) H I_X8_readLine_11 K_8_55 rfl
  have W := i_if_ne (t := 23) (q := 17) H I_X8_readLine_14 (by decide) rfl
  clear H
  rcases W with ⟨c_14, H⟩ | ⟨c_14, H⟩
  · exact absurd (by decide) c_14
  · skip
    replace H := i_aln (q := 18) H I_X8_readLine_17 rfl rfl
    replace H := i_icst (x := 2) (q := 19) H I_X8_readLine_18 (by decide) rfl
    have W := i_cv1 0 (q := 22) H I_X8_readLine_19 K_8_93 Zm_118 rfl rfl
    clear H
    obtain ⟨r1, h1, Hc, K1, K2⟩ := W
    obtain ⟨e1, e2⟩ := t_fails0 h0 Hc
    have H := K2 _ e1 e2
    clear e1 e2 Hc K1 K2
    obtain ⟨hr, hh⟩ := i_rt H I_X8_readLine_22
    refine ⟨_, hr, hh, fun a b x y => by rw [zup_n (by omega), zup_n (by omega)], ?_⟩
    exact ⟨by rw [zup_n (by omega), zup_s], by rw [zup_s, h13], (show (0 : Int32) < 2 by decide)⟩
theorem zin_06 {w : Nat} (h : w < 7) : zin64 (Int32.ofNat w).toInt64 0 6 = 1 := by
  rcases (by omega : w = 0 ∨ w = 1 ∨ w = 2 ∨ w = 3 ∨ w = 4 ∨ w = 5 ∨ w = 6) with rfl | rfl | rfl | rfl | rfl | rfl | rfl <;> decide
theorem told_m {m : zM} {c w : Nat} {g : Nat → Int32} {sT pT : Bool} {sb : Int32} (hV : rV m c g sT pT sb) (hw : w < 7) : rV (zup m 71 5 (m 71 5 ||| ((1 : Int32) <<< (Int32.ofNat w &&& 31)))) c g (sT || decide (w = 5)) (pT || decide (w = 6)) sb := by
  obtain ⟨q1, q2, q3, ⟨τ, t1, t2, t3, t4⟩, q5, a, a1, a2, a3⟩ := hV
  obtain ⟨u1, u2, u3, u4⟩ := told_ok τ t1 w hw
  refine ⟨by rw [zup_n (by omega)]; exact q1, q2, fun k hk => by rw [zup_n (by omega)]; exact q3 k hk, ⟨τ ||| 2 ^ w, u2, by rw [zup_s, t2, u1], ?_, ?_⟩, by rw [zup_n (by omega)]; exact q5, a, a1, a2, fun h => a3 ?_⟩
  · rw [u3, t3]
    by_cases h : w = 5
    · simp [h, zbi]
    · simp [h]
  · rw [u4, t4]
    by_cases h : w = 6
    · simp [h, zbi]
    · simp [h]
  · cases pT with
    | false => rfl
    | true => simp at h
theorem rl_five {d : Nat} {m : zM} {r : Option Value} {h' : zHp} {n p c w : Nat} {g : Nat → Int32} {sT pT : Bool} {sb : Int32} (hE : rE m n) (hpn : p ≤ n) (hC : rC0 m n p) (hV : rV m c g sT pT sb) (hk : tK (m 75) n p = 1) (hw : zword (m 75) (tS (m 75) n p) (tN (m 75) n p) = w) (h7 : w < 7) (h4 : w < 4) (h5 : c = 5) (H : zE none d zm_X8_readLine 0 [.ref 71, .null] [] m r h') : ∃ m1, r = none ∧ h' = zhp m1 ∧ zfR m m1 ∧ rF m1 (5, tS (m 75) n p) := by
  obtain ⟨k4, h0, h12, h13, h14, h15⟩ := hC
  have hN : ∀ d r h', zE none d zm_X8_nameHere 0 [.ref 71, .null, .null, .null] [] m r h' → r = some (.int (Int32.ofNat w)) ∧ h' = zhp m := fun d r h' H => by
    obtain ⟨x, y⟩ := t_X8_nameHere hE.2.2.2 (h14.trans hk) h13 h12 tN_ge (tN_le hpn) hE.1 hE.2.1 H
    rw [hw, znm, if_neg (by omega)] at x
    exact ⟨x, y⟩
  replace H := i_aln (q := 1) H I_X8_readLine_0 rfl rfl
  have W := i_cv0 3 (q := 4) H I_X8_readLine_1 K_8_113 Zm_119 rfl rfl
  clear H
  obtain ⟨r1, h1, Hc, K1, K2⟩ := W
  obtain ⟨e1, e2⟩ := hN _ _ _ Hc
  have H := K1 _ _ e1 e2
  clear e1 e2 Hc K1 K2
  replace H := i_isn (q := 5) H I_X8_readLine_4 rfl rfl
  replace H := i_iln (q := 6) H I_X8_readLine_5 rfl rfl
  replace H := i_i2l (q := 7) H I_X8_readLine_6 rfl
  replace H := i_lcst (x := 0) (q := 8) H I_X8_readLine_7 (by decide) rfl
  replace H := i_ldc2 (x := 6) (q := 11) H I_X8_readLine_8 J_8_117 (by decide) rfl
  replace H := i_in (q := 14) H I_X8_readLine_11 K_8_55 rfl
  have W := i_if_ne (t := 23) (q := 17) H I_X8_readLine_14 (by decide) rfl
  clear H
  rcases W with ⟨c_14, H⟩ | ⟨c_14, H⟩
  · skip
    replace H := i_iln (q := 24) H I_X8_readLine_23 rfl rfl
    replace H := i_icst (x := 3) (q := 25) H I_X8_readLine_24 (by decide) rfl
    have W := i_ic_gt (t := 41) (q := 28) H I_X8_readLine_25 (by decide) rfl
    clear H
    rcases W with ⟨c_25, H⟩ | ⟨c_25, H⟩
    · exact absurd ((zofn_lt (i := 3) (j := w) (by omega) (by omega)).mp c_25) (by omega)
    · skip
      replace H := i_aln (q := 29) H I_X8_readLine_28 rfl rfl
      replace H := i_gfi (q := 32) H I_X8_readLine_29 G_8_107 cn_X8_readLine LY_71 rfl rfl
      replace H := i_icst (x := 5) (q := 33) H I_X8_readLine_32 (by decide) rfl
      have W := i_ic_ne (t := 41) (q := 36) H I_X8_readLine_33 (by decide) rfl
      clear H
      rcases W with ⟨c_33, H⟩ | ⟨c_33, H⟩
      · rw [hV.1, h5] at c_33
        exact absurd rfl c_33
      · skip
        replace H := i_aln (q := 37) H I_X8_readLine_36 rfl rfl
        replace H := i_icst (x := 5) (q := 38) H I_X8_readLine_37 (by decide) rfl
        have W := i_cv1 0 (q := 41) H I_X8_readLine_38 K_8_93 Zm_118 rfl rfl
        clear H
        obtain ⟨r1, h1, Hc, K1, K2⟩ := W
        obtain ⟨e1, e2⟩ := t_fails0 h0 Hc
        have H := K2 _ e1 e2
        clear e1 e2 Hc K1 K2
        replace H := i_iln (q := 42) H I_X8_readLine_41 rfl rfl
        replace H := i_icst (x := 5) (q := 43) H I_X8_readLine_42 (by decide) rfl
        have W := i_ic_lt (t := 63) (q := 46) H I_X8_readLine_43 (by decide) rfl
        clear H
        rcases W with ⟨c_43, H⟩ | ⟨c_43, H⟩
        · skip
          replace H := i_aln (q := 64) H I_X8_readLine_63 rfl rfl
          replace H := i_dup (q := 65) H I_X8_readLine_64 rfl rfl
          replace H := i_gfi (q := 68) H I_X8_readLine_65 G_8_119 cn_X8_readLine LY_71 rfl rfl
          replace H := i_icst (x := 1) (q := 69) H I_X8_readLine_68 (by decide) rfl
          replace H := i_iln (q := 70) H I_X8_readLine_69 rfl rfl
          replace H := i_ishl (q := 71) H I_X8_readLine_70 rfl
          replace H := i_ior (q := 72) H I_X8_readLine_71 rfl
          replace H := i_pf (q := 75) H I_X8_readLine_72 G_8_119 cn_X8_readLine LY_71 rfl rfl
          generalize hQ : zup (zup (zup m 71 10 5) 71 11 (m 71 13)) 71 5 _ = Q at H
          have hF : rF Q (5, tS (m 75) n p) := by
            rw [← hQ]
            exact ⟨by rw [zup_n (by omega), zup_n (by omega), zup_s], by rw [zup_n (by omega), zup_s, h13], (show (0 : Int32) < 5 by decide)⟩
          obtain ⟨x1, x2⟩ := rl_75F hF H
          exact ⟨Q, x1, x2, fun a b x y => by rw [← hQ, zup_n (by omega), zup_n (by omega), zup_n (by omega)], hF⟩
        · exact absurd ((zofn_lt (i := w) (j := 5) (by omega) (by omega)).mpr (by omega)) c_43
  · rw [zin_06 h7] at c_14
    exact absurd c_14 (by decide)
theorem rl_again {d : Nat} {m : zM} {r : Option Value} {h' : zHp} {n p c w : Nat} {g : Nat → Int32} {sT pT : Bool} {sb : Int32} (hE : rE m n) (hpn : p ≤ n) (hC : rC0 m n p) (hV : rV m c g sT pT sb) (hk : tK (m 75) n p = 1) (hw : zword (m 75) (tS (m 75) n p) (tN (m 75) n p) = w) (h7 : w < 7) (h4 : (w = 5 ∧ sT = true) ∨ (w = 6 ∧ pT = true)) (H : zE none d zm_X8_readLine 0 [.ref 71, .null] [] m r h') : ∃ m1, r = none ∧ h' = zhp m1 ∧ zfR m m1 ∧ rF m1 (4, tS (m 75) n p) := by
  obtain ⟨k4, h0, h12, h13, h14, h15⟩ := hC
  have hN : ∀ d r h', zE none d zm_X8_nameHere 0 [.ref 71, .null, .null, .null] [] m r h' → r = some (.int (Int32.ofNat w)) ∧ h' = zhp m := fun d r h' H => by
    obtain ⟨x, y⟩ := t_X8_nameHere hE.2.2.2 (h14.trans hk) h13 h12 tN_ge (tN_le hpn) hE.1 hE.2.1 H
    rw [hw, znm, if_neg (by omega)] at x
    exact ⟨x, y⟩
  replace H := i_aln (q := 1) H I_X8_readLine_0 rfl rfl
  have W := i_cv0 3 (q := 4) H I_X8_readLine_1 K_8_113 Zm_119 rfl rfl
  clear H
  obtain ⟨r1, h1, Hc, K1, K2⟩ := W
  obtain ⟨e1, e2⟩ := hN _ _ _ Hc
  have H := K1 _ _ e1 e2
  clear e1 e2 Hc K1 K2
  replace H := i_isn (q := 5) H I_X8_readLine_4 rfl rfl
  replace H := i_iln (q := 6) H I_X8_readLine_5 rfl rfl
  replace H := i_i2l (q := 7) H I_X8_readLine_6 rfl
  replace H := i_lcst (x := 0) (q := 8) H I_X8_readLine_7 (by decide) rfl
  replace H := i_ldc2 (x := 6) (q := 11) H I_X8_readLine_8 J_8_117 (by decide) rfl
  replace H := i_in (q := 14) H I_X8_readLine_11 K_8_55 rfl
  have W := i_if_ne (t := 23) (q := 17) H I_X8_readLine_14 (by decide) rfl
  clear H
  rcases W with ⟨c_14, H⟩ | ⟨c_14, H⟩
  · skip
    replace H := i_iln (q := 24) H I_X8_readLine_23 rfl rfl
    replace H := i_icst (x := 3) (q := 25) H I_X8_readLine_24 (by decide) rfl
    have W := i_ic_gt (t := 41) (q := 28) H I_X8_readLine_25 (by decide) rfl
    clear H
    rcases W with ⟨c_25, H⟩ | ⟨c_25, H⟩
    · skip
      replace H := i_iln (q := 42) H I_X8_readLine_41 rfl rfl
      replace H := i_icst (x := 5) (q := 43) H I_X8_readLine_42 (by decide) rfl
      have W := i_ic_lt (t := 63) (q := 46) H I_X8_readLine_43 (by decide) rfl
      clear H
      rcases W with ⟨c_43, H⟩ | ⟨c_43, H⟩
      · exact absurd ((zofn_lt (i := w) (j := 5) (by omega) (by omega)).mp c_43) (by omega)
      · skip
        replace H := i_aln (q := 47) H I_X8_readLine_46 rfl rfl
        replace H := i_gfi (q := 50) H I_X8_readLine_47 G_8_119 cn_X8_readLine LY_71 rfl rfl
        replace H := i_iln (q := 51) H I_X8_readLine_50 rfl rfl
        replace H := i_ishr (q := 52) H I_X8_readLine_51 rfl
        replace H := i_icst (x := 1) (q := 53) H I_X8_readLine_52 (by decide) rfl
        replace H := i_iand (q := 54) H I_X8_readLine_53 rfl
        replace H := i_icst (x := 1) (q := 55) H I_X8_readLine_54 (by decide) rfl
        have W := i_ic_ne (t := 63) (q := 58) H I_X8_readLine_55 (by decide) rfl
        clear H
        rcases W with ⟨c_55, H⟩ | ⟨c_55, H⟩
        · obtain ⟨q1, q2, q3, ⟨τ, t1, t2, t3, t4⟩, q5, q6⟩ := hV
          rw [t2] at c_55
          rcases h4 with ⟨rfl, rfl⟩ | ⟨rfl, rfl⟩
          · exact absurd t3 c_55
          · exact absurd t4 c_55
        · skip
          replace H := i_aln (q := 59) H I_X8_readLine_58 rfl rfl
          replace H := i_icst (x := 4) (q := 60) H I_X8_readLine_59 (by decide) rfl
          have W := i_cv1 0 (q := 63) H I_X8_readLine_60 K_8_93 Zm_118 rfl rfl
          clear H
          obtain ⟨r1, h1, Hc, K1, K2⟩ := W
          obtain ⟨e1, e2⟩ := t_fails0 h0 Hc
          have H := K2 _ e1 e2
          clear e1 e2 Hc K1 K2
          replace H := i_aln (q := 64) H I_X8_readLine_63 rfl rfl
          replace H := i_dup (q := 65) H I_X8_readLine_64 rfl rfl
          replace H := i_gfi (q := 68) H I_X8_readLine_65 G_8_119 cn_X8_readLine LY_71 rfl rfl
          replace H := i_icst (x := 1) (q := 69) H I_X8_readLine_68 (by decide) rfl
          replace H := i_iln (q := 70) H I_X8_readLine_69 rfl rfl
          replace H := i_ishl (q := 71) H I_X8_readLine_70 rfl
          replace H := i_ior (q := 72) H I_X8_readLine_71 rfl
          replace H := i_pf (q := 75) H I_X8_readLine_72 G_8_119 cn_X8_readLine LY_71 rfl rfl
          generalize hQ : zup (zup (zup m 71 10 4) 71 11 (m 71 13)) 71 5 _ = Q at H
          have hF : rF Q (4, tS (m 75) n p) := by
            rw [← hQ]
            exact ⟨by rw [zup_n (by omega), zup_n (by omega), zup_s], by rw [zup_n (by omega), zup_s, h13], (show (0 : Int32) < 4 by decide)⟩
          obtain ⟨x1, x2⟩ := rl_75F hF H
          exact ⟨Q, x1, x2, fun a b x y => by rw [← hQ, zup_n (by omega), zup_n (by omega), zup_n (by omega)], hF⟩
    · exact absurd ((zofn_lt (i := 3) (j := w) (by omega) (by omega)).mpr (by omega)) c_25
  · rw [zin_06 h7] at c_14
    exact absurd c_14 (by decide)
theorem rl_ok {d : Nat} {m : zM} {r : Option Value} {h' : zHp} {n p c w : Nat} {g : Nat → Int32} {sT pT : Bool} {sb : Int32} (hE : rE m n) (hpn : p ≤ n) (hC : rC0 m n p) (hV : rV m c g sT pT sb) (hk : tK (m 75) n p = 1) (hw : zword (m 75) (tS (m 75) n p) (tN (m 75) n p) = w) (h7 : w < 7) (hnf : w < 4 → ¬ c = 5) (hns : w = 5 → sT = false) (hnp : w = 6 → pT = false) (H : zE none d zm_X8_readLine 0 [.ref 71, .null] [] m r h') : ∃ m1, r = none ∧ h' = zhp m1 ∧ zfR m m1 ∧ rR m1 n (pBd (m 75) n (pMore (m 75) n (c, g, sT || decide (w = 5), pT || decide (w = 6), sb) w (tN (m 75) n p))) := by
  obtain ⟨k4, h0, h12, h13, h14, h15⟩ := hC
  have hN : ∀ d r h', zE none d zm_X8_nameHere 0 [.ref 71, .null, .null, .null] [] m r h' → r = some (.int (Int32.ofNat w)) ∧ h' = zhp m := fun d r h' H => by
    obtain ⟨x, y⟩ := t_X8_nameHere hE.2.2.2 (h14.trans hk) h13 h12 tN_ge (tN_le hpn) hE.1 hE.2.1 H
    rw [hw, znm, if_neg (by omega)] at x
    exact ⟨x, y⟩
  have hok : rOk c g (sT || decide (w = 5)) (pT || decide (w = 6)) w := by
    refine ⟨h7, fun h => ?_, fun h => by simp [h], fun h => ⟨by simp [h], ?_⟩⟩
    · have := hnf h
      have := hV.2.1
      omega
    · obtain ⟨q1, q2, q3, q4, q5, a, a1, a2, a3⟩ := hV
      rw [a2, a3 (hnp h)]
  replace H := i_aln (q := 1) H I_X8_readLine_0 rfl rfl
  have W := i_cv0 3 (q := 4) H I_X8_readLine_1 K_8_113 Zm_119 rfl rfl
  clear H
  obtain ⟨r1, h1, Hc, K1, K2⟩ := W
  obtain ⟨e1, e2⟩ := hN _ _ _ Hc
  have H := K1 _ _ e1 e2
  clear e1 e2 Hc K1 K2
  replace H := i_isn (q := 5) H I_X8_readLine_4 rfl rfl
  replace H := i_iln (q := 6) H I_X8_readLine_5 rfl rfl
  replace H := i_i2l (q := 7) H I_X8_readLine_6 rfl
  replace H := i_lcst (x := 0) (q := 8) H I_X8_readLine_7 (by decide) rfl
  replace H := i_ldc2 (x := 6) (q := 11) H I_X8_readLine_8 J_8_117 (by decide) rfl
  replace H := i_in (q := 14) H I_X8_readLine_11 K_8_55 rfl
  have W := i_if_ne (t := 23) (q := 17) H I_X8_readLine_14 (by decide) rfl
  clear H
  rcases W with ⟨c_14, H⟩ | ⟨c_14, H⟩
  · skip
    replace H := i_iln (q := 24) H I_X8_readLine_23 rfl rfl
    replace H := i_icst (x := 3) (q := 25) H I_X8_readLine_24 (by decide) rfl
    have W := i_ic_gt (t := 41) (q := 28) H I_X8_readLine_25 (by decide) rfl
    clear H
    rcases W with ⟨c_25, H⟩ | ⟨c_25, H⟩
    · skip
      replace H := i_iln (q := 42) H I_X8_readLine_41 rfl rfl
      replace H := i_icst (x := 5) (q := 43) H I_X8_readLine_42 (by decide) rfl
      have W := i_ic_lt (t := 63) (q := 46) H I_X8_readLine_43 (by decide) rfl
      clear H
      rcases W with ⟨c_43, H⟩ | ⟨c_43, H⟩
      · skip
        replace H := i_aln (q := 64) H I_X8_readLine_63 rfl rfl
        replace H := i_dup (q := 65) H I_X8_readLine_64 rfl rfl
        replace H := i_gfi (q := 68) H I_X8_readLine_65 G_8_119 cn_X8_readLine LY_71 rfl rfl
        replace H := i_icst (x := 1) (q := 69) H I_X8_readLine_68 (by decide) rfl
        replace H := i_iln (q := 70) H I_X8_readLine_69 rfl rfl
        replace H := i_ishl (q := 71) H I_X8_readLine_70 rfl
        replace H := i_ior (q := 72) H I_X8_readLine_71 rfl
        replace H := i_pf (q := 75) H I_X8_readLine_72 G_8_119 cn_X8_readLine LY_71 rfl rfl
        obtain ⟨m1, x1, x2, x3, x4⟩ := rl_75 (p := tN (m 75) n p) (rE_f hE (fun a b x y => by rw [zup_n (by omega)])) (by rw [zup_n (by omega)]; exact h0) (by rw [zup_n (by omega)]; exact h12) (tN_le hpn) (told_m hV h7) hok H
        rw [show zup m 71 5 (m 71 5 ||| ((1 : Int32) <<< (Int32.ofNat w &&& 31))) 75 = m 75 from by funext b; rw [zup_n (by omega)]] at x4
        exact ⟨m1, x1, x2, zfR_t (fun a b x y => by rw [zup_n (by omega)]) x3, x4⟩
      · skip
        replace H := i_aln (q := 47) H I_X8_readLine_46 rfl rfl
        replace H := i_gfi (q := 50) H I_X8_readLine_47 G_8_119 cn_X8_readLine LY_71 rfl rfl
        replace H := i_iln (q := 51) H I_X8_readLine_50 rfl rfl
        replace H := i_ishr (q := 52) H I_X8_readLine_51 rfl
        replace H := i_icst (x := 1) (q := 53) H I_X8_readLine_52 (by decide) rfl
        replace H := i_iand (q := 54) H I_X8_readLine_53 rfl
        replace H := i_icst (x := 1) (q := 55) H I_X8_readLine_54 (by decide) rfl
        have W := i_ic_ne (t := 63) (q := 58) H I_X8_readLine_55 (by decide) rfl
        clear H
        rcases W with ⟨c_55, H⟩ | ⟨c_55, H⟩
        · skip
          replace H := i_aln (q := 64) H I_X8_readLine_63 rfl rfl
          replace H := i_dup (q := 65) H I_X8_readLine_64 rfl rfl
          replace H := i_gfi (q := 68) H I_X8_readLine_65 G_8_119 cn_X8_readLine LY_71 rfl rfl
          replace H := i_icst (x := 1) (q := 69) H I_X8_readLine_68 (by decide) rfl
          replace H := i_iln (q := 70) H I_X8_readLine_69 rfl rfl
          replace H := i_ishl (q := 71) H I_X8_readLine_70 rfl
          replace H := i_ior (q := 72) H I_X8_readLine_71 rfl
          replace H := i_pf (q := 75) H I_X8_readLine_72 G_8_119 cn_X8_readLine LY_71 rfl rfl
          obtain ⟨m1, x1, x2, x3, x4⟩ := rl_75 (p := tN (m 75) n p) (rE_f hE (fun a b x y => by rw [zup_n (by omega)])) (by rw [zup_n (by omega)]; exact h0) (by rw [zup_n (by omega)]; exact h12) (tN_le hpn) (told_m hV h7) hok H
          rw [show zup m 71 5 (m 71 5 ||| ((1 : Int32) <<< (Int32.ofNat w &&& 31))) 75 = m 75 from by funext b; rw [zup_n (by omega)]] at x4
          exact ⟨m1, x1, x2, zfR_t (fun a b x y => by rw [zup_n (by omega)]) x3, x4⟩
        · obtain ⟨q1, q2, q3, ⟨τ, t1, t2, t3, t4⟩, q5, q6⟩ := hV
          rw [t2] at c_55
          have h5 : ¬ w < 5 := fun q => c_43 ((zofn_lt (i := w) (j := 5) (by omega) (by omega)).mpr q)
          rcases (by omega : w = 5 ∨ w = 6) with rfl | rfl
          · rw [show sT = false from hns rfl] at t3
            exact absurd (t3.symm.trans c_55) (by decide)
          · rw [show pT = false from hnp rfl] at t4
            exact absurd (t4.symm.trans c_55) (by decide)
    · skip
      replace H := i_aln (q := 29) H I_X8_readLine_28 rfl rfl
      replace H := i_gfi (q := 32) H I_X8_readLine_29 G_8_107 cn_X8_readLine LY_71 rfl rfl
      replace H := i_icst (x := 5) (q := 33) H I_X8_readLine_32 (by decide) rfl
      have W := i_ic_ne (t := 41) (q := 36) H I_X8_readLine_33 (by decide) rfl
      clear H
      rcases W with ⟨c_33, H⟩ | ⟨c_33, H⟩
      · skip
        replace H := i_iln (q := 42) H I_X8_readLine_41 rfl rfl
        replace H := i_icst (x := 5) (q := 43) H I_X8_readLine_42 (by decide) rfl
        have W := i_ic_lt (t := 63) (q := 46) H I_X8_readLine_43 (by decide) rfl
        clear H
        rcases W with ⟨c_43, H⟩ | ⟨c_43, H⟩
        · skip
          replace H := i_aln (q := 64) H I_X8_readLine_63 rfl rfl
          replace H := i_dup (q := 65) H I_X8_readLine_64 rfl rfl
          replace H := i_gfi (q := 68) H I_X8_readLine_65 G_8_119 cn_X8_readLine LY_71 rfl rfl
          replace H := i_icst (x := 1) (q := 69) H I_X8_readLine_68 (by decide) rfl
          replace H := i_iln (q := 70) H I_X8_readLine_69 rfl rfl
          replace H := i_ishl (q := 71) H I_X8_readLine_70 rfl
          replace H := i_ior (q := 72) H I_X8_readLine_71 rfl
          replace H := i_pf (q := 75) H I_X8_readLine_72 G_8_119 cn_X8_readLine LY_71 rfl rfl
          obtain ⟨m1, x1, x2, x3, x4⟩ := rl_75 (p := tN (m 75) n p) (rE_f hE (fun a b x y => by rw [zup_n (by omega)])) (by rw [zup_n (by omega)]; exact h0) (by rw [zup_n (by omega)]; exact h12) (tN_le hpn) (told_m hV h7) hok H
          rw [show zup m 71 5 (m 71 5 ||| ((1 : Int32) <<< (Int32.ofNat w &&& 31))) 75 = m 75 from by funext b; rw [zup_n (by omega)]] at x4
          exact ⟨m1, x1, x2, zfR_t (fun a b x y => by rw [zup_n (by omega)]) x3, x4⟩
        · skip
          replace H := i_aln (q := 47) H I_X8_readLine_46 rfl rfl
          replace H := i_gfi (q := 50) H I_X8_readLine_47 G_8_119 cn_X8_readLine LY_71 rfl rfl
          replace H := i_iln (q := 51) H I_X8_readLine_50 rfl rfl
          replace H := i_ishr (q := 52) H I_X8_readLine_51 rfl
          replace H := i_icst (x := 1) (q := 53) H I_X8_readLine_52 (by decide) rfl
          replace H := i_iand (q := 54) H I_X8_readLine_53 rfl
          replace H := i_icst (x := 1) (q := 55) H I_X8_readLine_54 (by decide) rfl
          have W := i_ic_ne (t := 63) (q := 58) H I_X8_readLine_55 (by decide) rfl
          clear H
          rcases W with ⟨c_55, H⟩ | ⟨c_55, H⟩
          · skip
            replace H := i_aln (q := 64) H I_X8_readLine_63 rfl rfl
            replace H := i_dup (q := 65) H I_X8_readLine_64 rfl rfl
            replace H := i_gfi (q := 68) H I_X8_readLine_65 G_8_119 cn_X8_readLine LY_71 rfl rfl
            replace H := i_icst (x := 1) (q := 69) H I_X8_readLine_68 (by decide) rfl
            replace H := i_iln (q := 70) H I_X8_readLine_69 rfl rfl
            replace H := i_ishl (q := 71) H I_X8_readLine_70 rfl
            replace H := i_ior (q := 72) H I_X8_readLine_71 rfl
            replace H := i_pf (q := 75) H I_X8_readLine_72 G_8_119 cn_X8_readLine LY_71 rfl rfl
            obtain ⟨m1, x1, x2, x3, x4⟩ := rl_75 (p := tN (m 75) n p) (rE_f hE (fun a b x y => by rw [zup_n (by omega)])) (by rw [zup_n (by omega)]; exact h0) (by rw [zup_n (by omega)]; exact h12) (tN_le hpn) (told_m hV h7) hok H
            rw [show zup m 71 5 (m 71 5 ||| ((1 : Int32) <<< (Int32.ofNat w &&& 31))) 75 = m 75 from by funext b; rw [zup_n (by omega)]] at x4
            exact ⟨m1, x1, x2, zfR_t (fun a b x y => by rw [zup_n (by omega)]) x3, x4⟩
          · obtain ⟨q1, q2, q3, ⟨τ, t1, t2, t3, t4⟩, q5, q6⟩ := hV
            rw [t2] at c_55
            have h5 : ¬ w < 5 := fun q => c_43 ((zofn_lt (i := w) (j := 5) (by omega) (by omega)).mpr q)
            rcases (by omega : w = 5 ∨ w = 6) with rfl | rfl
            · rw [show sT = false from hns rfl] at t3
              exact absurd (t3.symm.trans c_55) (by decide)
            · rw [show pT = false from hnp rfl] at t4
              exact absurd (t4.symm.trans c_55) (by decide)
      · rw [hV.1] at c_33
        have := zofn (j := 5) c_33 (by have := hV.2.1; omega) (by decide)
        have h3 : ¬ 3 < w := fun q => c_25 ((zofn_lt (i := 3) (j := w) (by omega) (by omega)).mpr q)
        exact absurd this (hnf (by omega))
  · rw [zin_06 h7] at c_14
    exact absurd c_14 (by decide)
theorem t_X8_readLine {d : Nat} {m : zM} {r : Option Value} {h' : zHp} {n p c : Nat} {g : Nat → Int32} {sT pT : Bool} {sb : Int32} (hE : rE m n) (hpn : p ≤ n) (hC : rC0 m n p) (hV : rV m c g sT pT sb) (H : zE none d zm_X8_readLine 0 [.ref 71, .null] [] m r h') : ∃ m1, r = none ∧ h' = zhp m1 ∧ zfR m m1 ∧ rR m1 n (pLn (m 75) n (c, g, sT, pT, sb) p) := by
  by_cases hk : tK (m 75) n p = 1
  · obtain ⟨w, hw⟩ : ∃ w, zword (m 75) (tS (m 75) n p) (tN (m 75) n p) = w := ⟨_, rfl⟩
    have hw7 : w ≤ 7 := by rw [← hw]; exact zword_le
    rw [pLn, if_pos hk]
    simp only [hw]
    by_cases h7 : w = 7
    · subst h7
      rw [if_neg (by omega), if_neg (by omega), if_neg (by omega), if_neg (by omega)]
      have hC2 := hC
      obtain ⟨k4, h0, h12, h13, h14, h15⟩ := hC2
      exact rl_no hC (fun d r h' H => by
        obtain ⟨x, y⟩ := t_X8_nameHere hE.2.2.2 (h14.trans hk) h13 h12 tN_ge (tN_le hpn) hE.1 hE.2.1 H
        rw [hw, znm, if_pos rfl] at x
        exact ⟨x, y⟩) H
    · have h7 : w < 7 := by omega
      by_cases h4 : w < 4
      · rw [if_pos h4]
        by_cases hc : c = 5
        · rw [pOne, if_pos hc]
          exact rl_five hE hpn hC hV hk hw h7 h4 hc H
        · rw [pOne_b _ _ _ _ _ _ h4 hc]
          have := rl_ok hE hpn hC hV hk hw h7 (fun _ => hc) (fun h => by omega) (fun h => by omega) H
          rw [show decide (w = 5) = false from decide_eq_false (by omega), show decide (w = 6) = false from decide_eq_false (by omega), Bool.or_false, Bool.or_false] at this
          exact this
      · rw [if_neg h4]
        rcases (by omega : w = 4 ∨ w = 5 ∨ w = 6) with rfl | rfl | rfl
        · rw [if_pos rfl, pLeft_b]
          have := rl_ok hE hpn hC hV hk hw h7 (fun h => by omega) (fun h => by omega) (fun h => by omega) H
          simp only [show (decide (4 = 5)) = false from rfl, show (decide (4 = 6)) = false from rfl, Bool.or_false] at this
          exact this
        · rw [if_neg (by omega), if_pos rfl]
          by_cases hs : sT = true
          · rw [pSlack, if_pos hs]
            exact rl_again hE hpn hC hV hk hw h7 (Or.inl ⟨rfl, hs⟩) H
          · rw [pSlack_b _ _ _ _ _ hs]
            have := rl_ok hE hpn hC hV hk hw h7 (fun h => by omega) (fun _ => by simpa using hs) (fun h => by omega) H
            simp only [show (decide (5 = 6)) = false from rfl, Bool.or_false] at this
            exact this
        · rw [if_neg (by omega), if_neg (by omega), if_pos rfl]
          by_cases hs : pT = true
          · rw [pPlan, if_pos hs]
            exact rl_again hE hpn hC hV hk hw h7 (Or.inr ⟨rfl, hs⟩) H
          · rw [pPlan_b _ _ _ _ _ hs]
            have := rl_ok hE hpn hC hV hk hw h7 (fun h => by omega) (fun h => by omega) (fun _ => by simpa using hs) H
            simp only [show (decide (6 = 5)) = false from rfl, Bool.or_false] at this
            exact this
  · rw [pLn, if_neg hk, show zft (m 75) n p = (2, tS (m 75) n p) by rw [zft, zfk, if_neg hC.1]]
    exact rl_no hC (fun d r h' H => t_nameHere0 (by rw [hC.2.2.2.2.1]; exact hk) H) H
