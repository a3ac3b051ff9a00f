/-! triesOn -/
theorem I_X8_triesOn_0 : zin zm_X8_triesOn.2.2.2.2.2 0 = some (.bipush (-4), 2) := by rw [It_X8_triesOn]; rfl
theorem I_X8_triesOn_2 : zin zm_X8_triesOn.2.2.2.2.2 2 = some (.istore_n 3, 1) := by rw [It_X8_triesOn]; rfl
theorem I_X8_triesOn_3 : zin zm_X8_triesOn.2.2.2.2.2 3 = some (.aload_n 0, 1) := by rw [It_X8_triesOn]; rfl
theorem I_X8_triesOn_4 : zin zm_X8_triesOn.2.2.2.2.2 4 = some (.getfield 131, 3) := by rw [It_X8_triesOn]; rfl
theorem I_X8_triesOn_7 : zin zm_X8_triesOn.2.2.2.2.2 7 = some (.iconst 1, 1) := by rw [It_X8_triesOn]; rfl
theorem I_X8_triesOn_8 : zin zm_X8_triesOn.2.2.2.2.2 8 = some (.isub, 1) := by rw [It_X8_triesOn]; rfl
theorem I_X8_triesOn_9 : zin zm_X8_triesOn.2.2.2.2.2 9 = some (.istore 4, 2) := by rw [It_X8_triesOn]; rfl
theorem I_X8_triesOn_73 : zin zm_X8_triesOn.2.2.2.2.2 73 = some (.aload_n 0, 1) := by rw [It_X8_triesOn]; rfl
theorem I_X8_triesOn_74 : zin zm_X8_triesOn.2.2.2.2.2 74 = some (.getfield 7, 3) := by rw [It_X8_triesOn]; rfl
theorem I_X8_triesOn_77 : zin zm_X8_triesOn.2.2.2.2.2 77 = some (.iload_n 1, 1) := by rw [It_X8_triesOn]; rfl
theorem I_X8_triesOn_78 : zin zm_X8_triesOn.2.2.2.2.2 78 = some (.bipush 17, 2) := by rw [It_X8_triesOn]; rfl
theorem I_X8_triesOn_80 : zin zm_X8_triesOn.2.2.2.2.2 80 = some (.iadd, 1) := by rw [It_X8_triesOn]; rfl
theorem I_X8_triesOn_81 : zin zm_X8_triesOn.2.2.2.2.2 81 = some (.dup2, 1) := by rw [It_X8_triesOn]; rfl
theorem I_X8_triesOn_82 : zin zm_X8_triesOn.2.2.2.2.2 82 = some (.iaload, 1) := by rw [It_X8_triesOn]; rfl
theorem I_X8_triesOn_83 : zin zm_X8_triesOn.2.2.2.2.2 83 = some (.aload_n 0, 1) := by rw [It_X8_triesOn]; rfl
theorem I_X8_triesOn_84 : zin zm_X8_triesOn.2.2.2.2.2 84 = some (.getfield 7, 3) := by rw [It_X8_triesOn]; rfl
theorem I_X8_triesOn_87 : zin zm_X8_triesOn.2.2.2.2.2 87 = some (.iload_n 1, 1) := by rw [It_X8_triesOn]; rfl
theorem I_X8_triesOn_88 : zin zm_X8_triesOn.2.2.2.2.2 88 = some (.bipush 17, 2) := by rw [It_X8_triesOn]; rfl
theorem I_X8_triesOn_90 : zin zm_X8_triesOn.2.2.2.2.2 90 = some (.iadd, 1) := by rw [It_X8_triesOn]; rfl
theorem I_X8_triesOn_91 : zin zm_X8_triesOn.2.2.2.2.2 91 = some (.iaload, 1) := by rw [It_X8_triesOn]; rfl
theorem I_X8_triesOn_92 : zin zm_X8_triesOn.2.2.2.2.2 92 = some (.sipush 999, 3) := by rw [It_X8_triesOn]; rfl
theorem I_X8_triesOn_95 : zin zm_X8_triesOn.2.2.2.2.2 95 = some (.if_icmp .ge 7, 3) := by rw [It_X8_triesOn]; rfl
theorem I_X8_triesOn_98 : zin zm_X8_triesOn.2.2.2.2.2 98 = some (.iconst 1, 1) := by rw [It_X8_triesOn]; rfl
theorem I_X8_triesOn_99 : zin zm_X8_triesOn.2.2.2.2.2 99 = some (.goto 4, 3) := by rw [It_X8_triesOn]; rfl
theorem I_X8_triesOn_102 : zin zm_X8_triesOn.2.2.2.2.2 102 = some (.iconst 0, 1) := by rw [It_X8_triesOn]; rfl
theorem I_X8_triesOn_103 : zin zm_X8_triesOn.2.2.2.2.2 103 = some (.iadd, 1) := by rw [It_X8_triesOn]; rfl
theorem I_X8_triesOn_104 : zin zm_X8_triesOn.2.2.2.2.2 104 = some (.iastore, 1) := by rw [It_X8_triesOn]; rfl
theorem I_X8_triesOn_105 : zin zm_X8_triesOn.2.2.2.2.2 105 = some (.iload_n 3, 1) := by rw [It_X8_triesOn]; rfl
theorem I_X8_triesOn_106 : zin zm_X8_triesOn.2.2.2.2.2 106 = some (.bipush (-4), 2) := by rw [It_X8_triesOn]; rfl
theorem I_X8_triesOn_108 : zin zm_X8_triesOn.2.2.2.2.2 108 = some (.if_icmp .eq 12, 3) := by rw [It_X8_triesOn]; rfl
theorem I_X8_triesOn_111 : zin zm_X8_triesOn.2.2.2.2.2 111 = some (.aload_n 0, 1) := by rw [It_X8_triesOn]; rfl
theorem I_X8_triesOn_112 : zin zm_X8_triesOn.2.2.2.2.2 112 = some (.iload_n 1, 1) := by rw [It_X8_triesOn]; rfl
theorem I_X8_triesOn_113 : zin zm_X8_triesOn.2.2.2.2.2 113 = some (.iload_n 3, 1) := by rw [It_X8_triesOn]; rfl
theorem I_X8_triesOn_114 : zin zm_X8_triesOn.2.2.2.2.2 114 = some (.invokevirtual 147, 3) := by rw [It_X8_triesOn]; rfl
theorem I_X8_triesOn_117 : zin zm_X8_triesOn.2.2.2.2.2 117 = some (.ifCond .ne 6, 3) := by rw [It_X8_triesOn]; rfl
theorem I_X8_triesOn_120 : zin zm_X8_triesOn.2.2.2.2.2 120 = some (.bipush (-4), 2) := by rw [It_X8_triesOn]; rfl
theorem I_X8_triesOn_122 : zin zm_X8_triesOn.2.2.2.2.2 122 = some (.ireturn, 1) := by rw [It_X8_triesOn]; rfl
theorem I_X8_triesOn_123 : zin zm_X8_triesOn.2.2.2.2.2 123 = some (.aload_n 0, 1) := by rw [It_X8_triesOn]; rfl
theorem I_X8_triesOn_124 : zin zm_X8_triesOn.2.2.2.2.2 124 = some (.iload_n 1, 1) := by rw [It_X8_triesOn]; rfl
theorem I_X8_triesOn_125 : zin zm_X8_triesOn.2.2.2.2.2 125 = some (.iload_n 3, 1) := by rw [It_X8_triesOn]; rfl
theorem I_X8_triesOn_126 : zin zm_X8_triesOn.2.2.2.2.2 126 = some (.invokevirtual 141, 3) := by rw [It_X8_triesOn]; rfl
theorem I_X8_triesOn_129 : zin zm_X8_triesOn.2.2.2.2.2 129 = some (.aload_n 0, 1) := by rw [It_X8_triesOn]; rfl
theorem I_X8_triesOn_130 : zin zm_X8_triesOn.2.2.2.2.2 130 = some (.getfield 13, 3) := by rw [It_X8_triesOn]; rfl
theorem I_X8_triesOn_133 : zin zm_X8_triesOn.2.2.2.2.2 133 = some (.aload_n 0, 1) := by rw [It_X8_triesOn]; rfl
theorem I_X8_triesOn_134 : zin zm_X8_triesOn.2.2.2.2.2 134 = some (.getfield 7, 3) := by rw [It_X8_triesOn]; rfl
theorem I_X8_triesOn_137 : zin zm_X8_triesOn.2.2.2.2.2 137 = some (.iload_n 1, 1) := by rw [It_X8_triesOn]; rfl
theorem I_X8_triesOn_138 : zin zm_X8_triesOn.2.2.2.2.2 138 = some (.iload_n 3, 1) := by rw [It_X8_triesOn]; rfl
theorem I_X8_triesOn_139 : zin zm_X8_triesOn.2.2.2.2.2 139 = some (.iadd, 1) := by rw [It_X8_triesOn]; rfl
theorem I_X8_triesOn_140 : zin zm_X8_triesOn.2.2.2.2.2 140 = some (.iaload, 1) := by rw [It_X8_triesOn]; rfl
theorem I_X8_triesOn_141 : zin zm_X8_triesOn.2.2.2.2.2 141 = some (.iaload, 1) := by rw [It_X8_triesOn]; rfl
theorem I_X8_triesOn_142 : zin zm_X8_triesOn.2.2.2.2.2 142 = some (.iadd, 1) := by rw [It_X8_triesOn]; rfl
theorem I_X8_triesOn_143 : zin zm_X8_triesOn.2.2.2.2.2 143 = some (.istore 4, 2) := by rw [It_X8_triesOn]; rfl
theorem I_X8_triesOn_145 : zin zm_X8_triesOn.2.2.2.2.2 145 = some (.aload_n 0, 1) := by rw [It_X8_triesOn]; rfl
theorem I_X8_triesOn_146 : zin zm_X8_triesOn.2.2.2.2.2 146 = some (.getfield 7, 3) := by rw [It_X8_triesOn]; rfl
theorem I_X8_triesOn_149 : zin zm_X8_triesOn.2.2.2.2.2 149 = some (.aload_n 0, 1) := by rw [It_X8_triesOn]; rfl
theorem I_X8_triesOn_150 : zin zm_X8_triesOn.2.2.2.2.2 150 = some (.iload_n 1, 1) := by rw [It_X8_triesOn]; rfl
theorem I_X8_triesOn_151 : zin zm_X8_triesOn.2.2.2.2.2 151 = some (.iload_n 3, 1) := by rw [It_X8_triesOn]; rfl
theorem I_X8_triesOn_152 : zin zm_X8_triesOn.2.2.2.2.2 152 = some (.invokevirtual 137, 3) := by rw [It_X8_triesOn]; rfl
theorem I_X8_triesOn_155 : zin zm_X8_triesOn.2.2.2.2.2 155 = some (.iload 4, 2) := by rw [It_X8_triesOn]; rfl
theorem I_X8_triesOn_157 : zin zm_X8_triesOn.2.2.2.2.2 157 = some (.bipush 99, 2) := by rw [It_X8_triesOn]; rfl
theorem I_X8_triesOn_159 : zin zm_X8_triesOn.2.2.2.2.2 159 = some (.if_icmp .le 8, 3) := by rw [It_X8_triesOn]; rfl
theorem I_X8_triesOn_162 : zin zm_X8_triesOn.2.2.2.2.2 162 = some (.bipush 99, 2) := by rw [It_X8_triesOn]; rfl
theorem I_X8_triesOn_164 : zin zm_X8_triesOn.2.2.2.2.2 164 = some (.goto 5, 3) := by rw [It_X8_triesOn]; rfl
theorem I_X8_triesOn_167 : zin zm_X8_triesOn.2.2.2.2.2 167 = some (.iload 4, 2) := by rw [It_X8_triesOn]; rfl
theorem I_X8_triesOn_169 : zin zm_X8_triesOn.2.2.2.2.2 169 = some (.iastore, 1) := by rw [It_X8_triesOn]; rfl
theorem I_X8_triesOn_170 : zin zm_X8_triesOn.2.2.2.2.2 170 = some (.iload_n 3, 1) := by rw [It_X8_triesOn]; rfl
theorem I_X8_triesOn_171 : zin zm_X8_triesOn.2.2.2.2.2 171 = some (.ireturn, 1) := by rw [It_X8_triesOn]; rfl
theorem G_8_13 : zlk zfls 8 13 = some (8, 1, 842) := rfl
theorem K_8_147 : zlk zmls 8 147 = some (0, 132, 2, 996) := rfl
theorem Zm_132 : zms[132]? = some zm_X8_isNear := rfl
theorem LY_73 : zLY[73]? = some (Sum.inl 0, List.replicate 4 none) := rfl
theorem cl_X8_triesOn : zm_X8_triesOn.2.2.2.2.1 = 8 := by
  unfold zm_X8_triesOn
  rfl
theorem cn_X8_triesOn : zm_X8_triesOn.2.2.2.2.1 ≠ 12 := by
  rw [cl_X8_triesOn]
  decide
theorem cn2_X8_triesOn : zm_X8_triesOn.2.2.2.2.1 ≠ 2 := by
  rw [cl_X8_triesOn]
  decide
/-- the marks by kind -/
def zMk (m : zM) : Prop := m 73 0 = 1 ∧ m 73 1 = 2 ∧ m 73 2 = 0 ∧ m 73 3 = 4
theorem zMk_k {m : zM} (h : zMk m) {x : Int32} (h0 : 0 ≤ x.toInt) (h3 : x.toInt ≤ 3) : ∃ a, a < 4 ∧ x = Int32.ofNat a ∧ m 73 a = zmrk x := by
  obtain ⟨k0, k1, k2, k3⟩ := h
  refine ⟨x.toInt.toNat, by omega, ?_, ?_⟩
  · apply Int32.toInt_inj.mp
    rw [zofn_t (by omega)]
    omega
  · have e : x = Int32.ofNat x.toInt.toNat := by
      apply Int32.toInt_inj.mp
      rw [zofn_t (by omega)]
      omega
    rcases (by omega : x.toInt.toNat = 0 ∨ x.toInt.toNat = 1 ∨ x.toInt.toNat = 2 ∨ x.toInt.toNat = 3) with w | w | w | w
    · rw [w] at e ⊢; rw [e, k0]; rfl
    · rw [w] at e ⊢; rw [e, k1]; rfl
    · rw [w] at e ⊢; rw [e, k2]; rfl
    · rw [w] at e ⊢; rw [e, k3]; rfl
theorem gtr_r {x : Int32} : (if x < 999 then x + 1 else x + 0) = gtr x := by
  unfold gtr
  split
  · rfl
  · rw [Int32.add_zero]
theorem PG_s {m : zM} {pg : Nat} {g : Nat → Int32} {j : Nat} {v : Int32} (h : PG m pg g) (hj : j < 27) : PG (zup m 72 (pg + j) v) pg (gset g j v) := by
  refine ⟨h.1, fun i hi => ?_⟩
  by_cases e : i = j
  · subst e
    rw [zup_s, gset_s]
  · rw [zup_n (by omega), gset_n e, h.2 i hi]
theorem gcn_17 {g : Nat → Int32} {v : Int32} {i : Nat} (hi : i < 5) : gcn (gset g 17 v) i = gcn g i := by
  unfold gcn
  rw [gset_n (by omega), gset_n (by omega), gset_n (by omega)]
theorem gat_17 {g : Nat → Int32} {v : Int32} {i : Nat} : gat (gset g 17 v) i = gat g i := by
  unfold gat
  rw [gset_n (by omega)]
theorem gok_17 {g : Nat → Int32} {c : Nat} {v : Int32} (h : gok g c) (h0 : 0 ≤ v.toInt) (h1 : v.toInt ≤ 999) : gok (gset g 17 v) c := by
  obtain ⟨a, b, d, e⟩ := h
  refine ⟨a, fun i hi => ?_, by rw [gset_s]; exact h0, by rw [gset_s]; exact h1⟩
  have := b i hi
  rw [gset_n (by omega), gset_n (by omega), gset_n (by omega)]
  exact this
theorem gtr_b {x : Int32} (h0 : 0 ≤ x.toInt) (h1 : x.toInt ≤ 999) : 0 ≤ (gtr x).toInt ∧ (gtr x).toInt ≤ 999 := by
  obtain ⟨a, a1, rfl⟩ : ∃ a, a ≤ 999 ∧ x = Int32.ofNat a := ⟨x.toInt.toNat, by omega, by
    apply Int32.toInt_inj.mp
    rw [zofn_t (by omega)]
    omega⟩
  unfold gtr
  have e2 : Int32.ofNat a < (999 : Int32) ↔ a < 999 := zofn_lt (j := 999) (by omega) (by decide)
  by_cases h2 : a < 999
  · rw [if_pos (e2.mpr h2), zofn_1, zofn_t (by omega)]
    omega
  · rw [if_neg (fun w => h2 (e2.mp w)), zofn_t (by omega)]
    omega
theorem tr_73 {d : Nat} {m : zM} {r : Option Value} {h' : zHp} {pg : Nat} {g : Nat → Int32} {s b : Int32} (hP : PG m pg g) (H : zE none d zm_X8_triesOn 73 [.ref 71, .int (Int32.ofNat pg), .int s, .int b, .null, .null] [] m r h') : zE none d zm_X8_triesOn 105 [.ref 71, .int (Int32.ofNat pg), .int s, .int b, .null, .null] [] (zup m 72 (pg + 17) (gtr (g 17))) r h' := by
  replace H := i_aln (q := 74) H I_X8_triesOn_73 rfl rfl
  replace H := i_gfr (q := 77) H I_X8_triesOn_74 G_8_7 cn_X8_triesOn LY_71 rfl rfl
  replace H := i_iln (q := 78) H I_X8_triesOn_77 rfl rfl
  replace H := i_bip (x := 17) (q := 80) H I_X8_triesOn_78 (by decide) rfl
  replace H := i_iadd (q := 81) H I_X8_triesOn_80 rfl
  replace H := i_dup2 (q := 82) H I_X8_triesOn_81 rfl rfl rfl
  have W := i_ia (q := 83) H I_X8_triesOn_82 LY_72 rfl
  clear H
  obtain ⟨i_82, bi_82, ei_82, H⟩ := W
  replace H := i_aln (q := 84) H I_X8_triesOn_83 rfl rfl
  replace H := i_gfr (q := 87) H I_X8_triesOn_84 G_8_7 cn_X8_triesOn LY_71 rfl rfl
  replace H := i_iln (q := 88) H I_X8_triesOn_87 rfl rfl
  replace H := i_bip (x := 17) (q := 90) H I_X8_triesOn_88 (by decide) rfl
  replace H := i_iadd (q := 91) H I_X8_triesOn_90 rfl
  have W := i_ia (q := 92) H I_X8_triesOn_91 LY_72 rfl
  clear H
  obtain ⟨i_91, bi_91, ei_91, H⟩ := W
  replace H := i_sip (x := 999) (q := 95) H I_X8_triesOn_92 (by decide) rfl
  have W := i_ic_ge (t := 102) (q := 98) H I_X8_triesOn_95 (by decide) rfl
  clear H
  rcases W with ⟨c_95, H⟩ | ⟨c_95, H⟩
  · skip
    replace H := i_icst (x := 0) (q := 103) H I_X8_triesOn_102 (by decide) rfl
    replace H := i_iadd (q := 104) H I_X8_triesOn_103 rfl
    have W := i_iast (q := 105) H I_X8_triesOn_104 LY_72 rfl
    clear H
    obtain ⟨i_104, bi_104, ei_104, H⟩ := W
    have j1 : i_82 = pg + 17 := zix3 rfl (b := 17) rfl ei_82 (by have := hP.1; omega) (by omega)
    subst j1
    have j2 : i_91 = pg + 17 := zix3 rfl (b := 17) rfl ei_91 (by have := hP.1; omega) (by omega)
    subst j2
    have j3 : i_104 = pg + 17 := zix3 rfl (b := 17) rfl ei_104 (by have := hP.1; omega) (by omega)
    subst j3
    rw [hP.2 17 (by omega)] at c_95 H
    rw [show g 17 + 0 = gtr (g 17) by rw [← gtr_r, if_neg c_95]] at H
    exact H
  · skip
    replace H := i_icst (x := 1) (q := 99) H I_X8_triesOn_98 (by decide) rfl
    replace H := i_goto (q := 103) H I_X8_triesOn_99 (by decide)
    replace H := i_iadd (q := 104) H I_X8_triesOn_103 rfl
    have W := i_iast (q := 105) H I_X8_triesOn_104 LY_72 rfl
    clear H
    obtain ⟨i_104, bi_104, ei_104, H⟩ := W
    have j1 : i_82 = pg + 17 := zix3 rfl (b := 17) rfl ei_82 (by have := hP.1; omega) (by omega)
    subst j1
    have j2 : i_91 = pg + 17 := zix3 rfl (b := 17) rfl ei_91 (by have := hP.1; omega) (by omega)
    subst j2
    have j3 : i_104 = pg + 17 := zix3 rfl (b := 17) rfl ei_104 (by have := hP.1; omega) (by omega)
    subst j3
    rw [hP.2 17 (by omega)] at c_95 H
    rw [show g 17 + 1 = gtr (g 17) by rw [← gtr_r, if_pos c_95]] at H
    exact H
theorem tr_105 {d : Nat} {m : zM} {r : Option Value} {h' : zHp} {pg c : Nat} {g : Nat → Int32} {s b : Int32} (hP : PG m pg g) (hg : gok g c) (hc : m 71 2 = Int32.ofNat c) (hM : zMk m) (hb4 : b = -4 ∨ ∃ w, w < c ∧ b = Int32.ofNat w) (H : zE none d zm_X8_triesOn 105 [.ref 71, .int (Int32.ofNat pg), .int s, .int b, .null, .null] [] m r h') : ∃ m1, r = some (.int (if b = -4 ∨ zmn (gcn g) c + (g 16 + 1) < gcn g b.toNatClampNeg then -4 else b)) ∧ h' = zhp m1 ∧ PG m1 pg (if b = -4 ∨ zmn (gcn g) c + (g 16 + 1) < gcn g b.toNatClampNeg then g else gset g (gat g b.toNatClampNeg) (zcap (gcn g b.toNatClampNeg + zmrk (g b.toNatClampNeg)))) ∧ ∀ x y, ¬ (x = 72 ∧ pg ≤ y ∧ y < pg + 27) → m1 x y = m x y := by
  have hc5 := hg.1
  rcases hb4 with rfl | ⟨w, hw, rfl⟩
  · skip
    replace H := i_iln (q := 106) H I_X8_triesOn_105 rfl rfl
    replace H := i_bip (x := (-4)) (q := 108) H I_X8_triesOn_106 (by decide) rfl
    have W := i_ic_eq (t := 120) (q := 111) H I_X8_triesOn_108 (by decide) rfl
    clear H
    rcases W with ⟨c_108, H⟩ | ⟨c_108, H⟩
    · skip
      replace H := i_bip (x := (-4)) (q := 122) H I_X8_triesOn_120 (by decide) rfl
      obtain ⟨hr, hh⟩ := i_ir H I_X8_triesOn_122
      exact ⟨m, hr.trans (by rw [if_pos (Or.inl c_108)]), hh, by rw [if_pos (Or.inl c_108)]; exact hP, fun _ _ _ => rfl⟩
    · exact absurd rfl c_108
  · have hb : (Int32.ofNat w).toNatClampNeg = w := Int32.toNatClampNeg_ofNat_of_lt (by omega)
    replace H := i_iln (q := 106) H I_X8_triesOn_105 rfl rfl
    replace H := i_bip (x := (-4)) (q := 108) H I_X8_triesOn_106 (by decide) rfl
    have W := i_ic_eq (t := 120) (q := 111) H I_X8_triesOn_108 (by decide) rfl
    clear H
    rcases W with ⟨c_108, H⟩ | ⟨c_108, H⟩
    · exact absurd c_108 (zofn_n4 (by omega))
    · skip
      replace H := i_aln (q := 112) H I_X8_triesOn_111 rfl rfl
      replace H := i_iln (q := 113) H I_X8_triesOn_112 rfl rfl
      replace H := i_iln (q := 114) H I_X8_triesOn_113 rfl rfl
      have W := i_cv2 0 (q := 117) H I_X8_triesOn_114 K_8_147 Zm_132 rfl rfl
      clear H
      obtain ⟨r1, h1, Hc, K1, K2⟩ := W
      obtain ⟨e1, e2⟩ := t_X8_isNear hP hg hc (by omega) Hc
      have H := K1 _ _ e1 e2
      clear e1 e2 Hc K1 K2
      have W := i_if_ne (t := 123) (q := 120) H I_X8_triesOn_117 (by decide) rfl
      clear H
      rcases W with ⟨c_117, H⟩ | ⟨c_117, H⟩
      · skip
        replace H := i_aln (q := 124) H I_X8_triesOn_123 rfl rfl
        replace H := i_iln (q := 125) H I_X8_triesOn_124 rfl rfl
        replace H := i_iln (q := 126) H I_X8_triesOn_125 rfl rfl
        have W := i_cv2 0 (q := 129) H I_X8_triesOn_126 K_8_141 Zm_129 rfl rfl
        clear H
        obtain ⟨r1, h1, Hc, K1, K2⟩ := W
        obtain ⟨e1, e2⟩ := t_X8_countOf hP (by omega) Hc
        have H := K1 _ _ e1 e2
        clear e1 e2 Hc K1 K2
        replace H := i_aln (q := 130) H I_X8_triesOn_129 rfl rfl
        replace H := i_gfr (q := 133) H I_X8_triesOn_130 G_8_13 cn_X8_triesOn LY_71 rfl rfl
        replace H := i_aln (q := 134) H I_X8_triesOn_133 rfl rfl
        replace H := i_gfr (q := 137) H I_X8_triesOn_134 G_8_7 cn_X8_triesOn LY_71 rfl rfl
        replace H := i_iln (q := 138) H I_X8_triesOn_137 rfl rfl
        replace H := i_iln (q := 139) H I_X8_triesOn_138 rfl rfl
        replace H := i_iadd (q := 140) H I_X8_triesOn_139 rfl
        have W := i_ia (q := 141) H I_X8_triesOn_140 LY_72 rfl
        clear H
        obtain ⟨i_140, bi_140, ei_140, H⟩ := W
        have W := i_ia (q := 142) H I_X8_triesOn_141 LY_73 rfl
        clear H
        obtain ⟨i_141, bi_141, ei_141, H⟩ := W
        replace H := i_iadd (q := 143) H I_X8_triesOn_142 rfl
        replace H := i_is (q := 145) H I_X8_triesOn_143 rfl rfl
        replace H := i_aln (q := 146) H I_X8_triesOn_145 rfl rfl
        replace H := i_gfr (q := 149) H I_X8_triesOn_146 G_8_7 cn_X8_triesOn LY_71 rfl rfl
        replace H := i_aln (q := 150) H I_X8_triesOn_149 rfl rfl
        replace H := i_iln (q := 151) H I_X8_triesOn_150 rfl rfl
        replace H := i_iln (q := 152) H I_X8_triesOn_151 rfl rfl
        have W := i_cv2 0 (q := 155) H I_X8_triesOn_152 K_8_137 Zm_128 rfl rfl
        clear H
        obtain ⟨r1, h1, Hc, K1, K2⟩ := W
        obtain ⟨e1, e2⟩ := t_X8_countAt hP (by omega) Hc
        have H := K1 _ _ e1 e2
        clear e1 e2 Hc K1 K2
        replace H := i_il (q := 157) H I_X8_triesOn_155 rfl rfl
        replace H := i_bip (x := 99) (q := 159) H I_X8_triesOn_157 (by decide) rfl
        have W := i_ic_le (t := 167) (q := 162) H I_X8_triesOn_159 (by decide) rfl
        clear H
        rcases W with ⟨c_159, H⟩ | ⟨c_159, H⟩
        · skip
          replace H := i_il (q := 169) H I_X8_triesOn_167 rfl rfl
          have W := i_iast (q := 170) H I_X8_triesOn_169 LY_72 rfl
          clear H
          obtain ⟨i_169, bi_169, ei_169, H⟩ := W
          replace H := i_iln (q := 171) H I_X8_triesOn_170 rfl rfl
          obtain ⟨hr, hh⟩ := i_ir H I_X8_triesOn_171
          have hn : ¬ zmn (gcn g) c + (g 16 + 1) < gcn g w := fun q => by rw [if_pos q] at c_117; exact absurd rfl c_117
          have hno : ¬ (Int32.ofNat w = -4 ∨ zmn (gcn g) c + (g 16 + 1) < gcn g (Int32.ofNat w).toNatClampNeg) := by
            rintro (e | e)
            · exact c_108 e
            · rw [hb] at e
              exact hn e
          have j1 : i_140 = pg + w := zix3 rfl rfl ei_140 (by have := hP.1; omega) (by omega)
          subst j1
          rw [hP.2 w (by omega)] at ei_141
          obtain ⟨a, a1, a2, a3⟩ := zMk_k hM (hg.2.1 w hw).1.1 (hg.2.1 w hw).1.2
          have j2 : i_141 = a := zofn (ei_141.symm.trans a2) (by omega) (by omega)
          subst j2
          have hle := gat_le (g := g) (i := w) (by omega)
          have j3 : pg + gat g w = i_169 := zofn ei_169 (by have := hP.1; omega) (by omega)
          subst j3
          rw [a3] at c_159
          try rw [a3] at hh
          refine ⟨_, hr.trans (by rw [if_neg hno]), hh, ?_, fun x y hxy => by rw [zup_n (by omega)]⟩
          rw [if_neg hno, hb]
          rw [zcap, if_neg c_159]
          exact PG_s hP (by omega)
        · skip
          replace H := i_bip (x := 99) (q := 164) H I_X8_triesOn_162 (by decide) rfl
          replace H := i_goto (q := 169) H I_X8_triesOn_164 (by decide)
          have W := i_iast (q := 170) H I_X8_triesOn_169 LY_72 rfl
          clear H
          obtain ⟨i_169, bi_169, ei_169, H⟩ := W
          replace H := i_iln (q := 171) H I_X8_triesOn_170 rfl rfl
          obtain ⟨hr, hh⟩ := i_ir H I_X8_triesOn_171
          have hn : ¬ zmn (gcn g) c + (g 16 + 1) < gcn g w := fun q => by rw [if_pos q] at c_117; exact absurd rfl c_117
          have hno : ¬ (Int32.ofNat w = -4 ∨ zmn (gcn g) c + (g 16 + 1) < gcn g (Int32.ofNat w).toNatClampNeg) := by
            rintro (e | e)
            · exact c_108 e
            · rw [hb] at e
              exact hn e
          have j1 : i_140 = pg + w := zix3 rfl rfl ei_140 (by have := hP.1; omega) (by omega)
          subst j1
          rw [hP.2 w (by omega)] at ei_141
          obtain ⟨a, a1, a2, a3⟩ := zMk_k hM (hg.2.1 w hw).1.1 (hg.2.1 w hw).1.2
          have j2 : i_141 = a := zofn (ei_141.symm.trans a2) (by omega) (by omega)
          subst j2
          have hle := gat_le (g := g) (i := w) (by omega)
          have j3 : pg + gat g w = i_169 := zofn ei_169 (by have := hP.1; omega) (by omega)
          subst j3
          rw [a3] at c_159
          try rw [a3] at hh
          refine ⟨_, hr.trans (by rw [if_neg hno]), hh, ?_, fun x y hxy => by rw [zup_n (by omega)]⟩
          rw [if_neg hno, hb]
          rw [zcap, if_pos c_159]
          exact PG_s hP (by omega)
      · skip
        replace H := i_bip (x := (-4)) (q := 122) H I_X8_triesOn_120 (by decide) rfl
        obtain ⟨hr, hh⟩ := i_ir H I_X8_triesOn_122
        have hn : zmn (gcn g) c + (g 16 + 1) < gcn g w := Decidable.not_not.mp (fun q => by rw [if_neg q] at c_117; exact absurd c_117 (by decide))
        have hno : Int32.ofNat w = -4 ∨ zmn (gcn g) c + (g 16 + 1) < gcn g (Int32.ofNat w).toNatClampNeg := Or.inr (by rw [hb]; exact hn)
        exact ⟨m, hr.trans (by rw [if_pos hno]), hh, by rw [if_pos hno]; exact hP, fun _ _ _ => rfl⟩
theorem t_X8_triesOn {d : Nat} {m : zM} {r : Option Value} {h' : zHp} {pg c : Nat} {g : Nat → Int32} {s : Int32} (hP : PG m pg g) (hg : gok g c) (hc : m 71 2 = Int32.ofNat c) (hM : zMk m) (H : zE none d zm_X8_triesOn 0 [.ref 71, .int (Int32.ofNat pg), .int s, .null, .null, .null] [] m r h') : ∃ m1, r = some (.int (gTry1 g c s)) ∧ h' = zhp m1 ∧ PG m1 pg (gTry2 g c s) ∧ ∀ x y, ¬ (x = 72 ∧ pg ≤ y ∧ y < pg + 27) → m1 x y = m x y := by
  have hc5 := hg.1
  replace H := i_bip (x := (-4)) (q := 2) H I_X8_triesOn_0 (by decide) rfl
  replace H := i_isn (q := 3) H I_X8_triesOn_2 rfl rfl
  replace H := i_aln (q := 4) H I_X8_triesOn_3 rfl rfl
  replace H := i_gfi (q := 7) H I_X8_triesOn_4 G_8_131 cn_X8_triesOn LY_71 rfl rfl
  replace H := i_icst (x := 1) (q := 8) H I_X8_triesOn_7 (by decide) rfl
  replace H := i_isub (q := 9) H I_X8_triesOn_8 rfl
  replace H := i_is (q := 11) H I_X8_triesOn_9 rfl rfl
  rw [hc] at H
  replace H := i_w [true, true, true, true, true, false] H
  obtain ⟨b, hW, H⟩ := tr_loop (c := c) (s := s) hP hc5 c d r h' (-4) (Nat.le_refl c) (Or.inl ⟨rfl, fun p h1 h2 => by omega⟩) H
  have eb : b = zwb (gcn g) s c := IsW_u hW (zwb_W (gcn g) s c hc5)
  subst eb
  replace H := tr_73 hP H
  have hP1 : PG (zup m 72 (pg + 17) (gtr (g 17))) pg (gset g 17 (gtr (g 17))) := PG_s hP (by omega)
  have ef : ∀ i, i < c → gcn (gset g 17 (gtr (g 17))) i = gcn g i := fun i hi => gcn_17 (by omega)
  obtain ⟨m1, x1, x2, x3, x4⟩ := tr_105 hP1 (gok_17 hg (gtr_b hg.2.2.1 hg.2.2.2).1 (gtr_b hg.2.2.1 hg.2.2.2).2) (by rw [zup_n (by omega)]; exact hc) (by unfold zMk; rw [zup_n (by omega), zup_n (by omega), zup_n (by omega), zup_n (by omega)]; exact hM) (zwb_r (gcn g) s c hc5) H
  have em := zmn_g c ef
  rcases zwb_r (gcn g) s c hc5 with e | ⟨w, w1, w2⟩
  · rw [if_pos (Or.inl e)] at x1 x3
    refine ⟨m1, by rw [gTry1, if_pos (Or.inl e)]; exact x1, x2, by rw [gTry2, if_pos (Or.inl e)]; exact x3, fun x y hxy => by rw [x4 x y hxy, zup_n (by omega)]⟩
  · have hb : (zwb (gcn g) s c).toNatClampNeg = w := by rw [w2, Int32.toNatClampNeg_ofNat_of_lt (by omega)]
    rw [em, hb, ef w w1, gset_n (show ¬ 16 = 17 by omega), gat_17, gset_n (show ¬ w = 17 by omega)] at x3
    rw [em, hb, ef w w1, gset_n (show ¬ 16 = 17 by omega)] at x1
    refine ⟨m1, by rw [gTry1, hb]; exact x1, x2, ?_, fun x y hxy => by rw [x4 x y hxy, zup_n (by omega)]⟩
    rw [gTry2, hb]
    exact x3
