section
/-! alter of the reference; the pairs of RC -/
theorem It_X8_alter : zm_X8_alter.2.2.2.2.2 = zt_X8_alter := by
  unfold zm_X8_alter
  rfl
theorem I_X8_alter_0 : zin zm_X8_alter.2.2.2.2.2 0 = some (.iload_n 2, 1) := by rw [It_X8_alter]; rfl
theorem I_X8_alter_1 : zin zm_X8_alter.2.2.2.2.2 1 = some (.iconst 3, 1) := by rw [It_X8_alter]; rfl
theorem I_X8_alter_2 : zin zm_X8_alter.2.2.2.2.2 2 = some (.if_icmp .ne 61, 3) := by rw [It_X8_alter]; rfl
theorem I_X8_alter_5 : zin zm_X8_alter.2.2.2.2.2 5 = some (.aload_n 0, 1) := by rw [It_X8_alter]; rfl
theorem I_X8_alter_6 : zin zm_X8_alter.2.2.2.2.2 6 = some (.iload_n 1, 1) := by rw [It_X8_alter]; rfl
theorem I_X8_alter_7 : zin zm_X8_alter.2.2.2.2.2 7 = some (.invokevirtual 151, 3) := by rw [It_X8_alter]; rfl
theorem I_X8_alter_10 : zin zm_X8_alter.2.2.2.2.2 10 = some (.ifCond .eq 53, 3) := by rw [It_X8_alter]; rfl
theorem I_X8_alter_13 : zin zm_X8_alter.2.2.2.2.2 13 = some (.iload_n 3, 1) := by rw [It_X8_alter]; rfl
theorem I_X8_alter_14 : zin zm_X8_alter.2.2.2.2.2 14 = some (.i2l, 1) := by rw [It_X8_alter]; rfl
theorem I_X8_alter_15 : zin zm_X8_alter.2.2.2.2.2 15 = some (.lconst 0, 1) := by rw [It_X8_alter]; rfl
theorem I_X8_alter_16 : zin zm_X8_alter.2.2.2.2.2 16 = some (.lconst 1, 1) := by rw [It_X8_alter]; rfl
theorem I_X8_alter_17 : zin zm_X8_alter.2.2.2.2.2 17 = some (.invokestatic 55, 3) := by rw [It_X8_alter]; rfl
theorem I_X8_alter_20 : zin zm_X8_alter.2.2.2.2.2 20 = some (.ifCond .eq 43, 3) := by rw [It_X8_alter]; rfl
theorem I_X8_alter_23 : zin zm_X8_alter.2.2.2.2.2 23 = some (.aload_n 0, 1) := by rw [It_X8_alter]; rfl
theorem I_X8_alter_24 : zin zm_X8_alter.2.2.2.2.2 24 = some (.getfield 7, 3) := by rw [It_X8_alter]; rfl
theorem I_X8_alter_27 : zin zm_X8_alter.2.2.2.2.2 27 = some (.bipush 15, 2) := by rw [It_X8_alter]; rfl
theorem I_X8_alter_29 : zin zm_X8_alter.2.2.2.2.2 29 = some (.iaload, 1) := by rw [It_X8_alter]; rfl
theorem I_X8_alter_30 : zin zm_X8_alter.2.2.2.2.2 30 = some (.iload_n 1, 1) := by rw [It_X8_alter]; rfl
theorem I_X8_alter_31 : zin zm_X8_alter.2.2.2.2.2 31 = some (.ishr, 1) := by rw [It_X8_alter]; rfl
theorem I_X8_alter_32 : zin zm_X8_alter.2.2.2.2.2 32 = some (.iconst 1, 1) := by rw [It_X8_alter]; rfl
theorem I_X8_alter_33 : zin zm_X8_alter.2.2.2.2.2 33 = some (.iand, 1) := by rw [It_X8_alter]; rfl
theorem I_X8_alter_34 : zin zm_X8_alter.2.2.2.2.2 34 = some (.istore 4, 2) := by rw [It_X8_alter]; rfl
theorem I_X8_alter_36 : zin zm_X8_alter.2.2.2.2.2 36 = some (.aload_n 0, 1) := by rw [It_X8_alter]; rfl
theorem I_X8_alter_37 : zin zm_X8_alter.2.2.2.2.2 37 = some (.getfield 7, 3) := by rw [It_X8_alter]; rfl
theorem I_X8_alter_40 : zin zm_X8_alter.2.2.2.2.2 40 = some (.bipush 15, 2) := by rw [It_X8_alter]; rfl
theorem I_X8_alter_42 : zin zm_X8_alter.2.2.2.2.2 42 = some (.aload_n 0, 1) := by rw [It_X8_alter]; rfl
theorem I_X8_alter_43 : zin zm_X8_alter.2.2.2.2.2 43 = some (.getfield 7, 3) := by rw [It_X8_alter]; rfl
theorem I_X8_alter_46 : zin zm_X8_alter.2.2.2.2.2 46 = some (.bipush 15, 2) := by rw [It_X8_alter]; rfl
theorem I_X8_alter_48 : zin zm_X8_alter.2.2.2.2.2 48 = some (.iaload, 1) := by rw [It_X8_alter]; rfl
theorem I_X8_alter_49 : zin zm_X8_alter.2.2.2.2.2 49 = some (.iconst 1, 1) := by rw [It_X8_alter]; rfl
theorem I_X8_alter_50 : zin zm_X8_alter.2.2.2.2.2 50 = some (.iload_n 1, 1) := by rw [It_X8_alter]; rfl
theorem I_X8_alter_51 : zin zm_X8_alter.2.2.2.2.2 51 = some (.ishl, 1) := by rw [It_X8_alter]; rfl
theorem I_X8_alter_52 : zin zm_X8_alter.2.2.2.2.2 52 = some (.iconst (-1), 1) := by rw [It_X8_alter]; rfl
theorem I_X8_alter_53 : zin zm_X8_alter.2.2.2.2.2 53 = some (.ixor, 1) := by rw [It_X8_alter]; rfl
theorem I_X8_alter_54 : zin zm_X8_alter.2.2.2.2.2 54 = some (.iand, 1) := by rw [It_X8_alter]; rfl
theorem I_X8_alter_55 : zin zm_X8_alter.2.2.2.2.2 55 = some (.iload_n 3, 1) := by rw [It_X8_alter]; rfl
theorem I_X8_alter_56 : zin zm_X8_alter.2.2.2.2.2 56 = some (.iload_n 1, 1) := by rw [It_X8_alter]; rfl
theorem I_X8_alter_57 : zin zm_X8_alter.2.2.2.2.2 57 = some (.ishl, 1) := by rw [It_X8_alter]; rfl
theorem I_X8_alter_58 : zin zm_X8_alter.2.2.2.2.2 58 = some (.ior, 1) := by rw [It_X8_alter]; rfl
theorem I_X8_alter_59 : zin zm_X8_alter.2.2.2.2.2 59 = some (.iastore, 1) := by rw [It_X8_alter]; rfl
theorem I_X8_alter_60 : zin zm_X8_alter.2.2.2.2.2 60 = some (.iload 4, 2) := by rw [It_X8_alter]; rfl
theorem I_X8_alter_62 : zin zm_X8_alter.2.2.2.2.2 62 = some (.ireturn, 1) := by rw [It_X8_alter]; rfl
theorem I_X8_alter_63 : zin zm_X8_alter.2.2.2.2.2 63 = some (.iload_n 2, 1) := by rw [It_X8_alter]; rfl
theorem I_X8_alter_64 : zin zm_X8_alter.2.2.2.2.2 64 = some (.ifCond .ne 15, 3) := by rw [It_X8_alter]; rfl
theorem I_X8_alter_67 : zin zm_X8_alter.2.2.2.2.2 67 = some (.iload_n 3, 1) := by rw [It_X8_alter]; rfl
theorem I_X8_alter_68 : zin zm_X8_alter.2.2.2.2.2 68 = some (.i2l, 1) := by rw [It_X8_alter]; rfl
theorem I_X8_alter_69 : zin zm_X8_alter.2.2.2.2.2 69 = some (.lconst 0, 1) := by rw [It_X8_alter]; rfl
theorem I_X8_alter_70 : zin zm_X8_alter.2.2.2.2.2 70 = some (.ldc2_w 155, 3) := by rw [It_X8_alter]; rfl
theorem I_X8_alter_73 : zin zm_X8_alter.2.2.2.2.2 73 = some (.invokestatic 55, 3) := by rw [It_X8_alter]; rfl
theorem I_X8_alter_76 : zin zm_X8_alter.2.2.2.2.2 76 = some (.goto 32, 3) := by rw [It_X8_alter]; rfl
theorem I_X8_alter_79 : zin zm_X8_alter.2.2.2.2.2 79 = some (.iload_n 2, 1) := by rw [It_X8_alter]; rfl
theorem I_X8_alter_80 : zin zm_X8_alter.2.2.2.2.2 80 = some (.i2l, 1) := by rw [It_X8_alter]; rfl
theorem I_X8_alter_81 : zin zm_X8_alter.2.2.2.2.2 81 = some (.lconst 1, 1) := by rw [It_X8_alter]; rfl
theorem I_X8_alter_82 : zin zm_X8_alter.2.2.2.2.2 82 = some (.ldc2_w 157, 3) := by rw [It_X8_alter]; rfl
theorem I_X8_alter_85 : zin zm_X8_alter.2.2.2.2.2 85 = some (.invokestatic 55, 3) := by rw [It_X8_alter]; rfl
theorem I_X8_alter_88 : zin zm_X8_alter.2.2.2.2.2 88 = some (.ifCond .eq 19, 3) := by rw [It_X8_alter]; rfl
theorem I_X8_alter_91 : zin zm_X8_alter.2.2.2.2.2 91 = some (.iload_n 3, 1) := by rw [It_X8_alter]; rfl
theorem I_X8_alter_92 : zin zm_X8_alter.2.2.2.2.2 92 = some (.i2l, 1) := by rw [It_X8_alter]; rfl
theorem I_X8_alter_93 : zin zm_X8_alter.2.2.2.2.2 93 = some (.lconst 0, 1) := by rw [It_X8_alter]; rfl
theorem I_X8_alter_94 : zin zm_X8_alter.2.2.2.2.2 94 = some (.ldc2_w 159, 3) := by rw [It_X8_alter]; rfl
theorem I_X8_alter_97 : zin zm_X8_alter.2.2.2.2.2 97 = some (.invokestatic 55, 3) := by rw [It_X8_alter]; rfl
theorem I_X8_alter_100 : zin zm_X8_alter.2.2.2.2.2 100 = some (.ifCond .eq 7, 3) := by rw [It_X8_alter]; rfl
theorem I_X8_alter_103 : zin zm_X8_alter.2.2.2.2.2 103 = some (.iconst 1, 1) := by rw [It_X8_alter]; rfl
theorem I_X8_alter_104 : zin zm_X8_alter.2.2.2.2.2 104 = some (.goto 4, 3) := by rw [It_X8_alter]; rfl
theorem I_X8_alter_107 : zin zm_X8_alter.2.2.2.2.2 107 = some (.iconst 0, 1) := by rw [It_X8_alter]; rfl
theorem I_X8_alter_108 : zin zm_X8_alter.2.2.2.2.2 108 = some (.istore 4, 2) := by rw [It_X8_alter]; rfl
theorem I_X8_alter_110 : zin zm_X8_alter.2.2.2.2.2 110 = some (.aload_n 0, 1) := by rw [It_X8_alter]; rfl
theorem I_X8_alter_111 : zin zm_X8_alter.2.2.2.2.2 111 = some (.aload_n 0, 1) := by rw [It_X8_alter]; rfl
theorem I_X8_alter_112 : zin zm_X8_alter.2.2.2.2.2 112 = some (.iload_n 1, 1) := by rw [It_X8_alter]; rfl
theorem I_X8_alter_113 : zin zm_X8_alter.2.2.2.2.2 113 = some (.invokevirtual 151, 3) := by rw [It_X8_alter]; rfl
theorem I_X8_alter_116 : zin zm_X8_alter.2.2.2.2.2 116 = some (.ifCond .eq 12, 3) := by rw [It_X8_alter]; rfl
theorem I_X8_alter_119 : zin zm_X8_alter.2.2.2.2.2 119 = some (.iload 4, 2) := by rw [It_X8_alter]; rfl
theorem I_X8_alter_121 : zin zm_X8_alter.2.2.2.2.2 121 = some (.ifCond .eq 7, 3) := by rw [It_X8_alter]; rfl
theorem I_X8_alter_124 : zin zm_X8_alter.2.2.2.2.2 124 = some (.iconst 1, 1) := by rw [It_X8_alter]; rfl
theorem I_X8_alter_125 : zin zm_X8_alter.2.2.2.2.2 125 = some (.goto 4, 3) := by rw [It_X8_alter]; rfl
theorem I_X8_alter_128 : zin zm_X8_alter.2.2.2.2.2 128 = some (.iconst 0, 1) := by rw [It_X8_alter]; rfl
theorem I_X8_alter_129 : zin zm_X8_alter.2.2.2.2.2 129 = some (.iconst 5, 1) := by rw [It_X8_alter]; rfl
theorem I_X8_alter_130 : zin zm_X8_alter.2.2.2.2.2 130 = some (.iload_n 2, 1) := by rw [It_X8_alter]; rfl
theorem I_X8_alter_131 : zin zm_X8_alter.2.2.2.2.2 131 = some (.imul, 1) := by rw [It_X8_alter]; rfl
theorem I_X8_alter_132 : zin zm_X8_alter.2.2.2.2.2 132 = some (.iload_n 1, 1) := by rw [It_X8_alter]; rfl
theorem I_X8_alter_133 : zin zm_X8_alter.2.2.2.2.2 133 = some (.iadd, 1) := by rw [It_X8_alter]; rfl
theorem I_X8_alter_134 : zin zm_X8_alter.2.2.2.2.2 134 = some (.iload_n 3, 1) := by rw [It_X8_alter]; rfl
theorem I_X8_alter_135 : zin zm_X8_alter.2.2.2.2.2 135 = some (.iconst 0, 1) := by rw [It_X8_alter]; rfl
theorem I_X8_alter_136 : zin zm_X8_alter.2.2.2.2.2 136 = some (.invokevirtual 161, 3) := by rw [It_X8_alter]; rfl
theorem I_X8_alter_139 : zin zm_X8_alter.2.2.2.2.2 139 = some (.ireturn, 1) := by rw [It_X8_alter]; rfl
theorem cl_X8_alter : zm_X8_alter.2.2.2.2.1 = 8 := by
  unfold zm_X8_alter
  rfl
theorem cn_X8_alter : zm_X8_alter.2.2.2.2.1 ≠ 12 := by
  rw [cl_X8_alter]
  decide
theorem cn2_X8_alter : zm_X8_alter.2.2.2.2.1 ≠ 2 := by
  rw [cl_X8_alter]
  decide
theorem t_X8_puts0 {d : Nat} {m : zM} {r : Option Value} {h' : zHp} {b x v e : Int32} (hb : b = 0) (H : zE none d zm_X8_puts 0 [.ref 71, .int b, .int x, .int v, .int e, .null] [] m r h') : r = some (.int (-1)) ∧ h' = zhp m := by
  replace H := i_iln (q := 1) H I_X8_puts_0 rfl rfl
  have W := i_if_ne (t := 6) (q := 4) H I_X8_puts_1 (by decide) rfl
  clear H
  rcases W with ⟨c_1, H⟩ | ⟨c_1, H⟩
  · exact absurd hb c_1
  · skip
    replace H := i_icst (x := (-1)) (q := 5) H I_X8_puts_4 (by decide) rfl
    obtain ⟨hr, hh⟩ := i_ir H I_X8_puts_5
    exact ⟨hr, hh⟩
abbrev gA2 (w v : Int32) : Prop := (w = 0 ∧ zBt v 0 3) ∨ (zBt w 1 2 ∧ zBt v 0 99)
theorem zw12 {w : Int32} (h : zBt w 1 2) : w = 1 ∨ w = 2 := by
  obtain ⟨h1, h2⟩ := h
  rw [Int32.lt_iff_toInt_lt] at h1 h2
  have e1 : (1 : Int32).toInt = 1 := rfl
  have e2 : (2 : Int32).toInt = 2 := rfl
  rw [e1] at h1
  rw [e2] at h2
  have : w.toInt = 1 ∨ w.toInt = 2 := by omega
  rcases this with h | h
  · exact Or.inl (Int32.toInt_inj.mp (h.trans e1.symm))
  · exact Or.inr (Int32.toInt_inj.mp (h.trans e2.symm))
theorem gA2_f {w v : Int32} (h : gA2 w v) : ∃ f, f ≤ 2 ∧ w = Int32.ofNat f := by
  rcases h with ⟨h, _⟩ | ⟨h, _⟩
  · exact ⟨0, by omega, h⟩
  · rcases zw12 h with h | h
    · exact ⟨1, by omega, h⟩
    · exact ⟨2, by omega, h⟩
theorem gA2_c {w v : Int32} : gA2 w v ↔ gAc w v ∧ ¬ w = 3 := by
  constructor
  · intro h
    rcases h with ⟨rfl, h⟩ | ⟨h, h9⟩
    · exact ⟨⟨⟨by decide, by decide⟩, h⟩, by decide⟩
    · rcases zw12 h with rfl | rfl
      · exact ⟨⟨⟨by decide, by decide⟩, h9⟩, by decide⟩
      · exact ⟨⟨⟨by decide, by decide⟩, h9⟩, by decide⟩
  · intro h
    obtain ⟨⟨h1, h2⟩, h3⟩ := h
    obtain ⟨k, k1, rfl⟩ := zbt_n (n := 3) rfl (by omega) h1
    match k, k1 with
    | 0, _ => exact Or.inl ⟨rfl, h2⟩
    | 1, _ => exact Or.inr ⟨⟨by decide, by decide⟩, h2⟩
    | 2, _ => exact Or.inr ⟨⟨by decide, by decide⟩, h2⟩
    | 3, _ => exact absurd rfl h3
theorem zix_mul {w x : Int32} {f p : Nat} (hw : w = Int32.ofNat f) (hx : x = Int32.ofNat p) : 5 * w + x = Int32.ofNat (5 * f + p) := by
  rw [hw, hx, Int32.ofNat_add, Int32.ofNat_mul]
  rfl
def zalt (s : Int32) (x v : Int32) : Int32 := s &&& ((1 <<< (x &&& 31)) ^^^ (-1)) ||| v <<< (x &&& 31)
theorem gA2_0 {w v : Int32} (hw : w = 0) (h : gA2 w v) : zBt v 0 3 := by
  rcases h with ⟨_, h⟩ | ⟨h, _⟩
  · exact h
  · rw [hw] at h
    exact absurd (by decide) h.1
theorem gA2_1 {w v : Int32} (hw : ¬ w = 0) (h : gA2 w v) : zBt w 1 2 ∧ zBt v 0 99 := by
  rcases h with ⟨h, _⟩ | h
  · exact absurd h hw
  · exact h
theorem t_alt63 {d : Nat} {m : zM} {r : Option Value} {h' : zHp} {x w v : Int32} {c : Nat} (hc : m 71 2 = Int32.ofNat c) (hc5 : c ≤ 5) (H : zE none d zm_X8_alter 63 [.ref 71, .int x, .int w, .int v, .null] [] m r h') : ∃ m1 u, r = some (.int u) ∧ h' = zhp m1 ∧ ((¬ (zIs x c ∧ gA2 w v) ∧ u = -1 ∧ m1 = m) ∨ (∃ p f, p < c ∧ x = Int32.ofNat p ∧ f ≤ 2 ∧ w = Int32.ofNat f ∧ gA2 w v ∧ u = m 72 (5 * f + p) ∧ m1 = zup m 72 (5 * f + p) v)) := by
  replace H := i_iln (q := 64) H I_X8_alter_63 rfl rfl
  have W := i_if_ne (t := 79) (q := 67) H I_X8_alter_64 (by decide) rfl
  clear H
  rcases W with ⟨c_64, H⟩ | ⟨c_64, H⟩
  · skip
    replace H := i_iln (q := 80) H I_X8_alter_79 rfl rfl
    replace H := i_i2l (q := 81) H I_X8_alter_80 rfl
    replace H := i_lcst (x := 1) (q := 82) H I_X8_alter_81 (by decide) rfl
    replace H := i_ldc2 (x := 2) (q := 85) H I_X8_alter_82 J_8_157 (by decide) rfl
    replace H := i_in (q := 88) H I_X8_alter_85 K_8_55 rfl
    have W := i_if_eq (t := 107) (q := 91) H I_X8_alter_88 (by decide) rfl
    clear H
    rcases W with ⟨c_88, H⟩ | ⟨c_88, H⟩
    · skip
      replace H := i_icst (x := 0) (q := 108) H I_X8_alter_107 (by decide) rfl
      replace H := i_is (q := 110) H I_X8_alter_108 rfl rfl
      replace H := i_aln (q := 111) H I_X8_alter_110 rfl rfl
      replace H := i_aln (q := 112) H I_X8_alter_111 rfl rfl
      replace H := i_iln (q := 113) H I_X8_alter_112 rfl rfl
      have W := i_cv1 0 (q := 116) H I_X8_alter_113 K_8_151 Zm_127 rfl rfl
      clear H
      obtain ⟨r1, h1, Hc, K1, K2⟩ := W
      obtain ⟨e1, e2⟩ := t_X8_isOne hc hc5 Hc
      have H := K1 _ _ e1 e2
      clear e1 e2 Hc K1 K2
      have W := i_if_eq (t := 128) (q := 119) H I_X8_alter_116 (by decide) rfl
      clear H
      rcases W with ⟨c_116, H⟩ | ⟨c_116, H⟩
      · skip
        replace H := i_icst (x := 0) (q := 129) H I_X8_alter_128 (by decide) rfl
        replace H := i_icst (x := 5) (q := 130) H I_X8_alter_129 (by decide) rfl
        replace H := i_iln (q := 131) H I_X8_alter_130 rfl rfl
        replace H := i_imul (q := 132) H I_X8_alter_131 rfl
        replace H := i_iln (q := 133) H I_X8_alter_132 rfl rfl
        replace H := i_iadd (q := 134) H I_X8_alter_133 rfl
        replace H := i_iln (q := 135) H I_X8_alter_134 rfl rfl
        replace H := i_icst (x := 0) (q := 136) H I_X8_alter_135 (by decide) rfl
        have W := i_cv4 1 (q := 139) H I_X8_alter_136 K_8_161 Zm_136 rfl rfl
        clear H
        obtain ⟨r1, h1, Hc, K1, K2⟩ := W
        obtain ⟨e1, e2⟩ := t_X8_puts0 rfl Hc
        have H := K1 _ _ e1 e2
        clear e1 e2 Hc K1 K2
        obtain ⟨hr, hh⟩ := i_ir H I_X8_alter_139
        rw [hc] at c_116
        exact ⟨_, _, hr, hh, Or.inl ⟨fun q => zif0 c_116 q.1, rfl, rfl⟩⟩
      · skip
        replace H := i_il (q := 121) H I_X8_alter_119 rfl rfl
        have W := i_if_eq (t := 128) (q := 124) H I_X8_alter_121 (by decide) rfl
        clear H
        rcases W with ⟨c_121, H⟩ | ⟨c_121, H⟩
        · skip
          replace H := i_icst (x := 0) (q := 129) H I_X8_alter_128 (by decide) rfl
          replace H := i_icst (x := 5) (q := 130) H I_X8_alter_129 (by decide) rfl
          replace H := i_iln (q := 131) H I_X8_alter_130 rfl rfl
          replace H := i_imul (q := 132) H I_X8_alter_131 rfl
          replace H := i_iln (q := 133) H I_X8_alter_132 rfl rfl
          replace H := i_iadd (q := 134) H I_X8_alter_133 rfl
          replace H := i_iln (q := 135) H I_X8_alter_134 rfl rfl
          replace H := i_icst (x := 0) (q := 136) H I_X8_alter_135 (by decide) rfl
          have W := i_cv4 1 (q := 139) H I_X8_alter_136 K_8_161 Zm_136 rfl rfl
          clear H
          obtain ⟨r1, h1, Hc, K1, K2⟩ := W
          obtain ⟨e1, e2⟩ := t_X8_puts0 rfl Hc
          have H := K1 _ _ e1 e2
          clear e1 e2 Hc K1 K2
          obtain ⟨hr, hh⟩ := i_ir H I_X8_alter_139
          rw [zin_bt (lo := 1) (hi := 2) rfl rfl] at c_88
          exact ⟨_, _, hr, hh, Or.inl ⟨fun q => zif0 c_88 (gA2_1 c_64 q.2).1, rfl, rfl⟩⟩
        · exact absurd rfl c_121
    · skip
      replace H := i_iln (q := 92) H I_X8_alter_91 rfl rfl
      replace H := i_i2l (q := 93) H I_X8_alter_92 rfl
      replace H := i_lcst (x := 0) (q := 94) H I_X8_alter_93 (by decide) rfl
      replace H := i_ldc2 (x := 99) (q := 97) H I_X8_alter_94 J_8_159 (by decide) rfl
      replace H := i_in (q := 100) H I_X8_alter_97 K_8_55 rfl
      have W := i_if_eq (t := 107) (q := 103) H I_X8_alter_100 (by decide) rfl
      clear H
      rcases W with ⟨c_100, H⟩ | ⟨c_100, H⟩
      · skip
        replace H := i_icst (x := 0) (q := 108) H I_X8_alter_107 (by decide) rfl
        replace H := i_is (q := 110) H I_X8_alter_108 rfl rfl
        replace H := i_aln (q := 111) H I_X8_alter_110 rfl rfl
        replace H := i_aln (q := 112) H I_X8_alter_111 rfl rfl
        replace H := i_iln (q := 113) H I_X8_alter_112 rfl rfl
        have W := i_cv1 0 (q := 116) H I_X8_alter_113 K_8_151 Zm_127 rfl rfl
        clear H
        obtain ⟨r1, h1, Hc, K1, K2⟩ := W
        obtain ⟨e1, e2⟩ := t_X8_isOne hc hc5 Hc
        have H := K1 _ _ e1 e2
        clear e1 e2 Hc K1 K2
        have W := i_if_eq (t := 128) (q := 119) H I_X8_alter_116 (by decide) rfl
        clear H
        rcases W with ⟨c_116, H⟩ | ⟨c_116, H⟩
        · skip
          replace H := i_icst (x := 0) (q := 129) H I_X8_alter_128 (by decide) rfl
          replace H := i_icst (x := 5) (q := 130) H I_X8_alter_129 (by decide) rfl
          replace H := i_iln (q := 131) H I_X8_alter_130 rfl rfl
          replace H := i_imul (q := 132) H I_X8_alter_131 rfl
          replace H := i_iln (q := 133) H I_X8_alter_132 rfl rfl
          replace H := i_iadd (q := 134) H I_X8_alter_133 rfl
          replace H := i_iln (q := 135) H I_X8_alter_134 rfl rfl
          replace H := i_icst (x := 0) (q := 136) H I_X8_alter_135 (by decide) rfl
          have W := i_cv4 1 (q := 139) H I_X8_alter_136 K_8_161 Zm_136 rfl rfl
          clear H
          obtain ⟨r1, h1, Hc, K1, K2⟩ := W
          obtain ⟨e1, e2⟩ := t_X8_puts0 rfl Hc
          have H := K1 _ _ e1 e2
          clear e1 e2 Hc K1 K2
          obtain ⟨hr, hh⟩ := i_ir H I_X8_alter_139
          rw [hc] at c_116
          exact ⟨_, _, hr, hh, Or.inl ⟨fun q => zif0 c_116 q.1, rfl, rfl⟩⟩
        · skip
          replace H := i_il (q := 121) H I_X8_alter_119 rfl rfl
          have W := i_if_eq (t := 128) (q := 124) H I_X8_alter_121 (by decide) rfl
          clear H
          rcases W with ⟨c_121, H⟩ | ⟨c_121, H⟩
          · skip
            replace H := i_icst (x := 0) (q := 129) H I_X8_alter_128 (by decide) rfl
            replace H := i_icst (x := 5) (q := 130) H I_X8_alter_129 (by decide) rfl
            replace H := i_iln (q := 131) H I_X8_alter_130 rfl rfl
            replace H := i_imul (q := 132) H I_X8_alter_131 rfl
            replace H := i_iln (q := 133) H I_X8_alter_132 rfl rfl
            replace H := i_iadd (q := 134) H I_X8_alter_133 rfl
            replace H := i_iln (q := 135) H I_X8_alter_134 rfl rfl
            replace H := i_icst (x := 0) (q := 136) H I_X8_alter_135 (by decide) rfl
            have W := i_cv4 1 (q := 139) H I_X8_alter_136 K_8_161 Zm_136 rfl rfl
            clear H
            obtain ⟨r1, h1, Hc, K1, K2⟩ := W
            obtain ⟨e1, e2⟩ := t_X8_puts0 rfl Hc
            have H := K1 _ _ e1 e2
            clear e1 e2 Hc K1 K2
            obtain ⟨hr, hh⟩ := i_ir H I_X8_alter_139
            rw [zin_bt (lo := 0) (hi := 99) rfl rfl] at c_100
            exact ⟨_, _, hr, hh, Or.inl ⟨fun q => zif0 c_100 (gA2_1 c_64 q.2).2, rfl, rfl⟩⟩
          · exact absurd rfl c_121
      · skip
        replace H := i_icst (x := 1) (q := 104) H I_X8_alter_103 (by decide) rfl
        replace H := i_goto (q := 108) H I_X8_alter_104 (by decide)
        replace H := i_is (q := 110) H I_X8_alter_108 rfl rfl
        replace H := i_aln (q := 111) H I_X8_alter_110 rfl rfl
        replace H := i_aln (q := 112) H I_X8_alter_111 rfl rfl
        replace H := i_iln (q := 113) H I_X8_alter_112 rfl rfl
        have W := i_cv1 0 (q := 116) H I_X8_alter_113 K_8_151 Zm_127 rfl rfl
        clear H
        obtain ⟨r1, h1, Hc, K1, K2⟩ := W
        obtain ⟨e1, e2⟩ := t_X8_isOne hc hc5 Hc
        have H := K1 _ _ e1 e2
        clear e1 e2 Hc K1 K2
        have W := i_if_eq (t := 128) (q := 119) H I_X8_alter_116 (by decide) rfl
        clear H
        rcases W with ⟨c_116, H⟩ | ⟨c_116, H⟩
        · skip
          replace H := i_icst (x := 0) (q := 129) H I_X8_alter_128 (by decide) rfl
          replace H := i_icst (x := 5) (q := 130) H I_X8_alter_129 (by decide) rfl
          replace H := i_iln (q := 131) H I_X8_alter_130 rfl rfl
          replace H := i_imul (q := 132) H I_X8_alter_131 rfl
          replace H := i_iln (q := 133) H I_X8_alter_132 rfl rfl
          replace H := i_iadd (q := 134) H I_X8_alter_133 rfl
          replace H := i_iln (q := 135) H I_X8_alter_134 rfl rfl
          replace H := i_icst (x := 0) (q := 136) H I_X8_alter_135 (by decide) rfl
          have W := i_cv4 1 (q := 139) H I_X8_alter_136 K_8_161 Zm_136 rfl rfl
          clear H
          obtain ⟨r1, h1, Hc, K1, K2⟩ := W
          obtain ⟨e1, e2⟩ := t_X8_puts0 rfl Hc
          have H := K1 _ _ e1 e2
          clear e1 e2 Hc K1 K2
          obtain ⟨hr, hh⟩ := i_ir H I_X8_alter_139
          rw [hc] at c_116
          exact ⟨_, _, hr, hh, Or.inl ⟨fun q => zif0 c_116 q.1, rfl, rfl⟩⟩
        · skip
          replace H := i_il (q := 121) H I_X8_alter_119 rfl rfl
          have W := i_if_eq (t := 128) (q := 124) H I_X8_alter_121 (by decide) rfl
          clear H
          rcases W with ⟨c_121, H⟩ | ⟨c_121, H⟩
          · exact absurd c_121 (by decide)
          · skip
            replace H := i_icst (x := 1) (q := 125) H I_X8_alter_124 (by decide) rfl
            replace H := i_goto (q := 129) H I_X8_alter_125 (by decide)
            replace H := i_icst (x := 5) (q := 130) H I_X8_alter_129 (by decide) rfl
            replace H := i_iln (q := 131) H I_X8_alter_130 rfl rfl
            replace H := i_imul (q := 132) H I_X8_alter_131 rfl
            replace H := i_iln (q := 133) H I_X8_alter_132 rfl rfl
            replace H := i_iadd (q := 134) H I_X8_alter_133 rfl
            replace H := i_iln (q := 135) H I_X8_alter_134 rfl rfl
            replace H := i_icst (x := 0) (q := 136) H I_X8_alter_135 (by decide) rfl
            have W := i_cv4 1 (q := 139) H I_X8_alter_136 K_8_161 Zm_136 rfl rfl
            clear H
            obtain ⟨r1, h1, Hc, K1, K2⟩ := W
            rw [hc] at c_116
            obtain ⟨p, p1, hxp⟩ := zlt_n rfl (by omega) (zif1 c_116)
            rw [zin_bt (lo := 1) (hi := 2) rfl rfl] at c_88
            rw [zin_bt (lo := 0) (hi := 99) rfl rfl] at c_100
            have hA : gA2 w v := Or.inr ⟨zif1 c_88, zif1 c_100⟩
            obtain ⟨f, f1, hwf⟩ := gA2_f hA
            rcases t_X8_puts (zix_mul hwf hxp) (by omega) Hc with ⟨g1, e1, e2⟩ | ⟨g1, e1, e2⟩
            · exact absurd g1 (by decide)
            · have H := K1 _ _ e1 e2
              clear e1 e2 Hc K1 K2
              obtain ⟨hr, hh⟩ := i_ir H I_X8_alter_139
              exact ⟨_, _, hr, hh, Or.inr ⟨p, f, p1, hxp, f1, hwf, hA, by rw [Int32.add_zero], by rw [Int32.sub_zero]⟩⟩
  · skip
    replace H := i_iln (q := 68) H I_X8_alter_67 rfl rfl
    replace H := i_i2l (q := 69) H I_X8_alter_68 rfl
    replace H := i_lcst (x := 0) (q := 70) H I_X8_alter_69 (by decide) rfl
    replace H := i_ldc2 (x := 3) (q := 73) H I_X8_alter_70 J_8_155 (by decide) rfl
    replace H := i_in (q := 76) H I_X8_alter_73 K_8_55 rfl
    replace H := i_goto (q := 108) H I_X8_alter_76 (by decide)
    replace H := i_is (q := 110) H I_X8_alter_108 rfl rfl
    replace H := i_aln (q := 111) H I_X8_alter_110 rfl rfl
    replace H := i_aln (q := 112) H I_X8_alter_111 rfl rfl
    replace H := i_iln (q := 113) H I_X8_alter_112 rfl rfl
    have W := i_cv1 0 (q := 116) H I_X8_alter_113 K_8_151 Zm_127 rfl rfl
    clear H
    obtain ⟨r1, h1, Hc, K1, K2⟩ := W
    obtain ⟨e1, e2⟩ := t_X8_isOne hc hc5 Hc
    have H := K1 _ _ e1 e2
    clear e1 e2 Hc K1 K2
    have W := i_if_eq (t := 128) (q := 119) H I_X8_alter_116 (by decide) rfl
    clear H
    rcases W with ⟨c_116, H⟩ | ⟨c_116, H⟩
    · skip
      replace H := i_icst (x := 0) (q := 129) H I_X8_alter_128 (by decide) rfl
      replace H := i_icst (x := 5) (q := 130) H I_X8_alter_129 (by decide) rfl
      replace H := i_iln (q := 131) H I_X8_alter_130 rfl rfl
      replace H := i_imul (q := 132) H I_X8_alter_131 rfl
      replace H := i_iln (q := 133) H I_X8_alter_132 rfl rfl
      replace H := i_iadd (q := 134) H I_X8_alter_133 rfl
      replace H := i_iln (q := 135) H I_X8_alter_134 rfl rfl
      replace H := i_icst (x := 0) (q := 136) H I_X8_alter_135 (by decide) rfl
      have W := i_cv4 1 (q := 139) H I_X8_alter_136 K_8_161 Zm_136 rfl rfl
      clear H
      obtain ⟨r1, h1, Hc, K1, K2⟩ := W
      obtain ⟨e1, e2⟩ := t_X8_puts0 rfl Hc
      have H := K1 _ _ e1 e2
      clear e1 e2 Hc K1 K2
      obtain ⟨hr, hh⟩ := i_ir H I_X8_alter_139
      rw [hc] at c_116
      exact ⟨_, _, hr, hh, Or.inl ⟨fun q => zif0 c_116 q.1, rfl, rfl⟩⟩
    · skip
      replace H := i_il (q := 121) H I_X8_alter_119 rfl rfl
      have W := i_if_eq (t := 128) (q := 124) H I_X8_alter_121 (by decide) rfl
      clear H
      rcases W with ⟨c_121, H⟩ | ⟨c_121, H⟩
      · skip
        replace H := i_icst (x := 0) (q := 129) H I_X8_alter_128 (by decide) rfl
        replace H := i_icst (x := 5) (q := 130) H I_X8_alter_129 (by decide) rfl
        replace H := i_iln (q := 131) H I_X8_alter_130 rfl rfl
        replace H := i_imul (q := 132) H I_X8_alter_131 rfl
        replace H := i_iln (q := 133) H I_X8_alter_132 rfl rfl
        replace H := i_iadd (q := 134) H I_X8_alter_133 rfl
        replace H := i_iln (q := 135) H I_X8_alter_134 rfl rfl
        replace H := i_icst (x := 0) (q := 136) H I_X8_alter_135 (by decide) rfl
        have W := i_cv4 1 (q := 139) H I_X8_alter_136 K_8_161 Zm_136 rfl rfl
        clear H
        obtain ⟨r1, h1, Hc, K1, K2⟩ := W
        obtain ⟨e1, e2⟩ := t_X8_puts0 rfl Hc
        have H := K1 _ _ e1 e2
        clear e1 e2 Hc K1 K2
        obtain ⟨hr, hh⟩ := i_ir H I_X8_alter_139
        rw [zin_bt (lo := 0) (hi := 3) rfl rfl] at c_121
        exact ⟨_, _, hr, hh, Or.inl ⟨fun q => zif0 c_121 (gA2_0 c_64 q.2), rfl, rfl⟩⟩
      · skip
        replace H := i_icst (x := 1) (q := 125) H I_X8_alter_124 (by decide) rfl
        replace H := i_goto (q := 129) H I_X8_alter_125 (by decide)
        replace H := i_icst (x := 5) (q := 130) H I_X8_alter_129 (by decide) rfl
        replace H := i_iln (q := 131) H I_X8_alter_130 rfl rfl
        replace H := i_imul (q := 132) H I_X8_alter_131 rfl
        replace H := i_iln (q := 133) H I_X8_alter_132 rfl rfl
        replace H := i_iadd (q := 134) H I_X8_alter_133 rfl
        replace H := i_iln (q := 135) H I_X8_alter_134 rfl rfl
        replace H := i_icst (x := 0) (q := 136) H I_X8_alter_135 (by decide) rfl
        have W := i_cv4 1 (q := 139) H I_X8_alter_136 K_8_161 Zm_136 rfl rfl
        clear H
        obtain ⟨r1, h1, Hc, K1, K2⟩ := W
        rw [hc] at c_116
        obtain ⟨p, p1, hxp⟩ := zlt_n rfl (by omega) (zif1 c_116)
        rw [zin_bt (lo := 0) (hi := 3) rfl rfl] at c_121
        have hA : gA2 w v := Or.inl ⟨c_64, zif1 c_121⟩
        obtain ⟨f, f1, hwf⟩ := gA2_f hA
        rcases t_X8_puts (zix_mul hwf hxp) (by omega) Hc with ⟨g1, e1, e2⟩ | ⟨g1, e1, e2⟩
        · exact absurd g1 (by decide)
        · have H := K1 _ _ e1 e2
          clear e1 e2 Hc K1 K2
          obtain ⟨hr, hh⟩ := i_ir H I_X8_alter_139
          exact ⟨_, _, hr, hh, Or.inr ⟨p, f, p1, hxp, f1, hwf, hA, by rw [Int32.add_zero], by rw [Int32.sub_zero]⟩⟩
theorem t_X8_alter {d : Nat} {m : zM} {r : Option Value} {h' : zHp} {x w v : Int32} {c : Nat} (hc : m 71 2 = Int32.ofNat c) (hc5 : c ≤ 5) (H : zE none d zm_X8_alter 0 [.ref 71, .int x, .int w, .int v, .null] [] m r h') : ∃ m1 u, r = some (.int u) ∧ h' = zhp m1 ∧ ((¬ (zIs x c ∧ gAc w v) ∧ u = -1 ∧ m1 = m) ∨ (∃ p f, p < c ∧ x = Int32.ofNat p ∧ f ≤ 3 ∧ w = Int32.ofNat f ∧ gAc w v ∧ ((f < 3 ∧ u = m 72 (5 * f + p) ∧ m1 = zup m 72 (5 * f + p) v) ∨ (f = 3 ∧ u = zbt (m 72 15) p ∧ m1 = zup m 72 15 (zalt (m 72 15) x v))))) := by
  replace H := i_iln (q := 1) H I_X8_alter_0 rfl rfl
  replace H := i_icst (x := 3) (q := 2) H I_X8_alter_1 (by decide) rfl
  have W := i_ic_ne (t := 63) (q := 5) H I_X8_alter_2 (by decide) rfl
  clear H
  rcases W with ⟨c_2, H⟩ | ⟨c_2, H⟩
  · skip
    obtain ⟨m1, u, h1, h2, h3⟩ := t_alt63 hc hc5 H
    refine ⟨m1, u, h1, h2, ?_⟩
    rcases h3 with ⟨k1, k2, k3⟩ | ⟨p, f, k1, k2, k3, k4, k5, k6, k7⟩
    · exact Or.inl ⟨fun q => k1 ⟨q.1, gA2_c.mpr ⟨q.2, c_2⟩⟩, k2, k3⟩
    · exact Or.inr ⟨p, f, k1, k2, by omega, k4, (gA2_c.mp k5).1, Or.inl ⟨by omega, k6, k7⟩⟩
  · skip
    replace H := i_aln (q := 6) H I_X8_alter_5 rfl rfl
    replace H := i_iln (q := 7) H I_X8_alter_6 rfl rfl
    have W := i_cv1 0 (q := 10) H I_X8_alter_7 K_8_151 Zm_127 rfl rfl
    clear H
    obtain ⟨r1, h1, Hc, K1, K2⟩ := W
    obtain ⟨e1, e2⟩ := t_X8_isOne hc hc5 Hc
    have H := K1 _ _ e1 e2
    clear e1 e2 Hc K1 K2
    have W := i_if_eq (t := 63) (q := 13) H I_X8_alter_10 (by decide) rfl
    clear H
    rcases W with ⟨c_10, H⟩ | ⟨c_10, H⟩
    · skip
      rw [hc] at c_10
      obtain ⟨m1, u, h1, h2, h3⟩ := t_alt63 hc hc5 H
      refine ⟨m1, u, h1, h2, ?_⟩
      rcases h3 with ⟨k1, k2, k3⟩ | ⟨p, f, k1, k2, k3, k4, k5, k6, k7⟩
      · exact Or.inl ⟨fun q => zif0 c_10 q.1, k2, k3⟩
      · exact Or.inr ⟨p, f, k1, k2, by omega, k4, (gA2_c.mp k5).1, Or.inl ⟨by omega, k6, k7⟩⟩
    · skip
      replace H := i_iln (q := 14) H I_X8_alter_13 rfl rfl
      replace H := i_i2l (q := 15) H I_X8_alter_14 rfl
      replace H := i_lcst (x := 0) (q := 16) H I_X8_alter_15 (by decide) rfl
      replace H := i_lcst (x := 1) (q := 17) H I_X8_alter_16 (by decide) rfl
      replace H := i_in (q := 20) H I_X8_alter_17 K_8_55 rfl
      have W := i_if_eq (t := 63) (q := 23) H I_X8_alter_20 (by decide) rfl
      clear H
      rcases W with ⟨c_20, H⟩ | ⟨c_20, H⟩
      · skip
        rw [zin_bt (lo := 0) (hi := 1) rfl rfl] at c_20
        obtain ⟨m1, u, h1, h2, h3⟩ := t_alt63 hc hc5 H
        refine ⟨m1, u, h1, h2, ?_⟩
        rcases h3 with ⟨k1, k2, k3⟩ | ⟨p, f, k1, k2, k3, k4, k5, k6, k7⟩
        · refine Or.inl ⟨fun q => zif0 c_20 ?_, k2, k3⟩
          have h := q.2.2
          rw [c_2] at h
          exact h
        · exact Or.inr ⟨p, f, k1, k2, by omega, k4, (gA2_c.mp k5).1, Or.inl ⟨by omega, k6, k7⟩⟩
      · skip
        replace H := i_aln (q := 24) H I_X8_alter_23 rfl rfl
        replace H := i_gfr (q := 27) H I_X8_alter_24 G_8_7 cn_X8_alter LY_71 rfl rfl
        replace H := i_bip (x := 15) (q := 29) H I_X8_alter_27 (by decide) rfl
        have W := i_ia (q := 30) H I_X8_alter_29 LY_72 rfl
        clear H
        obtain ⟨i_29, bi_29, ei_29, H⟩ := W
        replace H := i_iln (q := 31) H I_X8_alter_30 rfl rfl
        replace H := i_ishr (q := 32) H I_X8_alter_31 rfl
        replace H := i_icst (x := 1) (q := 33) H I_X8_alter_32 (by decide) rfl
        replace H := i_iand (q := 34) H I_X8_alter_33 rfl
        replace H := i_is (q := 36) H I_X8_alter_34 rfl rfl
        replace H := i_aln (q := 37) H I_X8_alter_36 rfl rfl
        replace H := i_gfr (q := 40) H I_X8_alter_37 G_8_7 cn_X8_alter LY_71 rfl rfl
        replace H := i_bip (x := 15) (q := 42) H I_X8_alter_40 (by decide) rfl
        replace H := i_aln (q := 43) H I_X8_alter_42 rfl rfl
        replace H := i_gfr (q := 46) H I_X8_alter_43 G_8_7 cn_X8_alter LY_71 rfl rfl
        replace H := i_bip (x := 15) (q := 48) H I_X8_alter_46 (by decide) rfl
        have W := i_ia (q := 49) H I_X8_alter_48 LY_72 rfl
        clear H
        obtain ⟨i_48, bi_48, ei_48, H⟩ := W
        replace H := i_icst (x := 1) (q := 50) H I_X8_alter_49 (by decide) rfl
        replace H := i_iln (q := 51) H I_X8_alter_50 rfl rfl
        replace H := i_ishl (q := 52) H I_X8_alter_51 rfl
        replace H := i_icst (x := (-1)) (q := 53) H I_X8_alter_52 (by decide) rfl
        replace H := i_ixor (q := 54) H I_X8_alter_53 rfl
        replace H := i_iand (q := 55) H I_X8_alter_54 rfl
        replace H := i_iln (q := 56) H I_X8_alter_55 rfl rfl
        replace H := i_iln (q := 57) H I_X8_alter_56 rfl rfl
        replace H := i_ishl (q := 58) H I_X8_alter_57 rfl
        replace H := i_ior (q := 59) H I_X8_alter_58 rfl
        have W := i_iast (q := 60) H I_X8_alter_59 LY_72 rfl
        clear H
        obtain ⟨i_59, bi_59, ei_59, H⟩ := W
        replace H := i_il (q := 62) H I_X8_alter_60 rfl rfl
        obtain ⟨hr, hh⟩ := i_ir H I_X8_alter_62
        rw [hc] at c_10
        obtain ⟨p, p1, rfl⟩ := zlt_n rfl (by omega) (zif1 c_10)
        rw [zin_bt (lo := 0) (hi := 1) rfl rfl] at c_20
        have i1 : i_29 = 15 := (zofn (i := 15) ei_29 (by decide) (by omega)).symm
        subst i1
        have i2 : i_48 = 15 := (zofn (i := 15) ei_48 (by decide) (by omega)).symm
        subst i2
        have i3 : i_59 = 15 := (zofn (i := 15) ei_59 (by decide) (by omega)).symm
        subst i3
        subst c_2
        exact ⟨_, _, hr, hh, Or.inr ⟨p, 3, p1, rfl, by omega, rfl, ⟨⟨by decide, by decide⟩, zif1 c_20⟩, Or.inr ⟨rfl, rfl, rfl⟩⟩⟩
theorem pTx_b {t : Nat → Int32} {n : Nat} : ∀ (k : Nat) (σ : zPs) (l p : Nat) (q : zPs × Nat), pTx t n k σ l p = .inr q → (q.1.2.2.2.2 ||| q.1.2.1 15) >>> (Int32.ofNat q.1.1 &&& 31) = 0
  | 0, σ, l, p, q, h => by cases h
  | k + 1, σ, l, p, q, h => by
    rw [pTx] at h
    split at h
    · split at h
      · rename_i hz
        cases h
        exact hz
      · cases h
    · split at h
      · cases h
      · exact pTx_b k _ _ _ _ h
theorem zsr_t {y : Int32} {n : Nat} {s : Int32} (hs : (s.toBitVec.smod 32).toNat = n) (h : y >>> s = 0) : y.toInt / (2 ^ n : Nat) = 0 := by
  have e : (y >>> s).toBitVec.toInt = 0 := by rw [h]; rfl
  rw [Int32.toBitVec_shiftRight, BitVec.toInt_sshiftRight', hs, Int.shiftRight_eq_div_pow] at e
  exact e
theorem zsr0 {y : Int32} {c : Nat} (hc : c ≤ 5) (h : y >>> (Int32.ofNat c &&& 31) = 0) : ∃ n, n < 2 ^ c ∧ y = Int32.ofNat n := by
  have h1 : 0 ≤ y.toInt ∧ y.toInt < (2 ^ c : Nat) := by
    match c, hc with
    | 0, _ => have := zsr_t (n := 0) rfl h; simp at this; simp; omega
    | 1, _ => have := zsr_t (n := 1) rfl h; simp at this; simp; omega
    | 2, _ => have := zsr_t (n := 2) rfl h; simp at this; simp; omega
    | 3, _ => have := zsr_t (n := 3) rfl h; simp at this; simp; omega
    | 4, _ => have := zsr_t (n := 4) rfl h; simp at this; simp; omega
    | 5, _ => have := zsr_t (n := 5) rfl h; simp at this; simp; omega
  have h2 : 2 ^ c ≤ 32 := (zsh_c c hc).2.1
  refine ⟨y.toInt.toNat, by omega, ?_⟩
  apply Int32.toInt_inj.mp
  rw [zofn_t (by omega)]
  omega
theorem zalt_d : (List.range 6).all (fun c => (List.range c).all (fun p => (List.range 2).all (fun v => (List.range (2 ^ c)).all (fun n => decide ((zalt (Int32.ofNat n) (Int32.ofNat p) (Int32.ofNat v)).toNatClampNeg < 2 ^ c) && (decide (zalt (Int32.ofNat n) (Int32.ofNat p) (Int32.ofNat v) = Int32.ofNat (zalt (Int32.ofNat n) (Int32.ofNat p) (Int32.ofNat v)).toNatClampNeg) && (List.range c).all (fun i => decide (zbt (zalt (Int32.ofNat n) (Int32.ofNat p) (Int32.ofNat v)) i = if i = p then Int32.ofNat v else zbt (Int32.ofNat n) i))))))) = true := by decide +kernel
theorem zalt_b (c : Nat) (hc : c < 6) (p : Nat) (hp : p < c) (v : Nat) (hv : v < 2) (n : Nat) (hn : n < 2 ^ c) : (zalt (Int32.ofNat n) (Int32.ofNat p) (Int32.ofNat v)).toNatClampNeg < 2 ^ c ∧ zalt (Int32.ofNat n) (Int32.ofNat p) (Int32.ofNat v) = Int32.ofNat (zalt (Int32.ofNat n) (Int32.ofNat p) (Int32.ofNat v)).toNatClampNeg ∧ ∀ i, i < c → zbt (zalt (Int32.ofNat n) (Int32.ofNat p) (Int32.ofNat v)) i = if i = p then Int32.ofNat v else zbt (Int32.ofNat n) i := by
  have h1 := List.all_eq_true.mp zalt_d c (List.mem_range.mpr hc)
  have h2 := List.all_eq_true.mp h1 p (List.mem_range.mpr hp)
  have h3 := List.all_eq_true.mp h2 v (List.mem_range.mpr hv)
  have h4 := List.all_eq_true.mp h3 n (List.mem_range.mpr hn)
  rw [Bool.and_eq_true, Bool.and_eq_true] at h4
  exact ⟨of_decide_eq_true h4.1, of_decide_eq_true h4.2.1, fun i hi => of_decide_eq_true (List.all_eq_true.mp h4.2.2 i (List.mem_range.mpr hi))⟩
/-- RC without the tape, the sizes of what is seen, the lock -/
def qC1 (k i : Nat) : Bool := (Nat.beq k 71 && Nat.beq i 2) || (Nat.beq k 45 && Nat.blt i 2) || (Nat.beq k 82 && Nat.blt i 2) || (Nat.beq k 73 && Nat.blt i 4) || qLI k i 47 27 || qLI k i 55 54
theorem RC_y {m m1 : zM} (h : RC m) (he : zqe qC1 m m1) (hs : ∃ s, s ≤ 6 ∧ m1 40 3 = Int32.ofNat s ∧ m1 71 23 = Int32.ofNat s) (ht : ∃ n, RT m1 n) (hl : ∀ c, LI m 11 0 c → LI m1 11 0 c) : RC m1 := by
  obtain ⟨h1, ⟨k0, k1, k2, k3⟩, _, h5, c, c1, c2, c3⟩ := h
  have e45 : ∀ k, k < 2 → m1 45 k = m 45 k := fun k hk => by
    rcases zk2 hk with rfl | rfl
    · exact he 45 0 rfl rfl rfl
    · exact he 45 1 rfl rfl rfl
  refine ⟨ht, ⟨(he 73 0 rfl rfl rfl).trans k0, (he 73 1 rfl rfl rfl).trans k1, (he 73 2 rfl rfl rfl).trans k2, (he 73 3 rfl rfl rfl).trans k3⟩, hs, fun k hk => ?_, c, (he 71 2 rfl rfl rfl).trans c1, hl c c2, fun k hk hn => ?_⟩
  · rw [e45 k hk, h5 k hk]
    rcases zk2 hk with rfl | rfl
    · exact (he 82 0 rfl rfl rfl).symm
    · exact (he 82 1 rfl rfl rfl).symm
  · rw [e45 k hk] at hn
    rcases zk2 hk with rfl | rfl
    · exact LI_e (Or.inr (Or.inl ⟨rfl, rfl⟩)) (c3 0 hk hn) (fun k i a b q => he k i a b (by simp [qC1, q]))
    · exact LI_e (Or.inr (Or.inr ⟨rfl, rfl⟩)) (c3 1 hk hn) (fun k i a b q => he k i a b (by simp [qC1, q]))
theorem pc_feed {m : zM} {r : Option Value} {h' : zHp} {x0 : Int32} (ht : zTy m) (hR : RC m) (H : zEv none 19 zm_X7_feed (0, lv_args 0 [.ref 0, .int x0], [], zhp m) r h') : ∃ m1 v, r = some (.int v) ∧ h' = zhp m1 ∧ zTy m1 ∧ ∀ r2 h2, zEv none 19 zm_X8_feed (0, lv_args 0 [.ref 71, .int x0], [], zhp m1) r2 h2 → ∃ m2 v2, r2 = some (.int v2) ∧ h2 = zhp m2 ∧ zTy m2 ∧ RC m2 := by
  obtain ⟨n, hT⟩ := hR.1
  obtain ⟨m1, v, a1, a2, a3, a4, K⟩ := rt_feed ht hT H
  refine ⟨m1, v, a1, a2, a3, fun r2 h2 H2 => ?_⟩
  obtain ⟨m2, v2, b1, b2, b3, b4, b5⟩ := K r2 h2 H2
  have he : zqe (fun k i => qC0 k i || qLI k i 11 0) m m2 := zqe_t (zq_x (fun k i h => by simp only [qC, Bool.or_eq_true] at h ⊢; rcases h with h | h; exact Or.inl (Or.inr h); exact Or.inr h) qC_p (by decide +kernel) a4) (zq_x (fun k i h => by simp only [qC, Bool.or_eq_true] at h ⊢; rcases h with h | h; exact Or.inl (Or.inr h); exact Or.inr h) qC_p (by decide +kernel) b4)
  exact ⟨m2, v2, b1, b2, b3, RC_x hR (fun k i a b q => he k i a b (by simp [q])) b5 (fun c hc => LI_e (Or.inl ⟨rfl, rfl⟩) hc (fun k i a b q => he k i a b (by simp [q])))⟩
theorem pc_end {m : zM} {r : Option Value} {h' : zHp} {x0 : Int32} (ht : zTy m) (hR : RC m) (H : zEv none 19 zm_X7_end (0, lv_args 0 [.ref 0, .int x0], [], zhp m) r h') : ∃ m1 v, r = some (.int v) ∧ h' = zhp m1 ∧ zTy m1 ∧ ∀ r2 h2, zEv none 19 zm_X8_end (0, lv_args 0 [.ref 71, .int x0], [], zhp m1) r2 h2 → ∃ m2 v2, r2 = some (.int v2) ∧ h2 = zhp m2 ∧ zTy m2 ∧ RC m2 := by
  obtain ⟨n, hT⟩ := hR.1
  obtain ⟨m1, v, a1, a2, a3, a4, K⟩ := rt_end ht hT H
  refine ⟨m1, v, a1, a2, a3, fun r2 h2 H2 => ?_⟩
  obtain ⟨m2, v2, b1, b2, b3, b4, b5⟩ := K r2 h2 H2
  have he : zqe (fun k i => qC0 k i || qLI k i 11 0) m m2 := zqe_t (zq_x (fun k i h => by simp only [qC, Bool.or_eq_true] at h ⊢; rcases h with h | h; exact Or.inl (Or.inr h); exact Or.inr h) qC_p (by decide +kernel) a4) (zq_x (fun k i h => by simp only [qC, Bool.or_eq_true] at h ⊢; rcases h with h | h; exact Or.inl (Or.inr h); exact Or.inr h) qC_p (by decide +kernel) b4)
  exact ⟨m2, v2, b1, b2, b3, RC_x hR (fun k i a b q => he k i a b (by simp [q])) b5 (fun c hc => LI_e (Or.inl ⟨rfl, rfl⟩) hc (fun k i a b q => he k i a b (by simp [q])))⟩
theorem pc_text {m : zM} {r : Option Value} {h' : zHp} (ht : zTy m) (hR : RC m) (H : zEv none 19 zm_X7_text (0, lv_args 0 [.ref 0], [], zhp m) r h') : ∃ m1 v, r = some (.int v) ∧ h' = zhp m1 ∧ zTy m1 ∧ ∀ r2 h2, zEv none 19 zm_X8_text (0, lv_args 0 [.ref 71], [], zhp m1) r2 h2 → ∃ m2 v2, r2 = some (.int v2) ∧ h2 = zhp m2 ∧ zTy m2 ∧ RC m2 ∧ v = v2 := by
  have hR0 := hR
  obtain ⟨n, hT⟩ := hR.1
  obtain ⟨m1, b1, t1, f1, b2, b3, K⟩ := tx_pair ht hT H
  cases hx : pTx (m 2) n 161 zP0 0 0 with
  | inl f =>
    rw [hx] at b3
    refine ⟨m1, _, b3.1, b1, t1, fun r2 h2 H2 => ?_⟩
    obtain ⟨m2, c1, t2, f2, c2, c3⟩ := K r2 h2 H2
    rw [hx] at c3
    refine ⟨m2, _, c3.1, c1, t2, RC_x hR0 (fun k i x y q => ?_) ⟨0, ?_, c2, by omega, fun i hi => by omega⟩ (fun c hc => LI_e (Or.inl ⟨rfl, rfl⟩) hc (fun k i x y q => ?_)), rfl⟩
    · simp only [qC0, qLI, Bool.or_eq_true, Bool.and_eq_true, Nat.beq_eq, Nat.blt_eq, Nat.ble_eq] at q
      rw [c3.2.2 k i (by omega) (by omega), b3.2.2 k i (by omega) (by omega)]
    · rw [f2 1 2 ⟨_, LY_1, rfl⟩ (by decide +kernel)]; exact b2
    · simp only [qLI, Bool.or_eq_true, Bool.and_eq_true, Nat.beq_eq, Nat.blt_eq, Nat.ble_eq] at q
      rw [c3.2.2 k i (by omega) (by omega), b3.2.2 k i (by omega) (by omega)]
  | inr q =>
    rw [hx] at b3
    refine ⟨m1, _, b3.1, b1, t1, fun r2 h2 H2 => ?_⟩
    obtain ⟨m2, c1, t2, f2, c2, c3⟩ := K r2 h2 H2
    rw [hx] at c3
    obtain ⟨y1, y2, y3, y4, y5, y6, y7⟩ := b3
    obtain ⟨z1, z2, z3, z4, z5, z6, z7, z8, z9⟩ := c3
    have e : ∀ a b, a < 71 → m2 a b = m1 a b := fun a b h => z9 a b (by omega) (by omega) (by omega) (by omega)
    have k0 : ∀ k, k < 2 → m2 45 k = 0 := fun k hk => by
      rw [e 45 k (by omega)]
      rcases zk2 hk with rfl | rfl
      · exact y5
      · exact y6
    have hM : ∀ j, j < 4 → m2 73 j = m 73 j := fun j hj => by
      rw [z9 73 j (by omega) (by omega) (by omega) (by omega), y7 73 j (by omega) (by omega) (by omega) (by omega)]
    obtain ⟨_, ⟨u0, u1, u2, u3⟩, _⟩ := hR0
    refine ⟨m2, _, z1, c1, t2, ⟨⟨0, ?_, c2, by omega, fun i hi => by omega⟩, ⟨(hM 0 (by omega)).trans u0, (hM 1 (by omega)).trans u1, (hM 2 (by omega)).trans u2, (hM 3 (by omega)).trans u3⟩, ⟨0, by omega, by rw [e 40 3 (by omega)]; exact y4, z6⟩, fun k hk => ?_, q.1.1, z3, ⟨LV_g (LV_f y3 (fun a b h1 h2 => e a b (by omega))) (fun j hj => ?_), ?_⟩, fun k hk hn => absurd (k0 k hk) hn⟩, rfl⟩
    · rw [e 1 2 (by omega)]; exact b2
    · rw [k0 k hk]
      rcases zk2 hk with rfl | rfl
      · exact z7.symm
      · exact z8.symm
    · show m2 72 (0 + j) = q.1.2.1 j
      rw [Nat.zero_add]
      exact z5 j hj
    · have hb := pTx_b _ _ _ _ _ hx
      rw [Int32.shiftRight_or, Int32.or_eq_zero_iff] at hb
      obtain ⟨x, x1, x2⟩ := zsr0 z4 hb.2
      exact ⟨x, x1, by show m2 72 (0 + 15) = Int32.ofNat x; rw [z5 (0 + 15) (by omega)]; exact x2⟩
theorem pc_slack {m : zM} {r : Option Value} {h' : zHp} {x0 : Int32} (ht : zTy m) (hR : RC m) (H : zEv none 19 zm_X7_slack (0, lv_args 0 [.ref 0, .int x0], [], zhp m) r h') : ∃ m1 v, r = some (.int v) ∧ h' = zhp m1 ∧ zTy m1 ∧ ∀ r2 h2, zEv none 19 zm_X8_slack (0, lv_args 0 [.ref 71, .int x0], [], zhp m1) r2 h2 → ∃ m2 v2, r2 = some (.int v2) ∧ h2 = zhp m2 ∧ zTy m2 ∧ RC m2 ∧ v = v2 := by
  have hR0 := hR
  obtain ⟨⟨n, h1⟩, hM, ⟨s, s1, s2, s3⟩, h5, c, c1, hI, h6⟩ := hR
  have hI0 := hI
  obtain ⟨⟨a1, c5, a3, a4, a5, a, a6, a7, a8, a9⟩, nb, nb1, nb2⟩ := hI
  simp only [pgf, Nat.zero_add] at a3 a4 a5 a7 a9 nb2
  obtain ⟨m1, v, b1, b2, b3⟩ := t_X7_slack (zE_of 1 rfl H)
  obtain ⟨q1, q2, q3, q4, q5, q6⟩ := e_X7_slack ht H
  obtain ⟨t1, f1⟩ := eng_m b2 q4 q5 q6
  refine ⟨m1, v, b1, b2, t1, fun r2 h2 H2 => ?_⟩
  have g0 : m1 72 (0 + 16) = m 72 (0 + 16) := f1 72 (0 + 16) (zpl_r LY_72 (by omega)) (by decide +kernel)
  obtain ⟨m2, v2, d1, d2, d3⟩ := t_X8_slack (zE_of 0 rfl H2)
  obtain ⟨u1, u2, u3, u4, u5, u6⟩ := e_X8_slack t1 H2
  obtain ⟨t2, f2⟩ := eng_m d2 u4 u5 u6
  refine ⟨m2, v2, d1, d2, t2, ?_⟩
  rcases b3 with ⟨o1, rfl, rfl⟩ | ⟨o1, rfl, rfl⟩
  · rcases d3 with ⟨_, rfl, rfl⟩ | ⟨o2, _⟩
    · exact ⟨hR0, rfl⟩
    · exact absurd (o2) o1
  · rcases d3 with ⟨o2, _⟩ | ⟨_, rfl, rfl⟩
    · exact absurd (o1) o2
    · refine ⟨RC_x hR0 (fun k i _ _ q => by
        simp only [qC0, qLI, Bool.or_eq_true, Bool.and_eq_true, Nat.beq_eq, Nat.blt_eq, Nat.ble_eq] at q
        rw [zup_n (by omega), zup_n (by omega)]) (⟨n, RT_e h1 (fun k i _ _ q => by
        simp only [qT, Bool.or_eq_true, Bool.and_eq_true, Nat.beq_eq, Nat.blt_eq, Nat.ble_eq] at q
        rw [zup_n (by omega), zup_n (by omega)])⟩) (fun c' hc' => ?_), ?_⟩
      · skip
        have ec : c' = c := zofn (hc'.1.1.symm.trans a1) (by have := hc'.1.2.1; omega) (by omega)
        subst ec
        exact ⟨⟨by rw [zup_n (by omega), zup_n (by omega)]; exact a1, c5, fun i hi => ⟨by simp only [pgf, Nat.zero_add]; rw [zup_n (by omega), zup_n (by omega), zup_n (by omega), zup_n (by omega)]; exact (a3 i hi).1, by simp only [pgf, Nat.zero_add]; rw [zup_n (by omega), zup_n (by omega), zup_n (by omega), zup_n (by omega)]; exact (a3 i hi).2.1, by simp only [pgf, Nat.zero_add]; rw [zup_n (by omega), zup_n (by omega), zup_n (by omega), zup_n (by omega)]; exact (a3 i hi).2.2.1, by simp only [pgf, Nat.zero_add]; rw [zup_n (by omega), zup_n (by omega), zup_n (by omega), zup_n (by omega)]; exact (a3 i hi).2.2.2⟩, by simp only [pgf, Nat.zero_add]; rw [zup_n (by omega), zup_s, zup_s, Int32.sub_add_cancel], by simp only [pgf, Nat.zero_add]; rw [zup_n (by omega), zup_n (by omega), zup_n (by omega), zup_n (by omega)]; exact a5, a, a6, by simp only [pgf, Nat.zero_add]; rw [zup_n (by omega), zup_n (by omega)]; exact a7, by rw [zup_n (by omega), zup_n (by omega)]; exact a8, fun i hi => by simp only [pgf, Nat.zero_add]; rw [zup_n (by omega), zup_n (by omega), zup_n (by omega), zup_n (by omega)]; exact a9 i hi⟩, nb, nb1, by simp only [pgf, Nat.zero_add]; rw [zup_n (by omega), zup_n (by omega)]; exact nb2⟩
      · rw [zup_n (by omega)]
        exact a4
theorem pc_act {m : zM} {r : Option Value} {h' : zHp} {x0 : Int32} (ht : zTy m) (hR : RC m) (H : zEv none 19 zm_X7_act (0, lv_args 0 [.ref 0, .int x0], [], zhp m) r h') : ∃ m1 v, r = some (.int v) ∧ h' = zhp m1 ∧ zTy m1 ∧ ∀ r2 h2, zEv none 19 zm_X8_act (0, lv_args 0 [.ref 71, .int x0], [], zhp m1) r2 h2 → ∃ m2 v2, r2 = some (.int v2) ∧ h2 = zhp m2 ∧ zTy m2 ∧ RC m2 ∧ v = v2 := by
  have hR0 := hR
  obtain ⟨⟨n, h1⟩, hM, ⟨s, s1, s2, s3⟩, h5, c, c1, hI, h6⟩ := hR
  have hI0 := hI
  obtain ⟨⟨a1, c5, a3, a4, a5, a, a6, a7, a8, a9⟩, nb, nb1, nb2⟩ := hI
  simp only [pgf, Nat.zero_add] at a3 a4 a5 a7 a9 nb2
  obtain ⟨v, b1, b2, b3⟩ := t_X7_act a8 a6 (zE_of 0 rfl H)
  refine ⟨m, v, b1, b2, ht, fun r2 h2 H2 => ?_⟩
  have a7' : m 72 26 = Int32.ofNat a := a7
  obtain ⟨v2, d1, d2, d3⟩ := t_X8_act a7' a6 (zE_of 0 rfl H2)
  refine ⟨m, v2, d1, d2, ht, hR0, ?_⟩
  rw [a8] at b3
  rw [a7'] at d3
  rcases b3 with ⟨o1, rfl⟩ | ⟨o1, k, k1, k8, rfl⟩
  · rcases d3 with ⟨_, rfl⟩ | ⟨o2, _⟩
    · rfl
    · exact absurd o2 o1
  · rcases d3 with ⟨o2, _⟩ | ⟨_, k2, k3, k9, rfl⟩
    · exact absurd o1 o2
    · have e : k = k2 := zofn (k8.symm.trans k9) (by omega) (by omega)
      subst e
      rw [k8, zofn_lt (by omega) (by omega)] at o1
      have h := a9 k o1.2
      exact h
theorem pc_cut {m : zM} {r : Option Value} {h' : zHp} {x0 : Int32} (ht : zTy m) (hR : RC m) (H : zEv none 19 zm_X7_cut (0, lv_args 0 [.ref 0, .int x0], [], zhp m) r h') : ∃ m1 v, r = some (.int v) ∧ h' = zhp m1 ∧ zTy m1 ∧ ∀ r2 h2, zEv none 19 zm_X8_cut (0, lv_args 0 [.ref 71, .int x0], [], zhp m1) r2 h2 → ∃ m2 v2, r2 = some (.int v2) ∧ h2 = zhp m2 ∧ zTy m2 ∧ RC m2 ∧ v = v2 := by
  have hR0 := hR
  obtain ⟨⟨n, h1⟩, hM, ⟨s, s1, s2, s3⟩, h5, c, c1, hI, h6⟩ := hR
  have hI0 := hI
  obtain ⟨⟨a1, c5, a3, a4, a5, a, a6, a7, a8, a9⟩, nb, nb1, nb2⟩ := hI
  simp only [pgf, Nat.zero_add] at a3 a4 a5 a7 a9 nb2
  obtain ⟨m1, v, b1, b2, b3⟩ := t_X7_cut (zE_of 1 rfl H)
  obtain ⟨q1, q2, q3, q4, q5, q6⟩ := e_X7_cut ht H
  obtain ⟨t1, f1⟩ := eng_m b2 q4 q5 q6
  refine ⟨m1, v, b1, b2, t1, fun r2 h2 H2 => ?_⟩
  have a7' : m 72 26 = Int32.ofNat a := a7
  have g0 : m1 72 26 = m 11 3 := (f1 72 26 (zpl_r LY_72 (by omega)) (by decide +kernel)).trans (a7'.trans a8.symm)
  obtain ⟨m2, v2, d1, d2, d3⟩ := t_X8_cut (zE_of 0 rfl H2)
  obtain ⟨u1, u2, u3, u4, u5, u6⟩ := e_X8_cut t1 H2
  obtain ⟨t2, f2⟩ := eng_m d2 u4 u5 u6
  refine ⟨m2, v2, d1, d2, t2, ?_⟩
  rcases b3 with ⟨o1, rfl, rfl⟩ | ⟨o1, rfl, rfl⟩
  · rcases d3 with ⟨_, rfl, rfl⟩ | ⟨o2, _⟩
    · exact ⟨hR0, rfl⟩
    · exact absurd (by rw [g0] at o2; exact o2) o1
  · rcases d3 with ⟨o2, _⟩ | ⟨_, rfl, rfl⟩
    · exact absurd (by rw [g0]; exact o1) o2
    · obtain ⟨j, j1, rfl⟩ := zbt_n a8 (by omega) o1
      refine ⟨RC_x hR0 (fun k i _ _ q => by
        simp only [qC0, qLI, Bool.or_eq_true, Bool.and_eq_true, Nat.beq_eq, Nat.blt_eq, Nat.ble_eq] at q
        rw [zup_n (by omega), zup_n (by omega)]) (⟨n, RT_e h1 (fun k i _ _ q => by
        simp only [qT, Bool.or_eq_true, Bool.and_eq_true, Nat.beq_eq, Nat.blt_eq, Nat.ble_eq] at q
        rw [zup_n (by omega), zup_n (by omega)])⟩) (fun c' hc' => ?_), ?_⟩
      · skip
        have ec : c' = c := zofn (hc'.1.1.symm.trans a1) (by have := hc'.1.2.1; omega) (by omega)
        subst ec
        exact ⟨⟨by rw [zup_n (by omega), zup_n (by omega)]; exact a1, c5, fun i hi => ⟨by simp only [pgf, Nat.zero_add]; rw [zup_n (by omega), zup_n (by omega), zup_n (by omega), zup_n (by omega)]; exact (a3 i hi).1, by simp only [pgf, Nat.zero_add]; rw [zup_n (by omega), zup_n (by omega), zup_n (by omega), zup_n (by omega)]; exact (a3 i hi).2.1, by simp only [pgf, Nat.zero_add]; rw [zup_n (by omega), zup_n (by omega), zup_n (by omega), zup_n (by omega)]; exact (a3 i hi).2.2.1, by simp only [pgf, Nat.zero_add]; rw [zup_n (by omega), zup_n (by omega), zup_n (by omega), zup_n (by omega)]; exact (a3 i hi).2.2.2⟩, by simp only [pgf, Nat.zero_add]; rw [zup_n (by omega), zup_n (by omega), zup_n (by omega), zup_n (by omega)]; exact a4, by simp only [pgf, Nat.zero_add]; rw [zup_n (by omega), zup_n (by omega), zup_n (by omega), zup_n (by omega)]; exact a5, j, by omega, by simp only [pgf, Nat.zero_add]; rw [zup_s], by rw [zup_n (by omega), zup_s], fun i hi => by simp only [pgf, Nat.zero_add]; rw [zup_n (by omega), zup_n (by omega), zup_n (by omega), zup_n (by omega)]; exact a9 i (by omega)⟩, nb, nb1, by simp only [pgf, Nat.zero_add]; rw [zup_n (by omega), zup_n (by omega)]; exact nb2⟩
      · rw [zup_n (by omega)]
        exact a8.trans a7'.symm
theorem pc_plan {m : zM} {r : Option Value} {h' : zHp} {x0 : Int32} (ht : zTy m) (hR : RC m) (H : zEv none 19 zm_X7_plan (0, lv_args 0 [.ref 0, .int x0], [], zhp m) r h') : ∃ m1 v, r = some (.int v) ∧ h' = zhp m1 ∧ zTy m1 ∧ ∀ r2 h2, zEv none 19 zm_X8_plan (0, lv_args 0 [.ref 71, .int x0], [], zhp m1) r2 h2 → ∃ m2 v2, r2 = some (.int v2) ∧ h2 = zhp m2 ∧ zTy m2 ∧ RC m2 ∧ v = v2 := by
  have hR0 := hR
  obtain ⟨⟨n, h1⟩, hM, ⟨s, s1, s2, s3⟩, h5, c, c1, hI, h6⟩ := hR
  have hI0 := hI
  obtain ⟨⟨a1, c5, a3, a4, a5, a, a6, a7, a8, a9⟩, nb, nb1, nb2⟩ := hI
  simp only [pgf, Nat.zero_add] at a3 a4 a5 a7 a9 nb2
  obtain ⟨m1, v, b1, b2, b3⟩ := t_X7_plan a1 c5 a8 a6 (zE_of 0 rfl H)
  obtain ⟨q1, q2, q3, q4, q5, q6⟩ := e_X7_plan ht H
  obtain ⟨t1, f1⟩ := eng_m b2 q4 q5 q6
  refine ⟨m1, v, b1, b2, t1, fun r2 h2 H2 => ?_⟩
  have g0 : m1 71 2 = Int32.ofNat c := (f1 71 2 ⟨_, LY_71, rfl⟩ (by decide +kernel)).trans c1
  have g1 : m1 72 26 = Int32.ofNat a := (f1 72 26 (zpl_r LY_72 (by omega)) (by decide +kernel)).trans a7
  rw [a1] at b3
  obtain ⟨m2, v2, d1, d2, d3⟩ := t_X8_plan g0 c5 g1 a6 (zE_of 0 rfl H2)
  obtain ⟨u1, u2, u3, u4, u5, u6⟩ := e_X8_plan t1 H2
  obtain ⟨t2, f2⟩ := eng_m d2 u4 u5 u6
  refine ⟨m2, v2, d1, d2, t2, ?_⟩
  rw [g0] at d3
  rcases b3 with ⟨o1, rfl, rfl⟩ | ⟨o1, e8, rfl, rfl⟩ | ⟨o1, e8, rfl, rfl⟩
  · rcases d3 with ⟨_, rfl, rfl⟩ | ⟨o2, _⟩ | ⟨o2, _⟩
    · exact ⟨hR0, rfl⟩
    · exact absurd o2 o1
    · exact absurd o2 o1
  · rcases d3 with ⟨o2, _⟩ | ⟨_, _, rfl, rfl⟩ | ⟨_, e9, _⟩
    · exact absurd o1 o2
    · exact ⟨hR0, rfl⟩
    · omega
  · rcases d3 with ⟨o2, _⟩ | ⟨_, e9, _⟩ | ⟨_, _, rfl, rfl⟩
    · exact absurd o1 o2
    · omega
    · refine ⟨RC_x hR0 (fun k i _ _ q => by
        simp only [qC0, qLI, Bool.or_eq_true, Bool.and_eq_true, Nat.beq_eq, Nat.blt_eq, Nat.ble_eq] at q
        rw [zup_n (by omega), zup_n (by omega), zup_n (by omega), zup_n (by omega)]) (⟨n, RT_e h1 (fun k i _ _ q => by
        simp only [qT, Bool.or_eq_true, Bool.and_eq_true, Nat.beq_eq, Nat.blt_eq, Nat.ble_eq] at q
        rw [zup_n (by omega), zup_n (by omega), zup_n (by omega), zup_n (by omega)])⟩) (fun c' hc' => ?_), ?_⟩
      · skip
        have ec : c' = c := zofn (hc'.1.1.symm.trans a1) (by have := hc'.1.2.1; omega) (by omega)
        subst ec
        exact ⟨⟨by rw [zup_n (by omega), zup_n (by omega), zup_n (by omega), zup_n (by omega)]; exact a1, c5, fun i hi => ⟨by simp only [pgf, Nat.zero_add]; rw [zup_n (by omega), zup_n (by omega), zup_n (by omega), zup_n (by omega), zup_n (by omega), zup_n (by omega), zup_n (by omega), zup_n (by omega)]; exact (a3 i hi).1, by simp only [pgf, Nat.zero_add]; rw [zup_n (by omega), zup_n (by omega), zup_n (by omega), zup_n (by omega), zup_n (by omega), zup_n (by omega), zup_n (by omega), zup_n (by omega)]; exact (a3 i hi).2.1, by simp only [pgf, Nat.zero_add]; rw [zup_n (by omega), zup_n (by omega), zup_n (by omega), zup_n (by omega), zup_n (by omega), zup_n (by omega), zup_n (by omega), zup_n (by omega)]; exact (a3 i hi).2.2.1, by simp only [pgf, Nat.zero_add]; rw [zup_n (by omega), zup_n (by omega), zup_n (by omega), zup_n (by omega), zup_n (by omega), zup_n (by omega), zup_n (by omega), zup_n (by omega)]; exact (a3 i hi).2.2.2⟩, by simp only [pgf, Nat.zero_add]; rw [zup_n (by omega), zup_n (by omega), zup_n (by omega), zup_n (by omega), zup_n (by omega), zup_n (by omega), zup_n (by omega), zup_n (by omega)]; exact a4, by simp only [pgf, Nat.zero_add]; rw [zup_n (by omega), zup_n (by omega), zup_n (by omega), zup_n (by omega), zup_n (by omega), zup_n (by omega), zup_n (by omega), zup_n (by omega)]; exact a5, a + 1, by omega, by simp only [pgf, Nat.zero_add]; rw [zup_s], by rw [zup_n (by omega), zup_n (by omega), zup_s], fun i hi => by
          simp only [pgf, Nat.zero_add]
          by_cases hia : i = a
          · subst hia
            rw [zup_n (by omega), zup_n (by omega), zup_n (by omega), zup_s, zup_n (by omega), zup_s]
          · rw [zup_n (by omega), zup_n (by omega), zup_n (by omega), zup_n (by omega), zup_n (by omega), zup_n (by omega), zup_n (by omega), zup_n (by omega)]; exact a9 i (by omega)⟩, nb, nb1, by simp only [pgf, Nat.zero_add]; rw [zup_n (by omega), zup_n (by omega), zup_n (by omega), zup_n (by omega)]; exact nb2⟩
      · rfl
theorem pc_forget {m : zM} {r : Option Value} {h' : zHp} {x0 : Int32} (ht : zTy m) (hR : RC m) (H : zEv none 19 zm_X7_forget (0, lv_args 0 [.ref 0, .int x0], [], zhp m) r h') : ∃ m1 v, r = some (.int v) ∧ h' = zhp m1 ∧ zTy m1 ∧ ∀ r2 h2, zEv none 19 zm_X8_forget (0, lv_args 0 [.ref 71, .int x0], [], zhp m1) r2 h2 → ∃ m2 v2, r2 = some (.int v2) ∧ h2 = zhp m2 ∧ zTy m2 ∧ RC m2 ∧ v = v2 := by
  have hR0 := hR
  obtain ⟨⟨n, h1⟩, hM, ⟨s, s1, s2, s3⟩, h5, c, c1, hI, h6⟩ := hR
  have hI0 := hI
  obtain ⟨⟨a1, c5, a3, a4, a5, a, a6, a7, a8, a9⟩, nb, nb1, nb2⟩ := hI
  simp only [pgf, Nat.zero_add] at a3 a4 a5 a7 a9 nb2
  obtain ⟨m1, v, b1, b2, b3⟩ := t_X7_forget (zE_of 1 rfl H)
  obtain ⟨q1, q2, q3, q4, q5, q6⟩ := e_X7_forget ht H
  obtain ⟨t1, f1⟩ := eng_m b2 q4 q5 q6
  refine ⟨m1, v, b1, b2, t1, fun r2 h2 H2 => ?_⟩
  have g0 : m1 71 23 = m 40 3 := (f1 71 23 ⟨_, LY_71, rfl⟩ (by decide +kernel)).trans (s3.trans s2.symm)
  obtain ⟨m2, v2, d1, d2, d3⟩ := t_X8_forget (zE_of 1 rfl H2)
  obtain ⟨u1, u2, u3, u4, u5, u6⟩ := e_X8_forget t1 H2
  obtain ⟨t2, f2⟩ := eng_m d2 u4 u5 u6
  refine ⟨m2, v2, d1, d2, t2, ?_⟩
  rcases b3 with ⟨o1, rfl, rfl⟩ | ⟨o1, rfl, rfl⟩
  · rcases d3 with ⟨_, rfl, rfl⟩ | ⟨o2, _⟩
    · exact ⟨hR0, rfl⟩
    · exact absurd (by rw [g0] at o2; exact o2) o1
  · rcases d3 with ⟨o2, _⟩ | ⟨_, rfl, rfl⟩
    · exact absurd (by rw [g0]; exact o1) o2
    · obtain ⟨j, j1, rfl⟩ := zbt_n s2 (by omega) o1
      refine ⟨RC_y hR0 (fun k i _ _ q => by
        simp only [qC1, qLI, Bool.or_eq_true, Bool.and_eq_true, Nat.beq_eq, Nat.blt_eq, Nat.ble_eq] at q
        rw [zup_n (by omega), zup_n (by omega)]) ⟨j, by omega, by rw [zup_n (by omega), zup_s], by rw [zup_s]⟩ (⟨n, RT_e h1 (fun k i _ _ q => by
        simp only [qT, Bool.or_eq_true, Bool.and_eq_true, Nat.beq_eq, Nat.blt_eq, Nat.ble_eq] at q
        rw [zup_n (by omega), zup_n (by omega)])⟩) (fun c' hc' => LI_e (Or.inl ⟨rfl, rfl⟩) hc' (fun k i _ _ q => by
        simp only [qLI, Bool.or_eq_true, Bool.and_eq_true, Nat.beq_eq, Nat.blt_eq, Nat.ble_eq] at q
        rw [zup_n (by omega), zup_n (by omega)])), ?_⟩
      rw [zup_n (by omega)]
      exact s2.trans s3.symm
theorem pc_see {m : zM} {r : Option Value} {h' : zHp} {x0 x1 : Int32} (ht : zTy m) (hR : RC m) (H : zEv none 19 zm_X7_see (0, lv_args 0 [.ref 0, .int x0, .int x1], [], zhp m) r h') : ∃ m1 v, r = some (.int v) ∧ h' = zhp m1 ∧ zTy m1 ∧ ∀ r2 h2, zEv none 19 zm_X8_see (0, lv_args 0 [.ref 71, .int x0, .int x1], [], zhp m1) r2 h2 → ∃ m2 v2, r2 = some (.int v2) ∧ h2 = zhp m2 ∧ zTy m2 ∧ RC m2 ∧ v = v2 := by
  have hR0 := hR
  obtain ⟨⟨n, h1⟩, hM, ⟨s, s1, s2, s3⟩, h5, c, c1, hI, h6⟩ := hR
  have hI0 := hI
  obtain ⟨⟨a1, c5, a3, a4, a5, a, a6, a7, a8, a9⟩, nb, nb1, nb2⟩ := hI
  simp only [pgf, Nat.zero_add] at a3 a4 a5 a7 a9 nb2
  obtain ⟨m1, v, b1, b2, b3⟩ := t_X7_see s2 s1 (zE_of 0 rfl H)
  obtain ⟨q1, q2, q3, q4, q5, q6⟩ := e_X7_see ht H
  obtain ⟨t1, f1⟩ := eng_m b2 q4 q5 q6
  refine ⟨m1, v, b1, b2, t1, fun r2 h2 H2 => ?_⟩
  have g0 : m1 71 2 = Int32.ofNat c := (f1 71 2 ⟨_, LY_71, rfl⟩ (by decide +kernel)).trans c1
  have g1 : m1 71 23 = Int32.ofNat s := (f1 71 23 ⟨_, LY_71, rfl⟩ (by decide +kernel)).trans s3
  rw [a1] at b3
  obtain ⟨m2, v2, d1, d2, d3⟩ := t_X8_see g0 c5 g1 s1 (zE_of 0 rfl H2)
  obtain ⟨u1, u2, u3, u4, u5, u6⟩ := e_X8_see t1 H2
  obtain ⟨t2, f2⟩ := eng_m d2 u4 u5 u6
  refine ⟨m2, v2, d1, d2, t2, ?_⟩
  rw [g0] at d3
  rcases b3 with ⟨o1, rfl, rfl⟩ | ⟨o1, e8, rfl, rfl⟩ | ⟨o1, e8, rfl, rfl⟩
  · rcases d3 with ⟨_, rfl, rfl⟩ | ⟨o2, _⟩ | ⟨o2, _⟩
    · exact ⟨hR0, rfl⟩
    · exact absurd o2 o1
    · exact absurd o2 o1
  · rcases d3 with ⟨o2, _⟩ | ⟨_, _, rfl, rfl⟩ | ⟨_, e9, _⟩
    · exact absurd o1 o2
    · exact ⟨hR0, rfl⟩
    · omega
  · rcases d3 with ⟨o2, _⟩ | ⟨_, e9, _⟩ | ⟨_, _, rfl, rfl⟩
    · exact absurd o1 o2
    · omega
    · refine ⟨RC_y hR0 (fun k i _ _ q => by
        simp only [qC1, qLI, Bool.or_eq_true, Bool.and_eq_true, Nat.beq_eq, Nat.blt_eq, Nat.ble_eq] at q
        rw [zup_n (by omega), zup_n (by omega), zup_n (by omega), zup_n (by omega), zup_n (by omega), zup_n (by omega)]) ⟨s + 1, by omega, by rw [zup_n (by omega), zup_n (by omega), zup_n (by omega), zup_s], by rw [zup_s]⟩ (⟨n, RT_e h1 (fun k i _ _ q => by
        simp only [qT, Bool.or_eq_true, Bool.and_eq_true, Nat.beq_eq, Nat.blt_eq, Nat.ble_eq] at q
        rw [zup_n (by omega), zup_n (by omega), zup_n (by omega), zup_n (by omega), zup_n (by omega), zup_n (by omega)])⟩) (fun c' hc' => LI_e (Or.inl ⟨rfl, rfl⟩) hc' (fun k i _ _ q => by
        simp only [qLI, Bool.or_eq_true, Bool.and_eq_true, Nat.beq_eq, Nat.blt_eq, Nat.ble_eq] at q
        rw [zup_n (by omega), zup_n (by omega), zup_n (by omega), zup_n (by omega), zup_n (by omega), zup_n (by omega)])), ?_⟩
      rfl
theorem pc_keep {m : zM} {r : Option Value} {h' : zHp} {x0 : Int32} (ht : zTy m) (hR : RC m) (H : zEv none 19 zm_X7_keep (0, lv_args 0 [.ref 0, .int x0], [], zhp m) r h') : ∃ m1 v, r = some (.int v) ∧ h' = zhp m1 ∧ zTy m1 ∧ ∀ r2 h2, zEv none 19 zm_X8_keep (0, lv_args 0 [.ref 71, .int x0], [], zhp m1) r2 h2 → ∃ m2 v2, r2 = some (.int v2) ∧ h2 = zhp m2 ∧ zTy m2 ∧ RC m2 ∧ v = v2 := by
  have hR0 := hR
  obtain ⟨⟨n, h1⟩, hM, ⟨s, s1, s2, s3⟩, h5, c, c1, hI, h6⟩ := hR
  have hI0 := hI
  obtain ⟨⟨a1, c5, a3, a4, a5, a, a6, a7, a8, a9⟩, nb, nb1, nb2⟩ := hI
  simp only [pgf, Nat.zero_add] at a3 a4 a5 a7 a9 nb2
  obtain ⟨m1, v, b1, b2, b3⟩ := t_X7_keep a1 c5 a8 a6 (zE_of 1 rfl H)
  obtain ⟨q1, q2, q3, q4, q5, q6⟩ := e_X7_keep ht H
  obtain ⟨t1, f1⟩ := eng_m b2 q4 q5 q6
  refine ⟨m1, v, b1, b2, t1, fun r2 h2 H2 => ?_⟩
  obtain ⟨m2, v2, d1, d2, d3⟩ := t_X8_keep (zE_of 1 rfl H2)
  obtain ⟨u1, u2, u3, u4, u5, u6⟩ := e_X8_keep t1 H2
  obtain ⟨t2, f2⟩ := eng_m d2 u4 u5 u6
  refine ⟨m2, v2, d1, d2, t2, ?_⟩
  rcases b3 with ⟨o1, rfl, rfl⟩ | ⟨o1, k, k2, hk, w1, ⟨w2, w3, w4, w5, w6, w7⟩, w8, w9⟩
  · rcases d3 with ⟨_, rfl, rfl⟩ | ⟨o2, _⟩
    · exact ⟨hR0, rfl⟩
    · exact absurd o2 o1
  · rcases d3 with ⟨o2, _⟩ | ⟨_, k', k2', hk', y1, y2, y3, y4⟩
    · exact absurd o1 o2
    · have hkk : k = k' := zofn (hk.symm.trans hk') (by omega) (by omega)
      subst hkk
      have E : ∀ a b, ¬ (47 + 8 * k ≤ a ∧ a ≤ 47 + 8 * k + 7) → ¬ (a = 45 ∧ b = k) → ¬ (a = 72 ∧ 27 * (k + 1) ≤ b ∧ b < 27 * (k + 1) + 27) → ¬ (a = 82 ∧ b = k) → m2 a b = m a b := fun a b x y z w => by rw [y4 a b z w, w9 a b x y]
      have E2 : ∀ a b, a < 71 → m2 a b = m1 a b := fun a b x => y4 a b (by omega) (by omega)
      have E45 : ∀ j, j < 2 → ¬ j = k → m2 45 j = m 45 j := fun j hj hne => E 45 j (by omega) (by omega) (by omega) (by omega)
      have Ek : m2 45 k = 1 := by rw [E2 45 k (by omega)]; exact w8
      have Em : ∀ j, j < 4 → m2 73 j = m 73 j := fun j hj => E 73 j (by omega) (by omega) (by omega) (by omega)
      have Ep : ∀ j, j < 27 → m2 72 (27 * (k + 1) + j) = m 72 j := fun j hj => by rw [y2 j hj, w9 72 j (by omega) (by omega)]
      obtain ⟨z0, z1, z2, z3⟩ := hM
      refine ⟨⟨⟨n, RT_e h1 (fun a b x y q => ?_)⟩, ⟨(Em 0 (by omega)).trans z0, (Em 1 (by omega)).trans z1, (Em 2 (by omega)).trans z2, (Em 3 (by omega)).trans z3⟩, ⟨s, s1, ?_, ?_⟩, fun j hj => ?_, c, ?_, LI_e (Or.inl ⟨rfl, rfl⟩) hI0 (fun a b x y q => ?_), fun j hj hn => ?_⟩, ?_⟩
      · simp only [qT, Bool.or_eq_true, Bool.and_eq_true, Nat.beq_eq, Nat.blt_eq, Nat.ble_eq] at q
        exact E a b (by omega) (by omega) (by omega) (by omega)
      · rw [E 40 3 (by omega) (by omega) (by omega) (by omega)]; exact s2
      · rw [E 71 23 (by omega) (by omega) (by omega) (by omega)]; exact s3
      · by_cases hjk : j = k
        · subst hjk
          rw [Ek, y3]
        · rw [E45 j hj hjk, E 82 j (by omega) (by omega) (by omega) (by omega)]
          exact h5 j hj
      · rw [E 71 2 (by omega) (by omega) (by omega) (by omega)]; exact c1
      · simp only [qLI, Bool.or_eq_true, Bool.and_eq_true, Nat.beq_eq, Nat.blt_eq, Nat.ble_eq] at q
        exact E a b (by omega) (by omega) (by omega) (by omega)
      · by_cases hjk : j = k
        · subst hjk
          have G : ∀ i, i < 27 → pgf m2 (27 * (j + 1)) i = pgf m 0 i := fun i hi => by
            simp only [pgf, Nat.zero_add]
            rw [Ep i hi]
          refine ⟨LV_g (g := pgf m 0) ⟨by rw [E2 _ _ (by omega), w2]; exact a1, c5, fun i hi => ?_, by rw [E2 _ _ (by omega), w4]; exact a4, by rw [E2 _ _ (by omega), w5]; exact a5, a, a6, a7, by rw [E2 _ _ (by omega), w3]; exact a8, fun i hi => by rw [E2 _ _ (by omega), w7 i hi]; simp only [pgf, Nat.zero_add]; exact a9 i hi⟩ G, nb, nb1, by rw [G 15 (by omega)]; exact nb2⟩
          rw [E2 _ 0 (by omega), E2 _ 1 (by omega), E2 _ 2 (by omega), E2 _ 3 (by omega), w6 i hi 0 (by omega), w6 i hi 1 (by omega), w6 i hi 2 (by omega), w6 i hi 3 (by omega)]
          simp only [pgf, Nat.zero_add]
          exact a3 i hi
        · rw [E45 j hj hjk] at hn
          refine LI_e ?_ (h6 j hj hn) (fun a b x y q => ?_)
          · rcases zk2 hj with rfl | rfl
            · exact Or.inr (Or.inl ⟨rfl, rfl⟩)
            · exact Or.inr (Or.inr ⟨rfl, rfl⟩)
          · simp only [qLI, Bool.or_eq_true, Bool.and_eq_true, Nat.beq_eq, Nat.blt_eq, Nat.ble_eq] at q
            exact E a b (by omega) (by omega) (by omega) (by omega)
      · rw [w1, y1, w9 82 k (by omega) (by omega), h5 k k2]
theorem pc_back {m : zM} {r : Option Value} {h' : zHp} {x0 : Int32} (ht : zTy m) (hR : RC m) (H : zEv none 19 zm_X7_back (0, lv_args 0 [.ref 0, .int x0], [], zhp m) r h') : ∃ m1 v, r = some (.int v) ∧ h' = zhp m1 ∧ zTy m1 ∧ ∀ r2 h2, zEv none 19 zm_X8_back (0, lv_args 0 [.ref 71, .int x0], [], zhp m1) r2 h2 → ∃ m2 v2, r2 = some (.int v2) ∧ h2 = zhp m2 ∧ zTy m2 ∧ RC m2 ∧ v = v2 := by
  have hR0 := hR
  obtain ⟨⟨n, h1⟩, hM, ⟨s, s1, s2, s3⟩, h5, c, c1, hI, h6⟩ := hR
  have hI0 := hI
  obtain ⟨⟨a1, c5, a3, a4, a5, a, a6, a7, a8, a9⟩, nb, nb1, nb2⟩ := hI
  simp only [pgf, Nat.zero_add] at a3 a4 a5 a7 a9 nb2
  have hI : ∀ k, k < 2 → ¬ m 45 k = 0 → m (47 + 8 * k) 2 = Int32.ofNat c ∧ m (47 + 8 * k) 3 = Int32.ofNat ((fun j => (m (47 + 8 * j) 3).toNatClampNeg) k) ∧ (fun j => (m (47 + 8 * j) 3).toNatClampNeg) k ≤ 8 := fun k hk hn => by
    obtain ⟨⟨z0, z5, z1, z2, z3, b, z6, z7, z8, z9⟩, _⟩ := h6 k hk hn
    refine ⟨z0, ?_, ?_⟩
    · show _ = Int32.ofNat (m (47 + 8 * k) 3).toNatClampNeg
      rw [z8, Int32.toNatClampNeg_ofNat_of_lt (by omega)]
    · show (m (47 + 8 * k) 3).toNatClampNeg ≤ 8
      rw [z8, Int32.toNatClampNeg_ofNat_of_lt (by omega)]
      exact z6
  obtain ⟨m1, v, b1, b2, b3⟩ := t_X7_back c5 hI (zE_of 0 rfl H)
  obtain ⟨q1, q2, q3, q4, q5, q6⟩ := e_X7_back ht H
  obtain ⟨t1, f1⟩ := eng_m b2 q4 q5 q6
  refine ⟨m1, v, b1, b2, t1, fun r2 h2 H2 => ?_⟩
  obtain ⟨m2, v2, d1, d2, d3⟩ := t_X8_back (zE_of 0 rfl H2)
  obtain ⟨u1, u2, u3, u4, u5, u6⟩ := e_X8_back t1 H2
  obtain ⟨t2, f2⟩ := eng_m d2 u4 u5 u6
  refine ⟨m2, v2, d1, d2, t2, ?_⟩
  have e82 : ∀ k, k < 2 → m1 82 k = m 82 k := fun k hk => f1 82 k (zpl_r LY_82 hk) (ymd_c (by decide +kernel) k)
  rcases b3 with ⟨o1, rfl, rfl⟩ | ⟨o1, k, k2, hk, w0, rfl, rfl⟩ | ⟨o1, k, k2, hk, w0, w1, ⟨w2, w3, w4, w5, w6, w7⟩, w8⟩
  · rcases d3 with ⟨_, rfl, rfl⟩ | ⟨o2, _⟩ | ⟨o2, _⟩
    · exact ⟨hR0, rfl⟩
    · exact absurd o2 o1
    · exact absurd o2 o1
  · rcases d3 with ⟨o2, _⟩ | ⟨_, k', k2', hk', y0, rfl, rfl⟩ | ⟨_, k', k2', hk', y0, _⟩
    · exact absurd o1 o2
    · exact ⟨hR0, rfl⟩
    · have hkk : k = k' := zofn (hk.symm.trans hk') (by omega) (by omega)
      subst hkk
      rw [← h5 k k2] at y0
      exact absurd w0 y0
  · rcases d3 with ⟨o2, _⟩ | ⟨_, k', k2', hk', y0, _⟩ | ⟨_, k', k2', hk', y0, y1, y2, y3⟩
    · exact absurd o1 o2
    · have hkk : k = k' := zofn (hk.symm.trans hk') (by omega) (by omega)
      subst hkk
      rw [e82 k k2, ← h5 k k2] at y0
      exact absurd y0 w0
    · have hkk : k = k' := zofn (hk.symm.trans hk') (by omega) (by omega)
      subst hkk
      obtain ⟨⟨z0, z5, z1, z2, z3, b, z6, z7, z8, z9⟩, x, x1, x2⟩ := h6 k k2 w0
      have hb : (m (47 + 8 * k) 3).toNatClampNeg = b := by rw [z8, Int32.toNatClampNeg_ofNat_of_lt (by omega)]
      have E : ∀ a b, ¬ (11 ≤ a ∧ a ≤ 11 + 7) → ¬ (a = 72 ∧ b < 27) → m2 a b = m a b := fun a b x y => by rw [y3 a b y, w8 a b x]
      have E2 : ∀ a b, a < 71 → m2 a b = m1 a b := fun a b x => y3 a b (by omega)
      have G : ∀ i, i < 27 → pgf m2 0 i = pgf m (27 * (k + 1)) i := fun i hi => by
        simp only [pgf, Nat.zero_add]
        rw [y2 i hi, w8 72 _ (by omega)]
      refine ⟨RC_x hR0 (fun a b _ _ q => ?_) ⟨n, RT_e h1 (fun a b _ _ q => ?_)⟩ (fun c' hc' => ?_), ?_⟩
      · simp only [qC0, qLI, Bool.or_eq_true, Bool.and_eq_true, Nat.beq_eq, Nat.blt_eq, Nat.ble_eq] at q
        exact E a b (by omega) (by omega)
      · simp only [qT, Bool.or_eq_true, Bool.and_eq_true, Nat.beq_eq, Nat.blt_eq, Nat.ble_eq] at q
        exact E a b (by omega) (by omega)
      · have ec : c' = c := zofn (hc'.1.1.symm.trans a1) (by have := hc'.1.2.1; omega) (by omega)
        subst ec
        refine ⟨LV_g (g := pgf m (27 * (k + 1))) ⟨by rw [E2 _ _ (by omega), w2]; exact z0, z5, fun i hi => ?_, by rw [E2 _ _ (by omega), w4]; exact z2, by rw [E2 _ _ (by omega), w5]; exact z3, b, z6, z7, by rw [E2 _ _ (by omega), w3]; exact z8, fun i hi => by rw [E2 _ _ (by omega), w7 i (by show i < (m (47 + 8 * k) 3).toNatClampNeg; omega)]; exact z9 i hi⟩ G, x, x1, by rw [G 15 (by omega)]; exact x2⟩
        rw [E2 _ 0 (by omega), E2 _ 1 (by omega), E2 _ 2 (by omega), E2 _ 3 (by omega), w6 i hi 0 (by omega), w6 i hi 1 (by omega), w6 i hi 2 (by omega), w6 i hi 3 (by omega)]
        exact z1 i hi
      · rw [w1, y1, w5, z3]
        exact (G 17 (by omega)).symm
theorem pc_alter {m : zM} {r : Option Value} {h' : zHp} {x0 x1 x2 : Int32} (ht : zTy m) (hR : RC m) (H : zEv none 19 zm_X7_alter (0, lv_args 0 [.ref 0, .int x0, .int x1, .int x2], [], zhp m) r h') : ∃ m1 v, r = some (.int v) ∧ h' = zhp m1 ∧ zTy m1 ∧ ∀ r2 h2, zEv none 19 zm_X8_alter (0, lv_args 0 [.ref 71, .int x0, .int x1, .int x2], [], zhp m1) r2 h2 → ∃ m2 v2, r2 = some (.int v2) ∧ h2 = zhp m2 ∧ zTy m2 ∧ RC m2 ∧ v = v2 := by
  have hR0 := hR
  obtain ⟨⟨n, h1⟩, hM, ⟨s, s1, s2, s3⟩, h5, c, c1, hI, h6⟩ := hR
  have hI0 := hI
  obtain ⟨⟨a1, c5, a3, a4, a5, a, a6, a7, a8, a9⟩, nb, nb1, nb2⟩ := hI
  simp only [pgf, Nat.zero_add] at a3 a4 a5 a7 a9 nb2
  have hL := hI0.1
  by_cases hx : zIs x0 c
  · obtain ⟨p, p1, rfl⟩ := zlt_n rfl (by omega) hx
    obtain ⟨m1, v, b1, b2, b3⟩ := t_X7_alter hL p1 (zE_of 2 rfl H)
    obtain ⟨q1, q2, q3, q4, q5, q6⟩ := e_X7_alter ht H
    obtain ⟨t1, f1⟩ := eng_m b2 q4 q5 q6
    refine ⟨m1, v, b1, b2, t1, fun r2 h2 H2 => ?_⟩
    have g0 : m1 71 2 = Int32.ofNat c := (f1 71 2 ⟨_, LY_71, rfl⟩ (by decide +kernel)).trans c1
    obtain ⟨m2, v2, d1, d2, d3⟩ := t_X8_alter g0 c5 (zE_of 1 rfl H2)
    obtain ⟨u1, u2, u3, u4, u5, u6⟩ := e_X8_alter t1 H2
    obtain ⟨t2, f2⟩ := eng_m d2 u4 u5 u6
    refine ⟨m2, v2, d1, d2, t2, ?_⟩
    rcases b3 with ⟨o1, rfl, rfl⟩ | ⟨o1, rfl, f, k3, k4, rfl⟩
    · rcases d3 with ⟨_, rfl, rfl⟩ | ⟨p', f', _, _, _, _, o2, _⟩
      · exact ⟨hR0, rfl⟩
      · exact absurd o2 o1
    · rcases d3 with ⟨o2, _⟩ | ⟨p', f', k1', k2', k3', k4', o2, d4⟩
      · exact absurd ⟨zis_n c5 p1, o1⟩ o2
      · have ep : p = p' := zofn k2' (by omega) (by omega)
        subst ep
        have ef : f = f' := zofn (k4.symm.trans k4') (by omega) (by omega)
        subst ef
        rcases d4 with ⟨f3, rfl, rfl⟩ | ⟨rfl, rfl, rfl⟩
        · have AL : ∀ t, t < 3 → ∀ i, i < c → zup (zup m (11 + 3 + p) f x2) 72 (5 * f + p) x2 (11 + 3 + i) t = zup (zup m (11 + 3 + p) f x2) 72 (5 * f + p) x2 72 (5 * t + i) := fun t h3 i hi => by
            by_cases he : i = p ∧ t = f
            · obtain ⟨rfl, rfl⟩ := he
              rw [zup_n (by omega), zup_s, zup_s]
            · rw [zup_n (by omega), zup_n (by omega), zup_n (by omega), zup_n (by omega)]
              have h := a3 i hi
              have ht3 : t = 0 ∨ t = 1 ∨ t = 2 := by omega
              rcases ht3 with rfl | rfl | rfl
              · simpa using h.1
              · simpa using h.2.1
              · simpa using h.2.2.1
          refine ⟨RC_x hR0 (fun k i _ _ q => by
            simp only [qC0, qLI, Bool.or_eq_true, Bool.and_eq_true, Nat.beq_eq, Nat.blt_eq, Nat.ble_eq] at q
            rw [zup_n (by omega), zup_n (by omega)]) (⟨n, RT_e h1 (fun k i _ _ q => by
            simp only [qT, Bool.or_eq_true, Bool.and_eq_true, Nat.beq_eq, Nat.blt_eq, Nat.ble_eq] at q
            rw [zup_n (by omega), zup_n (by omega)])⟩) (fun c' hc' => ?_), ?_⟩
          · skip
            have ec : c' = c := zofn (hc'.1.1.symm.trans a1) (by have := hc'.1.2.1; omega) (by omega)
            subst ec
            exact ⟨⟨by rw [zup_n (by omega), zup_n (by omega)]; exact a1, c5, fun i hi => ⟨by simpa [pgf] using AL 0 (by omega) i hi, by simpa [pgf] using AL 1 (by omega) i hi, by simpa [pgf] using AL 2 (by omega) i hi, by simp only [pgf, Nat.zero_add]; rw [zup_n (by omega), zup_n (by omega), zup_n (by omega), zup_n (by omega)]; exact (a3 i hi).2.2.2⟩, by simp only [pgf, Nat.zero_add]; rw [zup_n (by omega), zup_n (by omega), zup_n (by omega), zup_n (by omega)]; exact a4, by simp only [pgf, Nat.zero_add]; rw [zup_n (by omega), zup_n (by omega), zup_n (by omega), zup_n (by omega)]; exact a5, a, a6, by simp only [pgf, Nat.zero_add]; rw [zup_n (by omega), zup_n (by omega)]; exact a7, by rw [zup_n (by omega), zup_n (by omega)]; exact a8, fun i hi => by simp only [pgf, Nat.zero_add]; rw [zup_n (by omega), zup_n (by omega), zup_n (by omega), zup_n (by omega)]; exact a9 i hi⟩, nb, nb1, by simp only [pgf, Nat.zero_add]; rw [zup_n (by omega), zup_n (by omega)]; exact nb2⟩
          · rw [zup_n (by omega)]
            subst k4
            have h := a3 p p1
            have hf3 : f = 0 ∨ f = 1 ∨ f = 2 := by omega
            rcases hf3 with rfl | rfl | rfl
            · exact (gOne_0 rfl).trans (congrArg (m 72) (by omega))
            · exact (gOne_1 rfl).trans (congrArg (m 72) (by omega))
            · exact (gOne_2 rfl).trans (congrArg (m 72) (by omega))
        · subst k4
          obtain ⟨w, w1, rfl⟩ := zbt_n (n := 1) (by decide) (by omega) o1.2
          have hn15 : m 72 15 = Int32.ofNat nb := nb2
          have z15 : zup m (11 + 3 + p) 3 (Int32.ofNat w) 72 15 = m 72 15 := zup_n (by omega)
          obtain ⟨x1', x2', x3'⟩ := zalt_b c (by omega) p p1 w (by omega) nb nb1
          refine ⟨RC_x hR0 (fun k i _ _ q => by
            simp only [qC0, qLI, Bool.or_eq_true, Bool.and_eq_true, Nat.beq_eq, Nat.blt_eq, Nat.ble_eq] at q
            rw [zup_n (by omega), zup_n (by omega)]) (⟨n, RT_e h1 (fun k i _ _ q => by
            simp only [qT, Bool.or_eq_true, Bool.and_eq_true, Nat.beq_eq, Nat.blt_eq, Nat.ble_eq] at q
            rw [zup_n (by omega), zup_n (by omega)])⟩) (fun c' hc' => ?_), ?_⟩
          · skip
            have ec : c' = c := zofn (hc'.1.1.symm.trans a1) (by have := hc'.1.2.1; omega) (by omega)
            subst ec
            exact ⟨⟨by rw [zup_n (by omega), zup_n (by omega)]; exact a1, c5, fun i hi => ⟨by simp only [pgf, Nat.zero_add]; rw [zup_n (by omega), zup_n (by omega), zup_n (by omega), zup_n (by omega)]; exact (a3 i hi).1, by simp only [pgf, Nat.zero_add]; rw [zup_n (by omega), zup_n (by omega), zup_n (by omega), zup_n (by omega)]; exact (a3 i hi).2.1, by simp only [pgf, Nat.zero_add]; rw [zup_n (by omega), zup_n (by omega), zup_n (by omega), zup_n (by omega)]; exact (a3 i hi).2.2.1, by
              have h := x3' i hi
              simp only [pgf, Nat.zero_add]
              rw [zup_s, z15, hn15, zup_n (show ¬ (11 + 3 + i = 72 ∧ 3 = 15) by omega)]
              refine Eq.trans ?_ h.symm
              by_cases he : i = p
              · subst he
                rw [if_pos rfl, zup_s]
              · rw [if_neg he, zup_n (by omega), ← hn15]
                exact (a3 i hi).2.2.2⟩, by simp only [pgf, Nat.zero_add]; rw [zup_n (by omega), zup_n (by omega), zup_n (by omega), zup_n (by omega)]; exact a4, by simp only [pgf, Nat.zero_add]; rw [zup_n (by omega), zup_n (by omega), zup_n (by omega), zup_n (by omega)]; exact a5, a, a6, by simp only [pgf, Nat.zero_add]; rw [zup_n (by omega), zup_n (by omega)]; exact a7, by rw [zup_n (by omega), zup_n (by omega)]; exact a8, fun i hi => by simp only [pgf, Nat.zero_add]; rw [zup_n (by omega), zup_n (by omega), zup_n (by omega), zup_n (by omega)]; exact a9 i hi⟩, _, x1', by simp only [pgf, Nat.zero_add]; rw [zup_s, z15, hn15]; exact x2'⟩
          · rw [zup_n (by omega)]
            exact gOne_3 rfl
  · obtain ⟨b1, b2⟩ := t_X7_alterN a1 hx (zE_of 2 rfl H)
    refine ⟨m, _, b1, b2, ht, fun r2 h2 H2 => ?_⟩
    obtain ⟨m2, v2, d1, d2, d3⟩ := t_X8_alter c1 c5 (zE_of 1 rfl H2)
    rcases d3 with ⟨_, rfl, rfl⟩ | ⟨p', f', k1', k2', k3', k4', o2, _⟩
    · exact ⟨_, _, d1, d2, ht, hR0, rfl⟩
    · exact absurd (by rw [k2']; exact zis_n c5 k1') hx
end
section
/-! sheets -/
theorem It_X5_faultAs : zm_X5_faultAs.2.2.2.2.2 = zt_X5_faultAs := by
  unfold zm_X5_faultAs
  rfl
theorem It_X5_faultAt : zm_X5_faultAt.2.2.2.2.2 = zt_X5_faultAt := by
  unfold zm_X5_faultAt
  rfl
theorem It_X5_renew : zm_X5_renew.2.2.2.2.2 = zt_X5_renew := by
  unfold zm_X5_renew
  rfl
theorem It_X5_write : zm_X5_write.2.2.2.2.2 = zt_X5_write := by
  unfold zm_X5_write
  rfl
theorem It_X7_lay : zm_X7_lay.2.2.2.2.2 = zt_X7_lay := by
  unfold zm_X7_lay
  rfl
theorem It_X7_sheet : zm_X7_sheet.2.2.2.2.2 = zt_X7_sheet := by
  unfold zm_X7_sheet
  rfl
theorem It_X8_lay : zm_X8_lay.2.2.2.2.2 = zt_X8_lay := by
  unfold zm_X8_lay
  rfl
theorem It_X8_sheet : zm_X8_sheet.2.2.2.2.2 = zt_X8_sheet := by
  unfold zm_X8_sheet
  rfl
theorem I_X5_faultAs_0 : zin zm_X5_faultAs.2.2.2.2.2 0 = some (.aload_n 0, 1) := by rw [It_X5_faultAs]; rfl
theorem I_X5_faultAs_1 : zin zm_X5_faultAs.2.2.2.2.2 1 = some (.getfield 15, 3) := by rw [It_X5_faultAs]; rfl
theorem I_X5_faultAs_4 : zin zm_X5_faultAs.2.2.2.2.2 4 = some (.ifCond .eq 15, 3) := by rw [It_X5_faultAs]; rfl
theorem I_X5_faultAs_7 : zin zm_X5_faultAs.2.2.2.2.2 7 = some (.aload_n 0, 1) := by rw [It_X5_faultAs]; rfl
theorem I_X5_faultAs_8 : zin zm_X5_faultAs.2.2.2.2.2 8 = some (.getfield 19, 3) := by rw [It_X5_faultAs]; rfl
theorem I_X5_faultAs_11 : zin zm_X5_faultAs.2.2.2.2.2 11 = some (.iload_n 1, 1) := by rw [It_X5_faultAs]; rfl
theorem I_X5_faultAs_12 : zin zm_X5_faultAs.2.2.2.2.2 12 = some (.if_icmp .eq 7, 3) := by rw [It_X5_faultAs]; rfl
theorem I_X5_faultAs_15 : zin zm_X5_faultAs.2.2.2.2.2 15 = some (.iconst 3, 1) := by rw [It_X5_faultAs]; rfl
theorem I_X5_faultAs_16 : zin zm_X5_faultAs.2.2.2.2.2 16 = some (.goto 8, 3) := by rw [It_X5_faultAs]; rfl
theorem I_X5_faultAs_19 : zin zm_X5_faultAs.2.2.2.2.2 19 = some (.aload_n 0, 1) := by rw [It_X5_faultAs]; rfl
theorem I_X5_faultAs_20 : zin zm_X5_faultAs.2.2.2.2.2 20 = some (.iload_n 2, 1) := by rw [It_X5_faultAs]; rfl
theorem I_X5_faultAs_21 : zin zm_X5_faultAs.2.2.2.2.2 21 = some (.invokevirtual 32, 3) := by rw [It_X5_faultAs]; rfl
theorem I_X5_faultAs_24 : zin zm_X5_faultAs.2.2.2.2.2 24 = some (.ireturn, 1) := by rw [It_X5_faultAs]; rfl
theorem I_X5_faultAt_0 : zin zm_X5_faultAt.2.2.2.2.2 0 = some (.aload_n 0, 1) := by rw [It_X5_faultAt]; rfl
theorem I_X5_faultAt_1 : zin zm_X5_faultAt.2.2.2.2.2 1 = some (.getfield 15, 3) := by rw [It_X5_faultAt]; rfl
theorem I_X5_faultAt_4 : zin zm_X5_faultAt.2.2.2.2.2 4 = some (.ifCond .ne 5, 3) := by rw [It_X5_faultAt]; rfl
theorem I_X5_faultAt_7 : zin zm_X5_faultAt.2.2.2.2.2 7 = some (.iconst 1, 1) := by rw [It_X5_faultAt]; rfl
theorem I_X5_faultAt_8 : zin zm_X5_faultAt.2.2.2.2.2 8 = some (.ireturn, 1) := by rw [It_X5_faultAt]; rfl
theorem I_X5_faultAt_9 : zin zm_X5_faultAt.2.2.2.2.2 9 = some (.iload_n 1, 1) := by rw [It_X5_faultAt]; rfl
theorem I_X5_faultAt_10 : zin zm_X5_faultAt.2.2.2.2.2 10 = some (.ifCond .lt 11, 3) := by rw [It_X5_faultAt]; rfl
theorem I_X5_faultAt_13 : zin zm_X5_faultAt.2.2.2.2.2 13 = some (.iload_n 1, 1) := by rw [It_X5_faultAt]; rfl
theorem I_X5_faultAt_14 : zin zm_X5_faultAt.2.2.2.2.2 14 = some (.aload_n 0, 1) := by rw [It_X5_faultAt]; rfl
theorem I_X5_faultAt_15 : zin zm_X5_faultAt.2.2.2.2.2 15 = some (.getfield 23, 3) := by rw [It_X5_faultAt]; rfl
theorem I_X5_faultAt_18 : zin zm_X5_faultAt.2.2.2.2.2 18 = some (.if_icmp .lt 7, 3) := by rw [It_X5_faultAt]; rfl
theorem I_X5_faultAt_21 : zin zm_X5_faultAt.2.2.2.2.2 21 = some (.iconst 2, 1) := by rw [It_X5_faultAt]; rfl
theorem I_X5_faultAt_22 : zin zm_X5_faultAt.2.2.2.2.2 22 = some (.goto 4, 3) := by rw [It_X5_faultAt]; rfl
theorem I_X5_faultAt_25 : zin zm_X5_faultAt.2.2.2.2.2 25 = some (.iconst 0, 1) := by rw [It_X5_faultAt]; rfl
theorem I_X5_faultAt_26 : zin zm_X5_faultAt.2.2.2.2.2 26 = some (.ireturn, 1) := by rw [It_X5_faultAt]; rfl
theorem I_X5_renew_0 : zin zm_X5_renew.2.2.2.2.2 0 = some (.aload_n 0, 1) := by rw [It_X5_renew]; rfl
theorem I_X5_renew_1 : zin zm_X5_renew.2.2.2.2.2 1 = some (.iconst 1, 1) := by rw [It_X5_renew]; rfl
theorem I_X5_renew_2 : zin zm_X5_renew.2.2.2.2.2 2 = some (.putfield 15, 3) := by rw [It_X5_renew]; rfl
theorem I_X5_renew_5 : zin zm_X5_renew.2.2.2.2.2 5 = some (.aload_n 0, 1) := by rw [It_X5_renew]; rfl
theorem I_X5_renew_6 : zin zm_X5_renew.2.2.2.2.2 6 = some (.iload_n 1, 1) := by rw [It_X5_renew]; rfl
theorem I_X5_renew_7 : zin zm_X5_renew.2.2.2.2.2 7 = some (.putfield 19, 3) := by rw [It_X5_renew]; rfl
theorem I_X5_renew_10 : zin zm_X5_renew.2.2.2.2.2 10 = some (.aload_n 0, 1) := by rw [It_X5_renew]; rfl
theorem I_X5_renew_11 : zin zm_X5_renew.2.2.2.2.2 11 = some (.iload_n 2, 1) := by rw [It_X5_renew]; rfl
theorem I_X5_renew_12 : zin zm_X5_renew.2.2.2.2.2 12 = some (.putfield 23, 3) := by rw [It_X5_renew]; rfl
theorem I_X5_renew_15 : zin zm_X5_renew.2.2.2.2.2 15 = some (.aload_n 0, 1) := by rw [It_X5_renew]; rfl
theorem I_X5_renew_16 : zin zm_X5_renew.2.2.2.2.2 16 = some (.getfield 9, 3) := by rw [It_X5_renew]; rfl
theorem I_X5_renew_19 : zin zm_X5_renew.2.2.2.2.2 19 = some (.iconst 0, 1) := by rw [It_X5_renew]; rfl
theorem I_X5_renew_20 : zin zm_X5_renew.2.2.2.2.2 20 = some (.invokestatic 26, 3) := by rw [It_X5_renew]; rfl
theorem I_X5_renew_23 : zin zm_X5_renew.2.2.2.2.2 23 = some (.return_, 1) := by rw [It_X5_renew]; rfl
theorem I_X5_write_0 : zin zm_X5_write.2.2.2.2.2 0 = some (.aload_n 0, 1) := by rw [It_X5_write]; rfl
theorem I_X5_write_1 : zin zm_X5_write.2.2.2.2.2 1 = some (.getfield 19, 3) := by rw [It_X5_write]; rfl
theorem I_X5_write_4 : zin zm_X5_write.2.2.2.2.2 4 = some (.lookupswitch 50 #[(0, 28), (1, 39)], 28) := by rw [It_X5_write]; rfl
theorem I_X5_write_32 : zin zm_X5_write.2.2.2.2.2 32 = some (.aload_n 0, 1) := by rw [It_X5_write]; rfl
theorem I_X5_write_33 : zin zm_X5_write.2.2.2.2.2 33 = some (.getfield 9, 3) := by rw [It_X5_write]; rfl
theorem I_X5_write_36 : zin zm_X5_write.2.2.2.2.2 36 = some (.iload_n 1, 1) := by rw [It_X5_write]; rfl
theorem I_X5_write_37 : zin zm_X5_write.2.2.2.2.2 37 = some (.iload_n 2, 1) := by rw [It_X5_write]; rfl
theorem I_X5_write_38 : zin zm_X5_write.2.2.2.2.2 38 = some (.i2b, 1) := by rw [It_X5_write]; rfl
theorem I_X5_write_39 : zin zm_X5_write.2.2.2.2.2 39 = some (.iastore, 1) := by rw [It_X5_write]; rfl
theorem I_X5_write_40 : zin zm_X5_write.2.2.2.2.2 40 = some (.goto 21, 3) := by rw [It_X5_write]; rfl
theorem I_X5_write_43 : zin zm_X5_write.2.2.2.2.2 43 = some (.aload_n 0, 1) := by rw [It_X5_write]; rfl
theorem I_X5_write_44 : zin zm_X5_write.2.2.2.2.2 44 = some (.getfield 9, 3) := by rw [It_X5_write]; rfl
theorem I_X5_write_47 : zin zm_X5_write.2.2.2.2.2 47 = some (.iload_n 1, 1) := by rw [It_X5_write]; rfl
theorem I_X5_write_48 : zin zm_X5_write.2.2.2.2.2 48 = some (.iload_n 2, 1) := by rw [It_X5_write]; rfl
theorem I_X5_write_49 : zin zm_X5_write.2.2.2.2.2 49 = some (.i2s, 1) := by rw [It_X5_write]; rfl
theorem I_X5_write_50 : zin zm_X5_write.2.2.2.2.2 50 = some (.iastore, 1) := by rw [It_X5_write]; rfl
theorem I_X5_write_51 : zin zm_X5_write.2.2.2.2.2 51 = some (.goto 10, 3) := by rw [It_X5_write]; rfl
theorem I_X5_write_54 : zin zm_X5_write.2.2.2.2.2 54 = some (.aload_n 0, 1) := by rw [It_X5_write]; rfl
theorem I_X5_write_55 : zin zm_X5_write.2.2.2.2.2 55 = some (.getfield 9, 3) := by rw [It_X5_write]; rfl
theorem I_X5_write_58 : zin zm_X5_write.2.2.2.2.2 58 = some (.iload_n 1, 1) := by rw [It_X5_write]; rfl
theorem I_X5_write_59 : zin zm_X5_write.2.2.2.2.2 59 = some (.iload_n 2, 1) := by rw [It_X5_write]; rfl
theorem I_X5_write_60 : zin zm_X5_write.2.2.2.2.2 60 = some (.iastore, 1) := by rw [It_X5_write]; rfl
theorem I_X5_write_61 : zin zm_X5_write.2.2.2.2.2 61 = some (.return_, 1) := by rw [It_X5_write]; rfl
theorem I_X7_lay_0 : zin zm_X7_lay.2.2.2.2.2 0 = some (.iload_n 1, 1) := by rw [It_X7_lay]; rfl
theorem I_X7_lay_1 : zin zm_X7_lay.2.2.2.2.2 1 = some (.ifCond .lt 8, 3) := by rw [It_X7_lay]; rfl
theorem I_X7_lay_4 : zin zm_X7_lay.2.2.2.2.2 4 = some (.iload_n 1, 1) := by rw [It_X7_lay]; rfl
theorem I_X7_lay_5 : zin zm_X7_lay.2.2.2.2.2 5 = some (.iconst 4, 1) := by rw [It_X7_lay]; rfl
theorem I_X7_lay_6 : zin zm_X7_lay.2.2.2.2.2 6 = some (.if_icmp .lt 5, 3) := by rw [It_X7_lay]; rfl
theorem I_X7_lay_9 : zin zm_X7_lay.2.2.2.2.2 9 = some (.iconst (-1), 1) := by rw [It_X7_lay]; rfl
theorem I_X7_lay_10 : zin zm_X7_lay.2.2.2.2.2 10 = some (.ireturn, 1) := by rw [It_X7_lay]; rfl
theorem I_X7_lay_11 : zin zm_X7_lay.2.2.2.2.2 11 = some (.aload_n 0, 1) := by rw [It_X7_lay]; rfl
theorem I_X7_lay_12 : zin zm_X7_lay.2.2.2.2.2 12 = some (.getfield 54, 3) := by rw [It_X7_lay]; rfl
theorem I_X7_lay_15 : zin zm_X7_lay.2.2.2.2.2 15 = some (.iload_n 1, 1) := by rw [It_X7_lay]; rfl
theorem I_X7_lay_16 : zin zm_X7_lay.2.2.2.2.2 16 = some (.aaload, 1) := by rw [It_X7_lay]; rfl
theorem I_X7_lay_17 : zin zm_X7_lay.2.2.2.2.2 17 = some (.iload_n 2, 1) := by rw [It_X7_lay]; rfl
theorem I_X7_lay_18 : zin zm_X7_lay.2.2.2.2.2 18 = some (.invokevirtual 264, 3) := by rw [It_X7_lay]; rfl
theorem I_X7_lay_21 : zin zm_X7_lay.2.2.2.2.2 21 = some (.istore 4, 2) := by rw [It_X7_lay]; rfl
theorem I_X7_lay_23 : zin zm_X7_lay.2.2.2.2.2 23 = some (.iload 4, 2) := by rw [It_X7_lay]; rfl
theorem I_X7_lay_25 : zin zm_X7_lay.2.2.2.2.2 25 = some (.ifCond .eq 9, 3) := by rw [It_X7_lay]; rfl
theorem I_X7_lay_28 : zin zm_X7_lay.2.2.2.2.2 28 = some (.bipush (-10), 2) := by rw [It_X7_lay]; rfl
theorem I_X7_lay_30 : zin zm_X7_lay.2.2.2.2.2 30 = some (.iload 4, 2) := by rw [It_X7_lay]; rfl
theorem I_X7_lay_32 : zin zm_X7_lay.2.2.2.2.2 32 = some (.isub, 1) := by rw [It_X7_lay]; rfl
theorem I_X7_lay_33 : zin zm_X7_lay.2.2.2.2.2 33 = some (.ireturn, 1) := by rw [It_X7_lay]; rfl
theorem I_X7_lay_34 : zin zm_X7_lay.2.2.2.2.2 34 = some (.aload_n 0, 1) := by rw [It_X7_lay]; rfl
theorem I_X7_lay_35 : zin zm_X7_lay.2.2.2.2.2 35 = some (.getfield 54, 3) := by rw [It_X7_lay]; rfl
theorem I_X7_lay_38 : zin zm_X7_lay.2.2.2.2.2 38 = some (.iload_n 1, 1) := by rw [It_X7_lay]; rfl
theorem I_X7_lay_39 : zin zm_X7_lay.2.2.2.2.2 39 = some (.aaload, 1) := by rw [It_X7_lay]; rfl
theorem I_X7_lay_40 : zin zm_X7_lay.2.2.2.2.2 40 = some (.iload_n 2, 1) := by rw [It_X7_lay]; rfl
theorem I_X7_lay_41 : zin zm_X7_lay.2.2.2.2.2 41 = some (.iload_n 3, 1) := by rw [It_X7_lay]; rfl
theorem I_X7_lay_42 : zin zm_X7_lay.2.2.2.2.2 42 = some (.invokevirtual 267, 3) := by rw [It_X7_lay]; rfl
theorem I_X7_lay_45 : zin zm_X7_lay.2.2.2.2.2 45 = some (.iconst 1, 1) := by rw [It_X7_lay]; rfl
theorem I_X7_lay_46 : zin zm_X7_lay.2.2.2.2.2 46 = some (.ireturn, 1) := by rw [It_X7_lay]; rfl
theorem I_X7_sheet_0 : zin zm_X7_sheet.2.2.2.2.2 0 = some (.iload_n 1, 1) := by rw [It_X7_sheet]; rfl
theorem I_X7_sheet_1 : zin zm_X7_sheet.2.2.2.2.2 1 = some (.ifCond .lt 23, 3) := by rw [It_X7_sheet]; rfl
theorem I_X7_sheet_4 : zin zm_X7_sheet.2.2.2.2.2 4 = some (.iload_n 1, 1) := by rw [It_X7_sheet]; rfl
theorem I_X7_sheet_5 : zin zm_X7_sheet.2.2.2.2.2 5 = some (.iconst 4, 1) := by rw [It_X7_sheet]; rfl
theorem I_X7_sheet_6 : zin zm_X7_sheet.2.2.2.2.2 6 = some (.if_icmp .ge 18, 3) := by rw [It_X7_sheet]; rfl
theorem I_X7_sheet_9 : zin zm_X7_sheet.2.2.2.2.2 9 = some (.iload_n 2, 1) := by rw [It_X7_sheet]; rfl
theorem I_X7_sheet_10 : zin zm_X7_sheet.2.2.2.2.2 10 = some (.ifCond .lt 14, 3) := by rw [It_X7_sheet]; rfl
theorem I_X7_sheet_13 : zin zm_X7_sheet.2.2.2.2.2 13 = some (.iload_n 2, 1) := by rw [It_X7_sheet]; rfl
theorem I_X7_sheet_14 : zin zm_X7_sheet.2.2.2.2.2 14 = some (.iconst 2, 1) := by rw [It_X7_sheet]; rfl
theorem I_X7_sheet_15 : zin zm_X7_sheet.2.2.2.2.2 15 = some (.if_icmp .gt 9, 3) := by rw [It_X7_sheet]; rfl
theorem I_X7_sheet_18 : zin zm_X7_sheet.2.2.2.2.2 18 = some (.iload_n 3, 1) := by rw [It_X7_sheet]; rfl
theorem I_X7_sheet_19 : zin zm_X7_sheet.2.2.2.2.2 19 = some (.bipush 40, 2) := by rw [It_X7_sheet]; rfl
theorem I_X7_sheet_21 : zin zm_X7_sheet.2.2.2.2.2 21 = some (.if_icmp .le 5, 3) := by rw [It_X7_sheet]; rfl
theorem I_X7_sheet_24 : zin zm_X7_sheet.2.2.2.2.2 24 = some (.iconst (-1), 1) := by rw [It_X7_sheet]; rfl
theorem I_X7_sheet_25 : zin zm_X7_sheet.2.2.2.2.2 25 = some (.ireturn, 1) := by rw [It_X7_sheet]; rfl
theorem I_X7_sheet_26 : zin zm_X7_sheet.2.2.2.2.2 26 = some (.iload_n 3, 1) := by rw [It_X7_sheet]; rfl
theorem I_X7_sheet_27 : zin zm_X7_sheet.2.2.2.2.2 27 = some (.ifCond .ge 6, 3) := by rw [It_X7_sheet]; rfl
theorem I_X7_sheet_30 : zin zm_X7_sheet.2.2.2.2.2 30 = some (.bipush (-14), 2) := by rw [It_X7_sheet]; rfl
theorem I_X7_sheet_32 : zin zm_X7_sheet.2.2.2.2.2 32 = some (.ireturn, 1) := by rw [It_X7_sheet]; rfl
theorem I_X7_sheet_33 : zin zm_X7_sheet.2.2.2.2.2 33 = some (.aload_n 0, 1) := by rw [It_X7_sheet]; rfl
theorem I_X7_sheet_34 : zin zm_X7_sheet.2.2.2.2.2 34 = some (.getfield 54, 3) := by rw [It_X7_sheet]; rfl
theorem I_X7_sheet_37 : zin zm_X7_sheet.2.2.2.2.2 37 = some (.iload_n 1, 1) := by rw [It_X7_sheet]; rfl
theorem I_X7_sheet_38 : zin zm_X7_sheet.2.2.2.2.2 38 = some (.aaload, 1) := by rw [It_X7_sheet]; rfl
theorem I_X7_sheet_39 : zin zm_X7_sheet.2.2.2.2.2 39 = some (.iload_n 2, 1) := by rw [It_X7_sheet]; rfl
theorem I_X7_sheet_40 : zin zm_X7_sheet.2.2.2.2.2 40 = some (.iload_n 3, 1) := by rw [It_X7_sheet]; rfl
theorem I_X7_sheet_41 : zin zm_X7_sheet.2.2.2.2.2 41 = some (.invokevirtual 261, 3) := by rw [It_X7_sheet]; rfl
theorem I_X7_sheet_44 : zin zm_X7_sheet.2.2.2.2.2 44 = some (.iconst 1, 1) := by rw [It_X7_sheet]; rfl
theorem I_X7_sheet_45 : zin zm_X7_sheet.2.2.2.2.2 45 = some (.ireturn, 1) := by rw [It_X7_sheet]; rfl
theorem I_X8_lay_0 : zin zm_X8_lay.2.2.2.2.2 0 = some (.iload_n 1, 1) := by rw [It_X8_lay]; rfl
theorem I_X8_lay_1 : zin zm_X8_lay.2.2.2.2.2 1 = some (.i2l, 1) := by rw [It_X8_lay]; rfl
theorem I_X8_lay_2 : zin zm_X8_lay.2.2.2.2.2 2 = some (.lconst 0, 1) := by rw [It_X8_lay]; rfl
theorem I_X8_lay_3 : zin zm_X8_lay.2.2.2.2.2 3 = some (.ldc2_w 155, 3) := by rw [It_X8_lay]; rfl
theorem I_X8_lay_6 : zin zm_X8_lay.2.2.2.2.2 6 = some (.invokestatic 55, 3) := by rw [It_X8_lay]; rfl
theorem I_X8_lay_9 : zin zm_X8_lay.2.2.2.2.2 9 = some (.ifCond .ne 5, 3) := by rw [It_X8_lay]; rfl
theorem I_X8_lay_12 : zin zm_X8_lay.2.2.2.2.2 12 = some (.iconst (-1), 1) := by rw [It_X8_lay]; rfl
theorem I_X8_lay_13 : zin zm_X8_lay.2.2.2.2.2 13 = some (.ireturn, 1) := by rw [It_X8_lay]; rfl
theorem I_X8_lay_14 : zin zm_X8_lay.2.2.2.2.2 14 = some (.aload_n 0, 1) := by rw [It_X8_lay]; rfl
theorem I_X8_lay_15 : zin zm_X8_lay.2.2.2.2.2 15 = some (.getfield 44, 3) := by rw [It_X8_lay]; rfl
theorem I_X8_lay_18 : zin zm_X8_lay.2.2.2.2.2 18 = some (.iload_n 1, 1) := by rw [It_X8_lay]; rfl
theorem I_X8_lay_19 : zin zm_X8_lay.2.2.2.2.2 19 = some (.iaload, 1) := by rw [It_X8_lay]; rfl
theorem I_X8_lay_20 : zin zm_X8_lay.2.2.2.2.2 20 = some (.bipush (-4), 2) := by rw [It_X8_lay]; rfl
theorem I_X8_lay_22 : zin zm_X8_lay.2.2.2.2.2 22 = some (.if_icmp .ne 6, 3) := by rw [It_X8_lay]; rfl
theorem I_X8_lay_25 : zin zm_X8_lay.2.2.2.2.2 25 = some (.bipush (-11), 2) := by rw [It_X8_lay]; rfl
theorem I_X8_lay_27 : zin zm_X8_lay.2.2.2.2.2 27 = some (.ireturn, 1) := by rw [It_X8_lay]; rfl
theorem I_X8_lay_28 : zin zm_X8_lay.2.2.2.2.2 28 = some (.iload_n 2, 1) := by rw [It_X8_lay]; rfl
theorem I_X8_lay_29 : zin zm_X8_lay.2.2.2.2.2 29 = some (.i2l, 1) := by rw [It_X8_lay]; rfl
theorem I_X8_lay_30 : zin zm_X8_lay.2.2.2.2.2 30 = some (.lconst 0, 1) := by rw [It_X8_lay]; rfl
theorem I_X8_lay_31 : zin zm_X8_lay.2.2.2.2.2 31 = some (.aload_n 0, 1) := by rw [It_X8_lay]; rfl
theorem I_X8_lay_32 : zin zm_X8_lay.2.2.2.2.2 32 = some (.getfield 47, 3) := by rw [It_X8_lay]; rfl
theorem I_X8_lay_35 : zin zm_X8_lay.2.2.2.2.2 35 = some (.iload_n 1, 1) := by rw [It_X8_lay]; rfl
theorem I_X8_lay_36 : zin zm_X8_lay.2.2.2.2.2 36 = some (.iaload, 1) := by rw [It_X8_lay]; rfl
theorem I_X8_lay_37 : zin zm_X8_lay.2.2.2.2.2 37 = some (.iconst 1, 1) := by rw [It_X8_lay]; rfl
theorem I_X8_lay_38 : zin zm_X8_lay.2.2.2.2.2 38 = some (.isub, 1) := by rw [It_X8_lay]; rfl
theorem I_X8_lay_39 : zin zm_X8_lay.2.2.2.2.2 39 = some (.i2l, 1) := by rw [It_X8_lay]; rfl
theorem I_X8_lay_40 : zin zm_X8_lay.2.2.2.2.2 40 = some (.invokestatic 55, 3) := by rw [It_X8_lay]; rfl
theorem I_X8_lay_43 : zin zm_X8_lay.2.2.2.2.2 43 = some (.ifCond .ne 6, 3) := by rw [It_X8_lay]; rfl
theorem I_X8_lay_46 : zin zm_X8_lay.2.2.2.2.2 46 = some (.bipush (-12), 2) := by rw [It_X8_lay]; rfl
theorem I_X8_lay_48 : zin zm_X8_lay.2.2.2.2.2 48 = some (.ireturn, 1) := by rw [It_X8_lay]; rfl
theorem I_X8_lay_49 : zin zm_X8_lay.2.2.2.2.2 49 = some (.aload_n 0, 1) := by rw [It_X8_lay]; rfl
theorem I_X8_lay_50 : zin zm_X8_lay.2.2.2.2.2 50 = some (.getfield 50, 3) := by rw [It_X8_lay]; rfl
theorem I_X8_lay_53 : zin zm_X8_lay.2.2.2.2.2 53 = some (.bipush 40, 2) := by rw [It_X8_lay]; rfl
theorem I_X8_lay_55 : zin zm_X8_lay.2.2.2.2.2 55 = some (.iload_n 1, 1) := by rw [It_X8_lay]; rfl
theorem I_X8_lay_56 : zin zm_X8_lay.2.2.2.2.2 56 = some (.imul, 1) := by rw [It_X8_lay]; rfl
theorem I_X8_lay_57 : zin zm_X8_lay.2.2.2.2.2 57 = some (.iload_n 2, 1) := by rw [It_X8_lay]; rfl
theorem I_X8_lay_58 : zin zm_X8_lay.2.2.2.2.2 58 = some (.iadd, 1) := by rw [It_X8_lay]; rfl
theorem I_X8_lay_59 : zin zm_X8_lay.2.2.2.2.2 59 = some (.aload_n 0, 1) := by rw [It_X8_lay]; rfl
theorem I_X8_lay_60 : zin zm_X8_lay.2.2.2.2.2 60 = some (.getfield 44, 3) := by rw [It_X8_lay]; rfl
theorem I_X8_lay_63 : zin zm_X8_lay.2.2.2.2.2 63 = some (.iload_n 1, 1) := by rw [It_X8_lay]; rfl
theorem I_X8_lay_64 : zin zm_X8_lay.2.2.2.2.2 64 = some (.iaload, 1) := by rw [It_X8_lay]; rfl
theorem I_X8_lay_65 : zin zm_X8_lay.2.2.2.2.2 65 = some (.ifCond .ne 13, 3) := by rw [It_X8_lay]; rfl
theorem I_X8_lay_68 : zin zm_X8_lay.2.2.2.2.2 68 = some (.iload_n 3, 1) := by rw [It_X8_lay]; rfl
theorem I_X8_lay_69 : zin zm_X8_lay.2.2.2.2.2 69 = some (.bipush 24, 2) := by rw [It_X8_lay]; rfl
theorem I_X8_lay_71 : zin zm_X8_lay.2.2.2.2.2 71 = some (.ishl, 1) := by rw [It_X8_lay]; rfl
theorem I_X8_lay_72 : zin zm_X8_lay.2.2.2.2.2 72 = some (.bipush 24, 2) := by rw [It_X8_lay]; rfl
theorem I_X8_lay_74 : zin zm_X8_lay.2.2.2.2.2 74 = some (.ishr, 1) := by rw [It_X8_lay]; rfl
theorem I_X8_lay_75 : zin zm_X8_lay.2.2.2.2.2 75 = some (.goto 24, 3) := by rw [It_X8_lay]; rfl
theorem I_X8_lay_78 : zin zm_X8_lay.2.2.2.2.2 78 = some (.aload_n 0, 1) := by rw [It_X8_lay]; rfl
theorem I_X8_lay_79 : zin zm_X8_lay.2.2.2.2.2 79 = some (.getfield 44, 3) := by rw [It_X8_lay]; rfl
theorem I_X8_lay_82 : zin zm_X8_lay.2.2.2.2.2 82 = some (.iload_n 1, 1) := by rw [It_X8_lay]; rfl
theorem I_X8_lay_83 : zin zm_X8_lay.2.2.2.2.2 83 = some (.iaload, 1) := by rw [It_X8_lay]; rfl
theorem I_X8_lay_84 : zin zm_X8_lay.2.2.2.2.2 84 = some (.iconst 1, 1) := by rw [It_X8_lay]; rfl
theorem I_X8_lay_85 : zin zm_X8_lay.2.2.2.2.2 85 = some (.if_icmp .ne 13, 3) := by rw [It_X8_lay]; rfl
theorem I_X8_lay_88 : zin zm_X8_lay.2.2.2.2.2 88 = some (.iload_n 3, 1) := by rw [It_X8_lay]; rfl
theorem I_X8_lay_89 : zin zm_X8_lay.2.2.2.2.2 89 = some (.bipush 16, 2) := by rw [It_X8_lay]; rfl
theorem I_X8_lay_91 : zin zm_X8_lay.2.2.2.2.2 91 = some (.ishl, 1) := by rw [It_X8_lay]; rfl
theorem I_X8_lay_92 : zin zm_X8_lay.2.2.2.2.2 92 = some (.bipush 16, 2) := by rw [It_X8_lay]; rfl
theorem I_X8_lay_94 : zin zm_X8_lay.2.2.2.2.2 94 = some (.ishr, 1) := by rw [It_X8_lay]; rfl
theorem I_X8_lay_95 : zin zm_X8_lay.2.2.2.2.2 95 = some (.goto 4, 3) := by rw [It_X8_lay]; rfl
theorem I_X8_lay_98 : zin zm_X8_lay.2.2.2.2.2 98 = some (.iload_n 3, 1) := by rw [It_X8_lay]; rfl
theorem I_X8_lay_99 : zin zm_X8_lay.2.2.2.2.2 99 = some (.iastore, 1) := by rw [It_X8_lay]; rfl
theorem I_X8_lay_100 : zin zm_X8_lay.2.2.2.2.2 100 = some (.iconst 1, 1) := by rw [It_X8_lay]; rfl
theorem I_X8_lay_101 : zin zm_X8_lay.2.2.2.2.2 101 = some (.ireturn, 1) := by rw [It_X8_lay]; rfl
theorem I_X8_sheet_0 : zin zm_X8_sheet.2.2.2.2.2 0 = some (.iload_n 1, 1) := by rw [It_X8_sheet]; rfl
theorem I_X8_sheet_1 : zin zm_X8_sheet.2.2.2.2.2 1 = some (.i2l, 1) := by rw [It_X8_sheet]; rfl
theorem I_X8_sheet_2 : zin zm_X8_sheet.2.2.2.2.2 2 = some (.lconst 0, 1) := by rw [It_X8_sheet]; rfl
theorem I_X8_sheet_3 : zin zm_X8_sheet.2.2.2.2.2 3 = some (.ldc2_w 155, 3) := by rw [It_X8_sheet]; rfl
theorem I_X8_sheet_6 : zin zm_X8_sheet.2.2.2.2.2 6 = some (.invokestatic 55, 3) := by rw [It_X8_sheet]; rfl
theorem I_X8_sheet_9 : zin zm_X8_sheet.2.2.2.2.2 9 = some (.ifCond .eq 21, 3) := by rw [It_X8_sheet]; rfl
theorem I_X8_sheet_12 : zin zm_X8_sheet.2.2.2.2.2 12 = some (.iload_n 2, 1) := by rw [It_X8_sheet]; rfl
theorem I_X8_sheet_13 : zin zm_X8_sheet.2.2.2.2.2 13 = some (.i2l, 1) := by rw [It_X8_sheet]; rfl
theorem I_X8_sheet_14 : zin zm_X8_sheet.2.2.2.2.2 14 = some (.lconst 0, 1) := by rw [It_X8_sheet]; rfl
theorem I_X8_sheet_15 : zin zm_X8_sheet.2.2.2.2.2 15 = some (.ldc2_w 157, 3) := by rw [It_X8_sheet]; rfl
theorem I_X8_sheet_18 : zin zm_X8_sheet.2.2.2.2.2 18 = some (.invokestatic 55, 3) := by rw [It_X8_sheet]; rfl
theorem I_X8_sheet_21 : zin zm_X8_sheet.2.2.2.2.2 21 = some (.ifCond .eq 9, 3) := by rw [It_X8_sheet]; rfl
theorem I_X8_sheet_24 : zin zm_X8_sheet.2.2.2.2.2 24 = some (.iload_n 3, 1) := by rw [It_X8_sheet]; rfl
theorem I_X8_sheet_25 : zin zm_X8_sheet.2.2.2.2.2 25 = some (.bipush 40, 2) := by rw [It_X8_sheet]; rfl
theorem I_X8_sheet_27 : zin zm_X8_sheet.2.2.2.2.2 27 = some (.if_icmp .le 5, 3) := by rw [It_X8_sheet]; rfl
theorem I_X8_sheet_30 : zin zm_X8_sheet.2.2.2.2.2 30 = some (.iconst (-1), 1) := by rw [It_X8_sheet]; rfl
theorem I_X8_sheet_31 : zin zm_X8_sheet.2.2.2.2.2 31 = some (.ireturn, 1) := by rw [It_X8_sheet]; rfl
theorem I_X8_sheet_32 : zin zm_X8_sheet.2.2.2.2.2 32 = some (.iload_n 3, 1) := by rw [It_X8_sheet]; rfl
theorem I_X8_sheet_33 : zin zm_X8_sheet.2.2.2.2.2 33 = some (.ifCond .ge 6, 3) := by rw [It_X8_sheet]; rfl
theorem I_X8_sheet_36 : zin zm_X8_sheet.2.2.2.2.2 36 = some (.bipush (-14), 2) := by rw [It_X8_sheet]; rfl
theorem I_X8_sheet_38 : zin zm_X8_sheet.2.2.2.2.2 38 = some (.ireturn, 1) := by rw [It_X8_sheet]; rfl
theorem I_X8_sheet_39 : zin zm_X8_sheet.2.2.2.2.2 39 = some (.aload_n 0, 1) := by rw [It_X8_sheet]; rfl
theorem I_X8_sheet_40 : zin zm_X8_sheet.2.2.2.2.2 40 = some (.getfield 44, 3) := by rw [It_X8_sheet]; rfl
theorem I_X8_sheet_43 : zin zm_X8_sheet.2.2.2.2.2 43 = some (.iload_n 1, 1) := by rw [It_X8_sheet]; rfl
theorem I_X8_sheet_44 : zin zm_X8_sheet.2.2.2.2.2 44 = some (.iload_n 2, 1) := by rw [It_X8_sheet]; rfl
theorem I_X8_sheet_45 : zin zm_X8_sheet.2.2.2.2.2 45 = some (.iastore, 1) := by rw [It_X8_sheet]; rfl
theorem I_X8_sheet_46 : zin zm_X8_sheet.2.2.2.2.2 46 = some (.aload_n 0, 1) := by rw [It_X8_sheet]; rfl
theorem I_X8_sheet_47 : zin zm_X8_sheet.2.2.2.2.2 47 = some (.getfield 47, 3) := by rw [It_X8_sheet]; rfl
theorem I_X8_sheet_50 : zin zm_X8_sheet.2.2.2.2.2 50 = some (.iload_n 1, 1) := by rw [It_X8_sheet]; rfl
theorem I_X8_sheet_51 : zin zm_X8_sheet.2.2.2.2.2 51 = some (.iload_n 3, 1) := by rw [It_X8_sheet]; rfl
theorem I_X8_sheet_52 : zin zm_X8_sheet.2.2.2.2.2 52 = some (.iastore, 1) := by rw [It_X8_sheet]; rfl
theorem I_X8_sheet_53 : zin zm_X8_sheet.2.2.2.2.2 53 = some (.iconst 0, 1) := by rw [It_X8_sheet]; rfl
theorem I_X8_sheet_54 : zin zm_X8_sheet.2.2.2.2.2 54 = some (.istore 4, 2) := by rw [It_X8_sheet]; rfl
theorem I_X8_sheet_56 : zin zm_X8_sheet.2.2.2.2.2 56 = some (.iload 4, 2) := by rw [It_X8_sheet]; rfl
theorem I_X8_sheet_58 : zin zm_X8_sheet.2.2.2.2.2 58 = some (.bipush 40, 2) := by rw [It_X8_sheet]; rfl
theorem I_X8_sheet_60 : zin zm_X8_sheet.2.2.2.2.2 60 = some (.if_icmp .ge 22, 3) := by rw [It_X8_sheet]; rfl
theorem I_X8_sheet_63 : zin zm_X8_sheet.2.2.2.2.2 63 = some (.aload_n 0, 1) := by rw [It_X8_sheet]; rfl
theorem I_X8_sheet_64 : zin zm_X8_sheet.2.2.2.2.2 64 = some (.getfield 50, 3) := by rw [It_X8_sheet]; rfl
theorem I_X8_sheet_67 : zin zm_X8_sheet.2.2.2.2.2 67 = some (.bipush 40, 2) := by rw [It_X8_sheet]; rfl
theorem I_X8_sheet_69 : zin zm_X8_sheet.2.2.2.2.2 69 = some (.iload_n 1, 1) := by rw [It_X8_sheet]; rfl
theorem I_X8_sheet_70 : zin zm_X8_sheet.2.2.2.2.2 70 = some (.imul, 1) := by rw [It_X8_sheet]; rfl
theorem I_X8_sheet_71 : zin zm_X8_sheet.2.2.2.2.2 71 = some (.iload 4, 2) := by rw [It_X8_sheet]; rfl
theorem I_X8_sheet_73 : zin zm_X8_sheet.2.2.2.2.2 73 = some (.iadd, 1) := by rw [It_X8_sheet]; rfl
theorem I_X8_sheet_74 : zin zm_X8_sheet.2.2.2.2.2 74 = some (.iconst 0, 1) := by rw [It_X8_sheet]; rfl
theorem I_X8_sheet_75 : zin zm_X8_sheet.2.2.2.2.2 75 = some (.iastore, 1) := by rw [It_X8_sheet]; rfl
theorem I_X8_sheet_76 : zin zm_X8_sheet.2.2.2.2.2 76 = some (.iinc 4 1, 3) := by rw [It_X8_sheet]; rfl
theorem I_X8_sheet_79 : zin zm_X8_sheet.2.2.2.2.2 79 = some (.goto (-23), 3) := by rw [It_X8_sheet]; rfl
theorem I_X8_sheet_82 : zin zm_X8_sheet.2.2.2.2.2 82 = some (.iconst 1, 1) := by rw [It_X8_sheet]; rfl
theorem I_X8_sheet_83 : zin zm_X8_sheet.2.2.2.2.2 83 = some (.ireturn, 1) := by rw [It_X8_sheet]; rfl
theorem G_5_9 : zlk zfls 5 9 = some (5, 0, 282) := rfl
theorem G_5_15 : zlk zfls 5 15 = some (5, 1, 284) := rfl
theorem G_5_19 : zlk zfls 5 19 = some (5, 2, 286) := rfl
theorem G_5_23 : zlk zfls 5 23 = some (5, 3, 287) := rfl
theorem G_7_54 : zlk zfls 7 54 = some (7, 7, 306) := rfl
theorem K_5_26 : zlk zmls 5 26 = some (1, 193, 2, 796) := rfl
theorem K_5_32 : zlk zmls 5 32 = some (0, 55, 1, 817) := rfl
theorem K_7_261 : zlk zmls 7 261 = some (0, 54, 2, 792) := rfl
theorem K_7_264 : zlk zmls 7 264 = some (0, 55, 1, 801) := rfl
theorem K_7_267 : zlk zmls 7 267 = some (0, 57, 2, 805) := rfl
theorem Zm_54 : zms[54]? = some zm_X5_renew := rfl
theorem Zm_55 : zms[55]? = some zm_X5_faultAt := rfl
theorem Zm_57 : zms[57]? = some zm_X5_write := rfl
theorem LY_46 : zLY[46]? = some (Sum.inl 8, [some (.ref 63), some (.ref 65), some (.ref 67), some (.ref 69)]) := rfl
theorem LY_63 : zLY[63]? = some (Sum.inr 5, [some (.ref 64), none, none, none]) := rfl
theorem LY_64 : zLY[64]? = some (Sum.inl 0, List.replicate 40 none) := rfl
theorem LY_65 : zLY[65]? = some (Sum.inr 5, [some (.ref 66), none, none, none]) := rfl
theorem LY_66 : zLY[66]? = some (Sum.inl 0, List.replicate 40 none) := rfl
theorem LY_67 : zLY[67]? = some (Sum.inr 5, [some (.ref 68), none, none, none]) := rfl
theorem LY_68 : zLY[68]? = some (Sum.inl 0, List.replicate 40 none) := rfl
theorem LY_69 : zLY[69]? = some (Sum.inr 5, [some (.ref 70), none, none, none]) := rfl
theorem LY_70 : zLY[70]? = some (Sum.inl 0, List.replicate 40 none) := rfl
theorem cl_X5_faultAs : zm_X5_faultAs.2.2.2.2.1 = 5 := by
  unfold zm_X5_faultAs
  rfl
theorem cn_X5_faultAs : zm_X5_faultAs.2.2.2.2.1 ≠ 12 := by
  rw [cl_X5_faultAs]
  decide
theorem cn2_X5_faultAs : zm_X5_faultAs.2.2.2.2.1 ≠ 2 := by
  rw [cl_X5_faultAs]
  decide
theorem cl_X5_faultAt : zm_X5_faultAt.2.2.2.2.1 = 5 := by
  unfold zm_X5_faultAt
  rfl
theorem cn_X5_faultAt : zm_X5_faultAt.2.2.2.2.1 ≠ 12 := by
  rw [cl_X5_faultAt]
  decide
theorem cn2_X5_faultAt : zm_X5_faultAt.2.2.2.2.1 ≠ 2 := by
  rw [cl_X5_faultAt]
  decide
theorem cl_X5_renew : zm_X5_renew.2.2.2.2.1 = 5 := by
  unfold zm_X5_renew
  rfl
theorem cn_X5_renew : zm_X5_renew.2.2.2.2.1 ≠ 12 := by
  rw [cl_X5_renew]
  decide
theorem cn2_X5_renew : zm_X5_renew.2.2.2.2.1 ≠ 2 := by
  rw [cl_X5_renew]
  decide
theorem cl_X5_write : zm_X5_write.2.2.2.2.1 = 5 := by
  unfold zm_X5_write
  rfl
theorem cn_X5_write : zm_X5_write.2.2.2.2.1 ≠ 12 := by
  rw [cl_X5_write]
  decide
theorem cn2_X5_write : zm_X5_write.2.2.2.2.1 ≠ 2 := by
  rw [cl_X5_write]
  decide
theorem cl_X7_lay : zm_X7_lay.2.2.2.2.1 = 7 := by
  unfold zm_X7_lay
  rfl
theorem cn_X7_lay : zm_X7_lay.2.2.2.2.1 ≠ 12 := by
  rw [cl_X7_lay]
  decide
theorem cn2_X7_lay : zm_X7_lay.2.2.2.2.1 ≠ 2 := by
  rw [cl_X7_lay]
  decide
theorem cl_X7_sheet : zm_X7_sheet.2.2.2.2.1 = 7 := by
  unfold zm_X7_sheet
  rfl
theorem cn_X7_sheet : zm_X7_sheet.2.2.2.2.1 ≠ 12 := by
  rw [cl_X7_sheet]
  decide
theorem cn2_X7_sheet : zm_X7_sheet.2.2.2.2.1 ≠ 2 := by
  rw [cl_X7_sheet]
  decide
theorem cl_X8_lay : zm_X8_lay.2.2.2.2.1 = 8 := by
  unfold zm_X8_lay
  rfl
theorem cn_X8_lay : zm_X8_lay.2.2.2.2.1 ≠ 12 := by
  rw [cl_X8_lay]
  decide
theorem cn2_X8_lay : zm_X8_lay.2.2.2.2.1 ≠ 2 := by
  rw [cl_X8_lay]
  decide
theorem cl_X8_sheet : zm_X8_sheet.2.2.2.2.1 = 8 := by
  unfold zm_X8_sheet
  rfl
theorem cn_X8_sheet : zm_X8_sheet.2.2.2.2.1 ≠ 12 := by
  rw [cl_X8_sheet]
  decide
theorem cn2_X8_sheet : zm_X8_sheet.2.2.2.2.1 ≠ 2 := by
  rw [cl_X8_sheet]
  decide
/-- a sheet of the class, of the reference -/
def SHk (m : zM) (k : Nat) : Prop := (m (63 + 2 * k) 1 = 0 ∧ m 83 k = -4) ∨ (¬ m (63 + 2 * k) 1 = 0 ∧ ¬ m 83 k = -4 ∧ m (63 + 2 * k) 2 = m 83 k ∧ m (63 + 2 * k) 3 = m 84 k ∧ ∀ i, i < 40 → m (64 + 2 * k) i = m 85 (40 * k + i))
def HS (m : zM) : Prop := (∀ k, k < 4 → SHk m k) ∧ m 0 8 = m 71 30
def qH (k i : Nat) : Bool := (Nat.ble 63 k && Nat.ble k 70 && ((Nat.beq (k % 2) 1 && Nat.ble 1 i && Nat.ble i 3) || (Nat.beq (k % 2) 0 && Nat.blt i 40))) || (Nat.beq k 83 && Nat.blt i 4) || (Nat.beq k 84 && Nat.blt i 4) || (Nat.beq k 85 && Nat.blt i 160) || (Nat.beq k 0 && Nat.beq i 8) || (Nat.beq k 71 && Nat.beq i 30)
theorem qH_p : zqp qH = true := by decide +kernel
theorem qH_i {k i : Nat} (h : (63 ≤ k ∧ k ≤ 70 ∧ ((k % 2 = 1 ∧ 1 ≤ i ∧ i ≤ 3) ∨ (k % 2 = 0 ∧ i < 40))) ∨ (k = 83 ∧ i < 4) ∨ (k = 84 ∧ i < 4) ∨ (k = 85 ∧ i < 160) ∨ (k = 0 ∧ i = 8) ∨ (k = 71 ∧ i = 30)) : qH k i = true := by
  simp only [qH, Bool.or_eq_true, Bool.and_eq_true, Nat.beq_eq, Nat.blt_eq, Nat.ble_eq]
  omega
theorem SHk_e {m m1 : zM} {k : Nat} (hk : k < 4) (h : SHk m k) (E : ∀ x y, ((x = 63 + 2 * k ∧ 1 ≤ y ∧ y ≤ 3) ∨ (x = 64 + 2 * k ∧ y < 40) ∨ (x = 83 ∧ y = k) ∨ (x = 84 ∧ y = k) ∨ (x = 85 ∧ 40 * k ≤ y ∧ y < 40 * k + 40)) → m1 x y = m x y) : SHk m1 k := by
  unfold SHk at h ⊢
  rw [E (63 + 2 * k) 1 (by omega), E (63 + 2 * k) 2 (by omega), E (63 + 2 * k) 3 (by omega), E 83 k (by omega), E 84 k (by omega)]
  rcases h with h | ⟨h1, h2, h3, h4, h5⟩
  · exact Or.inl h
  · refine Or.inr ⟨h1, h2, h3, h4, fun i hi => ?_⟩
    rw [E _ _ (by omega), E _ _ (by omega)]
    exact h5 i hi
theorem HS_e {m m1 : zM} (h : HS m) (he : zqe qH m m1) : HS m1 := by
  have E : ∀ x y, x < 86 → y < 170 → ((63 ≤ x ∧ x ≤ 70 ∧ ((x % 2 = 1 ∧ 1 ≤ y ∧ y ≤ 3) ∨ (x % 2 = 0 ∧ y < 40))) ∨ (x = 83 ∧ y < 4) ∨ (x = 84 ∧ y < 4) ∨ (x = 85 ∧ y < 160) ∨ (x = 0 ∧ y = 8) ∨ (x = 71 ∧ y = 30)) → m1 x y = m x y := fun x y hx hy q => he x y (by rw [Nat.blt_eq]; exact hx) (by rw [Nat.blt_eq]; exact hy) (qH_i q)
  refine ⟨fun k hk => SHk_e hk (h.1 k hk) (fun x y q => E x y (by omega) (by omega) (by omega)), ?_⟩
  rw [E 0 8 (by omega) (by omega) (by omega), E 71 30 (by omega) (by omega) (by omega)]
  exact h.2
theorem HS_f {md : yMd} {m m1 : zM} (h : HS m) (hf : zfm md m m1) (hc : zqm qH md = true) : HS m1 := HS_e h (zq_f qH_p hc hf)
def RF (m : zM) : Prop := RC m ∧ HS m
def qF (k i : Nat) : Bool := qC k i || qH k i
theorem qF_p : zqp qF = true := by decide +kernel
theorem RF_f {md : yMd} {m m1 : zM} (h : RF m) (hf : zfm md m m1) (hc : zqm qF md = true) : RF m1 := by
  have he := zq_f qF_p hc hf
  exact ⟨RC_e h.1 (fun k i a b q => he k i a b (by simp [qF, q])), HS_e h.2 (fun k i a b q => he k i a b (by simp [qF, q]))⟩
theorem zl84 {m : zM} (ht : zTy m) : ∀ k, k < 4 → ∃ s, s ≤ 40 ∧ m 84 k = Int32.ofNat s := fun k hk => by
  have h : 0 ≤ (m 84 k).toInt ∧ (m 84 k).toInt ≤ 40 := by
    match k, hk with
    | 0, _ => exact zTy_r (k := 84) (i := 0) ht rfl ⟨_, LY_84, rfl⟩ rfl
    | 1, _ => exact zTy_r (k := 84) (i := 1) ht rfl ⟨_, LY_84, rfl⟩ rfl
    | 2, _ => exact zTy_r (k := 84) (i := 2) ht rfl ⟨_, LY_84, rfl⟩ rfl
    | 3, _ => exact zTy_r (k := 84) (i := 3) ht rfl ⟨_, LY_84, rfl⟩ rfl
  refine ⟨(m 84 k).toInt.toNat, by omega, ?_⟩
  apply Int32.toInt_inj.mp
  rw [zofn_t (by omega)]
  omega
theorem z_34 {x : Int32} : ¬ 3 < x ↔ x < 4 := by
  rw [Int32.lt_iff_toInt_lt, Int32.lt_iff_toInt_lt]
  have e3 : (3 : Int32).toInt = 3 := rfl
  have e4 : (4 : Int32).toInt = 4 := rfl
  omega
abbrev zS4 (x : Int32) : Prop := ¬ x < 0 ∧ x < 4
theorem zS4_n {x : Int32} (h : zS4 x) : ∃ k, k < 4 ∧ x = Int32.ofNat k := zlt_n (y := 4) (n := 4) rfl (by omega) h
theorem zin_03 {x : Int32} {a b : Int64} (ha : a.toInt = 0) (hb : b.toInt = 3) : zin64 x.toInt64 a b = if zS4 x then 1 else 0 := by
  have e : b.toInt = (3 : Int32).toInt := hb
  rw [zin_bt (lo := 0) (hi := 3) ha e]
  by_cases h1 : x < 0
  · rw [if_neg (fun w => w.1 h1), if_neg (fun w => w.1 h1)]
  · by_cases h2 : x < 4
    · rw [if_pos ⟨h1, z_34.mpr h2⟩, if_pos ⟨h1, h2⟩]
    · rw [if_neg (fun w => h2 (z_34.mp w.2)), if_neg (fun w => h2 w.2)]
abbrev gSo (x l n : Int32) : Prop := zS4 x ∧ zBt l 0 2 ∧ ¬ 40 < n ∧ ¬ n < 0
theorem t_X5_renew {d : Nat} {m : zM} {r : Option Value} {h' : zHp} {k : Nat} {l n : Int32} (hk : k < 4) (H : zE none d zm_X5_renew 0 [.ref (63 + 2 * k), .int l, .int n] [] m r h') : ∃ m1, r = none ∧ h' = zhp m1 ∧ m1 (63 + 2 * k) 1 = 1 ∧ m1 (63 + 2 * k) 2 = l ∧ m1 (63 + 2 * k) 3 = n ∧ (∀ i, i < 40 → m1 (64 + 2 * k) i = 0) ∧ ∀ a b, ¬ (a = 63 + 2 * k ∧ 1 ≤ b ∧ b ≤ 3) → ¬ a = 64 + 2 * k → m1 a b = m a b := by
  replace H := i_aln (q := 1) H I_X5_renew_0 rfl rfl
  replace H := i_icst (x := 1) (q := 2) H I_X5_renew_1 (by decide) rfl
  replace H := i_pf (q := 5) H I_X5_renew_2 G_5_15 cn_X5_renew (sh_0 hk) rfl rfl
  replace H := i_aln (q := 6) H I_X5_renew_5 rfl rfl
  replace H := i_iln (q := 7) H I_X5_renew_6 rfl rfl
  replace H := i_pf (q := 10) H I_X5_renew_7 G_5_19 cn_X5_renew (sh_0 hk) rfl rfl
  replace H := i_aln (q := 11) H I_X5_renew_10 rfl rfl
  replace H := i_iln (q := 12) H I_X5_renew_11 rfl rfl
  replace H := i_pf (q := 15) H I_X5_renew_12 G_5_23 cn_X5_renew (sh_0 hk) rfl rfl
  replace H := i_aln (q := 16) H I_X5_renew_15 rfl rfl
  replace H := i_gfr (q := 19) H I_X5_renew_16 G_5_9 cn_X5_renew (sh_0 hk) rfl rfl
  replace H := i_icst (x := 0) (q := 20) H I_X5_renew_19 (by decide) rfl
  have W := i_cs2 2 (q := 23) H I_X5_renew_20 K_5_26 Zm_193 rfl rfl
  clear H
  obtain ⟨r1, h1, Hc, K1, K2⟩ := W
  obtain ⟨M_20, e1, e2, F_20⟩ := t_fill (n := 40) (sh_1 hk) (by omega) Hc
  have H := K2 _ e1 e2
  clear e1 e2 Hc K1 K2
  obtain ⟨hr, hh⟩ := i_rt H I_X5_renew_23
  refine ⟨M_20, hr, hh, ?_, ?_, ?_, F_20.1, fun a b h1 h2 => ?_⟩
  · rw [F_20.2 _ _ (by omega), zup_n (by omega), zup_n (by omega), zup_s]
  · rw [F_20.2 _ _ (by omega), zup_n (by omega), zup_s]
  · rw [F_20.2 _ _ (by omega), zup_s]
  · rw [F_20.2 _ _ (by omega), zup_n (by omega), zup_n (by omega), zup_n (by omega)]
theorem t_X7_sheet {d : Nat} {m : zM} {r : Option Value} {h' : zHp} {x l n : Int32} (H : zE none d zm_X7_sheet 0 [.ref 0, .int x, .int l, .int n] [] m r h') : ∃ m1 v, r = some (.int v) ∧ h' = zhp m1 ∧ ((¬ gSo x l n ∧ m1 = m) ∨ (gSo x l n ∧ ∃ k, k < 4 ∧ x = Int32.ofNat k ∧ m1 (63 + 2 * k) 1 = 1 ∧ m1 (63 + 2 * k) 2 = l ∧ m1 (63 + 2 * k) 3 = n ∧ (∀ i, i < 40 → m1 (64 + 2 * k) i = 0) ∧ ∀ a b, ¬ (a = 63 + 2 * k ∧ 1 ≤ b ∧ b ≤ 3) → ¬ a = 64 + 2 * k → m1 a b = m a b)) := by
  replace H := i_iln (q := 1) H I_X7_sheet_0 rfl rfl
  have W := i_if_lt (t := 24) (q := 4) H I_X7_sheet_1 (by decide) rfl
  clear H
  rcases W with ⟨c_1, H⟩ | ⟨c_1, H⟩
  · skip
    replace H := i_icst (x := (-1)) (q := 25) H I_X7_sheet_24 (by decide) rfl
    obtain ⟨hr, hh⟩ := i_ir H I_X7_sheet_25
    exact ⟨_, _, hr, hh, Or.inl ⟨fun q => q.1.1 c_1, rfl⟩⟩
  · skip
    replace H := i_iln (q := 5) H I_X7_sheet_4 rfl rfl
    replace H := i_icst (x := 4) (q := 6) H I_X7_sheet_5 (by decide) rfl
    have W := i_ic_ge (t := 24) (q := 9) H I_X7_sheet_6 (by decide) rfl
    clear H
    rcases W with ⟨c_6, H⟩ | ⟨c_6, H⟩
    · skip
      replace H := i_icst (x := (-1)) (q := 25) H I_X7_sheet_24 (by decide) rfl
      obtain ⟨hr, hh⟩ := i_ir H I_X7_sheet_25
      exact ⟨_, _, hr, hh, Or.inl ⟨fun q => c_6 q.1.2, rfl⟩⟩
    · skip
      replace H := i_iln (q := 10) H I_X7_sheet_9 rfl rfl
      have W := i_if_lt (t := 24) (q := 13) H I_X7_sheet_10 (by decide) rfl
      clear H
      rcases W with ⟨c_10, H⟩ | ⟨c_10, H⟩
      · skip
        replace H := i_icst (x := (-1)) (q := 25) H I_X7_sheet_24 (by decide) rfl
        obtain ⟨hr, hh⟩ := i_ir H I_X7_sheet_25
        exact ⟨_, _, hr, hh, Or.inl ⟨fun q => q.2.1.1 c_10, rfl⟩⟩
      · skip
        replace H := i_iln (q := 14) H I_X7_sheet_13 rfl rfl
        replace H := i_icst (x := 2) (q := 15) H I_X7_sheet_14 (by decide) rfl
        have W := i_ic_gt (t := 24) (q := 18) H I_X7_sheet_15 (by decide) rfl
        clear H
        rcases W with ⟨c_15, H⟩ | ⟨c_15, H⟩
        · skip
          replace H := i_icst (x := (-1)) (q := 25) H I_X7_sheet_24 (by decide) rfl
          obtain ⟨hr, hh⟩ := i_ir H I_X7_sheet_25
          exact ⟨_, _, hr, hh, Or.inl ⟨fun q => q.2.1.2 c_15, rfl⟩⟩
        · skip
          replace H := i_iln (q := 19) H I_X7_sheet_18 rfl rfl
          replace H := i_bip (x := 40) (q := 21) H I_X7_sheet_19 (by decide) rfl
          have W := i_ic_le (t := 26) (q := 24) H I_X7_sheet_21 (by decide) rfl
          clear H
          rcases W with ⟨c_21, H⟩ | ⟨c_21, H⟩
          · skip
            replace H := i_iln (q := 27) H I_X7_sheet_26 rfl rfl
            have W := i_if_ge (t := 33) (q := 30) H I_X7_sheet_27 (by decide) rfl
            clear H
            rcases W with ⟨c_27, H⟩ | ⟨c_27, H⟩
            · skip
              replace H := i_aln (q := 34) H I_X7_sheet_33 rfl rfl
              replace H := i_gfr (q := 37) H I_X7_sheet_34 G_7_54 cn_X7_sheet LY_0 rfl rfl
              replace H := i_iln (q := 38) H I_X7_sheet_37 rfl rfl
              have W := i_sht (q := 39) H I_X7_sheet_38 rfl
              clear H
              obtain ⟨i_38, bi_38, ei_38, H⟩ := W
              replace H := i_iln (q := 40) H I_X7_sheet_39 rfl rfl
              replace H := i_iln (q := 41) H I_X7_sheet_40 rfl rfl
              have W := i_cv2 0 (q := 44) H I_X7_sheet_41 K_7_261 Zm_54 rfl rfl
              clear H
              obtain ⟨r1, h1, Hc, K1, K2⟩ := W
              obtain ⟨M_41, e1, e2, F_41⟩ := t_X5_renew bi_38 Hc
              have H := K2 _ e1 e2
              clear e1 e2 Hc K1 K2
              replace H := i_icst (x := 1) (q := 45) H I_X7_sheet_44 (by decide) rfl
              obtain ⟨hr, hh⟩ := i_ir H I_X7_sheet_45
              exact ⟨_, _, hr, hh, Or.inr ⟨⟨⟨c_1, c_6⟩, ⟨c_10, c_15⟩, c_21, c_27⟩, i_38, bi_38, ei_38, F_41⟩⟩
            · skip
              replace H := i_bip (x := (-14)) (q := 32) H I_X7_sheet_30 (by decide) rfl
              obtain ⟨hr, hh⟩ := i_ir H I_X7_sheet_32
              exact ⟨_, _, hr, hh, Or.inl ⟨fun q => q.2.2.2 c_27, rfl⟩⟩
          · skip
            replace H := i_icst (x := (-1)) (q := 25) H I_X7_sheet_24 (by decide) rfl
            obtain ⟨hr, hh⟩ := i_ir H I_X7_sheet_25
            exact ⟨_, _, hr, hh, Or.inl ⟨fun q => q.2.2.1 c_21, rfl⟩⟩
theorem sh_loop {k : Nat} {l n : Int32} (hk : k < 4) : ∀ (j i d : Nat) (r : Option Value) (h' : zHp) (m : zM), i + j = 40 → zE none d zm_X8_sheet 56 [.ref 71, .int (Int32.ofNat k), .int l, .int n, .int (Int32.ofNat i)] [] m r h' → ∃ m1, (∃ v, r = some (.int v)) ∧ h' = zhp m1 ∧ (∀ i', i ≤ i' → i' < 40 → m1 85 (40 * k + i') = 0) ∧ ∀ a b, ¬ (a = 85 ∧ 40 * k + i ≤ b ∧ b < 40 * k + 40) → m1 a b = m a b := by
  intro j
  induction j with
  | zero =>
    intro i d r h' m hj H
    replace H := i_il (q := 58) H I_X8_sheet_56 rfl rfl
    replace H := i_bip (x := 40) (q := 60) H I_X8_sheet_58 (by decide) rfl
    have W := i_ic_ge (t := 82) (q := 63) H I_X8_sheet_60 (by decide) rfl
    clear H
    rcases W with ⟨c_60, H⟩ | ⟨c_60, H⟩
    · skip
      replace H := i_icst (x := 1) (q := 83) H I_X8_sheet_82 (by decide) rfl
      obtain ⟨hr, hh⟩ := i_ir H I_X8_sheet_83
      exact ⟨m, ⟨_, hr⟩, hh, fun i' h1 h2 => by omega, fun _ _ _ => rfl⟩
    · exfalso
      exact absurd ((zofn_lt (j := 40) (by omega) (by decide)).mp c_60) (by omega)
  | succ j ih =>
    intro i d r h' m hj H
    replace H := i_il (q := 58) H I_X8_sheet_56 rfl rfl
    replace H := i_bip (x := 40) (q := 60) H I_X8_sheet_58 (by decide) rfl
    have W := i_ic_ge (t := 82) (q := 63) H I_X8_sheet_60 (by decide) rfl
    clear H
    rcases W with ⟨c_60, H⟩ | ⟨c_60, H⟩
    · exfalso
      exact c_60 ((zofn_lt (j := 40) (by omega) (by decide)).mpr (by omega))
    · skip
      replace H := i_aln (q := 64) H I_X8_sheet_63 rfl rfl
      replace H := i_gfr (q := 67) H I_X8_sheet_64 G_8_50 cn_X8_sheet LY_71 rfl rfl
      replace H := i_bip (x := 40) (q := 69) H I_X8_sheet_67 (by decide) rfl
      replace H := i_iln (q := 70) H I_X8_sheet_69 rfl rfl
      replace H := i_imul (q := 71) H I_X8_sheet_70 rfl
      replace H := i_il (q := 73) H I_X8_sheet_71 rfl rfl
      replace H := i_iadd (q := 74) H I_X8_sheet_73 rfl
      replace H := i_icst (x := 0) (q := 75) H I_X8_sheet_74 (by decide) rfl
      have W := i_iast (q := 76) H I_X8_sheet_75 LY_85 rfl
      clear H
      obtain ⟨i_75, bi_75, ei_75, H⟩ := W
      replace H := i_inc (q := 79) H I_X8_sheet_76 rfl rfl rfl
      replace H := i_goto (q := 56) H I_X8_sheet_79 (by decide)
      have e : i_75 = 40 * k + i := (zofn (by rw [Int32.ofNat_add, Int32.ofNat_mul]; exact ei_75) (by omega) (by omega)).symm
      subst e
      replace H : zE none d zm_X8_sheet 56 [.ref 71, .int (Int32.ofNat k), .int l, .int n, .int (Int32.ofNat (i + 1))] [] (zup m 85 (40 * k + i) 0) r h' := by
        rw [← zofn_s]
        exact H
      obtain ⟨m1, g1, g2, g3, g4⟩ := ih (i + 1) d r h' _ (by omega) H
      refine ⟨m1, g1, g2, fun i' h1 h2 => ?_, fun a b hab => ?_⟩
      · by_cases e : i' = i
        · subst e
          rw [g4 _ _ (by omega), zup_s]
        · exact g3 i' (by omega) h2
      · rw [g4 a b (by omega), zup_n (by omega)]
theorem t_X8_sheet {d : Nat} {m : zM} {r : Option Value} {h' : zHp} {x l n : Int32} (H : zE none d zm_X8_sheet 0 [.ref 71, .int x, .int l, .int n, .null] [] m r h') : ∃ m1 v, r = some (.int v) ∧ h' = zhp m1 ∧ ((¬ gSo x l n ∧ m1 = m) ∨ (gSo x l n ∧ ∃ k, k < 4 ∧ x = Int32.ofNat k ∧ m1 83 k = l ∧ m1 84 k = n ∧ (∀ i, i < 40 → m1 85 (40 * k + i) = 0) ∧ ∀ a b, ¬ (a = 83 ∧ b = k) → ¬ (a = 84 ∧ b = k) → ¬ (a = 85 ∧ 40 * k ≤ b ∧ b < 40 * k + 40) → m1 a b = m a b)) := by
  replace H := i_iln (q := 1) H I_X8_sheet_0 rfl rfl
  replace H := i_i2l (q := 2) H I_X8_sheet_1 rfl
  replace H := i_lcst (x := 0) (q := 3) H I_X8_sheet_2 (by decide) rfl
  replace H := i_ldc2 (x := 3) (q := 6) H I_X8_sheet_3 J_8_155 (by decide) rfl
  replace H := i_in (q := 9) H I_X8_sheet_6 K_8_55 rfl
  have W := i_if_eq (t := 30) (q := 12) H I_X8_sheet_9 (by decide) rfl
  clear H
  rcases W with ⟨c_9, H⟩ | ⟨c_9, H⟩
  · skip
    replace H := i_icst (x := (-1)) (q := 31) H I_X8_sheet_30 (by decide) rfl
    obtain ⟨hr, hh⟩ := i_ir H I_X8_sheet_31
    rw [zin_03 rfl rfl] at c_9
    exact ⟨_, _, hr, hh, Or.inl ⟨fun q => zif0 c_9 q.1, rfl⟩⟩
  · skip
    replace H := i_iln (q := 13) H I_X8_sheet_12 rfl rfl
    replace H := i_i2l (q := 14) H I_X8_sheet_13 rfl
    replace H := i_lcst (x := 0) (q := 15) H I_X8_sheet_14 (by decide) rfl
    replace H := i_ldc2 (x := 2) (q := 18) H I_X8_sheet_15 J_8_157 (by decide) rfl
    replace H := i_in (q := 21) H I_X8_sheet_18 K_8_55 rfl
    have W := i_if_eq (t := 30) (q := 24) H I_X8_sheet_21 (by decide) rfl
    clear H
    rcases W with ⟨c_21, H⟩ | ⟨c_21, H⟩
    · skip
      replace H := i_icst (x := (-1)) (q := 31) H I_X8_sheet_30 (by decide) rfl
      obtain ⟨hr, hh⟩ := i_ir H I_X8_sheet_31
      rw [zin_bt (lo := 0) (hi := 2) rfl rfl] at c_21
      exact ⟨_, _, hr, hh, Or.inl ⟨fun q => zif0 c_21 q.2.1, rfl⟩⟩
    · skip
      replace H := i_iln (q := 25) H I_X8_sheet_24 rfl rfl
      replace H := i_bip (x := 40) (q := 27) H I_X8_sheet_25 (by decide) rfl
      have W := i_ic_le (t := 32) (q := 30) H I_X8_sheet_27 (by decide) rfl
      clear H
      rcases W with ⟨c_27, H⟩ | ⟨c_27, H⟩
      · skip
        replace H := i_iln (q := 33) H I_X8_sheet_32 rfl rfl
        have W := i_if_ge (t := 39) (q := 36) H I_X8_sheet_33 (by decide) rfl
        clear H
        rcases W with ⟨c_33, H⟩ | ⟨c_33, H⟩
        · skip
          replace H := i_aln (q := 40) H I_X8_sheet_39 rfl rfl
          replace H := i_gfr (q := 43) H I_X8_sheet_40 G_8_44 cn_X8_sheet LY_71 rfl rfl
          replace H := i_iln (q := 44) H I_X8_sheet_43 rfl rfl
          replace H := i_iln (q := 45) H I_X8_sheet_44 rfl rfl
          have W := i_iast (q := 46) H I_X8_sheet_45 LY_83 rfl
          clear H
          obtain ⟨i_45, bi_45, ei_45, H⟩ := W
          replace H := i_aln (q := 47) H I_X8_sheet_46 rfl rfl
          replace H := i_gfr (q := 50) H I_X8_sheet_47 G_8_47 cn_X8_sheet LY_71 rfl rfl
          replace H := i_iln (q := 51) H I_X8_sheet_50 rfl rfl
          replace H := i_iln (q := 52) H I_X8_sheet_51 rfl rfl
          have W := i_iast (q := 53) H I_X8_sheet_52 LY_84 rfl
          clear H
          obtain ⟨i_52, bi_52, ei_52, H⟩ := W
          replace H := i_icst (x := 0) (q := 54) H I_X8_sheet_53 (by decide) rfl
          replace H := i_is (q := 56) H I_X8_sheet_54 rfl rfl
          rw [zin_03 rfl rfl] at c_9
          rw [zin_bt (lo := 0) (hi := 2) rfl rfl] at c_21
          obtain ⟨k, k1, rfl⟩ := zS4_n (zif1 c_9)
          have e1 : k = i_45 := zofn ei_45 (by omega) (by omega)
          subst e1
          have e2 : k = i_52 := zofn ei_52 (by omega) (by omega)
          subst e2
          obtain ⟨m1, ⟨v, g1⟩, g2, g3, g4⟩ := sh_loop k1 40 0 d r h' _ rfl H
          refine ⟨m1, v, g1, g2, Or.inr ⟨⟨zif1 c_9, zif1 c_21, c_27, c_33⟩, k, k1, rfl, ?_, ?_, fun i hi => g3 i (by omega) hi, fun a b h1 h2 h3 => ?_⟩⟩
          · rw [g4 _ _ (by omega), zup_n (by omega), zup_s]
          · rw [g4 _ _ (by omega), zup_s]
          · rw [g4 a b (by omega), zup_n (by omega), zup_n (by omega)]
        · skip
          replace H := i_bip (x := (-14)) (q := 38) H I_X8_sheet_36 (by decide) rfl
          obtain ⟨hr, hh⟩ := i_ir H I_X8_sheet_38
          exact ⟨_, _, hr, hh, Or.inl ⟨fun q => q.2.2.2 c_33, rfl⟩⟩
      · skip
        replace H := i_icst (x := (-1)) (q := 31) H I_X8_sheet_30 (by decide) rfl
        obtain ⟨hr, hh⟩ := i_ir H I_X8_sheet_31
        exact ⟨_, _, hr, hh, Or.inl ⟨fun q => q.2.2.1 c_27, rfl⟩⟩
def zfa (th sz x : Int32) : Int32 := if th = 0 then 1 else if x < 0 ∨ ¬ x < sz then 2 else 0
def zfs (th ln sz as x : Int32) : Int32 := if ¬ th = 0 ∧ ¬ ln = as then 3 else zfa th sz x
def znr (l v : Int32) : Int32 := if l = 0 then v.toInt8.toInt32 else if l = 1 then v.toInt16.toInt32 else v
theorem zfa_0 {th sz x : Int32} : zfa th sz x = 0 ↔ ¬ th = 0 ∧ ¬ x < 0 ∧ x < sz := by
  unfold zfa
  by_cases h : th = 0
  · rw [if_pos h]
    exact ⟨fun q => absurd q (by decide), fun q => absurd h q.1⟩
  · rw [if_neg h]
    by_cases h2 : x < 0 ∨ ¬ x < sz
    · rw [if_pos h2]
      exact ⟨fun q => absurd q (by decide), fun q => (h2.elim (fun w => absurd w q.2.1) (fun w => absurd q.2.2 w))⟩
    · rw [if_neg h2]
      exact ⟨fun _ => ⟨h, fun w => h2 (Or.inl w), Decidable.not_not.mp (fun w => h2 (Or.inr w))⟩, fun _ => rfl⟩
theorem t_X5_faultAt {d : Nat} {m : zM} {r : Option Value} {h' : zHp} {k : Nat} {x : Int32} (hk : k < 4) (H : zE none d zm_X5_faultAt 0 [.ref (63 + 2 * k), .int x] [] m r h') : r = some (.int (zfa (m (63 + 2 * k) 1) (m (63 + 2 * k) 3) x)) ∧ h' = zhp m := by
  replace H := i_aln (q := 1) H I_X5_faultAt_0 rfl rfl
  replace H := i_gfi (q := 4) H I_X5_faultAt_1 G_5_15 cn_X5_faultAt (sh_0 hk) rfl rfl
  have W := i_if_ne (t := 9) (q := 7) H I_X5_faultAt_4 (by decide) rfl
  clear H
  rcases W with ⟨c_4, H⟩ | ⟨c_4, H⟩
  · skip
    replace H := i_iln (q := 10) H I_X5_faultAt_9 rfl rfl
    have W := i_if_lt (t := 21) (q := 13) H I_X5_faultAt_10 (by decide) rfl
    clear H
    rcases W with ⟨c_10, H⟩ | ⟨c_10, H⟩
    · skip
      replace H := i_icst (x := 2) (q := 22) H I_X5_faultAt_21 (by decide) rfl
      replace H := i_goto (q := 26) H I_X5_faultAt_22 (by decide)
      obtain ⟨hr, hh⟩ := i_ir H I_X5_faultAt_26
      exact ⟨hr.trans (by rw [zfa, if_neg c_4, if_pos (Or.inl c_10)]), hh⟩
    · skip
      replace H := i_iln (q := 14) H I_X5_faultAt_13 rfl rfl
      replace H := i_aln (q := 15) H I_X5_faultAt_14 rfl rfl
      replace H := i_gfi (q := 18) H I_X5_faultAt_15 G_5_23 cn_X5_faultAt (sh_0 hk) rfl rfl
      have W := i_ic_lt (t := 25) (q := 21) H I_X5_faultAt_18 (by decide) rfl
      clear H
      rcases W with ⟨c_18, H⟩ | ⟨c_18, H⟩
      · skip
        replace H := i_icst (x := 0) (q := 26) H I_X5_faultAt_25 (by decide) rfl
        obtain ⟨hr, hh⟩ := i_ir H I_X5_faultAt_26
        exact ⟨hr.trans (by rw [zfa, if_neg c_4, if_neg (fun q => q.elim c_10 (fun w => w c_18))]), hh⟩
      · skip
        replace H := i_icst (x := 2) (q := 22) H I_X5_faultAt_21 (by decide) rfl
        replace H := i_goto (q := 26) H I_X5_faultAt_22 (by decide)
        obtain ⟨hr, hh⟩ := i_ir H I_X5_faultAt_26
        exact ⟨hr.trans (by rw [zfa, if_neg c_4, if_pos (Or.inr c_18)]), hh⟩
  · skip
    replace H := i_icst (x := 1) (q := 8) H I_X5_faultAt_7 (by decide) rfl
    obtain ⟨hr, hh⟩ := i_ir H I_X5_faultAt_8
    exact ⟨hr.trans (by rw [zfa, if_pos c_4]), hh⟩
theorem t_X5_faultAs {d : Nat} {m : zM} {r : Option Value} {h' : zHp} {k : Nat} {as x : Int32} (hk : k < 4) (H : zE none d zm_X5_faultAs 0 [.ref (63 + 2 * k), .int as, .int x] [] m r h') : r = some (.int (zfs (m (63 + 2 * k) 1) (m (63 + 2 * k) 2) (m (63 + 2 * k) 3) as x)) ∧ h' = zhp m := by
  replace H := i_aln (q := 1) H I_X5_faultAs_0 rfl rfl
  replace H := i_gfi (q := 4) H I_X5_faultAs_1 G_5_15 cn_X5_faultAs (sh_0 hk) rfl rfl
  have W := i_if_eq (t := 19) (q := 7) H I_X5_faultAs_4 (by decide) rfl
  clear H
  rcases W with ⟨c_4, H⟩ | ⟨c_4, H⟩
  · skip
    replace H := i_aln (q := 20) H I_X5_faultAs_19 rfl rfl
    replace H := i_iln (q := 21) H I_X5_faultAs_20 rfl rfl
    have W := i_cv1 0 (q := 24) H I_X5_faultAs_21 K_5_32 Zm_55 rfl rfl
    clear H
    obtain ⟨r1, h1, Hc, K1, K2⟩ := W
    obtain ⟨e1, e2⟩ := t_X5_faultAt hk Hc
    have H := K1 _ _ e1 e2
    clear e1 e2 Hc K1 K2
    obtain ⟨hr, hh⟩ := i_ir H I_X5_faultAs_24
    exact ⟨hr.trans (by rw [zfs, if_neg (fun q => q.1 c_4)]), hh⟩
  · skip
    replace H := i_aln (q := 8) H I_X5_faultAs_7 rfl rfl
    replace H := i_gfi (q := 11) H I_X5_faultAs_8 G_5_19 cn_X5_faultAs (sh_0 hk) rfl rfl
    replace H := i_iln (q := 12) H I_X5_faultAs_11 rfl rfl
    have W := i_ic_eq (t := 19) (q := 15) H I_X5_faultAs_12 (by decide) rfl
    clear H
    rcases W with ⟨c_12, H⟩ | ⟨c_12, H⟩
    · skip
      replace H := i_aln (q := 20) H I_X5_faultAs_19 rfl rfl
      replace H := i_iln (q := 21) H I_X5_faultAs_20 rfl rfl
      have W := i_cv1 0 (q := 24) H I_X5_faultAs_21 K_5_32 Zm_55 rfl rfl
      clear H
      obtain ⟨r1, h1, Hc, K1, K2⟩ := W
      obtain ⟨e1, e2⟩ := t_X5_faultAt hk Hc
      have H := K1 _ _ e1 e2
      clear e1 e2 Hc K1 K2
      obtain ⟨hr, hh⟩ := i_ir H I_X5_faultAs_24
      exact ⟨hr.trans (by rw [zfs, if_neg (fun q => q.2 c_12)]), hh⟩
    · skip
      replace H := i_icst (x := 3) (q := 16) H I_X5_faultAs_15 (by decide) rfl
      replace H := i_goto (q := 24) H I_X5_faultAs_16 (by decide)
      obtain ⟨hr, hh⟩ := i_ir H I_X5_faultAs_24
      exact ⟨hr.trans (by rw [zfs, if_pos ⟨c_4, c_12⟩]), hh⟩
theorem t_X5_write {d : Nat} {m : zM} {r : Option Value} {h' : zHp} {k : Nat} {x v : Int32} (hk : k < 4) (H : zE none d zm_X5_write 0 [.ref (63 + 2 * k), .int x, .int v] [] m r h') : ∃ i, i < 40 ∧ x = Int32.ofNat i ∧ r = none ∧ h' = zhp (zup m (64 + 2 * k) i (znr (m (63 + 2 * k) 2) v)) := by
  replace H := i_aln (q := 1) H I_X5_write_0 rfl rfl
  replace H := i_gfi (q := 4) H I_X5_write_1 G_5_19 cn_X5_write (sh_0 hk) rfl rfl
  have W := i_lk1 0 (q := 32) H I_X5_write_4 (by decide)
  clear H
  rcases W with ⟨w_4_0, H⟩ | ⟨w_4_0, H⟩
  · skip
    replace H := i_aln (q := 33) H I_X5_write_32 rfl rfl
    replace H := i_gfr (q := 36) H I_X5_write_33 G_5_9 cn_X5_write (sh_0 hk) rfl rfl
    replace H := i_iln (q := 37) H I_X5_write_36 rfl rfl
    replace H := i_iln (q := 38) H I_X5_write_37 rfl rfl
    replace H := i_i2b (q := 39) H I_X5_write_38 rfl
    have W := i_iast (q := 40) H I_X5_write_39 (sh_1 hk) rfl
    clear H
    obtain ⟨i_39, bi_39, ei_39, H⟩ := W
    replace H := i_goto (q := 61) H I_X5_write_40 (by decide)
    obtain ⟨hr, hh⟩ := i_rt H I_X5_write_61
    refine ⟨i_39, bi_39, ei_39, hr, hh.trans ?_⟩
    rw [znr, if_pos w_4_0]
  · skip
    have W := i_lk1 1 (q := 43) H I_X5_write_4 (by decide)
    clear H
    rcases W with ⟨w_4_1, H⟩ | ⟨w_4_1, H⟩
    · skip
      replace H := i_aln (q := 44) H I_X5_write_43 rfl rfl
      replace H := i_gfr (q := 47) H I_X5_write_44 G_5_9 cn_X5_write (sh_0 hk) rfl rfl
      replace H := i_iln (q := 48) H I_X5_write_47 rfl rfl
      replace H := i_iln (q := 49) H I_X5_write_48 rfl rfl
      replace H := i_i2s (q := 50) H I_X5_write_49 rfl
      have W := i_iast (q := 51) H I_X5_write_50 (sh_1 hk) rfl
      clear H
      obtain ⟨i_50, bi_50, ei_50, H⟩ := W
      replace H := i_goto (q := 61) H I_X5_write_51 (by decide)
      obtain ⟨hr, hh⟩ := i_rt H I_X5_write_61
      refine ⟨i_50, bi_50, ei_50, hr, hh.trans ?_⟩
      rw [znr, if_neg w_4_0, if_pos w_4_1]
    · skip
      replace H := i_lkd2 (q := 54) H I_X5_write_4 (zne w_4_0 (z := 0) (by decide)) (zne w_4_1 (z := 1) (by decide)) (by decide)
      replace H := i_aln (q := 55) H I_X5_write_54 rfl rfl
      replace H := i_gfr (q := 58) H I_X5_write_55 G_5_9 cn_X5_write (sh_0 hk) rfl rfl
      replace H := i_iln (q := 59) H I_X5_write_58 rfl rfl
      replace H := i_iln (q := 60) H I_X5_write_59 rfl rfl
      have W := i_iast (q := 61) H I_X5_write_60 (sh_1 hk) rfl
      clear H
      obtain ⟨i_60, bi_60, ei_60, H⟩ := W
      obtain ⟨hr, hh⟩ := i_rt H I_X5_write_61
      refine ⟨i_60, bi_60, ei_60, hr, hh.trans ?_⟩
      rw [znr, if_neg w_4_0, if_neg w_4_1]
theorem t_X7_lay {d : Nat} {m : zM} {r : Option Value} {h' : zHp} {x y v : Int32} (H : zE none d zm_X7_lay 0 [.ref 0, .int x, .int y, .int v, .null] [] m r h') : ∃ m1 u, r = some (.int u) ∧ h' = zhp m1 ∧ (((∀ k, k < 4 → x = Int32.ofNat k → ¬ zfa (m (63 + 2 * k) 1) (m (63 + 2 * k) 3) y = 0) ∧ m1 = m) ∨ (∃ k i, k < 4 ∧ x = Int32.ofNat k ∧ i < 40 ∧ y = Int32.ofNat i ∧ zfa (m (63 + 2 * k) 1) (m (63 + 2 * k) 3) y = 0 ∧ m1 = zup m (64 + 2 * k) i (znr (m (63 + 2 * k) 2) v))) := by
  replace H := i_iln (q := 1) H I_X7_lay_0 rfl rfl
  have W := i_if_lt (t := 9) (q := 4) H I_X7_lay_1 (by decide) rfl
  clear H
  rcases W with ⟨c_1, H⟩ | ⟨c_1, H⟩
  · skip
    replace H := i_icst (x := (-1)) (q := 10) H I_X7_lay_9 (by decide) rfl
    obtain ⟨hr, hh⟩ := i_ir H I_X7_lay_10
    exact ⟨_, _, hr, hh, Or.inl ⟨fun k hk e => absurd c_1 (by rw [e]; exact (zis_n (c := 5) (by omega) (show k < 5 by omega)).1), rfl⟩⟩
  · skip
    replace H := i_iln (q := 5) H I_X7_lay_4 rfl rfl
    replace H := i_icst (x := 4) (q := 6) H I_X7_lay_5 (by decide) rfl
    have W := i_ic_lt (t := 11) (q := 9) H I_X7_lay_6 (by decide) rfl
    clear H
    rcases W with ⟨c_6, H⟩ | ⟨c_6, H⟩
    · skip
      replace H := i_aln (q := 12) H I_X7_lay_11 rfl rfl
      replace H := i_gfr (q := 15) H I_X7_lay_12 G_7_54 cn_X7_lay LY_0 rfl rfl
      replace H := i_iln (q := 16) H I_X7_lay_15 rfl rfl
      have W := i_sht (q := 17) H I_X7_lay_16 rfl
      clear H
      obtain ⟨i_16, bi_16, ei_16, H⟩ := W
      replace H := i_iln (q := 18) H I_X7_lay_17 rfl rfl
      have W := i_cv1 0 (q := 21) H I_X7_lay_18 K_7_264 Zm_55 rfl rfl
      clear H
      obtain ⟨r1, h1, Hc, K1, K2⟩ := W
      obtain ⟨e1, e2⟩ := t_X5_faultAt bi_16 Hc
      have H := K1 _ _ e1 e2
      clear e1 e2 Hc K1 K2
      replace H := i_is (q := 23) H I_X7_lay_21 rfl rfl
      replace H := i_il (q := 25) H I_X7_lay_23 rfl rfl
      have W := i_if_eq (t := 34) (q := 28) H I_X7_lay_25 (by decide) rfl
      clear H
      rcases W with ⟨c_25, H⟩ | ⟨c_25, H⟩
      · skip
        replace H := i_aln (q := 35) H I_X7_lay_34 rfl rfl
        replace H := i_gfr (q := 38) H I_X7_lay_35 G_7_54 cn_X7_lay LY_0 rfl rfl
        replace H := i_iln (q := 39) H I_X7_lay_38 rfl rfl
        have W := i_sht (q := 40) H I_X7_lay_39 rfl
        clear H
        obtain ⟨i_39, bi_39, ei_39, H⟩ := W
        replace H := i_iln (q := 41) H I_X7_lay_40 rfl rfl
        replace H := i_iln (q := 42) H I_X7_lay_41 rfl rfl
        have W := i_cv2 0 (q := 45) H I_X7_lay_42 K_7_267 Zm_57 rfl rfl
        clear H
        obtain ⟨r1, h1, Hc, K1, K2⟩ := W
        obtain ⟨i_42, b_42, e_42, e1, e2⟩ := t_X5_write bi_39 Hc
        have H := K2 _ e1 e2
        clear e1 e2 Hc K1 K2
        replace H := i_icst (x := 1) (q := 46) H I_X7_lay_45 (by decide) rfl
        obtain ⟨hr, hh⟩ := i_ir H I_X7_lay_46
        have e1 : i_16 = i_39 := zofn (ei_16.symm.trans ei_39) (by omega) (by omega)
        subst e1
        exact ⟨_, _, hr, hh, Or.inr ⟨i_16, i_42, bi_16, ei_16, b_42, e_42, c_25, rfl⟩⟩
      · skip
        replace H := i_bip (x := (-10)) (q := 30) H I_X7_lay_28 (by decide) rfl
        replace H := i_il (q := 32) H I_X7_lay_30 rfl rfl
        replace H := i_isub (q := 33) H I_X7_lay_32 rfl
        obtain ⟨hr, hh⟩ := i_ir H I_X7_lay_33
        exact ⟨_, _, hr, hh, Or.inl ⟨fun k hk e => by
          have e1 : k = i_16 := zofn (e.symm.trans ei_16) (by omega) (by omega)
          subst e1
          exact c_25, rfl⟩⟩
    · skip
      replace H := i_icst (x := (-1)) (q := 10) H I_X7_lay_9 (by decide) rfl
      obtain ⟨hr, hh⟩ := i_ir H I_X7_lay_10
      exact ⟨_, _, hr, hh, Or.inl ⟨fun k hk e => absurd ((zofn_lt (j := 4) (by omega) (by decide)).mpr hk) (by rw [← e]; exact c_6), rfl⟩⟩
theorem z_24 : (24 : Int32) &&& 31 = 24 := by decide
theorem z_16 : (16 : Int32) &&& 31 = 16 := by decide
theorem bv_n (x : BitVec 32) (n w : Nat) (hn : n + w = 32) (hw : 0 < w) : (x <<< n).sshiftRight n = (x.signExtend w).signExtend 32 := by
  apply BitVec.eq_of_getLsbD_eq
  intro i hi
  rw [BitVec.getLsbD_sshiftRight, BitVec.getLsbD_signExtend]
  have d1 : decide (32 ≤ i) = false := decide_eq_false (by omega)
  have d2 : decide (i < 32) = true := decide_eq_true hi
  rw [d1, d2, Bool.not_false, Bool.true_and, Bool.true_and]
  by_cases h : i < w
  · rw [if_pos (by omega), if_pos h, BitVec.getLsbD_shiftLeft, BitVec.getLsbD_signExtend, decide_eq_true (show n + i < 32 by omega), decide_eq_false (show ¬ n + i < n by omega), decide_eq_true h, if_pos (show i < 32 by omega), show n + i - n = i by omega]
    rfl
  · rw [if_neg (by omega), if_neg h, BitVec.msb_eq_getLsbD_last, BitVec.msb_eq_getLsbD_last, BitVec.getLsbD_shiftLeft, BitVec.getLsbD_signExtend, decide_eq_true (show 32 - 1 < 32 by omega), decide_eq_false (show ¬ 32 - 1 < n by omega), decide_eq_true (show w - 1 < w by omega), if_pos (show w - 1 < 32 by omega), show 32 - 1 - n = w - 1 by omega]
    rfl
theorem z_i2b (v : Int32) : (v <<< ((24 : Int32) &&& 31)) >>> ((24 : Int32) &&& 31) = v.toInt8.toInt32 := by
  rw [z_24]
  apply Int32.toBitVec_inj.mp
  rw [Int32.toBitVec_shiftRight, Int32.toBitVec_shiftLeft, BitVec.sshiftRight_eq', BitVec.shiftLeft_eq', show ((24 : Int32).toBitVec.smod 32).toNat = 24 by decide]
  exact bv_n v.toBitVec 24 8 rfl (by omega)
theorem z_i2s (v : Int32) : (v <<< ((16 : Int32) &&& 31)) >>> ((16 : Int32) &&& 31) = v.toInt16.toInt32 := by
  rw [z_16]
  apply Int32.toBitVec_inj.mp
  rw [Int32.toBitVec_shiftRight, Int32.toBitVec_shiftLeft, BitVec.sshiftRight_eq', BitVec.shiftLeft_eq', show ((16 : Int32).toBitVec.smod 32).toNat = 16 by decide]
  exact bv_n v.toBitVec 16 16 rfl (by omega)
theorem t_X8_lay {d : Nat} {m : zM} {r : Option Value} {h' : zHp} {x y v : Int32} (hl : ∀ k, k < 4 → ∃ s, s ≤ 40 ∧ m 84 k = Int32.ofNat s) (H : zE none d zm_X8_lay 0 [.ref 71, .int x, .int y, .int v] [] m r h') : ∃ m1 u, r = some (.int u) ∧ h' = zhp m1 ∧ (((∀ k, k < 4 → x = Int32.ofNat k → ¬ (¬ m 83 k = -4 ∧ ¬ y < 0 ∧ y < m 84 k)) ∧ m1 = m) ∨ (∃ k i, k < 4 ∧ x = Int32.ofNat k ∧ i < 40 ∧ y = Int32.ofNat i ∧ ¬ m 83 k = -4 ∧ (¬ y < 0 ∧ y < m 84 k) ∧ m1 = zup m 85 (40 * k + i) (znr (m 83 k) v))) := by
  replace H := i_iln (q := 1) H I_X8_lay_0 rfl rfl
  replace H := i_i2l (q := 2) H I_X8_lay_1 rfl
  replace H := i_lcst (x := 0) (q := 3) H I_X8_lay_2 (by decide) rfl
  replace H := i_ldc2 (x := 3) (q := 6) H I_X8_lay_3 J_8_155 (by decide) rfl
  replace H := i_in (q := 9) H I_X8_lay_6 K_8_55 rfl
  have W := i_if_ne (t := 14) (q := 12) H I_X8_lay_9 (by decide) rfl
  clear H
  rcases W with ⟨c_9, H⟩ | ⟨c_9, H⟩
  · skip
    replace H := i_aln (q := 15) H I_X8_lay_14 rfl rfl
    replace H := i_gfr (q := 18) H I_X8_lay_15 G_8_44 cn_X8_lay LY_71 rfl rfl
    replace H := i_iln (q := 19) H I_X8_lay_18 rfl rfl
    have W := i_ia (q := 20) H I_X8_lay_19 LY_83 rfl
    clear H
    obtain ⟨i_19, bi_19, ei_19, H⟩ := W
    replace H := i_bip (x := (-4)) (q := 22) H I_X8_lay_20 (by decide) rfl
    have W := i_ic_ne (t := 28) (q := 25) H I_X8_lay_22 (by decide) rfl
    clear H
    rcases W with ⟨c_22, H⟩ | ⟨c_22, H⟩
    · skip
      replace H := i_iln (q := 29) H I_X8_lay_28 rfl rfl
      replace H := i_i2l (q := 30) H I_X8_lay_29 rfl
      replace H := i_lcst (x := 0) (q := 31) H I_X8_lay_30 (by decide) rfl
      replace H := i_aln (q := 32) H I_X8_lay_31 rfl rfl
      replace H := i_gfr (q := 35) H I_X8_lay_32 G_8_47 cn_X8_lay LY_71 rfl rfl
      replace H := i_iln (q := 36) H I_X8_lay_35 rfl rfl
      have W := i_ia (q := 37) H I_X8_lay_36 LY_84 rfl
      clear H
      obtain ⟨i_36, bi_36, ei_36, H⟩ := W
      replace H := i_icst (x := 1) (q := 38) H I_X8_lay_37 (by decide) rfl
      replace H := i_isub (q := 39) H I_X8_lay_38 rfl
      replace H := i_i2l (q := 40) H I_X8_lay_39 rfl
      replace H := i_in (q := 43) H I_X8_lay_40 K_8_55 rfl
      have W := i_if_ne (t := 49) (q := 46) H I_X8_lay_43 (by decide) rfl
      clear H
      rcases W with ⟨c_43, H⟩ | ⟨c_43, H⟩
      · skip
        replace H := i_aln (q := 50) H I_X8_lay_49 rfl rfl
        replace H := i_gfr (q := 53) H I_X8_lay_50 G_8_50 cn_X8_lay LY_71 rfl rfl
        replace H := i_bip (x := 40) (q := 55) H I_X8_lay_53 (by decide) rfl
        replace H := i_iln (q := 56) H I_X8_lay_55 rfl rfl
        replace H := i_imul (q := 57) H I_X8_lay_56 rfl
        replace H := i_iln (q := 58) H I_X8_lay_57 rfl rfl
        replace H := i_iadd (q := 59) H I_X8_lay_58 rfl
        replace H := i_aln (q := 60) H I_X8_lay_59 rfl rfl
        replace H := i_gfr (q := 63) H I_X8_lay_60 G_8_44 cn_X8_lay LY_71 rfl rfl
        replace H := i_iln (q := 64) H I_X8_lay_63 rfl rfl
        have W := i_ia (q := 65) H I_X8_lay_64 LY_83 rfl
        clear H
        obtain ⟨i_64, bi_64, ei_64, H⟩ := W
        have W := i_if_ne (t := 78) (q := 68) H I_X8_lay_65 (by decide) rfl
        clear H
        rcases W with ⟨c_65, H⟩ | ⟨c_65, H⟩
        · skip
          replace H := i_aln (q := 79) H I_X8_lay_78 rfl rfl
          replace H := i_gfr (q := 82) H I_X8_lay_79 G_8_44 cn_X8_lay LY_71 rfl rfl
          replace H := i_iln (q := 83) H I_X8_lay_82 rfl rfl
          have W := i_ia (q := 84) H I_X8_lay_83 LY_83 rfl
          clear H
          obtain ⟨i_83, bi_83, ei_83, H⟩ := W
          replace H := i_icst (x := 1) (q := 85) H I_X8_lay_84 (by decide) rfl
          have W := i_ic_ne (t := 98) (q := 88) H I_X8_lay_85 (by decide) rfl
          clear H
          rcases W with ⟨c_85, H⟩ | ⟨c_85, H⟩
          · skip
            replace H := i_iln (q := 99) H I_X8_lay_98 rfl rfl
            have W := i_iast (q := 100) H I_X8_lay_99 LY_85 rfl
            clear H
            obtain ⟨i_99, bi_99, ei_99, H⟩ := W
            replace H := i_icst (x := 1) (q := 101) H I_X8_lay_100 (by decide) rfl
            obtain ⟨hr, hh⟩ := i_ir H I_X8_lay_101
            rw [zin_03 rfl rfl] at c_9
            obtain ⟨k, k1, rfl⟩ := zS4_n (zif1 c_9)
            have e1 : k = i_19 := zofn ei_19 (by omega) (by omega)
            subst e1
            have e3 : k = i_36 := zofn ei_36 (by omega) (by omega)
            subst e3
            obtain ⟨s, s1, s2⟩ := hl k k1
            rw [zin_lt0 s2 (by omega) rfl] at c_43
            have hb := zif1 c_43
            obtain ⟨i, i1, rfl⟩ := zlt_n s2 (by omega) hb
            have e4 : i_99 = 40 * k + i := (zofn (by rw [Int32.ofNat_add, Int32.ofNat_mul]; exact ei_99) (by omega) (by omega)).symm
            subst e4
            have e5 : k = i_64 := zofn ei_64 (by omega) (by omega)
            subst e5
            have e6 : k = i_83 := zofn ei_83 (by omega) (by omega)
            subst e6
            refine ⟨_, _, hr, hh, Or.inr ⟨k, i, k1, rfl, by omega, rfl, c_22, hb, ?_⟩⟩
            rw [znr, if_neg c_65, if_neg c_85]
          · skip
            replace H := i_iln (q := 89) H I_X8_lay_88 rfl rfl
            replace H := i_bip (x := 16) (q := 91) H I_X8_lay_89 (by decide) rfl
            replace H := i_ishl (q := 92) H I_X8_lay_91 rfl
            replace H := i_bip (x := 16) (q := 94) H I_X8_lay_92 (by decide) rfl
            replace H := i_ishr (q := 95) H I_X8_lay_94 rfl
            replace H := i_goto (q := 99) H I_X8_lay_95 (by decide)
            have W := i_iast (q := 100) H I_X8_lay_99 LY_85 rfl
            clear H
            obtain ⟨i_99, bi_99, ei_99, H⟩ := W
            replace H := i_icst (x := 1) (q := 101) H I_X8_lay_100 (by decide) rfl
            obtain ⟨hr, hh⟩ := i_ir H I_X8_lay_101
            rw [zin_03 rfl rfl] at c_9
            obtain ⟨k, k1, rfl⟩ := zS4_n (zif1 c_9)
            have e1 : k = i_19 := zofn ei_19 (by omega) (by omega)
            subst e1
            have e3 : k = i_36 := zofn ei_36 (by omega) (by omega)
            subst e3
            obtain ⟨s, s1, s2⟩ := hl k k1
            rw [zin_lt0 s2 (by omega) rfl] at c_43
            have hb := zif1 c_43
            obtain ⟨i, i1, rfl⟩ := zlt_n s2 (by omega) hb
            have e4 : i_99 = 40 * k + i := (zofn (by rw [Int32.ofNat_add, Int32.ofNat_mul]; exact ei_99) (by omega) (by omega)).symm
            subst e4
            have e5 : k = i_64 := zofn ei_64 (by omega) (by omega)
            subst e5
            have e6 : k = i_83 := zofn ei_83 (by omega) (by omega)
            subst e6
            rw [z_i2s] at hh
            refine ⟨_, _, hr, hh, Or.inr ⟨k, i, k1, rfl, by omega, rfl, c_22, hb, ?_⟩⟩
            rw [znr, if_neg c_65, if_pos c_85]
        · skip
          replace H := i_iln (q := 69) H I_X8_lay_68 rfl rfl
          replace H := i_bip (x := 24) (q := 71) H I_X8_lay_69 (by decide) rfl
          replace H := i_ishl (q := 72) H I_X8_lay_71 rfl
          replace H := i_bip (x := 24) (q := 74) H I_X8_lay_72 (by decide) rfl
          replace H := i_ishr (q := 75) H I_X8_lay_74 rfl
          replace H := i_goto (q := 99) H I_X8_lay_75 (by decide)
          have W := i_iast (q := 100) H I_X8_lay_99 LY_85 rfl
          clear H
          obtain ⟨i_99, bi_99, ei_99, H⟩ := W
          replace H := i_icst (x := 1) (q := 101) H I_X8_lay_100 (by decide) rfl
          obtain ⟨hr, hh⟩ := i_ir H I_X8_lay_101
          rw [zin_03 rfl rfl] at c_9
          obtain ⟨k, k1, rfl⟩ := zS4_n (zif1 c_9)
          have e1 : k = i_19 := zofn ei_19 (by omega) (by omega)
          subst e1
          have e3 : k = i_36 := zofn ei_36 (by omega) (by omega)
          subst e3
          obtain ⟨s, s1, s2⟩ := hl k k1
          rw [zin_lt0 s2 (by omega) rfl] at c_43
          have hb := zif1 c_43
          obtain ⟨i, i1, rfl⟩ := zlt_n s2 (by omega) hb
          have e4 : i_99 = 40 * k + i := (zofn (by rw [Int32.ofNat_add, Int32.ofNat_mul]; exact ei_99) (by omega) (by omega)).symm
          subst e4
          have e5 : k = i_64 := zofn ei_64 (by omega) (by omega)
          subst e5
          rw [z_i2b] at hh
          refine ⟨_, _, hr, hh, Or.inr ⟨k, i, k1, rfl, by omega, rfl, c_22, hb, ?_⟩⟩
          rw [znr, if_pos c_65]
      · skip
        replace H := i_bip (x := (-12)) (q := 48) H I_X8_lay_46 (by decide) rfl
        obtain ⟨hr, hh⟩ := i_ir H I_X8_lay_48
        rw [zin_03 rfl rfl] at c_9
        obtain ⟨k, k1, rfl⟩ := zS4_n (zif1 c_9)
        have e1 : k = i_19 := zofn ei_19 (by omega) (by omega)
        subst e1
        have e3 : k = i_36 := zofn ei_36 (by omega) (by omega)
        subst e3
        obtain ⟨s, s1, s2⟩ := hl k k1
        rw [zin_lt0 s2 (by omega) rfl] at c_43
        exact ⟨_, _, hr, hh, Or.inl ⟨fun k' hk e q => (by
          have e2 : k = k' := zofn e (by omega) (by omega)
          subst e2
          exact zif0 c_43 q.2), rfl⟩⟩
    · skip
      replace H := i_bip (x := (-11)) (q := 27) H I_X8_lay_25 (by decide) rfl
      obtain ⟨hr, hh⟩ := i_ir H I_X8_lay_27
      rw [zin_03 rfl rfl] at c_9
      obtain ⟨k, k1, rfl⟩ := zS4_n (zif1 c_9)
      have e1 : k = i_19 := zofn ei_19 (by omega) (by omega)
      subst e1
      exact ⟨_, _, hr, hh, Or.inl ⟨fun k' hk e q => (by
        have e2 : k = k' := zofn e (by omega) (by omega)
        subst e2
        exact q.1 c_22), rfl⟩⟩
  · skip
    replace H := i_icst (x := (-1)) (q := 13) H I_X8_lay_12 (by decide) rfl
    obtain ⟨hr, hh⟩ := i_ir H I_X8_lay_13
    rw [zin_03 rfl rfl] at c_9
    exact ⟨_, _, hr, hh, Or.inl ⟨fun k' hk e q => zif0 c_9 (by rw [e]; exact ⟨(zis_n (c := 5) (by omega) (show k' < 5 by omega)).1, (zofn_lt (j := 4) (by omega) (by decide)).mpr hk⟩), rfl⟩⟩
theorem pf_feed {m : zM} {r : Option Value} {h' : zHp} {x0 : Int32} (ht : zTy m) (hR : RF m) (H : zEv none 19 zm_X7_feed (0, lv_args 0 [.ref 0, .int x0], [], zhp m) r h') : ∃ m1 v, r = some (.int v) ∧ h' = zhp m1 ∧ zTy m1 ∧ ∀ r2 h2, zEv none 19 zm_X8_feed (0, lv_args 0 [.ref 71, .int x0], [], zhp m1) r2 h2 → ∃ m2 v2, r2 = some (.int v2) ∧ h2 = zhp m2 ∧ zTy m2 ∧ RF m2 := by
  obtain ⟨hR1, hS⟩ := hR
  obtain ⟨m1, v, b1, b2, t1, K⟩ := pc_feed ht hR1 H
  obtain ⟨q1, q2, q3, q4, q5, q6⟩ := e_X7_feed ht H
  obtain ⟨_, f1⟩ := eng_m b2 q4 q5 q6
  refine ⟨m1, v, b1, b2, t1, fun r2 h2 H2 => ?_⟩
  obtain ⟨m2, v2, d1, d2, t2, R2⟩ := K r2 h2 H2
  obtain ⟨u1, u2, u3, u4, u5, u6⟩ := e_X8_feed t1 H2
  obtain ⟨_, f2⟩ := eng_m d2 u4 u5 u6
  exact ⟨m2, v2, d1, d2, t2, ⟨R2, HS_f (HS_f hS f1 (by decide +kernel)) f2 (by decide +kernel)⟩⟩
theorem pf_end {m : zM} {r : Option Value} {h' : zHp} {x0 : Int32} (ht : zTy m) (hR : RF m) (H : zEv none 19 zm_X7_end (0, lv_args 0 [.ref 0, .int x0], [], zhp m) r h') : ∃ m1 v, r = some (.int v) ∧ h' = zhp m1 ∧ zTy m1 ∧ ∀ r2 h2, zEv none 19 zm_X8_end (0, lv_args 0 [.ref 71, .int x0], [], zhp m1) r2 h2 → ∃ m2 v2, r2 = some (.int v2) ∧ h2 = zhp m2 ∧ zTy m2 ∧ RF m2 := by
  obtain ⟨hR1, hS⟩ := hR
  obtain ⟨m1, v, b1, b2, t1, K⟩ := pc_end ht hR1 H
  obtain ⟨q1, q2, q3, q4, q5, q6⟩ := e_X7_end ht H
  obtain ⟨_, f1⟩ := eng_m b2 q4 q5 q6
  refine ⟨m1, v, b1, b2, t1, fun r2 h2 H2 => ?_⟩
  obtain ⟨m2, v2, d1, d2, t2, R2⟩ := K r2 h2 H2
  obtain ⟨u1, u2, u3, u4, u5, u6⟩ := e_X8_end t1 H2
  obtain ⟨_, f2⟩ := eng_m d2 u4 u5 u6
  exact ⟨m2, v2, d1, d2, t2, ⟨R2, HS_f (HS_f hS f1 (by decide +kernel)) f2 (by decide +kernel)⟩⟩
theorem pf_text {m : zM} {r : Option Value} {h' : zHp} (ht : zTy m) (hR : RF m) (H : zEv none 19 zm_X7_text (0, lv_args 0 [.ref 0], [], zhp m) r h') : ∃ m1 v, r = some (.int v) ∧ h' = zhp m1 ∧ zTy m1 ∧ ∀ r2 h2, zEv none 19 zm_X8_text (0, lv_args 0 [.ref 71], [], zhp m1) r2 h2 → ∃ m2 v2, r2 = some (.int v2) ∧ h2 = zhp m2 ∧ zTy m2 ∧ RF m2 ∧ v = v2 := by
  obtain ⟨hR1, hS⟩ := hR
  obtain ⟨m1, v, b1, b2, t1, K⟩ := pc_text ht hR1 H
  obtain ⟨q1, q2, q3, q4, q5, q6⟩ := e_X7_text ht H
  obtain ⟨_, f1⟩ := eng_m b2 q4 q5 q6
  refine ⟨m1, v, b1, b2, t1, fun r2 h2 H2 => ?_⟩
  obtain ⟨m2, v2, d1, d2, t2, R2, e⟩ := K r2 h2 H2
  obtain ⟨u1, u2, u3, u4, u5, u6⟩ := e_X8_text t1 H2
  obtain ⟨_, f2⟩ := eng_m d2 u4 u5 u6
  exact ⟨m2, v2, d1, d2, t2, ⟨R2, HS_f (HS_f hS f1 (by decide +kernel)) f2 (by decide +kernel)⟩, e⟩
theorem pf_fault {m : zM} {r : Option Value} {h' : zHp} (ht : zTy m) (hR : RF m) (H : zEv none 19 zm_X7_fault (0, lv_args 0 [.ref 0], [], zhp m) r h') : ∃ m1 v, r = some (.int v) ∧ h' = zhp m1 ∧ zTy m1 ∧ ∀ r2 h2, zEv none 19 zm_X8_fault (0, lv_args 0 [.ref 71], [], zhp m1) r2 h2 → ∃ m2 v2, r2 = some (.int v2) ∧ h2 = zhp m2 ∧ zTy m2 ∧ RF m2 := by
  obtain ⟨hR1, hS⟩ := hR
  obtain ⟨m1, v, b1, b2, t1, K⟩ := pc_fault ht hR1 H
  obtain ⟨q1, q2, q3, q4, q5, q6⟩ := e_X7_fault ht H
  obtain ⟨_, f1⟩ := eng_m b2 q4 q5 q6
  refine ⟨m1, v, b1, b2, t1, fun r2 h2 H2 => ?_⟩
  obtain ⟨m2, v2, d1, d2, t2, R2⟩ := K r2 h2 H2
  obtain ⟨u1, u2, u3, u4, u5, u6⟩ := e_X8_fault t1 H2
  obtain ⟨_, f2⟩ := eng_m d2 u4 u5 u6
  exact ⟨m2, v2, d1, d2, t2, ⟨R2, HS_f (HS_f hS f1 (by decide +kernel)) f2 (by decide +kernel)⟩⟩
theorem pf_rule {m : zM} {r : Option Value} {h' : zHp} {x0 : Int32} (ht : zTy m) (hR : RF m) (H : zEv none 19 zm_X7_rule (0, lv_args 0 [.ref 0, .int x0], [], zhp m) r h') : ∃ m1 v, r = some (.int v) ∧ h' = zhp m1 ∧ zTy m1 ∧ ∀ r2 h2, zEv none 19 zm_X8_rule (0, lv_args 0 [.ref 71, .int x0], [], zhp m1) r2 h2 → ∃ m2 v2, r2 = some (.int v2) ∧ h2 = zhp m2 ∧ zTy m2 ∧ RF m2 ∧ v = v2 := by
  obtain ⟨hR1, hS⟩ := hR
  obtain ⟨m1, v, b1, b2, t1, K⟩ := pc_rule ht hR1 H
  obtain ⟨q1, q2, q3, q4, q5, q6⟩ := e_X7_rule ht H
  obtain ⟨_, f1⟩ := eng_m b2 q4 q5 q6
  refine ⟨m1, v, b1, b2, t1, fun r2 h2 H2 => ?_⟩
  obtain ⟨m2, v2, d1, d2, t2, R2, e⟩ := K r2 h2 H2
  obtain ⟨u1, u2, u3, u4, u5, u6⟩ := e_X8_rule t1 H2
  obtain ⟨_, f2⟩ := eng_m d2 u4 u5 u6
  exact ⟨m2, v2, d1, d2, t2, ⟨R2, HS_f (HS_f hS f1 (by decide +kernel)) f2 (by decide +kernel)⟩, e⟩
theorem pf_one {m : zM} {r : Option Value} {h' : zHp} {x0 x1 : Int32} (ht : zTy m) (hR : RF m) (H : zEv none 19 zm_X7_one (0, lv_args 0 [.ref 0, .int x0, .int x1], [], zhp m) r h') : ∃ m1 v, r = some (.int v) ∧ h' = zhp m1 ∧ zTy m1 ∧ ∀ r2 h2, zEv none 19 zm_X8_one (0, lv_args 0 [.ref 71, .int x0, .int x1], [], zhp m1) r2 h2 → ∃ m2 v2, r2 = some (.int v2) ∧ h2 = zhp m2 ∧ zTy m2 ∧ RF m2 ∧ v = v2 := by
  obtain ⟨hR1, hS⟩ := hR
  obtain ⟨m1, v, b1, b2, t1, K⟩ := pc_one ht hR1 H
  obtain ⟨q1, q2, q3, q4, q5, q6⟩ := e_X7_one ht H
  obtain ⟨_, f1⟩ := eng_m b2 q4 q5 q6
  refine ⟨m1, v, b1, b2, t1, fun r2 h2 H2 => ?_⟩
  obtain ⟨m2, v2, d1, d2, t2, R2, e⟩ := K r2 h2 H2
  obtain ⟨u1, u2, u3, u4, u5, u6⟩ := e_X8_one t1 H2
  obtain ⟨_, f2⟩ := eng_m d2 u4 u5 u6
  exact ⟨m2, v2, d1, d2, t2, ⟨R2, HS_f (HS_f hS f1 (by decide +kernel)) f2 (by decide +kernel)⟩, e⟩
theorem pf_act {m : zM} {r : Option Value} {h' : zHp} {x0 : Int32} (ht : zTy m) (hR : RF m) (H : zEv none 19 zm_X7_act (0, lv_args 0 [.ref 0, .int x0], [], zhp m) r h') : ∃ m1 v, r = some (.int v) ∧ h' = zhp m1 ∧ zTy m1 ∧ ∀ r2 h2, zEv none 19 zm_X8_act (0, lv_args 0 [.ref 71, .int x0], [], zhp m1) r2 h2 → ∃ m2 v2, r2 = some (.int v2) ∧ h2 = zhp m2 ∧ zTy m2 ∧ RF m2 ∧ v = v2 := by
  obtain ⟨hR1, hS⟩ := hR
  obtain ⟨m1, v, b1, b2, t1, K⟩ := pc_act ht hR1 H
  obtain ⟨q1, q2, q3, q4, q5, q6⟩ := e_X7_act ht H
  obtain ⟨_, f1⟩ := eng_m b2 q4 q5 q6
  refine ⟨m1, v, b1, b2, t1, fun r2 h2 H2 => ?_⟩
  obtain ⟨m2, v2, d1, d2, t2, R2, e⟩ := K r2 h2 H2
  obtain ⟨u1, u2, u3, u4, u5, u6⟩ := e_X8_act t1 H2
  obtain ⟨_, f2⟩ := eng_m d2 u4 u5 u6
  exact ⟨m2, v2, d1, d2, t2, ⟨R2, HS_f (HS_f hS f1 (by decide +kernel)) f2 (by decide +kernel)⟩, e⟩
theorem pf_alter {m : zM} {r : Option Value} {h' : zHp} {x0 x1 x2 : Int32} (ht : zTy m) (hR : RF m) (H : zEv none 19 zm_X7_alter (0, lv_args 0 [.ref 0, .int x0, .int x1, .int x2], [], zhp m) r h') : ∃ m1 v, r = some (.int v) ∧ h' = zhp m1 ∧ zTy m1 ∧ ∀ r2 h2, zEv none 19 zm_X8_alter (0, lv_args 0 [.ref 71, .int x0, .int x1, .int x2], [], zhp m1) r2 h2 → ∃ m2 v2, r2 = some (.int v2) ∧ h2 = zhp m2 ∧ zTy m2 ∧ RF m2 ∧ v = v2 := by
  obtain ⟨hR1, hS⟩ := hR
  obtain ⟨m1, v, b1, b2, t1, K⟩ := pc_alter ht hR1 H
  obtain ⟨q1, q2, q3, q4, q5, q6⟩ := e_X7_alter ht H
  obtain ⟨_, f1⟩ := eng_m b2 q4 q5 q6
  refine ⟨m1, v, b1, b2, t1, fun r2 h2 H2 => ?_⟩
  obtain ⟨m2, v2, d1, d2, t2, R2, e⟩ := K r2 h2 H2
  obtain ⟨u1, u2, u3, u4, u5, u6⟩ := e_X8_alter t1 H2
  obtain ⟨_, f2⟩ := eng_m d2 u4 u5 u6
  exact ⟨m2, v2, d1, d2, t2, ⟨R2, HS_f (HS_f hS f1 (by decide +kernel)) f2 (by decide +kernel)⟩, e⟩
theorem pf_slack {m : zM} {r : Option Value} {h' : zHp} {x0 : Int32} (ht : zTy m) (hR : RF m) (H : zEv none 19 zm_X7_slack (0, lv_args 0 [.ref 0, .int x0], [], zhp m) r h') : ∃ m1 v, r = some (.int v) ∧ h' = zhp m1 ∧ zTy m1 ∧ ∀ r2 h2, zEv none 19 zm_X8_slack (0, lv_args 0 [.ref 71, .int x0], [], zhp m1) r2 h2 → ∃ m2 v2, r2 = some (.int v2) ∧ h2 = zhp m2 ∧ zTy m2 ∧ RF m2 ∧ v = v2 := by
  obtain ⟨hR1, hS⟩ := hR
  obtain ⟨m1, v, b1, b2, t1, K⟩ := pc_slack ht hR1 H
  obtain ⟨q1, q2, q3, q4, q5, q6⟩ := e_X7_slack ht H
  obtain ⟨_, f1⟩ := eng_m b2 q4 q5 q6
  refine ⟨m1, v, b1, b2, t1, fun r2 h2 H2 => ?_⟩
  obtain ⟨m2, v2, d1, d2, t2, R2, e⟩ := K r2 h2 H2
  obtain ⟨u1, u2, u3, u4, u5, u6⟩ := e_X8_slack t1 H2
  obtain ⟨_, f2⟩ := eng_m d2 u4 u5 u6
  exact ⟨m2, v2, d1, d2, t2, ⟨R2, HS_f (HS_f hS f1 (by decide +kernel)) f2 (by decide +kernel)⟩, e⟩
theorem pf_plan {m : zM} {r : Option Value} {h' : zHp} {x0 : Int32} (ht : zTy m) (hR : RF m) (H : zEv none 19 zm_X7_plan (0, lv_args 0 [.ref 0, .int x0], [], zhp m) r h') : ∃ m1 v, r = some (.int v) ∧ h' = zhp m1 ∧ zTy m1 ∧ ∀ r2 h2, zEv none 19 zm_X8_plan (0, lv_args 0 [.ref 71, .int x0], [], zhp m1) r2 h2 → ∃ m2 v2, r2 = some (.int v2) ∧ h2 = zhp m2 ∧ zTy m2 ∧ RF m2 ∧ v = v2 := by
  obtain ⟨hR1, hS⟩ := hR
  obtain ⟨m1, v, b1, b2, t1, K⟩ := pc_plan ht hR1 H
  obtain ⟨q1, q2, q3, q4, q5, q6⟩ := e_X7_plan ht H
  obtain ⟨_, f1⟩ := eng_m b2 q4 q5 q6
  refine ⟨m1, v, b1, b2, t1, fun r2 h2 H2 => ?_⟩
  obtain ⟨m2, v2, d1, d2, t2, R2, e⟩ := K r2 h2 H2
  obtain ⟨u1, u2, u3, u4, u5, u6⟩ := e_X8_plan t1 H2
  obtain ⟨_, f2⟩ := eng_m d2 u4 u5 u6
  exact ⟨m2, v2, d1, d2, t2, ⟨R2, HS_f (HS_f hS f1 (by decide +kernel)) f2 (by decide +kernel)⟩, e⟩
theorem pf_cut {m : zM} {r : Option Value} {h' : zHp} {x0 : Int32} (ht : zTy m) (hR : RF m) (H : zEv none 19 zm_X7_cut (0, lv_args 0 [.ref 0, .int x0], [], zhp m) r h') : ∃ m1 v, r = some (.int v) ∧ h' = zhp m1 ∧ zTy m1 ∧ ∀ r2 h2, zEv none 19 zm_X8_cut (0, lv_args 0 [.ref 71, .int x0], [], zhp m1) r2 h2 → ∃ m2 v2, r2 = some (.int v2) ∧ h2 = zhp m2 ∧ zTy m2 ∧ RF m2 ∧ v = v2 := by
  obtain ⟨hR1, hS⟩ := hR
  obtain ⟨m1, v, b1, b2, t1, K⟩ := pc_cut ht hR1 H
  obtain ⟨q1, q2, q3, q4, q5, q6⟩ := e_X7_cut ht H
  obtain ⟨_, f1⟩ := eng_m b2 q4 q5 q6
  refine ⟨m1, v, b1, b2, t1, fun r2 h2 H2 => ?_⟩
  obtain ⟨m2, v2, d1, d2, t2, R2, e⟩ := K r2 h2 H2
  obtain ⟨u1, u2, u3, u4, u5, u6⟩ := e_X8_cut t1 H2
  obtain ⟨_, f2⟩ := eng_m d2 u4 u5 u6
  exact ⟨m2, v2, d1, d2, t2, ⟨R2, HS_f (HS_f hS f1 (by decide +kernel)) f2 (by decide +kernel)⟩, e⟩
theorem pf_turn {m : zM} {r : Option Value} {h' : zHp} {x0 : Int32} (ht : zTy m) (hR : RF m) (H : zEv none 19 zm_X7_turn (0, lv_args 0 [.ref 0, .int x0], [], zhp m) r h') : ∃ m1 v, r = some (.int v) ∧ h' = zhp m1 ∧ zTy m1 ∧ ∀ r2 h2, zEv none 19 zm_X8_turn (0, lv_args 0 [.ref 71, .int x0], [], zhp m1) r2 h2 → ∃ m2 v2, r2 = some (.int v2) ∧ h2 = zhp m2 ∧ zTy m2 ∧ RF m2 ∧ v = v2 := by
  obtain ⟨hR1, hS⟩ := hR
  obtain ⟨m1, v, b1, b2, t1, K⟩ := pc_turn ht hR1 H
  obtain ⟨q1, q2, q3, q4, q5, q6⟩ := e_X7_turn ht H
  obtain ⟨_, f1⟩ := eng_m b2 q4 q5 q6
  refine ⟨m1, v, b1, b2, t1, fun r2 h2 H2 => ?_⟩
  obtain ⟨m2, v2, d1, d2, t2, R2, e⟩ := K r2 h2 H2
  obtain ⟨u1, u2, u3, u4, u5, u6⟩ := e_X8_turn t1 H2
  obtain ⟨_, f2⟩ := eng_m d2 u4 u5 u6
  exact ⟨m2, v2, d1, d2, t2, ⟨R2, HS_f (HS_f hS f1 (by decide +kernel)) f2 (by decide +kernel)⟩, e⟩
theorem pf_rest {m : zM} {r : Option Value} {h' : zHp} {x0 : Int32} (ht : zTy m) (hR : RF m) (H : zEv none 19 zm_X7_rest (0, lv_args 0 [.ref 0, .int x0], [], zhp m) r h') : ∃ m1 v, r = some (.int v) ∧ h' = zhp m1 ∧ zTy m1 ∧ ∀ r2 h2, zEv none 19 zm_X8_rest (0, lv_args 0 [.ref 71, .int x0], [], zhp m1) r2 h2 → ∃ m2 v2, r2 = some (.int v2) ∧ h2 = zhp m2 ∧ zTy m2 ∧ RF m2 ∧ v = v2 := by
  obtain ⟨hR1, hS⟩ := hR
  obtain ⟨m1, v, b1, b2, t1, K⟩ := pc_rest ht hR1 H
  obtain ⟨q1, q2, q3, q4, q5, q6⟩ := e_X7_rest ht H
  obtain ⟨_, f1⟩ := eng_m b2 q4 q5 q6
  refine ⟨m1, v, b1, b2, t1, fun r2 h2 H2 => ?_⟩
  obtain ⟨m2, v2, d1, d2, t2, R2, e⟩ := K r2 h2 H2
  obtain ⟨u1, u2, u3, u4, u5, u6⟩ := e_X8_rest t1 H2
  obtain ⟨_, f2⟩ := eng_m d2 u4 u5 u6
  exact ⟨m2, v2, d1, d2, t2, ⟨R2, HS_f (HS_f hS f1 (by decide +kernel)) f2 (by decide +kernel)⟩, e⟩
theorem pf_runs {m : zM} {r : Option Value} {h' : zHp} {x0 : Int32} (ht : zTy m) (hR : RF m) (H : zEv none 19 zm_X7_runs (0, lv_args 0 [.ref 0, .int x0], [], zhp m) r h') : ∃ m1 v, r = some (.int v) ∧ h' = zhp m1 ∧ zTy m1 ∧ ∀ r2 h2, zEv none 19 zm_X8_runs (0, lv_args 0 [.ref 71, .int x0], [], zhp m1) r2 h2 → ∃ m2 v2, r2 = some (.int v2) ∧ h2 = zhp m2 ∧ zTy m2 ∧ RF m2 := by
  obtain ⟨hR1, hS⟩ := hR
  obtain ⟨m1, v, b1, b2, t1, K⟩ := pc_runs ht hR1 H
  obtain ⟨q1, q2, q3, q4, q5, q6⟩ := e_X7_runs ht H
  obtain ⟨_, f1⟩ := eng_m b2 q4 q5 q6
  refine ⟨m1, v, b1, b2, t1, fun r2 h2 H2 => ?_⟩
  obtain ⟨m2, v2, d1, d2, t2, R2⟩ := K r2 h2 H2
  obtain ⟨u1, u2, u3, u4, u5, u6⟩ := e_X8_runs t1 H2
  obtain ⟨_, f2⟩ := eng_m d2 u4 u5 u6
  exact ⟨m2, v2, d1, d2, t2, ⟨R2, HS_f (HS_f hS f1 (by decide +kernel)) f2 (by decide +kernel)⟩⟩
theorem pf_ahead {m : zM} {r : Option Value} {h' : zHp} {x0 : Int32} (ht : zTy m) (hR : RF m) (H : zEv none 19 zm_X7_ahead (0, lv_args 0 [.ref 0, .int x0], [], zhp m) r h') : ∃ m1 v, r = some (.int v) ∧ h' = zhp m1 ∧ zTy m1 ∧ ∀ r2 h2, zEv none 19 zm_X8_ahead (0, lv_args 0 [.ref 71, .int x0], [], zhp m1) r2 h2 → ∃ m2 v2, r2 = some (.int v2) ∧ h2 = zhp m2 ∧ zTy m2 ∧ RF m2 := by
  obtain ⟨hR1, hS⟩ := hR
  obtain ⟨m1, v, b1, b2, t1, K⟩ := pc_ahead ht hR1 H
  obtain ⟨q1, q2, q3, q4, q5, q6⟩ := e_X7_ahead ht H
  obtain ⟨_, f1⟩ := eng_m b2 q4 q5 q6
  refine ⟨m1, v, b1, b2, t1, fun r2 h2 H2 => ?_⟩
  obtain ⟨m2, v2, d1, d2, t2, R2⟩ := K r2 h2 H2
  obtain ⟨u1, u2, u3, u4, u5, u6⟩ := e_X8_ahead t1 H2
  obtain ⟨_, f2⟩ := eng_m d2 u4 u5 u6
  exact ⟨m2, v2, d1, d2, t2, ⟨R2, HS_f (HS_f hS f1 (by decide +kernel)) f2 (by decide +kernel)⟩⟩
theorem pf_round {m : zM} {r : Option Value} {h' : zHp} (ht : zTy m) (hR : RF m) (H : zEv none 19 zm_X7_round (0, lv_args 0 [.ref 0], [], zhp m) r h') : ∃ m1 v, r = some (.int v) ∧ h' = zhp m1 ∧ zTy m1 ∧ ∀ r2 h2, zEv none 19 zm_X8_round (0, lv_args 0 [.ref 71], [], zhp m1) r2 h2 → ∃ m2 v2, r2 = some (.int v2) ∧ h2 = zhp m2 ∧ zTy m2 ∧ RF m2 := by
  obtain ⟨hR1, hS⟩ := hR
  obtain ⟨m1, v, b1, b2, t1, K⟩ := pc_round ht hR1 H
  obtain ⟨q1, q2, q3, q4, q5, q6⟩ := e_X7_round ht H
  obtain ⟨_, f1⟩ := eng_m b2 q4 q5 q6
  refine ⟨m1, v, b1, b2, t1, fun r2 h2 H2 => ?_⟩
  obtain ⟨m2, v2, d1, d2, t2, R2⟩ := K r2 h2 H2
  obtain ⟨u1, u2, u3, u4, u5, u6⟩ := e_X8_round t1 H2
  obtain ⟨_, f2⟩ := eng_m d2 u4 u5 u6
  exact ⟨m2, v2, d1, d2, t2, ⟨R2, HS_f (HS_f hS f1 (by decide +kernel)) f2 (by decide +kernel)⟩⟩
theorem pf_order {m : zM} {r : Option Value} {h' : zHp} {x0 x1 : Int32} (ht : zTy m) (hR : RF m) (H : zEv none 19 zm_X7_order (0, lv_args 0 [.ref 0, .int x0, .int x1], [], zhp m) r h') : ∃ m1 v, r = some (.int v) ∧ h' = zhp m1 ∧ zTy m1 ∧ ∀ r2 h2, zEv none 19 zm_X8_order (0, lv_args 0 [.ref 71, .int x0, .int x1], [], zhp m1) r2 h2 → ∃ m2 v2, r2 = some (.int v2) ∧ h2 = zhp m2 ∧ zTy m2 ∧ RF m2 := by
  obtain ⟨hR1, hS⟩ := hR
  obtain ⟨m1, v, b1, b2, t1, K⟩ := pc_order ht hR1 H
  obtain ⟨q1, q2, q3, q4, q5, q6⟩ := e_X7_order ht H
  obtain ⟨_, f1⟩ := eng_m b2 q4 q5 q6
  refine ⟨m1, v, b1, b2, t1, fun r2 h2 H2 => ?_⟩
  obtain ⟨m2, v2, d1, d2, t2, R2⟩ := K r2 h2 H2
  obtain ⟨u1, u2, u3, u4, u5, u6⟩ := e_X8_order t1 H2
  obtain ⟨_, f2⟩ := eng_m d2 u4 u5 u6
  exact ⟨m2, v2, d1, d2, t2, ⟨R2, HS_f (HS_f hS f1 (by decide +kernel)) f2 (by decide +kernel)⟩⟩
theorem pf_await {m : zM} {r : Option Value} {h' : zHp} {x0 x1 : Int32} (ht : zTy m) (hR : RF m) (H : zEv none 19 zm_X7_await (0, lv_args 0 [.ref 0, .int x0, .int x1], [], zhp m) r h') : ∃ m1 v, r = some (.int v) ∧ h' = zhp m1 ∧ zTy m1 ∧ ∀ r2 h2, zEv none 19 zm_X8_await (0, lv_args 0 [.ref 71, .int x0, .int x1], [], zhp m1) r2 h2 → ∃ m2 v2, r2 = some (.int v2) ∧ h2 = zhp m2 ∧ zTy m2 ∧ RF m2 := by
  obtain ⟨hR1, hS⟩ := hR
  obtain ⟨m1, v, b1, b2, t1, K⟩ := pc_await ht hR1 H
  obtain ⟨q1, q2, q3, q4, q5, q6⟩ := e_X7_await ht H
  obtain ⟨_, f1⟩ := eng_m b2 q4 q5 q6
  refine ⟨m1, v, b1, b2, t1, fun r2 h2 H2 => ?_⟩
  obtain ⟨m2, v2, d1, d2, t2, R2⟩ := K r2 h2 H2
  obtain ⟨u1, u2, u3, u4, u5, u6⟩ := e_X8_await t1 H2
  obtain ⟨_, f2⟩ := eng_m d2 u4 u5 u6
  exact ⟨m2, v2, d1, d2, t2, ⟨R2, HS_f (HS_f hS f1 (by decide +kernel)) f2 (by decide +kernel)⟩⟩
theorem pf_hands {m : zM} {r : Option Value} {h' : zHp} {x0 : Int32} (ht : zTy m) (hR : RF m) (H : zEv none 19 zm_X7_hands (0, lv_args 0 [.ref 0, .int x0], [], zhp m) r h') : ∃ m1 v, r = some (.int v) ∧ h' = zhp m1 ∧ zTy m1 ∧ ∀ r2 h2, zEv none 19 zm_X8_hands (0, lv_args 0 [.ref 71, .int x0], [], zhp m1) r2 h2 → ∃ m2 v2, r2 = some (.int v2) ∧ h2 = zhp m2 ∧ zTy m2 ∧ RF m2 := by
  obtain ⟨hR1, hS⟩ := hR
  obtain ⟨m1, v, b1, b2, t1, K⟩ := pc_hands ht hR1 H
  obtain ⟨q1, q2, q3, q4, q5, q6⟩ := e_X7_hands ht H
  obtain ⟨_, f1⟩ := eng_m b2 q4 q5 q6
  refine ⟨m1, v, b1, b2, t1, fun r2 h2 H2 => ?_⟩
  obtain ⟨m2, v2, d1, d2, t2, R2⟩ := K r2 h2 H2
  obtain ⟨u1, u2, u3, u4, u5, u6⟩ := e_X8_hands t1 H2
  obtain ⟨_, f2⟩ := eng_m d2 u4 u5 u6
  exact ⟨m2, v2, d1, d2, t2, ⟨R2, HS_f (HS_f hS f1 (by decide +kernel)) f2 (by decide +kernel)⟩⟩
theorem pf_clean {m : zM} {r : Option Value} {h' : zHp} {x0 : Int32} (ht : zTy m) (hR : RF m) (H : zEv none 19 zm_X7_clean (0, lv_args 0 [.ref 0, .int x0], [], zhp m) r h') : ∃ m1 v, r = some (.int v) ∧ h' = zhp m1 ∧ zTy m1 ∧ ∀ r2 h2, zEv none 19 zm_X8_clean (0, lv_args 0 [.ref 71, .int x0], [], zhp m1) r2 h2 → ∃ m2 v2, r2 = some (.int v2) ∧ h2 = zhp m2 ∧ zTy m2 ∧ RF m2 := by
  obtain ⟨hR1, hS⟩ := hR
  obtain ⟨m1, v, b1, b2, t1, K⟩ := pc_clean ht hR1 H
  obtain ⟨q1, q2, q3, q4, q5, q6⟩ := e_X7_clean ht H
  obtain ⟨_, f1⟩ := eng_m b2 q4 q5 q6
  refine ⟨m1, v, b1, b2, t1, fun r2 h2 H2 => ?_⟩
  obtain ⟨m2, v2, d1, d2, t2, R2⟩ := K r2 h2 H2
  obtain ⟨u1, u2, u3, u4, u5, u6⟩ := e_X8_clean t1 H2
  obtain ⟨_, f2⟩ := eng_m d2 u4 u5 u6
  exact ⟨m2, v2, d1, d2, t2, ⟨R2, HS_f (HS_f hS f1 (by decide +kernel)) f2 (by decide +kernel)⟩⟩
theorem pf_trade {m : zM} {r : Option Value} {h' : zHp} {x0 : Int32} (ht : zTy m) (hR : RF m) (H : zEv none 19 zm_X7_trade (0, lv_args 0 [.ref 0, .int x0], [], zhp m) r h') : ∃ m1 v, r = some (.int v) ∧ h' = zhp m1 ∧ zTy m1 ∧ ∀ r2 h2, zEv none 19 zm_X8_trade (0, lv_args 0 [.ref 71, .int x0], [], zhp m1) r2 h2 → ∃ m2 v2, r2 = some (.int v2) ∧ h2 = zhp m2 ∧ zTy m2 ∧ RF m2 := by
  obtain ⟨hR1, hS⟩ := hR
  obtain ⟨m1, v, b1, b2, t1, K⟩ := pc_trade ht hR1 H
  obtain ⟨q1, q2, q3, q4, q5, q6⟩ := e_X7_trade ht H
  obtain ⟨_, f1⟩ := eng_m b2 q4 q5 q6
  refine ⟨m1, v, b1, b2, t1, fun r2 h2 H2 => ?_⟩
  obtain ⟨m2, v2, d1, d2, t2, R2⟩ := K r2 h2 H2
  obtain ⟨u1, u2, u3, u4, u5, u6⟩ := e_X8_trade t1 H2
  obtain ⟨_, f2⟩ := eng_m d2 u4 u5 u6
  exact ⟨m2, v2, d1, d2, t2, ⟨R2, HS_f (HS_f hS f1 (by decide +kernel)) f2 (by decide +kernel)⟩⟩
theorem pf_loose {m : zM} {r : Option Value} {h' : zHp} (ht : zTy m) (hR : RF m) (H : zEv none 19 zm_X7_loose (0, lv_args 0 [.ref 0], [], zhp m) r h') : ∃ m1 v, r = some (.int v) ∧ h' = zhp m1 ∧ zTy m1 ∧ ∀ r2 h2, zEv none 19 zm_X8_loose (0, lv_args 0 [.ref 71], [], zhp m1) r2 h2 → ∃ m2 v2, r2 = some (.int v2) ∧ h2 = zhp m2 ∧ zTy m2 ∧ RF m2 := by
  obtain ⟨hR1, hS⟩ := hR
  obtain ⟨m1, v, b1, b2, t1, K⟩ := pc_loose ht hR1 H
  obtain ⟨q1, q2, q3, q4, q5, q6⟩ := e_X7_loose ht H
  obtain ⟨_, f1⟩ := eng_m b2 q4 q5 q6
  refine ⟨m1, v, b1, b2, t1, fun r2 h2 H2 => ?_⟩
  obtain ⟨m2, v2, d1, d2, t2, R2⟩ := K r2 h2 H2
  obtain ⟨u1, u2, u3, u4, u5, u6⟩ := e_X8_loose t1 H2
  obtain ⟨_, f2⟩ := eng_m d2 u4 u5 u6
  exact ⟨m2, v2, d1, d2, t2, ⟨R2, HS_f (HS_f hS f1 (by decide +kernel)) f2 (by decide +kernel)⟩⟩
theorem pf_mean {m : zM} {r : Option Value} {h' : zHp} {x0 x1 : Int32} (ht : zTy m) (hR : RF m) (H : zEv none 19 zm_X7_mean (0, lv_args 0 [.ref 0, .int x0, .int x1], [], zhp m) r h') : ∃ m1 v, r = some (.long v) ∧ h' = zhp m1 ∧ zTy m1 ∧ ∀ r2 h2, zEv none 19 zm_X8_mean (0, lv_args 0 [.ref 71, .int x0, .int x1], [], zhp m1) r2 h2 → ∃ m2 v2, r2 = some (.long v2) ∧ h2 = zhp m2 ∧ zTy m2 ∧ RF m2 := by
  obtain ⟨hR1, hS⟩ := hR
  obtain ⟨m1, v, b1, b2, t1, K⟩ := pc_mean ht hR1 H
  obtain ⟨q1, q2, q3, q4, q5, q6⟩ := e_X7_mean ht H
  obtain ⟨_, f1⟩ := eng_m b2 q4 q5 q6
  refine ⟨m1, v, b1, b2, t1, fun r2 h2 H2 => ?_⟩
  obtain ⟨m2, v2, d1, d2, t2, R2⟩ := K r2 h2 H2
  obtain ⟨u1, u2, u3, u4, u5, u6⟩ := e_X8_mean t1 H2
  obtain ⟨_, f2⟩ := eng_m d2 u4 u5 u6
  exact ⟨m2, v2, d1, d2, t2, ⟨R2, HS_f (HS_f hS f1 (by decide +kernel)) f2 (by decide +kernel)⟩⟩
theorem pf_luck {m : zM} {r : Option Value} {h' : zHp} {x0 x1 x2 : Int32} (ht : zTy m) (hR : RF m) (H : zEv none 19 zm_X7_luck (0, lv_args 0 [.ref 0, .int x0, .int x1, .int x2], [], zhp m) r h') : ∃ m1 v, r = some (.long v) ∧ h' = zhp m1 ∧ zTy m1 ∧ ∀ r2 h2, zEv none 19 zm_X8_luck (0, lv_args 0 [.ref 71, .int x0, .int x1, .int x2], [], zhp m1) r2 h2 → ∃ m2 v2, r2 = some (.long v2) ∧ h2 = zhp m2 ∧ zTy m2 ∧ RF m2 := by
  obtain ⟨hR1, hS⟩ := hR
  obtain ⟨m1, v, b1, b2, t1, K⟩ := pc_luck ht hR1 H
  obtain ⟨q1, q2, q3, q4, q5, q6⟩ := e_X7_luck ht H
  obtain ⟨_, f1⟩ := eng_m b2 q4 q5 q6
  refine ⟨m1, v, b1, b2, t1, fun r2 h2 H2 => ?_⟩
  obtain ⟨m2, v2, d1, d2, t2, R2⟩ := K r2 h2 H2
  obtain ⟨u1, u2, u3, u4, u5, u6⟩ := e_X8_luck t1 H2
  obtain ⟨_, f2⟩ := eng_m d2 u4 u5 u6
  exact ⟨m2, v2, d1, d2, t2, ⟨R2, HS_f (HS_f hS f1 (by decide +kernel)) f2 (by decide +kernel)⟩⟩
theorem pf_see {m : zM} {r : Option Value} {h' : zHp} {x0 x1 : Int32} (ht : zTy m) (hR : RF m) (H : zEv none 19 zm_X7_see (0, lv_args 0 [.ref 0, .int x0, .int x1], [], zhp m) r h') : ∃ m1 v, r = some (.int v) ∧ h' = zhp m1 ∧ zTy m1 ∧ ∀ r2 h2, zEv none 19 zm_X8_see (0, lv_args 0 [.ref 71, .int x0, .int x1], [], zhp m1) r2 h2 → ∃ m2 v2, r2 = some (.int v2) ∧ h2 = zhp m2 ∧ zTy m2 ∧ RF m2 ∧ v = v2 := by
  obtain ⟨hR1, hS⟩ := hR
  obtain ⟨m1, v, b1, b2, t1, K⟩ := pc_see ht hR1 H
  obtain ⟨q1, q2, q3, q4, q5, q6⟩ := e_X7_see ht H
  obtain ⟨_, f1⟩ := eng_m b2 q4 q5 q6
  refine ⟨m1, v, b1, b2, t1, fun r2 h2 H2 => ?_⟩
  obtain ⟨m2, v2, d1, d2, t2, R2, e⟩ := K r2 h2 H2
  obtain ⟨u1, u2, u3, u4, u5, u6⟩ := e_X8_see t1 H2
  obtain ⟨_, f2⟩ := eng_m d2 u4 u5 u6
  exact ⟨m2, v2, d1, d2, t2, ⟨R2, HS_f (HS_f hS f1 (by decide +kernel)) f2 (by decide +kernel)⟩, e⟩
theorem pf_forget {m : zM} {r : Option Value} {h' : zHp} {x0 : Int32} (ht : zTy m) (hR : RF m) (H : zEv none 19 zm_X7_forget (0, lv_args 0 [.ref 0, .int x0], [], zhp m) r h') : ∃ m1 v, r = some (.int v) ∧ h' = zhp m1 ∧ zTy m1 ∧ ∀ r2 h2, zEv none 19 zm_X8_forget (0, lv_args 0 [.ref 71, .int x0], [], zhp m1) r2 h2 → ∃ m2 v2, r2 = some (.int v2) ∧ h2 = zhp m2 ∧ zTy m2 ∧ RF m2 ∧ v = v2 := by
  obtain ⟨hR1, hS⟩ := hR
  obtain ⟨m1, v, b1, b2, t1, K⟩ := pc_forget ht hR1 H
  obtain ⟨q1, q2, q3, q4, q5, q6⟩ := e_X7_forget ht H
  obtain ⟨_, f1⟩ := eng_m b2 q4 q5 q6
  refine ⟨m1, v, b1, b2, t1, fun r2 h2 H2 => ?_⟩
  obtain ⟨m2, v2, d1, d2, t2, R2, e⟩ := K r2 h2 H2
  obtain ⟨u1, u2, u3, u4, u5, u6⟩ := e_X8_forget t1 H2
  obtain ⟨_, f2⟩ := eng_m d2 u4 u5 u6
  exact ⟨m2, v2, d1, d2, t2, ⟨R2, HS_f (HS_f hS f1 (by decide +kernel)) f2 (by decide +kernel)⟩, e⟩
theorem pf_counts {m : zM} {r : Option Value} {h' : zHp} {x0 x1 : Int32} (ht : zTy m) (hR : RF m) (H : zEv none 19 zm_X7_counts (0, lv_args 0 [.ref 0, .int x0, .int x1], [], zhp m) r h') : ∃ m1 v, r = some (.int v) ∧ h' = zhp m1 ∧ zTy m1 ∧ ∀ r2 h2, zEv none 19 zm_X8_counts (0, lv_args 0 [.ref 71, .int x0, .int x1], [], zhp m1) r2 h2 → ∃ m2 v2, r2 = some (.int v2) ∧ h2 = zhp m2 ∧ zTy m2 ∧ RF m2 := by
  obtain ⟨hR1, hS⟩ := hR
  obtain ⟨m1, v, b1, b2, t1, K⟩ := pc_counts ht hR1 H
  obtain ⟨q1, q2, q3, q4, q5, q6⟩ := e_X7_counts ht H
  obtain ⟨_, f1⟩ := eng_m b2 q4 q5 q6
  refine ⟨m1, v, b1, b2, t1, fun r2 h2 H2 => ?_⟩
  obtain ⟨m2, v2, d1, d2, t2, R2⟩ := K r2 h2 H2
  obtain ⟨u1, u2, u3, u4, u5, u6⟩ := e_X8_counts t1 H2
  obtain ⟨_, f2⟩ := eng_m d2 u4 u5 u6
  exact ⟨m2, v2, d1, d2, t2, ⟨R2, HS_f (HS_f hS f1 (by decide +kernel)) f2 (by decide +kernel)⟩⟩
theorem pf_slacks {m : zM} {r : Option Value} {h' : zHp} (ht : zTy m) (hR : RF m) (H : zEv none 19 zm_X7_slacks (0, lv_args 0 [.ref 0], [], zhp m) r h') : ∃ m1 v, r = some (.int v) ∧ h' = zhp m1 ∧ zTy m1 ∧ ∀ r2 h2, zEv none 19 zm_X8_slacks (0, lv_args 0 [.ref 71], [], zhp m1) r2 h2 → ∃ m2 v2, r2 = some (.int v2) ∧ h2 = zhp m2 ∧ zTy m2 ∧ RF m2 := by
  obtain ⟨hR1, hS⟩ := hR
  obtain ⟨m1, v, b1, b2, t1, K⟩ := pc_slacks ht hR1 H
  obtain ⟨q1, q2, q3, q4, q5, q6⟩ := e_X7_slacks ht H
  obtain ⟨_, f1⟩ := eng_m b2 q4 q5 q6
  refine ⟨m1, v, b1, b2, t1, fun r2 h2 H2 => ?_⟩
  obtain ⟨m2, v2, d1, d2, t2, R2⟩ := K r2 h2 H2
  obtain ⟨u1, u2, u3, u4, u5, u6⟩ := e_X8_slacks t1 H2
  obtain ⟨_, f2⟩ := eng_m d2 u4 u5 u6
  exact ⟨m2, v2, d1, d2, t2, ⟨R2, HS_f (HS_f hS f1 (by decide +kernel)) f2 (by decide +kernel)⟩⟩
theorem pf_look {m : zM} {r : Option Value} {h' : zHp} {x0 x1 : Int32} (ht : zTy m) (hR : RF m) (H : zEv none 19 zm_X7_look (0, lv_args 0 [.ref 0, .int x0, .int x1], [], zhp m) r h') : ∃ m1 v, r = some (.int v) ∧ h' = zhp m1 ∧ zTy m1 ∧ ∀ r2 h2, zEv none 19 zm_X8_look (0, lv_args 0 [.ref 71, .int x0, .int x1], [], zhp m1) r2 h2 → ∃ m2 v2, r2 = some (.int v2) ∧ h2 = zhp m2 ∧ zTy m2 ∧ RF m2 := by
  obtain ⟨hR1, hS⟩ := hR
  obtain ⟨m1, v, b1, b2, t1, K⟩ := pc_look ht hR1 H
  obtain ⟨q1, q2, q3, q4, q5, q6⟩ := e_X7_look ht H
  obtain ⟨_, f1⟩ := eng_m b2 q4 q5 q6
  refine ⟨m1, v, b1, b2, t1, fun r2 h2 H2 => ?_⟩
  obtain ⟨m2, v2, d1, d2, t2, R2⟩ := K r2 h2 H2
  obtain ⟨u1, u2, u3, u4, u5, u6⟩ := e_X8_look t1 H2
  obtain ⟨_, f2⟩ := eng_m d2 u4 u5 u6
  exact ⟨m2, v2, d1, d2, t2, ⟨R2, HS_f (HS_f hS f1 (by decide +kernel)) f2 (by decide +kernel)⟩⟩
theorem pf_drift {m : zM} {r : Option Value} {h' : zHp} {x0 x1 x2 : Int32} (ht : zTy m) (hR : RF m) (H : zEv none 19 zm_X7_drift (0, lv_args 0 [.ref 0, .int x0, .int x1, .int x2], [], zhp m) r h') : ∃ m1 v, r = some (.int v) ∧ h' = zhp m1 ∧ zTy m1 ∧ ∀ r2 h2, zEv none 19 zm_X8_drift (0, lv_args 0 [.ref 71, .int x0, .int x1, .int x2], [], zhp m1) r2 h2 → ∃ m2 v2, r2 = some (.int v2) ∧ h2 = zhp m2 ∧ zTy m2 ∧ RF m2 := by
  obtain ⟨hR1, hS⟩ := hR
  obtain ⟨m1, v, b1, b2, t1, K⟩ := pc_drift ht hR1 H
  obtain ⟨q1, q2, q3, q4, q5, q6⟩ := e_X7_drift ht H
  obtain ⟨_, f1⟩ := eng_m b2 q4 q5 q6
  refine ⟨m1, v, b1, b2, t1, fun r2 h2 H2 => ?_⟩
  obtain ⟨m2, v2, d1, d2, t2, R2⟩ := K r2 h2 H2
  obtain ⟨u1, u2, u3, u4, u5, u6⟩ := e_X8_drift t1 H2
  obtain ⟨_, f2⟩ := eng_m d2 u4 u5 u6
  exact ⟨m2, v2, d1, d2, t2, ⟨R2, HS_f (HS_f hS f1 (by decide +kernel)) f2 (by decide +kernel)⟩⟩
theorem pf_keep {m : zM} {r : Option Value} {h' : zHp} {x0 : Int32} (ht : zTy m) (hR : RF m) (H : zEv none 19 zm_X7_keep (0, lv_args 0 [.ref 0, .int x0], [], zhp m) r h') : ∃ m1 v, r = some (.int v) ∧ h' = zhp m1 ∧ zTy m1 ∧ ∀ r2 h2, zEv none 19 zm_X8_keep (0, lv_args 0 [.ref 71, .int x0], [], zhp m1) r2 h2 → ∃ m2 v2, r2 = some (.int v2) ∧ h2 = zhp m2 ∧ zTy m2 ∧ RF m2 ∧ v = v2 := by
  obtain ⟨hR1, hS⟩ := hR
  obtain ⟨m1, v, b1, b2, t1, K⟩ := pc_keep ht hR1 H
  obtain ⟨q1, q2, q3, q4, q5, q6⟩ := e_X7_keep ht H
  obtain ⟨_, f1⟩ := eng_m b2 q4 q5 q6
  refine ⟨m1, v, b1, b2, t1, fun r2 h2 H2 => ?_⟩
  obtain ⟨m2, v2, d1, d2, t2, R2, e⟩ := K r2 h2 H2
  obtain ⟨u1, u2, u3, u4, u5, u6⟩ := e_X8_keep t1 H2
  obtain ⟨_, f2⟩ := eng_m d2 u4 u5 u6
  exact ⟨m2, v2, d1, d2, t2, ⟨R2, HS_f (HS_f hS f1 (by decide +kernel)) f2 (by decide +kernel)⟩, e⟩
theorem pf_back {m : zM} {r : Option Value} {h' : zHp} {x0 : Int32} (ht : zTy m) (hR : RF m) (H : zEv none 19 zm_X7_back (0, lv_args 0 [.ref 0, .int x0], [], zhp m) r h') : ∃ m1 v, r = some (.int v) ∧ h' = zhp m1 ∧ zTy m1 ∧ ∀ r2 h2, zEv none 19 zm_X8_back (0, lv_args 0 [.ref 71, .int x0], [], zhp m1) r2 h2 → ∃ m2 v2, r2 = some (.int v2) ∧ h2 = zhp m2 ∧ zTy m2 ∧ RF m2 ∧ v = v2 := by
  obtain ⟨hR1, hS⟩ := hR
  obtain ⟨m1, v, b1, b2, t1, K⟩ := pc_back ht hR1 H
  obtain ⟨q1, q2, q3, q4, q5, q6⟩ := e_X7_back ht H
  obtain ⟨_, f1⟩ := eng_m b2 q4 q5 q6
  refine ⟨m1, v, b1, b2, t1, fun r2 h2 H2 => ?_⟩
  obtain ⟨m2, v2, d1, d2, t2, R2, e⟩ := K r2 h2 H2
  obtain ⟨u1, u2, u3, u4, u5, u6⟩ := e_X8_back t1 H2
  obtain ⟨_, f2⟩ := eng_m d2 u4 u5 u6
  exact ⟨m2, v2, d1, d2, t2, ⟨R2, HS_f (HS_f hS f1 (by decide +kernel)) f2 (by decide +kernel)⟩, e⟩
theorem pf_torn {m : zM} {r : Option Value} {h' : zHp} (ht : zTy m) (hR : RF m) (H : zEv none 19 zm_X7_torn (0, lv_args 0 [.ref 0], [], zhp m) r h') : ∃ m1 v, r = some (.int v) ∧ h' = zhp m1 ∧ zTy m1 ∧ ∀ r2 h2, zEv none 19 zm_X8_torn (0, lv_args 0 [.ref 71], [], zhp m1) r2 h2 → ∃ m2 v2, r2 = some (.int v2) ∧ h2 = zhp m2 ∧ zTy m2 ∧ RF m2 := by
  obtain ⟨hR1, hS⟩ := hR
  obtain ⟨m1, v, b1, b2, t1, K⟩ := pc_torn ht hR1 H
  obtain ⟨q1, q2, q3, q4, q5, q6⟩ := e_X7_torn ht H
  obtain ⟨_, f1⟩ := eng_m b2 q4 q5 q6
  refine ⟨m1, v, b1, b2, t1, fun r2 h2 H2 => ?_⟩
  obtain ⟨m2, v2, d1, d2, t2, R2⟩ := K r2 h2 H2
  obtain ⟨u1, u2, u3, u4, u5, u6⟩ := e_X8_torn t1 H2
  obtain ⟨_, f2⟩ := eng_m d2 u4 u5 u6
  exact ⟨m2, v2, d1, d2, t2, ⟨R2, HS_f (HS_f hS f1 (by decide +kernel)) f2 (by decide +kernel)⟩⟩
theorem pf_count {m : zM} {r : Option Value} {h' : zHp} {x0 : Int32} (ht : zTy m) (hR : RF m) (H : zEv none 19 zm_X7_count (0, lv_args 0 [.ref 0, .int x0], [], zhp m) r h') : ∃ m1 v, r = some (.int v) ∧ h' = zhp m1 ∧ zTy m1 ∧ ∀ r2 h2, zEv none 19 zm_X8_count (0, lv_args 0 [.ref 71, .int x0], [], zhp m1) r2 h2 → ∃ m2 v2, r2 = some (.int v2) ∧ h2 = zhp m2 ∧ zTy m2 ∧ RF m2 := by
  obtain ⟨hR1, hS⟩ := hR
  obtain ⟨m1, v, b1, b2, t1, K⟩ := pc_count ht hR1 H
  obtain ⟨q1, q2, q3, q4, q5, q6⟩ := e_X7_count ht H
  obtain ⟨_, f1⟩ := eng_m b2 q4 q5 q6
  refine ⟨m1, v, b1, b2, t1, fun r2 h2 H2 => ?_⟩
  obtain ⟨m2, v2, d1, d2, t2, R2⟩ := K r2 h2 H2
  obtain ⟨u1, u2, u3, u4, u5, u6⟩ := e_X8_count t1 H2
  obtain ⟨_, f2⟩ := eng_m d2 u4 u5 u6
  exact ⟨m2, v2, d1, d2, t2, ⟨R2, HS_f (HS_f hS f1 (by decide +kernel)) f2 (by decide +kernel)⟩⟩
theorem pf_sheet {m : zM} {r : Option Value} {h' : zHp} {x0 x1 x2 : Int32} (ht : zTy m) (hR : RF m) (H : zEv none 19 zm_X7_sheet (0, lv_args 0 [.ref 0, .int x0, .int x1, .int x2], [], zhp m) r h') : ∃ m1 v, r = some (.int v) ∧ h' = zhp m1 ∧ zTy m1 ∧ ∀ r2 h2, zEv none 19 zm_X8_sheet (0, lv_args 0 [.ref 71, .int x0, .int x1, .int x2], [], zhp m1) r2 h2 → ∃ m2 v2, r2 = some (.int v2) ∧ h2 = zhp m2 ∧ zTy m2 ∧ RF m2 := by
  obtain ⟨hR1, hS⟩ := hR
  obtain ⟨m1, v, b1, b2, t1, K⟩ := pc_sheet ht hR1 H
  obtain ⟨m3, w, j1, j2, j3⟩ := t_X7_sheet (zE_of 0 rfl H)
  obtain ⟨q1, q2, q3, q4, q5, q6⟩ := e_X7_sheet ht H
  obtain ⟨t3, f1⟩ := eng_m j2 q4 q5 q6
  refine ⟨m1, v, b1, b2, t1, fun r2 h2 H2 => ?_⟩
  obtain ⟨m2, v2, d1, d2, t2, R2⟩ := K r2 h2 H2
  have hz : zhp m1 = zhp m3 := b2.symm.trans j2
  rw [hz] at H2

  obtain ⟨m4, w2, y1, y2, y3⟩ := t_X8_sheet (zE_of 1 rfl H2)
  refine ⟨m2, v2, d1, d2, t2, R2, HS_e (m := m4) ?_ (fun k i hk hi q => ?_)⟩
  · rcases j3 with ⟨o1, rfl⟩ | ⟨o1, k, k1, k2, z1, z2, z3, z4, z5⟩
    · rcases y3 with ⟨_, rfl⟩ | ⟨o2, _⟩
      · exact hS
      · exact absurd o2 o1
    · rcases y3 with ⟨o2, _⟩ | ⟨_, k', k1', k2', w1, w2, w3, w4⟩
      · exact absurd o1 o2
      · have ek : k = k' := zofn (k2.symm.trans k2') (by omega) (by omega)
        subst ek
        have E : ∀ a b, ¬ (a = 63 + 2 * k ∧ 1 ≤ b ∧ b ≤ 3) → ¬ a = 64 + 2 * k → ¬ (a = 83 ∧ b = k) → ¬ (a = 84 ∧ b = k) → ¬ (a = 85 ∧ 40 * k ≤ b ∧ b < 40 * k + 40) → m4 a b = m a b := fun a b h1 h2 h3 h4 h5 => (w4 a b h3 h4 h5).trans (z5 a b h1 h2)
        refine ⟨fun j hj => ?_, by rw [E 0 8 (by omega) (by omega) (by omega) (by omega) (by omega), E 71 30 (by omega) (by omega) (by omega) (by omega) (by omega)]; exact hS.2⟩
        by_cases ej : j = k
        · subst ej
          refine Or.inr ⟨?_, ?_, ?_, ?_, fun i hi => ?_⟩
          · rw [w4 _ _ (by omega) (by omega) (by omega), z1]; decide
          · rw [w1]
            intro h
            rw [h] at o1
            exact absurd o1.2.1.1 (fun q => q (by decide))
          · rw [w4 _ _ (by omega) (by omega) (by omega), z2, w1]
          · rw [w4 _ _ (by omega) (by omega) (by omega), z3, w2]
          · rw [w4 _ _ (by omega) (by omega) (by omega), z4 i hi, w3 i hi]
        · exact SHk_e hj (hS.1 j hj) (fun x y q => E x y (by omega) (by omega) (by omega) (by omega) (by omega))
  · rw [Nat.blt_eq] at hk hi
    have h1 := List.all_eq_true.mp (List.all_eq_true.mp qH_p k (List.mem_range.mpr hk)) i (List.mem_range.mpr hi)
    rw [q] at h1
    exact zhp_inj (d2.symm.trans y2) (zplb_ok (by simpa using h1))
theorem pf_lay {m : zM} {r : Option Value} {h' : zHp} {x0 x1 x2 : Int32} (ht : zTy m) (hR : RF m) (H : zEv none 19 zm_X7_lay (0, lv_args 0 [.ref 0, .int x0, .int x1, .int x2], [], zhp m) r h') : ∃ m1 v, r = some (.int v) ∧ h' = zhp m1 ∧ zTy m1 ∧ ∀ r2 h2, zEv none 19 zm_X8_lay (0, lv_args 0 [.ref 71, .int x0, .int x1, .int x2], [], zhp m1) r2 h2 → ∃ m2 v2, r2 = some (.int v2) ∧ h2 = zhp m2 ∧ zTy m2 ∧ RF m2 := by
  obtain ⟨hR1, hS⟩ := hR
  obtain ⟨m1, v, b1, b2, t1, K⟩ := pc_lay ht hR1 H
  obtain ⟨m3, w, j1, j2, j3⟩ := t_X7_lay (zE_of 1 rfl H)
  obtain ⟨q1, q2, q3, q4, q5, q6⟩ := e_X7_lay ht H
  obtain ⟨t3, f1⟩ := eng_m j2 q4 q5 q6
  refine ⟨m1, v, b1, b2, t1, fun r2 h2 H2 => ?_⟩
  obtain ⟨m2, v2, d1, d2, t2, R2⟩ := K r2 h2 H2
  have hz : zhp m1 = zhp m3 := b2.symm.trans j2
  rw [hz] at H2

  obtain ⟨m4, w2, y1, y2, y3⟩ := t_X8_lay (zl84 t3) (zE_of 0 rfl H2)
  refine ⟨m2, v2, d1, d2, t2, R2, HS_e (m := m4) ?_ (fun k i hk hi q => ?_)⟩
  · rcases j3 with ⟨o1, rfl⟩ | ⟨k, i, k1, k2, i1, i2, o1, rfl⟩
    · rcases y3 with ⟨_, rfl⟩ | ⟨k, i, k1, k2, i1, i2, o2, o3, rfl⟩
      · exact hS
      · exfalso
        rcases hS.1 k k1 with ⟨_, z2⟩ | ⟨z1, z2, z3, z4, z5⟩
        · exact o2 z2
        · exact o1 k k1 k2 (zfa_0.mpr ⟨z1, o3.1, by rw [z4]; exact o3.2⟩)
    · obtain ⟨h1, h2, h3⟩ := zfa_0.mp o1
      have N : ∀ a b, ¬ (a = 64 + 2 * k ∧ b = i) → zup m (64 + 2 * k) i (znr (m (63 + 2 * k) 2) x2) a b = m a b := fun a b h => zup_n h
      rcases hS.1 k k1 with ⟨z1, _⟩ | ⟨z1, z2, z3, z4, z5⟩
      · exact absurd z1 h1
      · rcases y3 with ⟨o2, _⟩ | ⟨k', i', k1', k2', i1', i2', o2, o3, rfl⟩
        · exact absurd ⟨by rw [N _ _ (by omega)]; exact z2, h2, by rw [N _ _ (by omega), ← z4]; exact h3⟩ (o2 k k1 k2)
        · have ek : k = k' := zofn (k2.symm.trans k2') (by omega) (by omega)
          subst ek
          have ei : i = i' := zofn (i2.symm.trans i2') (by omega) (by omega)
          subst ei
          refine ⟨fun j hj => ?_, by rw [zup_n (by omega), zup_n (by omega), zup_n (by omega), zup_n (by omega)]; exact hS.2⟩
          by_cases ej : j = k
          · subst ej
            refine Or.inr ⟨by rw [zup_n (by omega), zup_n (by omega)]; exact z1, by rw [zup_n (by omega), zup_n (by omega)]; exact z2, by rw [zup_n (by omega), zup_n (by omega), zup_n (by omega), zup_n (by omega)]; exact z3, by rw [zup_n (by omega), zup_n (by omega), zup_n (by omega), zup_n (by omega)]; exact z4, fun i' hi => ?_⟩
            by_cases e : i' = i
            · subst e
              rw [zup_n (by omega), zup_s, zup_s, N 83 j (by omega), z3]
            · rw [zup_n (by omega), zup_n (by omega), zup_n (by omega), zup_n (by omega)]
              exact z5 i' hi
          · exact SHk_e hj (hS.1 j hj) (fun x y q => by rw [zup_n (by omega), zup_n (by omega)])
  · rw [Nat.blt_eq] at hk hi
    have h1 := List.all_eq_true.mp (List.all_eq_true.mp qH_p k (List.mem_range.mpr hk)) i (List.mem_range.mpr hi)
    rw [q] at h1
    exact zhp_inj (d2.symm.trans y2) (zplb_ok (by simpa using h1))
end
section
/-! read -/
theorem It_X7_read : zm_X7_read.2.2.2.2.2 = zt_X7_read := by
  unfold zm_X7_read
  rfl
theorem I_X7_read_0 : zin zm_X7_read.2.2.2.2.2 0 = some (.iload_n 1, 1) := by rw [It_X7_read]; rfl
theorem I_X7_read_1 : zin zm_X7_read.2.2.2.2.2 1 = some (.ifCond .lt 29, 3) := by rw [It_X7_read]; rfl
theorem I_X7_read_4 : zin zm_X7_read.2.2.2.2.2 4 = some (.iload_n 1, 1) := by rw [It_X7_read]; rfl
theorem I_X7_read_5 : zin zm_X7_read.2.2.2.2.2 5 = some (.iconst 4, 1) := by rw [It_X7_read]; rfl
theorem I_X7_read_6 : zin zm_X7_read.2.2.2.2.2 6 = some (.if_icmp .ge 24, 3) := by rw [It_X7_read]; rfl
theorem I_X7_read_9 : zin zm_X7_read.2.2.2.2.2 9 = some (.iload_n 2, 1) := by rw [It_X7_read]; rfl
theorem I_X7_read_10 : zin zm_X7_read.2.2.2.2.2 10 = some (.ifCond .lt 20, 3) := by rw [It_X7_read]; rfl
theorem I_X7_read_13 : zin zm_X7_read.2.2.2.2.2 13 = some (.iload_n 2, 1) := by rw [It_X7_read]; rfl
theorem I_X7_read_14 : zin zm_X7_read.2.2.2.2.2 14 = some (.iconst 2, 1) := by rw [It_X7_read]; rfl
theorem I_X7_read_15 : zin zm_X7_read.2.2.2.2.2 15 = some (.if_icmp .gt 15, 3) := by rw [It_X7_read]; rfl
theorem I_X7_read_18 : zin zm_X7_read.2.2.2.2.2 18 = some (.iload 4, 2) := by rw [It_X7_read]; rfl
theorem I_X7_read_20 : zin zm_X7_read.2.2.2.2.2 20 = some (.ifCond .lt 10, 3) := by rw [It_X7_read]; rfl
theorem I_X7_read_23 : zin zm_X7_read.2.2.2.2.2 23 = some (.iload 4, 2) := by rw [It_X7_read]; rfl
theorem I_X7_read_25 : zin zm_X7_read.2.2.2.2.2 25 = some (.bipush 20, 2) := by rw [It_X7_read]; rfl
theorem I_X7_read_27 : zin zm_X7_read.2.2.2.2.2 27 = some (.if_icmp .le 5, 3) := by rw [It_X7_read]; rfl
theorem I_X7_read_30 : zin zm_X7_read.2.2.2.2.2 30 = some (.iconst (-1), 1) := by rw [It_X7_read]; rfl
theorem I_X7_read_31 : zin zm_X7_read.2.2.2.2.2 31 = some (.ireturn, 1) := by rw [It_X7_read]; rfl
theorem I_X7_read_32 : zin zm_X7_read.2.2.2.2.2 32 = some (.aload_n 0, 1) := by rw [It_X7_read]; rfl
theorem I_X7_read_33 : zin zm_X7_read.2.2.2.2.2 33 = some (.getfield 54, 3) := by rw [It_X7_read]; rfl
theorem I_X7_read_36 : zin zm_X7_read.2.2.2.2.2 36 = some (.iload_n 1, 1) := by rw [It_X7_read]; rfl
theorem I_X7_read_37 : zin zm_X7_read.2.2.2.2.2 37 = some (.aaload, 1) := by rw [It_X7_read]; rfl
theorem I_X7_read_38 : zin zm_X7_read.2.2.2.2.2 38 = some (.astore 5, 2) := by rw [It_X7_read]; rfl
theorem I_X7_read_40 : zin zm_X7_read.2.2.2.2.2 40 = some (.iconst 0, 1) := by rw [It_X7_read]; rfl
theorem I_X7_read_41 : zin zm_X7_read.2.2.2.2.2 41 = some (.istore 6, 2) := by rw [It_X7_read]; rfl
theorem I_X7_read_43 : zin zm_X7_read.2.2.2.2.2 43 = some (.iconst 0, 1) := by rw [It_X7_read]; rfl
theorem I_X7_read_44 : zin zm_X7_read.2.2.2.2.2 44 = some (.istore 7, 2) := by rw [It_X7_read]; rfl
theorem I_X7_read_46 : zin zm_X7_read.2.2.2.2.2 46 = some (.iconst 0, 1) := by rw [It_X7_read]; rfl
theorem I_X7_read_47 : zin zm_X7_read.2.2.2.2.2 47 = some (.istore 8, 2) := by rw [It_X7_read]; rfl
theorem I_X7_read_49 : zin zm_X7_read.2.2.2.2.2 49 = some (.iload 8, 2) := by rw [It_X7_read]; rfl
theorem I_X7_read_51 : zin zm_X7_read.2.2.2.2.2 51 = some (.iload 4, 2) := by rw [It_X7_read]; rfl
theorem I_X7_read_53 : zin zm_X7_read.2.2.2.2.2 53 = some (.if_icmp .ge 63, 3) := by rw [It_X7_read]; rfl
theorem I_X7_read_56 : zin zm_X7_read.2.2.2.2.2 56 = some (.iload 6, 2) := by rw [It_X7_read]; rfl
theorem I_X7_read_58 : zin zm_X7_read.2.2.2.2.2 58 = some (.ifCond .ne 58, 3) := by rw [It_X7_read]; rfl
theorem I_X7_read_61 : zin zm_X7_read.2.2.2.2.2 61 = some (.aload 5, 2) := by rw [It_X7_read]; rfl
theorem I_X7_read_63 : zin zm_X7_read.2.2.2.2.2 63 = some (.iload_n 2, 1) := by rw [It_X7_read]; rfl
theorem I_X7_read_64 : zin zm_X7_read.2.2.2.2.2 64 = some (.iload_n 3, 1) := by rw [It_X7_read]; rfl
theorem I_X7_read_65 : zin zm_X7_read.2.2.2.2.2 65 = some (.iload 8, 2) := by rw [It_X7_read]; rfl
theorem I_X7_read_67 : zin zm_X7_read.2.2.2.2.2 67 = some (.iadd, 1) := by rw [It_X7_read]; rfl
theorem I_X7_read_68 : zin zm_X7_read.2.2.2.2.2 68 = some (.invokevirtual 270, 3) := by rw [It_X7_read]; rfl
theorem I_X7_read_71 : zin zm_X7_read.2.2.2.2.2 71 = some (.istore 6, 2) := by rw [It_X7_read]; rfl
theorem I_X7_read_73 : zin zm_X7_read.2.2.2.2.2 73 = some (.iload 6, 2) := by rw [It_X7_read]; rfl
theorem I_X7_read_75 : zin zm_X7_read.2.2.2.2.2 75 = some (.ifCond .ne 35, 3) := by rw [It_X7_read]; rfl
theorem I_X7_read_78 : zin zm_X7_read.2.2.2.2.2 78 = some (.aload_n 0, 1) := by rw [It_X7_read]; rfl
theorem I_X7_read_79 : zin zm_X7_read.2.2.2.2.2 79 = some (.getfield 19, 3) := by rw [It_X7_read]; rfl
theorem I_X7_read_82 : zin zm_X7_read.2.2.2.2.2 82 = some (.aload 5, 2) := by rw [It_X7_read]; rfl
theorem I_X7_read_84 : zin zm_X7_read.2.2.2.2.2 84 = some (.getfield 273, 3) := by rw [It_X7_read]; rfl
theorem I_X7_read_87 : zin zm_X7_read.2.2.2.2.2 87 = some (.iload_n 3, 1) := by rw [It_X7_read]; rfl
theorem I_X7_read_88 : zin zm_X7_read.2.2.2.2.2 88 = some (.iload 8, 2) := by rw [It_X7_read]; rfl
theorem I_X7_read_90 : zin zm_X7_read.2.2.2.2.2 90 = some (.iadd, 1) := by rw [It_X7_read]; rfl
theorem I_X7_read_91 : zin zm_X7_read.2.2.2.2.2 91 = some (.iaload, 1) := by rw [It_X7_read]; rfl
theorem I_X7_read_92 : zin zm_X7_read.2.2.2.2.2 92 = some (.invokevirtual 152, 3) := by rw [It_X7_read]; rfl
theorem I_X7_read_95 : zin zm_X7_read.2.2.2.2.2 95 = some (.ifCond .ne 9, 3) := by rw [It_X7_read]; rfl
theorem I_X7_read_98 : zin zm_X7_read.2.2.2.2.2 98 = some (.bipush (-20), 2) := by rw [It_X7_read]; rfl
theorem I_X7_read_100 : zin zm_X7_read.2.2.2.2.2 100 = some (.iload 8, 2) := by rw [It_X7_read]; rfl
theorem I_X7_read_102 : zin zm_X7_read.2.2.2.2.2 102 = some (.isub, 1) := by rw [It_X7_read]; rfl
theorem I_X7_read_103 : zin zm_X7_read.2.2.2.2.2 103 = some (.ireturn, 1) := by rw [It_X7_read]; rfl
theorem I_X7_read_104 : zin zm_X7_read.2.2.2.2.2 104 = some (.iload 8, 2) := by rw [It_X7_read]; rfl
theorem I_X7_read_106 : zin zm_X7_read.2.2.2.2.2 106 = some (.iconst 1, 1) := by rw [It_X7_read]; rfl
theorem I_X7_read_107 : zin zm_X7_read.2.2.2.2.2 107 = some (.iadd, 1) := by rw [It_X7_read]; rfl
theorem I_X7_read_108 : zin zm_X7_read.2.2.2.2.2 108 = some (.istore 7, 2) := by rw [It_X7_read]; rfl
theorem I_X7_read_110 : zin zm_X7_read.2.2.2.2.2 110 = some (.iinc 8 1, 3) := by rw [It_X7_read]; rfl
theorem I_X7_read_113 : zin zm_X7_read.2.2.2.2.2 113 = some (.goto (-64), 3) := by rw [It_X7_read]; rfl
theorem I_X7_read_116 : zin zm_X7_read.2.2.2.2.2 116 = some (.iconst 0, 1) := by rw [It_X7_read]; rfl
theorem I_X7_read_117 : zin zm_X7_read.2.2.2.2.2 117 = some (.istore 8, 2) := by rw [It_X7_read]; rfl
theorem I_X7_read_119 : zin zm_X7_read.2.2.2.2.2 119 = some (.iload 8, 2) := by rw [It_X7_read]; rfl
theorem I_X7_read_121 : zin zm_X7_read.2.2.2.2.2 121 = some (.iload 7, 2) := by rw [It_X7_read]; rfl
theorem I_X7_read_123 : zin zm_X7_read.2.2.2.2.2 123 = some (.if_icmp .ge 27, 3) := by rw [It_X7_read]; rfl
theorem I_X7_read_126 : zin zm_X7_read.2.2.2.2.2 126 = some (.aload_n 0, 1) := by rw [It_X7_read]; rfl
theorem I_X7_read_127 : zin zm_X7_read.2.2.2.2.2 127 = some (.getfield 19, 3) := by rw [It_X7_read]; rfl
theorem I_X7_read_130 : zin zm_X7_read.2.2.2.2.2 130 = some (.aload 5, 2) := by rw [It_X7_read]; rfl
theorem I_X7_read_132 : zin zm_X7_read.2.2.2.2.2 132 = some (.getfield 273, 3) := by rw [It_X7_read]; rfl
theorem I_X7_read_135 : zin zm_X7_read.2.2.2.2.2 135 = some (.iload_n 3, 1) := by rw [It_X7_read]; rfl
theorem I_X7_read_136 : zin zm_X7_read.2.2.2.2.2 136 = some (.iload 8, 2) := by rw [It_X7_read]; rfl
theorem I_X7_read_138 : zin zm_X7_read.2.2.2.2.2 138 = some (.iadd, 1) := by rw [It_X7_read]; rfl
theorem I_X7_read_139 : zin zm_X7_read.2.2.2.2.2 139 = some (.iaload, 1) := by rw [It_X7_read]; rfl
theorem I_X7_read_140 : zin zm_X7_read.2.2.2.2.2 140 = some (.invokevirtual 155, 3) := by rw [It_X7_read]; rfl
theorem I_X7_read_143 : zin zm_X7_read.2.2.2.2.2 143 = some (.pop, 1) := by rw [It_X7_read]; rfl
theorem I_X7_read_144 : zin zm_X7_read.2.2.2.2.2 144 = some (.iinc 8 1, 3) := by rw [It_X7_read]; rfl
theorem I_X7_read_147 : zin zm_X7_read.2.2.2.2.2 147 = some (.goto (-28), 3) := by rw [It_X7_read]; rfl
theorem I_X7_read_150 : zin zm_X7_read.2.2.2.2.2 150 = some (.aload_n 0, 1) := by rw [It_X7_read]; rfl
theorem I_X7_read_151 : zin zm_X7_read.2.2.2.2.2 151 = some (.iload 6, 2) := by rw [It_X7_read]; rfl
theorem I_X7_read_153 : zin zm_X7_read.2.2.2.2.2 153 = some (.putfield 276, 3) := by rw [It_X7_read]; rfl
theorem I_X7_read_156 : zin zm_X7_read.2.2.2.2.2 156 = some (.iload 7, 2) := by rw [It_X7_read]; rfl
theorem I_X7_read_158 : zin zm_X7_read.2.2.2.2.2 158 = some (.ireturn, 1) := by rw [It_X7_read]; rfl
theorem G_7_273 : zlk zfls 7 273 = some (5, 0, 283) := rfl
theorem G_7_276 : zlk zfls 7 276 = some (7, 8, 307) := rfl
theorem K_7_270 : zlk zmls 7 270 = some (0, 56, 2, 813) := rfl
theorem Zm_56 : zms[56]? = some zm_X5_faultAs := rfl
theorem cl_X7_read : zm_X7_read.2.2.2.2.1 = 7 := by
  unfold zm_X7_read
  rfl
theorem cn_X7_read : zm_X7_read.2.2.2.2.1 ≠ 12 := by
  rw [cl_X7_read]
  decide
theorem cn2_X7_read : zm_X7_read.2.2.2.2.1 ≠ 2 := by
  rw [cl_X7_read]
  decide
/-- what read finds: a BAD row, or the fault and how many are sound -/
def gR1 (fa : Nat → Int32) (ok : Nat → Bool) : Nat → Nat → Int32 ⊕ (Int32 × Nat)
  | 0, i => .inr (0, i)
  | j + 1, i => if fa i = 0 then (if ok i = true then gR1 fa ok j (i + 1) else .inl (-20 - Int32.ofNat i)) else .inr (fa i, i)
def gRt (cl : Nat → Int32) (c : Nat) : Nat → Nat → (Nat → Int32) → Nat → Int32
  | 0, _, g => g
  | j + 1, i, g => gRt cl c j (i + 1) (gTry2 g c (cl i))
def gOk (cl : Nat → Int32) (c : Nat) (i : Nat) : Bool := decide (zAs (cl i) c)
theorem gR1_s {fa : Nat → Int32} {ok : Nat → Bool} : ∀ (j i : Nat) (a : Int32) (s : Nat), gR1 fa ok j i = .inr (a, s) → i ≤ s ∧ s ≤ i + j
  | 0, i, a, s, h => by
    rw [gR1] at h
    cases h
    omega
  | j + 1, i, a, s, h => by
    rw [gR1] at h
    split at h
    · split at h
      · have := gR1_s j (i + 1) a s h
        omega
      · cases h
    · cases h
      omega
abbrev gRc (x l n : Int32) : Prop := zS4 x ∧ zBt l 0 2 ∧ zBt n 0 20
theorem gTry1_n {g : Nat → Int32} {c : Nat} {s : Int32} (hc : c ≤ 5) : ¬ gTry1 g c s = -1 := by
  unfold gTry1
  split
  · decide
  · rcases zwb_r (gcn g) s c hc with h | ⟨w, w1, h⟩
    · rw [h]; decide
    · rw [h]
      intro e
      have e2 := congrArg Int32.toInt e
      rw [zofn_t (by omega)] at e2
      have e3 : (-1 : Int32).toInt = -1 := rfl
      rw [e3] at e2
      omega
theorem gTry2_t {cl : Nat → Int32} {c : Nat} (hc : c ≤ 5) : ∀ (j i : Nat) (g : Nat → Int32) (q : Nat), 15 ≤ q → ¬ q = 17 → gRt cl c j i g q = g q
  | 0, _, _, _, _, _ => rfl
  | j + 1, i, g, q, h1, h2 => by
    rw [gRt, gTry2_t hc j (i + 1) _ q h1 h2, gTry2_k hc h1 h2]
theorem rx_7 {d : Nat} {m : zM} {r : Option Value} {h' : zHp} {x l f a s y : Int32} {n q : Nat} (hq : q < 4) (ha : ¬ a = 0) (H : zE none d zm_X7_read 49 [.ref 0, .int x, .int l, .int f, .int (Int32.ofNat n), .ref (63 + 2 * q), .int a, .int s, .int y] [] m r h') : zE none d zm_X7_read 116 [.ref 0, .int x, .int l, .int f, .int (Int32.ofNat n), .ref (63 + 2 * q), .int a, .int s, .null] [] m r h' := by
  replace H := i_il (q := 51) H I_X7_read_49 rfl rfl
  replace H := i_il (q := 53) H I_X7_read_51 rfl rfl
  have W := i_ic_ge (t := 116) (q := 56) H I_X7_read_53 (by decide) rfl
  clear H
  rcases W with ⟨c_53, H⟩ | ⟨c_53, H⟩
  · skip
    exact i_w [true, true, true, true, true, true, true, true, false] H
  · skip
    replace H := i_il (q := 58) H I_X7_read_56 rfl rfl
    have W := i_if_ne (t := 116) (q := 61) H I_X7_read_58 (by decide) rfl
    clear H
    rcases W with ⟨c_58, H⟩ | ⟨c_58, H⟩
    · skip
      exact i_w [true, true, true, true, true, true, true, true, false] H
    · skip
      exact absurd c_58 ha
theorem r1_7 {m : zM} {c n q : Nat} {x l f : Int32} {FA CL : Nat → Int32} (hq : q < 4) (hn : n ≤ 20) (hc : m 11 2 = Int32.ofNat c) (hF : ∀ i, zfs (m (63 + 2 * q) 1) (m (63 + 2 * q) 2) (m (63 + 2 * q) 3) l (f + Int32.ofNat i) = FA i) (hC : ∀ i t, FA i = 0 → t < 40 → f + Int32.ofNat i = Int32.ofNat t → m (64 + 2 * q) t = CL i) : ∀ (j i d : Nat) (r : Option Value) (h' : zHp), i + j = n → zE none d zm_X7_read 49 [.ref 0, .int x, .int l, .int f, .int (Int32.ofNat n), .ref (63 + 2 * q), .int 0, .int (Int32.ofNat i), .int (Int32.ofNat i)] [] m r h' → (∃ v, gR1 FA (gOk CL c) j i = .inl v ∧ r = some (.int v) ∧ h' = zhp m) ∨ (∃ a s, gR1 FA (gOk CL c) j i = .inr (a, s) ∧ zE none d zm_X7_read 116 [.ref 0, .int x, .int l, .int f, .int (Int32.ofNat n), .ref (63 + 2 * q), .int a, .int (Int32.ofNat s), .null] [] m r h') := by
  intro j
  induction j with
  | zero =>
    intro i d r h' hj H
    replace H := i_il (q := 51) H I_X7_read_49 rfl rfl
    replace H := i_il (q := 53) H I_X7_read_51 rfl rfl
    have W := i_ic_ge (t := 116) (q := 56) H I_X7_read_53 (by decide) rfl
    clear H
    rcases W with ⟨c_53, H⟩ | ⟨c_53, H⟩
    · skip
      exact Or.inr ⟨0, i, rfl, i_w [true, true, true, true, true, true, true, true, false] H⟩
    · exfalso
      exact absurd ((zofn_lt (by omega) (by omega)).mp c_53) (by omega)
  | succ j ih =>
    intro i d r h' hj H
    replace H := i_il (q := 51) H I_X7_read_49 rfl rfl
    replace H := i_il (q := 53) H I_X7_read_51 rfl rfl
    have W := i_ic_ge (t := 116) (q := 56) H I_X7_read_53 (by decide) rfl
    clear H
    rcases W with ⟨c_53, H⟩ | ⟨c_53, H⟩
    · exfalso
      exact c_53 ((zofn_lt (by omega) (by omega)).mpr (by omega))
    · skip
      replace H := i_il (q := 58) H I_X7_read_56 rfl rfl
      have W := i_if_ne (t := 116) (q := 61) H I_X7_read_58 (by decide) rfl
      clear H
      rcases W with ⟨c_58, H⟩ | ⟨c_58, H⟩
      · skip
        exact absurd rfl c_58
      · skip
        replace H := i_al (q := 63) H I_X7_read_61 rfl rfl
        replace H := i_iln (q := 64) H I_X7_read_63 rfl rfl
        replace H := i_iln (q := 65) H I_X7_read_64 rfl rfl
        replace H := i_il (q := 67) H I_X7_read_65 rfl rfl
        replace H := i_iadd (q := 68) H I_X7_read_67 rfl
        have W := i_cv2 0 (q := 71) H I_X7_read_68 K_7_270 Zm_56 rfl rfl
        clear H
        obtain ⟨r1, h1, Hc, K1, K2⟩ := W
        obtain ⟨e1, e2⟩ := t_X5_faultAs hq Hc
        have H := K1 _ _ e1 e2
        clear e1 e2 Hc K1 K2
        replace H := i_is (q := 73) H I_X7_read_71 rfl rfl
        replace H := i_il (q := 75) H I_X7_read_73 rfl rfl
        have W := i_if_ne (t := 110) (q := 78) H I_X7_read_75 (by decide) rfl
        clear H
        rcases W with ⟨c_75, H⟩ | ⟨c_75, H⟩
        · skip
          replace H := i_inc (q := 113) H I_X7_read_110 rfl rfl rfl
          replace H := i_goto (q := 49) H I_X7_read_113 (by decide)
          rw [hF i] at c_75 H
          exact Or.inr ⟨FA i, i, by rw [gR1, if_neg c_75], rx_7 hq c_75 H⟩
        · skip
          replace H := i_aln (q := 79) H I_X7_read_78 rfl rfl
          replace H := i_gfr (q := 82) H I_X7_read_79 G_7_19 cn_X7_read LY_0 rfl rfl
          replace H := i_al (q := 84) H I_X7_read_82 rfl rfl
          replace H := i_gfr (q := 87) H I_X7_read_84 G_7_273 cn_X7_read (sh_0 hq) rfl rfl
          replace H := i_iln (q := 88) H I_X7_read_87 rfl rfl
          replace H := i_il (q := 90) H I_X7_read_88 rfl rfl
          replace H := i_iadd (q := 91) H I_X7_read_90 rfl
          have W := i_ia (q := 92) H I_X7_read_91 (sh_1 hq) rfl
          clear H
          obtain ⟨i_91, bi_91, ei_91, H⟩ := W
          have W := i_cv1 0 (q := 95) H I_X7_read_92 K_7_152 Zm_4 rfl rfl
          clear H
          obtain ⟨r1, h1, Hc, K1, K2⟩ := W
          obtain ⟨e1, e2⟩ := t_X0_hasAll lkk_11 Hc
          have H := K1 _ _ e1 e2
          clear e1 e2 Hc K1 K2
          have W := i_if_ne (t := 104) (q := 98) H I_X7_read_95 (by decide) rfl
          clear H
          rcases W with ⟨c_95, H⟩ | ⟨c_95, H⟩
          · skip
            replace H := i_il (q := 106) H I_X7_read_104 rfl rfl
            replace H := i_icst (x := 1) (q := 107) H I_X7_read_106 (by decide) rfl
            replace H := i_iadd (q := 108) H I_X7_read_107 rfl
            replace H := i_is (q := 110) H I_X7_read_108 rfl rfl
            replace H := i_inc (q := 113) H I_X7_read_110 rfl rfl rfl
            replace H := i_goto (q := 49) H I_X7_read_113 (by decide)
            rw [hF i] at c_75
            rw [hC i i_91 c_75 bi_91 ei_91, hc] at c_95
            have ho : gOk CL c i = true := decide_eq_true (zif1 c_95)
            rw [hF i, c_75] at H
            replace H : zE none d zm_X7_read 49 [.ref 0, .int x, .int l, .int f, .int (Int32.ofNat n), .ref (63 + 2 * q), .int 0, .int (Int32.ofNat (i + 1)), .int (Int32.ofNat (i + 1))] [] m r h' := by
              rw [← zofn_s]
              exact H
            rw [gR1, if_pos c_75, if_pos ho]
            exact ih (i + 1) d r h' (by omega) H
          · skip
            replace H := i_bip (x := (-20)) (q := 100) H I_X7_read_98 (by decide) rfl
            replace H := i_il (q := 102) H I_X7_read_100 rfl rfl
            replace H := i_isub (q := 103) H I_X7_read_102 rfl
            obtain ⟨hr, hh⟩ := i_ir H I_X7_read_103
            rw [hF i] at c_75
            rw [hC i i_91 c_75 bi_91 ei_91, hc] at c_95
            have ho : ¬ gOk CL c i = true := fun e => zif0 c_95 (of_decide_eq_true e)
            exact Or.inl ⟨_, by rw [gR1, if_pos c_75, if_neg ho], hr, hh⟩
theorem r2_7 {c n q s : Nat} {x l f a : Int32} {CL R : Nat → Int32} (hq : q < 4) (hs : s ≤ 20) (hC : ∀ i t, i < s → t < 40 → f + Int32.ofNat i = Int32.ofNat t → R t = CL i) : ∀ (j i : Nat) (g : Nat → Int32) (d : Nat) (r : Option Value) (h' : zHp) (m : zM), i + j = s → LV m 11 c g → gok g c → (∀ b, m (64 + 2 * q) b = R b) → zE none d zm_X7_read 119 [.ref 0, .int x, .int l, .int f, .int (Int32.ofNat n), .ref (63 + 2 * q), .int a, .int (Int32.ofNat s), .int (Int32.ofNat i)] [] m r h' → ∃ m1, r = some (.int (Int32.ofNat s)) ∧ h' = zhp m1 ∧ LV m1 11 c (gRt CL c j i g) ∧ m1 0 8 = a ∧ ∀ x y, ¬ (11 ≤ x ∧ x ≤ 18) → ¬ (x = 0 ∧ y = 8) → m1 x y = m x y := by
  intro j
  induction j with
  | zero =>
    intro i g d r h' m hj hL hg hK H
    replace H := i_il (q := 121) H I_X7_read_119 rfl rfl
    replace H := i_il (q := 123) H I_X7_read_121 rfl rfl
    have W := i_ic_ge (t := 150) (q := 126) H I_X7_read_123 (by decide) rfl
    clear H
    rcases W with ⟨c_123, H⟩ | ⟨c_123, H⟩
    · skip
      replace H := i_aln (q := 151) H I_X7_read_150 rfl rfl
      replace H := i_il (q := 153) H I_X7_read_151 rfl rfl
      replace H := i_pf (q := 156) H I_X7_read_153 G_7_276 cn_X7_read LY_0 rfl rfl
      replace H := i_il (q := 158) H I_X7_read_156 rfl rfl
      obtain ⟨hr, hh⟩ := i_ir H I_X7_read_158
      exact ⟨_, hr, hh, LV_f hL (fun a b h1 h2 => zup_n (by omega)), zup_s _ _ _ _, fun x y h1 h2 => zup_n (by omega)⟩
    · exfalso
      exact absurd ((zofn_lt (by omega) (by omega)).mp c_123) (by omega)
  | succ j ih =>
    intro i g d r h' m hj hL hg hK H
    replace H := i_il (q := 121) H I_X7_read_119 rfl rfl
    replace H := i_il (q := 123) H I_X7_read_121 rfl rfl
    have W := i_ic_ge (t := 150) (q := 126) H I_X7_read_123 (by decide) rfl
    clear H
    rcases W with ⟨c_123, H⟩ | ⟨c_123, H⟩
    · exfalso
      exact c_123 ((zofn_lt (by omega) (by omega)).mpr (by omega))
    · skip
      replace H := i_aln (q := 127) H I_X7_read_126 rfl rfl
      replace H := i_gfr (q := 130) H I_X7_read_127 G_7_19 cn_X7_read LY_0 rfl rfl
      replace H := i_al (q := 132) H I_X7_read_130 rfl rfl
      replace H := i_gfr (q := 135) H I_X7_read_132 G_7_273 cn_X7_read (sh_0 hq) rfl rfl
      replace H := i_iln (q := 136) H I_X7_read_135 rfl rfl
      replace H := i_il (q := 138) H I_X7_read_136 rfl rfl
      replace H := i_iadd (q := 139) H I_X7_read_138 rfl
      have W := i_ia (q := 140) H I_X7_read_139 (sh_1 hq) rfl
      clear H
      obtain ⟨i_139, bi_139, ei_139, H⟩ := W
      have W := i_cv1 1 (q := 143) H I_X7_read_140 K_7_155 Zm_16 rfl rfl
      clear H
      obtain ⟨r1, h1, Hc, K1, K2⟩ := W
      obtain ⟨M_140, e1, e2, F_140⟩ := t_X0_attempt lkk_11 hL hg Hc
      have H := K1 _ _ e1 e2
      clear e1 e2 Hc K1 K2
      replace H := i_pop (q := 144) H I_X7_read_143 rfl rfl
      replace H := i_inc (q := 147) H I_X7_read_144 rfl rfl rfl
      replace H := i_goto (q := 119) H I_X7_read_147 (by decide)
      obtain ⟨y1, y2⟩ := F_140
      rw [hK, hC i i_139 (by omega) bi_139 ei_139] at y1
      replace H : zE none d zm_X7_read 119 [.ref 0, .int x, .int l, .int f, .int (Int32.ofNat n), .ref (63 + 2 * q), .int a, .int (Int32.ofNat s), .int (Int32.ofNat (i + 1))] [] M_140 r h' := by
        rw [← zofn_s]
        exact H
      obtain ⟨m1, x1, x2, x3, x4, x5⟩ := ih (i + 1) _ d r h' M_140 (by omega) y1 (gok_t hg) (fun b => (y2 _ _ (by omega)).trans (hK b)) H
      exact ⟨m1, x1, x2, x3, x4, fun x y h1 h2 => (x5 x y h1 h2).trans (y2 x y (by omega))⟩
theorem gR1_0 {fa : Nat → Int32} {ok : Nat → Bool} : ∀ (j i : Nat) (a : Int32) (s : Nat), gR1 fa ok j i = .inr (a, s) → ∀ k, i ≤ k → k < s → fa k = 0
  | 0, i, a, s, h, k, h1, h2 => by
    rw [gR1] at h
    cases h
    omega
  | j + 1, i, a, s, h, k, h1, h2 => by
    rw [gR1] at h
    split at h
    · rename_i h0
      split at h
      · by_cases e : k = i
        · rw [e]; exact h0
        · exact gR1_0 j (i + 1) a s h k (by omega) h2
      · cases h
    · cases h
      omega
theorem t_X7_read {d : Nat} {m : zM} {r : Option Value} {h' : zHp} {x l f n : Int32} {c : Nat} {g : Nat → Int32} (hL : LV m 11 c g) (hg : gok g c) (H : zE none d zm_X7_read 0 [.ref 0, .int x, .int l, .int f, .int n, .null, .null, .null, .null] [] m r h') : ∃ m1 v, r = some (.int v) ∧ h' = zhp m1 ∧ ((¬ gRc x l n ∧ v = -1 ∧ m1 = m) ∨ (gRc x l n ∧ ∃ q k, q < 4 ∧ x = Int32.ofNat q ∧ k ≤ 20 ∧ n = Int32.ofNat k ∧ ∃ FA CL : Nat → Int32, (∀ i, zfs (m (63 + 2 * q) 1) (m (63 + 2 * q) 2) (m (63 + 2 * q) 3) l (f + Int32.ofNat i) = FA i) ∧ (∀ i t, t < 40 → f + Int32.ofNat i = Int32.ofNat t → m (64 + 2 * q) t = CL i) ∧ ((∃ w, gR1 FA (gOk CL c) k 0 = .inl w ∧ v = w ∧ m1 = m) ∨ (∃ a s, gR1 FA (gOk CL c) k 0 = .inr (a, s) ∧ v = Int32.ofNat s ∧ LV m1 11 c (gRt CL c s 0 g) ∧ m1 0 8 = a ∧ ∀ x y, ¬ (11 ≤ x ∧ x ≤ 18) → ¬ (x = 0 ∧ y = 8) → m1 x y = m x y)))) := by
  replace H := i_iln (q := 1) H I_X7_read_0 rfl rfl
  have W := i_if_lt (t := 30) (q := 4) H I_X7_read_1 (by decide) rfl
  clear H
  rcases W with ⟨c_1, H⟩ | ⟨c_1, H⟩
  · skip
    replace H := i_icst (x := (-1)) (q := 31) H I_X7_read_30 (by decide) rfl
    obtain ⟨hr, hh⟩ := i_ir H I_X7_read_31
    exact ⟨_, _, hr, hh, Or.inl ⟨fun q => q.1.1 c_1, rfl, rfl⟩⟩
  · skip
    replace H := i_iln (q := 5) H I_X7_read_4 rfl rfl
    replace H := i_icst (x := 4) (q := 6) H I_X7_read_5 (by decide) rfl
    have W := i_ic_ge (t := 30) (q := 9) H I_X7_read_6 (by decide) rfl
    clear H
    rcases W with ⟨c_6, H⟩ | ⟨c_6, H⟩
    · skip
      replace H := i_icst (x := (-1)) (q := 31) H I_X7_read_30 (by decide) rfl
      obtain ⟨hr, hh⟩ := i_ir H I_X7_read_31
      exact ⟨_, _, hr, hh, Or.inl ⟨fun q => c_6 q.1.2, rfl, rfl⟩⟩
    · skip
      replace H := i_iln (q := 10) H I_X7_read_9 rfl rfl
      have W := i_if_lt (t := 30) (q := 13) H I_X7_read_10 (by decide) rfl
      clear H
      rcases W with ⟨c_10, H⟩ | ⟨c_10, H⟩
      · skip
        replace H := i_icst (x := (-1)) (q := 31) H I_X7_read_30 (by decide) rfl
        obtain ⟨hr, hh⟩ := i_ir H I_X7_read_31
        exact ⟨_, _, hr, hh, Or.inl ⟨fun q => q.2.1.1 c_10, rfl, rfl⟩⟩
      · skip
        replace H := i_iln (q := 14) H I_X7_read_13 rfl rfl
        replace H := i_icst (x := 2) (q := 15) H I_X7_read_14 (by decide) rfl
        have W := i_ic_gt (t := 30) (q := 18) H I_X7_read_15 (by decide) rfl
        clear H
        rcases W with ⟨c_15, H⟩ | ⟨c_15, H⟩
        · skip
          replace H := i_icst (x := (-1)) (q := 31) H I_X7_read_30 (by decide) rfl
          obtain ⟨hr, hh⟩ := i_ir H I_X7_read_31
          exact ⟨_, _, hr, hh, Or.inl ⟨fun q => q.2.1.2 c_15, rfl, rfl⟩⟩
        · skip
          replace H := i_il (q := 20) H I_X7_read_18 rfl rfl
          have W := i_if_lt (t := 30) (q := 23) H I_X7_read_20 (by decide) rfl
          clear H
          rcases W with ⟨c_20, H⟩ | ⟨c_20, H⟩
          · skip
            replace H := i_icst (x := (-1)) (q := 31) H I_X7_read_30 (by decide) rfl
            obtain ⟨hr, hh⟩ := i_ir H I_X7_read_31
            exact ⟨_, _, hr, hh, Or.inl ⟨fun q => q.2.2.1 c_20, rfl, rfl⟩⟩
          · skip
            replace H := i_il (q := 25) H I_X7_read_23 rfl rfl
            replace H := i_bip (x := 20) (q := 27) H I_X7_read_25 (by decide) rfl
            have W := i_ic_le (t := 32) (q := 30) H I_X7_read_27 (by decide) rfl
            clear H
            rcases W with ⟨c_27, H⟩ | ⟨c_27, H⟩
            · skip
              replace H := i_aln (q := 33) H I_X7_read_32 rfl rfl
              replace H := i_gfr (q := 36) H I_X7_read_33 G_7_54 cn_X7_read LY_0 rfl rfl
              replace H := i_iln (q := 37) H I_X7_read_36 rfl rfl
              have W := i_sht (q := 38) H I_X7_read_37 rfl
              clear H
              obtain ⟨i_37, bi_37, ei_37, H⟩ := W
              replace H := i_as (q := 40) H I_X7_read_38 rfl rfl
              replace H := i_icst (x := 0) (q := 41) H I_X7_read_40 (by decide) rfl
              replace H := i_is (q := 43) H I_X7_read_41 rfl rfl
              replace H := i_icst (x := 0) (q := 44) H I_X7_read_43 (by decide) rfl
              replace H := i_is (q := 46) H I_X7_read_44 rfl rfl
              replace H := i_icst (x := 0) (q := 47) H I_X7_read_46 (by decide) rfl
              replace H := i_is (q := 49) H I_X7_read_47 rfl rfl
              have hok : gRc x l n := ⟨⟨c_1, c_6⟩, ⟨c_10, c_15⟩, c_20, c_27⟩
              obtain ⟨k, k1, rfl⟩ := zbt_20 (x := n) ⟨c_20, c_27⟩
              obtain ⟨FA, hF⟩ : ∃ FA : Nat → Int32, ∀ i, zfs (m (63 + 2 * i_37) 1) (m (63 + 2 * i_37) 2) (m (63 + 2 * i_37) 3) l (f + Int32.ofNat i) = FA i := ⟨_, fun _ => rfl⟩
              obtain ⟨CL, hC0⟩ : ∃ CL : Nat → Int32, ∀ i t, t < 40 → f + Int32.ofNat i = Int32.ofNat t → m (64 + 2 * i_37) t = CL i := ⟨fun i => m (64 + 2 * i_37) (f + Int32.ofNat i).toNatClampNeg, fun i t h1 h2 => by
                show _ = m (64 + 2 * i_37) (f + Int32.ofNat i).toNatClampNeg
                rw [h2, Int32.toNatClampNeg_ofNat_of_lt (by omega)]⟩
              rcases r1_7 (FA := FA) (CL := CL) bi_37 k1 hL.1 hF (fun i t _ h1 h2 => hC0 i t h1 h2) k 0 d r h' (by omega) H with ⟨v, v1, v2, v3⟩ | ⟨a, s, v1, H⟩
              · exact ⟨_, _, v2, v3, Or.inr ⟨hok, i_37, k, bi_37, ei_37, k1, rfl, FA, CL, hF, hC0, Or.inl ⟨v, v1, rfl, rfl⟩⟩⟩
              · have hs := gR1_s k 0 a s v1
                replace H := i_icst (x := 0) (q := 117) H I_X7_read_116 (by decide) rfl
                replace H := i_is (q := 119) H I_X7_read_117 rfl rfl
                skip
                obtain ⟨m1, x1, x2, x3, x4, x5⟩ := r2_7 (c := c) (CL := CL) (R := m (64 + 2 * i_37)) bi_37 (by omega) (fun i t _ h1 h2 => hC0 i t h1 h2) s 0 g d r h' m (by omega) hL hg (fun _ => rfl) H
                exact ⟨_, _, x1, x2, Or.inr ⟨hok, i_37, k, bi_37, ei_37, k1, rfl, FA, CL, hF, hC0, Or.inr ⟨a, s, v1, rfl, x3, x4, x5⟩⟩⟩
            · skip
              replace H := i_icst (x := (-1)) (q := 31) H I_X7_read_30 (by decide) rfl
              obtain ⟨hr, hh⟩ := i_ir H I_X7_read_31
              exact ⟨_, _, hr, hh, Or.inl ⟨fun q => q.2.2.2 c_27, rfl, rfl⟩⟩
def zfr (ln sz l x : Int32) : Int32 := if ln = -4 then 1 else if ¬ ln = l then 3 else if ¬ x < 0 ∧ x < sz then 0 else 2
theorem z_i64 {i : Nat} (hi : i ≤ 20) (f : Int32) : (f.toInt64 + (Int32.ofNat i).toInt64).toInt = f.toInt + i := by
  have h1 := Int32.le_toInt f
  have h2 := Int32.toInt_lt f
  rw [Int64.toInt_add, Int32.toInt_toInt64, Int32.toInt_toInt64, zofn_t (by omega)]
  apply Int.bmod_eq_of_le
  · omega
  · omega
theorem zin_fi {f y : Int32} {s i : Nat} (hy : y = Int32.ofNat s) (hs : s ≤ 40) (hi : i ≤ 20) {a : Int64} (ha : a.toInt = 0) : zin64 (f.toInt64 + (Int32.ofNat i).toInt64) a (y - 1).toInt64 = if ¬ f + Int32.ofNat i < 0 ∧ f + Int32.ofNat i < y then 1 else 0 := by
  have h1 := Int32.le_toInt f
  have h2 := Int32.toInt_lt f
  have e0 : (0 : Int32).toInt = 0 := rfl
  have e1 := z_i64 hi f
  have e2 : (y - 1).toInt64.toInt = (s : Int) - 1 := by rw [Int32.toInt_toInt64, hy, zofn_m1 (by omega)]
  have e3 : (f + Int32.ofNat i).toInt = f.toInt + i ∨ ((f + Int32.ofNat i).toInt < 0 ∧ 2147483648 ≤ f.toInt + i) := by
    rw [Int32.toInt_add, zofn_t (by omega)]
    by_cases h : f.toInt + i < 2147483648
    · exact Or.inl (Int.bmod_eq_of_le (by omega) (by omega))
    · refine Or.inr ⟨?_, by omega⟩
      rw [Int.bmod_def]
      split <;> omega
  have hys : y.toInt = s := by rw [hy, zofn_t (by omega)]
  unfold zin64
  by_cases hlt : f.toInt + i < 0
  · rw [if_pos (by rw [Int64.lt_iff_toInt_lt, e1, ha]; exact hlt), if_neg (fun w => w.1 (by rw [Int32.lt_iff_toInt_lt]; omega))]
  · rw [if_neg (by rw [Int64.lt_iff_toInt_lt, e1, ha]; exact hlt)]
    by_cases hgt : (s : Int) - 1 < f.toInt + i
    · rw [if_pos (by rw [Int64.lt_iff_toInt_lt, e1, e2]; exact hgt), if_neg (fun w => by
        have w1 := w.1
        have w2 := w.2
        rw [Int32.lt_iff_toInt_lt] at w1 w2
        omega)]
    · rw [if_neg (by rw [Int64.lt_iff_toInt_lt, e1, e2]; exact hgt), if_pos ⟨by rw [Int32.lt_iff_toInt_lt]; omega, by rw [Int32.lt_iff_toInt_lt]; omega⟩]
theorem ry_8 {d : Nat} {m : zM} {r : Option Value} {h' : zHp} {x l f a s y : Int32} {n : Nat} (ha : ¬ a = 0) (H : zE none d zm_X8_read 55 [.ref 71, .int x, .int l, .int f, .int (Int32.ofNat n), .int a, .int s, .int y] [] m r h') : r = some (.int s) ∧ h' = zhp (zup m 71 30 a) := by
  replace H := i_il (q := 57) H I_X8_read_55 rfl rfl
  replace H := i_il (q := 59) H I_X8_read_57 rfl rfl
  have W := i_ic_ge (t := 174) (q := 62) H I_X8_read_59 (by decide) rfl
  clear H
  rcases W with ⟨c_59, H⟩ | ⟨c_59, H⟩
  · skip
    replace H := i_aln (q := 175) H I_X8_read_174 rfl rfl
    replace H := i_il (q := 177) H I_X8_read_175 rfl rfl
    replace H := i_pf (q := 180) H I_X8_read_177 G_8_244 cn_X8_read LY_71 rfl rfl
    replace H := i_il (q := 182) H I_X8_read_180 rfl rfl
    obtain ⟨hr, hh⟩ := i_ir H I_X8_read_182
    exact ⟨hr, hh⟩
  · skip
    replace H := i_il (q := 64) H I_X8_read_62 rfl rfl
    have W := i_if_ne (t := 174) (q := 67) H I_X8_read_64 (by decide) rfl
    clear H
    rcases W with ⟨c_64, H⟩ | ⟨c_64, H⟩
    · skip
      replace H := i_aln (q := 175) H I_X8_read_174 rfl rfl
      replace H := i_il (q := 177) H I_X8_read_175 rfl rfl
      replace H := i_pf (q := 180) H I_X8_read_177 G_8_244 cn_X8_read LY_71 rfl rfl
      replace H := i_il (q := 182) H I_X8_read_180 rfl rfl
      obtain ⟨hr, hh⟩ := i_ir H I_X8_read_182
      exact ⟨hr, hh⟩
    · skip
      exact absurd c_64 ha
theorem zMk_f8 {m m1 : zM} (h : zMk m) (hf : ∀ b, m1 73 b = m 73 b) : zMk m1 := ⟨(hf 0).trans h.1, (hf 1).trans h.2.1, (hf 2).trans h.2.2.1, (hf 3).trans h.2.2.2⟩
theorem r8_8 {c n q : Nat} {l f : Int32} {FA CL g0 : Nat → Int32} (hq : q < 4) (hn : n ≤ 20) : ∀ (j i : Nat) (g : Nat → Int32) (d : Nat) (r : Option Value) (h' : zHp) (m : zM), i + j = n → PG m 0 g → PG m 81 g0 → gok g c → m 71 2 = Int32.ofNat c → zMk m → (∀ i, i ≤ 20 → zfr (m 83 q) (m 84 q) l (f + Int32.ofNat i) = FA i) → (∀ i t, FA i = 0 → t < 40 → f + Int32.ofNat i = Int32.ofNat t → m 85 (40 * q + t) = CL i) → (∃ s, s ≤ 40 ∧ m 84 q = Int32.ofNat s) → zE none d zm_X8_read 55 [.ref 71, .int (Int32.ofNat q), .int l, .int f, .int (Int32.ofNat n), .int 0, .int (Int32.ofNat i), .int (Int32.ofNat i)] [] m r h' → (∃ v, gR1 FA (gOk CL c) j i = .inl v ∧ r = some (.int v) ∧ ∃ m1, h' = zhp m1 ∧ PG m1 0 g0 ∧ ∀ x y, ¬ (x = 72 ∧ y < 27) → m1 x y = m x y) ∨ (∃ a s, gR1 FA (gOk CL c) j i = .inr (a, s) ∧ r = some (.int (Int32.ofNat s)) ∧ ∃ m1, h' = zhp m1 ∧ PG m1 0 (gRt CL c (s - i) i g) ∧ m1 71 30 = a ∧ ∀ x y, ¬ (x = 72 ∧ y < 27) → ¬ (x = 71 ∧ y = 30) → True → m1 x y = m x y) := by
  intro j
  induction j with
  | zero =>
    intro i g d r h' m hj hP hA hg hc hM hF hC hl H
    replace H := i_il (q := 57) H I_X8_read_55 rfl rfl
    replace H := i_il (q := 59) H I_X8_read_57 rfl rfl
    have W := i_ic_ge (t := 174) (q := 62) H I_X8_read_59 (by decide) rfl
    clear H
    rcases W with ⟨c_59, H⟩ | ⟨c_59, H⟩
    · skip
      replace H := i_aln (q := 175) H I_X8_read_174 rfl rfl
      replace H := i_il (q := 177) H I_X8_read_175 rfl rfl
      replace H := i_pf (q := 180) H I_X8_read_177 G_8_244 cn_X8_read LY_71 rfl rfl
      replace H := i_il (q := 182) H I_X8_read_180 rfl rfl
      obtain ⟨hr, hh⟩ := i_ir H I_X8_read_182
      exact Or.inr ⟨0, i, rfl, hr, _, hh, ⟨hP.1, fun q hq => (zup_n (by omega)).trans (by rw [Nat.sub_self]; exact hP.2 q hq)⟩, zup_s _ _ _ _, fun x y h1 h2 h3 => zup_n (by omega)⟩
    · exfalso
      exact absurd ((zofn_lt (by omega) (by omega)).mp c_59) (by omega)
  | succ j ih =>
    intro i g d r h' m hj hP hA hg hc hM hF hC hl H
    replace H := i_il (q := 57) H I_X8_read_55 rfl rfl
    replace H := i_il (q := 59) H I_X8_read_57 rfl rfl
    have W := i_ic_ge (t := 174) (q := 62) H I_X8_read_59 (by decide) rfl
    clear H
    rcases W with ⟨c_59, H⟩ | ⟨c_59, H⟩
    · exfalso
      exact c_59 ((zofn_lt (by omega) (by omega)).mpr (by omega))
    · skip
      replace H := i_il (q := 64) H I_X8_read_62 rfl rfl
      have W := i_if_ne (t := 174) (q := 67) H I_X8_read_64 (by decide) rfl
      clear H
      rcases W with ⟨c_64, H⟩ | ⟨c_64, H⟩
      · skip
        replace H := i_aln (q := 175) H I_X8_read_174 rfl rfl
        replace H := i_il (q := 177) H I_X8_read_175 rfl rfl
        replace H := i_pf (q := 180) H I_X8_read_177 G_8_244 cn_X8_read LY_71 rfl rfl
        replace H := i_il (q := 182) H I_X8_read_180 rfl rfl
        obtain ⟨hr, hh⟩ := i_ir H I_X8_read_182
        exact absurd rfl c_64
      · skip
        replace H := i_aln (q := 68) H I_X8_read_67 rfl rfl
        replace H := i_gfr (q := 71) H I_X8_read_68 G_8_44 cn_X8_read LY_71 rfl rfl
        replace H := i_iln (q := 72) H I_X8_read_71 rfl rfl
        have W := i_ia (q := 73) H I_X8_read_72 LY_83 rfl
        clear H
        obtain ⟨i_72, bi_72, ei_72, H⟩ := W
        replace H := i_bip (x := (-4)) (q := 75) H I_X8_read_73 (by decide) rfl
        have W := i_ic_ne (t := 82) (q := 78) H I_X8_read_75 (by decide) rfl
        clear H
        rcases W with ⟨c_75, H⟩ | ⟨c_75, H⟩
        · skip
          replace H := i_aln (q := 83) H I_X8_read_82 rfl rfl
          replace H := i_gfr (q := 86) H I_X8_read_83 G_8_44 cn_X8_read LY_71 rfl rfl
          replace H := i_iln (q := 87) H I_X8_read_86 rfl rfl
          have W := i_ia (q := 88) H I_X8_read_87 LY_83 rfl
          clear H
          obtain ⟨i_87, bi_87, ei_87, H⟩ := W
          replace H := i_iln (q := 89) H I_X8_read_88 rfl rfl
          have W := i_ic_eq (t := 96) (q := 92) H I_X8_read_89 (by decide) rfl
          clear H
          rcases W with ⟨c_89, H⟩ | ⟨c_89, H⟩
          · skip
            replace H := i_iln (q := 97) H I_X8_read_96 rfl rfl
            replace H := i_i2l (q := 98) H I_X8_read_97 rfl
            replace H := i_il (q := 100) H I_X8_read_98 rfl rfl
            replace H := i_i2l (q := 101) H I_X8_read_100 rfl
            replace H := i_ladd (q := 102) H I_X8_read_101 rfl
            replace H := i_lcst (x := 0) (q := 103) H I_X8_read_102 (by decide) rfl
            replace H := i_aln (q := 104) H I_X8_read_103 rfl rfl
            replace H := i_gfr (q := 107) H I_X8_read_104 G_8_47 cn_X8_read LY_71 rfl rfl
            replace H := i_iln (q := 108) H I_X8_read_107 rfl rfl
            have W := i_ia (q := 109) H I_X8_read_108 LY_84 rfl
            clear H
            obtain ⟨i_108, bi_108, ei_108, H⟩ := W
            replace H := i_icst (x := 1) (q := 110) H I_X8_read_109 (by decide) rfl
            replace H := i_isub (q := 111) H I_X8_read_110 rfl
            replace H := i_i2l (q := 112) H I_X8_read_111 rfl
            replace H := i_in (q := 115) H I_X8_read_112 K_8_55 rfl
            have W := i_if_ne (t := 122) (q := 118) H I_X8_read_115 (by decide) rfl
            clear H
            rcases W with ⟨c_115, H⟩ | ⟨c_115, H⟩
            · skip
              replace H := i_icst (x := 0) (q := 123) H I_X8_read_122 (by decide) rfl
              replace H := i_is (q := 125) H I_X8_read_123 rfl rfl
              replace H := i_il (q := 127) H I_X8_read_125 rfl rfl
              have W := i_if_ne (t := 168) (q := 130) H I_X8_read_127 (by decide) rfl
              clear H
              rcases W with ⟨c_127, H⟩ | ⟨c_127, H⟩
              · skip
                replace H := i_inc (q := 171) H I_X8_read_168 rfl rfl rfl
                replace H := i_goto (q := 55) H I_X8_read_171 (by decide)
                exact absurd rfl c_127
              · skip
                replace H := i_aln (q := 131) H I_X8_read_130 rfl rfl
                replace H := i_aln (q := 132) H I_X8_read_131 rfl rfl
                replace H := i_gfr (q := 135) H I_X8_read_132 G_8_50 cn_X8_read LY_71 rfl rfl
                replace H := i_bip (x := 40) (q := 137) H I_X8_read_135 (by decide) rfl
                replace H := i_iln (q := 138) H I_X8_read_137 rfl rfl
                replace H := i_imul (q := 139) H I_X8_read_138 rfl
                replace H := i_iln (q := 140) H I_X8_read_139 rfl rfl
                replace H := i_iadd (q := 141) H I_X8_read_140 rfl
                replace H := i_il (q := 143) H I_X8_read_141 rfl rfl
                replace H := i_iadd (q := 144) H I_X8_read_143 rfl
                have W := i_ia (q := 145) H I_X8_read_144 LY_85 rfl
                clear H
                obtain ⟨i_144, bi_144, ei_144, H⟩ := W
                have W := i_cv1 0 (q := 148) H I_X8_read_145 K_8_173 Zm_144 rfl rfl
                clear H
                obtain ⟨r1, h1, Hc, K1, K2⟩ := W
                obtain ⟨M_145, v_145, e1, e2, F_145⟩ := t_X8_turns hP hg hc hM Hc
                have H := K1 _ _ e1 e2
                clear e1 e2 Hc K1 K2
                replace H := i_icst (x := (-1)) (q := 149) H I_X8_read_148 (by decide) rfl
                have W := i_ic_ne (t := 165) (q := 152) H I_X8_read_149 (by decide) rfl
                clear H
                rcases W with ⟨c_149, H⟩ | ⟨c_149, H⟩
                · skip
                  replace H := i_inc (q := 168) H I_X8_read_165 rfl rfl rfl
                  replace H := i_inc (q := 171) H I_X8_read_168 rfl rfl rfl
                  replace H := i_goto (q := 55) H I_X8_read_171 (by decide)
                  have k72 : q = i_72 := zofn ei_72 (by omega) (by omega)
                  subst k72
                  have k87 : q = i_87 := zofn ei_87 (by omega) (by omega)
                  subst k87
                  have k108 : q = i_108 := zofn ei_108 (by omega) (by omega)
                  subst k108
                  obtain ⟨sz, sz1, sz2⟩ := hl
                  rw [zin_fi sz2 sz1 (by omega) rfl] at c_115
                  have hb := zif1 c_115
                  have hf : FA i = 0 := by
                    rw [← hF i (by omega), zfr, if_neg c_75, if_neg (fun w => w c_89), if_pos hb]
                  obtain ⟨t, t1, t2⟩ := zlt_n sz2 (by omega) hb
                  have k144 : i_144 = 40 * q + t := (zofn (by rw [Int32.ofNat_add, Int32.ofNat_mul, ← t2, ← Int32.add_assoc]; exact ei_144) (by omega) (by omega)).symm
                  subst k144
                  rw [hC i t hf (by omega) t2] at F_145
                  rcases F_145 with ⟨_, o2, _⟩ | ⟨o1, _, y1, y2⟩
                  · exact absurd o2 c_149
                  · have ho : gOk CL c i = true := decide_eq_true o1
                    replace H : zE none d zm_X8_read 55 [.ref 71, .int (Int32.ofNat q), .int l, .int f, .int (Int32.ofNat n), .int 0, .int (Int32.ofNat (i + 1)), .int (Int32.ofNat (i + 1))] [] M_145 r h' := by
                      rw [← zofn_s]
                      exact H
                    rw [gR1, if_pos hf, if_pos ho]
                    rcases ih (i + 1) _ d r h' M_145 (by omega) y1 ⟨hA.1, fun j hj => (y2 _ _ (by omega)).trans (hA.2 j hj)⟩ (gok_t hg) ((y2 71 2 (by omega)).trans hc) (zMk_f8 hM (fun b => y2 73 b (by omega))) (fun i hi => by rw [y2 83 q (by omega), y2 84 q (by omega)]; exact hF i hi) (fun i t h1 h2 h3 => by rw [y2 85 _ (by omega)]; exact hC i t h1 h2 h3) ⟨sz, sz1, (y2 84 q (by omega)).trans sz2⟩ H with ⟨v, v1, v2, m1, v3, v4, v5⟩ | ⟨a, s, v1, v2, m1, v3, v4, v5, v6⟩
                    · exact Or.inl ⟨v, v1, v2, m1, v3, v4, fun x y h1 => (v5 x y h1).trans (y2 x y (by omega))⟩
                    · have hs := gR1_s j (i + 1) a s v1
                      refine Or.inr ⟨a, s, v1, v2, m1, v3, ?_, v5, fun x y h1 h2 h3 => (v6 x y h1 h2 h3).trans (y2 x y (by omega))⟩
                      rw [show s - i = (s - (i + 1)) + 1 by omega, gRt]
                      exact v4
                · skip
                  replace H := i_aln (q := 153) H I_X8_read_152 rfl rfl
                  replace H := i_bip (x := 81) (q := 155) H I_X8_read_153 (by decide) rfl
                  replace H := i_icst (x := 0) (q := 156) H I_X8_read_155 (by decide) rfl
                  have W := i_cv2 1 (q := 159) H I_X8_read_156 K_8_188 Zm_147 rfl rfl
                  clear H
                  obtain ⟨r1, h1, Hc, K1, K2⟩ := W
                  obtain ⟨M_156, e1, e2, F_156⟩ := t_X8_copies (f := 81) (t := 0) rfl rfl (by omega) (by omega) (by omega) Hc
                  have H := K2 _ e1 e2
                  clear e1 e2 Hc K1 K2
                  replace H := i_bip (x := (-20)) (q := 161) H I_X8_read_159 (by decide) rfl
                  replace H := i_il (q := 163) H I_X8_read_161 rfl rfl
                  replace H := i_isub (q := 164) H I_X8_read_163 rfl
                  obtain ⟨hr, hh⟩ := i_ir H I_X8_read_164
                  have k72 : q = i_72 := zofn ei_72 (by omega) (by omega)
                  subst k72
                  have k87 : q = i_87 := zofn ei_87 (by omega) (by omega)
                  subst k87
                  have k108 : q = i_108 := zofn ei_108 (by omega) (by omega)
                  subst k108
                  obtain ⟨sz, sz1, sz2⟩ := hl
                  rw [zin_fi sz2 sz1 (by omega) rfl] at c_115
                  have hb := zif1 c_115
                  have hf : FA i = 0 := by
                    rw [← hF i (by omega), zfr, if_neg c_75, if_neg (fun w => w c_89), if_pos hb]
                  obtain ⟨t, t1, t2⟩ := zlt_n sz2 (by omega) hb
                  have k144 : i_144 = 40 * q + t := (zofn (by rw [Int32.ofNat_add, Int32.ofNat_mul, ← t2, ← Int32.add_assoc]; exact ei_144) (by omega) (by omega)).symm
                  subst k144
                  rw [hC i t hf (by omega) t2] at F_145
                  rcases F_145 with ⟨o1, _, rfl⟩ | ⟨o1, o2, _⟩
                  · have ho : ¬ gOk CL c i = true := fun e => o1 (of_decide_eq_true e)
                    exact Or.inl ⟨_, by rw [gR1, if_pos hf, if_neg ho], hr, _, hh, ⟨by omega, fun q hq => (F_156.1 q hq).trans (hA.2 q hq)⟩, fun x y h1 => F_156.2 x y (by omega)⟩
                  · exact absurd (o2.symm.trans c_149) (gTry1_n hg.1)
            · skip
              replace H := i_icst (x := 2) (q := 119) H I_X8_read_118 (by decide) rfl
              replace H := i_goto (q := 123) H I_X8_read_119 (by decide)
              replace H := i_is (q := 125) H I_X8_read_123 rfl rfl
              replace H := i_il (q := 127) H I_X8_read_125 rfl rfl
              have W := i_if_ne (t := 168) (q := 130) H I_X8_read_127 (by decide) rfl
              clear H
              rcases W with ⟨c_127, H⟩ | ⟨c_127, H⟩
              · skip
                replace H := i_inc (q := 171) H I_X8_read_168 rfl rfl rfl
                replace H := i_goto (q := 55) H I_X8_read_171 (by decide)
                have k72 : q = i_72 := zofn ei_72 (by omega) (by omega)
                subst k72
                have k87 : q = i_87 := zofn ei_87 (by omega) (by omega)
                subst k87
                have k108 : q = i_108 := zofn ei_108 (by omega) (by omega)
                subst k108
                obtain ⟨sz, sz1, sz2⟩ := hl
                rw [zin_fi sz2 sz1 (by omega) rfl] at c_115
                have hf : FA i = 2 := by
                  rw [← hF i (by omega), zfr, if_neg c_75, if_neg (fun w => w c_89), if_neg (zif0 c_115)]
                obtain ⟨y1, y2⟩ := ry_8 (by decide) H
                exact Or.inr ⟨FA i, i, by rw [gR1, if_neg (by rw [hf]; decide)], y1, _, y2, ⟨hP.1, fun q hq => (zup_n (by omega)).trans (by rw [Nat.sub_self]; exact hP.2 q hq)⟩, by rw [zup_s, hf], fun x y h1 h2 h3 => zup_n (by omega)⟩
              · skip
                replace H := i_aln (q := 131) H I_X8_read_130 rfl rfl
                replace H := i_aln (q := 132) H I_X8_read_131 rfl rfl
                replace H := i_gfr (q := 135) H I_X8_read_132 G_8_50 cn_X8_read LY_71 rfl rfl
                replace H := i_bip (x := 40) (q := 137) H I_X8_read_135 (by decide) rfl
                replace H := i_iln (q := 138) H I_X8_read_137 rfl rfl
                replace H := i_imul (q := 139) H I_X8_read_138 rfl
                replace H := i_iln (q := 140) H I_X8_read_139 rfl rfl
                replace H := i_iadd (q := 141) H I_X8_read_140 rfl
                replace H := i_il (q := 143) H I_X8_read_141 rfl rfl
                replace H := i_iadd (q := 144) H I_X8_read_143 rfl
                have W := i_ia (q := 145) H I_X8_read_144 LY_85 rfl
                clear H
                obtain ⟨i_144, bi_144, ei_144, H⟩ := W
                have W := i_cv1 0 (q := 148) H I_X8_read_145 K_8_173 Zm_144 rfl rfl
                clear H
                obtain ⟨r1, h1, Hc, K1, K2⟩ := W
                obtain ⟨M_145, v_145, e1, e2, F_145⟩ := t_X8_turns hP hg hc hM Hc
                have H := K1 _ _ e1 e2
                clear e1 e2 Hc K1 K2
                replace H := i_icst (x := (-1)) (q := 149) H I_X8_read_148 (by decide) rfl
                have W := i_ic_ne (t := 165) (q := 152) H I_X8_read_149 (by decide) rfl
                clear H
                rcases W with ⟨c_149, H⟩ | ⟨c_149, H⟩
                · skip
                  replace H := i_inc (q := 168) H I_X8_read_165 rfl rfl rfl
                  replace H := i_inc (q := 171) H I_X8_read_168 rfl rfl rfl
                  replace H := i_goto (q := 55) H I_X8_read_171 (by decide)
                  exact absurd c_127 (by decide)
                · skip
                  replace H := i_aln (q := 153) H I_X8_read_152 rfl rfl
                  replace H := i_bip (x := 81) (q := 155) H I_X8_read_153 (by decide) rfl
                  replace H := i_icst (x := 0) (q := 156) H I_X8_read_155 (by decide) rfl
                  have W := i_cv2 1 (q := 159) H I_X8_read_156 K_8_188 Zm_147 rfl rfl
                  clear H
                  obtain ⟨r1, h1, Hc, K1, K2⟩ := W
                  obtain ⟨M_156, e1, e2, F_156⟩ := t_X8_copies (f := 81) (t := 0) rfl rfl (by omega) (by omega) (by omega) Hc
                  have H := K2 _ e1 e2
                  clear e1 e2 Hc K1 K2
                  replace H := i_bip (x := (-20)) (q := 161) H I_X8_read_159 (by decide) rfl
                  replace H := i_il (q := 163) H I_X8_read_161 rfl rfl
                  replace H := i_isub (q := 164) H I_X8_read_163 rfl
                  obtain ⟨hr, hh⟩ := i_ir H I_X8_read_164
                  exact absurd c_127 (by decide)
          · skip
            replace H := i_icst (x := 3) (q := 93) H I_X8_read_92 (by decide) rfl
            replace H := i_goto (q := 123) H I_X8_read_93 (by decide)
            replace H := i_is (q := 125) H I_X8_read_123 rfl rfl
            replace H := i_il (q := 127) H I_X8_read_125 rfl rfl
            have W := i_if_ne (t := 168) (q := 130) H I_X8_read_127 (by decide) rfl
            clear H
            rcases W with ⟨c_127, H⟩ | ⟨c_127, H⟩
            · skip
              replace H := i_inc (q := 171) H I_X8_read_168 rfl rfl rfl
              replace H := i_goto (q := 55) H I_X8_read_171 (by decide)
              have k72 : q = i_72 := zofn ei_72 (by omega) (by omega)
              subst k72
              have k87 : q = i_87 := zofn ei_87 (by omega) (by omega)
              subst k87
              have hf : FA i = 3 := by
                rw [← hF i (by omega), zfr, if_neg c_75, if_pos c_89]
              obtain ⟨y1, y2⟩ := ry_8 (by decide) H
              exact Or.inr ⟨FA i, i, by rw [gR1, if_neg (by rw [hf]; decide)], y1, _, y2, ⟨hP.1, fun q hq => (zup_n (by omega)).trans (by rw [Nat.sub_self]; exact hP.2 q hq)⟩, by rw [zup_s, hf], fun x y h1 h2 h3 => zup_n (by omega)⟩
            · skip
              replace H := i_aln (q := 131) H I_X8_read_130 rfl rfl
              replace H := i_aln (q := 132) H I_X8_read_131 rfl rfl
              replace H := i_gfr (q := 135) H I_X8_read_132 G_8_50 cn_X8_read LY_71 rfl rfl
              replace H := i_bip (x := 40) (q := 137) H I_X8_read_135 (by decide) rfl
              replace H := i_iln (q := 138) H I_X8_read_137 rfl rfl
              replace H := i_imul (q := 139) H I_X8_read_138 rfl
              replace H := i_iln (q := 140) H I_X8_read_139 rfl rfl
              replace H := i_iadd (q := 141) H I_X8_read_140 rfl
              replace H := i_il (q := 143) H I_X8_read_141 rfl rfl
              replace H := i_iadd (q := 144) H I_X8_read_143 rfl
              have W := i_ia (q := 145) H I_X8_read_144 LY_85 rfl
              clear H
              obtain ⟨i_144, bi_144, ei_144, H⟩ := W
              have W := i_cv1 0 (q := 148) H I_X8_read_145 K_8_173 Zm_144 rfl rfl
              clear H
              obtain ⟨r1, h1, Hc, K1, K2⟩ := W
              obtain ⟨M_145, v_145, e1, e2, F_145⟩ := t_X8_turns hP hg hc hM Hc
              have H := K1 _ _ e1 e2
              clear e1 e2 Hc K1 K2
              replace H := i_icst (x := (-1)) (q := 149) H I_X8_read_148 (by decide) rfl
              have W := i_ic_ne (t := 165) (q := 152) H I_X8_read_149 (by decide) rfl
              clear H
              rcases W with ⟨c_149, H⟩ | ⟨c_149, H⟩
              · skip
                replace H := i_inc (q := 168) H I_X8_read_165 rfl rfl rfl
                replace H := i_inc (q := 171) H I_X8_read_168 rfl rfl rfl
                replace H := i_goto (q := 55) H I_X8_read_171 (by decide)
                exact absurd c_127 (by decide)
              · skip
                replace H := i_aln (q := 153) H I_X8_read_152 rfl rfl
                replace H := i_bip (x := 81) (q := 155) H I_X8_read_153 (by decide) rfl
                replace H := i_icst (x := 0) (q := 156) H I_X8_read_155 (by decide) rfl
                have W := i_cv2 1 (q := 159) H I_X8_read_156 K_8_188 Zm_147 rfl rfl
                clear H
                obtain ⟨r1, h1, Hc, K1, K2⟩ := W
                obtain ⟨M_156, e1, e2, F_156⟩ := t_X8_copies (f := 81) (t := 0) rfl rfl (by omega) (by omega) (by omega) Hc
                have H := K2 _ e1 e2
                clear e1 e2 Hc K1 K2
                replace H := i_bip (x := (-20)) (q := 161) H I_X8_read_159 (by decide) rfl
                replace H := i_il (q := 163) H I_X8_read_161 rfl rfl
                replace H := i_isub (q := 164) H I_X8_read_163 rfl
                obtain ⟨hr, hh⟩ := i_ir H I_X8_read_164
                exact absurd c_127 (by decide)
        · skip
          replace H := i_icst (x := 1) (q := 79) H I_X8_read_78 (by decide) rfl
          replace H := i_goto (q := 123) H I_X8_read_79 (by decide)
          replace H := i_is (q := 125) H I_X8_read_123 rfl rfl
          replace H := i_il (q := 127) H I_X8_read_125 rfl rfl
          have W := i_if_ne (t := 168) (q := 130) H I_X8_read_127 (by decide) rfl
          clear H
          rcases W with ⟨c_127, H⟩ | ⟨c_127, H⟩
          · skip
            replace H := i_inc (q := 171) H I_X8_read_168 rfl rfl rfl
            replace H := i_goto (q := 55) H I_X8_read_171 (by decide)
            have k72 : q = i_72 := zofn ei_72 (by omega) (by omega)
            subst k72
            have hf : FA i = 1 := by
              rw [← hF i (by omega), zfr, if_pos c_75]
            obtain ⟨y1, y2⟩ := ry_8 (by decide) H
            exact Or.inr ⟨FA i, i, by rw [gR1, if_neg (by rw [hf]; decide)], y1, _, y2, ⟨hP.1, fun q hq => (zup_n (by omega)).trans (by rw [Nat.sub_self]; exact hP.2 q hq)⟩, by rw [zup_s, hf], fun x y h1 h2 h3 => zup_n (by omega)⟩
          · skip
            replace H := i_aln (q := 131) H I_X8_read_130 rfl rfl
            replace H := i_aln (q := 132) H I_X8_read_131 rfl rfl
            replace H := i_gfr (q := 135) H I_X8_read_132 G_8_50 cn_X8_read LY_71 rfl rfl
            replace H := i_bip (x := 40) (q := 137) H I_X8_read_135 (by decide) rfl
            replace H := i_iln (q := 138) H I_X8_read_137 rfl rfl
            replace H := i_imul (q := 139) H I_X8_read_138 rfl
            replace H := i_iln (q := 140) H I_X8_read_139 rfl rfl
            replace H := i_iadd (q := 141) H I_X8_read_140 rfl
            replace H := i_il (q := 143) H I_X8_read_141 rfl rfl
            replace H := i_iadd (q := 144) H I_X8_read_143 rfl
            have W := i_ia (q := 145) H I_X8_read_144 LY_85 rfl
            clear H
            obtain ⟨i_144, bi_144, ei_144, H⟩ := W
            have W := i_cv1 0 (q := 148) H I_X8_read_145 K_8_173 Zm_144 rfl rfl
            clear H
            obtain ⟨r1, h1, Hc, K1, K2⟩ := W
            obtain ⟨M_145, v_145, e1, e2, F_145⟩ := t_X8_turns hP hg hc hM Hc
            have H := K1 _ _ e1 e2
            clear e1 e2 Hc K1 K2
            replace H := i_icst (x := (-1)) (q := 149) H I_X8_read_148 (by decide) rfl
            have W := i_ic_ne (t := 165) (q := 152) H I_X8_read_149 (by decide) rfl
            clear H
            rcases W with ⟨c_149, H⟩ | ⟨c_149, H⟩
            · skip
              replace H := i_inc (q := 168) H I_X8_read_165 rfl rfl rfl
              replace H := i_inc (q := 171) H I_X8_read_168 rfl rfl rfl
              replace H := i_goto (q := 55) H I_X8_read_171 (by decide)
              exact absurd c_127 (by decide)
            · skip
              replace H := i_aln (q := 153) H I_X8_read_152 rfl rfl
              replace H := i_bip (x := 81) (q := 155) H I_X8_read_153 (by decide) rfl
              replace H := i_icst (x := 0) (q := 156) H I_X8_read_155 (by decide) rfl
              have W := i_cv2 1 (q := 159) H I_X8_read_156 K_8_188 Zm_147 rfl rfl
              clear H
              obtain ⟨r1, h1, Hc, K1, K2⟩ := W
              obtain ⟨M_156, e1, e2, F_156⟩ := t_X8_copies (f := 81) (t := 0) rfl rfl (by omega) (by omega) (by omega) Hc
              have H := K2 _ e1 e2
              clear e1 e2 Hc K1 K2
              replace H := i_bip (x := (-20)) (q := 161) H I_X8_read_159 (by decide) rfl
              replace H := i_il (q := 163) H I_X8_read_161 rfl rfl
              replace H := i_isub (q := 164) H I_X8_read_163 rfl
              obtain ⟨hr, hh⟩ := i_ir H I_X8_read_164
              exact absurd c_127 (by decide)
theorem t_X8_read {d : Nat} {m : zM} {r : Option Value} {h' : zHp} {x l f n : Int32} {c : Nat} {g FA CL : Nat → Int32} (hP : PG m 0 g) (hg : gok g c) (hc : m 71 2 = Int32.ofNat c) (hM : zMk m) (hl : ∀ k, k < 4 → ∃ s, s ≤ 40 ∧ m 84 k = Int32.ofNat s) (hX : ∀ q k, q < 4 → k ≤ 20 → x = Int32.ofNat q → n = Int32.ofNat k → (∀ i, i ≤ 20 → zfr (m 83 q) (m 84 q) l (f + Int32.ofNat i) = FA i) ∧ (∀ i t, FA i = 0 → t < 40 → f + Int32.ofNat i = Int32.ofNat t → m 85 (40 * q + t) = CL i)) (H : zE none d zm_X8_read 0 [.ref 71, .int x, .int l, .int f, .int n, .null, .null, .null] [] m r h') : ∃ m1 v, r = some (.int v) ∧ h' = zhp m1 ∧ ((¬ gRc x l n ∧ v = -1 ∧ m1 = m) ∨ (gRc x l n ∧ ∃ q k, q < 4 ∧ x = Int32.ofNat q ∧ k ≤ 20 ∧ n = Int32.ofNat k ∧ ((∃ w, gR1 FA (gOk CL c) k 0 = .inl w ∧ v = w ∧ PG m1 0 g ∧ ∀ x y, ¬ (x = 72 ∧ y < 27) → ¬ (x = 72 ∧ 81 ≤ y ∧ y < 108) → m1 x y = m x y) ∨ (∃ a s, gR1 FA (gOk CL c) k 0 = .inr (a, s) ∧ v = Int32.ofNat s ∧ PG m1 0 (gRt CL c (s - 0) 0 g) ∧ m1 71 30 = a ∧ ∀ x y, ¬ (x = 72 ∧ y < 27) → ¬ (x = 71 ∧ y = 30) → ¬ (x = 72 ∧ 81 ≤ y ∧ y < 108) → m1 x y = m x y)))) := by
  replace H := i_iln (q := 1) H I_X8_read_0 rfl rfl
  replace H := i_i2l (q := 2) H I_X8_read_1 rfl
  replace H := i_lcst (x := 0) (q := 3) H I_X8_read_2 (by decide) rfl
  replace H := i_ldc2 (x := 3) (q := 6) H I_X8_read_3 J_8_155 (by decide) rfl
  replace H := i_in (q := 9) H I_X8_read_6 K_8_55 rfl
  have W := i_if_eq (t := 37) (q := 12) H I_X8_read_9 (by decide) rfl
  clear H
  rcases W with ⟨c_9, H⟩ | ⟨c_9, H⟩
  · skip
    replace H := i_icst (x := (-1)) (q := 38) H I_X8_read_37 (by decide) rfl
    obtain ⟨hr, hh⟩ := i_ir H I_X8_read_38
    rw [zin_03 rfl rfl] at c_9
    exact ⟨_, _, hr, hh, Or.inl ⟨fun q => zif0 c_9 q.1, rfl, rfl⟩⟩
  · skip
    replace H := i_iln (q := 13) H I_X8_read_12 rfl rfl
    replace H := i_i2l (q := 14) H I_X8_read_13 rfl
    replace H := i_lcst (x := 0) (q := 15) H I_X8_read_14 (by decide) rfl
    replace H := i_ldc2 (x := 2) (q := 18) H I_X8_read_15 J_8_157 (by decide) rfl
    replace H := i_in (q := 21) H I_X8_read_18 K_8_55 rfl
    have W := i_if_eq (t := 37) (q := 24) H I_X8_read_21 (by decide) rfl
    clear H
    rcases W with ⟨c_21, H⟩ | ⟨c_21, H⟩
    · skip
      replace H := i_icst (x := (-1)) (q := 38) H I_X8_read_37 (by decide) rfl
      obtain ⟨hr, hh⟩ := i_ir H I_X8_read_38
      rw [zin_bt (lo := 0) (hi := 2) rfl rfl] at c_21
      exact ⟨_, _, hr, hh, Or.inl ⟨fun q => zif0 c_21 q.2.1, rfl, rfl⟩⟩
    · skip
      replace H := i_il (q := 26) H I_X8_read_24 rfl rfl
      replace H := i_i2l (q := 27) H I_X8_read_26 rfl
      replace H := i_lcst (x := 0) (q := 28) H I_X8_read_27 (by decide) rfl
      replace H := i_ldc2 (x := 20) (q := 31) H I_X8_read_28 J_8_242 (by decide) rfl
      replace H := i_in (q := 34) H I_X8_read_31 K_8_55 rfl
      have W := i_if_ne (t := 39) (q := 37) H I_X8_read_34 (by decide) rfl
      clear H
      rcases W with ⟨c_34, H⟩ | ⟨c_34, H⟩
      · skip
        replace H := i_aln (q := 40) H I_X8_read_39 rfl rfl
        replace H := i_icst (x := 0) (q := 41) H I_X8_read_40 (by decide) rfl
        replace H := i_bip (x := 81) (q := 43) H I_X8_read_41 (by decide) rfl
        have W := i_cv2 1 (q := 46) H I_X8_read_43 K_8_188 Zm_147 rfl rfl
        clear H
        obtain ⟨r1, h1, Hc, K1, K2⟩ := W
        obtain ⟨M_43, e1, e2, F_43⟩ := t_X8_copies (f := 0) (t := 81) rfl rfl (by omega) (by omega) (by omega) Hc
        have H := K2 _ e1 e2
        clear e1 e2 Hc K1 K2
        replace H := i_icst (x := 0) (q := 47) H I_X8_read_46 (by decide) rfl
        replace H := i_is (q := 49) H I_X8_read_47 rfl rfl
        replace H := i_icst (x := 0) (q := 50) H I_X8_read_49 (by decide) rfl
        replace H := i_is (q := 52) H I_X8_read_50 rfl rfl
        replace H := i_icst (x := 0) (q := 53) H I_X8_read_52 (by decide) rfl
        replace H := i_is (q := 55) H I_X8_read_53 rfl rfl
        rw [zin_03 rfl rfl] at c_9
        rw [zin_bt (lo := 0) (hi := 2) rfl rfl] at c_21
        rw [zin_bt (lo := 0) (hi := 20) rfl rfl] at c_34
        have hok : gRc x l n := ⟨zif1 c_9, zif1 c_21, zif1 c_34⟩
        obtain ⟨q, q1, rfl⟩ := zS4_n hok.1
        obtain ⟨k, k1, rfl⟩ := zbt_20 hok.2.2
        obtain ⟨hF, hC⟩ := hX q k q1 k1 rfl rfl
        have E : ∀ a b, ¬ (a = 72 ∧ 81 ≤ b ∧ b < 108) → M_43 a b = m a b := fun a b h => F_43.2 a b (by omega)
        rcases r8_8 (c := c) (FA := FA) (CL := CL) (g0 := g) q1 k1 k 0 g d r h' M_43 (by omega) ⟨hP.1, fun j hj => (E _ _ (by omega)).trans (hP.2 j hj)⟩ ⟨by omega, fun j hj => (F_43.1 j hj).trans (hP.2 j hj)⟩ hg ((E 71 2 (by omega)).trans hc) (zMk_f8 hM (fun b => E 73 b (by omega))) (fun i hi => by rw [E 83 q (by omega), E 84 q (by omega)]; exact hF i hi) (fun i t h1 h2 h3 => by rw [E 85 _ (by omega)]; exact hC i t h1 h2 h3) (by rw [E 84 q (by omega)]; exact hl q q1) H with ⟨v, v1, v2, m1, v3, v4, v5⟩ | ⟨a, s, v1, v2, m1, v3, v4, v5, v6⟩
        · exact ⟨m1, v, v2, v3, Or.inr ⟨hok, q, k, q1, rfl, k1, rfl, Or.inl ⟨v, v1, rfl, v4, fun x y h1 h2 => (v5 x y h1).trans (E x y h2)⟩⟩⟩
        · exact ⟨m1, _, v2, v3, Or.inr ⟨hok, q, k, q1, rfl, k1, rfl, Or.inr ⟨a, s, v1, rfl, v4, v5, fun x y h1 h2 h3 => (v6 x y h1 h2 True.intro).trans (E x y h3)⟩⟩⟩
      · skip
        replace H := i_icst (x := (-1)) (q := 38) H I_X8_read_37 (by decide) rfl
        obtain ⟨hr, hh⟩ := i_ir H I_X8_read_38
        rw [zin_bt (lo := 0) (hi := 20) rfl rfl] at c_34
        exact ⟨_, _, hr, hh, Or.inl ⟨fun q => zif0 c_34 q.2.2, rfl, rfl⟩⟩
theorem pf_read {m : zM} {r : Option Value} {h' : zHp} {x0 x1 x2 x3 : Int32} (ht : zTy m) (hR : RF m) (H : zEv none 19 zm_X7_read (0, lv_args 0 [.ref 0, .int x0, .int x1, .int x2, .int x3], [], zhp m) r h') : ∃ m1 v, r = some (.int v) ∧ h' = zhp m1 ∧ zTy m1 ∧ ∀ r2 h2, zEv none 19 zm_X8_read (0, lv_args 0 [.ref 71, .int x0, .int x1, .int x2, .int x3], [], zhp m1) r2 h2 → ∃ m2 v2, r2 = some (.int v2) ∧ h2 = zhp m2 ∧ zTy m2 ∧ RF m2 ∧ v = v2 := by
  have hR0 := hR
  obtain ⟨hR1, hS⟩ := hR
  have hR2 := hR1
  obtain ⟨⟨n, h1⟩, hM, ⟨s0, s1, s2, s3⟩, h5, c, c1, ⟨hL, hb⟩, h6⟩ := hR1
  have hg := gok_11 ht hL
  obtain ⟨m1, v, b1, b2, b3⟩ := t_X7_read hL hg (zE_of 4 rfl H)
  obtain ⟨q1, q2, q3, q4, q5, q6⟩ := e_X7_read ht H
  obtain ⟨t1, f1⟩ := eng_m b2 q4 q5 q6
  refine ⟨m1, v, b1, b2, t1, fun r2 h2 H2 => ?_⟩
  have hP1 : PG m1 0 (pgf m 0) := ⟨by omega, fun j hj => f1 72 (0 + j) (zpl_r LY_72 (by omega)) (ymd_c (by decide +kernel) _)⟩
  have hM1 : zMk m1 := ⟨(f1 73 0 ⟨_, LY_73, rfl⟩ (by decide +kernel)).trans hM.1, (f1 73 1 ⟨_, LY_73, rfl⟩ (by decide +kernel)).trans hM.2.1, (f1 73 2 ⟨_, LY_73, rfl⟩ (by decide +kernel)).trans hM.2.2.1, (f1 73 3 ⟨_, LY_73, rfl⟩ (by decide +kernel)).trans hM.2.2.2⟩
  have hc1 : m1 71 2 = Int32.ofNat c := (f1 71 2 ⟨_, LY_71, rfl⟩ (by decide +kernel)).trans c1
  have g83 : ∀ k, k < 4 → m1 83 k = m 83 k := fun k hk => f1 83 k (zpl_r LY_83 hk) (ymd_c (by decide +kernel) _)
  have g84 : ∀ k, k < 4 → m1 84 k = m 84 k := fun k hk => f1 84 k (zpl_r LY_84 hk) (ymd_c (by decide +kernel) _)
  have g85 : ∀ k, k < 160 → m1 85 k = m 85 k := fun k hk => f1 85 k (zpl_r LY_85 hk) (ymd_c (by decide +kernel) _)
  have key : ∀ q, q < 4 → ∀ FA CL : Nat → Int32, (∀ i, zfs (m (63 + 2 * q) 1) (m (63 + 2 * q) 2) (m (63 + 2 * q) 3) x1 (x2 + Int32.ofNat i) = FA i) → (∀ i t, t < 40 → x2 + Int32.ofNat i = Int32.ofNat t → m (64 + 2 * q) t = CL i) → (∀ i, i ≤ 20 → zfr (m1 83 q) (m1 84 q) x1 (x2 + Int32.ofNat i) = FA i) ∧ (∀ i t, FA i = 0 → t < 40 → x2 + Int32.ofNat i = Int32.ofNat t → m1 85 (40 * q + t) = CL i) := by
    intro q hq FA CL hF hC
    rw [g83 q hq, g84 q hq]
    rcases hS.1 q hq with ⟨z1, z2⟩ | ⟨z1, z2, z3, z4, z5⟩
    · refine ⟨fun i hi => ?_, fun i t h => ?_⟩
      · rw [← hF i, zfr, if_pos z2, zfs, if_neg (fun w => w.1 z1), zfa, if_pos z1]
      · rw [← hF i, zfs, if_neg (fun w => w.1 z1), zfa, if_pos z1] at h
        exact absurd h (by decide)
    · refine ⟨fun i hi => ?_, fun i t h h1 h2 => ?_⟩
      · rw [← hF i, zfr, if_neg z2, zfs, z3, z4]
        by_cases hl : m 83 q = x1
        · rw [if_neg (show ¬ ¬ m 83 q = x1 from fun w => w hl), if_neg (show ¬ (¬ m (63 + 2 * q) 1 = 0 ∧ ¬ m 83 q = x1) from fun w => w.2 hl), zfa, if_neg z1]
          by_cases hx : ¬ x2 + Int32.ofNat i < 0 ∧ x2 + Int32.ofNat i < m 84 q
          · rw [if_pos hx, if_neg (fun w => w.elim hx.1 (fun u => u hx.2))]
          · rw [if_neg hx, if_pos]
            by_cases h0 : x2 + Int32.ofNat i < 0
            · exact Or.inl h0
            · exact Or.inr (fun u => hx ⟨h0, u⟩)
        · rw [if_pos hl, if_pos ⟨z1, hl⟩]
      · rw [g85 _ (by omega), ← z5 t h1]
        exact hC i t h1 h2
  rcases b3 with ⟨o1, rfl, rfl⟩ | ⟨o1, q, k, k1, k2, k3, k4, FA, CL, hF, hC, b4⟩
  · obtain ⟨m2, v2, d1, d2, d3⟩ := t_X8_read (FA := fun i => zfr (m1 83 x0.toNatClampNeg) (m1 84 x0.toNatClampNeg) x1 (x2 + Int32.ofNat i)) (CL := fun i => m1 85 (40 * x0.toNatClampNeg + (x2 + Int32.ofNat i).toNatClampNeg)) hP1 hg hc1 hM1 (zl84 t1) (fun q k hq hk e1 e2 => by
      rw [e1, Int32.toNatClampNeg_ofNat_of_lt (by omega)]
      exact ⟨fun _ _ => rfl, fun i t _ h1 h2 => by rw [h2, Int32.toNatClampNeg_ofNat_of_lt (by omega)]⟩) (zE_of 3 rfl H2)
    rcases d3 with ⟨_, rfl, rfl⟩ | ⟨o2, _⟩
    · exact ⟨_, _, d1, d2, t1, hR0, rfl⟩
    · exact absurd o2 o1
  · obtain ⟨m2, v2, d1, d2, d3⟩ := t_X8_read (FA := FA) (CL := CL) hP1 hg hc1 hM1 (zl84 t1) (fun q' k' hq hk e1 e2 => by
      have eq : q = q' := zofn (k2.symm.trans e1) (by omega) (by omega)
      subst eq
      exact key q k1 FA CL hF hC) (zE_of 3 rfl H2)
    obtain ⟨u1, u2, u3, u4, u5, u6⟩ := e_X8_read t1 H2
    obtain ⟨t2, f2⟩ := eng_m d2 u4 u5 u6
    refine ⟨m2, v2, d1, d2, t2, ?_⟩
    rcases d3 with ⟨o2, _⟩ | ⟨_, q', k', y1, y2, y3, y4, d4⟩
    · exact absurd o1 o2
    · have ek : k = k' := zofn (k4.symm.trans y4) (by omega) (by omega)
      subst ek
      rcases b4 with ⟨w, w1, rfl, rfl⟩ | ⟨a, s, w1, rfl, w2, w3, w4⟩
      · rcases d4 with ⟨w', w1', rfl, z2, z3⟩ | ⟨a', s', w1', _⟩
        · rw [w1] at w1'
          cases w1'
          have E : ∀ a b, ¬ (a = 72 ∧ 81 ≤ b ∧ b < 108) → a < 86 → m2 a b = m1 a b := fun a b h _ => by
            by_cases h7 : a = 72 ∧ b < 27
            · obtain ⟨rfl, h7⟩ := h7
              have x1 := z2.2 b h7
              have x2 := hP1.2 b h7
              rw [Nat.zero_add] at x1 x2
              exact x1.trans x2.symm
            · exact z3 a b h7 h
          refine ⟨⟨RC_e hR2 (fun a b _ _ q => ?_), HS_e hS (fun a b _ _ q => ?_)⟩, rfl⟩
          · simp only [qC, qT, qC0, qLI, Bool.or_eq_true, Bool.and_eq_true, Nat.beq_eq, Nat.blt_eq, Nat.ble_eq] at q
            exact E a b (by omega) (by omega)
          · simp only [qH, Bool.or_eq_true, Bool.and_eq_true, Nat.beq_eq, Nat.blt_eq, Nat.ble_eq] at q
            exact E a b (by omega) (by omega)
        · rw [w1] at w1'
          cases w1'
      · rcases d4 with ⟨w', w1', _⟩ | ⟨a', s', w1', rfl, z2, z3, z4⟩
        · rw [w1] at w1'
          cases w1'
        · rw [w1] at w1'
          cases w1'
          have E : ∀ a b, ¬ (11 ≤ a ∧ a ≤ 18) → ¬ (a = 0 ∧ b = 8) → ¬ (a = 72 ∧ b < 27) → ¬ (a = 71 ∧ b = 30) → ¬ (a = 72 ∧ 81 ≤ b ∧ b < 108) → m2 a b = m a b := fun a b h1 h2 h3 h4 h5 => (z4 a b h3 h4 h5).trans (w4 a b h1 h2)
          refine ⟨⟨RC_x hR2 (fun a b _ _ q => ?_) ⟨n, RT_e h1 (fun a b _ _ q => ?_)⟩ (fun c' hc' => ?_), ⟨fun j hj => SHk_e hj (hS.1 j hj) (fun x y q => E x y (by omega) (by omega) (by omega) (by omega) (by omega)), ?_⟩⟩, rfl⟩
          · simp only [qC0, qLI, Bool.or_eq_true, Bool.and_eq_true, Nat.beq_eq, Nat.blt_eq, Nat.ble_eq] at q
            exact E a b (by omega) (by omega) (by omega) (by omega) (by omega)
          · simp only [qT, Bool.or_eq_true, Bool.and_eq_true, Nat.beq_eq, Nat.blt_eq, Nat.ble_eq] at q
            exact E a b (by omega) (by omega) (by omega) (by omega) (by omega)
          · have ec : c' = c := zofn (hc'.1.1.symm.trans hL.1) (by have := hc'.1.2.1; omega) (by have := hL.2.1; omega)
            subst ec
            have e : ∀ j, j < 27 → pgf m2 0 j = gRt CL c' s 0 (pgf m 0) j := fun j hj => z2.2 j hj
            refine ⟨LV_g (LV_f w2 (fun a b h1 h2 => z4 a b (by omega) (by omega) (by omega))) e, ?_⟩
            obtain ⟨z, z5, z6⟩ := hb
            exact ⟨z, z5, by rw [e 15 (by omega), gTry2_t hg.1 s 0 _ 15 (by omega) (by omega)]; exact z6⟩
          · rw [z4 0 8 (by omega) (by omega) (by omega), w3, z3]
end
