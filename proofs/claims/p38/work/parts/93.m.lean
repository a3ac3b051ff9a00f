section
/-! one -/
theorem It_X7_one : zm_X7_one.2.2.2.2.2 = zt_X7_one := by
  unfold zm_X7_one
  rfl
theorem It_X8_one : zm_X8_one.2.2.2.2.2 = zt_X8_one := by
  unfold zm_X8_one
  rfl
theorem I_X7_one_0 : zin zm_X7_one.2.2.2.2.2 0 = some (.aload_n 0, 1) := by rw [It_X7_one]; rfl
theorem I_X7_one_1 : zin zm_X7_one.2.2.2.2.2 1 = some (.getfield 19, 3) := by rw [It_X7_one]; rfl
theorem I_X7_one_4 : zin zm_X7_one.2.2.2.2.2 4 = some (.iload_n 1, 1) := by rw [It_X7_one]; rfl
theorem I_X7_one_5 : zin zm_X7_one.2.2.2.2.2 5 = some (.invokevirtual 112, 3) := by rw [It_X7_one]; rfl
theorem I_X7_one_8 : zin zm_X7_one.2.2.2.2.2 8 = some (.ifCond .ne 5, 3) := by rw [It_X7_one]; rfl
theorem I_X7_one_11 : zin zm_X7_one.2.2.2.2.2 11 = some (.iconst (-1), 1) := by rw [It_X7_one]; rfl
theorem I_X7_one_12 : zin zm_X7_one.2.2.2.2.2 12 = some (.ireturn, 1) := by rw [It_X7_one]; rfl
theorem I_X7_one_13 : zin zm_X7_one.2.2.2.2.2 13 = some (.aload_n 0, 1) := by rw [It_X7_one]; rfl
theorem I_X7_one_14 : zin zm_X7_one.2.2.2.2.2 14 = some (.getfield 19, 3) := by rw [It_X7_one]; rfl
theorem I_X7_one_17 : zin zm_X7_one.2.2.2.2.2 17 = some (.getfield 116, 3) := by rw [It_X7_one]; rfl
theorem I_X7_one_20 : zin zm_X7_one.2.2.2.2.2 20 = some (.iload_n 1, 1) := by rw [It_X7_one]; rfl
theorem I_X7_one_21 : zin zm_X7_one.2.2.2.2.2 21 = some (.aaload, 1) := by rw [It_X7_one]; rfl
theorem I_X7_one_22 : zin zm_X7_one.2.2.2.2.2 22 = some (.astore_n 3, 1) := by rw [It_X7_one]; rfl
theorem I_X7_one_23 : zin zm_X7_one.2.2.2.2.2 23 = some (.iload_n 2, 1) := by rw [It_X7_one]; rfl
theorem I_X7_one_24 : zin zm_X7_one.2.2.2.2.2 24 = some (.tableswitch 70 0 5 #[40, 45, 50, 55, 60, 65], 40) := by rw [It_X7_one]; rfl
theorem I_X7_one_64 : zin zm_X7_one.2.2.2.2.2 64 = some (.aload_n 3, 1) := by rw [It_X7_one]; rfl
theorem I_X7_one_65 : zin zm_X7_one.2.2.2.2.2 65 = some (.getfield 120, 3) := by rw [It_X7_one]; rfl
theorem I_X7_one_68 : zin zm_X7_one.2.2.2.2.2 68 = some (.ireturn, 1) := by rw [It_X7_one]; rfl
theorem I_X7_one_69 : zin zm_X7_one.2.2.2.2.2 69 = some (.aload_n 3, 1) := by rw [It_X7_one]; rfl
theorem I_X7_one_70 : zin zm_X7_one.2.2.2.2.2 70 = some (.getfield 125, 3) := by rw [It_X7_one]; rfl
theorem I_X7_one_73 : zin zm_X7_one.2.2.2.2.2 73 = some (.ireturn, 1) := by rw [It_X7_one]; rfl
theorem I_X7_one_74 : zin zm_X7_one.2.2.2.2.2 74 = some (.aload_n 3, 1) := by rw [It_X7_one]; rfl
theorem I_X7_one_75 : zin zm_X7_one.2.2.2.2.2 75 = some (.getfield 128, 3) := by rw [It_X7_one]; rfl
theorem I_X7_one_78 : zin zm_X7_one.2.2.2.2.2 78 = some (.ireturn, 1) := by rw [It_X7_one]; rfl
theorem I_X7_one_79 : zin zm_X7_one.2.2.2.2.2 79 = some (.aload_n 3, 1) := by rw [It_X7_one]; rfl
theorem I_X7_one_80 : zin zm_X7_one.2.2.2.2.2 80 = some (.getfield 131, 3) := by rw [It_X7_one]; rfl
theorem I_X7_one_83 : zin zm_X7_one.2.2.2.2.2 83 = some (.ireturn, 1) := by rw [It_X7_one]; rfl
theorem I_X7_one_84 : zin zm_X7_one.2.2.2.2.2 84 = some (.aload_n 3, 1) := by rw [It_X7_one]; rfl
theorem I_X7_one_85 : zin zm_X7_one.2.2.2.2.2 85 = some (.invokevirtual 134, 3) := by rw [It_X7_one]; rfl
theorem I_X7_one_88 : zin zm_X7_one.2.2.2.2.2 88 = some (.ireturn, 1) := by rw [It_X7_one]; rfl
theorem I_X7_one_89 : zin zm_X7_one.2.2.2.2.2 89 = some (.aload_n 3, 1) := by rw [It_X7_one]; rfl
theorem I_X7_one_90 : zin zm_X7_one.2.2.2.2.2 90 = some (.invokevirtual 137, 3) := by rw [It_X7_one]; rfl
theorem I_X7_one_93 : zin zm_X7_one.2.2.2.2.2 93 = some (.ireturn, 1) := by rw [It_X7_one]; rfl
theorem I_X7_one_94 : zin zm_X7_one.2.2.2.2.2 94 = some (.iconst (-1), 1) := by rw [It_X7_one]; rfl
theorem I_X7_one_95 : zin zm_X7_one.2.2.2.2.2 95 = some (.ireturn, 1) := by rw [It_X7_one]; rfl
theorem I_X8_one_0 : zin zm_X8_one.2.2.2.2.2 0 = some (.aload_n 0, 1) := by rw [It_X8_one]; rfl
theorem I_X8_one_1 : zin zm_X8_one.2.2.2.2.2 1 = some (.iload_n 1, 1) := by rw [It_X8_one]; rfl
theorem I_X8_one_2 : zin zm_X8_one.2.2.2.2.2 2 = some (.invokevirtual 151, 3) := by rw [It_X8_one]; rfl
theorem I_X8_one_5 : zin zm_X8_one.2.2.2.2.2 5 = some (.ifCond .ne 5, 3) := by rw [It_X8_one]; rfl
theorem I_X8_one_8 : zin zm_X8_one.2.2.2.2.2 8 = some (.iconst (-1), 1) := by rw [It_X8_one]; rfl
theorem I_X8_one_9 : zin zm_X8_one.2.2.2.2.2 9 = some (.ireturn, 1) := by rw [It_X8_one]; rfl
theorem I_X8_one_10 : zin zm_X8_one.2.2.2.2.2 10 = some (.iload_n 2, 1) := by rw [It_X8_one]; rfl
theorem I_X8_one_11 : zin zm_X8_one.2.2.2.2.2 11 = some (.tableswitch 79 0 5 #[37, 37, 37, 48, 60, 67], 37) := by rw [It_X8_one]; rfl
theorem I_X8_one_48 : zin zm_X8_one.2.2.2.2.2 48 = some (.aload_n 0, 1) := by rw [It_X8_one]; rfl
theorem I_X8_one_49 : zin zm_X8_one.2.2.2.2.2 49 = some (.getfield 7, 3) := by rw [It_X8_one]; rfl
theorem I_X8_one_52 : zin zm_X8_one.2.2.2.2.2 52 = some (.iconst 5, 1) := by rw [It_X8_one]; rfl
theorem I_X8_one_53 : zin zm_X8_one.2.2.2.2.2 53 = some (.iload_n 2, 1) := by rw [It_X8_one]; rfl
theorem I_X8_one_54 : zin zm_X8_one.2.2.2.2.2 54 = some (.imul, 1) := by rw [It_X8_one]; rfl
theorem I_X8_one_55 : zin zm_X8_one.2.2.2.2.2 55 = some (.iload_n 1, 1) := by rw [It_X8_one]; rfl
theorem I_X8_one_56 : zin zm_X8_one.2.2.2.2.2 56 = some (.iadd, 1) := by rw [It_X8_one]; rfl
theorem I_X8_one_57 : zin zm_X8_one.2.2.2.2.2 57 = some (.iaload, 1) := by rw [It_X8_one]; rfl
theorem I_X8_one_58 : zin zm_X8_one.2.2.2.2.2 58 = some (.ireturn, 1) := by rw [It_X8_one]; rfl
theorem I_X8_one_59 : zin zm_X8_one.2.2.2.2.2 59 = some (.aload_n 0, 1) := by rw [It_X8_one]; rfl
theorem I_X8_one_60 : zin zm_X8_one.2.2.2.2.2 60 = some (.getfield 7, 3) := by rw [It_X8_one]; rfl
theorem I_X8_one_63 : zin zm_X8_one.2.2.2.2.2 63 = some (.bipush 15, 2) := by rw [It_X8_one]; rfl
theorem I_X8_one_65 : zin zm_X8_one.2.2.2.2.2 65 = some (.iaload, 1) := by rw [It_X8_one]; rfl
theorem I_X8_one_66 : zin zm_X8_one.2.2.2.2.2 66 = some (.iload_n 1, 1) := by rw [It_X8_one]; rfl
theorem I_X8_one_67 : zin zm_X8_one.2.2.2.2.2 67 = some (.ishr, 1) := by rw [It_X8_one]; rfl
theorem I_X8_one_68 : zin zm_X8_one.2.2.2.2.2 68 = some (.iconst 1, 1) := by rw [It_X8_one]; rfl
theorem I_X8_one_69 : zin zm_X8_one.2.2.2.2.2 69 = some (.iand, 1) := by rw [It_X8_one]; rfl
theorem I_X8_one_70 : zin zm_X8_one.2.2.2.2.2 70 = some (.ireturn, 1) := by rw [It_X8_one]; rfl
theorem I_X8_one_71 : zin zm_X8_one.2.2.2.2.2 71 = some (.aload_n 0, 1) := by rw [It_X8_one]; rfl
theorem I_X8_one_72 : zin zm_X8_one.2.2.2.2.2 72 = some (.iconst 0, 1) := by rw [It_X8_one]; rfl
theorem I_X8_one_73 : zin zm_X8_one.2.2.2.2.2 73 = some (.iload_n 1, 1) := by rw [It_X8_one]; rfl
theorem I_X8_one_74 : zin zm_X8_one.2.2.2.2.2 74 = some (.invokevirtual 141, 3) := by rw [It_X8_one]; rfl
theorem I_X8_one_77 : zin zm_X8_one.2.2.2.2.2 77 = some (.ireturn, 1) := by rw [It_X8_one]; rfl
theorem I_X8_one_78 : zin zm_X8_one.2.2.2.2.2 78 = some (.aload_n 0, 1) := by rw [It_X8_one]; rfl
theorem I_X8_one_79 : zin zm_X8_one.2.2.2.2.2 79 = some (.getfield 13, 3) := by rw [It_X8_one]; rfl
theorem I_X8_one_82 : zin zm_X8_one.2.2.2.2.2 82 = some (.aload_n 0, 1) := by rw [It_X8_one]; rfl
theorem I_X8_one_83 : zin zm_X8_one.2.2.2.2.2 83 = some (.getfield 7, 3) := by rw [It_X8_one]; rfl
theorem I_X8_one_86 : zin zm_X8_one.2.2.2.2.2 86 = some (.iload_n 1, 1) := by rw [It_X8_one]; rfl
theorem I_X8_one_87 : zin zm_X8_one.2.2.2.2.2 87 = some (.iaload, 1) := by rw [It_X8_one]; rfl
theorem I_X8_one_88 : zin zm_X8_one.2.2.2.2.2 88 = some (.iaload, 1) := by rw [It_X8_one]; rfl
theorem I_X8_one_89 : zin zm_X8_one.2.2.2.2.2 89 = some (.ireturn, 1) := by rw [It_X8_one]; rfl
theorem I_X8_one_90 : zin zm_X8_one.2.2.2.2.2 90 = some (.iconst (-1), 1) := by rw [It_X8_one]; rfl
theorem I_X8_one_91 : zin zm_X8_one.2.2.2.2.2 91 = some (.ireturn, 1) := by rw [It_X8_one]; rfl
theorem G_7_116 : zlk zfls 7 116 = some (0, 0, 120) := rfl
theorem G_7_120 : zlk zfls 7 120 = some (1, 0, 97) := rfl
theorem G_7_125 : zlk zfls 7 125 = some (1, 1, 100) := rfl
theorem G_7_128 : zlk zfls 7 128 = some (1, 2, 103) := rfl
theorem G_7_131 : zlk zfls 7 131 = some (1, 3, 106) := rfl
theorem K_7_134 : zlk zmls 7 134 = some (0, 20, 0, 519) := rfl
theorem K_7_137 : zlk zmls 7 137 = some (0, 22, 0, 520) := rfl
theorem cl_X7_one : zm_X7_one.2.2.2.2.1 = 7 := by
  unfold zm_X7_one
  rfl
theorem cn_X7_one : zm_X7_one.2.2.2.2.1 ≠ 12 := by
  rw [cl_X7_one]
  decide
theorem cn2_X7_one : zm_X7_one.2.2.2.2.1 ≠ 2 := by
  rw [cl_X7_one]
  decide
theorem cl_X8_one : zm_X8_one.2.2.2.2.1 = 8 := by
  unfold zm_X8_one
  rfl
theorem cn_X8_one : zm_X8_one.2.2.2.2.1 ≠ 12 := by
  rw [cl_X8_one]
  decide
theorem cn2_X8_one : zm_X8_one.2.2.2.2.1 ≠ 2 := by
  rw [cl_X8_one]
  decide
/-- what is told of one -/
def gOne (g : Nat → Int32) (p : Nat) (w : Int32) : Int32 := if w = 0 then g p else if w = 1 then g (5 + p) else if w = 2 then g (10 + p) else if w = 3 then zbt (g 15) p else if w = 4 then gcn g p else if w = 5 then zmrk (g p) else -1
theorem gOne_0 {g : Nat → Int32} {p : Nat} {w : Int32} (h : w = 0) : gOne g p w = g p := by subst h; rfl
theorem gOne_1 {g : Nat → Int32} {p : Nat} {w : Int32} (h : w = 1) : gOne g p w = g (5 + p) := by subst h; rfl
theorem gOne_2 {g : Nat → Int32} {p : Nat} {w : Int32} (h : w = 2) : gOne g p w = g (10 + p) := by subst h; rfl
theorem gOne_3 {g : Nat → Int32} {p : Nat} {w : Int32} (h : w = 3) : gOne g p w = zbt (g 15) p := by subst h; rfl
theorem gOne_4 {g : Nat → Int32} {p : Nat} {w : Int32} (h : w = 4) : gOne g p w = gcn g p := by subst h; rfl
theorem gOne_5 {g : Nat → Int32} {p : Nat} {w : Int32} (h : w = 5) : gOne g p w = zmrk (g p) := by subst h; rfl
theorem gOne_d {g : Nat → Int32} {p : Nat} {w : Int32} (h0 : ¬ w = 0) (h1 : ¬ w = 1) (h2 : ¬ w = 2) (h3 : ¬ w = 3) (h4 : ¬ w = 4) (h5 : ¬ w = 5) : gOne g p w = -1 := by
  unfold gOne
  rw [if_neg h0, if_neg h1, if_neg h2, if_neg h3, if_neg h4, if_neg h5]
abbrev zIs (x : Int32) (c : Nat) : Prop := ¬ x < 0 ∧ x < Int32.ofNat c
theorem zis_n {p c : Nat} (hc : c ≤ 5) (hp : p < c) : zIs (Int32.ofNat p) c := ⟨fun h => by
  rw [Int32.lt_iff_toInt_lt, zofn_t (by omega)] at h
  have e0 : (0 : Int32).toInt = 0 := rfl
  omega, (zofn_lt (by omega) (by omega)).mpr hp⟩
theorem zmk_a {m : zM} (h : zMk m) {x : Int32} {i : Nat} (h0 : 0 ≤ x.toInt) (h3 : x.toInt ≤ 3) (hi : x = Int32.ofNat i) (hi4 : i < 4) : m 73 i = zmrk x := by
  subst hi
  obtain ⟨a, b, c, d⟩ := h
  match i, hi4 with
  | 0, _ => exact a
  | 1, _ => exact b
  | 2, _ => exact c
  | 3, _ => exact d
theorem t_X7_one {d : Nat} {m : zM} {r : Option Value} {h' : zHp} {w : Int32} {p c : Nat} {g : Nat → Int32} (hL : LV m 11 c g) (hp : p < c) (H : zE none d zm_X7_one 0 [.ref 0, .int (Int32.ofNat p), .int w, .null] [] m r h') : r = some (.int (gOne g p w)) ∧ h' = zhp m := by
  have hc5 := hL.2.1
  replace H := i_aln (q := 1) H I_X7_one_0 rfl rfl
  replace H := i_gfr (q := 4) H I_X7_one_1 G_7_19 cn_X7_one LY_0 rfl rfl
  replace H := i_iln (q := 5) H I_X7_one_4 rfl rfl
  have W := i_cv1 0 (q := 8) H I_X7_one_5 K_7_112 Zm_3 rfl rfl
  clear H
  obtain ⟨r1, h1, Hc, K1, K2⟩ := W
  obtain ⟨e1, e2⟩ := t_X0_has lkk_11 Hc
  have H := K1 _ _ e1 e2
  clear e1 e2 Hc K1 K2
  have W := i_if_ne (t := 13) (q := 11) H I_X7_one_8 (by decide) rfl
  clear H
  rcases W with ⟨c_8, H⟩ | ⟨c_8, H⟩
  · skip
    replace H := i_aln (q := 14) H I_X7_one_13 rfl rfl
    replace H := i_gfr (q := 17) H I_X7_one_14 G_7_19 cn_X7_one LY_0 rfl rfl
    replace H := i_gfr (q := 20) H I_X7_one_17 G_7_116 cn_X7_one LY_11 rfl rfl
    replace H := i_iln (q := 21) H I_X7_one_20 rfl rfl
    have W := i_folk (k := 11) lkk_11 (q := 22) H I_X7_one_21 rfl
    clear H
    obtain ⟨i_21, bi_21, ei_21, H⟩ := W
    replace H := i_asn (q := 23) H I_X7_one_22 rfl rfl
    replace H := i_iln (q := 24) H I_X7_one_23 rfl rfl
    have W := i_ts1 0 (q := 64) H I_X7_one_24 (by decide) rfl (by decide)
    clear H
    rcases W with ⟨w_24_0, H⟩ | ⟨w_24_0, H⟩
    · skip
      replace H := i_aln (q := 65) H I_X7_one_64 rfl rfl
      replace H := i_gfi (q := 68) H I_X7_one_65 G_7_120 cn_X7_one (lk_p lkk_11 bi_21) rfl rfl
      obtain ⟨hr, hh⟩ := i_ir H I_X7_one_68
      have e : p = i_21 := zofn ei_21 (by omega) (by omega)
      subst e
      obtain ⟨y1, y2, y3, y4⟩ := hL.2.2.1 p hp
      rw [gOne_0 w_24_0]
      exact ⟨hr.trans (congrArg (fun z => some (Value.int z)) (y1)), hh⟩
    · skip
      have W := i_ts1 1 (q := 69) H I_X7_one_24 (by decide) rfl (by decide)
      clear H
      rcases W with ⟨w_24_1, H⟩ | ⟨w_24_1, H⟩
      · skip
        replace H := i_aln (q := 70) H I_X7_one_69 rfl rfl
        replace H := i_gfi (q := 73) H I_X7_one_70 G_7_125 cn_X7_one (lk_p lkk_11 bi_21) rfl rfl
        obtain ⟨hr, hh⟩ := i_ir H I_X7_one_73
        have e : p = i_21 := zofn ei_21 (by omega) (by omega)
        subst e
        obtain ⟨y1, y2, y3, y4⟩ := hL.2.2.1 p hp
        rw [gOne_1 w_24_1]
        exact ⟨hr.trans (congrArg (fun z => some (Value.int z)) (y2)), hh⟩
      · skip
        have W := i_ts1 2 (q := 74) H I_X7_one_24 (by decide) rfl (by decide)
        clear H
        rcases W with ⟨w_24_2, H⟩ | ⟨w_24_2, H⟩
        · skip
          replace H := i_aln (q := 75) H I_X7_one_74 rfl rfl
          replace H := i_gfi (q := 78) H I_X7_one_75 G_7_128 cn_X7_one (lk_p lkk_11 bi_21) rfl rfl
          obtain ⟨hr, hh⟩ := i_ir H I_X7_one_78
          have e : p = i_21 := zofn ei_21 (by omega) (by omega)
          subst e
          obtain ⟨y1, y2, y3, y4⟩ := hL.2.2.1 p hp
          rw [gOne_2 w_24_2]
          exact ⟨hr.trans (congrArg (fun z => some (Value.int z)) (y3)), hh⟩
        · skip
          have W := i_ts1 3 (q := 79) H I_X7_one_24 (by decide) rfl (by decide)
          clear H
          rcases W with ⟨w_24_3, H⟩ | ⟨w_24_3, H⟩
          · skip
            replace H := i_aln (q := 80) H I_X7_one_79 rfl rfl
            replace H := i_gfi (q := 83) H I_X7_one_80 G_7_131 cn_X7_one (lk_p lkk_11 bi_21) rfl rfl
            obtain ⟨hr, hh⟩ := i_ir H I_X7_one_83
            have e : p = i_21 := zofn ei_21 (by omega) (by omega)
            subst e
            obtain ⟨y1, y2, y3, y4⟩ := hL.2.2.1 p hp
            rw [gOne_3 w_24_3]
            exact ⟨hr.trans (congrArg (fun z => some (Value.int z)) (y4)), hh⟩
          · skip
            have W := i_ts1 4 (q := 84) H I_X7_one_24 (by decide) rfl (by decide)
            clear H
            rcases W with ⟨w_24_4, H⟩ | ⟨w_24_4, H⟩
            · skip
              replace H := i_aln (q := 85) H I_X7_one_84 rfl rfl
              have W := i_cv0 0 (q := 88) H I_X7_one_85 K_7_134 Zm_20 rfl rfl
              clear H
              obtain ⟨r1, h1, Hc, K1, K2⟩ := W
              obtain ⟨e1, e2⟩ := t_X1_turned (lk_p lkk_11 bi_21) Hc
              have H := K1 _ _ e1 e2
              clear e1 e2 Hc K1 K2
              obtain ⟨hr, hh⟩ := i_ir H I_X7_one_88
              have e : p = i_21 := zofn ei_21 (by omega) (by omega)
              subst e
              obtain ⟨y1, y2, y3, y4⟩ := hL.2.2.1 p hp
              rw [gOne_4 w_24_4]
              exact ⟨hr.trans (congrArg (fun z => some (Value.int z)) (LV_c hL hp)), hh⟩
            · skip
              have W := i_ts1 5 (q := 89) H I_X7_one_24 (by decide) rfl (by decide)
              clear H
              rcases W with ⟨w_24_5, H⟩ | ⟨w_24_5, H⟩
              · skip
                replace H := i_aln (q := 90) H I_X7_one_89 rfl rfl
                have W := i_cv0 0 (q := 93) H I_X7_one_90 K_7_137 Zm_22 rfl rfl
                clear H
                obtain ⟨r1, h1, Hc, K1, K2⟩ := W
                obtain ⟨e1, e2⟩ := t_X1_marks (lk_p lkk_11 bi_21) Hc
                have H := K1 _ _ e1 e2
                clear e1 e2 Hc K1 K2
                obtain ⟨hr, hh⟩ := i_ir H I_X7_one_93
                have e : p = i_21 := zofn ei_21 (by omega) (by omega)
                subst e
                obtain ⟨y1, y2, y3, y4⟩ := hL.2.2.1 p hp
                rw [gOne_5 w_24_5]
                exact ⟨hr.trans (congrArg (fun z => some (Value.int z)) (congrArg zmrk y1)), hh⟩
              · skip
                replace H := i_tsd (q := 94) H I_X7_one_24 (by have q0 := zne w_24_0 (z := 0) (by decide); have q1 := zne w_24_1 (z := 1) (by decide); have q2 := zne w_24_2 (z := 2) (by decide); have q3 := zne w_24_3 (z := 3) (by decide); have q4 := zne w_24_4 (z := 4) (by decide); have q5 := zne w_24_5 (z := 5) (by decide); omega) (by decide)
                replace H := i_icst (x := (-1)) (q := 95) H I_X7_one_94 (by decide) rfl
                obtain ⟨hr, hh⟩ := i_ir H I_X7_one_95
                have e : p = i_21 := zofn ei_21 (by omega) (by omega)
                subst e
                obtain ⟨y1, y2, y3, y4⟩ := hL.2.2.1 p hp
                rw [gOne_d w_24_0 w_24_1 w_24_2 w_24_3 w_24_4 w_24_5]
                exact ⟨hr, hh⟩
  · skip
    replace H := i_icst (x := (-1)) (q := 12) H I_X7_one_11 (by decide) rfl
    obtain ⟨hr, hh⟩ := i_ir H I_X7_one_12
    exfalso
    rw [hL.1] at c_8
    exact zif0 c_8 (zis_n hL.2.1 hp)
theorem t_X7_oneN {d : Nat} {m : zM} {r : Option Value} {h' : zHp} {x w : Int32} {c : Nat} (hc : m 11 2 = Int32.ofNat c) (hx : ¬ zIs x c) (H : zE none d zm_X7_one 0 [.ref 0, .int x, .int w, .null] [] m r h') : r = some (.int (-1)) ∧ h' = zhp m := by
  replace H := i_aln (q := 1) H I_X7_one_0 rfl rfl
  replace H := i_gfr (q := 4) H I_X7_one_1 G_7_19 cn_X7_one LY_0 rfl rfl
  replace H := i_iln (q := 5) H I_X7_one_4 rfl rfl
  have W := i_cv1 0 (q := 8) H I_X7_one_5 K_7_112 Zm_3 rfl rfl
  clear H
  obtain ⟨r1, h1, Hc, K1, K2⟩ := W
  obtain ⟨e1, e2⟩ := t_X0_has lkk_11 Hc
  have H := K1 _ _ e1 e2
  clear e1 e2 Hc K1 K2
  have W := i_if_ne (t := 13) (q := 11) H I_X7_one_8 (by decide) rfl
  clear H
  rcases W with ⟨c_8, H⟩ | ⟨c_8, H⟩
  · skip
    exfalso
    rw [hc] at c_8
    exact hx (zif1 c_8)
  · skip
    replace H := i_icst (x := (-1)) (q := 12) H I_X7_one_11 (by decide) rfl
    obtain ⟨hr, hh⟩ := i_ir H I_X7_one_12
    exact ⟨hr, hh⟩
theorem t_X8_one {d : Nat} {m : zM} {r : Option Value} {h' : zHp} {w : Int32} {p c : Nat} {g : Nat → Int32} (hP : PG m 0 g) (hg : gok g c) (hc : m 71 2 = Int32.ofNat c) (hM : zMk m) (hp : p < c) (H : zE none d zm_X8_one 0 [.ref 71, .int (Int32.ofNat p), .int w] [] m r h') : r = some (.int (gOne g p w)) ∧ h' = zhp m := by
  have hc5 := hg.1
  replace H := i_aln (q := 1) H I_X8_one_0 rfl rfl
  replace H := i_iln (q := 2) H I_X8_one_1 rfl rfl
  have W := i_cv1 0 (q := 5) H I_X8_one_2 K_8_151 Zm_127 rfl rfl
  clear H
  obtain ⟨r1, h1, Hc, K1, K2⟩ := W
  obtain ⟨e1, e2⟩ := t_X8_isOne hc hc5 Hc
  have H := K1 _ _ e1 e2
  clear e1 e2 Hc K1 K2
  have W := i_if_ne (t := 10) (q := 8) H I_X8_one_5 (by decide) rfl
  clear H
  rcases W with ⟨c_5, H⟩ | ⟨c_5, H⟩
  · skip
    replace H := i_iln (q := 11) H I_X8_one_10 rfl rfl
    have W := i_ts1 0 (q := 48) H I_X8_one_11 (by decide) rfl (by decide)
    clear H
    rcases W with ⟨w_11_0, H⟩ | ⟨w_11_0, H⟩
    · skip
      replace H := i_aln (q := 49) H I_X8_one_48 rfl rfl
      replace H := i_gfr (q := 52) H I_X8_one_49 G_8_7 cn_X8_one LY_71 rfl rfl
      replace H := i_icst (x := 5) (q := 53) H I_X8_one_52 (by decide) rfl
      replace H := i_iln (q := 54) H I_X8_one_53 rfl rfl
      replace H := i_imul (q := 55) H I_X8_one_54 rfl
      replace H := i_iln (q := 56) H I_X8_one_55 rfl rfl
      replace H := i_iadd (q := 57) H I_X8_one_56 rfl
      have W := i_ia (q := 58) H I_X8_one_57 LY_72 rfl
      clear H
      obtain ⟨i_57, bi_57, ei_57, H⟩ := W
      obtain ⟨hr, hh⟩ := i_ir H I_X8_one_58
      subst w_11_0
      have e : i_57 = 0 + p := zix_add (k := 0) (by decide) rfl ei_57 (by omega) (by omega)
      subst e
      have e2 := hP.2 (0 + p) (by omega)
      rw [Nat.zero_add] at e2
      rw [gOne_0 rfl]
      exact ⟨hr.trans (congrArg (fun z => some (Value.int z)) (e2.trans (by rw [Nat.zero_add]))), hh⟩
    · skip
      have W := i_ts1 1 (q := 48) H I_X8_one_11 (by decide) rfl (by decide)
      clear H
      rcases W with ⟨w_11_1, H⟩ | ⟨w_11_1, H⟩
      · skip
        replace H := i_aln (q := 49) H I_X8_one_48 rfl rfl
        replace H := i_gfr (q := 52) H I_X8_one_49 G_8_7 cn_X8_one LY_71 rfl rfl
        replace H := i_icst (x := 5) (q := 53) H I_X8_one_52 (by decide) rfl
        replace H := i_iln (q := 54) H I_X8_one_53 rfl rfl
        replace H := i_imul (q := 55) H I_X8_one_54 rfl
        replace H := i_iln (q := 56) H I_X8_one_55 rfl rfl
        replace H := i_iadd (q := 57) H I_X8_one_56 rfl
        have W := i_ia (q := 58) H I_X8_one_57 LY_72 rfl
        clear H
        obtain ⟨i_57, bi_57, ei_57, H⟩ := W
        obtain ⟨hr, hh⟩ := i_ir H I_X8_one_58
        subst w_11_1
        have e : i_57 = 5 + p := zix_add (k := 5) (by decide) rfl ei_57 (by omega) (by omega)
        subst e
        have e2 := hP.2 (5 + p) (by omega)
        rw [Nat.zero_add] at e2
        rw [gOne_1 rfl]
        exact ⟨hr.trans (congrArg (fun z => some (Value.int z)) (e2)), hh⟩
      · skip
        have W := i_ts1 2 (q := 48) H I_X8_one_11 (by decide) rfl (by decide)
        clear H
        rcases W with ⟨w_11_2, H⟩ | ⟨w_11_2, H⟩
        · skip
          replace H := i_aln (q := 49) H I_X8_one_48 rfl rfl
          replace H := i_gfr (q := 52) H I_X8_one_49 G_8_7 cn_X8_one LY_71 rfl rfl
          replace H := i_icst (x := 5) (q := 53) H I_X8_one_52 (by decide) rfl
          replace H := i_iln (q := 54) H I_X8_one_53 rfl rfl
          replace H := i_imul (q := 55) H I_X8_one_54 rfl
          replace H := i_iln (q := 56) H I_X8_one_55 rfl rfl
          replace H := i_iadd (q := 57) H I_X8_one_56 rfl
          have W := i_ia (q := 58) H I_X8_one_57 LY_72 rfl
          clear H
          obtain ⟨i_57, bi_57, ei_57, H⟩ := W
          obtain ⟨hr, hh⟩ := i_ir H I_X8_one_58
          subst w_11_2
          have e : i_57 = 10 + p := zix_add (k := 10) (by decide) rfl ei_57 (by omega) (by omega)
          subst e
          have e2 := hP.2 (10 + p) (by omega)
          rw [Nat.zero_add] at e2
          rw [gOne_2 rfl]
          exact ⟨hr.trans (congrArg (fun z => some (Value.int z)) (e2)), hh⟩
        · skip
          have W := i_ts1 3 (q := 59) H I_X8_one_11 (by decide) rfl (by decide)
          clear H
          rcases W with ⟨w_11_3, H⟩ | ⟨w_11_3, H⟩
          · skip
            replace H := i_aln (q := 60) H I_X8_one_59 rfl rfl
            replace H := i_gfr (q := 63) H I_X8_one_60 G_8_7 cn_X8_one LY_71 rfl rfl
            replace H := i_bip (x := 15) (q := 65) H I_X8_one_63 (by decide) rfl
            have W := i_ia (q := 66) H I_X8_one_65 LY_72 rfl
            clear H
            obtain ⟨i_65, bi_65, ei_65, H⟩ := W
            replace H := i_iln (q := 67) H I_X8_one_66 rfl rfl
            replace H := i_ishr (q := 68) H I_X8_one_67 rfl
            replace H := i_icst (x := 1) (q := 69) H I_X8_one_68 (by decide) rfl
            replace H := i_iand (q := 70) H I_X8_one_69 rfl
            obtain ⟨hr, hh⟩ := i_ir H I_X8_one_70
            rw [gOne_3 w_11_3]
            have e : i_65 = 15 := (zofn (i := 15) ei_65 (by decide) (by omega)).symm
            subst e
            have e2 := hP.2 15 (by omega)
            rw [Nat.zero_add] at e2
            rw [e2] at hr
            exact ⟨hr, hh⟩
          · skip
            have W := i_ts1 4 (q := 71) H I_X8_one_11 (by decide) rfl (by decide)
            clear H
            rcases W with ⟨w_11_4, H⟩ | ⟨w_11_4, H⟩
            · skip
              replace H := i_aln (q := 72) H I_X8_one_71 rfl rfl
              replace H := i_icst (x := 0) (q := 73) H I_X8_one_72 (by decide) rfl
              replace H := i_iln (q := 74) H I_X8_one_73 rfl rfl
              have W := i_cv2 0 (q := 77) H I_X8_one_74 K_8_141 Zm_129 rfl rfl
              clear H
              obtain ⟨r1, h1, Hc, K1, K2⟩ := W
              obtain ⟨e1, e2⟩ := t_X8_countOf (pg := 0) hP (by omega) Hc
              have H := K1 _ _ e1 e2
              clear e1 e2 Hc K1 K2
              obtain ⟨hr, hh⟩ := i_ir H I_X8_one_77
              rw [gOne_4 w_11_4]
              exact ⟨hr, hh⟩
            · skip
              have W := i_ts1 5 (q := 78) H I_X8_one_11 (by decide) rfl (by decide)
              clear H
              rcases W with ⟨w_11_5, H⟩ | ⟨w_11_5, H⟩
              · skip
                replace H := i_aln (q := 79) H I_X8_one_78 rfl rfl
                replace H := i_gfr (q := 82) H I_X8_one_79 G_8_13 cn_X8_one LY_71 rfl rfl
                replace H := i_aln (q := 83) H I_X8_one_82 rfl rfl
                replace H := i_gfr (q := 86) H I_X8_one_83 G_8_7 cn_X8_one LY_71 rfl rfl
                replace H := i_iln (q := 87) H I_X8_one_86 rfl rfl
                have W := i_ia (q := 88) H I_X8_one_87 LY_72 rfl
                clear H
                obtain ⟨i_87, bi_87, ei_87, H⟩ := W
                have W := i_ia (q := 89) H I_X8_one_88 LY_73 rfl
                clear H
                obtain ⟨i_88, bi_88, ei_88, H⟩ := W
                obtain ⟨hr, hh⟩ := i_ir H I_X8_one_89
                rw [gOne_5 w_11_5]
                have e : p = i_87 := zofn ei_87 (by omega) (by omega)
                subst e
                have e2 := hP.2 p (by omega)
                rw [Nat.zero_add] at e2
                rw [e2] at ei_88
                rw [zmk_a hM (hg.2.1 p hp).1.1 (hg.2.1 p hp).1.2 ei_88 bi_88] at hr
                exact ⟨hr, hh⟩
              · skip
                replace H := i_tsd (q := 90) H I_X8_one_11 (by have q0 := zne w_11_0 (z := 0) (by decide); have q1 := zne w_11_1 (z := 1) (by decide); have q2 := zne w_11_2 (z := 2) (by decide); have q3 := zne w_11_3 (z := 3) (by decide); have q4 := zne w_11_4 (z := 4) (by decide); have q5 := zne w_11_5 (z := 5) (by decide); omega) (by decide)
                replace H := i_icst (x := (-1)) (q := 91) H I_X8_one_90 (by decide) rfl
                obtain ⟨hr, hh⟩ := i_ir H I_X8_one_91
                rw [gOne_d w_11_0 w_11_1 w_11_2 w_11_3 w_11_4 w_11_5]
                exact ⟨hr, hh⟩
  · skip
    replace H := i_icst (x := (-1)) (q := 9) H I_X8_one_8 (by decide) rfl
    obtain ⟨hr, hh⟩ := i_ir H I_X8_one_9
    exfalso
    rw [hc] at c_5
    exact zif0 c_5 (zis_n hc5 hp)
theorem t_X8_oneN {d : Nat} {m : zM} {r : Option Value} {h' : zHp} {x w : Int32} {c : Nat} (hc : m 71 2 = Int32.ofNat c) (hc5 : c ≤ 5) (hx : ¬ zIs x c) (H : zE none d zm_X8_one 0 [.ref 71, .int x, .int w] [] m r h') : r = some (.int (-1)) ∧ h' = zhp m := by
  replace H := i_aln (q := 1) H I_X8_one_0 rfl rfl
  replace H := i_iln (q := 2) H I_X8_one_1 rfl rfl
  have W := i_cv1 0 (q := 5) H I_X8_one_2 K_8_151 Zm_127 rfl rfl
  clear H
  obtain ⟨r1, h1, Hc, K1, K2⟩ := W
  obtain ⟨e1, e2⟩ := t_X8_isOne hc hc5 Hc
  have H := K1 _ _ e1 e2
  clear e1 e2 Hc K1 K2
  have W := i_if_ne (t := 10) (q := 8) H I_X8_one_5 (by decide) rfl
  clear H
  rcases W with ⟨c_5, H⟩ | ⟨c_5, H⟩
  · skip
    exfalso
    rw [hc] at c_5
    exact hx (zif1 c_5)
  · skip
    replace H := i_icst (x := (-1)) (q := 9) H I_X8_one_8 (by decide) rfl
    obtain ⟨hr, hh⟩ := i_ir H I_X8_one_9
    exact ⟨hr, hh⟩
end
section
/-! rule -/
theorem It_X0_lefts : zm_X0_lefts.2.2.2.2.2 = zt_X0_lefts := by
  unfold zm_X0_lefts
  rfl
theorem It_X0_opensTo : zm_X0_opensTo.2.2.2.2.2 = zt_X0_opensTo := by
  unfold zm_X0_opensTo
  rfl
theorem It_X0_welcome : zm_X0_welcome.2.2.2.2.2 = zt_X0_welcome := by
  unfold zm_X0_welcome
  rfl
theorem It_X7_rule : zm_X7_rule.2.2.2.2.2 = zt_X7_rule := by
  unfold zm_X7_rule
  rfl
theorem It_X8_rule : zm_X8_rule.2.2.2.2.2 = zt_X8_rule := by
  unfold zm_X8_rule
  rfl
theorem I_X0_lefts_0 : zin zm_X0_lefts.2.2.2.2.2 0 = some (.iconst 0, 1) := by rw [It_X0_lefts]; rfl
theorem I_X0_lefts_1 : zin zm_X0_lefts.2.2.2.2.2 1 = some (.istore_n 1, 1) := by rw [It_X0_lefts]; rfl
theorem I_X0_lefts_2 : zin zm_X0_lefts.2.2.2.2.2 2 = some (.iconst 0, 1) := by rw [It_X0_lefts]; rfl
theorem I_X0_lefts_3 : zin zm_X0_lefts.2.2.2.2.2 3 = some (.istore_n 2, 1) := by rw [It_X0_lefts]; rfl
theorem I_X0_lefts_4 : zin zm_X0_lefts.2.2.2.2.2 4 = some (.iload_n 2, 1) := by rw [It_X0_lefts]; rfl
theorem I_X0_lefts_5 : zin zm_X0_lefts.2.2.2.2.2 5 = some (.aload_n 0, 1) := by rw [It_X0_lefts]; rfl
theorem I_X0_lefts_6 : zin zm_X0_lefts.2.2.2.2.2 6 = some (.getfield 26, 3) := by rw [It_X0_lefts]; rfl
theorem I_X0_lefts_9 : zin zm_X0_lefts.2.2.2.2.2 9 = some (.if_icmp .ge 23, 3) := by rw [It_X0_lefts]; rfl
theorem I_X0_lefts_12 : zin zm_X0_lefts.2.2.2.2.2 12 = some (.iload_n 1, 1) := by rw [It_X0_lefts]; rfl
theorem I_X0_lefts_13 : zin zm_X0_lefts.2.2.2.2.2 13 = some (.aload_n 0, 1) := by rw [It_X0_lefts]; rfl
theorem I_X0_lefts_14 : zin zm_X0_lefts.2.2.2.2.2 14 = some (.getfield 11, 3) := by rw [It_X0_lefts]; rfl
theorem I_X0_lefts_17 : zin zm_X0_lefts.2.2.2.2.2 17 = some (.iload_n 2, 1) := by rw [It_X0_lefts]; rfl
theorem I_X0_lefts_18 : zin zm_X0_lefts.2.2.2.2.2 18 = some (.aaload, 1) := by rw [It_X0_lefts]; rfl
theorem I_X0_lefts_19 : zin zm_X0_lefts.2.2.2.2.2 19 = some (.getfield 48, 3) := by rw [It_X0_lefts]; rfl
theorem I_X0_lefts_22 : zin zm_X0_lefts.2.2.2.2.2 22 = some (.iload_n 2, 1) := by rw [It_X0_lefts]; rfl
theorem I_X0_lefts_23 : zin zm_X0_lefts.2.2.2.2.2 23 = some (.ishl, 1) := by rw [It_X0_lefts]; rfl
theorem I_X0_lefts_24 : zin zm_X0_lefts.2.2.2.2.2 24 = some (.ior, 1) := by rw [It_X0_lefts]; rfl
theorem I_X0_lefts_25 : zin zm_X0_lefts.2.2.2.2.2 25 = some (.istore_n 1, 1) := by rw [It_X0_lefts]; rfl
theorem I_X0_lefts_26 : zin zm_X0_lefts.2.2.2.2.2 26 = some (.iinc 2 1, 3) := by rw [It_X0_lefts]; rfl
theorem I_X0_lefts_29 : zin zm_X0_lefts.2.2.2.2.2 29 = some (.goto (-25), 3) := by rw [It_X0_lefts]; rfl
theorem I_X0_lefts_32 : zin zm_X0_lefts.2.2.2.2.2 32 = some (.iload_n 1, 1) := by rw [It_X0_lefts]; rfl
theorem I_X0_lefts_33 : zin zm_X0_lefts.2.2.2.2.2 33 = some (.ireturn, 1) := by rw [It_X0_lefts]; rfl
theorem I_X0_opensTo_0 : zin zm_X0_opensTo.2.2.2.2.2 0 = some (.aload_n 0, 1) := by rw [It_X0_opensTo]; rfl
theorem I_X0_opensTo_1 : zin zm_X0_opensTo.2.2.2.2.2 1 = some (.getfield 11, 3) := by rw [It_X0_opensTo]; rfl
theorem I_X0_opensTo_4 : zin zm_X0_opensTo.2.2.2.2.2 4 = some (.iload_n 1, 1) := by rw [It_X0_opensTo]; rfl
theorem I_X0_opensTo_5 : zin zm_X0_opensTo.2.2.2.2.2 5 = some (.aaload, 1) := by rw [It_X0_opensTo]; rfl
theorem I_X0_opensTo_6 : zin zm_X0_opensTo.2.2.2.2.2 6 = some (.invokevirtual 51, 3) := by rw [It_X0_opensTo]; rfl
theorem I_X0_opensTo_9 : zin zm_X0_opensTo.2.2.2.2.2 9 = some (.aload_n 0, 1) := by rw [It_X0_opensTo]; rfl
theorem I_X0_opensTo_10 : zin zm_X0_opensTo.2.2.2.2.2 10 = some (.invokevirtual 75, 3) := by rw [It_X0_opensTo]; rfl
theorem I_X0_opensTo_13 : zin zm_X0_opensTo.2.2.2.2.2 13 = some (.aload_n 0, 1) := by rw [It_X0_opensTo]; rfl
theorem I_X0_opensTo_14 : zin zm_X0_opensTo.2.2.2.2.2 14 = some (.getfield 21, 3) := by rw [It_X0_opensTo]; rfl
theorem I_X0_opensTo_17 : zin zm_X0_opensTo.2.2.2.2.2 17 = some (.iadd, 1) := by rw [It_X0_opensTo]; rfl
theorem I_X0_opensTo_18 : zin zm_X0_opensTo.2.2.2.2.2 18 = some (.if_icmp .gt 7, 3) := by rw [It_X0_opensTo]; rfl
theorem I_X0_opensTo_21 : zin zm_X0_opensTo.2.2.2.2.2 21 = some (.iconst 1, 1) := by rw [It_X0_opensTo]; rfl
theorem I_X0_opensTo_22 : zin zm_X0_opensTo.2.2.2.2.2 22 = some (.goto 4, 3) := by rw [It_X0_opensTo]; rfl
theorem I_X0_opensTo_25 : zin zm_X0_opensTo.2.2.2.2.2 25 = some (.iconst 0, 1) := by rw [It_X0_opensTo]; rfl
theorem I_X0_opensTo_26 : zin zm_X0_opensTo.2.2.2.2.2 26 = some (.ireturn, 1) := by rw [It_X0_opensTo]; rfl
theorem I_X0_welcome_0 : zin zm_X0_welcome.2.2.2.2.2 0 = some (.iconst 0, 1) := by rw [It_X0_welcome]; rfl
theorem I_X0_welcome_1 : zin zm_X0_welcome.2.2.2.2.2 1 = some (.istore_n 1, 1) := by rw [It_X0_welcome]; rfl
theorem I_X0_welcome_2 : zin zm_X0_welcome.2.2.2.2.2 2 = some (.iconst 0, 1) := by rw [It_X0_welcome]; rfl
theorem I_X0_welcome_3 : zin zm_X0_welcome.2.2.2.2.2 3 = some (.istore_n 2, 1) := by rw [It_X0_welcome]; rfl
theorem I_X0_welcome_4 : zin zm_X0_welcome.2.2.2.2.2 4 = some (.iload_n 2, 1) := by rw [It_X0_welcome]; rfl
theorem I_X0_welcome_5 : zin zm_X0_welcome.2.2.2.2.2 5 = some (.aload_n 0, 1) := by rw [It_X0_welcome]; rfl
theorem I_X0_welcome_6 : zin zm_X0_welcome.2.2.2.2.2 6 = some (.getfield 26, 3) := by rw [It_X0_welcome]; rfl
theorem I_X0_welcome_9 : zin zm_X0_welcome.2.2.2.2.2 9 = some (.if_icmp .ge 23, 3) := by rw [It_X0_welcome]; rfl
theorem I_X0_welcome_12 : zin zm_X0_welcome.2.2.2.2.2 12 = some (.aload_n 0, 1) := by rw [It_X0_welcome]; rfl
theorem I_X0_welcome_13 : zin zm_X0_welcome.2.2.2.2.2 13 = some (.iload_n 2, 1) := by rw [It_X0_welcome]; rfl
theorem I_X0_welcome_14 : zin zm_X0_welcome.2.2.2.2.2 14 = some (.invokevirtual 71, 3) := by rw [It_X0_welcome]; rfl
theorem I_X0_welcome_17 : zin zm_X0_welcome.2.2.2.2.2 17 = some (.ifCond .eq 9, 3) := by rw [It_X0_welcome]; rfl
theorem I_X0_welcome_20 : zin zm_X0_welcome.2.2.2.2.2 20 = some (.iload_n 1, 1) := by rw [It_X0_welcome]; rfl
theorem I_X0_welcome_21 : zin zm_X0_welcome.2.2.2.2.2 21 = some (.iconst 1, 1) := by rw [It_X0_welcome]; rfl
theorem I_X0_welcome_22 : zin zm_X0_welcome.2.2.2.2.2 22 = some (.iload_n 2, 1) := by rw [It_X0_welcome]; rfl
theorem I_X0_welcome_23 : zin zm_X0_welcome.2.2.2.2.2 23 = some (.ishl, 1) := by rw [It_X0_welcome]; rfl
theorem I_X0_welcome_24 : zin zm_X0_welcome.2.2.2.2.2 24 = some (.ior, 1) := by rw [It_X0_welcome]; rfl
theorem I_X0_welcome_25 : zin zm_X0_welcome.2.2.2.2.2 25 = some (.istore_n 1, 1) := by rw [It_X0_welcome]; rfl
theorem I_X0_welcome_26 : zin zm_X0_welcome.2.2.2.2.2 26 = some (.iinc 2 1, 3) := by rw [It_X0_welcome]; rfl
theorem I_X0_welcome_29 : zin zm_X0_welcome.2.2.2.2.2 29 = some (.goto (-25), 3) := by rw [It_X0_welcome]; rfl
theorem I_X0_welcome_32 : zin zm_X0_welcome.2.2.2.2.2 32 = some (.iload_n 1, 1) := by rw [It_X0_welcome]; rfl
theorem I_X0_welcome_33 : zin zm_X0_welcome.2.2.2.2.2 33 = some (.ireturn, 1) := by rw [It_X0_welcome]; rfl
theorem I_X7_rule_0 : zin zm_X7_rule.2.2.2.2.2 0 = some (.iload_n 1, 1) := by rw [It_X7_rule]; rfl
theorem I_X7_rule_1 : zin zm_X7_rule.2.2.2.2.2 1 = some (.tableswitch 99 0 6 #[43, 51, 59, 67, 75, 83, 91], 43) := by rw [It_X7_rule]; rfl
theorem I_X7_rule_44 : zin zm_X7_rule.2.2.2.2.2 44 = some (.aload_n 0, 1) := by rw [It_X7_rule]; rfl
theorem I_X7_rule_45 : zin zm_X7_rule.2.2.2.2.2 45 = some (.getfield 19, 3) := by rw [It_X7_rule]; rfl
theorem I_X7_rule_48 : zin zm_X7_rule.2.2.2.2.2 48 = some (.getfield 90, 3) := by rw [It_X7_rule]; rfl
theorem I_X7_rule_51 : zin zm_X7_rule.2.2.2.2.2 51 = some (.ireturn, 1) := by rw [It_X7_rule]; rfl
theorem I_X7_rule_52 : zin zm_X7_rule.2.2.2.2.2 52 = some (.aload_n 0, 1) := by rw [It_X7_rule]; rfl
theorem I_X7_rule_53 : zin zm_X7_rule.2.2.2.2.2 53 = some (.getfield 19, 3) := by rw [It_X7_rule]; rfl
theorem I_X7_rule_56 : zin zm_X7_rule.2.2.2.2.2 56 = some (.getfield 93, 3) := by rw [It_X7_rule]; rfl
theorem I_X7_rule_59 : zin zm_X7_rule.2.2.2.2.2 59 = some (.ireturn, 1) := by rw [It_X7_rule]; rfl
theorem I_X7_rule_60 : zin zm_X7_rule.2.2.2.2.2 60 = some (.aload_n 0, 1) := by rw [It_X7_rule]; rfl
theorem I_X7_rule_61 : zin zm_X7_rule.2.2.2.2.2 61 = some (.getfield 19, 3) := by rw [It_X7_rule]; rfl
theorem I_X7_rule_64 : zin zm_X7_rule.2.2.2.2.2 64 = some (.getfield 96, 3) := by rw [It_X7_rule]; rfl
theorem I_X7_rule_67 : zin zm_X7_rule.2.2.2.2.2 67 = some (.ireturn, 1) := by rw [It_X7_rule]; rfl
theorem I_X7_rule_68 : zin zm_X7_rule.2.2.2.2.2 68 = some (.aload_n 0, 1) := by rw [It_X7_rule]; rfl
theorem I_X7_rule_69 : zin zm_X7_rule.2.2.2.2.2 69 = some (.getfield 19, 3) := by rw [It_X7_rule]; rfl
theorem I_X7_rule_72 : zin zm_X7_rule.2.2.2.2.2 72 = some (.getfield 99, 3) := by rw [It_X7_rule]; rfl
theorem I_X7_rule_75 : zin zm_X7_rule.2.2.2.2.2 75 = some (.ireturn, 1) := by rw [It_X7_rule]; rfl
theorem I_X7_rule_76 : zin zm_X7_rule.2.2.2.2.2 76 = some (.aload_n 0, 1) := by rw [It_X7_rule]; rfl
theorem I_X7_rule_77 : zin zm_X7_rule.2.2.2.2.2 77 = some (.getfield 19, 3) := by rw [It_X7_rule]; rfl
theorem I_X7_rule_80 : zin zm_X7_rule.2.2.2.2.2 80 = some (.invokevirtual 102, 3) := by rw [It_X7_rule]; rfl
theorem I_X7_rule_83 : zin zm_X7_rule.2.2.2.2.2 83 = some (.ireturn, 1) := by rw [It_X7_rule]; rfl
theorem I_X7_rule_84 : zin zm_X7_rule.2.2.2.2.2 84 = some (.aload_n 0, 1) := by rw [It_X7_rule]; rfl
theorem I_X7_rule_85 : zin zm_X7_rule.2.2.2.2.2 85 = some (.getfield 19, 3) := by rw [It_X7_rule]; rfl
theorem I_X7_rule_88 : zin zm_X7_rule.2.2.2.2.2 88 = some (.invokevirtual 106, 3) := by rw [It_X7_rule]; rfl
theorem I_X7_rule_91 : zin zm_X7_rule.2.2.2.2.2 91 = some (.ireturn, 1) := by rw [It_X7_rule]; rfl
theorem I_X7_rule_92 : zin zm_X7_rule.2.2.2.2.2 92 = some (.aload_n 0, 1) := by rw [It_X7_rule]; rfl
theorem I_X7_rule_93 : zin zm_X7_rule.2.2.2.2.2 93 = some (.getfield 19, 3) := by rw [It_X7_rule]; rfl
theorem I_X7_rule_96 : zin zm_X7_rule.2.2.2.2.2 96 = some (.invokevirtual 109, 3) := by rw [It_X7_rule]; rfl
theorem I_X7_rule_99 : zin zm_X7_rule.2.2.2.2.2 99 = some (.ireturn, 1) := by rw [It_X7_rule]; rfl
theorem I_X7_rule_100 : zin zm_X7_rule.2.2.2.2.2 100 = some (.iconst (-1), 1) := by rw [It_X7_rule]; rfl
theorem I_X7_rule_101 : zin zm_X7_rule.2.2.2.2.2 101 = some (.ireturn, 1) := by rw [It_X7_rule]; rfl
theorem I_X8_rule_0 : zin zm_X8_rule.2.2.2.2.2 0 = some (.iconst 0, 1) := by rw [It_X8_rule]; rfl
theorem I_X8_rule_1 : zin zm_X8_rule.2.2.2.2.2 1 = some (.istore_n 2, 1) := by rw [It_X8_rule]; rfl
theorem I_X8_rule_2 : zin zm_X8_rule.2.2.2.2.2 2 = some (.iconst 0, 1) := by rw [It_X8_rule]; rfl
theorem I_X8_rule_3 : zin zm_X8_rule.2.2.2.2.2 3 = some (.istore_n 3, 1) := by rw [It_X8_rule]; rfl
theorem I_X8_rule_4 : zin zm_X8_rule.2.2.2.2.2 4 = some (.iload_n 3, 1) := by rw [It_X8_rule]; rfl
theorem I_X8_rule_5 : zin zm_X8_rule.2.2.2.2.2 5 = some (.aload_n 0, 1) := by rw [It_X8_rule]; rfl
theorem I_X8_rule_6 : zin zm_X8_rule.2.2.2.2.2 6 = some (.getfield 131, 3) := by rw [It_X8_rule]; rfl
theorem I_X8_rule_9 : zin zm_X8_rule.2.2.2.2.2 9 = some (.if_icmp .ge 28, 3) := by rw [It_X8_rule]; rfl
theorem I_X8_rule_12 : zin zm_X8_rule.2.2.2.2.2 12 = some (.iload_n 2, 1) := by rw [It_X8_rule]; rfl
theorem I_X8_rule_13 : zin zm_X8_rule.2.2.2.2.2 13 = some (.aload_n 0, 1) := by rw [It_X8_rule]; rfl
theorem I_X8_rule_14 : zin zm_X8_rule.2.2.2.2.2 14 = some (.iconst 0, 1) := by rw [It_X8_rule]; rfl
theorem I_X8_rule_15 : zin zm_X8_rule.2.2.2.2.2 15 = some (.iload_n 3, 1) := by rw [It_X8_rule]; rfl
theorem I_X8_rule_16 : zin zm_X8_rule.2.2.2.2.2 16 = some (.invokevirtual 147, 3) := by rw [It_X8_rule]; rfl
theorem I_X8_rule_19 : zin zm_X8_rule.2.2.2.2.2 19 = some (.ifCond .eq 9, 3) := by rw [It_X8_rule]; rfl
theorem I_X8_rule_22 : zin zm_X8_rule.2.2.2.2.2 22 = some (.iconst 1, 1) := by rw [It_X8_rule]; rfl
theorem I_X8_rule_23 : zin zm_X8_rule.2.2.2.2.2 23 = some (.iload_n 3, 1) := by rw [It_X8_rule]; rfl
theorem I_X8_rule_24 : zin zm_X8_rule.2.2.2.2.2 24 = some (.ishl, 1) := by rw [It_X8_rule]; rfl
theorem I_X8_rule_25 : zin zm_X8_rule.2.2.2.2.2 25 = some (.goto 4, 3) := by rw [It_X8_rule]; rfl
theorem I_X8_rule_28 : zin zm_X8_rule.2.2.2.2.2 28 = some (.iconst 0, 1) := by rw [It_X8_rule]; rfl
theorem I_X8_rule_29 : zin zm_X8_rule.2.2.2.2.2 29 = some (.ior, 1) := by rw [It_X8_rule]; rfl
theorem I_X8_rule_30 : zin zm_X8_rule.2.2.2.2.2 30 = some (.istore_n 2, 1) := by rw [It_X8_rule]; rfl
theorem I_X8_rule_31 : zin zm_X8_rule.2.2.2.2.2 31 = some (.iinc 3 1, 3) := by rw [It_X8_rule]; rfl
theorem I_X8_rule_34 : zin zm_X8_rule.2.2.2.2.2 34 = some (.goto (-30), 3) := by rw [It_X8_rule]; rfl
theorem I_X8_rule_37 : zin zm_X8_rule.2.2.2.2.2 37 = some (.iload_n 1, 1) := by rw [It_X8_rule]; rfl
theorem I_X8_rule_38 : zin zm_X8_rule.2.2.2.2.2 38 = some (.tableswitch 89 0 6 #[42, 47, 57, 65, 73, 81, 87], 42) := by rw [It_X8_rule]; rfl
theorem I_X8_rule_80 : zin zm_X8_rule.2.2.2.2.2 80 = some (.aload_n 0, 1) := by rw [It_X8_rule]; rfl
theorem I_X8_rule_81 : zin zm_X8_rule.2.2.2.2.2 81 = some (.getfield 131, 3) := by rw [It_X8_rule]; rfl
theorem I_X8_rule_84 : zin zm_X8_rule.2.2.2.2.2 84 = some (.ireturn, 1) := by rw [It_X8_rule]; rfl
theorem I_X8_rule_85 : zin zm_X8_rule.2.2.2.2.2 85 = some (.aload_n 0, 1) := by rw [It_X8_rule]; rfl
theorem I_X8_rule_86 : zin zm_X8_rule.2.2.2.2.2 86 = some (.getfield 7, 3) := by rw [It_X8_rule]; rfl
theorem I_X8_rule_89 : zin zm_X8_rule.2.2.2.2.2 89 = some (.bipush 16, 2) := by rw [It_X8_rule]; rfl
theorem I_X8_rule_91 : zin zm_X8_rule.2.2.2.2.2 91 = some (.iaload, 1) := by rw [It_X8_rule]; rfl
theorem I_X8_rule_92 : zin zm_X8_rule.2.2.2.2.2 92 = some (.iconst 1, 1) := by rw [It_X8_rule]; rfl
theorem I_X8_rule_93 : zin zm_X8_rule.2.2.2.2.2 93 = some (.iadd, 1) := by rw [It_X8_rule]; rfl
theorem I_X8_rule_94 : zin zm_X8_rule.2.2.2.2.2 94 = some (.ireturn, 1) := by rw [It_X8_rule]; rfl
theorem I_X8_rule_95 : zin zm_X8_rule.2.2.2.2.2 95 = some (.aload_n 0, 1) := by rw [It_X8_rule]; rfl
theorem I_X8_rule_96 : zin zm_X8_rule.2.2.2.2.2 96 = some (.getfield 7, 3) := by rw [It_X8_rule]; rfl
theorem I_X8_rule_99 : zin zm_X8_rule.2.2.2.2.2 99 = some (.bipush 17, 2) := by rw [It_X8_rule]; rfl
theorem I_X8_rule_101 : zin zm_X8_rule.2.2.2.2.2 101 = some (.iaload, 1) := by rw [It_X8_rule]; rfl
theorem I_X8_rule_102 : zin zm_X8_rule.2.2.2.2.2 102 = some (.ireturn, 1) := by rw [It_X8_rule]; rfl
theorem I_X8_rule_103 : zin zm_X8_rule.2.2.2.2.2 103 = some (.aload_n 0, 1) := by rw [It_X8_rule]; rfl
theorem I_X8_rule_104 : zin zm_X8_rule.2.2.2.2.2 104 = some (.getfield 7, 3) := by rw [It_X8_rule]; rfl
theorem I_X8_rule_107 : zin zm_X8_rule.2.2.2.2.2 107 = some (.bipush 26, 2) := by rw [It_X8_rule]; rfl
theorem I_X8_rule_109 : zin zm_X8_rule.2.2.2.2.2 109 = some (.iaload, 1) := by rw [It_X8_rule]; rfl
theorem I_X8_rule_110 : zin zm_X8_rule.2.2.2.2.2 110 = some (.ireturn, 1) := by rw [It_X8_rule]; rfl
theorem I_X8_rule_111 : zin zm_X8_rule.2.2.2.2.2 111 = some (.aload_n 0, 1) := by rw [It_X8_rule]; rfl
theorem I_X8_rule_112 : zin zm_X8_rule.2.2.2.2.2 112 = some (.getfield 7, 3) := by rw [It_X8_rule]; rfl
theorem I_X8_rule_115 : zin zm_X8_rule.2.2.2.2.2 115 = some (.bipush 15, 2) := by rw [It_X8_rule]; rfl
theorem I_X8_rule_117 : zin zm_X8_rule.2.2.2.2.2 117 = some (.iaload, 1) := by rw [It_X8_rule]; rfl
theorem I_X8_rule_118 : zin zm_X8_rule.2.2.2.2.2 118 = some (.ireturn, 1) := by rw [It_X8_rule]; rfl
theorem I_X8_rule_119 : zin zm_X8_rule.2.2.2.2.2 119 = some (.aload_n 0, 1) := by rw [It_X8_rule]; rfl
theorem I_X8_rule_120 : zin zm_X8_rule.2.2.2.2.2 120 = some (.iconst 0, 1) := by rw [It_X8_rule]; rfl
theorem I_X8_rule_121 : zin zm_X8_rule.2.2.2.2.2 121 = some (.invokevirtual 144, 3) := by rw [It_X8_rule]; rfl
theorem I_X8_rule_124 : zin zm_X8_rule.2.2.2.2.2 124 = some (.ireturn, 1) := by rw [It_X8_rule]; rfl
theorem I_X8_rule_125 : zin zm_X8_rule.2.2.2.2.2 125 = some (.iload_n 2, 1) := by rw [It_X8_rule]; rfl
theorem I_X8_rule_126 : zin zm_X8_rule.2.2.2.2.2 126 = some (.ireturn, 1) := by rw [It_X8_rule]; rfl
theorem I_X8_rule_127 : zin zm_X8_rule.2.2.2.2.2 127 = some (.iconst (-1), 1) := by rw [It_X8_rule]; rfl
theorem I_X8_rule_128 : zin zm_X8_rule.2.2.2.2.2 128 = some (.ireturn, 1) := by rw [It_X8_rule]; rfl
theorem G_7_90 : zlk zfls 7 90 = some (0, 2, 128) := rfl
theorem K_0_71 : zlk zmls 0 71 = some (0, 15, 1, 506) := rfl
theorem K_7_102 : zlk zmls 7 102 = some (0, 6, 0, 487) := rfl
theorem K_7_109 : zlk zmls 7 109 = some (0, 14, 0, 502) := rfl
theorem Zm_6 : zms[6]? = some zm_X0_lefts := rfl
theorem Zm_14 : zms[14]? = some zm_X0_welcome := rfl
theorem Zm_15 : zms[15]? = some zm_X0_opensTo := rfl
theorem cl_X0_lefts : zm_X0_lefts.2.2.2.2.1 = 0 := by
  unfold zm_X0_lefts
  rfl
theorem cn_X0_lefts : zm_X0_lefts.2.2.2.2.1 ≠ 12 := by
  rw [cl_X0_lefts]
  decide
theorem cn2_X0_lefts : zm_X0_lefts.2.2.2.2.1 ≠ 2 := by
  rw [cl_X0_lefts]
  decide
theorem cl_X0_opensTo : zm_X0_opensTo.2.2.2.2.1 = 0 := by
  unfold zm_X0_opensTo
  rfl
theorem cn_X0_opensTo : zm_X0_opensTo.2.2.2.2.1 ≠ 12 := by
  rw [cl_X0_opensTo]
  decide
theorem cn2_X0_opensTo : zm_X0_opensTo.2.2.2.2.1 ≠ 2 := by
  rw [cl_X0_opensTo]
  decide
theorem cl_X0_welcome : zm_X0_welcome.2.2.2.2.1 = 0 := by
  unfold zm_X0_welcome
  rfl
theorem cn_X0_welcome : zm_X0_welcome.2.2.2.2.1 ≠ 12 := by
  rw [cl_X0_welcome]
  decide
theorem cn2_X0_welcome : zm_X0_welcome.2.2.2.2.1 ≠ 2 := by
  rw [cl_X0_welcome]
  decide
theorem cl_X7_rule : zm_X7_rule.2.2.2.2.1 = 7 := by
  unfold zm_X7_rule
  rfl
theorem cn_X7_rule : zm_X7_rule.2.2.2.2.1 ≠ 12 := by
  rw [cl_X7_rule]
  decide
theorem cn2_X7_rule : zm_X7_rule.2.2.2.2.1 ≠ 2 := by
  rw [cl_X7_rule]
  decide
theorem cl_X8_rule : zm_X8_rule.2.2.2.2.1 = 8 := by
  unfold zm_X8_rule
  rfl
theorem cn_X8_rule : zm_X8_rule.2.2.2.2.1 ≠ 12 := by
  rw [cl_X8_rule]
  decide
theorem cn2_X8_rule : zm_X8_rule.2.2.2.2.1 ≠ 2 := by
  rw [cl_X8_rule]
  decide
def zor (f : Nat → Int32) : Nat → Int32
  | 0 => 0
  | n + 1 => zor f n ||| f n
/-- the bit of one whom it would open to -/
def gWl (g : Nat → Int32) (c : Nat) (p : Nat) : Int32 := if zmn (gcn g) c + (g 16 + 1) < gcn g p then 0 else (1 : Int32) <<< (Int32.ofNat p &&& 31)
def gLf (x : Int32) (p : Nat) : Int32 := zbt x p <<< (Int32.ofNat p &&& 31)
theorem zor_l0 : ∀ c, c ≤ 5 → ∀ n, n < 2 ^ c → zor (gLf (Int32.ofNat n)) c = Int32.ofNat n := by decide
/-- no hand is told of one that is not there -/
def gbi (g : Nat → Int32) (c : Nat) : Prop := ∃ n, n < 2 ^ c ∧ g 15 = Int32.ofNat n
theorem zor_l {g : Nat → Int32} {c : Nat} (hc : c ≤ 5) (h : gbi g c) : zor (gLf (g 15)) c = g 15 := by
  obtain ⟨n, h1, h2⟩ := h
  rw [h2]
  exact zor_l0 c hc n h1
theorem zie0 {P : Prop} {_ : Decidable P} (h : (if P then (0 : Int32) else 1) = 0) : P := by
  by_cases hp : P
  · exact hp
  · rw [if_neg hp] at h
    exact absurd h (by decide)
theorem zie1 {P : Prop} {_ : Decidable P} (h : ¬ (if P then (0 : Int32) else 1) = 0) : ¬ P := fun hp => by
  rw [if_pos hp] at h
  exact h rfl
def gRul (g : Nat → Int32) (c : Nat) (w : Int32) : Int32 := if w = 0 then Int32.ofNat c else if w = 1 then g 16 + 1 else if w = 2 then g 17 else if w = 3 then g 26 else if w = 4 then g 15 else if w = 5 then zmn (gcn g) c else if w = 6 then zor (gWl g c) c else -1
theorem gRul_0 {g : Nat → Int32} {c : Nat} {w : Int32} (h : w = 0) : gRul g c w = Int32.ofNat c := by subst h; rfl
theorem gRul_1 {g : Nat → Int32} {c : Nat} {w : Int32} (h : w = 1) : gRul g c w = g 16 + 1 := by subst h; rfl
theorem gRul_2 {g : Nat → Int32} {c : Nat} {w : Int32} (h : w = 2) : gRul g c w = g 17 := by subst h; rfl
theorem gRul_3 {g : Nat → Int32} {c : Nat} {w : Int32} (h : w = 3) : gRul g c w = g 26 := by subst h; rfl
theorem gRul_4 {g : Nat → Int32} {c : Nat} {w : Int32} (h : w = 4) : gRul g c w = g 15 := by subst h; rfl
theorem gRul_5 {g : Nat → Int32} {c : Nat} {w : Int32} (h : w = 5) : gRul g c w = zmn (gcn g) c := by subst h; rfl
theorem gRul_6 {g : Nat → Int32} {c : Nat} {w : Int32} (h : w = 6) : gRul g c w = zor (gWl g c) c := by subst h; rfl
theorem gRul_d {g : Nat → Int32} {c : Nat} {w : Int32} (h0 : ¬ w = 0) (h1 : ¬ w = 1) (h2 : ¬ w = 2) (h3 : ¬ w = 3) (h4 : ¬ w = 4) (h5 : ¬ w = 5) (h6 : ¬ w = 6) : gRul g c w = -1 := by
  unfold gRul
  rw [if_neg h0, if_neg h1, if_neg h2, if_neg h3, if_neg h4, if_neg h5, if_neg h6]
theorem lf_loop {m : zM} {k c : Nat} {g : Nat → Int32} (hk : zlk6 k) (hL : LV m k c g) : ∀ (j i d : Nat) (r : Option Value) (h' : zHp), i + j = c → zE none d zm_X0_lefts 4 [.ref k, .int (zor (gLf (g 15)) i), .int (Int32.ofNat i)] [] m r h' → r = some (.int (zor (gLf (g 15)) c)) ∧ h' = zhp m := by
  intro j
  induction j with
  | zero =>
    intro i d r h' hj H
    have hc5 := hL.2.1
    replace H := i_iln (q := 5) H I_X0_lefts_4 rfl rfl
    replace H := i_aln (q := 6) H I_X0_lefts_5 rfl rfl
    replace H := i_gfi (q := 9) H I_X0_lefts_6 G_0_26 cn_X0_lefts (lk_0 hk) rfl rfl
    have W := i_ic_ge (t := 32) (q := 12) H I_X0_lefts_9 (by decide) rfl
    clear H
    rcases W with ⟨c_9, H⟩ | ⟨c_9, H⟩
    · skip
      replace H := i_iln (q := 33) H I_X0_lefts_32 rfl rfl
      obtain ⟨hr, hh⟩ := i_ir H I_X0_lefts_33
      have e : i = c := by omega
      subst e
      exact ⟨hr, hh⟩
    · skip
      replace H := i_iln (q := 13) H I_X0_lefts_12 rfl rfl
      replace H := i_aln (q := 14) H I_X0_lefts_13 rfl rfl
      replace H := i_gfr (q := 17) H I_X0_lefts_14 G_0_11 cn_X0_lefts (lk_0 hk) rfl rfl
      replace H := i_iln (q := 18) H I_X0_lefts_17 rfl rfl
      have W := i_folk (k := k) hk (q := 19) H I_X0_lefts_18 rfl
      clear H
      obtain ⟨i_18, bi_18, ei_18, H⟩ := W
      replace H := i_gfi (q := 22) H I_X0_lefts_19 G_0_48 cn_X0_lefts (lk_p hk bi_18) rfl rfl
      replace H := i_iln (q := 23) H I_X0_lefts_22 rfl rfl
      replace H := i_ishl (q := 24) H I_X0_lefts_23 rfl
      replace H := i_ior (q := 25) H I_X0_lefts_24 rfl
      replace H := i_isn (q := 26) H I_X0_lefts_25 rfl rfl
      replace H := i_inc (q := 29) H I_X0_lefts_26 rfl rfl rfl
      replace H := i_goto (q := 4) H I_X0_lefts_29 (by decide)
      exfalso
      rw [hL.1] at c_9
      exact absurd ((zofn_lt (by omega) (by omega)).mp c_9) (by omega)
  | succ j ih =>
    intro i d r h' hj H
    have hc5 := hL.2.1
    replace H := i_iln (q := 5) H I_X0_lefts_4 rfl rfl
    replace H := i_aln (q := 6) H I_X0_lefts_5 rfl rfl
    replace H := i_gfi (q := 9) H I_X0_lefts_6 G_0_26 cn_X0_lefts (lk_0 hk) rfl rfl
    have W := i_ic_ge (t := 32) (q := 12) H I_X0_lefts_9 (by decide) rfl
    clear H
    rcases W with ⟨c_9, H⟩ | ⟨c_9, H⟩
    · skip
      replace H := i_iln (q := 33) H I_X0_lefts_32 rfl rfl
      obtain ⟨hr, hh⟩ := i_ir H I_X0_lefts_33
      exfalso
      rw [hL.1] at c_9
      exact c_9 ((zofn_lt (by omega) (by omega)).mpr (by omega))
    · skip
      replace H := i_iln (q := 13) H I_X0_lefts_12 rfl rfl
      replace H := i_aln (q := 14) H I_X0_lefts_13 rfl rfl
      replace H := i_gfr (q := 17) H I_X0_lefts_14 G_0_11 cn_X0_lefts (lk_0 hk) rfl rfl
      replace H := i_iln (q := 18) H I_X0_lefts_17 rfl rfl
      have W := i_folk (k := k) hk (q := 19) H I_X0_lefts_18 rfl
      clear H
      obtain ⟨i_18, bi_18, ei_18, H⟩ := W
      replace H := i_gfi (q := 22) H I_X0_lefts_19 G_0_48 cn_X0_lefts (lk_p hk bi_18) rfl rfl
      replace H := i_iln (q := 23) H I_X0_lefts_22 rfl rfl
      replace H := i_ishl (q := 24) H I_X0_lefts_23 rfl
      replace H := i_ior (q := 25) H I_X0_lefts_24 rfl
      replace H := i_isn (q := 26) H I_X0_lefts_25 rfl rfl
      replace H := i_inc (q := 29) H I_X0_lefts_26 rfl rfl rfl
      replace H := i_goto (q := 4) H I_X0_lefts_29 (by decide)
      have e : i = i_18 := zofn ei_18 (by omega) (by omega)
      subst e
      replace H : zE none d zm_X0_lefts 4 [.ref k, .int (zor (gLf (g 15)) (i + 1)), .int (Int32.ofNat (i + 1))] [] m r h' := by
        rw [show zor (gLf (g 15)) (i + 1) = zor (gLf (g 15)) i ||| (m (k + 3 + i) 3 <<< (Int32.ofNat i &&& 31)) by
          rw [(hL.2.2.1 i (by omega)).2.2.2]; rfl]
        rw [← zofn_s]
        exact H
      exact ih (i + 1) d r h' (by omega) H
theorem t_X0_lefts {d : Nat} {m : zM} {r : Option Value} {h' : zHp} {k c : Nat} {g : Nat → Int32} (hk : zlk6 k) (hL : LV m k c g) (hb : gbi g c) (H : zE none d zm_X0_lefts 0 [.ref k, .null, .null] [] m r h') : r = some (.int (g 15)) ∧ h' = zhp m := by
  replace H := i_icst (x := 0) (q := 1) H I_X0_lefts_0 (by decide) rfl
  replace H := i_isn (q := 2) H I_X0_lefts_1 rfl rfl
  replace H := i_icst (x := 0) (q := 3) H I_X0_lefts_2 (by decide) rfl
  replace H := i_isn (q := 4) H I_X0_lefts_3 rfl rfl
  rw [← zor_l hL.2.1 hb]
  exact lf_loop hk hL c 0 d r h' (by omega) H
theorem t_X0_opensTo {d : Nat} {m : zM} {r : Option Value} {h' : zHp} {k c : Nat} {g : Nat → Int32} (hk : zlk6 k) (hL : LV m k c g) {i : Nat} (hi : i < c) (H : zE none d zm_X0_opensTo 0 [.ref k, .int (Int32.ofNat i)] [] m r h') : r = some (.int (if zmn (gcn g) c + (g 16 + 1) < gcn g i then 0 else 1)) ∧ h' = zhp m := by
  have hc5 := hL.2.1
  replace H := i_aln (q := 1) H I_X0_opensTo_0 rfl rfl
  replace H := i_gfr (q := 4) H I_X0_opensTo_1 G_0_11 cn_X0_opensTo (lk_0 hk) rfl rfl
  replace H := i_iln (q := 5) H I_X0_opensTo_4 rfl rfl
  have W := i_folk (k := k) hk (q := 6) H I_X0_opensTo_5 rfl
  clear H
  obtain ⟨i_5, bi_5, ei_5, H⟩ := W
  have W := i_cv0 0 (q := 9) H I_X0_opensTo_6 K_0_51 Zm_20 rfl rfl
  clear H
  obtain ⟨r1, h1, Hc, K1, K2⟩ := W
  obtain ⟨e1, e2⟩ := t_X1_turned (lk_p hk bi_5) Hc
  have H := K1 _ _ e1 e2
  clear e1 e2 Hc K1 K2
  replace H := i_aln (q := 10) H I_X0_opensTo_9 rfl rfl
  have W := i_cv0 3 (q := 13) H I_X0_opensTo_10 K_0_75 Zm_10 rfl rfl
  clear H
  obtain ⟨r1, h1, Hc, K1, K2⟩ := W
  obtain ⟨e1, e2⟩ := t_X0_least hk hL.1 hL.2.1 Hc
  have H := K1 _ _ e1 e2
  clear e1 e2 Hc K1 K2
  replace H := i_aln (q := 14) H I_X0_opensTo_13 rfl rfl
  replace H := i_gfi (q := 17) H I_X0_opensTo_14 G_0_21 cn_X0_opensTo (lk_0 hk) rfl rfl
  replace H := i_iadd (q := 18) H I_X0_opensTo_17 rfl
  have W := i_ic_gt (t := 25) (q := 21) H I_X0_opensTo_18 (by decide) rfl
  clear H
  rcases W with ⟨c_18, H⟩ | ⟨c_18, H⟩
  · skip
    replace H := i_icst (x := 0) (q := 26) H I_X0_opensTo_25 (by decide) rfl
    obtain ⟨hr, hh⟩ := i_ir H I_X0_opensTo_26
    have e : i = i_5 := zofn ei_5 (by omega) (by omega)
    subst e
    rw [LV_mn hL, hL.2.2.2.1, show zcnt m (k + 3 + i) = gcn g i from LV_c hL hi] at c_18
    rw [if_pos c_18]
    exact ⟨hr, hh⟩
  · skip
    replace H := i_icst (x := 1) (q := 22) H I_X0_opensTo_21 (by decide) rfl
    replace H := i_goto (q := 26) H I_X0_opensTo_22 (by decide)
    obtain ⟨hr, hh⟩ := i_ir H I_X0_opensTo_26
    have e : i = i_5 := zofn ei_5 (by omega) (by omega)
    subst e
    rw [LV_mn hL, hL.2.2.2.1, show zcnt m (k + 3 + i) = gcn g i from LV_c hL hi] at c_18
    rw [if_neg c_18]
    exact ⟨hr, hh⟩
theorem wl_loop {m : zM} {k c : Nat} {g : Nat → Int32} (hk : zlk6 k) (hL : LV m k c g) : ∀ (j i d : Nat) (r : Option Value) (h' : zHp), i + j = c → zE none d zm_X0_welcome 4 [.ref k, .int (zor (gWl g c) i), .int (Int32.ofNat i)] [] m r h' → r = some (.int (zor (gWl g c) c)) ∧ h' = zhp m := by
  intro j
  induction j with
  | zero =>
    intro i d r h' hj H
    have hc5 := hL.2.1
    replace H := i_iln (q := 5) H I_X0_welcome_4 rfl rfl
    replace H := i_aln (q := 6) H I_X0_welcome_5 rfl rfl
    replace H := i_gfi (q := 9) H I_X0_welcome_6 G_0_26 cn_X0_welcome (lk_0 hk) rfl rfl
    have W := i_ic_ge (t := 32) (q := 12) H I_X0_welcome_9 (by decide) rfl
    clear H
    rcases W with ⟨c_9, H⟩ | ⟨c_9, H⟩
    · skip
      replace H := i_iln (q := 33) H I_X0_welcome_32 rfl rfl
      obtain ⟨hr, hh⟩ := i_ir H I_X0_welcome_33
      have e : i = c := by omega
      subst e
      exact ⟨hr, hh⟩
    · skip
      exfalso
      rw [hL.1] at c_9
      exact absurd ((zofn_lt (by omega) (by omega)).mp c_9) (by omega)
  | succ j ih =>
    intro i d r h' hj H
    have hc5 := hL.2.1
    replace H := i_iln (q := 5) H I_X0_welcome_4 rfl rfl
    replace H := i_aln (q := 6) H I_X0_welcome_5 rfl rfl
    replace H := i_gfi (q := 9) H I_X0_welcome_6 G_0_26 cn_X0_welcome (lk_0 hk) rfl rfl
    have W := i_ic_ge (t := 32) (q := 12) H I_X0_welcome_9 (by decide) rfl
    clear H
    rcases W with ⟨c_9, H⟩ | ⟨c_9, H⟩
    · skip
      replace H := i_iln (q := 33) H I_X0_welcome_32 rfl rfl
      obtain ⟨hr, hh⟩ := i_ir H I_X0_welcome_33
      exfalso
      rw [hL.1] at c_9
      exact c_9 ((zofn_lt (by omega) (by omega)).mpr (by omega))
    · skip
      replace H := i_aln (q := 13) H I_X0_welcome_12 rfl rfl
      replace H := i_iln (q := 14) H I_X0_welcome_13 rfl rfl
      have W := i_cv1 0 (q := 17) H I_X0_welcome_14 K_0_71 Zm_15 rfl rfl
      clear H
      obtain ⟨r1, h1, Hc, K1, K2⟩ := W
      obtain ⟨e1, e2⟩ := t_X0_opensTo hk hL (i := i) (c := c) (by omega) Hc
      have H := K1 _ _ e1 e2
      clear e1 e2 Hc K1 K2
      have W := i_if_eq (t := 26) (q := 20) H I_X0_welcome_17 (by decide) rfl
      clear H
      rcases W with ⟨c_17, H⟩ | ⟨c_17, H⟩
      · skip
        replace H := i_inc (q := 29) H I_X0_welcome_26 rfl rfl rfl
        replace H := i_goto (q := 4) H I_X0_welcome_29 (by decide)
        replace H : zE none d zm_X0_welcome 4 [.ref k, .int (zor (gWl g c) (i + 1)), .int (Int32.ofNat (i + 1))] [] m r h' := by
          rw [show zor (gWl g c) (i + 1) = zor (gWl g c) i by
            rw [zor, gWl, if_pos (zie0 c_17), Int32.or_zero]]
          rw [← zofn_s]
          exact H
        exact ih (i + 1) d r h' (by omega) H
      · skip
        replace H := i_iln (q := 21) H I_X0_welcome_20 rfl rfl
        replace H := i_icst (x := 1) (q := 22) H I_X0_welcome_21 (by decide) rfl
        replace H := i_iln (q := 23) H I_X0_welcome_22 rfl rfl
        replace H := i_ishl (q := 24) H I_X0_welcome_23 rfl
        replace H := i_ior (q := 25) H I_X0_welcome_24 rfl
        replace H := i_isn (q := 26) H I_X0_welcome_25 rfl rfl
        replace H := i_inc (q := 29) H I_X0_welcome_26 rfl rfl rfl
        replace H := i_goto (q := 4) H I_X0_welcome_29 (by decide)
        replace H : zE none d zm_X0_welcome 4 [.ref k, .int (zor (gWl g c) (i + 1)), .int (Int32.ofNat (i + 1))] [] m r h' := by
          rw [show zor (gWl g c) (i + 1) = zor (gWl g c) i ||| ((1 : Int32) <<< (Int32.ofNat i &&& 31)) by
            rw [zor, gWl, if_neg (zie1 c_17)]]
          rw [← zofn_s]
          exact H
        exact ih (i + 1) d r h' (by omega) H
theorem t_X0_welcome {d : Nat} {m : zM} {r : Option Value} {h' : zHp} {k c : Nat} {g : Nat → Int32} (hk : zlk6 k) (hL : LV m k c g) (H : zE none d zm_X0_welcome 0 [.ref k, .null, .null] [] m r h') : r = some (.int (zor (gWl g c) c)) ∧ h' = zhp m := by
  replace H := i_icst (x := 0) (q := 1) H I_X0_welcome_0 (by decide) rfl
  replace H := i_isn (q := 2) H I_X0_welcome_1 rfl rfl
  replace H := i_icst (x := 0) (q := 3) H I_X0_welcome_2 (by decide) rfl
  replace H := i_isn (q := 4) H I_X0_welcome_3 rfl rfl
  exact wl_loop hk hL c 0 d r h' (by omega) H
theorem t_X7_rule {d : Nat} {m : zM} {r : Option Value} {h' : zHp} {w : Int32} {c : Nat} {g : Nat → Int32} (hL : LV m 11 c g) (hb : gbi g c) (H : zE none d zm_X7_rule 0 [.ref 0, .int w] [] m r h') : r = some (.int (gRul g c w)) ∧ h' = zhp m := by
  replace H := i_iln (q := 1) H I_X7_rule_0 rfl rfl
  have W := i_ts1 0 (q := 44) H I_X7_rule_1 (by decide) rfl (by decide)
  clear H
  rcases W with ⟨w_1_0, H⟩ | ⟨w_1_0, H⟩
  · skip
    replace H := i_aln (q := 45) H I_X7_rule_44 rfl rfl
    replace H := i_gfr (q := 48) H I_X7_rule_45 G_7_19 cn_X7_rule LY_0 rfl rfl
    replace H := i_gfi (q := 51) H I_X7_rule_48 G_7_90 cn_X7_rule LY_11 rfl rfl
    obtain ⟨hr, hh⟩ := i_ir H I_X7_rule_51
    rw [gRul_0 w_1_0]
    rw [hL.1] at hr
    exact ⟨hr, hh⟩
  · skip
    have W := i_ts1 1 (q := 52) H I_X7_rule_1 (by decide) rfl (by decide)
    clear H
    rcases W with ⟨w_1_1, H⟩ | ⟨w_1_1, H⟩
    · skip
      replace H := i_aln (q := 53) H I_X7_rule_52 rfl rfl
      replace H := i_gfr (q := 56) H I_X7_rule_53 G_7_19 cn_X7_rule LY_0 rfl rfl
      replace H := i_gfi (q := 59) H I_X7_rule_56 G_7_93 cn_X7_rule LY_11 rfl rfl
      obtain ⟨hr, hh⟩ := i_ir H I_X7_rule_59
      rw [gRul_1 w_1_1]
      rw [hL.2.2.2.1] at hr
      exact ⟨hr, hh⟩
    · skip
      have W := i_ts1 2 (q := 60) H I_X7_rule_1 (by decide) rfl (by decide)
      clear H
      rcases W with ⟨w_1_2, H⟩ | ⟨w_1_2, H⟩
      · skip
        replace H := i_aln (q := 61) H I_X7_rule_60 rfl rfl
        replace H := i_gfr (q := 64) H I_X7_rule_61 G_7_19 cn_X7_rule LY_0 rfl rfl
        replace H := i_gfi (q := 67) H I_X7_rule_64 G_7_96 cn_X7_rule LY_11 rfl rfl
        obtain ⟨hr, hh⟩ := i_ir H I_X7_rule_67
        rw [gRul_2 w_1_2]
        rw [hL.2.2.2.2.1] at hr
        exact ⟨hr, hh⟩
      · skip
        have W := i_ts1 3 (q := 68) H I_X7_rule_1 (by decide) rfl (by decide)
        clear H
        rcases W with ⟨w_1_3, H⟩ | ⟨w_1_3, H⟩
        · skip
          replace H := i_aln (q := 69) H I_X7_rule_68 rfl rfl
          replace H := i_gfr (q := 72) H I_X7_rule_69 G_7_19 cn_X7_rule LY_0 rfl rfl
          replace H := i_gfi (q := 75) H I_X7_rule_72 G_7_99 cn_X7_rule LY_11 rfl rfl
          obtain ⟨hr, hh⟩ := i_ir H I_X7_rule_75
          rw [gRul_3 w_1_3]
          obtain ⟨a, a1, a2, a3, a4⟩ := hL.2.2.2.2.2
          have e3 : m 11 3 = g 26 := a3.trans a2.symm
          rw [e3] at hr
          exact ⟨hr, hh⟩
        · skip
          have W := i_ts1 4 (q := 76) H I_X7_rule_1 (by decide) rfl (by decide)
          clear H
          rcases W with ⟨w_1_4, H⟩ | ⟨w_1_4, H⟩
          · skip
            replace H := i_aln (q := 77) H I_X7_rule_76 rfl rfl
            replace H := i_gfr (q := 80) H I_X7_rule_77 G_7_19 cn_X7_rule LY_0 rfl rfl
            have W := i_cv0 2 (q := 83) H I_X7_rule_80 K_7_102 Zm_6 rfl rfl
            clear H
            obtain ⟨r1, h1, Hc, K1, K2⟩ := W
            obtain ⟨e1, e2⟩ := t_X0_lefts (Or.inr (Or.inl rfl)) hL hb Hc
            have H := K1 _ _ e1 e2
            clear e1 e2 Hc K1 K2
            obtain ⟨hr, hh⟩ := i_ir H I_X7_rule_83
            rw [gRul_4 w_1_4]
            exact ⟨hr, hh⟩
          · skip
            have W := i_ts1 5 (q := 84) H I_X7_rule_1 (by decide) rfl (by decide)
            clear H
            rcases W with ⟨w_1_5, H⟩ | ⟨w_1_5, H⟩
            · skip
              replace H := i_aln (q := 85) H I_X7_rule_84 rfl rfl
              replace H := i_gfr (q := 88) H I_X7_rule_85 G_7_19 cn_X7_rule LY_0 rfl rfl
              have W := i_cv0 3 (q := 91) H I_X7_rule_88 K_7_106 Zm_10 rfl rfl
              clear H
              obtain ⟨r1, h1, Hc, K1, K2⟩ := W
              obtain ⟨e1, e2⟩ := t_X0_least (Or.inr (Or.inl rfl)) hL.1 hL.2.1 Hc
              have H := K1 _ _ e1 e2
              clear e1 e2 Hc K1 K2
              obtain ⟨hr, hh⟩ := i_ir H I_X7_rule_91
              rw [gRul_5 w_1_5]
              rw [LV_mn hL] at hr
              exact ⟨hr, hh⟩
            · skip
              have W := i_ts1 6 (q := 92) H I_X7_rule_1 (by decide) rfl (by decide)
              clear H
              rcases W with ⟨w_1_6, H⟩ | ⟨w_1_6, H⟩
              · skip
                replace H := i_aln (q := 93) H I_X7_rule_92 rfl rfl
                replace H := i_gfr (q := 96) H I_X7_rule_93 G_7_19 cn_X7_rule LY_0 rfl rfl
                have W := i_cv0 2 (q := 99) H I_X7_rule_96 K_7_109 Zm_14 rfl rfl
                clear H
                obtain ⟨r1, h1, Hc, K1, K2⟩ := W
                obtain ⟨e1, e2⟩ := t_X0_welcome (Or.inr (Or.inl rfl)) hL Hc
                have H := K1 _ _ e1 e2
                clear e1 e2 Hc K1 K2
                obtain ⟨hr, hh⟩ := i_ir H I_X7_rule_99
                rw [gRul_6 w_1_6]
                exact ⟨hr, hh⟩
              · skip
                replace H := i_tsd (q := 100) H I_X7_rule_1 (by have q0 := zne w_1_0 (z := 0) (by decide); have q1 := zne w_1_1 (z := 1) (by decide); have q2 := zne w_1_2 (z := 2) (by decide); have q3 := zne w_1_3 (z := 3) (by decide); have q4 := zne w_1_4 (z := 4) (by decide); have q5 := zne w_1_5 (z := 5) (by decide); have q6 := zne w_1_6 (z := 6) (by decide); omega) (by decide)
                replace H := i_icst (x := (-1)) (q := 101) H I_X7_rule_100 (by decide) rfl
                obtain ⟨hr, hh⟩ := i_ir H I_X7_rule_101
                rw [gRul_d w_1_0 w_1_1 w_1_2 w_1_3 w_1_4 w_1_5 w_1_6]
                exact ⟨hr, hh⟩
theorem ru_loop {m : zM} {w : Int32} {c : Nat} {g : Nat → Int32} (hP : PG m 0 g) (hg : gok g c) (hc : m 71 2 = Int32.ofNat c) : ∀ (j i d : Nat) (r : Option Value) (h' : zHp), i + j = c → zE none d zm_X8_rule 4 [.ref 71, .int w, .int (zor (gWl g c) i), .int (Int32.ofNat i)] [] m r h' → zE none d zm_X8_rule 37 [.ref 71, .int w, .int (zor (gWl g c) c), .int (Int32.ofNat c)] [] m r h' := by
  intro j
  induction j with
  | zero =>
    intro i d r h' hj H
    have hc5 := hg.1
    replace H := i_iln (q := 5) H I_X8_rule_4 rfl rfl
    replace H := i_aln (q := 6) H I_X8_rule_5 rfl rfl
    replace H := i_gfi (q := 9) H I_X8_rule_6 G_8_131 cn_X8_rule LY_71 rfl rfl
    have W := i_ic_ge (t := 37) (q := 12) H I_X8_rule_9 (by decide) rfl
    clear H
    rcases W with ⟨c_9, H⟩ | ⟨c_9, H⟩
    · skip
      have e : i = c := by omega
      subst e
      exact H
    · skip
      exfalso
      rw [hc] at c_9
      exact absurd ((zofn_lt (by omega) (by omega)).mp c_9) (by omega)
  | succ j ih =>
    intro i d r h' hj H
    have hc5 := hg.1
    replace H := i_iln (q := 5) H I_X8_rule_4 rfl rfl
    replace H := i_aln (q := 6) H I_X8_rule_5 rfl rfl
    replace H := i_gfi (q := 9) H I_X8_rule_6 G_8_131 cn_X8_rule LY_71 rfl rfl
    have W := i_ic_ge (t := 37) (q := 12) H I_X8_rule_9 (by decide) rfl
    clear H
    rcases W with ⟨c_9, H⟩ | ⟨c_9, H⟩
    · skip
      exfalso
      rw [hc] at c_9
      exact c_9 ((zofn_lt (by omega) (by omega)).mpr (by omega))
    · skip
      replace H := i_iln (q := 13) H I_X8_rule_12 rfl rfl
      replace H := i_aln (q := 14) H I_X8_rule_13 rfl rfl
      replace H := i_icst (x := 0) (q := 15) H I_X8_rule_14 (by decide) rfl
      replace H := i_iln (q := 16) H I_X8_rule_15 rfl rfl
      have W := i_cv2 0 (q := 19) H I_X8_rule_16 K_8_147 Zm_132 rfl rfl
      clear H
      obtain ⟨r1, h1, Hc, K1, K2⟩ := W
      obtain ⟨e1, e2⟩ := t_X8_isNear (pg := 0) hP hg hc (i := i) (by omega) Hc
      have H := K1 _ _ e1 e2
      clear e1 e2 Hc K1 K2
      have W := i_if_eq (t := 28) (q := 22) H I_X8_rule_19 (by decide) rfl
      clear H
      rcases W with ⟨c_19, H⟩ | ⟨c_19, H⟩
      · skip
        replace H := i_icst (x := 0) (q := 29) H I_X8_rule_28 (by decide) rfl
        replace H := i_ior (q := 30) H I_X8_rule_29 rfl
        replace H := i_isn (q := 31) H I_X8_rule_30 rfl rfl
        replace H := i_inc (q := 34) H I_X8_rule_31 rfl rfl rfl
        replace H := i_goto (q := 4) H I_X8_rule_34 (by decide)
        replace H : zE none d zm_X8_rule 4 [.ref 71, .int w, .int (zor (gWl g c) (i + 1)), .int (Int32.ofNat (i + 1))] [] m r h' := by
          rw [show zor (gWl g c) (i + 1) = zor (gWl g c) i ||| 0 by
            rw [zor, gWl, if_pos (zie0 c_19)]]
          rw [← zofn_s]
          exact H
        exact ih (i + 1) d r h' (by omega) H
      · skip
        replace H := i_icst (x := 1) (q := 23) H I_X8_rule_22 (by decide) rfl
        replace H := i_iln (q := 24) H I_X8_rule_23 rfl rfl
        replace H := i_ishl (q := 25) H I_X8_rule_24 rfl
        replace H := i_goto (q := 29) H I_X8_rule_25 (by decide)
        replace H := i_ior (q := 30) H I_X8_rule_29 rfl
        replace H := i_isn (q := 31) H I_X8_rule_30 rfl rfl
        replace H := i_inc (q := 34) H I_X8_rule_31 rfl rfl rfl
        replace H := i_goto (q := 4) H I_X8_rule_34 (by decide)
        replace H : zE none d zm_X8_rule 4 [.ref 71, .int w, .int (zor (gWl g c) (i + 1)), .int (Int32.ofNat (i + 1))] [] m r h' := by
          rw [show zor (gWl g c) (i + 1) = zor (gWl g c) i ||| ((1 : Int32) <<< (Int32.ofNat i &&& 31)) by
            rw [zor, gWl, if_neg (zie1 c_19)]]
          rw [← zofn_s]
          exact H
        exact ih (i + 1) d r h' (by omega) H
theorem t_X8_rule {d : Nat} {m : zM} {r : Option Value} {h' : zHp} {w : Int32} {c : Nat} {g : Nat → Int32} (hP : PG m 0 g) (hg : gok g c) (hc : m 71 2 = Int32.ofNat c) (H : zE none d zm_X8_rule 0 [.ref 71, .int w, .null, .null] [] m r h') : r = some (.int (gRul g c w)) ∧ h' = zhp m := by
  replace H := i_icst (x := 0) (q := 1) H I_X8_rule_0 (by decide) rfl
  replace H := i_isn (q := 2) H I_X8_rule_1 rfl rfl
  replace H := i_icst (x := 0) (q := 3) H I_X8_rule_2 (by decide) rfl
  replace H := i_isn (q := 4) H I_X8_rule_3 rfl rfl
  replace H := ru_loop hP hg hc c 0 d r h' (by omega) H
  replace H := i_iln (q := 38) H I_X8_rule_37 rfl rfl
  have W := i_ts1 0 (q := 80) H I_X8_rule_38 (by decide) rfl (by decide)
  clear H
  rcases W with ⟨w_38_0, H⟩ | ⟨w_38_0, H⟩
  · skip
    replace H := i_aln (q := 81) H I_X8_rule_80 rfl rfl
    replace H := i_gfi (q := 84) H I_X8_rule_81 G_8_131 cn_X8_rule LY_71 rfl rfl
    obtain ⟨hr, hh⟩ := i_ir H I_X8_rule_84
    rw [gRul_0 w_38_0]
    rw [hc] at hr
    exact ⟨hr, hh⟩
  · skip
    have W := i_ts1 1 (q := 85) H I_X8_rule_38 (by decide) rfl (by decide)
    clear H
    rcases W with ⟨w_38_1, H⟩ | ⟨w_38_1, H⟩
    · skip
      replace H := i_aln (q := 86) H I_X8_rule_85 rfl rfl
      replace H := i_gfr (q := 89) H I_X8_rule_86 G_8_7 cn_X8_rule LY_71 rfl rfl
      replace H := i_bip (x := 16) (q := 91) H I_X8_rule_89 (by decide) rfl
      have W := i_ia (q := 92) H I_X8_rule_91 LY_72 rfl
      clear H
      obtain ⟨i_91, bi_91, ei_91, H⟩ := W
      replace H := i_icst (x := 1) (q := 93) H I_X8_rule_92 (by decide) rfl
      replace H := i_iadd (q := 94) H I_X8_rule_93 rfl
      obtain ⟨hr, hh⟩ := i_ir H I_X8_rule_94
      rw [gRul_1 w_38_1]
      have e : i_91 = 16 := (zofn (i := 16) ei_91 (by decide) (by omega)).symm
      subst e
      have e2 := hP.2 16 (by omega)
      rw [Nat.zero_add] at e2
      rw [e2] at hr
      exact ⟨hr, hh⟩
    · skip
      have W := i_ts1 2 (q := 95) H I_X8_rule_38 (by decide) rfl (by decide)
      clear H
      rcases W with ⟨w_38_2, H⟩ | ⟨w_38_2, H⟩
      · skip
        replace H := i_aln (q := 96) H I_X8_rule_95 rfl rfl
        replace H := i_gfr (q := 99) H I_X8_rule_96 G_8_7 cn_X8_rule LY_71 rfl rfl
        replace H := i_bip (x := 17) (q := 101) H I_X8_rule_99 (by decide) rfl
        have W := i_ia (q := 102) H I_X8_rule_101 LY_72 rfl
        clear H
        obtain ⟨i_101, bi_101, ei_101, H⟩ := W
        obtain ⟨hr, hh⟩ := i_ir H I_X8_rule_102
        rw [gRul_2 w_38_2]
        have e : i_101 = 17 := (zofn (i := 17) ei_101 (by decide) (by omega)).symm
        subst e
        have e2 := hP.2 17 (by omega)
        rw [Nat.zero_add] at e2
        rw [e2] at hr
        exact ⟨hr, hh⟩
      · skip
        have W := i_ts1 3 (q := 103) H I_X8_rule_38 (by decide) rfl (by decide)
        clear H
        rcases W with ⟨w_38_3, H⟩ | ⟨w_38_3, H⟩
        · skip
          replace H := i_aln (q := 104) H I_X8_rule_103 rfl rfl
          replace H := i_gfr (q := 107) H I_X8_rule_104 G_8_7 cn_X8_rule LY_71 rfl rfl
          replace H := i_bip (x := 26) (q := 109) H I_X8_rule_107 (by decide) rfl
          have W := i_ia (q := 110) H I_X8_rule_109 LY_72 rfl
          clear H
          obtain ⟨i_109, bi_109, ei_109, H⟩ := W
          obtain ⟨hr, hh⟩ := i_ir H I_X8_rule_110
          rw [gRul_3 w_38_3]
          have e : i_109 = 26 := (zofn (i := 26) ei_109 (by decide) (by omega)).symm
          subst e
          have e2 := hP.2 26 (by omega)
          rw [Nat.zero_add] at e2
          rw [e2] at hr
          exact ⟨hr, hh⟩
        · skip
          have W := i_ts1 4 (q := 111) H I_X8_rule_38 (by decide) rfl (by decide)
          clear H
          rcases W with ⟨w_38_4, H⟩ | ⟨w_38_4, H⟩
          · skip
            replace H := i_aln (q := 112) H I_X8_rule_111 rfl rfl
            replace H := i_gfr (q := 115) H I_X8_rule_112 G_8_7 cn_X8_rule LY_71 rfl rfl
            replace H := i_bip (x := 15) (q := 117) H I_X8_rule_115 (by decide) rfl
            have W := i_ia (q := 118) H I_X8_rule_117 LY_72 rfl
            clear H
            obtain ⟨i_117, bi_117, ei_117, H⟩ := W
            obtain ⟨hr, hh⟩ := i_ir H I_X8_rule_118
            rw [gRul_4 w_38_4]
            have e : i_117 = 15 := (zofn (i := 15) ei_117 (by decide) (by omega)).symm
            subst e
            have e2 := hP.2 15 (by omega)
            rw [Nat.zero_add] at e2
            rw [e2] at hr
            exact ⟨hr, hh⟩
          · skip
            have W := i_ts1 5 (q := 119) H I_X8_rule_38 (by decide) rfl (by decide)
            clear H
            rcases W with ⟨w_38_5, H⟩ | ⟨w_38_5, H⟩
            · skip
              replace H := i_aln (q := 120) H I_X8_rule_119 rfl rfl
              replace H := i_icst (x := 0) (q := 121) H I_X8_rule_120 (by decide) rfl
              have W := i_cv1 2 (q := 124) H I_X8_rule_121 K_8_144 Zm_130 rfl rfl
              clear H
              obtain ⟨r1, h1, Hc, K1, K2⟩ := W
              obtain ⟨e1, e2⟩ := t_X8_leastOn (pg := 0) hP hg hc Hc
              have H := K1 _ _ e1 e2
              clear e1 e2 Hc K1 K2
              obtain ⟨hr, hh⟩ := i_ir H I_X8_rule_124
              rw [gRul_5 w_38_5]
              exact ⟨hr, hh⟩
            · skip
              have W := i_ts1 6 (q := 125) H I_X8_rule_38 (by decide) rfl (by decide)
              clear H
              rcases W with ⟨w_38_6, H⟩ | ⟨w_38_6, H⟩
              · skip
                replace H := i_iln (q := 126) H I_X8_rule_125 rfl rfl
                obtain ⟨hr, hh⟩ := i_ir H I_X8_rule_126
                rw [gRul_6 w_38_6]
                exact ⟨hr, hh⟩
              · skip
                replace H := i_tsd (q := 127) H I_X8_rule_38 (by have q0 := zne w_38_0 (z := 0) (by decide); have q1 := zne w_38_1 (z := 1) (by decide); have q2 := zne w_38_2 (z := 2) (by decide); have q3 := zne w_38_3 (z := 3) (by decide); have q4 := zne w_38_4 (z := 4) (by decide); have q5 := zne w_38_5 (z := 5) (by decide); have q6 := zne w_38_6 (z := 6) (by decide); omega) (by decide)
                replace H := i_icst (x := (-1)) (q := 128) H I_X8_rule_127 (by decide) rfl
                obtain ⟨hr, hh⟩ := i_ir H I_X8_rule_128
                rw [gRul_d w_38_0 w_38_1 w_38_2 w_38_3 w_38_4 w_38_5 w_38_6]
                exact ⟨hr, hh⟩
end
section
/-! the relation RC -/
theorem LY_12 : zLY[12]? = some (Sum.inl 4, [some (.ref 14), some (.ref 15), some (.ref 16), some (.ref 17), some (.ref 18)]) := rfl
theorem LY_14 : zLY[14]? = some (Sum.inr 1, List.replicate 4 none) := rfl
theorem LY_15 : zLY[15]? = some (Sum.inr 1, List.replicate 4 none) := rfl
theorem LY_16 : zLY[16]? = some (Sum.inr 1, List.replicate 4 none) := rfl
theorem LY_17 : zLY[17]? = some (Sum.inr 1, List.replicate 4 none) := rfl
theorem LY_18 : zLY[18]? = some (Sum.inr 1, List.replicate 4 none) := rfl
theorem LY_47 : zLY[47]? = some (Sum.inr 0, [some (.ref 48), some (.ref 49), none, none, none, none]) := rfl
theorem LY_50 : zLY[50]? = some (Sum.inr 1, List.replicate 4 none) := rfl
theorem LY_51 : zLY[51]? = some (Sum.inr 1, List.replicate 4 none) := rfl
theorem LY_52 : zLY[52]? = some (Sum.inr 1, List.replicate 4 none) := rfl
theorem LY_53 : zLY[53]? = some (Sum.inr 1, List.replicate 4 none) := rfl
theorem LY_54 : zLY[54]? = some (Sum.inr 1, List.replicate 4 none) := rfl
theorem LY_55 : zLY[55]? = some (Sum.inr 0, [some (.ref 56), some (.ref 57), none, none, none, none]) := rfl
theorem LY_58 : zLY[58]? = some (Sum.inr 1, List.replicate 4 none) := rfl
theorem LY_59 : zLY[59]? = some (Sum.inr 1, List.replicate 4 none) := rfl
theorem LY_60 : zLY[60]? = some (Sum.inr 1, List.replicate 4 none) := rfl
theorem LY_61 : zLY[61]? = some (Sum.inr 1, List.replicate 4 none) := rfl
theorem LY_62 : zLY[62]? = some (Sum.inr 1, List.replicate 4 none) := rfl
theorem gok_11 {m : zM} {c : Nat} {g : Nat → Int32} (ht : zTy m) (hL : LV m 11 c g) : gok g c := by
  obtain ⟨a1, a2, a3, a4, a5, a6⟩ := hL
  refine ⟨a2, fun i hi => ?_, ?_⟩
  · obtain ⟨y1, y2, y3, y4⟩ := a3 i hi
    rw [← y1, ← y2, ← y3]
    have hi5 : i = 0 ∨ i = 1 ∨ i = 2 ∨ i = 3 ∨ i = 4 := by omega
    rcases hi5 with rfl | rfl | rfl | rfl | rfl
    · exact ⟨zTy_r (k := 14) (i := 0) ht rfl ⟨_, LY_14, rfl⟩ rfl, zTy_r (k := 14) (i := 1) ht rfl ⟨_, LY_14, rfl⟩ rfl, zTy_r (k := 14) (i := 2) ht rfl ⟨_, LY_14, rfl⟩ rfl⟩
    · exact ⟨zTy_r (k := 15) (i := 0) ht rfl ⟨_, LY_15, rfl⟩ rfl, zTy_r (k := 15) (i := 1) ht rfl ⟨_, LY_15, rfl⟩ rfl, zTy_r (k := 15) (i := 2) ht rfl ⟨_, LY_15, rfl⟩ rfl⟩
    · exact ⟨zTy_r (k := 16) (i := 0) ht rfl ⟨_, LY_16, rfl⟩ rfl, zTy_r (k := 16) (i := 1) ht rfl ⟨_, LY_16, rfl⟩ rfl, zTy_r (k := 16) (i := 2) ht rfl ⟨_, LY_16, rfl⟩ rfl⟩
    · exact ⟨zTy_r (k := 17) (i := 0) ht rfl ⟨_, LY_17, rfl⟩ rfl, zTy_r (k := 17) (i := 1) ht rfl ⟨_, LY_17, rfl⟩ rfl, zTy_r (k := 17) (i := 2) ht rfl ⟨_, LY_17, rfl⟩ rfl⟩
    · exact ⟨zTy_r (k := 18) (i := 0) ht rfl ⟨_, LY_18, rfl⟩ rfl, zTy_r (k := 18) (i := 1) ht rfl ⟨_, LY_18, rfl⟩ rfl, zTy_r (k := 18) (i := 2) ht rfl ⟨_, LY_18, rfl⟩ rfl⟩
  · rw [← a5]
    exact zTy_r (k := 11) (i := 5) ht rfl ⟨_, LY_11, rfl⟩ rfl
/-- a page -/
def pgf (m : zM) (pg : Nat) : Nat → Int32 := fun j => m 72 (pg + j)
theorem PG_f {m : zM} {pg : Nat} (h : pg + 27 ≤ 135) : PG m pg (pgf m pg) := ⟨h, fun _ _ => rfl⟩
theorem LV_g {m : zM} {k c : Nat} {g u : Nat → Int32} (h : LV m k c g) (e : ∀ j, j < 27 → u j = g j) : LV m k c u := by
  obtain ⟨a1, a2, a3, a4, a5, a, a6, a7, a8, a9⟩ := h
  refine ⟨a1, a2, fun i hi => ?_, ?_, ?_, a, a6, ?_, a8, fun i hi => ?_⟩
  · rw [e i (by omega), e (5 + i) (by omega), e (10 + i) (by omega), e 15 (by omega)]
    exact a3 i hi
  · rw [e 16 (by omega)]; exact a4
  · rw [e 17 (by omega)]; exact a5
  · rw [e 26 (by omega)]; exact a7
  · rw [e (18 + i) (by omega)]; exact a9 i hi
/-- lock k is page pg -/
def LI (m : zM) (k pg c : Nat) : Prop := LV m k c (pgf m pg) ∧ gbi (pgf m pg) c
def zlk3 (k pg : Nat) : Prop := (k = 11 ∧ pg = 0) ∨ (k = 47 ∧ pg = 27) ∨ (k = 55 ∧ pg = 54)
def qLI (a b k pg : Nat) : Bool := (Nat.beq a k && Nat.ble 2 b && Nat.ble b 5) || (Nat.beq a (k + 2) && Nat.blt b 8) || (Nat.ble (k + 3) a && Nat.ble a (k + 7) && Nat.blt b 4) || (Nat.beq a 72 && Nat.ble pg b && Nat.blt b (pg + 27))
theorem qLI_i {a b k pg : Nat} (h : (a = k ∧ 2 ≤ b ∧ b ≤ 5) ∨ (a = k + 2 ∧ b < 8) ∨ (k + 3 ≤ a ∧ a ≤ k + 7 ∧ b < 4) ∨ (a = 72 ∧ pg ≤ b ∧ b < pg + 27)) : qLI a b k pg = true := by
  simp only [qLI, Bool.or_eq_true, Bool.and_eq_true, Nat.beq_eq, Nat.blt_eq, Nat.ble_eq]
  omega
theorem LI_e {m m1 : zM} {k pg c : Nat} (hk : zlk3 k pg) (h : LI m k pg c) (he : zqe (fun a b => qLI a b k pg) m m1) : LI m1 k pg c := by
  obtain ⟨⟨a1, a2, a3, a4, a5, a, a6, a7, a8, a9⟩, n, n1, n2⟩ := h
  have hk' : k ≤ 55 ∧ pg ≤ 54 := by unfold zlk3 at hk; omega
  have E : ∀ x y, x < 86 → y < 170 → ((x = k ∧ 2 ≤ y ∧ y ≤ 5) ∨ (x = k + 2 ∧ y < 8) ∨ (k + 3 ≤ x ∧ x ≤ k + 7 ∧ y < 4) ∨ (x = 72 ∧ pg ≤ y ∧ y < pg + 27)) → m1 x y = m x y := fun x y hx hy h => he x y (by rw [Nat.blt_eq]; exact hx) (by rw [Nat.blt_eq]; exact hy) (qLI_i h)
  have G : ∀ j, j < 27 → pgf m1 pg j = pgf m pg j := fun j hj => E 72 (pg + j) (by omega) (by omega) (by omega)
  refine ⟨LV_g (g := pgf m pg) ⟨?_, a2, fun i hi => ?_, ?_, ?_, a, a6, a7, ?_, fun i hi => ?_⟩ G, n, n1, ?_⟩
  · rw [E k 2 (by omega) (by omega) (by omega)]; exact a1
  · rw [E (k + 3 + i) 0 (by omega) (by omega) (by omega), E (k + 3 + i) 1 (by omega) (by omega) (by omega), E (k + 3 + i) 2 (by omega) (by omega) (by omega), E (k + 3 + i) 3 (by omega) (by omega) (by omega)]
    exact a3 i hi
  · rw [E k 4 (by omega) (by omega) (by omega)]; exact a4
  · rw [E k 5 (by omega) (by omega) (by omega)]; exact a5
  · rw [E k 3 (by omega) (by omega) (by omega)]; exact a8
  · rw [E (k + 2) i (by omega) (by omega) (by omega)]; exact a9 i hi
  · rw [G 15 (by omega)]; exact n2
def RC (m : zM) : Prop := (∃ n, RT m n) ∧ zMk m ∧ (∃ s, s ≤ 6 ∧ m 40 3 = Int32.ofNat s ∧ m 71 23 = Int32.ofNat s) ∧ (∀ k, k < 2 → m 45 k = m 82 k) ∧ ∃ c, m 71 2 = Int32.ofNat c ∧ LI m 11 0 c ∧ ∀ k, k < 2 → ¬ m 45 k = 0 → LI m (47 + 8 * k) (27 * (k + 1)) c
/-- what RC speaks of but tape, lock and page -/
def qC0 (k i : Nat) : Bool := (Nat.beq k 71 && (Nat.beq i 2 || Nat.beq i 23)) || (Nat.beq k 40 && Nat.beq i 3) || (Nat.beq k 45 && Nat.blt i 2) || (Nat.beq k 82 && Nat.blt i 2) || (Nat.beq k 73 && Nat.blt i 4) || qLI k i 47 27 || qLI k i 55 54
def qC (k i : Nat) : Bool := qT k i || qC0 k i || qLI k i 11 0
theorem qC_p : zqp qC = true := by decide +kernel
theorem RC_x {m m1 : zM} (h : RC m) (he : zqe qC0 m m1) (ht : ∃ n, RT m1 n) (hl : ∀ c, LI m 11 0 c → LI m1 11 0 c) : RC m1 := by
  obtain ⟨h1, ⟨k0, k1, k2, k3⟩, ⟨s, s1, s2, s3⟩, h5, c, c1, c2, c3⟩ := h
  have e45 : ∀ k, k < 2 → m1 45 k = m 45 k := fun k hk => by
    rcases zk2 hk with rfl | rfl
    · exact he 45 0 rfl rfl rfl
    · exact he 45 1 rfl rfl rfl
  refine ⟨ht, ⟨(he 73 0 rfl rfl rfl).trans k0, (he 73 1 rfl rfl rfl).trans k1, (he 73 2 rfl rfl rfl).trans k2, (he 73 3 rfl rfl rfl).trans k3⟩, ⟨s, s1, (he 40 3 rfl rfl rfl).trans s2, (he 71 23 rfl rfl rfl).trans s3⟩, fun k hk => ?_, c, (he 71 2 rfl rfl rfl).trans c1, hl c c2, fun k hk hn => ?_⟩
  · rw [e45 k hk, h5 k hk]
    rcases zk2 hk with rfl | rfl
    · exact (he 82 0 rfl rfl rfl).symm
    · exact (he 82 1 rfl rfl rfl).symm
  · rw [e45 k hk] at hn
    rcases zk2 hk with rfl | rfl
    · exact LI_e (Or.inr (Or.inl ⟨rfl, rfl⟩)) (c3 0 hk hn) (fun k i a b q => he k i a b (by simp [qC0, q]))
    · exact LI_e (Or.inr (Or.inr ⟨rfl, rfl⟩)) (c3 1 hk hn) (fun k i a b q => he k i a b (by simp [qC0, q]))
theorem RC_e {m m1 : zM} (h : RC m) (he : zqe qC m m1) : RC m1 := by
  obtain ⟨n, hn⟩ := h.1
  exact RC_x h (fun k i a b q => he k i a b (by simp [qC, q])) ⟨n, RT_e hn (fun k i a b q => he k i a b (by simp [qC, q]))⟩ (fun c hc => LI_e (Or.inl ⟨rfl, rfl⟩) hc (fun k i a b q => he k i a b (by simp [qC, q])))
theorem RC_f {md : yMd} {m m1 : zM} (h : RC m) (hf : zfm md m m1) (hc : zqm qC md = true) : RC m1 := RC_e h (zq_f qC_p hc hf)
theorem pc_fault {m : zM} {r : Option Value} {h' : zHp} (ht : zTy m) (hR : RC m) (H : zEv none 19 zm_X7_fault (0, lv_args 0 [.ref 0], [], zhp m) r h') : ∃ m1 v, r = some (.int v) ∧ h' = zhp m1 ∧ zTy m1 ∧ ∀ r2 h2, zEv none 19 zm_X8_fault (0, lv_args 0 [.ref 71], [], zhp m1) r2 h2 → ∃ m2 v2, r2 = some (.int v2) ∧ h2 = zhp m2 ∧ zTy m2 ∧ RC m2 := by
  obtain ⟨m1, v, a1, a2, a3, a4⟩ := e_X7_fault ht H
  refine ⟨m1, v, a1, a2, a3, fun r2 h2 H2 => ?_⟩
  obtain ⟨m2, v2, b1, b2, b3, b4⟩ := e_X8_fault a3 H2
  exact ⟨m2, v2, b1, b2, b3, RC_f (RC_f hR a4 (by decide +kernel)) b4 (by decide +kernel)⟩
theorem pc_runs {m : zM} {r : Option Value} {h' : zHp} {x0 : Int32} (ht : zTy m) (hR : RC m) (H : zEv none 19 zm_X7_runs (0, lv_args 0 [.ref 0, .int x0], [], zhp m) r h') : ∃ m1 v, r = some (.int v) ∧ h' = zhp m1 ∧ zTy m1 ∧ ∀ r2 h2, zEv none 19 zm_X8_runs (0, lv_args 0 [.ref 71, .int x0], [], zhp m1) r2 h2 → ∃ m2 v2, r2 = some (.int v2) ∧ h2 = zhp m2 ∧ zTy m2 ∧ RC m2 := by
  obtain ⟨m1, v, a1, a2, a3, a4⟩ := e_X7_runs ht H
  refine ⟨m1, v, a1, a2, a3, fun r2 h2 H2 => ?_⟩
  obtain ⟨m2, v2, b1, b2, b3, b4⟩ := e_X8_runs a3 H2
  exact ⟨m2, v2, b1, b2, b3, RC_f (RC_f hR a4 (by decide +kernel)) b4 (by decide +kernel)⟩
theorem pc_ahead {m : zM} {r : Option Value} {h' : zHp} {x0 : Int32} (ht : zTy m) (hR : RC m) (H : zEv none 19 zm_X7_ahead (0, lv_args 0 [.ref 0, .int x0], [], zhp m) r h') : ∃ m1 v, r = some (.int v) ∧ h' = zhp m1 ∧ zTy m1 ∧ ∀ r2 h2, zEv none 19 zm_X8_ahead (0, lv_args 0 [.ref 71, .int x0], [], zhp m1) r2 h2 → ∃ m2 v2, r2 = some (.int v2) ∧ h2 = zhp m2 ∧ zTy m2 ∧ RC m2 := by
  obtain ⟨m1, v, a1, a2, a3, a4⟩ := e_X7_ahead ht H
  refine ⟨m1, v, a1, a2, a3, fun r2 h2 H2 => ?_⟩
  obtain ⟨m2, v2, b1, b2, b3, b4⟩ := e_X8_ahead a3 H2
  exact ⟨m2, v2, b1, b2, b3, RC_f (RC_f hR a4 (by decide +kernel)) b4 (by decide +kernel)⟩
theorem pc_round {m : zM} {r : Option Value} {h' : zHp} (ht : zTy m) (hR : RC m) (H : zEv none 19 zm_X7_round (0, lv_args 0 [.ref 0], [], zhp m) r h') : ∃ m1 v, r = some (.int v) ∧ h' = zhp m1 ∧ zTy m1 ∧ ∀ r2 h2, zEv none 19 zm_X8_round (0, lv_args 0 [.ref 71], [], zhp m1) r2 h2 → ∃ m2 v2, r2 = some (.int v2) ∧ h2 = zhp m2 ∧ zTy m2 ∧ RC m2 := by
  obtain ⟨m1, v, a1, a2, a3, a4⟩ := e_X7_round ht H
  refine ⟨m1, v, a1, a2, a3, fun r2 h2 H2 => ?_⟩
  obtain ⟨m2, v2, b1, b2, b3, b4⟩ := e_X8_round a3 H2
  exact ⟨m2, v2, b1, b2, b3, RC_f (RC_f hR a4 (by decide +kernel)) b4 (by decide +kernel)⟩
theorem pc_order {m : zM} {r : Option Value} {h' : zHp} {x0 x1 : Int32} (ht : zTy m) (hR : RC m) (H : zEv none 19 zm_X7_order (0, lv_args 0 [.ref 0, .int x0, .int x1], [], zhp m) r h') : ∃ m1 v, r = some (.int v) ∧ h' = zhp m1 ∧ zTy m1 ∧ ∀ r2 h2, zEv none 19 zm_X8_order (0, lv_args 0 [.ref 71, .int x0, .int x1], [], zhp m1) r2 h2 → ∃ m2 v2, r2 = some (.int v2) ∧ h2 = zhp m2 ∧ zTy m2 ∧ RC m2 := by
  obtain ⟨m1, v, a1, a2, a3, a4⟩ := e_X7_order ht H
  refine ⟨m1, v, a1, a2, a3, fun r2 h2 H2 => ?_⟩
  obtain ⟨m2, v2, b1, b2, b3, b4⟩ := e_X8_order a3 H2
  exact ⟨m2, v2, b1, b2, b3, RC_f (RC_f hR a4 (by decide +kernel)) b4 (by decide +kernel)⟩
theorem pc_await {m : zM} {r : Option Value} {h' : zHp} {x0 x1 : Int32} (ht : zTy m) (hR : RC m) (H : zEv none 19 zm_X7_await (0, lv_args 0 [.ref 0, .int x0, .int x1], [], zhp m) r h') : ∃ m1 v, r = some (.int v) ∧ h' = zhp m1 ∧ zTy m1 ∧ ∀ r2 h2, zEv none 19 zm_X8_await (0, lv_args 0 [.ref 71, .int x0, .int x1], [], zhp m1) r2 h2 → ∃ m2 v2, r2 = some (.int v2) ∧ h2 = zhp m2 ∧ zTy m2 ∧ RC m2 := by
  obtain ⟨m1, v, a1, a2, a3, a4⟩ := e_X7_await ht H
  refine ⟨m1, v, a1, a2, a3, fun r2 h2 H2 => ?_⟩
  obtain ⟨m2, v2, b1, b2, b3, b4⟩ := e_X8_await a3 H2
  exact ⟨m2, v2, b1, b2, b3, RC_f (RC_f hR a4 (by decide +kernel)) b4 (by decide +kernel)⟩
theorem pc_hands {m : zM} {r : Option Value} {h' : zHp} {x0 : Int32} (ht : zTy m) (hR : RC m) (H : zEv none 19 zm_X7_hands (0, lv_args 0 [.ref 0, .int x0], [], zhp m) r h') : ∃ m1 v, r = some (.int v) ∧ h' = zhp m1 ∧ zTy m1 ∧ ∀ r2 h2, zEv none 19 zm_X8_hands (0, lv_args 0 [.ref 71, .int x0], [], zhp m1) r2 h2 → ∃ m2 v2, r2 = some (.int v2) ∧ h2 = zhp m2 ∧ zTy m2 ∧ RC m2 := by
  obtain ⟨m1, v, a1, a2, a3, a4⟩ := e_X7_hands ht H
  refine ⟨m1, v, a1, a2, a3, fun r2 h2 H2 => ?_⟩
  obtain ⟨m2, v2, b1, b2, b3, b4⟩ := e_X8_hands a3 H2
  exact ⟨m2, v2, b1, b2, b3, RC_f (RC_f hR a4 (by decide +kernel)) b4 (by decide +kernel)⟩
theorem pc_clean {m : zM} {r : Option Value} {h' : zHp} {x0 : Int32} (ht : zTy m) (hR : RC m) (H : zEv none 19 zm_X7_clean (0, lv_args 0 [.ref 0, .int x0], [], zhp m) r h') : ∃ m1 v, r = some (.int v) ∧ h' = zhp m1 ∧ zTy m1 ∧ ∀ r2 h2, zEv none 19 zm_X8_clean (0, lv_args 0 [.ref 71, .int x0], [], zhp m1) r2 h2 → ∃ m2 v2, r2 = some (.int v2) ∧ h2 = zhp m2 ∧ zTy m2 ∧ RC m2 := by
  obtain ⟨m1, v, a1, a2, a3, a4⟩ := e_X7_clean ht H
  refine ⟨m1, v, a1, a2, a3, fun r2 h2 H2 => ?_⟩
  obtain ⟨m2, v2, b1, b2, b3, b4⟩ := e_X8_clean a3 H2
  exact ⟨m2, v2, b1, b2, b3, RC_f (RC_f hR a4 (by decide +kernel)) b4 (by decide +kernel)⟩
theorem pc_trade {m : zM} {r : Option Value} {h' : zHp} {x0 : Int32} (ht : zTy m) (hR : RC m) (H : zEv none 19 zm_X7_trade (0, lv_args 0 [.ref 0, .int x0], [], zhp m) r h') : ∃ m1 v, r = some (.int v) ∧ h' = zhp m1 ∧ zTy m1 ∧ ∀ r2 h2, zEv none 19 zm_X8_trade (0, lv_args 0 [.ref 71, .int x0], [], zhp m1) r2 h2 → ∃ m2 v2, r2 = some (.int v2) ∧ h2 = zhp m2 ∧ zTy m2 ∧ RC m2 := by
  obtain ⟨m1, v, a1, a2, a3, a4⟩ := e_X7_trade ht H
  refine ⟨m1, v, a1, a2, a3, fun r2 h2 H2 => ?_⟩
  obtain ⟨m2, v2, b1, b2, b3, b4⟩ := e_X8_trade a3 H2
  exact ⟨m2, v2, b1, b2, b3, RC_f (RC_f hR a4 (by decide +kernel)) b4 (by decide +kernel)⟩
theorem pc_loose {m : zM} {r : Option Value} {h' : zHp} (ht : zTy m) (hR : RC m) (H : zEv none 19 zm_X7_loose (0, lv_args 0 [.ref 0], [], zhp m) r h') : ∃ m1 v, r = some (.int v) ∧ h' = zhp m1 ∧ zTy m1 ∧ ∀ r2 h2, zEv none 19 zm_X8_loose (0, lv_args 0 [.ref 71], [], zhp m1) r2 h2 → ∃ m2 v2, r2 = some (.int v2) ∧ h2 = zhp m2 ∧ zTy m2 ∧ RC m2 := by
  obtain ⟨m1, v, a1, a2, a3, a4⟩ := e_X7_loose ht H
  refine ⟨m1, v, a1, a2, a3, fun r2 h2 H2 => ?_⟩
  obtain ⟨m2, v2, b1, b2, b3, b4⟩ := e_X8_loose a3 H2
  exact ⟨m2, v2, b1, b2, b3, RC_f (RC_f hR a4 (by decide +kernel)) b4 (by decide +kernel)⟩
theorem pc_mean {m : zM} {r : Option Value} {h' : zHp} {x0 x1 : Int32} (ht : zTy m) (hR : RC m) (H : zEv none 19 zm_X7_mean (0, lv_args 0 [.ref 0, .int x0, .int x1], [], zhp m) r h') : ∃ m1 v, r = some (.long v) ∧ h' = zhp m1 ∧ zTy m1 ∧ ∀ r2 h2, zEv none 19 zm_X8_mean (0, lv_args 0 [.ref 71, .int x0, .int x1], [], zhp m1) r2 h2 → ∃ m2 v2, r2 = some (.long v2) ∧ h2 = zhp m2 ∧ zTy m2 ∧ RC m2 := by
  obtain ⟨m1, v, a1, a2, a3, a4⟩ := e_X7_mean ht H
  refine ⟨m1, v, a1, a2, a3, fun r2 h2 H2 => ?_⟩
  obtain ⟨m2, v2, b1, b2, b3, b4⟩ := e_X8_mean a3 H2
  exact ⟨m2, v2, b1, b2, b3, RC_f (RC_f hR a4 (by decide +kernel)) b4 (by decide +kernel)⟩
theorem pc_luck {m : zM} {r : Option Value} {h' : zHp} {x0 x1 x2 : Int32} (ht : zTy m) (hR : RC m) (H : zEv none 19 zm_X7_luck (0, lv_args 0 [.ref 0, .int x0, .int x1, .int x2], [], zhp m) r h') : ∃ m1 v, r = some (.long v) ∧ h' = zhp m1 ∧ zTy m1 ∧ ∀ r2 h2, zEv none 19 zm_X8_luck (0, lv_args 0 [.ref 71, .int x0, .int x1, .int x2], [], zhp m1) r2 h2 → ∃ m2 v2, r2 = some (.long v2) ∧ h2 = zhp m2 ∧ zTy m2 ∧ RC m2 := by
  obtain ⟨m1, v, a1, a2, a3, a4⟩ := e_X7_luck ht H
  refine ⟨m1, v, a1, a2, a3, fun r2 h2 H2 => ?_⟩
  obtain ⟨m2, v2, b1, b2, b3, b4⟩ := e_X8_luck a3 H2
  exact ⟨m2, v2, b1, b2, b3, RC_f (RC_f hR a4 (by decide +kernel)) b4 (by decide +kernel)⟩
theorem pc_counts {m : zM} {r : Option Value} {h' : zHp} {x0 x1 : Int32} (ht : zTy m) (hR : RC m) (H : zEv none 19 zm_X7_counts (0, lv_args 0 [.ref 0, .int x0, .int x1], [], zhp m) r h') : ∃ m1 v, r = some (.int v) ∧ h' = zhp m1 ∧ zTy m1 ∧ ∀ r2 h2, zEv none 19 zm_X8_counts (0, lv_args 0 [.ref 71, .int x0, .int x1], [], zhp m1) r2 h2 → ∃ m2 v2, r2 = some (.int v2) ∧ h2 = zhp m2 ∧ zTy m2 ∧ RC m2 := by
  obtain ⟨m1, v, a1, a2, a3, a4⟩ := e_X7_counts ht H
  refine ⟨m1, v, a1, a2, a3, fun r2 h2 H2 => ?_⟩
  obtain ⟨m2, v2, b1, b2, b3, b4⟩ := e_X8_counts a3 H2
  exact ⟨m2, v2, b1, b2, b3, RC_f (RC_f hR a4 (by decide +kernel)) b4 (by decide +kernel)⟩
theorem pc_slacks {m : zM} {r : Option Value} {h' : zHp} (ht : zTy m) (hR : RC m) (H : zEv none 19 zm_X7_slacks (0, lv_args 0 [.ref 0], [], zhp m) r h') : ∃ m1 v, r = some (.int v) ∧ h' = zhp m1 ∧ zTy m1 ∧ ∀ r2 h2, zEv none 19 zm_X8_slacks (0, lv_args 0 [.ref 71], [], zhp m1) r2 h2 → ∃ m2 v2, r2 = some (.int v2) ∧ h2 = zhp m2 ∧ zTy m2 ∧ RC m2 := by
  obtain ⟨m1, v, a1, a2, a3, a4⟩ := e_X7_slacks ht H
  refine ⟨m1, v, a1, a2, a3, fun r2 h2 H2 => ?_⟩
  obtain ⟨m2, v2, b1, b2, b3, b4⟩ := e_X8_slacks a3 H2
  exact ⟨m2, v2, b1, b2, b3, RC_f (RC_f hR a4 (by decide +kernel)) b4 (by decide +kernel)⟩
theorem pc_look {m : zM} {r : Option Value} {h' : zHp} {x0 x1 : Int32} (ht : zTy m) (hR : RC m) (H : zEv none 19 zm_X7_look (0, lv_args 0 [.ref 0, .int x0, .int x1], [], zhp m) r h') : ∃ m1 v, r = some (.int v) ∧ h' = zhp m1 ∧ zTy m1 ∧ ∀ r2 h2, zEv none 19 zm_X8_look (0, lv_args 0 [.ref 71, .int x0, .int x1], [], zhp m1) r2 h2 → ∃ m2 v2, r2 = some (.int v2) ∧ h2 = zhp m2 ∧ zTy m2 ∧ RC m2 := by
  obtain ⟨m1, v, a1, a2, a3, a4⟩ := e_X7_look ht H
  refine ⟨m1, v, a1, a2, a3, fun r2 h2 H2 => ?_⟩
  obtain ⟨m2, v2, b1, b2, b3, b4⟩ := e_X8_look a3 H2
  exact ⟨m2, v2, b1, b2, b3, RC_f (RC_f hR a4 (by decide +kernel)) b4 (by decide +kernel)⟩
theorem pc_drift {m : zM} {r : Option Value} {h' : zHp} {x0 x1 x2 : Int32} (ht : zTy m) (hR : RC m) (H : zEv none 19 zm_X7_drift (0, lv_args 0 [.ref 0, .int x0, .int x1, .int x2], [], zhp m) r h') : ∃ m1 v, r = some (.int v) ∧ h' = zhp m1 ∧ zTy m1 ∧ ∀ r2 h2, zEv none 19 zm_X8_drift (0, lv_args 0 [.ref 71, .int x0, .int x1, .int x2], [], zhp m1) r2 h2 → ∃ m2 v2, r2 = some (.int v2) ∧ h2 = zhp m2 ∧ zTy m2 ∧ RC m2 := by
  obtain ⟨m1, v, a1, a2, a3, a4⟩ := e_X7_drift ht H
  refine ⟨m1, v, a1, a2, a3, fun r2 h2 H2 => ?_⟩
  obtain ⟨m2, v2, b1, b2, b3, b4⟩ := e_X8_drift a3 H2
  exact ⟨m2, v2, b1, b2, b3, RC_f (RC_f hR a4 (by decide +kernel)) b4 (by decide +kernel)⟩
theorem pc_sheet {m : zM} {r : Option Value} {h' : zHp} {x0 x1 x2 : Int32} (ht : zTy m) (hR : RC m) (H : zEv none 19 zm_X7_sheet (0, lv_args 0 [.ref 0, .int x0, .int x1, .int x2], [], zhp m) r h') : ∃ m1 v, r = some (.int v) ∧ h' = zhp m1 ∧ zTy m1 ∧ ∀ r2 h2, zEv none 19 zm_X8_sheet (0, lv_args 0 [.ref 71, .int x0, .int x1, .int x2], [], zhp m1) r2 h2 → ∃ m2 v2, r2 = some (.int v2) ∧ h2 = zhp m2 ∧ zTy m2 ∧ RC m2 := by
  obtain ⟨m1, v, a1, a2, a3, a4⟩ := e_X7_sheet ht H
  refine ⟨m1, v, a1, a2, a3, fun r2 h2 H2 => ?_⟩
  obtain ⟨m2, v2, b1, b2, b3, b4⟩ := e_X8_sheet a3 H2
  exact ⟨m2, v2, b1, b2, b3, RC_f (RC_f hR a4 (by decide +kernel)) b4 (by decide +kernel)⟩
theorem pc_lay {m : zM} {r : Option Value} {h' : zHp} {x0 x1 x2 : Int32} (ht : zTy m) (hR : RC m) (H : zEv none 19 zm_X7_lay (0, lv_args 0 [.ref 0, .int x0, .int x1, .int x2], [], zhp m) r h') : ∃ m1 v, r = some (.int v) ∧ h' = zhp m1 ∧ zTy m1 ∧ ∀ r2 h2, zEv none 19 zm_X8_lay (0, lv_args 0 [.ref 71, .int x0, .int x1, .int x2], [], zhp m1) r2 h2 → ∃ m2 v2, r2 = some (.int v2) ∧ h2 = zhp m2 ∧ zTy m2 ∧ RC m2 := by
  obtain ⟨m1, v, a1, a2, a3, a4⟩ := e_X7_lay ht H
  refine ⟨m1, v, a1, a2, a3, fun r2 h2 H2 => ?_⟩
  obtain ⟨m2, v2, b1, b2, b3, b4⟩ := e_X8_lay a3 H2
  exact ⟨m2, v2, b1, b2, b3, RC_f (RC_f hR a4 (by decide +kernel)) b4 (by decide +kernel)⟩
theorem pc_torn {m : zM} {r : Option Value} {h' : zHp} (ht : zTy m) (hR : RC m) (H : zEv none 19 zm_X7_torn (0, lv_args 0 [.ref 0], [], zhp m) r h') : ∃ m1 v, r = some (.int v) ∧ h' = zhp m1 ∧ zTy m1 ∧ ∀ r2 h2, zEv none 19 zm_X8_torn (0, lv_args 0 [.ref 71], [], zhp m1) r2 h2 → ∃ m2 v2, r2 = some (.int v2) ∧ h2 = zhp m2 ∧ zTy m2 ∧ RC m2 := by
  obtain ⟨m1, v, a1, a2, a3, a4⟩ := e_X7_torn ht H
  refine ⟨m1, v, a1, a2, a3, fun r2 h2 H2 => ?_⟩
  obtain ⟨m2, v2, b1, b2, b3, b4⟩ := e_X8_torn a3 H2
  exact ⟨m2, v2, b1, b2, b3, RC_f (RC_f hR a4 (by decide +kernel)) b4 (by decide +kernel)⟩
theorem pc_count {m : zM} {r : Option Value} {h' : zHp} {x0 : Int32} (ht : zTy m) (hR : RC m) (H : zEv none 19 zm_X7_count (0, lv_args 0 [.ref 0, .int x0], [], zhp m) r h') : ∃ m1 v, r = some (.int v) ∧ h' = zhp m1 ∧ zTy m1 ∧ ∀ r2 h2, zEv none 19 zm_X8_count (0, lv_args 0 [.ref 71, .int x0], [], zhp m1) r2 h2 → ∃ m2 v2, r2 = some (.int v2) ∧ h2 = zhp m2 ∧ zTy m2 ∧ RC m2 := by
  obtain ⟨m1, v, a1, a2, a3, a4⟩ := e_X7_count ht H
  refine ⟨m1, v, a1, a2, a3, fun r2 h2 H2 => ?_⟩
  obtain ⟨m2, v2, b1, b2, b3, b4⟩ := e_X8_count a3 H2
  exact ⟨m2, v2, b1, b2, b3, RC_f (RC_f hR a4 (by decide +kernel)) b4 (by decide +kernel)⟩
theorem pc_rule {m : zM} {r : Option Value} {h' : zHp} {x0 : Int32} (ht : zTy m) (hR : RC m) (H : zEv none 19 zm_X7_rule (0, lv_args 0 [.ref 0, .int x0], [], zhp m) r h') : ∃ m1 v, r = some (.int v) ∧ h' = zhp m1 ∧ zTy m1 ∧ ∀ r2 h2, zEv none 19 zm_X8_rule (0, lv_args 0 [.ref 71, .int x0], [], zhp m1) r2 h2 → ∃ m2 v2, r2 = some (.int v2) ∧ h2 = zhp m2 ∧ zTy m2 ∧ RC m2 ∧ v = v2 := by
  have hR0 := hR
  obtain ⟨⟨n, h1⟩, hM, ⟨s, s1, s2, s3⟩, h5, c, c1, ⟨hL, hb⟩, h6⟩ := hR
  have hg := gok_11 ht hL
  obtain ⟨b1, b2⟩ := t_X7_rule hL hb (zE_of 0 rfl H)
  refine ⟨m, _, b1, b2, ht, fun r2 h2 H2 => ?_⟩
  obtain ⟨d1, d2⟩ := t_X8_rule (PG_f (by omega)) hg c1 (zE_of 2 rfl H2)
  exact ⟨m, _, d1, d2, ht, hR0, rfl⟩
theorem pc_one {m : zM} {r : Option Value} {h' : zHp} {x0 x1 : Int32} (ht : zTy m) (hR : RC m) (H : zEv none 19 zm_X7_one (0, lv_args 0 [.ref 0, .int x0, .int x1], [], zhp m) r h') : ∃ m1 v, r = some (.int v) ∧ h' = zhp m1 ∧ zTy m1 ∧ ∀ r2 h2, zEv none 19 zm_X8_one (0, lv_args 0 [.ref 71, .int x0, .int x1], [], zhp m1) r2 h2 → ∃ m2 v2, r2 = some (.int v2) ∧ h2 = zhp m2 ∧ zTy m2 ∧ RC m2 ∧ v = v2 := by
  have hR0 := hR
  obtain ⟨⟨n, h1⟩, hM, ⟨s, s1, s2, s3⟩, h5, c, c1, ⟨hL, hb⟩, h6⟩ := hR
  have hg := gok_11 ht hL
  by_cases hx : zIs x0 c
  · obtain ⟨p, p1, rfl⟩ := zlt_n rfl (by have := hL.2.1; omega) hx
    obtain ⟨b1, b2⟩ := t_X7_one hL p1 (zE_of 1 rfl H)
    refine ⟨m, _, b1, b2, ht, fun r2 h2 H2 => ?_⟩
    obtain ⟨d1, d2⟩ := t_X8_one (PG_f (by omega)) hg c1 hM p1 (zE_of 0 rfl H2)
    exact ⟨m, _, d1, d2, ht, hR0, rfl⟩
  · obtain ⟨b1, b2⟩ := t_X7_oneN hL.1 hx (zE_of 1 rfl H)
    refine ⟨m, _, b1, b2, ht, fun r2 h2 H2 => ?_⟩
    obtain ⟨d1, d2⟩ := t_X8_oneN c1 hL.2.1 hx (zE_of 0 rfl H2)
    exact ⟨m, _, d1, d2, ht, hR0, rfl⟩
theorem gRests_k : ∀ (n : Nat) {g : Nat → Int32} {j : Nat}, 15 ≤ j → gRests n g j = g j
  | 0, _, _, _ => rfl
  | n + 1, g, j, h => by
    rw [gRests, gRests_k n h, gRest_k (by omega)]
theorem pc_turn {m : zM} {r : Option Value} {h' : zHp} {x0 : Int32} (ht : zTy m) (hR : RC m) (H : zEv none 19 zm_X7_turn (0, lv_args 0 [.ref 0, .int x0], [], zhp m) r h') : ∃ m1 v, r = some (.int v) ∧ h' = zhp m1 ∧ zTy m1 ∧ ∀ r2 h2, zEv none 19 zm_X8_turn (0, lv_args 0 [.ref 71, .int x0], [], zhp m1) r2 h2 → ∃ m2 v2, r2 = some (.int v2) ∧ h2 = zhp m2 ∧ zTy m2 ∧ RC m2 ∧ v = v2 := by
  have hR0 := hR
  obtain ⟨⟨n, h1⟩, hM, ⟨s, s1, s2, s3⟩, h5, c, c1, ⟨hL, hb⟩, h6⟩ := hR
  have hg := gok_11 ht hL
  obtain ⟨m1, v, b1, b2, b3⟩ := t_X7_turn hL hg (zE_of 0 rfl H)
  obtain ⟨q1, q2, q3, q4, q5, q6⟩ := e_X7_turn ht H
  obtain ⟨t1, f1⟩ := eng_m b2 q4 q5 q6
  refine ⟨m1, v, b1, b2, t1, fun r2 h2 H2 => ?_⟩
  have k1 : ∀ a b, ¬ (11 ≤ a ∧ a ≤ 11 + 7) → m1 a b = m a b := by
    rcases b3 with ⟨_, _, rfl⟩ | ⟨_, _, _, k⟩
    · exact fun _ _ _ => rfl
    · exact k
  have hP1 : PG m1 0 (pgf m 0) := ⟨by omega, fun j hj => k1 72 (0 + j) (by omega)⟩
  have hM1 : zMk m1 := ⟨(k1 73 0 (by omega)).trans hM.1, (k1 73 1 (by omega)).trans hM.2.1, (k1 73 2 (by omega)).trans hM.2.2.1, (k1 73 3 (by omega)).trans hM.2.2.2⟩
  obtain ⟨m2, v2, d1, d2, d3⟩ := t_X8_turn hP1 hg ((k1 71 2 (by omega)).trans c1) hM1 (zE_of 0 rfl H2)
  obtain ⟨u1, u2, u3, u4, u5, u6⟩ := e_X8_turn t1 H2
  obtain ⟨t2, f2⟩ := eng_m d2 u4 u5 u6
  refine ⟨m2, v2, d1, d2, t2, ?_⟩
  rcases b3 with ⟨o1, rfl, rfl⟩ | ⟨o1, rfl, w1, w2⟩
  · rcases d3 with ⟨_, rfl, rfl⟩ | ⟨o2, _⟩
    · exact ⟨hR0, rfl⟩
    · exact absurd o2 o1
  · rcases d3 with ⟨o2, _⟩ | ⟨_, rfl, y1, y2⟩
    · exact absurd o1 o2
    · have E : ∀ a b, ¬ (11 ≤ a ∧ a ≤ 11 + 7) → ¬ (a = 72 ∧ b < 27) → m2 a b = m a b := fun a b x y => (y2 a b (by omega)).trans (w2 a b x)
      have e : ∀ j, j < 27 → pgf m2 0 j = gTry2 (pgf m 0) c x0 j := fun j hj => y1.2 j hj
      refine ⟨RC_x hR0 (fun a b _ _ q => ?_) ⟨n, RT_e h1 (fun a b _ _ q => ?_)⟩ (fun c' hc' => ?_), rfl⟩
      · simp only [qC0, qLI, Bool.or_eq_true, Bool.and_eq_true, Nat.beq_eq, Nat.blt_eq, Nat.ble_eq] at q
        exact E a b (by omega) (by omega)
      · simp only [qT, Bool.or_eq_true, Bool.and_eq_true, Nat.beq_eq, Nat.blt_eq, Nat.ble_eq] at q
        exact E a b (by omega) (by omega)
      · have ec : c' = c := zofn (hc'.1.1.symm.trans hL.1) (by have := hc'.1.2.1; omega) (by have := hL.2.1; omega)
        subst ec
        refine ⟨LV_g (LV_f w1 (fun a b h1 h2 => y2 a b (by omega))) e, ?_⟩
        obtain ⟨z, z1, z2⟩ := hb
        exact ⟨z, z1, by rw [e 15 (by omega), gTry2_k hg.1 (by omega) (by omega)]; exact z2⟩
theorem pc_rest {m : zM} {r : Option Value} {h' : zHp} {x0 : Int32} (ht : zTy m) (hR : RC m) (H : zEv none 19 zm_X7_rest (0, lv_args 0 [.ref 0, .int x0], [], zhp m) r h') : ∃ m1 v, r = some (.int v) ∧ h' = zhp m1 ∧ zTy m1 ∧ ∀ r2 h2, zEv none 19 zm_X8_rest (0, lv_args 0 [.ref 71, .int x0], [], zhp m1) r2 h2 → ∃ m2 v2, r2 = some (.int v2) ∧ h2 = zhp m2 ∧ zTy m2 ∧ RC m2 ∧ v = v2 := by
  have hR0 := hR
  obtain ⟨⟨n, h1⟩, hM, ⟨s, s1, s2, s3⟩, h5, c, c1, ⟨hL, hb⟩, h6⟩ := hR
  have hg := gok_11 ht hL
  obtain ⟨m1, v, b1, b2, b3⟩ := t_X7_rest hL hg (zE_of 1 rfl H)
  obtain ⟨q1, q2, q3, q4, q5, q6⟩ := e_X7_rest ht H
  obtain ⟨t1, f1⟩ := eng_m b2 q4 q5 q6
  refine ⟨m1, v, b1, b2, t1, fun r2 h2 H2 => ?_⟩
  have k1 : ∀ a b, ¬ (11 ≤ a ∧ a ≤ 11 + 7) → m1 a b = m a b := by
    rcases b3 with ⟨_, _, rfl⟩ | ⟨_, _, _, k⟩
    · exact fun _ _ _ => rfl
    · exact k
  have hP1 : PG m1 0 (pgf m 0) := ⟨by omega, fun j hj => k1 72 (0 + j) (by omega)⟩
  have hM1 : zMk m1 := ⟨(k1 73 0 (by omega)).trans hM.1, (k1 73 1 (by omega)).trans hM.2.1, (k1 73 2 (by omega)).trans hM.2.2.1, (k1 73 3 (by omega)).trans hM.2.2.2⟩
  obtain ⟨m2, v2, d1, d2, d3⟩ := t_X8_rest hP1 hg ((k1 71 2 (by omega)).trans c1) (zE_of 1 rfl H2)
  obtain ⟨u1, u2, u3, u4, u5, u6⟩ := e_X8_rest t1 H2
  obtain ⟨t2, f2⟩ := eng_m d2 u4 u5 u6
  refine ⟨m2, v2, d1, d2, t2, ?_⟩
  rcases b3 with ⟨o1, rfl, rfl⟩ | ⟨o1, rfl, w1, w2⟩
  · rcases d3 with ⟨_, rfl, rfl⟩ | ⟨o2, _⟩
    · exact ⟨hR0, rfl⟩
    · exact absurd o2 o1
  · rcases d3 with ⟨o2, _⟩ | ⟨_, rfl, y1, y2⟩
    · exact absurd o1 o2
    · have E : ∀ a b, ¬ (11 ≤ a ∧ a ≤ 11 + 7) → ¬ (a = 72 ∧ b < 27) → m2 a b = m a b := fun a b x y => (y2 a b (by omega)).trans (w2 a b x)
      have e : ∀ j, j < 27 → pgf m2 0 j = gRests x0.toNatClampNeg (pgf m 0) j := fun j hj => y1.2 j hj
      refine ⟨RC_x hR0 (fun a b _ _ q => ?_) ⟨n, RT_e h1 (fun a b _ _ q => ?_)⟩ (fun c' hc' => ?_), rfl⟩
      · simp only [qC0, qLI, Bool.or_eq_true, Bool.and_eq_true, Nat.beq_eq, Nat.blt_eq, Nat.ble_eq] at q
        exact E a b (by omega) (by omega)
      · simp only [qT, Bool.or_eq_true, Bool.and_eq_true, Nat.beq_eq, Nat.blt_eq, Nat.ble_eq] at q
        exact E a b (by omega) (by omega)
      · have ec : c' = c := zofn (hc'.1.1.symm.trans hL.1) (by have := hc'.1.2.1; omega) (by have := hL.2.1; omega)
        subst ec
        refine ⟨LV_g (LV_f w1 (fun a b h1 h2 => y2 a b (by omega))) e, ?_⟩
        obtain ⟨z, z1, z2⟩ := hb
        exact ⟨z, z1, by rw [e 15 (by omega), gRests_k _ (by omega)]; exact z2⟩
end
section
/-! alter, of the class -/
theorem It_X7_alter : zm_X7_alter.2.2.2.2.2 = zt_X7_alter := by
  unfold zm_X7_alter
  rfl
theorem It_X7_mostOf : zm_X7_mostOf.2.2.2.2.2 = zt_X7_mostOf := by
  unfold zm_X7_mostOf
  rfl
theorem I_X7_alter_0 : zin zm_X7_alter.2.2.2.2.2 0 = some (.aload_n 0, 1) := by rw [It_X7_alter]; rfl
theorem I_X7_alter_1 : zin zm_X7_alter.2.2.2.2.2 1 = some (.getfield 19, 3) := by rw [It_X7_alter]; rfl
theorem I_X7_alter_4 : zin zm_X7_alter.2.2.2.2.2 4 = some (.iload_n 1, 1) := by rw [It_X7_alter]; rfl
theorem I_X7_alter_5 : zin zm_X7_alter.2.2.2.2.2 5 = some (.invokevirtual 112, 3) := by rw [It_X7_alter]; rfl
theorem I_X7_alter_8 : zin zm_X7_alter.2.2.2.2.2 8 = some (.ifCond .eq 24, 3) := by rw [It_X7_alter]; rfl
theorem I_X7_alter_11 : zin zm_X7_alter.2.2.2.2.2 11 = some (.iload_n 2, 1) := by rw [It_X7_alter]; rfl
theorem I_X7_alter_12 : zin zm_X7_alter.2.2.2.2.2 12 = some (.ifCond .lt 20, 3) := by rw [It_X7_alter]; rfl
theorem I_X7_alter_15 : zin zm_X7_alter.2.2.2.2.2 15 = some (.iload_n 2, 1) := by rw [It_X7_alter]; rfl
theorem I_X7_alter_16 : zin zm_X7_alter.2.2.2.2.2 16 = some (.iconst 3, 1) := by rw [It_X7_alter]; rfl
theorem I_X7_alter_17 : zin zm_X7_alter.2.2.2.2.2 17 = some (.if_icmp .gt 15, 3) := by rw [It_X7_alter]; rfl
theorem I_X7_alter_20 : zin zm_X7_alter.2.2.2.2.2 20 = some (.iload_n 3, 1) := by rw [It_X7_alter]; rfl
theorem I_X7_alter_21 : zin zm_X7_alter.2.2.2.2.2 21 = some (.ifCond .lt 11, 3) := by rw [It_X7_alter]; rfl
theorem I_X7_alter_24 : zin zm_X7_alter.2.2.2.2.2 24 = some (.iload_n 3, 1) := by rw [It_X7_alter]; rfl
theorem I_X7_alter_25 : zin zm_X7_alter.2.2.2.2.2 25 = some (.iload_n 2, 1) := by rw [It_X7_alter]; rfl
theorem I_X7_alter_26 : zin zm_X7_alter.2.2.2.2.2 26 = some (.invokestatic 144, 3) := by rw [It_X7_alter]; rfl
theorem I_X7_alter_29 : zin zm_X7_alter.2.2.2.2.2 29 = some (.if_icmp .le 5, 3) := by rw [It_X7_alter]; rfl
theorem I_X7_alter_32 : zin zm_X7_alter.2.2.2.2.2 32 = some (.iconst (-1), 1) := by rw [It_X7_alter]; rfl
theorem I_X7_alter_33 : zin zm_X7_alter.2.2.2.2.2 33 = some (.ireturn, 1) := by rw [It_X7_alter]; rfl
theorem I_X7_alter_34 : zin zm_X7_alter.2.2.2.2.2 34 = some (.aload_n 0, 1) := by rw [It_X7_alter]; rfl
theorem I_X7_alter_35 : zin zm_X7_alter.2.2.2.2.2 35 = some (.iload_n 1, 1) := by rw [It_X7_alter]; rfl
theorem I_X7_alter_36 : zin zm_X7_alter.2.2.2.2.2 36 = some (.iload_n 2, 1) := by rw [It_X7_alter]; rfl
theorem I_X7_alter_37 : zin zm_X7_alter.2.2.2.2.2 37 = some (.invokevirtual 148, 3) := by rw [It_X7_alter]; rfl
theorem I_X7_alter_40 : zin zm_X7_alter.2.2.2.2.2 40 = some (.istore 4, 2) := by rw [It_X7_alter]; rfl
theorem I_X7_alter_42 : zin zm_X7_alter.2.2.2.2.2 42 = some (.aload_n 0, 1) := by rw [It_X7_alter]; rfl
theorem I_X7_alter_43 : zin zm_X7_alter.2.2.2.2.2 43 = some (.getfield 19, 3) := by rw [It_X7_alter]; rfl
theorem I_X7_alter_46 : zin zm_X7_alter.2.2.2.2.2 46 = some (.getfield 116, 3) := by rw [It_X7_alter]; rfl
theorem I_X7_alter_49 : zin zm_X7_alter.2.2.2.2.2 49 = some (.iload_n 1, 1) := by rw [It_X7_alter]; rfl
theorem I_X7_alter_50 : zin zm_X7_alter.2.2.2.2.2 50 = some (.aaload, 1) := by rw [It_X7_alter]; rfl
theorem I_X7_alter_51 : zin zm_X7_alter.2.2.2.2.2 51 = some (.astore 5, 2) := by rw [It_X7_alter]; rfl
theorem I_X7_alter_53 : zin zm_X7_alter.2.2.2.2.2 53 = some (.iload_n 2, 1) := by rw [It_X7_alter]; rfl
theorem I_X7_alter_54 : zin zm_X7_alter.2.2.2.2.2 54 = some (.tableswitch 53 0 2 #[26, 35, 44], 26) := by rw [It_X7_alter]; rfl
theorem I_X7_alter_80 : zin zm_X7_alter.2.2.2.2.2 80 = some (.aload 5, 2) := by rw [It_X7_alter]; rfl
theorem I_X7_alter_82 : zin zm_X7_alter.2.2.2.2.2 82 = some (.iload_n 3, 1) := by rw [It_X7_alter]; rfl
theorem I_X7_alter_83 : zin zm_X7_alter.2.2.2.2.2 83 = some (.putfield 120, 3) := by rw [It_X7_alter]; rfl
theorem I_X7_alter_86 : zin zm_X7_alter.2.2.2.2.2 86 = some (.goto 27, 3) := by rw [It_X7_alter]; rfl
theorem I_X7_alter_89 : zin zm_X7_alter.2.2.2.2.2 89 = some (.aload 5, 2) := by rw [It_X7_alter]; rfl
theorem I_X7_alter_91 : zin zm_X7_alter.2.2.2.2.2 91 = some (.iload_n 3, 1) := by rw [It_X7_alter]; rfl
theorem I_X7_alter_92 : zin zm_X7_alter.2.2.2.2.2 92 = some (.putfield 125, 3) := by rw [It_X7_alter]; rfl
theorem I_X7_alter_95 : zin zm_X7_alter.2.2.2.2.2 95 = some (.goto 18, 3) := by rw [It_X7_alter]; rfl
theorem I_X7_alter_98 : zin zm_X7_alter.2.2.2.2.2 98 = some (.aload 5, 2) := by rw [It_X7_alter]; rfl
theorem I_X7_alter_100 : zin zm_X7_alter.2.2.2.2.2 100 = some (.iload_n 3, 1) := by rw [It_X7_alter]; rfl
theorem I_X7_alter_101 : zin zm_X7_alter.2.2.2.2.2 101 = some (.putfield 128, 3) := by rw [It_X7_alter]; rfl
theorem I_X7_alter_104 : zin zm_X7_alter.2.2.2.2.2 104 = some (.goto 9, 3) := by rw [It_X7_alter]; rfl
theorem I_X7_alter_107 : zin zm_X7_alter.2.2.2.2.2 107 = some (.aload 5, 2) := by rw [It_X7_alter]; rfl
theorem I_X7_alter_109 : zin zm_X7_alter.2.2.2.2.2 109 = some (.iload_n 3, 1) := by rw [It_X7_alter]; rfl
theorem I_X7_alter_110 : zin zm_X7_alter.2.2.2.2.2 110 = some (.putfield 131, 3) := by rw [It_X7_alter]; rfl
theorem I_X7_alter_113 : zin zm_X7_alter.2.2.2.2.2 113 = some (.iload 4, 2) := by rw [It_X7_alter]; rfl
theorem I_X7_alter_115 : zin zm_X7_alter.2.2.2.2.2 115 = some (.ireturn, 1) := by rw [It_X7_alter]; rfl
theorem I_X7_mostOf_0 : zin zm_X7_mostOf.2.2.2.2.2 0 = some (.iload_n 0, 1) := by rw [It_X7_mostOf]; rfl
theorem I_X7_mostOf_1 : zin zm_X7_mostOf.2.2.2.2.2 1 = some (.lookupswitch 31 #[(0, 27), (3, 29)], 27) := by rw [It_X7_mostOf]; rfl
theorem I_X7_mostOf_28 : zin zm_X7_mostOf.2.2.2.2.2 28 = some (.iconst 3, 1) := by rw [It_X7_mostOf]; rfl
theorem I_X7_mostOf_29 : zin zm_X7_mostOf.2.2.2.2.2 29 = some (.ireturn, 1) := by rw [It_X7_mostOf]; rfl
theorem I_X7_mostOf_30 : zin zm_X7_mostOf.2.2.2.2.2 30 = some (.iconst 1, 1) := by rw [It_X7_mostOf]; rfl
theorem I_X7_mostOf_31 : zin zm_X7_mostOf.2.2.2.2.2 31 = some (.ireturn, 1) := by rw [It_X7_mostOf]; rfl
theorem I_X7_mostOf_32 : zin zm_X7_mostOf.2.2.2.2.2 32 = some (.bipush 99, 2) := by rw [It_X7_mostOf]; rfl
theorem I_X7_mostOf_34 : zin zm_X7_mostOf.2.2.2.2.2 34 = some (.ireturn, 1) := by rw [It_X7_mostOf]; rfl
theorem K_7_144 : zlk zmls 7 144 = some (1, 73, 1, 532) := rfl
theorem K_7_148 : zlk zmls 7 148 = some (0, 70, 2, 535) := rfl
theorem Zm_73 : zms[73]? = some zm_X7_mostOf := rfl
theorem cl_X7_alter : zm_X7_alter.2.2.2.2.1 = 7 := by
  unfold zm_X7_alter
  rfl
theorem cn_X7_alter : zm_X7_alter.2.2.2.2.1 ≠ 12 := by
  rw [cl_X7_alter]
  decide
theorem cn2_X7_alter : zm_X7_alter.2.2.2.2.1 ≠ 2 := by
  rw [cl_X7_alter]
  decide
section
variable {sc : Option (List Int32)} {d : Nat} {mi : zMi} {pc q : Nat} {L sk : List Value} {m : zM} {r : Option Value} {h' : zHp}
theorem i_lk1 (v : Int32) {df : Int} {ps : Array (Int × Int)} {x : Int32} {len : Nat} (H : zE sc d mi pc L (.int x :: sk) m r h') (hi : zin mi.2.2.2.2.2 pc = some (.lookupswitch df ps, len)) (ht : zjp pc (Op.lookupswitch.offset ps.toList df v.toInt) = some q) : (x = v ∧ zE sc d mi q L sk m r h') ∨ (¬ x = v ∧ zE sc d mi pc L (.int x :: sk) m r h') := by
  by_cases h : x = v
  · subst h
    exact Or.inl ⟨rfl, i_lks H hi ht⟩
  · exact Or.inr ⟨h, H⟩
theorem i_lkd2 {df a1 o1 a2 o2 : Int} {x : Int32} {len : Nat} (H : zE sc d mi pc L (.int x :: sk) m r h') (hi : zin mi.2.2.2.2.2 pc = some (.lookupswitch df #[(a1, o1), (a2, o2)], len)) (h1 : x.toInt ≠ a1) (h2 : x.toInt ≠ a2) (ht : zjp pc df = some q) : zE sc d mi q L sk m r h' := by
  refine i_lks H hi ?_
  rw [show Op.lookupswitch.offset (#[(a1, o1), (a2, o2)] : Array (Int × Int)).toList df x.toInt = df from (if_neg (fun e => h1 e.symm)).trans (if_neg (fun e => h2 e.symm))]
  exact ht
end
/-- the most that a what takes -/
def zmo (w : Int32) : Int32 := if w = 0 then 3 else if w = 3 then 1 else 99
abbrev gAc (w v : Int32) : Prop := zBt w 0 3 ∧ zBt v 0 (zmo w)
theorem zw3 {w : Int32} (h : zBt w 0 3) (h0 : ¬ w = 0) (h1 : ¬ w = 1) (h2 : ¬ w = 2) : w = 3 := by
  obtain ⟨k, k1, rfl⟩ := zbt_n (n := 3) rfl (by omega) h
  match k, k1 with
  | 0, _ => exact absurd rfl h0
  | 1, _ => exact absurd rfl h1
  | 2, _ => exact absurd rfl h2
  | 3, _ => rfl
theorem t_X7_mostOf {d : Nat} {m : zM} {r : Option Value} {h' : zHp} {w : Int32} (H : zE none d zm_X7_mostOf 0 [.int w] [] m r h') : r = some (.int (zmo w)) ∧ h' = zhp m := by
  replace H := i_iln (q := 1) H I_X7_mostOf_0 rfl rfl
  have W := i_lk1 0 (q := 28) H I_X7_mostOf_1 (by decide)
  clear H
  rcases W with ⟨w_1_0, H⟩ | ⟨w_1_0, H⟩
  · skip
    replace H := i_icst (x := 3) (q := 29) H I_X7_mostOf_28 (by decide) rfl
    obtain ⟨hr, hh⟩ := i_ir H I_X7_mostOf_29
    subst w_1_0
    exact ⟨hr, hh⟩
  · skip
    have W := i_lk1 3 (q := 30) H I_X7_mostOf_1 (by decide)
    clear H
    rcases W with ⟨w_1_3, H⟩ | ⟨w_1_3, H⟩
    · skip
      replace H := i_icst (x := 1) (q := 31) H I_X7_mostOf_30 (by decide) rfl
      obtain ⟨hr, hh⟩ := i_ir H I_X7_mostOf_31
      subst w_1_3
      exact ⟨hr, hh⟩
    · skip
      replace H := i_lkd2 (q := 32) H I_X7_mostOf_1 (zne w_1_0 (z := 0) (by decide)) (zne w_1_3 (z := 3) (by decide)) (by decide)
      replace H := i_bip (x := 99) (q := 34) H I_X7_mostOf_32 (by decide) rfl
      obtain ⟨hr, hh⟩ := i_ir H I_X7_mostOf_34
      rw [zmo, if_neg w_1_0, if_neg w_1_3]
      exact ⟨hr, hh⟩
theorem t_X7_alter {d : Nat} {m : zM} {r : Option Value} {h' : zHp} {w v : Int32} {p c : Nat} {g : Nat → Int32} (hL : LV m 11 c g) (hp : p < c) (H : zE none d zm_X7_alter 0 [.ref 0, .int (Int32.ofNat p), .int w, .int v, .null, .null] [] m r h') : ∃ m1 u, r = some (.int u) ∧ h' = zhp m1 ∧ ((¬ gAc w v ∧ u = -1 ∧ m1 = m) ∨ (gAc w v ∧ u = gOne g p w ∧ ∃ f, f ≤ 3 ∧ w = Int32.ofNat f ∧ m1 = zup m (11 + 3 + p) f v)) := by
  have hc5 := hL.2.1
  replace H := i_aln (q := 1) H I_X7_alter_0 rfl rfl
  replace H := i_gfr (q := 4) H I_X7_alter_1 G_7_19 cn_X7_alter LY_0 rfl rfl
  replace H := i_iln (q := 5) H I_X7_alter_4 rfl rfl
  have W := i_cv1 0 (q := 8) H I_X7_alter_5 K_7_112 Zm_3 rfl rfl
  clear H
  obtain ⟨r1, h1, Hc, K1, K2⟩ := W
  obtain ⟨e1, e2⟩ := t_X0_has lkk_11 Hc
  have H := K1 _ _ e1 e2
  clear e1 e2 Hc K1 K2
  have W := i_if_eq (t := 32) (q := 11) H I_X7_alter_8 (by decide) rfl
  clear H
  rcases W with ⟨c_8, H⟩ | ⟨c_8, H⟩
  · skip
    replace H := i_icst (x := (-1)) (q := 33) H I_X7_alter_32 (by decide) rfl
    obtain ⟨hr, hh⟩ := i_ir H I_X7_alter_33
    exfalso
    rw [hL.1] at c_8
    exact zif0 c_8 (zis_n hL.2.1 hp)
  · skip
    replace H := i_iln (q := 12) H I_X7_alter_11 rfl rfl
    have W := i_if_lt (t := 32) (q := 15) H I_X7_alter_12 (by decide) rfl
    clear H
    rcases W with ⟨c_12, H⟩ | ⟨c_12, H⟩
    · skip
      replace H := i_icst (x := (-1)) (q := 33) H I_X7_alter_32 (by decide) rfl
      obtain ⟨hr, hh⟩ := i_ir H I_X7_alter_33
      exact ⟨_, _, hr, hh, Or.inl ⟨fun q => q.1.1 c_12, rfl, rfl⟩⟩
    · skip
      replace H := i_iln (q := 16) H I_X7_alter_15 rfl rfl
      replace H := i_icst (x := 3) (q := 17) H I_X7_alter_16 (by decide) rfl
      have W := i_ic_gt (t := 32) (q := 20) H I_X7_alter_17 (by decide) rfl
      clear H
      rcases W with ⟨c_17, H⟩ | ⟨c_17, H⟩
      · skip
        replace H := i_icst (x := (-1)) (q := 33) H I_X7_alter_32 (by decide) rfl
        obtain ⟨hr, hh⟩ := i_ir H I_X7_alter_33
        exact ⟨_, _, hr, hh, Or.inl ⟨fun q => q.1.2 c_17, rfl, rfl⟩⟩
      · skip
        replace H := i_iln (q := 21) H I_X7_alter_20 rfl rfl
        have W := i_if_lt (t := 32) (q := 24) H I_X7_alter_21 (by decide) rfl
        clear H
        rcases W with ⟨c_21, H⟩ | ⟨c_21, H⟩
        · skip
          replace H := i_icst (x := (-1)) (q := 33) H I_X7_alter_32 (by decide) rfl
          obtain ⟨hr, hh⟩ := i_ir H I_X7_alter_33
          exact ⟨_, _, hr, hh, Or.inl ⟨fun q => q.2.1 c_21, rfl, rfl⟩⟩
        · skip
          replace H := i_iln (q := 25) H I_X7_alter_24 rfl rfl
          replace H := i_iln (q := 26) H I_X7_alter_25 rfl rfl
          have W := i_cs1 0 (q := 29) H I_X7_alter_26 K_7_144 Zm_73 rfl rfl
          clear H
          obtain ⟨r1, h1, Hc, K1, K2⟩ := W
          obtain ⟨e1, e2⟩ := t_X7_mostOf Hc
          have H := K1 _ _ e1 e2
          clear e1 e2 Hc K1 K2
          have W := i_ic_le (t := 34) (q := 32) H I_X7_alter_29 (by decide) rfl
          clear H
          rcases W with ⟨c_29, H⟩ | ⟨c_29, H⟩
          · skip
            replace H := i_aln (q := 35) H I_X7_alter_34 rfl rfl
            replace H := i_iln (q := 36) H I_X7_alter_35 rfl rfl
            replace H := i_iln (q := 37) H I_X7_alter_36 rfl rfl
            have W := i_cv2 1 (q := 40) H I_X7_alter_37 K_7_148 Zm_70 rfl rfl
            clear H
            obtain ⟨r1, h1, Hc, K1, K2⟩ := W
            obtain ⟨e1, e2⟩ := t_X7_one hL hp Hc
            have H := K1 _ _ e1 e2
            clear e1 e2 Hc K1 K2
            replace H := i_is (q := 42) H I_X7_alter_40 rfl rfl
            replace H := i_aln (q := 43) H I_X7_alter_42 rfl rfl
            replace H := i_gfr (q := 46) H I_X7_alter_43 G_7_19 cn_X7_alter LY_0 rfl rfl
            replace H := i_gfr (q := 49) H I_X7_alter_46 G_7_116 cn_X7_alter LY_11 rfl rfl
            replace H := i_iln (q := 50) H I_X7_alter_49 rfl rfl
            have W := i_folk (k := 11) lkk_11 (q := 51) H I_X7_alter_50 rfl
            clear H
            obtain ⟨i_50, bi_50, ei_50, H⟩ := W
            replace H := i_as (q := 53) H I_X7_alter_51 rfl rfl
            replace H := i_iln (q := 54) H I_X7_alter_53 rfl rfl
            have W := i_ts1 0 (q := 80) H I_X7_alter_54 (by decide) rfl (by decide)
            clear H
            rcases W with ⟨w_54_0, H⟩ | ⟨w_54_0, H⟩
            · skip
              replace H := i_al (q := 82) H I_X7_alter_80 rfl rfl
              replace H := i_iln (q := 83) H I_X7_alter_82 rfl rfl
              replace H := i_pf (q := 86) H I_X7_alter_83 G_7_120 cn_X7_alter (lk_p lkk_11 bi_50) rfl rfl
              replace H := i_goto (q := 113) H I_X7_alter_86 (by decide)
              replace H := i_il (q := 115) H I_X7_alter_113 rfl rfl
              obtain ⟨hr, hh⟩ := i_ir H I_X7_alter_115
              have e : p = i_50 := zofn ei_50 (by omega) (by omega)
              subst e
              exact ⟨_, _, hr, hh, Or.inr ⟨⟨⟨c_12, c_17⟩, c_21, c_29⟩, rfl, 0, by omega, w_54_0, rfl⟩⟩
            · skip
              have W := i_ts1 1 (q := 89) H I_X7_alter_54 (by decide) rfl (by decide)
              clear H
              rcases W with ⟨w_54_1, H⟩ | ⟨w_54_1, H⟩
              · skip
                replace H := i_al (q := 91) H I_X7_alter_89 rfl rfl
                replace H := i_iln (q := 92) H I_X7_alter_91 rfl rfl
                replace H := i_pf (q := 95) H I_X7_alter_92 G_7_125 cn_X7_alter (lk_p lkk_11 bi_50) rfl rfl
                replace H := i_goto (q := 113) H I_X7_alter_95 (by decide)
                replace H := i_il (q := 115) H I_X7_alter_113 rfl rfl
                obtain ⟨hr, hh⟩ := i_ir H I_X7_alter_115
                have e : p = i_50 := zofn ei_50 (by omega) (by omega)
                subst e
                exact ⟨_, _, hr, hh, Or.inr ⟨⟨⟨c_12, c_17⟩, c_21, c_29⟩, rfl, 1, by omega, w_54_1, rfl⟩⟩
              · skip
                have W := i_ts1 2 (q := 98) H I_X7_alter_54 (by decide) rfl (by decide)
                clear H
                rcases W with ⟨w_54_2, H⟩ | ⟨w_54_2, H⟩
                · skip
                  replace H := i_al (q := 100) H I_X7_alter_98 rfl rfl
                  replace H := i_iln (q := 101) H I_X7_alter_100 rfl rfl
                  replace H := i_pf (q := 104) H I_X7_alter_101 G_7_128 cn_X7_alter (lk_p lkk_11 bi_50) rfl rfl
                  replace H := i_goto (q := 113) H I_X7_alter_104 (by decide)
                  replace H := i_il (q := 115) H I_X7_alter_113 rfl rfl
                  obtain ⟨hr, hh⟩ := i_ir H I_X7_alter_115
                  have e : p = i_50 := zofn ei_50 (by omega) (by omega)
                  subst e
                  exact ⟨_, _, hr, hh, Or.inr ⟨⟨⟨c_12, c_17⟩, c_21, c_29⟩, rfl, 2, by omega, w_54_2, rfl⟩⟩
                · skip
                  replace H := i_tsd (q := 107) H I_X7_alter_54 (by have q0 := zne w_54_0 (z := 0) (by decide); have q1 := zne w_54_1 (z := 1) (by decide); have q2 := zne w_54_2 (z := 2) (by decide); omega) (by decide)
                  replace H := i_al (q := 109) H I_X7_alter_107 rfl rfl
                  replace H := i_iln (q := 110) H I_X7_alter_109 rfl rfl
                  replace H := i_pf (q := 113) H I_X7_alter_110 G_7_131 cn_X7_alter (lk_p lkk_11 bi_50) rfl rfl
                  replace H := i_il (q := 115) H I_X7_alter_113 rfl rfl
                  obtain ⟨hr, hh⟩ := i_ir H I_X7_alter_115
                  have e : p = i_50 := zofn ei_50 (by omega) (by omega)
                  subst e
                  exact ⟨_, _, hr, hh, Or.inr ⟨⟨⟨c_12, c_17⟩, c_21, c_29⟩, rfl, 3, by omega, zw3 ⟨c_12, c_17⟩ w_54_0 w_54_1 w_54_2, rfl⟩⟩
          · skip
            replace H := i_icst (x := (-1)) (q := 33) H I_X7_alter_32 (by decide) rfl
            obtain ⟨hr, hh⟩ := i_ir H I_X7_alter_33
            exact ⟨_, _, hr, hh, Or.inl ⟨fun q => q.2.2 c_29, rfl, rfl⟩⟩
theorem t_X7_alterN {d : Nat} {m : zM} {r : Option Value} {h' : zHp} {x w v : Int32} {c : Nat} (hc : m 11 2 = Int32.ofNat c) (hx : ¬ zIs x c) (H : zE none d zm_X7_alter 0 [.ref 0, .int x, .int w, .int v, .null, .null] [] m r h') : r = some (.int (-1)) ∧ h' = zhp m := by
  replace H := i_aln (q := 1) H I_X7_alter_0 rfl rfl
  replace H := i_gfr (q := 4) H I_X7_alter_1 G_7_19 cn_X7_alter LY_0 rfl rfl
  replace H := i_iln (q := 5) H I_X7_alter_4 rfl rfl
  have W := i_cv1 0 (q := 8) H I_X7_alter_5 K_7_112 Zm_3 rfl rfl
  clear H
  obtain ⟨r1, h1, Hc, K1, K2⟩ := W
  obtain ⟨e1, e2⟩ := t_X0_has lkk_11 Hc
  have H := K1 _ _ e1 e2
  clear e1 e2 Hc K1 K2
  have W := i_if_eq (t := 32) (q := 11) H I_X7_alter_8 (by decide) rfl
  clear H
  rcases W with ⟨c_8, H⟩ | ⟨c_8, H⟩
  · skip
    replace H := i_icst (x := (-1)) (q := 33) H I_X7_alter_32 (by decide) rfl
    obtain ⟨hr, hh⟩ := i_ir H I_X7_alter_33
    exact ⟨hr, hh⟩
  · skip
    exfalso
    rw [hc] at c_8
    exact hx (zif1 c_8)
end
