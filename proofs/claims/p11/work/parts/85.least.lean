/-! least, leastOf -/
theorem It_X0_least : zm_X0_least.2.2.2.2.2 = zt_X0_least := by
  unfold zm_X0_least
  rfl
theorem I_X0_least_0 : zin zm_X0_least.2.2.2.2.2 0 = some (.bipush (-4), 2) := by rw [It_X0_least]; rfl
theorem I_X0_least_2 : zin zm_X0_least.2.2.2.2.2 2 = some (.istore_n 1, 1) := by rw [It_X0_least]; rfl
theorem I_X0_least_3 : zin zm_X0_least.2.2.2.2.2 3 = some (.iconst 0, 1) := by rw [It_X0_least]; rfl
theorem I_X0_least_4 : zin zm_X0_least.2.2.2.2.2 4 = some (.istore_n 2, 1) := by rw [It_X0_least]; rfl
theorem I_X0_least_5 : zin zm_X0_least.2.2.2.2.2 5 = some (.iload_n 2, 1) := by rw [It_X0_least]; rfl
theorem I_X0_least_6 : zin zm_X0_least.2.2.2.2.2 6 = some (.aload_n 0, 1) := by rw [It_X0_least]; rfl
theorem I_X0_least_7 : zin zm_X0_least.2.2.2.2.2 7 = some (.getfield 26, 3) := by rw [It_X0_least]; rfl
theorem I_X0_least_10 : zin zm_X0_least.2.2.2.2.2 10 = some (.if_icmp .ge 33, 3) := by rw [It_X0_least]; rfl
theorem I_X0_least_13 : zin zm_X0_least.2.2.2.2.2 13 = some (.aload_n 0, 1) := by rw [It_X0_least]; rfl
theorem I_X0_least_14 : zin zm_X0_least.2.2.2.2.2 14 = some (.getfield 11, 3) := by rw [It_X0_least]; rfl
theorem I_X0_least_17 : zin zm_X0_least.2.2.2.2.2 17 = some (.iload_n 2, 1) := by rw [It_X0_least]; rfl
theorem I_X0_least_18 : zin zm_X0_least.2.2.2.2.2 18 = some (.aaload, 1) := by rw [It_X0_least]; rfl
theorem I_X0_least_19 : zin zm_X0_least.2.2.2.2.2 19 = some (.invokevirtual 51, 3) := by rw [It_X0_least]; rfl
theorem I_X0_least_22 : zin zm_X0_least.2.2.2.2.2 22 = some (.istore_n 3, 1) := by rw [It_X0_least]; rfl
theorem I_X0_least_23 : zin zm_X0_least.2.2.2.2.2 23 = some (.iload_n 2, 1) := by rw [It_X0_least]; rfl
theorem I_X0_least_24 : zin zm_X0_least.2.2.2.2.2 24 = some (.ifCond .ne 7, 3) := by rw [It_X0_least]; rfl
theorem I_X0_least_27 : zin zm_X0_least.2.2.2.2.2 27 = some (.iload_n 3, 1) := by rw [It_X0_least]; rfl
theorem I_X0_least_28 : zin zm_X0_least.2.2.2.2.2 28 = some (.goto 8, 3) := by rw [It_X0_least]; rfl
theorem I_X0_least_31 : zin zm_X0_least.2.2.2.2.2 31 = some (.iload_n 1, 1) := by rw [It_X0_least]; rfl
theorem I_X0_least_32 : zin zm_X0_least.2.2.2.2.2 32 = some (.iload_n 3, 1) := by rw [It_X0_least]; rfl
theorem I_X0_least_33 : zin zm_X0_least.2.2.2.2.2 33 = some (.invokestatic 59, 3) := by rw [It_X0_least]; rfl
theorem I_X0_least_36 : zin zm_X0_least.2.2.2.2.2 36 = some (.istore_n 1, 1) := by rw [It_X0_least]; rfl
theorem I_X0_least_37 : zin zm_X0_least.2.2.2.2.2 37 = some (.iinc 2 1, 3) := by rw [It_X0_least]; rfl
theorem I_X0_least_40 : zin zm_X0_least.2.2.2.2.2 40 = some (.goto (-35), 3) := by rw [It_X0_least]; rfl
theorem I_X0_least_43 : zin zm_X0_least.2.2.2.2.2 43 = some (.iload_n 1, 1) := by rw [It_X0_least]; rfl
theorem I_X0_least_44 : zin zm_X0_least.2.2.2.2.2 44 = some (.ireturn, 1) := by rw [It_X0_least]; rfl
theorem I_X0_leastOf_0 : zin zm_X0_leastOf.2.2.2.2.2 0 = some (.bipush (-4), 2) := by rw [It_X0_leastOf]; rfl
theorem I_X0_leastOf_2 : zin zm_X0_leastOf.2.2.2.2.2 2 = some (.istore_n 2, 1) := by rw [It_X0_leastOf]; rfl
theorem I_X0_leastOf_3 : zin zm_X0_leastOf.2.2.2.2.2 3 = some (.iconst 0, 1) := by rw [It_X0_leastOf]; rfl
theorem I_X0_leastOf_4 : zin zm_X0_leastOf.2.2.2.2.2 4 = some (.istore_n 3, 1) := by rw [It_X0_leastOf]; rfl
theorem K_0_59 : zlk zmls 0 59 = some (6, 0, 2, 499) := rfl
theorem cl_X0_least : zm_X0_least.2.2.2.2.1 = 0 := by
  unfold zm_X0_least
  rfl
theorem cn_X0_least : zm_X0_least.2.2.2.2.1 ≠ 12 := by
  rw [cl_X0_least]
  decide
theorem cn2_X0_least : zm_X0_least.2.2.2.2.1 ≠ 2 := by
  rw [cl_X0_least]
  decide
def zbt (s : Int32) (i : Nat) : Int32 := (s >>> (Int32.ofNat i &&& 31)) &&& 1
/-- of the first n whose bits are set, the first with the least count; -4: none -/
def zwb (f : Nat → Int32) (s : Int32) : Nat → Int32
  | 0 => -4
  | n + 1 => if zbt s n = 0 then zwb f s n else if zwb f s n = -4 then Int32.ofNat n else if f n < f (zwb f s n).toNatClampNeg then Int32.ofNat n else zwb f s n
/-- the least count of the first n; -4: nobody -/
def zmn (f : Nat → Int32) : Nat → Int32
  | 0 => -4
  | n + 1 => if n = 0 then f 0 else zmin (zmn f n) (f n)
/-- the greatest count -/
def zmx (f : Nat → Int32) : Nat → Int32
  | 0 => -4
  | n + 1 => zmax (zmx f n) (f n)
def zcf (m : zM) (k : Nat) : Nat → Int32 := fun i => zcnt m (k + 3 + i)
theorem lo_loop {m : zM} {k c : Nat} {s : Int32} (hk : zlk6 k) (hc : m k 2 = Int32.ofNat c) (hc5 : c ≤ 5) : ∀ (j i d : Nat) (r : Option Value) (h' : zHp), i + j = c → zE none d zm_X0_leastOf 5 [.ref k, .int s, .int (zwb (zcf m k) s i), .int (Int32.ofNat i)] [] m r h' → r = some (.int (zwb (zcf m k) s c)) ∧ h' = zhp m := by
  intro j
  induction j with
  | zero =>
    intro i d r h' hj H
    replace H := i_iln (q := 6) H I_X0_leastOf_5 rfl rfl
    replace H := i_aln (q := 7) H I_X0_leastOf_6 rfl rfl
    replace H := i_gfi (q := 10) H I_X0_leastOf_7 G_0_26 cn_X0_leastOf (lk_0 hk) rfl rfl
    have W := i_ic_ge (t := 56) (q := 13) H I_X0_leastOf_10 (by decide) rfl
    clear H
    rcases W with ⟨c_10, H⟩ | ⟨c_10, H⟩
    · skip
      replace H := i_iln (q := 57) H I_X0_leastOf_56 rfl rfl
      obtain ⟨hr, hh⟩ := i_ir H I_X0_leastOf_57
      have e : i = c := by omega
      subst e
      exact ⟨hr, hh⟩
    · skip
      replace H := i_iln (q := 14) H I_X0_leastOf_13 rfl rfl
      replace H := i_iln (q := 15) H I_X0_leastOf_14 rfl rfl
      replace H := i_ishr (q := 16) H I_X0_leastOf_15 rfl
      replace H := i_icst (x := 1) (q := 17) H I_X0_leastOf_16 (by decide) rfl
      replace H := i_iand (q := 18) H I_X0_leastOf_17 rfl
      have W := i_if_eq (t := 50) (q := 21) H I_X0_leastOf_18 (by decide) rfl
      clear H
      rcases W with ⟨c_18, H⟩ | ⟨c_18, H⟩
      · skip
        replace H := i_inc (q := 53) H I_X0_leastOf_50 rfl rfl rfl
        replace H := i_goto (q := 5) H I_X0_leastOf_53 (by decide)
        exfalso
        rw [hc] at c_10
        exact absurd ((zofn_lt (by omega) (by omega)).mp c_10) (by omega)
      · skip
        replace H := i_iln (q := 22) H I_X0_leastOf_21 rfl rfl
        replace H := i_bip (x := (-4)) (q := 24) H I_X0_leastOf_22 (by decide) rfl
        have W := i_ic_eq (t := 48) (q := 27) H I_X0_leastOf_24 (by decide) rfl
        clear H
        rcases W with ⟨c_24, H⟩ | ⟨c_24, H⟩
        · skip
          replace H := i_iln (q := 49) H I_X0_leastOf_48 rfl rfl
          replace H := i_isn (q := 50) H I_X0_leastOf_49 rfl rfl
          replace H := i_inc (q := 53) H I_X0_leastOf_50 rfl rfl rfl
          replace H := i_goto (q := 5) H I_X0_leastOf_53 (by decide)
          exfalso
          rw [hc] at c_10
          exact absurd ((zofn_lt (by omega) (by omega)).mp c_10) (by omega)
        · skip
          replace H := i_aln (q := 28) H I_X0_leastOf_27 rfl rfl
          replace H := i_gfr (q := 31) H I_X0_leastOf_28 G_0_11 cn_X0_leastOf (lk_0 hk) rfl rfl
          replace H := i_iln (q := 32) H I_X0_leastOf_31 rfl rfl
          have W := i_folk (k := k) hk (q := 33) H I_X0_leastOf_32 rfl
          clear H
          obtain ⟨i_32, bi_32, ei_32, H⟩ := W
          have W := i_cv0 0 (q := 36) H I_X0_leastOf_33 K_0_51 Zm_20 rfl rfl
          clear H
          obtain ⟨r1, h1, Hc, K1, K2⟩ := W
          obtain ⟨e1, e2⟩ := t_X1_turned (lk_p hk bi_32) Hc
          have H := K1 _ _ e1 e2
          clear e1 e2 Hc K1 K2
          replace H := i_aln (q := 37) H I_X0_leastOf_36 rfl rfl
          replace H := i_gfr (q := 40) H I_X0_leastOf_37 G_0_11 cn_X0_leastOf (lk_0 hk) rfl rfl
          replace H := i_iln (q := 41) H I_X0_leastOf_40 rfl rfl
          have W := i_folk (k := k) hk (q := 42) H I_X0_leastOf_41 rfl
          clear H
          obtain ⟨i_41, bi_41, ei_41, H⟩ := W
          have W := i_cv0 0 (q := 45) H I_X0_leastOf_42 K_0_51 Zm_20 rfl rfl
          clear H
          obtain ⟨r1, h1, Hc, K1, K2⟩ := W
          obtain ⟨e1, e2⟩ := t_X1_turned (lk_p hk bi_41) Hc
          have H := K1 _ _ e1 e2
          clear e1 e2 Hc K1 K2
          have W := i_ic_ge (t := 50) (q := 48) H I_X0_leastOf_45 (by decide) rfl
          clear H
          rcases W with ⟨c_45, H⟩ | ⟨c_45, H⟩
          · skip
            replace H := i_inc (q := 53) H I_X0_leastOf_50 rfl rfl rfl
            replace H := i_goto (q := 5) H I_X0_leastOf_53 (by decide)
            exfalso
            rw [hc] at c_10
            exact absurd ((zofn_lt (by omega) (by omega)).mp c_10) (by omega)
          · skip
            replace H := i_iln (q := 49) H I_X0_leastOf_48 rfl rfl
            replace H := i_isn (q := 50) H I_X0_leastOf_49 rfl rfl
            replace H := i_inc (q := 53) H I_X0_leastOf_50 rfl rfl rfl
            replace H := i_goto (q := 5) H I_X0_leastOf_53 (by decide)
            exfalso
            rw [hc] at c_10
            exact absurd ((zofn_lt (by omega) (by omega)).mp c_10) (by omega)
  | succ j ih =>
    intro i d r h' hj H
    replace H := i_iln (q := 6) H I_X0_leastOf_5 rfl rfl
    replace H := i_aln (q := 7) H I_X0_leastOf_6 rfl rfl
    replace H := i_gfi (q := 10) H I_X0_leastOf_7 G_0_26 cn_X0_leastOf (lk_0 hk) rfl rfl
    have W := i_ic_ge (t := 56) (q := 13) H I_X0_leastOf_10 (by decide) rfl
    clear H
    rcases W with ⟨c_10, H⟩ | ⟨c_10, H⟩
    · skip
      replace H := i_iln (q := 57) H I_X0_leastOf_56 rfl rfl
      obtain ⟨hr, hh⟩ := i_ir H I_X0_leastOf_57
      exfalso
      rw [hc] at c_10
      exact c_10 ((zofn_lt (by omega) (by omega)).mpr (by omega))
    · skip
      replace H := i_iln (q := 14) H I_X0_leastOf_13 rfl rfl
      replace H := i_iln (q := 15) H I_X0_leastOf_14 rfl rfl
      replace H := i_ishr (q := 16) H I_X0_leastOf_15 rfl
      replace H := i_icst (x := 1) (q := 17) H I_X0_leastOf_16 (by decide) rfl
      replace H := i_iand (q := 18) H I_X0_leastOf_17 rfl
      have W := i_if_eq (t := 50) (q := 21) H I_X0_leastOf_18 (by decide) rfl
      clear H
      rcases W with ⟨c_18, H⟩ | ⟨c_18, H⟩
      · skip
        replace H := i_inc (q := 53) H I_X0_leastOf_50 rfl rfl rfl
        replace H := i_goto (q := 5) H I_X0_leastOf_53 (by decide)
        replace H : zE none d zm_X0_leastOf 5 [.ref k, .int s, .int (zwb (zcf m k) s (i + 1)), .int (Int32.ofNat (i + 1))] [] m r h' := by
          rw [zofn_s] at H
          rw [show zwb (zcf m k) s (i + 1) = zwb (zcf m k) s i by
            rw [zwb, if_pos (show zbt s i = 0 from c_18)]]
          exact H
        exact ih (i + 1) d r h' (by omega) H
      · skip
        replace H := i_iln (q := 22) H I_X0_leastOf_21 rfl rfl
        replace H := i_bip (x := (-4)) (q := 24) H I_X0_leastOf_22 (by decide) rfl
        have W := i_ic_eq (t := 48) (q := 27) H I_X0_leastOf_24 (by decide) rfl
        clear H
        rcases W with ⟨c_24, H⟩ | ⟨c_24, H⟩
        · skip
          replace H := i_iln (q := 49) H I_X0_leastOf_48 rfl rfl
          replace H := i_isn (q := 50) H I_X0_leastOf_49 rfl rfl
          replace H := i_inc (q := 53) H I_X0_leastOf_50 rfl rfl rfl
          replace H := i_goto (q := 5) H I_X0_leastOf_53 (by decide)
          replace H : zE none d zm_X0_leastOf 5 [.ref k, .int s, .int (zwb (zcf m k) s (i + 1)), .int (Int32.ofNat (i + 1))] [] m r h' := by
            rw [zofn_s] at H
            rw [show zwb (zcf m k) s (i + 1) = Int32.ofNat i by
              rw [zwb, if_neg (show ¬ zbt s i = 0 from c_18), if_pos c_24]]
            exact H
          exact ih (i + 1) d r h' (by omega) H
        · skip
          replace H := i_aln (q := 28) H I_X0_leastOf_27 rfl rfl
          replace H := i_gfr (q := 31) H I_X0_leastOf_28 G_0_11 cn_X0_leastOf (lk_0 hk) rfl rfl
          replace H := i_iln (q := 32) H I_X0_leastOf_31 rfl rfl
          have W := i_folk (k := k) hk (q := 33) H I_X0_leastOf_32 rfl
          clear H
          obtain ⟨i_32, bi_32, ei_32, H⟩ := W
          have W := i_cv0 0 (q := 36) H I_X0_leastOf_33 K_0_51 Zm_20 rfl rfl
          clear H
          obtain ⟨r1, h1, Hc, K1, K2⟩ := W
          obtain ⟨e1, e2⟩ := t_X1_turned (lk_p hk bi_32) Hc
          have H := K1 _ _ e1 e2
          clear e1 e2 Hc K1 K2
          replace H := i_aln (q := 37) H I_X0_leastOf_36 rfl rfl
          replace H := i_gfr (q := 40) H I_X0_leastOf_37 G_0_11 cn_X0_leastOf (lk_0 hk) rfl rfl
          replace H := i_iln (q := 41) H I_X0_leastOf_40 rfl rfl
          have W := i_folk (k := k) hk (q := 42) H I_X0_leastOf_41 rfl
          clear H
          obtain ⟨i_41, bi_41, ei_41, H⟩ := W
          have W := i_cv0 0 (q := 45) H I_X0_leastOf_42 K_0_51 Zm_20 rfl rfl
          clear H
          obtain ⟨r1, h1, Hc, K1, K2⟩ := W
          obtain ⟨e1, e2⟩ := t_X1_turned (lk_p hk bi_41) Hc
          have H := K1 _ _ e1 e2
          clear e1 e2 Hc K1 K2
          have W := i_ic_ge (t := 50) (q := 48) H I_X0_leastOf_45 (by decide) rfl
          clear H
          rcases W with ⟨c_45, H⟩ | ⟨c_45, H⟩
          · skip
            replace H := i_inc (q := 53) H I_X0_leastOf_50 rfl rfl rfl
            replace H := i_goto (q := 5) H I_X0_leastOf_53 (by decide)
            have e : i = i_32 := zofn ei_32 (by omega) (by omega)
            subst e
            have hb : (zwb (zcf m k) s i).toNatClampNeg = i_41 := by rw [ei_41, Int32.toNatClampNeg_ofNat_of_lt (by omega)]
            replace H : zE none d zm_X0_leastOf 5 [.ref k, .int s, .int (zwb (zcf m k) s (i + 1)), .int (Int32.ofNat (i + 1))] [] m r h' := by
              rw [zofn_s] at H
              rw [show zwb (zcf m k) s (i + 1) = zwb (zcf m k) s i by
                rw [zwb, if_neg (show ¬ zbt s i = 0 from c_18), if_neg c_24, hb, if_neg (show ¬ zcf m k i < zcf m k i_41 from c_45)]]
              exact H
            exact ih (i + 1) d r h' (by omega) H
          · skip
            replace H := i_iln (q := 49) H I_X0_leastOf_48 rfl rfl
            replace H := i_isn (q := 50) H I_X0_leastOf_49 rfl rfl
            replace H := i_inc (q := 53) H I_X0_leastOf_50 rfl rfl rfl
            replace H := i_goto (q := 5) H I_X0_leastOf_53 (by decide)
            have e : i = i_32 := zofn ei_32 (by omega) (by omega)
            subst e
            have hb : (zwb (zcf m k) s i).toNatClampNeg = i_41 := by rw [ei_41, Int32.toNatClampNeg_ofNat_of_lt (by omega)]
            replace H : zE none d zm_X0_leastOf 5 [.ref k, .int s, .int (zwb (zcf m k) s (i + 1)), .int (Int32.ofNat (i + 1))] [] m r h' := by
              rw [zofn_s] at H
              rw [show zwb (zcf m k) s (i + 1) = Int32.ofNat i by
                rw [zwb, if_neg (show ¬ zbt s i = 0 from c_18), if_neg c_24, hb, if_pos (show zcf m k i < zcf m k i_41 from c_45)]]
              exact H
            exact ih (i + 1) d r h' (by omega) H
theorem t_X0_leastOf {d : Nat} {m : zM} {r : Option Value} {h' : zHp} {k c : Nat} {s : Int32} (hk : zlk6 k) (hc : m k 2 = Int32.ofNat c) (hc5 : c ≤ 5) (H : zE none d zm_X0_leastOf 0 [.ref k, .int s, .null, .null] [] m r h') : r = some (.int (zwb (zcf m k) s c)) ∧ h' = zhp m := by
  replace H := i_bip (x := (-4)) (q := 2) H I_X0_leastOf_0 (by decide) rfl
  replace H := i_isn (q := 3) H I_X0_leastOf_2 rfl rfl
  replace H := i_icst (x := 0) (q := 4) H I_X0_leastOf_3 (by decide) rfl
  replace H := i_isn (q := 5) H I_X0_leastOf_4 rfl rfl
  exact lo_loop hk hc hc5 c 0 d r h' (by omega) H
theorem le_loop {m : zM} {k c : Nat} (hk : zlk6 k) (hc : m k 2 = Int32.ofNat c) (hc5 : c ≤ 5) : ∀ (j i d : Nat) (r : Option Value) (h' : zHp), i + j = c → zE none d zm_X0_least 5 [.ref k, .int (zmn (zcf m k) i), .int (Int32.ofNat i), .null] [] m r h' → r = some (.int (zmn (zcf m k) c)) ∧ h' = zhp m := by
  intro j
  induction j with
  | zero =>
    intro i d r h' hj H
    replace H := i_iln (q := 6) H I_X0_least_5 rfl rfl
    replace H := i_aln (q := 7) H I_X0_least_6 rfl rfl
    replace H := i_gfi (q := 10) H I_X0_least_7 G_0_26 cn_X0_least (lk_0 hk) rfl rfl
    have W := i_ic_ge (t := 43) (q := 13) H I_X0_least_10 (by decide) rfl
    clear H
    rcases W with ⟨c_10, H⟩ | ⟨c_10, H⟩
    · skip
      replace H := i_iln (q := 44) H I_X0_least_43 rfl rfl
      obtain ⟨hr, hh⟩ := i_ir H I_X0_least_44
      have e : i = c := by omega
      subst e
      exact ⟨hr, hh⟩
    · skip
      replace H := i_aln (q := 14) H I_X0_least_13 rfl rfl
      replace H := i_gfr (q := 17) H I_X0_least_14 G_0_11 cn_X0_least (lk_0 hk) rfl rfl
      replace H := i_iln (q := 18) H I_X0_least_17 rfl rfl
      have W := i_folk (k := k) hk (q := 19) H I_X0_least_18 rfl
      clear H
      obtain ⟨i_18, bi_18, ei_18, H⟩ := W
      have W := i_cv0 0 (q := 22) H I_X0_least_19 K_0_51 Zm_20 rfl rfl
      clear H
      obtain ⟨r1, h1, Hc, K1, K2⟩ := W
      obtain ⟨e1, e2⟩ := t_X1_turned (lk_p hk bi_18) Hc
      have H := K1 _ _ e1 e2
      clear e1 e2 Hc K1 K2
      replace H := i_isn (q := 23) H I_X0_least_22 rfl rfl
      replace H := i_iln (q := 24) H I_X0_least_23 rfl rfl
      have W := i_if_ne (t := 31) (q := 27) H I_X0_least_24 (by decide) rfl
      clear H
      rcases W with ⟨c_24, H⟩ | ⟨c_24, H⟩
      · skip
        replace H := i_iln (q := 32) H I_X0_least_31 rfl rfl
        replace H := i_iln (q := 33) H I_X0_least_32 rfl rfl
        replace H := i_min (q := 36) H I_X0_least_33 K_0_59 rfl
        replace H := i_isn (q := 37) H I_X0_least_36 rfl rfl
        replace H := i_inc (q := 40) H I_X0_least_37 rfl rfl rfl
        replace H := i_goto (q := 5) H I_X0_least_40 (by decide)
        exfalso
        rw [hc] at c_10
        exact absurd ((zofn_lt (by omega) (by omega)).mp c_10) (by omega)
      · skip
        replace H := i_iln (q := 28) H I_X0_least_27 rfl rfl
        replace H := i_goto (q := 36) H I_X0_least_28 (by decide)
        replace H := i_isn (q := 37) H I_X0_least_36 rfl rfl
        replace H := i_inc (q := 40) H I_X0_least_37 rfl rfl rfl
        replace H := i_goto (q := 5) H I_X0_least_40 (by decide)
        exfalso
        rw [hc] at c_10
        exact absurd ((zofn_lt (by omega) (by omega)).mp c_10) (by omega)
  | succ j ih =>
    intro i d r h' hj H
    replace H := i_iln (q := 6) H I_X0_least_5 rfl rfl
    replace H := i_aln (q := 7) H I_X0_least_6 rfl rfl
    replace H := i_gfi (q := 10) H I_X0_least_7 G_0_26 cn_X0_least (lk_0 hk) rfl rfl
    have W := i_ic_ge (t := 43) (q := 13) H I_X0_least_10 (by decide) rfl
    clear H
    rcases W with ⟨c_10, H⟩ | ⟨c_10, H⟩
    · skip
      replace H := i_iln (q := 44) H I_X0_least_43 rfl rfl
      obtain ⟨hr, hh⟩ := i_ir H I_X0_least_44
      exfalso
      rw [hc] at c_10
      exact c_10 ((zofn_lt (by omega) (by omega)).mpr (by omega))
    · skip
      replace H := i_aln (q := 14) H I_X0_least_13 rfl rfl
      replace H := i_gfr (q := 17) H I_X0_least_14 G_0_11 cn_X0_least (lk_0 hk) rfl rfl
      replace H := i_iln (q := 18) H I_X0_least_17 rfl rfl
      have W := i_folk (k := k) hk (q := 19) H I_X0_least_18 rfl
      clear H
      obtain ⟨i_18, bi_18, ei_18, H⟩ := W
      have W := i_cv0 0 (q := 22) H I_X0_least_19 K_0_51 Zm_20 rfl rfl
      clear H
      obtain ⟨r1, h1, Hc, K1, K2⟩ := W
      obtain ⟨e1, e2⟩ := t_X1_turned (lk_p hk bi_18) Hc
      have H := K1 _ _ e1 e2
      clear e1 e2 Hc K1 K2
      replace H := i_isn (q := 23) H I_X0_least_22 rfl rfl
      replace H := i_iln (q := 24) H I_X0_least_23 rfl rfl
      have W := i_if_ne (t := 31) (q := 27) H I_X0_least_24 (by decide) rfl
      clear H
      rcases W with ⟨c_24, H⟩ | ⟨c_24, H⟩
      · skip
        replace H := i_iln (q := 32) H I_X0_least_31 rfl rfl
        replace H := i_iln (q := 33) H I_X0_least_32 rfl rfl
        replace H := i_min (q := 36) H I_X0_least_33 K_0_59 rfl
        replace H := i_isn (q := 37) H I_X0_least_36 rfl rfl
        replace H := i_inc (q := 40) H I_X0_least_37 rfl rfl rfl
        replace H := i_goto (q := 5) H I_X0_least_40 (by decide)
        have e : i = i_18 := zofn ei_18 (by omega) (by omega)
        subst e
        have h0 : ¬ i = 0 := fun e => c_24 (by rw [e]; rfl)
        replace H := i_w [true, true, true, false] H
        replace H : zE none d zm_X0_least 5 [.ref k, .int (zmn (zcf m k) (i + 1)), .int (Int32.ofNat (i + 1)), .null] [] m r h' := by
          rw [show zmn (zcf m k) (i + 1) = zmin (zmn (zcf m k) i) (zcf m k i) by
            rw [zmn, if_neg h0]]
          rw [← zofn_s]
          exact H
        exact ih (i + 1) d r h' (by omega) H
      · skip
        replace H := i_iln (q := 28) H I_X0_least_27 rfl rfl
        replace H := i_goto (q := 36) H I_X0_least_28 (by decide)
        replace H := i_isn (q := 37) H I_X0_least_36 rfl rfl
        replace H := i_inc (q := 40) H I_X0_least_37 rfl rfl rfl
        replace H := i_goto (q := 5) H I_X0_least_40 (by decide)
        have e : i = i_18 := zofn ei_18 (by omega) (by omega)
        subst e
        have h0 : i = 0 := zofn (j := 0) c_24 (by omega) (by decide)
        replace H := i_w [true, true, true, false] H
        replace H : zE none d zm_X0_least 5 [.ref k, .int (zmn (zcf m k) (i + 1)), .int (Int32.ofNat (i + 1)), .null] [] m r h' := by
          rw [show zmn (zcf m k) (i + 1) = zcf m k i by
            rw [zmn, if_pos h0, h0]]
          rw [← zofn_s]
          exact H
        exact ih (i + 1) d r h' (by omega) H
theorem t_X0_least {d : Nat} {m : zM} {r : Option Value} {h' : zHp} {k c : Nat} (hk : zlk6 k) (hc : m k 2 = Int32.ofNat c) (hc5 : c ≤ 5) (H : zE none d zm_X0_least 0 [.ref k, .null, .null, .null] [] m r h') : r = some (.int (zmn (zcf m k) c)) ∧ h' = zhp m := by
  replace H := i_bip (x := (-4)) (q := 2) H I_X0_least_0 (by decide) rfl
  replace H := i_isn (q := 3) H I_X0_least_2 rfl rfl
  replace H := i_icst (x := 0) (q := 4) H I_X0_least_3 (by decide) rfl
  replace H := i_isn (q := 5) H I_X0_least_4 rfl rfl
  exact le_loop hk hc hc5 c 0 d r h' (by omega) H
