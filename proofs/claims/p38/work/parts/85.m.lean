section
/-! least, leastOf -/
theorem It_X0_least : zm_X0_least.2.2.2.2.2 = zt_X0_least := by
  unfold zm_X0_least
  rfl
theorem I_X0_least_0 : zin zm_X0_least.2.2.2.2.2 0 = some (.bipush (-4), 2) := by rw [It_X0_least]; rfl
theorem I_X0_least_2 : zin zm_X0_least.2.2.2.2.2 2 = some (.istore_n 1, 1) := by rw [It_X0_least]; rfl
theorem I_X0_least_3 : zin zm_X0_least.2.2.2.2.2 3 = some (.iconst 0, 1) := by rw [It_X0_least]; rfl
theorem I_X0_least_4 : zin zm_X0_least.2.2.2.2.2 4 = some (.istore_n 2, 1) := by rw [It_X0_least]; rfl
theorem I_X0_least_5 : zin zm_X0_least.2.2.2.2.2 5 = some (.iload_n 2, 1) := by rw [It_X0_least]; rfl
theorem I_X0_least_6 : zin zm_X0_least.2.2.2.2.2 6 = some (.aload_n 0, 1) := by rw [It_X0_least]; rfl
theorem I_X0_least_7 : zin zm_X0_least.2.2.2.2.2 7 = some (.getfield 26, 3) := by rw [It_X0_least]; rfl
theorem I_X0_least_10 : zin zm_X0_least.2.2.2.2.2 10 = some (.if_icmp .ge 33, 3) := by rw [It_X0_least]; rfl
theorem I_X0_least_13 : zin zm_X0_least.2.2.2.2.2 13 = some (.aload_n 0, 1) := by rw [It_X0_least]; rfl
theorem I_X0_least_14 : zin zm_X0_least.2.2.2.2.2 14 = some (.getfield 11, 3) := by rw [It_X0_least]; rfl
theorem I_X0_least_17 : zin zm_X0_least.2.2.2.2.2 17 = some (.iload_n 2, 1) := by rw [It_X0_least]; rfl
theorem I_X0_least_18 : zin zm_X0_least.2.2.2.2.2 18 = some (.aaload, 1) := by rw [It_X0_least]; rfl
theorem I_X0_least_19 : zin zm_X0_least.2.2.2.2.2 19 = some (.invokevirtual 51, 3) := by rw [It_X0_least]; rfl
theorem I_X0_least_22 : zin zm_X0_least.2.2.2.2.2 22 = some (.istore_n 3, 1) := by rw [It_X0_least]; rfl
theorem I_X0_least_23 : zin zm_X0_least.2.2.2.2.2 23 = some (.iload_n 2, 1) := by rw [It_X0_least]; rfl
theorem I_X0_least_24 : zin zm_X0_least.2.2.2.2.2 24 = some (.ifCond .ne 7, 3) := by rw [It_X0_least]; rfl
theorem I_X0_least_27 : zin zm_X0_least.2.2.2.2.2 27 = some (.iload_n 3, 1) := by rw [It_X0_least]; rfl
theorem I_X0_least_28 : zin zm_X0_least.2.2.2.2.2 28 = some (.goto 8, 3) := by rw [It_X0_least]; rfl
theorem I_X0_least_31 : zin zm_X0_least.2.2.2.2.2 31 = some (.iload_n 1, 1) := by rw [It_X0_least]; rfl
theorem I_X0_least_32 : zin zm_X0_least.2.2.2.2.2 32 = some (.iload_n 3, 1) := by rw [It_X0_least]; rfl
theorem I_X0_least_33 : zin zm_X0_least.2.2.2.2.2 33 = some (.invokestatic 59, 3) := by rw [It_X0_least]; rfl
theorem I_X0_least_36 : zin zm_X0_least.2.2.2.2.2 36 = some (.istore_n 1, 1) := by rw [It_X0_least]; rfl
theorem I_X0_least_37 : zin zm_X0_least.2.2.2.2.2 37 = some (.iinc 2 1, 3) := by rw [It_X0_least]; rfl
theorem I_X0_least_40 : zin zm_X0_least.2.2.2.2.2 40 = some (.goto (-35), 3) := by rw [It_X0_least]; rfl
theorem I_X0_least_43 : zin zm_X0_least.2.2.2.2.2 43 = some (.iload_n 1, 1) := by rw [It_X0_least]; rfl
theorem I_X0_least_44 : zin zm_X0_least.2.2.2.2.2 44 = some (.ireturn, 1) := by rw [It_X0_least]; rfl
theorem I_X0_leastOf_0 : zin zm_X0_leastOf.2.2.2.2.2 0 = some (.bipush (-4), 2) := by rw [It_X0_leastOf]; rfl
theorem I_X0_leastOf_2 : zin zm_X0_leastOf.2.2.2.2.2 2 = some (.istore_n 2, 1) := by rw [It_X0_leastOf]; rfl
theorem I_X0_leastOf_3 : zin zm_X0_leastOf.2.2.2.2.2 3 = some (.iconst 0, 1) := by rw [It_X0_leastOf]; rfl
theorem I_X0_leastOf_4 : zin zm_X0_leastOf.2.2.2.2.2 4 = some (.istore_n 3, 1) := by rw [It_X0_leastOf]; rfl
theorem K_0_59 : zlk zmls 0 59 = some (6, 0, 2, 499) := rfl
theorem cl_X0_least : zm_X0_least.2.2.2.2.1 = 0 := by
  unfold zm_X0_least
  rfl
theorem cn_X0_least : zm_X0_least.2.2.2.2.1 ≠ 12 := by
  rw [cl_X0_least]
  decide
theorem cn2_X0_least : zm_X0_least.2.2.2.2.1 ≠ 2 := by
  rw [cl_X0_least]
  decide
def zbt (s : Int32) (i : Nat) : Int32 := (s >>> (Int32.ofNat i &&& 31)) &&& 1
/-- of the first n whose bits are set, the first with the least count; -4: none -/
def zwb (f : Nat → Int32) (s : Int32) : Nat → Int32
  | 0 => -4
  | n + 1 => if zbt s n = 0 then zwb f s n else if zwb f s n = -4 then Int32.ofNat n else if f n < f (zwb f s n).toNatClampNeg then Int32.ofNat n else zwb f s n
/-- the least count of the first n; -4: nobody -/
def zmn (f : Nat → Int32) : Nat → Int32
  | 0 => -4
  | n + 1 => if n = 0 then f 0 else zmin (zmn f n) (f n)
/-- the greatest count -/
def zmx (f : Nat → Int32) : Nat → Int32
  | 0 => -4
  | n + 1 => zmax (zmx f n) (f n)
def zcf (m : zM) (k : Nat) : Nat → Int32 := fun i => zcnt m (k + 3 + i)
theorem lo_loop {m : zM} {k c : Nat} {s : Int32} (hk : zlk6 k) (hc : m k 2 = Int32.ofNat c) (hc5 : c ≤ 5) : ∀ (j i d : Nat) (r : Option Value) (h' : zHp), i + j = c → zE none d zm_X0_leastOf 5 [.ref k, .int s, .int (zwb (zcf m k) s i), .int (Int32.ofNat i)] [] m r h' → r = some (.int (zwb (zcf m k) s c)) ∧ h' = zhp m := by
  intro j
  induction j with
  | zero =>
    intro i d r h' hj H
    replace H := i_iln (q := 6) H I_X0_leastOf_5 rfl rfl
    replace H := i_aln (q := 7) H I_X0_leastOf_6 rfl rfl
    replace H := i_gfi (q := 10) H I_X0_leastOf_7 G_0_26 cn_X0_leastOf (lk_0 hk) rfl rfl
    have W := i_ic_ge (t := 56) (q := 13) H I_X0_leastOf_10 (by decide) rfl
    clear H
    rcases W with ⟨c_10, H⟩ | ⟨c_10, H⟩
    · skip
      replace H := i_iln (q := 57) H I_X0_leastOf_56 rfl rfl
      obtain ⟨hr, hh⟩ := i_ir H I_X0_leastOf_57
      have e : i = c := by omega
      subst e
      exact ⟨hr, hh⟩
    · skip
      replace H := i_iln (q := 14) H I_X0_leastOf_13 rfl rfl
      replace H := i_iln (q := 15) H I_X0_leastOf_14 rfl rfl
      replace H := i_ishr (q := 16) H I_X0_leastOf_15 rfl
      replace H := i_icst (x := 1) (q := 17) H I_X0_leastOf_16 (by decide) rfl
      replace H := i_iand (q := 18) H I_X0_leastOf_17 rfl
      have W := i_if_eq (t := 50) (q := 21) H I_X0_leastOf_18 (by decide) rfl
      clear H
      rcases W with ⟨c_18, H⟩ | ⟨c_18, H⟩
      · skip
        replace H := i_inc (q := 53) H I_X0_leastOf_50 rfl rfl rfl
        replace H := i_goto (q := 5) H I_X0_leastOf_53 (by decide)
        exfalso
        rw [hc] at c_10
        exact absurd ((zofn_lt (by omega) (by omega)).mp c_10) (by omega)
      · skip
        replace H := i_iln (q := 22) H I_X0_leastOf_21 rfl rfl
        replace H := i_bip (x := (-4)) (q := 24) H I_X0_leastOf_22 (by decide) rfl
        have W := i_ic_eq (t := 48) (q := 27) H I_X0_leastOf_24 (by decide) rfl
        clear H
        rcases W with ⟨c_24, H⟩ | ⟨c_24, H⟩
        · skip
          replace H := i_iln (q := 49) H I_X0_leastOf_48 rfl rfl
          replace H := i_isn (q := 50) H I_X0_leastOf_49 rfl rfl
          replace H := i_inc (q := 53) H I_X0_leastOf_50 rfl rfl rfl
          replace H := i_goto (q := 5) H I_X0_leastOf_53 (by decide)
          exfalso
          rw [hc] at c_10
          exact absurd ((zofn_lt (by omega) (by omega)).mp c_10) (by omega)
        · skip
          replace H := i_aln (q := 28) H I_X0_leastOf_27 rfl rfl
          replace H := i_gfr (q := 31) H I_X0_leastOf_28 G_0_11 cn_X0_leastOf (lk_0 hk) rfl rfl
          replace H := i_iln (q := 32) H I_X0_leastOf_31 rfl rfl
          have W := i_folk (k := k) hk (q := 33) H I_X0_leastOf_32 rfl
          clear H
          obtain ⟨i_32, bi_32, ei_32, H⟩ := W
          have W := i_cv0 0 (q := 36) H I_X0_leastOf_33 K_0_51 Zm_20 rfl rfl
          clear H
          obtain ⟨r1, h1, Hc, K1, K2⟩ := W
          obtain ⟨e1, e2⟩ := t_X1_turned (lk_p hk bi_32) Hc
          have H := K1 _ _ e1 e2
          clear e1 e2 Hc K1 K2
          replace H := i_aln (q := 37) H I_X0_leastOf_36 rfl rfl
          replace H := i_gfr (q := 40) H I_X0_leastOf_37 G_0_11 cn_X0_leastOf (lk_0 hk) rfl rfl
          replace H := i_iln (q := 41) H I_X0_leastOf_40 rfl rfl
          have W := i_folk (k := k) hk (q := 42) H I_X0_leastOf_41 rfl
          clear H
          obtain ⟨i_41, bi_41, ei_41, H⟩ := W
          have W := i_cv0 0 (q := 45) H I_X0_leastOf_42 K_0_51 Zm_20 rfl rfl
          clear H
          obtain ⟨r1, h1, Hc, K1, K2⟩ := W
          obtain ⟨e1, e2⟩ := t_X1_turned (lk_p hk bi_41) Hc
          have H := K1 _ _ e1 e2
          clear e1 e2 Hc K1 K2
          have W := i_ic_ge (t := 50) (q := 48) H I_X0_leastOf_45 (by decide) rfl
          clear H
          rcases W with ⟨c_45, H⟩ | ⟨c_45, H⟩
          · skip
            replace H := i_inc (q := 53) H I_X0_leastOf_50 rfl rfl rfl
            replace H := i_goto (q := 5) H I_X0_leastOf_53 (by decide)
            exfalso
            rw [hc] at c_10
            exact absurd ((zofn_lt (by omega) (by omega)).mp c_10) (by omega)
          · skip
            replace H := i_iln (q := 49) H I_X0_leastOf_48 rfl rfl
            replace H := i_isn (q := 50) H I_X0_leastOf_49 rfl rfl
            replace H := i_inc (q := 53) H I_X0_leastOf_50 rfl rfl rfl
            replace H := i_goto (q := 5) H I_X0_leastOf_53 (by decide)
            exfalso
            rw [hc] at c_10
            exact absurd ((zofn_lt (by omega) (by omega)).mp c_10) (by omega)
  | succ j ih =>
    intro i d r h' hj H
    replace H := i_iln (q := 6) H I_X0_leastOf_5 rfl rfl
    replace H := i_aln (q := 7) H I_X0_leastOf_6 rfl rfl
    replace H := i_gfi (q := 10) H I_X0_leastOf_7 G_0_26 cn_X0_leastOf (lk_0 hk) rfl rfl
    have W := i_ic_ge (t := 56) (q := 13) H I_X0_leastOf_10 (by decide) rfl
    clear H
    rcases W with ⟨c_10, H⟩ | ⟨c_10, H⟩
    · skip
      replace H := i_iln (q := 57) H I_X0_leastOf_56 rfl rfl
      obtain ⟨hr, hh⟩ := i_ir H I_X0_leastOf_57
      exfalso
      rw [hc] at c_10
      exact c_10 ((zofn_lt (by omega) (by omega)).mpr (by omega))
    · skip
      replace H := i_iln (q := 14) H I_X0_leastOf_13 rfl rfl
      replace H := i_iln (q := 15) H I_X0_leastOf_14 rfl rfl
      replace H := i_ishr (q := 16) H I_X0_leastOf_15 rfl
      replace H := i_icst (x := 1) (q := 17) H I_X0_leastOf_16 (by decide) rfl
      replace H := i_iand (q := 18) H I_X0_leastOf_17 rfl
      have W := i_if_eq (t := 50) (q := 21) H I_X0_leastOf_18 (by decide) rfl
      clear H
      rcases W with ⟨c_18, H⟩ | ⟨c_18, H⟩
      · skip
        replace H := i_inc (q := 53) H I_X0_leastOf_50 rfl rfl rfl
        replace H := i_goto (q := 5) H I_X0_leastOf_53 (by decide)
        replace H : zE none d zm_X0_leastOf 5 [.ref k, .int s, .int (zwb (zcf m k) s (i + 1)), .int (Int32.ofNat (i + 1))] [] m r h' := by
          rw [zofn_s] at H
          rw [show zwb (zcf m k) s (i + 1) = zwb (zcf m k) s i by
            rw [zwb, if_pos (show zbt s i = 0 from c_18)]]
          exact H
        exact ih (i + 1) d r h' (by omega) H
      · skip
        replace H := i_iln (q := 22) H I_X0_leastOf_21 rfl rfl
        replace H := i_bip (x := (-4)) (q := 24) H I_X0_leastOf_22 (by decide) rfl
        have W := i_ic_eq (t := 48) (q := 27) H I_X0_leastOf_24 (by decide) rfl
        clear H
        rcases W with ⟨c_24, H⟩ | ⟨c_24, H⟩
        · skip
          replace H := i_iln (q := 49) H I_X0_leastOf_48 rfl rfl
          replace H := i_isn (q := 50) H I_X0_leastOf_49 rfl rfl
          replace H := i_inc (q := 53) H I_X0_leastOf_50 rfl rfl rfl
          replace H := i_goto (q := 5) H I_X0_leastOf_53 (by decide)
          replace H : zE none d zm_X0_leastOf 5 [.ref k, .int s, .int (zwb (zcf m k) s (i + 1)), .int (Int32.ofNat (i + 1))] [] m r h' := by
            rw [zofn_s] at H
            rw [show zwb (zcf m k) s (i + 1) = Int32.ofNat i by
              rw [zwb, if_neg (show ¬ zbt s i = 0 from c_18), if_pos c_24]]
            exact H
          exact ih (i + 1) d r h' (by omega) H
        · skip
          replace H := i_aln (q := 28) H I_X0_leastOf_27 rfl rfl
          replace H := i_gfr (q := 31) H I_X0_leastOf_28 G_0_11 cn_X0_leastOf (lk_0 hk) rfl rfl
          replace H := i_iln (q := 32) H I_X0_leastOf_31 rfl rfl
          have W := i_folk (k := k) hk (q := 33) H I_X0_leastOf_32 rfl
          clear H
          obtain ⟨i_32, bi_32, ei_32, H⟩ := W
          have W := i_cv0 0 (q := 36) H I_X0_leastOf_33 K_0_51 Zm_20 rfl rfl
          clear H
          obtain ⟨r1, h1, Hc, K1, K2⟩ := W
          obtain ⟨e1, e2⟩ := t_X1_turned (lk_p hk bi_32) Hc
          have H := K1 _ _ e1 e2
          clear e1 e2 Hc K1 K2
          replace H := i_aln (q := 37) H I_X0_leastOf_36 rfl rfl
          replace H := i_gfr (q := 40) H I_X0_leastOf_37 G_0_11 cn_X0_leastOf (lk_0 hk) rfl rfl
          replace H := i_iln (q := 41) H I_X0_leastOf_40 rfl rfl
          have W := i_folk (k := k) hk (q := 42) H I_X0_leastOf_41 rfl
          clear H
          obtain ⟨i_41, bi_41, ei_41, H⟩ := W
          have W := i_cv0 0 (q := 45) H I_X0_leastOf_42 K_0_51 Zm_20 rfl rfl
          clear H
          obtain ⟨r1, h1, Hc, K1, K2⟩ := W
          obtain ⟨e1, e2⟩ := t_X1_turned (lk_p hk bi_41) Hc
          have H := K1 _ _ e1 e2
          clear e1 e2 Hc K1 K2
          have W := i_ic_ge (t := 50) (q := 48) H I_X0_leastOf_45 (by decide) rfl
          clear H
          rcases W with ⟨c_45, H⟩ | ⟨c_45, H⟩
          · skip
            replace H := i_inc (q := 53) H I_X0_leastOf_50 rfl rfl rfl
            replace H := i_goto (q := 5) H I_X0_leastOf_53 (by decide)
            have e : i = i_32 := zofn ei_32 (by omega) (by omega)
            subst e
            have hb : (zwb (zcf m k) s i).toNatClampNeg = i_41 := by rw [ei_41, Int32.toNatClampNeg_ofNat_of_lt (by omega)]
            replace H : zE none d zm_X0_leastOf 5 [.ref k, .int s, .int (zwb (zcf m k) s (i + 1)), .int (Int32.ofNat (i + 1))] [] m r h' := by
              rw [zofn_s] at H
              rw [show zwb (zcf m k) s (i + 1) = zwb (zcf m k) s i by
                rw [zwb, if_neg (show ¬ zbt s i = 0 from c_18), if_neg c_24, hb, if_neg (show ¬ zcf m k i < zcf m k i_41 from c_45)]]
              exact H
            exact ih (i + 1) d r h' (by omega) H
          · skip
            replace H := i_iln (q := 49) H I_X0_leastOf_48 rfl rfl
            replace H := i_isn (q := 50) H I_X0_leastOf_49 rfl rfl
            replace H := i_inc (q := 53) H I_X0_leastOf_50 rfl rfl rfl
            replace H := i_goto (q := 5) H I_X0_leastOf_53 (by decide)
            have e : i = i_32 := zofn ei_32 (by omega) (by omega)
            subst e
            have hb : (zwb (zcf m k) s i).toNatClampNeg = i_41 := by rw [ei_41, Int32.toNatClampNeg_ofNat_of_lt (by omega)]
            replace H : zE none d zm_X0_leastOf 5 [.ref k, .int s, .int (zwb (zcf m k) s (i + 1)), .int (Int32.ofNat (i + 1))] [] m r h' := by
              rw [zofn_s] at H
              rw [show zwb (zcf m k) s (i + 1) = Int32.ofNat i by
                rw [zwb, if_neg (show ¬ zbt s i = 0 from c_18), if_neg c_24, hb, if_pos (show zcf m k i < zcf m k i_41 from c_45)]]
              exact H
            exact ih (i + 1) d r h' (by omega) H
theorem t_X0_leastOf {d : Nat} {m : zM} {r : Option Value} {h' : zHp} {k c : Nat} {s : Int32} (hk : zlk6 k) (hc : m k 2 = Int32.ofNat c) (hc5 : c ≤ 5) (H : zE none d zm_X0_leastOf 0 [.ref k, .int s, .null, .null] [] m r h') : r = some (.int (zwb (zcf m k) s c)) ∧ h' = zhp m := by
  replace H := i_bip (x := (-4)) (q := 2) H I_X0_leastOf_0 (by decide) rfl
  replace H := i_isn (q := 3) H I_X0_leastOf_2 rfl rfl
  replace H := i_icst (x := 0) (q := 4) H I_X0_leastOf_3 (by decide) rfl
  replace H := i_isn (q := 5) H I_X0_leastOf_4 rfl rfl
  exact lo_loop hk hc hc5 c 0 d r h' (by omega) H
theorem le_loop {m : zM} {k c : Nat} (hk : zlk6 k) (hc : m k 2 = Int32.ofNat c) (hc5 : c ≤ 5) : ∀ (j i d : Nat) (r : Option Value) (h' : zHp), i + j = c → zE none d zm_X0_least 5 [.ref k, .int (zmn (zcf m k) i), .int (Int32.ofNat i), .null] [] m r h' → r = some (.int (zmn (zcf m k) c)) ∧ h' = zhp m := by
  intro j
  induction j with
  | zero =>
    intro i d r h' hj H
    replace H := i_iln (q := 6) H I_X0_least_5 rfl rfl
    replace H := i_aln (q := 7) H I_X0_least_6 rfl rfl
    replace H := i_gfi (q := 10) H I_X0_least_7 G_0_26 cn_X0_least (lk_0 hk) rfl rfl
    have W := i_ic_ge (t := 43) (q := 13) H I_X0_least_10 (by decide) rfl
    clear H
    rcases W with ⟨c_10, H⟩ | ⟨c_10, H⟩
    · skip
      replace H := i_iln (q := 44) H I_X0_least_43 rfl rfl
      obtain ⟨hr, hh⟩ := i_ir H I_X0_least_44
      have e : i = c := by omega
      subst e
      exact ⟨hr, hh⟩
    · skip
      replace H := i_aln (q := 14) H I_X0_least_13 rfl rfl
      replace H := i_gfr (q := 17) H I_X0_least_14 G_0_11 cn_X0_least (lk_0 hk) rfl rfl
      replace H := i_iln (q := 18) H I_X0_least_17 rfl rfl
      have W := i_folk (k := k) hk (q := 19) H I_X0_least_18 rfl
      clear H
      obtain ⟨i_18, bi_18, ei_18, H⟩ := W
      have W := i_cv0 0 (q := 22) H I_X0_least_19 K_0_51 Zm_20 rfl rfl
      clear H
      obtain ⟨r1, h1, Hc, K1, K2⟩ := W
      obtain ⟨e1, e2⟩ := t_X1_turned (lk_p hk bi_18) Hc
      have H := K1 _ _ e1 e2
      clear e1 e2 Hc K1 K2
      replace H := i_isn (q := 23) H I_X0_least_22 rfl rfl
      replace H := i_iln (q := 24) H I_X0_least_23 rfl rfl
      have W := i_if_ne (t := 31) (q := 27) H I_X0_least_24 (by decide) rfl
      clear H
      rcases W with ⟨c_24, H⟩ | ⟨c_24, H⟩
      · skip
        replace H := i_iln (q := 32) H I_X0_least_31 rfl rfl
        replace H := i_iln (q := 33) H I_X0_least_32 rfl rfl
        replace H := i_min (q := 36) H I_X0_least_33 K_0_59 rfl
        replace H := i_isn (q := 37) H I_X0_least_36 rfl rfl
        replace H := i_inc (q := 40) H I_X0_least_37 rfl rfl rfl
        replace H := i_goto (q := 5) H I_X0_least_40 (by decide)
        exfalso
        rw [hc] at c_10
        exact absurd ((zofn_lt (by omega) (by omega)).mp c_10) (by omega)
      · skip
        replace H := i_iln (q := 28) H I_X0_least_27 rfl rfl
        replace H := i_goto (q := 36) H I_X0_least_28 (by decide)
        replace H := i_isn (q := 37) H I_X0_least_36 rfl rfl
        replace H := i_inc (q := 40) H I_X0_least_37 rfl rfl rfl
        replace H := i_goto (q := 5) H I_X0_least_40 (by decide)
        exfalso
        rw [hc] at c_10
        exact absurd ((zofn_lt (by omega) (by omega)).mp c_10) (by omega)
  | succ j ih =>
    intro i d r h' hj H
    replace H := i_iln (q := 6) H I_X0_least_5 rfl rfl
    replace H := i_aln (q := 7) H I_X0_least_6 rfl rfl
    replace H := i_gfi (q := 10) H I_X0_least_7 G_0_26 cn_X0_least (lk_0 hk) rfl rfl
    have W := i_ic_ge (t := 43) (q := 13) H I_X0_least_10 (by decide) rfl
    clear H
    rcases W with ⟨c_10, H⟩ | ⟨c_10, H⟩
    · skip
      replace H := i_iln (q := 44) H I_X0_least_43 rfl rfl
      obtain ⟨hr, hh⟩ := i_ir H I_X0_least_44
      exfalso
      rw [hc] at c_10
      exact c_10 ((zofn_lt (by omega) (by omega)).mpr (by omega))
    · skip
      replace H := i_aln (q := 14) H I_X0_least_13 rfl rfl
      replace H := i_gfr (q := 17) H I_X0_least_14 G_0_11 cn_X0_least (lk_0 hk) rfl rfl
      replace H := i_iln (q := 18) H I_X0_least_17 rfl rfl
      have W := i_folk (k := k) hk (q := 19) H I_X0_least_18 rfl
      clear H
      obtain ⟨i_18, bi_18, ei_18, H⟩ := W
      have W := i_cv0 0 (q := 22) H I_X0_least_19 K_0_51 Zm_20 rfl rfl
      clear H
      obtain ⟨r1, h1, Hc, K1, K2⟩ := W
      obtain ⟨e1, e2⟩ := t_X1_turned (lk_p hk bi_18) Hc
      have H := K1 _ _ e1 e2
      clear e1 e2 Hc K1 K2
      replace H := i_isn (q := 23) H I_X0_least_22 rfl rfl
      replace H := i_iln (q := 24) H I_X0_least_23 rfl rfl
      have W := i_if_ne (t := 31) (q := 27) H I_X0_least_24 (by decide) rfl
      clear H
      rcases W with ⟨c_24, H⟩ | ⟨c_24, H⟩
      · skip
        replace H := i_iln (q := 32) H I_X0_least_31 rfl rfl
        replace H := i_iln (q := 33) H I_X0_least_32 rfl rfl
        replace H := i_min (q := 36) H I_X0_least_33 K_0_59 rfl
        replace H := i_isn (q := 37) H I_X0_least_36 rfl rfl
        replace H := i_inc (q := 40) H I_X0_least_37 rfl rfl rfl
        replace H := i_goto (q := 5) H I_X0_least_40 (by decide)
        have e : i = i_18 := zofn ei_18 (by omega) (by omega)
        subst e
        have h0 : ¬ i = 0 := fun e => c_24 (by rw [e]; rfl)
        replace H := i_w [true, true, true, false] H
        replace H : zE none d zm_X0_least 5 [.ref k, .int (zmn (zcf m k) (i + 1)), .int (Int32.ofNat (i + 1)), .null] [] m r h' := by
          rw [show zmn (zcf m k) (i + 1) = zmin (zmn (zcf m k) i) (zcf m k i) by
            rw [zmn, if_neg h0]]
          rw [← zofn_s]
          exact H
        exact ih (i + 1) d r h' (by omega) H
      · skip
        replace H := i_iln (q := 28) H I_X0_least_27 rfl rfl
        replace H := i_goto (q := 36) H I_X0_least_28 (by decide)
        replace H := i_isn (q := 37) H I_X0_least_36 rfl rfl
        replace H := i_inc (q := 40) H I_X0_least_37 rfl rfl rfl
        replace H := i_goto (q := 5) H I_X0_least_40 (by decide)
        have e : i = i_18 := zofn ei_18 (by omega) (by omega)
        subst e
        have h0 : i = 0 := zofn (j := 0) c_24 (by omega) (by decide)
        replace H := i_w [true, true, true, false] H
        replace H : zE none d zm_X0_least 5 [.ref k, .int (zmn (zcf m k) (i + 1)), .int (Int32.ofNat (i + 1)), .null] [] m r h' := by
          rw [show zmn (zcf m k) (i + 1) = zcf m k i by
            rw [zmn, if_pos h0, h0]]
          rw [← zofn_s]
          exact H
        exact ih (i + 1) d r h' (by omega) H
theorem t_X0_least {d : Nat} {m : zM} {r : Option Value} {h' : zHp} {k c : Nat} (hk : zlk6 k) (hc : m k 2 = Int32.ofNat c) (hc5 : c ≤ 5) (H : zE none d zm_X0_least 0 [.ref k, .null, .null, .null] [] m r h') : r = some (.int (zmn (zcf m k) c)) ∧ h' = zhp m := by
  replace H := i_bip (x := (-4)) (q := 2) H I_X0_least_0 (by decide) rfl
  replace H := i_isn (q := 3) H I_X0_least_2 rfl rfl
  replace H := i_icst (x := 0) (q := 4) H I_X0_least_3 (by decide) rfl
  replace H := i_isn (q := 5) H I_X0_least_4 rfl rfl
  exact le_loop hk hc hc5 c 0 d r h' (by omega) H
end
section
/-! a try -/
theorem It_X0_attempt : zm_X0_attempt.2.2.2.2.2 = zt_X0_attempt := by
  unfold zm_X0_attempt
  rfl
theorem I_X0_attempt_0 : zin zm_X0_attempt.2.2.2.2.2 0 = some (.aload_n 0, 1) := by rw [It_X0_attempt]; rfl
theorem I_X0_attempt_1 : zin zm_X0_attempt.2.2.2.2.2 1 = some (.sipush 999, 3) := by rw [It_X0_attempt]; rfl
theorem I_X0_attempt_4 : zin zm_X0_attempt.2.2.2.2.2 4 = some (.aload_n 0, 1) := by rw [It_X0_attempt]; rfl
theorem I_X0_attempt_5 : zin zm_X0_attempt.2.2.2.2.2 5 = some (.getfield 32, 3) := by rw [It_X0_attempt]; rfl
theorem I_X0_attempt_8 : zin zm_X0_attempt.2.2.2.2.2 8 = some (.iconst 1, 1) := by rw [It_X0_attempt]; rfl
theorem I_X0_attempt_9 : zin zm_X0_attempt.2.2.2.2.2 9 = some (.iadd, 1) := by rw [It_X0_attempt]; rfl
theorem I_X0_attempt_10 : zin zm_X0_attempt.2.2.2.2.2 10 = some (.invokestatic 59, 3) := by rw [It_X0_attempt]; rfl
theorem I_X0_attempt_13 : zin zm_X0_attempt.2.2.2.2.2 13 = some (.putfield 32, 3) := by rw [It_X0_attempt]; rfl
theorem I_X0_attempt_16 : zin zm_X0_attempt.2.2.2.2.2 16 = some (.aload_n 0, 1) := by rw [It_X0_attempt]; rfl
theorem I_X0_attempt_17 : zin zm_X0_attempt.2.2.2.2.2 17 = some (.iload_n 1, 1) := by rw [It_X0_attempt]; rfl
theorem I_X0_attempt_18 : zin zm_X0_attempt.2.2.2.2.2 18 = some (.invokevirtual 78, 3) := by rw [It_X0_attempt]; rfl
theorem I_X0_attempt_21 : zin zm_X0_attempt.2.2.2.2.2 21 = some (.istore_n 2, 1) := by rw [It_X0_attempt]; rfl
theorem I_X0_attempt_22 : zin zm_X0_attempt.2.2.2.2.2 22 = some (.iload_n 2, 1) := by rw [It_X0_attempt]; rfl
theorem I_X0_attempt_23 : zin zm_X0_attempt.2.2.2.2.2 23 = some (.bipush (-4), 2) := by rw [It_X0_attempt]; rfl
theorem I_X0_attempt_25 : zin zm_X0_attempt.2.2.2.2.2 25 = some (.if_icmp .eq 24, 3) := by rw [It_X0_attempt]; rfl
theorem I_X0_attempt_28 : zin zm_X0_attempt.2.2.2.2.2 28 = some (.aload_n 0, 1) := by rw [It_X0_attempt]; rfl
theorem I_X0_attempt_29 : zin zm_X0_attempt.2.2.2.2.2 29 = some (.getfield 11, 3) := by rw [It_X0_attempt]; rfl
theorem I_X0_attempt_32 : zin zm_X0_attempt.2.2.2.2.2 32 = some (.iload_n 2, 1) := by rw [It_X0_attempt]; rfl
theorem I_X0_attempt_33 : zin zm_X0_attempt.2.2.2.2.2 33 = some (.aaload, 1) := by rw [It_X0_attempt]; rfl
theorem I_X0_attempt_34 : zin zm_X0_attempt.2.2.2.2.2 34 = some (.invokevirtual 51, 3) := by rw [It_X0_attempt]; rfl
theorem I_X0_attempt_37 : zin zm_X0_attempt.2.2.2.2.2 37 = some (.aload_n 0, 1) := by rw [It_X0_attempt]; rfl
theorem I_X0_attempt_38 : zin zm_X0_attempt.2.2.2.2.2 38 = some (.invokevirtual 75, 3) := by rw [It_X0_attempt]; rfl
theorem I_X0_attempt_41 : zin zm_X0_attempt.2.2.2.2.2 41 = some (.aload_n 0, 1) := by rw [It_X0_attempt]; rfl
theorem I_X0_attempt_42 : zin zm_X0_attempt.2.2.2.2.2 42 = some (.getfield 21, 3) := by rw [It_X0_attempt]; rfl
theorem I_X0_attempt_45 : zin zm_X0_attempt.2.2.2.2.2 45 = some (.iadd, 1) := by rw [It_X0_attempt]; rfl
theorem I_X0_attempt_46 : zin zm_X0_attempt.2.2.2.2.2 46 = some (.if_icmp .le 6, 3) := by rw [It_X0_attempt]; rfl
theorem I_X0_attempt_49 : zin zm_X0_attempt.2.2.2.2.2 49 = some (.bipush (-4), 2) := by rw [It_X0_attempt]; rfl
theorem I_X0_attempt_51 : zin zm_X0_attempt.2.2.2.2.2 51 = some (.ireturn, 1) := by rw [It_X0_attempt]; rfl
theorem I_X0_attempt_52 : zin zm_X0_attempt.2.2.2.2.2 52 = some (.aload_n 0, 1) := by rw [It_X0_attempt]; rfl
theorem I_X0_attempt_53 : zin zm_X0_attempt.2.2.2.2.2 53 = some (.getfield 11, 3) := by rw [It_X0_attempt]; rfl
theorem I_X0_attempt_56 : zin zm_X0_attempt.2.2.2.2.2 56 = some (.iload_n 2, 1) := by rw [It_X0_attempt]; rfl
theorem I_X0_attempt_57 : zin zm_X0_attempt.2.2.2.2.2 57 = some (.aaload, 1) := by rw [It_X0_attempt]; rfl
theorem I_X0_attempt_58 : zin zm_X0_attempt.2.2.2.2.2 58 = some (.invokevirtual 82, 3) := by rw [It_X0_attempt]; rfl
theorem I_X0_attempt_61 : zin zm_X0_attempt.2.2.2.2.2 61 = some (.iload_n 2, 1) := by rw [It_X0_attempt]; rfl
theorem I_X0_attempt_62 : zin zm_X0_attempt.2.2.2.2.2 62 = some (.ireturn, 1) := by rw [It_X0_attempt]; rfl
theorem K_0_75 : zlk zmls 0 75 = some (0, 10, 0, 510) := rfl
theorem K_0_78 : zlk zmls 0 78 = some (0, 9, 1, 560) := rfl
theorem K_0_82 : zlk zmls 0 82 = some (0, 23, 0, 564) := rfl
theorem Zm_9 : zms[9]? = some zm_X0_leastOf := rfl
theorem Zm_10 : zms[10]? = some zm_X0_least := rfl
theorem Zm_23 : zms[23]? = some zm_X1_enter := rfl
theorem cl_X0_attempt : zm_X0_attempt.2.2.2.2.1 = 0 := by
  unfold zm_X0_attempt
  rfl
theorem cn_X0_attempt : zm_X0_attempt.2.2.2.2.1 ≠ 12 := by
  rw [cl_X0_attempt]
  decide
theorem cn2_X0_attempt : zm_X0_attempt.2.2.2.2.1 ≠ 2 := by
  rw [cl_X0_attempt]
  decide
def gcn (g : Nat → Int32) (i : Nat) : Int32 := if zbt (g 15) i = 1 then g (10 + i) else g (5 + i)
def gat (g : Nat → Int32) (i : Nat) : Nat := if zbt (g 15) i = 1 then 10 + i else 5 + i
def gtr (x : Int32) : Int32 := if x < 999 then x + 1 else x
def zcap (v : Int32) : Int32 := if 99 < v then 99 else v
/-- nobody is let in: none of these, or too far above the least -/
def gno (g : Nat → Int32) (c : Nat) (s : Int32) : Prop := zwb (gcn g) s c = -4 ∨ zmn (gcn g) c + (g 16 + 1) < gcn g (zwb (gcn g) s c).toNatClampNeg
def gTry1 (g : Nat → Int32) (c : Nat) (s : Int32) : Int32 := if zwb (gcn g) s c = -4 ∨ zmn (gcn g) c + (g 16 + 1) < gcn g (zwb (gcn g) s c).toNatClampNeg then -4 else zwb (gcn g) s c
def gTry2 (g : Nat → Int32) (c : Nat) (s : Int32) : Nat → Int32 := if zwb (gcn g) s c = -4 ∨ zmn (gcn g) c + (g 16 + 1) < gcn g (zwb (gcn g) s c).toNatClampNeg then gset g 17 (gtr (g 17)) else gset (gset g 17 (gtr (g 17))) (gat g (zwb (gcn g) s c).toNatClampNeg) (zcap (gcn g (zwb (gcn g) s c).toNatClampNeg + zmrk (g (zwb (gcn g) s c).toNatClampNeg)))
/-- a page as it may be -/
def gok (g : Nat → Int32) (c : Nat) : Prop := c ≤ 5 ∧ (∀ i, i < c → (0 ≤ (g i).toInt ∧ (g i).toInt ≤ 3) ∧ (0 ≤ (g (5 + i)).toInt ∧ (g (5 + i)).toInt ≤ 99) ∧ (0 ≤ (g (10 + i)).toInt ∧ (g (10 + i)).toInt ≤ 99)) ∧ 0 ≤ (g 17).toInt ∧ (g 17).toInt ≤ 999
theorem zwb_r (f : Nat → Int32) (s : Int32) : ∀ n, n ≤ 5 → zwb f s n = -4 ∨ ∃ w, w < n ∧ zwb f s n = Int32.ofNat w
  | 0, _ => Or.inl rfl
  | n + 1, hn => by
    rw [zwb]
    have ih := zwb_r f s n (by omega)
    have up : zwb f s n = -4 ∨ ∃ w, w < n + 1 ∧ zwb f s n = Int32.ofNat w := by
      rcases ih with h | ⟨w, w1, w2⟩
      · exact Or.inl h
      · exact Or.inr ⟨w, by omega, w2⟩
    split
    · exact up
    · split
      · exact Or.inr ⟨n, by omega, rfl⟩
      · split
        · exact Or.inr ⟨n, by omega, rfl⟩
        · exact up
theorem zwb_g {f u : Nat → Int32} {s : Int32} : ∀ n, n ≤ 5 → (∀ i, i < n → f i = u i) → zwb f s n = zwb u s n
  | 0, _, _ => rfl
  | n + 1, hn, h => by
    have ih := zwb_g (f := f) (u := u) (s := s) n (by omega) (fun i hi => h i (by omega))
    rw [zwb, zwb, ih, h n (by omega)]
    by_cases h4 : zwb u s n = -4
    · rw [if_pos h4, if_pos h4]
    · rcases zwb_r u s n (by omega) with e | ⟨w, w1, w2⟩
      · exact absurd e h4
      · rw [w2, Int32.toNatClampNeg_ofNat_of_lt (by omega), h w (by omega)]
theorem zmn_g {f u : Nat → Int32} : ∀ n, (∀ i, i < n → f i = u i) → zmn f n = zmn u n
  | 0, _ => rfl
  | n + 1, h => by
    rw [zmn, zmn, zmn_g n (fun i hi => h i (by omega)), h n (by omega), h 0 (by omega)]
theorem LV_c {m : zM} {k c : Nat} {g : Nat → Int32} (h : LV m k c g) {i : Nat} (hi : i < c) : zcf m k i = gcn g i := by
  obtain ⟨x, y, z, w⟩ := h.2.2.1 i hi
  show zcnt m (k + 3 + i) = gcn g i
  unfold zcnt gcn
  rw [w, y, z]
  rfl
theorem zmin_cap {v : Int32} : zmin 99 v = zcap v := by
  unfold zmin zcap
  have e1 : v < 99 ↔ v.toInt < 99 := Int32.lt_iff_toInt_lt
  have e2 : (99 : Int32) < v ↔ 99 < v.toInt := Int32.lt_iff_toInt_lt
  by_cases h1 : v < 99
  · rw [if_pos h1, if_neg (fun w => by have := e1.mp h1; have := e2.mp w; omega)]
  · rw [if_neg h1]
    by_cases h2 : (99 : Int32) < v
    · rw [if_pos h2]
    · rw [if_neg h2]
      apply Int32.toInt_inj.mp
      have := mt e1.mpr h1
      have := mt e2.mpr h2
      have e3 : (99 : Int32).toInt = 99 := rfl
      omega
theorem gtr_c {x : Int32} (h0 : 0 ≤ x.toInt) (h1 : x.toInt ≤ 999) : (if x + 1 < (999 : Int32) then x + 1 else 999) = gtr x := by
  obtain ⟨a, a1, rfl⟩ : ∃ a, a ≤ 999 ∧ x = Int32.ofNat a := ⟨x.toInt.toNat, by omega, by
    apply Int32.toInt_inj.mp
    rw [zofn_t (by omega)]
    omega⟩
  unfold gtr
  rw [zofn_1]
  have e1 : Int32.ofNat (a + 1) < (999 : Int32) ↔ a + 1 < 999 := zofn_lt (j := 999) (by omega) (by decide)
  have e2 : Int32.ofNat a < (999 : Int32) ↔ a < 999 := zofn_lt (j := 999) (by omega) (by decide)
  by_cases h : a + 1 < 999
  · rw [if_pos (e1.mpr h), if_pos (e2.mpr (by omega))]
  · rw [if_neg (fun w => h (e1.mp w))]
    by_cases h2 : a < 999
    · rw [if_pos (e2.mpr h2), show a + 1 = 999 by omega]
      rfl
    · rw [if_neg (fun w => h2 (e2.mp w)), show a = 999 by omega]
      rfl
theorem t_X0_attempt {d : Nat} {m : zM} {r : Option Value} {h' : zHp} {k c : Nat} {s : Int32} {g : Nat → Int32} (hk : zlk6 k) (hL : LV m k c g) (hg : gok g c) (H : zE none d zm_X0_attempt 0 [.ref k, .int s, .null] [] m r h') : ∃ m1, r = some (.int (gTry1 g c s)) ∧ h' = zhp m1 ∧ LV m1 k c (gTry2 g c s) ∧ ∀ a b, ¬ (k ≤ a ∧ a ≤ k + 7) → m1 a b = m a b := by
  replace H := i_aln (q := 1) H I_X0_attempt_0 rfl rfl
  replace H := i_sip (x := 999) (q := 4) H I_X0_attempt_1 (by decide) rfl
  replace H := i_aln (q := 5) H I_X0_attempt_4 rfl rfl
  replace H := i_gfi (q := 8) H I_X0_attempt_5 G_0_32 cn_X0_attempt (lk_0 hk) rfl rfl
  replace H := i_icst (x := 1) (q := 9) H I_X0_attempt_8 (by decide) rfl
  replace H := i_iadd (q := 10) H I_X0_attempt_9 rfl
  replace H := i_min (q := 13) H I_X0_attempt_10 K_0_59 rfl
  replace H := i_pf (q := 16) H I_X0_attempt_13 G_0_32 cn_X0_attempt (lk_0 hk) rfl rfl
  replace H := i_aln (q := 17) H I_X0_attempt_16 rfl rfl
  replace H := i_iln (q := 18) H I_X0_attempt_17 rfl rfl
  have W := i_cv1 2 (q := 21) H I_X0_attempt_18 K_0_78 Zm_9 rfl rfl
  clear H
  obtain ⟨r1, h1, Hc, K1, K2⟩ := W
  obtain ⟨e1, e2⟩ := t_X0_leastOf hk (c := c) (by rw [zup_n (by omega)]; exact hL.1) hL.2.1 Hc
  have H := K1 _ _ e1 e2
  clear e1 e2 Hc K1 K2
  replace H := i_isn (q := 22) H I_X0_attempt_21 rfl rfl
  replace H := i_iln (q := 23) H I_X0_attempt_22 rfl rfl
  replace H := i_bip (x := (-4)) (q := 25) H I_X0_attempt_23 (by decide) rfl
  have W := i_ic_eq (t := 49) (q := 28) H I_X0_attempt_25 (by decide) rfl
  clear H
  rcases W with ⟨c_25, H⟩ | ⟨c_25, H⟩
  · skip
    replace H := i_bip (x := (-4)) (q := 51) H I_X0_attempt_49 (by decide) rfl
    obtain ⟨hr, hh⟩ := i_ir H I_X0_attempt_51
    have ew : zwb (zcf (zup m k 5 (if m k 5 + 1 < 999 then m k 5 + 1 else 999)) k) s c = zwb (gcn g) s c := by
      refine zwb_g c hL.2.1 (fun i hi => ?_)
      rw [← LV_c hL hi]
      show zcnt _ _ = zcnt _ _
      unfold zcnt
      rw [zup_n (by omega), zup_n (by omega), zup_n (by omega)]
    have el : zmn (zcf (zup m k 5 (if m k 5 + 1 < 999 then m k 5 + 1 else 999)) k) c = zmn (gcn g) c := by
      refine zmn_g c (fun i hi => ?_)
      rw [← LV_c hL hi]
      show zcnt _ _ = zcnt _ _
      unfold zcnt
      rw [zup_n (by omega), zup_n (by omega), zup_n (by omega)]
    have et : (if m k 5 + 1 < 999 then m k 5 + 1 else 999) = gtr (g 17) := by rw [hL.2.2.2.2.1]; exact gtr_c hg.2.2.1 hg.2.2.2
    rw [et] at ew el hh
    obtain ⟨q1, q2, q3, q4, q5, a, a1, a2, a3, a4⟩ := id hL
    have hL1 : LV (zup m k 5 (gtr (g 17))) k c (gset g 17 (gtr (g 17))) := by
      refine ⟨by rw [zup_n (by omega)]; exact q1, q2, fun i hi => ?_, ?_, ?_, a, a1, ?_, ?_, fun i hi => ?_⟩
      · obtain ⟨x, y, z, w⟩ := q3 i hi
        refine ⟨?_, ?_, ?_, ?_⟩
        · rw [zup_n (by omega), gset_n (by omega)]; exact x
        · rw [zup_n (by omega), gset_n (by omega)]; exact y
        · rw [zup_n (by omega), gset_n (by omega)]; exact z
        · rw [zup_n (by omega), gset_n (by omega)]; exact w
      · rw [zup_n (by omega), gset_n (by omega)]; exact q4
      · rw [zup_s, gset_s]
      · rw [gset_n (by omega)]; exact a2
      · rw [zup_n (by omega)]; exact a3
      · rw [zup_n (by omega), gset_n (by omega)]; exact a4 i hi
    rw [et, ew] at c_25
    have hno : zwb (gcn g) s c = -4 ∨ zmn (gcn g) c + (g 16 + 1) < gcn g (zwb (gcn g) s c).toNatClampNeg := Or.inl c_25
    refine ⟨_, hr.trans (by rw [gTry1, if_pos hno]), hh, by rw [gTry2, if_pos hno]; exact hL1, fun a b hab => by rw [zup_n (by omega)]⟩
  · skip
    replace H := i_aln (q := 29) H I_X0_attempt_28 rfl rfl
    replace H := i_gfr (q := 32) H I_X0_attempt_29 G_0_11 cn_X0_attempt (lk_0 hk) rfl rfl
    replace H := i_iln (q := 33) H I_X0_attempt_32 rfl rfl
    have W := i_folk (k := k) hk (q := 34) H I_X0_attempt_33 rfl
    clear H
    obtain ⟨i_33, bi_33, ei_33, H⟩ := W
    have W := i_cv0 0 (q := 37) H I_X0_attempt_34 K_0_51 Zm_20 rfl rfl
    clear H
    obtain ⟨r1, h1, Hc, K1, K2⟩ := W
    obtain ⟨e1, e2⟩ := t_X1_turned (lk_p hk bi_33) Hc
    have H := K1 _ _ e1 e2
    clear e1 e2 Hc K1 K2
    replace H := i_aln (q := 38) H I_X0_attempt_37 rfl rfl
    have W := i_cv0 3 (q := 41) H I_X0_attempt_38 K_0_75 Zm_10 rfl rfl
    clear H
    obtain ⟨r1, h1, Hc, K1, K2⟩ := W
    obtain ⟨e1, e2⟩ := t_X0_least hk (c := c) (by rw [zup_n (by omega)]; exact hL.1) hL.2.1 Hc
    have H := K1 _ _ e1 e2
    clear e1 e2 Hc K1 K2
    replace H := i_aln (q := 42) H I_X0_attempt_41 rfl rfl
    replace H := i_gfi (q := 45) H I_X0_attempt_42 G_0_21 cn_X0_attempt (lk_0 hk) rfl rfl
    replace H := i_iadd (q := 46) H I_X0_attempt_45 rfl
    have W := i_ic_le (t := 52) (q := 49) H I_X0_attempt_46 (by decide) rfl
    clear H
    rcases W with ⟨c_46, H⟩ | ⟨c_46, H⟩
    · skip
      replace H := i_aln (q := 53) H I_X0_attempt_52 rfl rfl
      replace H := i_gfr (q := 56) H I_X0_attempt_53 G_0_11 cn_X0_attempt (lk_0 hk) rfl rfl
      replace H := i_iln (q := 57) H I_X0_attempt_56 rfl rfl
      have W := i_folk (k := k) hk (q := 58) H I_X0_attempt_57 rfl
      clear H
      obtain ⟨i_57, bi_57, ei_57, H⟩ := W
      have W := i_cv0 0 (q := 61) H I_X0_attempt_58 K_0_82 Zm_23 rfl rfl
      clear H
      obtain ⟨r1, h1, Hc, K1, K2⟩ := W
      obtain ⟨e1, e2⟩ := t_X1_enter (lk_p hk bi_57) Hc
      have H := K2 _ e1 e2
      clear e1 e2 Hc K1 K2
      replace H := i_iln (q := 62) H I_X0_attempt_61 rfl rfl
      obtain ⟨hr, hh⟩ := i_ir H I_X0_attempt_62
      have ew : zwb (zcf (zup m k 5 (if m k 5 + 1 < 999 then m k 5 + 1 else 999)) k) s c = zwb (gcn g) s c := by
        refine zwb_g c hL.2.1 (fun i hi => ?_)
        rw [← LV_c hL hi]
        show zcnt _ _ = zcnt _ _
        unfold zcnt
        rw [zup_n (by omega), zup_n (by omega), zup_n (by omega)]
      have el : zmn (zcf (zup m k 5 (if m k 5 + 1 < 999 then m k 5 + 1 else 999)) k) c = zmn (gcn g) c := by
        refine zmn_g c (fun i hi => ?_)
        rw [← LV_c hL hi]
        show zcnt _ _ = zcnt _ _
        unfold zcnt
        rw [zup_n (by omega), zup_n (by omega), zup_n (by omega)]
      have et : (if m k 5 + 1 < 999 then m k 5 + 1 else 999) = gtr (g 17) := by rw [hL.2.2.2.2.1]; exact gtr_c hg.2.2.1 hg.2.2.2
      rw [et] at ew el hh
      obtain ⟨q1, q2, q3, q4, q5, a, a1, a2, a3, a4⟩ := id hL
      have hL1 : LV (zup m k 5 (gtr (g 17))) k c (gset g 17 (gtr (g 17))) := by
        refine ⟨by rw [zup_n (by omega)]; exact q1, q2, fun i hi => ?_, ?_, ?_, a, a1, ?_, ?_, fun i hi => ?_⟩
        · obtain ⟨x, y, z, w⟩ := q3 i hi
          refine ⟨?_, ?_, ?_, ?_⟩
          · rw [zup_n (by omega), gset_n (by omega)]; exact x
          · rw [zup_n (by omega), gset_n (by omega)]; exact y
          · rw [zup_n (by omega), gset_n (by omega)]; exact z
          · rw [zup_n (by omega), gset_n (by omega)]; exact w
        · rw [zup_n (by omega), gset_n (by omega)]; exact q4
        · rw [zup_s, gset_s]
        · rw [gset_n (by omega)]; exact a2
        · rw [zup_n (by omega)]; exact a3
        · rw [zup_n (by omega), gset_n (by omega)]; exact a4 i hi
      rw [et, ew] at c_25
      rw [et, ew] at ei_33
      have hwc : i_33 < c := by
        rcases zwb_r (gcn g) s c q2 with e | ⟨w, w1, w2⟩
        · exact absurd e c_25
        · have := zofn (ei_33.symm.trans w2) (by omega) (by omega)
          omega
      have hb : (zwb (gcn g) s c).toNatClampNeg = i_33 := by rw [ei_33, Int32.toNatClampNeg_ofNat_of_lt (by omega)]
      have e33 : zcnt (zup m k 5 (gtr (g 17))) (k + 3 + i_33) = gcn g i_33 := by
        rw [← LV_c hL hwc]
        show _ = zcnt _ _
        unfold zcnt
        rw [zup_n (by omega), zup_n (by omega), zup_n (by omega)]
      rw [et, e33, el, zup_n (by omega), q4] at c_46
      have hno : ¬ (zwb (gcn g) s c = -4 ∨ zmn (gcn g) c + (g 16 + 1) < gcn g (zwb (gcn g) s c).toNatClampNeg) := by
        rintro (e | e)
        · exact c_25 e
        · rw [hb] at e
          exact c_46 e
      rw [et, ew] at ei_57
      have i2 : i_57 = i_33 := zofn (ei_57.symm.trans ei_33) (by omega) (by omega)
      subst i2
      rw [et, ew] at hr
      have hi5 : i_57 < 5 := by omega
      have ek : zmrk (zup m k 5 (gtr (g 17)) (k + 3 + i_57) 0) = zmrk (g i_57) := by
        rw [zup_n (by omega), (q3 i_57 hwc).1]
      unfold zent at hh
      rw [zmin_cap, e33, ek] at hh
      refine ⟨_, hr.trans (by rw [gTry1, if_neg hno]), hh, ?_, fun a b hab => ?_⟩
      · rw [gTry2, if_neg hno, hb]
        obtain ⟨r1, r2, r3, r4, r5, b, b1, b2, b3, b4⟩ := hL1
        have eh : zup m k 5 (gtr (g 17)) (k + 3 + i_57) 3 = zbt (g 15) i_57 := by
          rw [(r3 i_57 hwc).2.2.2, gset_n (by omega)]
          rfl
        unfold zset gat
        rw [eh]
        by_cases hz : zbt (g 15) i_57 = 1
        · rw [if_pos hz, if_pos hz]
          refine ⟨by rw [zup_n (by omega)]; exact r1, r2, fun i hi => ?_, ?_, ?_, b, b1, ?_, ?_, fun i hi => ?_⟩
          · obtain ⟨x, y, z, w⟩ := r3 i hi
            have hi5' : i < 5 := by omega
            refine ⟨?_, ?_, ?_, ?_⟩
            · rw [zup_n (by omega), gset_n (by omega)]; exact x
            · rw [zup_n (by omega), gset_n (by omega)]; exact y
            · by_cases hii : i = i_57
              · subst hii
                rw [zup_s, gset_s]
              · rw [zup_n (by omega), gset_n (by omega)]; exact z
            · rw [zup_n (by omega), gset_n (by omega)]; exact w
          · rw [zup_n (by omega), gset_n (by omega)]; exact r4
          · rw [zup_n (by omega), gset_n (by omega)]; exact r5
          · rw [gset_n (by omega)]; exact b2
          · rw [zup_n (by omega)]; exact b3
          · rw [zup_n (by omega), gset_n (by omega)]; exact b4 i hi
        · rw [if_neg hz, if_neg hz]
          refine ⟨by rw [zup_n (by omega)]; exact r1, r2, fun i hi => ?_, ?_, ?_, b, b1, ?_, ?_, fun i hi => ?_⟩
          · obtain ⟨x, y, z, w⟩ := r3 i hi
            have hi5' : i < 5 := by omega
            refine ⟨?_, ?_, ?_, ?_⟩
            · rw [zup_n (by omega), gset_n (by omega)]; exact x
            · by_cases hii : i = i_57
              · subst hii
                rw [zup_s, gset_s]
              · rw [zup_n (by omega), gset_n (by omega)]; exact y
            · rw [zup_n (by omega), gset_n (by omega)]; exact z
            · rw [zup_n (by omega), gset_n (by omega)]; exact w
          · rw [zup_n (by omega), gset_n (by omega)]; exact r4
          · rw [zup_n (by omega), gset_n (by omega)]; exact r5
          · rw [gset_n (by omega)]; exact b2
          · rw [zup_n (by omega)]; exact b3
          · rw [zup_n (by omega), gset_n (by omega)]; exact b4 i hi
      · unfold zset
        split
        · rw [zup_n (by omega), zup_n (by omega)]
        · rw [zup_n (by omega), zup_n (by omega)]
    · skip
      replace H := i_bip (x := (-4)) (q := 51) H I_X0_attempt_49 (by decide) rfl
      obtain ⟨hr, hh⟩ := i_ir H I_X0_attempt_51
      have ew : zwb (zcf (zup m k 5 (if m k 5 + 1 < 999 then m k 5 + 1 else 999)) k) s c = zwb (gcn g) s c := by
        refine zwb_g c hL.2.1 (fun i hi => ?_)
        rw [← LV_c hL hi]
        show zcnt _ _ = zcnt _ _
        unfold zcnt
        rw [zup_n (by omega), zup_n (by omega), zup_n (by omega)]
      have el : zmn (zcf (zup m k 5 (if m k 5 + 1 < 999 then m k 5 + 1 else 999)) k) c = zmn (gcn g) c := by
        refine zmn_g c (fun i hi => ?_)
        rw [← LV_c hL hi]
        show zcnt _ _ = zcnt _ _
        unfold zcnt
        rw [zup_n (by omega), zup_n (by omega), zup_n (by omega)]
      have et : (if m k 5 + 1 < 999 then m k 5 + 1 else 999) = gtr (g 17) := by rw [hL.2.2.2.2.1]; exact gtr_c hg.2.2.1 hg.2.2.2
      rw [et] at ew el hh
      obtain ⟨q1, q2, q3, q4, q5, a, a1, a2, a3, a4⟩ := id hL
      have hL1 : LV (zup m k 5 (gtr (g 17))) k c (gset g 17 (gtr (g 17))) := by
        refine ⟨by rw [zup_n (by omega)]; exact q1, q2, fun i hi => ?_, ?_, ?_, a, a1, ?_, ?_, fun i hi => ?_⟩
        · obtain ⟨x, y, z, w⟩ := q3 i hi
          refine ⟨?_, ?_, ?_, ?_⟩
          · rw [zup_n (by omega), gset_n (by omega)]; exact x
          · rw [zup_n (by omega), gset_n (by omega)]; exact y
          · rw [zup_n (by omega), gset_n (by omega)]; exact z
          · rw [zup_n (by omega), gset_n (by omega)]; exact w
        · rw [zup_n (by omega), gset_n (by omega)]; exact q4
        · rw [zup_s, gset_s]
        · rw [gset_n (by omega)]; exact a2
        · rw [zup_n (by omega)]; exact a3
        · rw [zup_n (by omega), gset_n (by omega)]; exact a4 i hi
      rw [et, ew] at c_25
      rw [et, ew] at ei_33
      have hwc : i_33 < c := by
        rcases zwb_r (gcn g) s c q2 with e | ⟨w, w1, w2⟩
        · exact absurd e c_25
        · have := zofn (ei_33.symm.trans w2) (by omega) (by omega)
          omega
      have hb : (zwb (gcn g) s c).toNatClampNeg = i_33 := by rw [ei_33, Int32.toNatClampNeg_ofNat_of_lt (by omega)]
      have e33 : zcnt (zup m k 5 (gtr (g 17))) (k + 3 + i_33) = gcn g i_33 := by
        rw [← LV_c hL hwc]
        show _ = zcnt _ _
        unfold zcnt
        rw [zup_n (by omega), zup_n (by omega), zup_n (by omega)]
      rw [et, e33, el, zup_n (by omega), q4] at c_46
      have hno : zwb (gcn g) s c = -4 ∨ zmn (gcn g) c + (g 16 + 1) < gcn g (zwb (gcn g) s c).toNatClampNeg := Or.inr (by rw [hb]; exact c_46)
      refine ⟨_, hr.trans (by rw [gTry1, if_pos hno]), hh, by rw [gTry2, if_pos hno]; exact hL1, fun a b hab => by rw [zup_n (by omega)]⟩
end
section
/-! a try of the reference -/
theorem It_X8_countAt : zm_X8_countAt.2.2.2.2.2 = zt_X8_countAt := by
  unfold zm_X8_countAt
  rfl
theorem It_X8_countOf : zm_X8_countOf.2.2.2.2.2 = zt_X8_countOf := by
  unfold zm_X8_countOf
  rfl
theorem It_X8_isNear : zm_X8_isNear.2.2.2.2.2 = zt_X8_isNear := by
  unfold zm_X8_isNear
  rfl
theorem It_X8_leastOn : zm_X8_leastOn.2.2.2.2.2 = zt_X8_leastOn := by
  unfold zm_X8_leastOn
  rfl
theorem It_X8_triesOn : zm_X8_triesOn.2.2.2.2.2 = zt_X8_triesOn := by
  unfold zm_X8_triesOn
  rfl
theorem I_X8_countAt_0 : zin zm_X8_countAt.2.2.2.2.2 0 = some (.iload_n 1, 1) := by rw [It_X8_countAt]; rfl
theorem I_X8_countAt_1 : zin zm_X8_countAt.2.2.2.2.2 1 = some (.aload_n 0, 1) := by rw [It_X8_countAt]; rfl
theorem I_X8_countAt_2 : zin zm_X8_countAt.2.2.2.2.2 2 = some (.getfield 7, 3) := by rw [It_X8_countAt]; rfl
theorem I_X8_countAt_5 : zin zm_X8_countAt.2.2.2.2.2 5 = some (.iload_n 1, 1) := by rw [It_X8_countAt]; rfl
theorem I_X8_countAt_6 : zin zm_X8_countAt.2.2.2.2.2 6 = some (.bipush 15, 2) := by rw [It_X8_countAt]; rfl
theorem I_X8_countAt_8 : zin zm_X8_countAt.2.2.2.2.2 8 = some (.iadd, 1) := by rw [It_X8_countAt]; rfl
theorem I_X8_countAt_9 : zin zm_X8_countAt.2.2.2.2.2 9 = some (.iaload, 1) := by rw [It_X8_countAt]; rfl
theorem I_X8_countAt_10 : zin zm_X8_countAt.2.2.2.2.2 10 = some (.iload_n 2, 1) := by rw [It_X8_countAt]; rfl
theorem I_X8_countAt_11 : zin zm_X8_countAt.2.2.2.2.2 11 = some (.ishr, 1) := by rw [It_X8_countAt]; rfl
theorem I_X8_countAt_12 : zin zm_X8_countAt.2.2.2.2.2 12 = some (.iconst 1, 1) := by rw [It_X8_countAt]; rfl
theorem I_X8_countAt_13 : zin zm_X8_countAt.2.2.2.2.2 13 = some (.iand, 1) := by rw [It_X8_countAt]; rfl
theorem I_X8_countAt_14 : zin zm_X8_countAt.2.2.2.2.2 14 = some (.iconst 1, 1) := by rw [It_X8_countAt]; rfl
theorem I_X8_countAt_15 : zin zm_X8_countAt.2.2.2.2.2 15 = some (.if_icmp .ne 8, 3) := by rw [It_X8_countAt]; rfl
theorem I_X8_countAt_18 : zin zm_X8_countAt.2.2.2.2.2 18 = some (.bipush 10, 2) := by rw [It_X8_countAt]; rfl
theorem I_X8_countAt_20 : zin zm_X8_countAt.2.2.2.2.2 20 = some (.goto 4, 3) := by rw [It_X8_countAt]; rfl
theorem I_X8_countAt_23 : zin zm_X8_countAt.2.2.2.2.2 23 = some (.iconst 5, 1) := by rw [It_X8_countAt]; rfl
theorem I_X8_countAt_24 : zin zm_X8_countAt.2.2.2.2.2 24 = some (.iadd, 1) := by rw [It_X8_countAt]; rfl
theorem I_X8_countAt_25 : zin zm_X8_countAt.2.2.2.2.2 25 = some (.iload_n 2, 1) := by rw [It_X8_countAt]; rfl
theorem I_X8_countAt_26 : zin zm_X8_countAt.2.2.2.2.2 26 = some (.iadd, 1) := by rw [It_X8_countAt]; rfl
theorem I_X8_countAt_27 : zin zm_X8_countAt.2.2.2.2.2 27 = some (.ireturn, 1) := by rw [It_X8_countAt]; rfl
theorem I_X8_countOf_0 : zin zm_X8_countOf.2.2.2.2.2 0 = some (.aload_n 0, 1) := by rw [It_X8_countOf]; rfl
theorem I_X8_countOf_1 : zin zm_X8_countOf.2.2.2.2.2 1 = some (.getfield 7, 3) := by rw [It_X8_countOf]; rfl
theorem I_X8_countOf_4 : zin zm_X8_countOf.2.2.2.2.2 4 = some (.aload_n 0, 1) := by rw [It_X8_countOf]; rfl
theorem I_X8_countOf_5 : zin zm_X8_countOf.2.2.2.2.2 5 = some (.iload_n 1, 1) := by rw [It_X8_countOf]; rfl
theorem I_X8_countOf_6 : zin zm_X8_countOf.2.2.2.2.2 6 = some (.iload_n 2, 1) := by rw [It_X8_countOf]; rfl
theorem I_X8_countOf_7 : zin zm_X8_countOf.2.2.2.2.2 7 = some (.invokevirtual 137, 3) := by rw [It_X8_countOf]; rfl
theorem I_X8_countOf_10 : zin zm_X8_countOf.2.2.2.2.2 10 = some (.iaload, 1) := by rw [It_X8_countOf]; rfl
theorem I_X8_countOf_11 : zin zm_X8_countOf.2.2.2.2.2 11 = some (.ireturn, 1) := by rw [It_X8_countOf]; rfl
theorem I_X8_isNear_0 : zin zm_X8_isNear.2.2.2.2.2 0 = some (.aload_n 0, 1) := by rw [It_X8_isNear]; rfl
theorem I_X8_isNear_1 : zin zm_X8_isNear.2.2.2.2.2 1 = some (.iload_n 1, 1) := by rw [It_X8_isNear]; rfl
theorem I_X8_isNear_2 : zin zm_X8_isNear.2.2.2.2.2 2 = some (.iload_n 2, 1) := by rw [It_X8_isNear]; rfl
theorem I_X8_isNear_3 : zin zm_X8_isNear.2.2.2.2.2 3 = some (.invokevirtual 141, 3) := by rw [It_X8_isNear]; rfl
theorem I_X8_isNear_6 : zin zm_X8_isNear.2.2.2.2.2 6 = some (.aload_n 0, 1) := by rw [It_X8_isNear]; rfl
theorem I_X8_isNear_7 : zin zm_X8_isNear.2.2.2.2.2 7 = some (.iload_n 1, 1) := by rw [It_X8_isNear]; rfl
theorem I_X8_isNear_8 : zin zm_X8_isNear.2.2.2.2.2 8 = some (.invokevirtual 144, 3) := by rw [It_X8_isNear]; rfl
theorem I_X8_isNear_11 : zin zm_X8_isNear.2.2.2.2.2 11 = some (.aload_n 0, 1) := by rw [It_X8_isNear]; rfl
theorem I_X8_isNear_12 : zin zm_X8_isNear.2.2.2.2.2 12 = some (.getfield 7, 3) := by rw [It_X8_isNear]; rfl
theorem I_X8_isNear_15 : zin zm_X8_isNear.2.2.2.2.2 15 = some (.iload_n 1, 1) := by rw [It_X8_isNear]; rfl
theorem I_X8_isNear_16 : zin zm_X8_isNear.2.2.2.2.2 16 = some (.bipush 16, 2) := by rw [It_X8_isNear]; rfl
theorem I_X8_isNear_18 : zin zm_X8_isNear.2.2.2.2.2 18 = some (.iadd, 1) := by rw [It_X8_isNear]; rfl
theorem I_X8_isNear_19 : zin zm_X8_isNear.2.2.2.2.2 19 = some (.iaload, 1) := by rw [It_X8_isNear]; rfl
theorem I_X8_isNear_20 : zin zm_X8_isNear.2.2.2.2.2 20 = some (.iadd, 1) := by rw [It_X8_isNear]; rfl
theorem I_X8_isNear_21 : zin zm_X8_isNear.2.2.2.2.2 21 = some (.iconst 1, 1) := by rw [It_X8_isNear]; rfl
theorem I_X8_isNear_22 : zin zm_X8_isNear.2.2.2.2.2 22 = some (.iadd, 1) := by rw [It_X8_isNear]; rfl
theorem I_X8_isNear_23 : zin zm_X8_isNear.2.2.2.2.2 23 = some (.if_icmp .gt 7, 3) := by rw [It_X8_isNear]; rfl
theorem I_X8_isNear_26 : zin zm_X8_isNear.2.2.2.2.2 26 = some (.iconst 1, 1) := by rw [It_X8_isNear]; rfl
theorem I_X8_isNear_27 : zin zm_X8_isNear.2.2.2.2.2 27 = some (.goto 4, 3) := by rw [It_X8_isNear]; rfl
theorem I_X8_isNear_30 : zin zm_X8_isNear.2.2.2.2.2 30 = some (.iconst 0, 1) := by rw [It_X8_isNear]; rfl
theorem I_X8_isNear_31 : zin zm_X8_isNear.2.2.2.2.2 31 = some (.ireturn, 1) := by rw [It_X8_isNear]; rfl
theorem I_X8_leastOn_0 : zin zm_X8_leastOn.2.2.2.2.2 0 = some (.bipush (-4), 2) := by rw [It_X8_leastOn]; rfl
theorem I_X8_leastOn_2 : zin zm_X8_leastOn.2.2.2.2.2 2 = some (.istore_n 2, 1) := by rw [It_X8_leastOn]; rfl
theorem I_X8_leastOn_3 : zin zm_X8_leastOn.2.2.2.2.2 3 = some (.iconst 0, 1) := by rw [It_X8_leastOn]; rfl
theorem I_X8_leastOn_4 : zin zm_X8_leastOn.2.2.2.2.2 4 = some (.istore_n 3, 1) := by rw [It_X8_leastOn]; rfl
theorem I_X8_leastOn_5 : zin zm_X8_leastOn.2.2.2.2.2 5 = some (.iload_n 3, 1) := by rw [It_X8_leastOn]; rfl
theorem I_X8_leastOn_6 : zin zm_X8_leastOn.2.2.2.2.2 6 = some (.aload_n 0, 1) := by rw [It_X8_leastOn]; rfl
theorem I_X8_leastOn_7 : zin zm_X8_leastOn.2.2.2.2.2 7 = some (.getfield 131, 3) := by rw [It_X8_leastOn]; rfl
theorem I_X8_leastOn_10 : zin zm_X8_leastOn.2.2.2.2.2 10 = some (.if_icmp .ge 36, 3) := by rw [It_X8_leastOn]; rfl
theorem I_X8_leastOn_13 : zin zm_X8_leastOn.2.2.2.2.2 13 = some (.iload_n 2, 1) := by rw [It_X8_leastOn]; rfl
theorem I_X8_leastOn_14 : zin zm_X8_leastOn.2.2.2.2.2 14 = some (.bipush (-4), 2) := by rw [It_X8_leastOn]; rfl
theorem I_X8_leastOn_16 : zin zm_X8_leastOn.2.2.2.2.2 16 = some (.if_icmp .eq 13, 3) := by rw [It_X8_leastOn]; rfl
theorem I_X8_leastOn_19 : zin zm_X8_leastOn.2.2.2.2.2 19 = some (.aload_n 0, 1) := by rw [It_X8_leastOn]; rfl
theorem I_X8_leastOn_20 : zin zm_X8_leastOn.2.2.2.2.2 20 = some (.iload_n 1, 1) := by rw [It_X8_leastOn]; rfl
theorem I_X8_leastOn_21 : zin zm_X8_leastOn.2.2.2.2.2 21 = some (.iload_n 3, 1) := by rw [It_X8_leastOn]; rfl
theorem I_X8_leastOn_22 : zin zm_X8_leastOn.2.2.2.2.2 22 = some (.invokevirtual 141, 3) := by rw [It_X8_leastOn]; rfl
theorem I_X8_leastOn_25 : zin zm_X8_leastOn.2.2.2.2.2 25 = some (.iload_n 2, 1) := by rw [It_X8_leastOn]; rfl
theorem I_X8_leastOn_26 : zin zm_X8_leastOn.2.2.2.2.2 26 = some (.if_icmp .ge 12, 3) := by rw [It_X8_leastOn]; rfl
theorem I_X8_leastOn_29 : zin zm_X8_leastOn.2.2.2.2.2 29 = some (.aload_n 0, 1) := by rw [It_X8_leastOn]; rfl
theorem I_X8_leastOn_30 : zin zm_X8_leastOn.2.2.2.2.2 30 = some (.iload_n 1, 1) := by rw [It_X8_leastOn]; rfl
theorem I_X8_leastOn_31 : zin zm_X8_leastOn.2.2.2.2.2 31 = some (.iload_n 3, 1) := by rw [It_X8_leastOn]; rfl
theorem I_X8_leastOn_32 : zin zm_X8_leastOn.2.2.2.2.2 32 = some (.invokevirtual 141, 3) := by rw [It_X8_leastOn]; rfl
theorem I_X8_leastOn_35 : zin zm_X8_leastOn.2.2.2.2.2 35 = some (.goto 4, 3) := by rw [It_X8_leastOn]; rfl
theorem I_X8_leastOn_38 : zin zm_X8_leastOn.2.2.2.2.2 38 = some (.iload_n 2, 1) := by rw [It_X8_leastOn]; rfl
theorem I_X8_leastOn_39 : zin zm_X8_leastOn.2.2.2.2.2 39 = some (.istore_n 2, 1) := by rw [It_X8_leastOn]; rfl
theorem I_X8_leastOn_40 : zin zm_X8_leastOn.2.2.2.2.2 40 = some (.iinc 3 1, 3) := by rw [It_X8_leastOn]; rfl
theorem I_X8_leastOn_43 : zin zm_X8_leastOn.2.2.2.2.2 43 = some (.goto (-38), 3) := by rw [It_X8_leastOn]; rfl
theorem I_X8_leastOn_46 : zin zm_X8_leastOn.2.2.2.2.2 46 = some (.iload_n 2, 1) := by rw [It_X8_leastOn]; rfl
theorem I_X8_leastOn_47 : zin zm_X8_leastOn.2.2.2.2.2 47 = some (.ireturn, 1) := by rw [It_X8_leastOn]; rfl
theorem I_X8_triesOn_11 : zin zm_X8_triesOn.2.2.2.2.2 11 = some (.iload 4, 2) := by rw [It_X8_triesOn]; rfl
theorem I_X8_triesOn_13 : zin zm_X8_triesOn.2.2.2.2.2 13 = some (.ifCond .lt 60, 3) := by rw [It_X8_triesOn]; rfl
theorem I_X8_triesOn_16 : zin zm_X8_triesOn.2.2.2.2.2 16 = some (.iload_n 2, 1) := by rw [It_X8_triesOn]; rfl
theorem I_X8_triesOn_17 : zin zm_X8_triesOn.2.2.2.2.2 17 = some (.iload 4, 2) := by rw [It_X8_triesOn]; rfl
theorem I_X8_triesOn_19 : zin zm_X8_triesOn.2.2.2.2.2 19 = some (.ishr, 1) := by rw [It_X8_triesOn]; rfl
theorem I_X8_triesOn_20 : zin zm_X8_triesOn.2.2.2.2.2 20 = some (.iconst 1, 1) := by rw [It_X8_triesOn]; rfl
theorem I_X8_triesOn_21 : zin zm_X8_triesOn.2.2.2.2.2 21 = some (.iand, 1) := by rw [It_X8_triesOn]; rfl
theorem I_X8_triesOn_22 : zin zm_X8_triesOn.2.2.2.2.2 22 = some (.iconst 1, 1) := by rw [It_X8_triesOn]; rfl
theorem I_X8_triesOn_23 : zin zm_X8_triesOn.2.2.2.2.2 23 = some (.if_icmp .ne 29, 3) := by rw [It_X8_triesOn]; rfl
theorem I_X8_triesOn_26 : zin zm_X8_triesOn.2.2.2.2.2 26 = some (.iload_n 3, 1) := by rw [It_X8_triesOn]; rfl
theorem I_X8_triesOn_27 : zin zm_X8_triesOn.2.2.2.2.2 27 = some (.bipush (-4), 2) := by rw [It_X8_triesOn]; rfl
theorem I_X8_triesOn_29 : zin zm_X8_triesOn.2.2.2.2.2 29 = some (.if_icmp .eq 19, 3) := by rw [It_X8_triesOn]; rfl
theorem I_X8_triesOn_32 : zin zm_X8_triesOn.2.2.2.2.2 32 = some (.aload_n 0, 1) := by rw [It_X8_triesOn]; rfl
theorem I_X8_triesOn_33 : zin zm_X8_triesOn.2.2.2.2.2 33 = some (.iload_n 1, 1) := by rw [It_X8_triesOn]; rfl
theorem I_X8_triesOn_34 : zin zm_X8_triesOn.2.2.2.2.2 34 = some (.iload 4, 2) := by rw [It_X8_triesOn]; rfl
theorem I_X8_triesOn_36 : zin zm_X8_triesOn.2.2.2.2.2 36 = some (.invokevirtual 141, 3) := by rw [It_X8_triesOn]; rfl
theorem I_X8_triesOn_39 : zin zm_X8_triesOn.2.2.2.2.2 39 = some (.aload_n 0, 1) := by rw [It_X8_triesOn]; rfl
theorem I_X8_triesOn_40 : zin zm_X8_triesOn.2.2.2.2.2 40 = some (.iload_n 1, 1) := by rw [It_X8_triesOn]; rfl
theorem I_X8_triesOn_41 : zin zm_X8_triesOn.2.2.2.2.2 41 = some (.iload_n 3, 1) := by rw [It_X8_triesOn]; rfl
theorem I_X8_triesOn_42 : zin zm_X8_triesOn.2.2.2.2.2 42 = some (.invokevirtual 141, 3) := by rw [It_X8_triesOn]; rfl
theorem I_X8_triesOn_45 : zin zm_X8_triesOn.2.2.2.2.2 45 = some (.if_icmp .gt 7, 3) := by rw [It_X8_triesOn]; rfl
theorem I_X8_triesOn_48 : zin zm_X8_triesOn.2.2.2.2.2 48 = some (.iconst 1, 1) := by rw [It_X8_triesOn]; rfl
theorem I_X8_triesOn_49 : zin zm_X8_triesOn.2.2.2.2.2 49 = some (.goto 4, 3) := by rw [It_X8_triesOn]; rfl
theorem I_X8_triesOn_52 : zin zm_X8_triesOn.2.2.2.2.2 52 = some (.iconst 0, 1) := by rw [It_X8_triesOn]; rfl
theorem I_X8_triesOn_53 : zin zm_X8_triesOn.2.2.2.2.2 53 = some (.istore 5, 2) := by rw [It_X8_triesOn]; rfl
theorem I_X8_triesOn_55 : zin zm_X8_triesOn.2.2.2.2.2 55 = some (.iload 5, 2) := by rw [It_X8_triesOn]; rfl
theorem I_X8_triesOn_57 : zin zm_X8_triesOn.2.2.2.2.2 57 = some (.ifCond .eq 8, 3) := by rw [It_X8_triesOn]; rfl
theorem I_X8_triesOn_60 : zin zm_X8_triesOn.2.2.2.2.2 60 = some (.iload 4, 2) := by rw [It_X8_triesOn]; rfl
theorem I_X8_triesOn_62 : zin zm_X8_triesOn.2.2.2.2.2 62 = some (.goto 4, 3) := by rw [It_X8_triesOn]; rfl
theorem I_X8_triesOn_65 : zin zm_X8_triesOn.2.2.2.2.2 65 = some (.iload_n 3, 1) := by rw [It_X8_triesOn]; rfl
theorem I_X8_triesOn_66 : zin zm_X8_triesOn.2.2.2.2.2 66 = some (.istore_n 3, 1) := by rw [It_X8_triesOn]; rfl
theorem I_X8_triesOn_67 : zin zm_X8_triesOn.2.2.2.2.2 67 = some (.iinc 4 (-1), 3) := by rw [It_X8_triesOn]; rfl
theorem I_X8_triesOn_70 : zin zm_X8_triesOn.2.2.2.2.2 70 = some (.goto (-59), 3) := by rw [It_X8_triesOn]; rfl
theorem K_8_137 : zlk zmls 8 137 = some (0, 128, 2, 1004) := rfl
theorem K_8_141 : zlk zmls 8 141 = some (0, 129, 2, 1000) := rfl
theorem K_8_144 : zlk zmls 8 144 = some (0, 130, 1, 1008) := rfl
theorem Zm_128 : zms[128]? = some zm_X8_countAt := rfl
theorem Zm_129 : zms[129]? = some zm_X8_countOf := rfl
theorem Zm_130 : zms[130]? = some zm_X8_leastOn := rfl
theorem cl_X8_countAt : zm_X8_countAt.2.2.2.2.1 = 8 := by
  unfold zm_X8_countAt
  rfl
theorem cn_X8_countAt : zm_X8_countAt.2.2.2.2.1 ≠ 12 := by
  rw [cl_X8_countAt]
  decide
theorem cn2_X8_countAt : zm_X8_countAt.2.2.2.2.1 ≠ 2 := by
  rw [cl_X8_countAt]
  decide
theorem cl_X8_countOf : zm_X8_countOf.2.2.2.2.1 = 8 := by
  unfold zm_X8_countOf
  rfl
theorem cn_X8_countOf : zm_X8_countOf.2.2.2.2.1 ≠ 12 := by
  rw [cl_X8_countOf]
  decide
theorem cn2_X8_countOf : zm_X8_countOf.2.2.2.2.1 ≠ 2 := by
  rw [cl_X8_countOf]
  decide
theorem cl_X8_isNear : zm_X8_isNear.2.2.2.2.1 = 8 := by
  unfold zm_X8_isNear
  rfl
theorem cn_X8_isNear : zm_X8_isNear.2.2.2.2.1 ≠ 12 := by
  rw [cl_X8_isNear]
  decide
theorem cn2_X8_isNear : zm_X8_isNear.2.2.2.2.1 ≠ 2 := by
  rw [cl_X8_isNear]
  decide
theorem cl_X8_leastOn : zm_X8_leastOn.2.2.2.2.1 = 8 := by
  unfold zm_X8_leastOn
  rfl
theorem cn_X8_leastOn : zm_X8_leastOn.2.2.2.2.1 ≠ 12 := by
  rw [cl_X8_leastOn]
  decide
theorem cn2_X8_leastOn : zm_X8_leastOn.2.2.2.2.1 ≠ 2 := by
  rw [cl_X8_leastOn]
  decide
/-- a page of the reference holds g -/
def PG (m : zM) (pg : Nat) (g : Nat → Int32) : Prop := pg + 27 ≤ 135 ∧ ∀ j, j < 27 → m 72 (pg + j) = g j
theorem gat_le {g : Nat → Int32} {i : Nat} (h : i < 5) : gat g i < 15 ∧ 5 ≤ gat g i := by
  unfold gat
  split <;> omega
theorem gcn_at {g : Nat → Int32} {i : Nat} : gcn g i = g (gat g i) := by
  unfold gcn gat
  split <;> rfl
theorem zix3 {a b i : Nat} {x y : Int32} (hx : x = Int32.ofNat a) (hy : y = Int32.ofNat b) (h : x + y = Int32.ofNat i) (hab : a + b < 1000) (hi : i < 1000) : i = a + b := zix_add hx hy h hab hi
theorem zbt_1 {s : Int32} {i : Nat} : zbt s i = 1 ↔ ¬ zbt s i = 0 := by
  constructor
  · intro h
    rw [h]
    decide
  · intro h
    exact (zbt01 _).resolve_left h
theorem t_X8_countAt {d : Nat} {m : zM} {r : Option Value} {h' : zHp} {pg i : Nat} {g : Nat → Int32} (hP : PG m pg g) (hi : i < 5) (H : zE none d zm_X8_countAt 0 [.ref 71, .int (Int32.ofNat pg), .int (Int32.ofNat i)] [] m r h') : r = some (.int (Int32.ofNat (pg + gat g i))) ∧ h' = zhp m := by
  replace H := i_iln (q := 1) H I_X8_countAt_0 rfl rfl
  replace H := i_aln (q := 2) H I_X8_countAt_1 rfl rfl
  replace H := i_gfr (q := 5) H I_X8_countAt_2 G_8_7 cn_X8_countAt LY_71 rfl rfl
  replace H := i_iln (q := 6) H I_X8_countAt_5 rfl rfl
  replace H := i_bip (x := 15) (q := 8) H I_X8_countAt_6 (by decide) rfl
  replace H := i_iadd (q := 9) H I_X8_countAt_8 rfl
  have W := i_ia (q := 10) H I_X8_countAt_9 LY_72 rfl
  clear H
  obtain ⟨i_9, bi_9, ei_9, H⟩ := W
  replace H := i_iln (q := 11) H I_X8_countAt_10 rfl rfl
  replace H := i_ishr (q := 12) H I_X8_countAt_11 rfl
  replace H := i_icst (x := 1) (q := 13) H I_X8_countAt_12 (by decide) rfl
  replace H := i_iand (q := 14) H I_X8_countAt_13 rfl
  replace H := i_icst (x := 1) (q := 15) H I_X8_countAt_14 (by decide) rfl
  have W := i_ic_ne (t := 23) (q := 18) H I_X8_countAt_15 (by decide) rfl
  clear H
  rcases W with ⟨c_15, H⟩ | ⟨c_15, H⟩
  · skip
    replace H := i_icst (x := 5) (q := 24) H I_X8_countAt_23 (by decide) rfl
    replace H := i_iadd (q := 25) H I_X8_countAt_24 rfl
    replace H := i_iln (q := 26) H I_X8_countAt_25 rfl rfl
    replace H := i_iadd (q := 27) H I_X8_countAt_26 rfl
    obtain ⟨hr, hh⟩ := i_ir H I_X8_countAt_27
    have i1 : i_9 = pg + 15 := zix3 rfl (b := 15) rfl ei_9 (by have := hP.1; omega) (by omega)
    subst i1
    rw [hP.2 15 (by omega)] at c_15
    refine ⟨hr.trans ?_, hh⟩
    unfold gat
    rw [if_neg (show ¬ zbt (g 15) i = 1 from c_15), Int32.ofNat_add, Int32.ofNat_add]
    rw [Int32.add_assoc]
    rfl
  · skip
    replace H := i_bip (x := 10) (q := 20) H I_X8_countAt_18 (by decide) rfl
    replace H := i_goto (q := 24) H I_X8_countAt_20 (by decide)
    replace H := i_iadd (q := 25) H I_X8_countAt_24 rfl
    replace H := i_iln (q := 26) H I_X8_countAt_25 rfl rfl
    replace H := i_iadd (q := 27) H I_X8_countAt_26 rfl
    obtain ⟨hr, hh⟩ := i_ir H I_X8_countAt_27
    have i1 : i_9 = pg + 15 := zix3 rfl (b := 15) rfl ei_9 (by have := hP.1; omega) (by omega)
    subst i1
    rw [hP.2 15 (by omega)] at c_15
    refine ⟨hr.trans ?_, hh⟩
    unfold gat
    rw [if_pos (show zbt (g 15) i = 1 from c_15), Int32.ofNat_add, Int32.ofNat_add]
    rw [Int32.add_assoc]
    rfl
theorem t_X8_countOf {d : Nat} {m : zM} {r : Option Value} {h' : zHp} {pg i : Nat} {g : Nat → Int32} (hP : PG m pg g) (hi : i < 5) (H : zE none d zm_X8_countOf 0 [.ref 71, .int (Int32.ofNat pg), .int (Int32.ofNat i)] [] m r h') : r = some (.int (gcn g i)) ∧ h' = zhp m := by
  have hle := gat_le (g := g) hi
  replace H := i_aln (q := 1) H I_X8_countOf_0 rfl rfl
  replace H := i_gfr (q := 4) H I_X8_countOf_1 G_8_7 cn_X8_countOf LY_71 rfl rfl
  replace H := i_aln (q := 5) H I_X8_countOf_4 rfl rfl
  replace H := i_iln (q := 6) H I_X8_countOf_5 rfl rfl
  replace H := i_iln (q := 7) H I_X8_countOf_6 rfl rfl
  have W := i_cv2 0 (q := 10) H I_X8_countOf_7 K_8_137 Zm_128 rfl rfl
  clear H
  obtain ⟨r1, h1, Hc, K1, K2⟩ := W
  obtain ⟨e1, e2⟩ := t_X8_countAt hP (by omega) Hc
  have H := K1 _ _ e1 e2
  clear e1 e2 Hc K1 K2
  have W := i_ia (q := 11) H I_X8_countOf_10 LY_72 rfl
  clear H
  obtain ⟨i_10, bi_10, ei_10, H⟩ := W
  obtain ⟨hr, hh⟩ := i_ir H I_X8_countOf_11
  have i1 : pg + gat g i = i_10 := zofn ei_10 (by have := hP.1; omega) (by omega)
  subst i1
  rw [hP.2 _ (by omega), ← gcn_at (g := g) (i := i)] at hr
  exact ⟨hr, hh⟩
theorem zmn_nn {f : Nat → Int32} : ∀ n, 0 < n → (∀ i, i < n → 0 ≤ (f i).toInt) → 0 ≤ (zmn f n).toInt
  | 0, h, _ => absurd h (Nat.lt_irrefl 0)
  | n + 1, _, h => by
    rw [zmn]
    split
    · exact h 0 (by omega)
    · unfold zmin
      split
      · exact h n (by omega)
      · exact zmn_nn n (by omega) (fun i hi => h i (by omega))
theorem zmn_4 {f : Nat → Int32} {n : Nat} (h : ∀ i, i < n → 0 ≤ (f i).toInt) : zmn f n = -4 ↔ n = 0 := by
  constructor
  · intro e
    rcases Nat.eq_zero_or_pos n with w | w
    · exact w
    · have := zmn_nn n w h
      rw [e] at this
      exact absurd this (by decide)
  · intro e
    subst e
    rfl
theorem gok_n {g : Nat → Int32} {c : Nat} (h : gok g c) {i : Nat} (hi : i < c) : 0 ≤ (gcn g i).toInt := by
  unfold gcn
  split
  · exact (h.2.1 i hi).2.2.1
  · exact (h.2.1 i hi).2.1.1
theorem ln_loop {m : zM} {pg c : Nat} {g : Nat → Int32} (hP : PG m pg g) (hg : gok g c) (hc : m 71 2 = Int32.ofNat c) : ∀ (j i d : Nat) (r : Option Value) (h' : zHp), i + j = c → zE none d zm_X8_leastOn 5 [.ref 71, .int (Int32.ofNat pg), .int (zmn (gcn g) i), .int (Int32.ofNat i)] [] m r h' → r = some (.int (zmn (gcn g) c)) ∧ h' = zhp m := by
  have hc5 := hg.1
  intro j
  induction j with
  | zero =>
    intro i d r h' hj H
    replace H := i_iln (q := 6) H I_X8_leastOn_5 rfl rfl
    replace H := i_aln (q := 7) H I_X8_leastOn_6 rfl rfl
    replace H := i_gfi (q := 10) H I_X8_leastOn_7 G_8_131 cn_X8_leastOn LY_71 rfl rfl
    have W := i_ic_ge (t := 46) (q := 13) H I_X8_leastOn_10 (by decide) rfl
    clear H
    rcases W with ⟨c_10, H⟩ | ⟨c_10, H⟩
    · skip
      replace H := i_iln (q := 47) H I_X8_leastOn_46 rfl rfl
      obtain ⟨hr, hh⟩ := i_ir H I_X8_leastOn_47
      have e : i = c := by omega
      subst e
      exact ⟨hr, hh⟩
    · exfalso
      rw [hc] at c_10
      exact absurd ((zofn_lt (by omega) (by omega)).mp c_10) (by omega)
  | succ j ih =>
    intro i d r h' hj H
    replace H := i_iln (q := 6) H I_X8_leastOn_5 rfl rfl
    replace H := i_aln (q := 7) H I_X8_leastOn_6 rfl rfl
    replace H := i_gfi (q := 10) H I_X8_leastOn_7 G_8_131 cn_X8_leastOn LY_71 rfl rfl
    have W := i_ic_ge (t := 46) (q := 13) H I_X8_leastOn_10 (by decide) rfl
    clear H
    rcases W with ⟨c_10, H⟩ | ⟨c_10, H⟩
    · skip
      replace H := i_iln (q := 47) H I_X8_leastOn_46 rfl rfl
      obtain ⟨hr, hh⟩ := i_ir H I_X8_leastOn_47
      exfalso
      rw [hc] at c_10
      exact c_10 ((zofn_lt (by omega) (by omega)).mpr (by omega))
    · skip
      replace H := i_iln (q := 14) H I_X8_leastOn_13 rfl rfl
      replace H := i_bip (x := (-4)) (q := 16) H I_X8_leastOn_14 (by decide) rfl
      have W := i_ic_eq (t := 29) (q := 19) H I_X8_leastOn_16 (by decide) rfl
      clear H
      rcases W with ⟨c_16, H⟩ | ⟨c_16, H⟩
      · skip
        replace H := i_aln (q := 30) H I_X8_leastOn_29 rfl rfl
        replace H := i_iln (q := 31) H I_X8_leastOn_30 rfl rfl
        replace H := i_iln (q := 32) H I_X8_leastOn_31 rfl rfl
        have W := i_cv2 0 (q := 35) H I_X8_leastOn_32 K_8_141 Zm_129 rfl rfl
        clear H
        obtain ⟨r1, h1, Hc, K1, K2⟩ := W
        obtain ⟨e1, e2⟩ := t_X8_countOf hP (by omega) Hc
        have H := K1 _ _ e1 e2
        clear e1 e2 Hc K1 K2
        replace H := i_goto (q := 39) H I_X8_leastOn_35 (by decide)
        replace H := i_isn (q := 40) H I_X8_leastOn_39 rfl rfl
        replace H := i_inc (q := 43) H I_X8_leastOn_40 rfl rfl rfl
        replace H := i_goto (q := 5) H I_X8_leastOn_43 (by decide)
        have h4 := zmn_4 (f := gcn g) (n := i) (fun j hj => gok_n hg (by omega))
        have i0 := h4.mp c_16
        replace H : zE none d zm_X8_leastOn 5 [.ref 71, .int (Int32.ofNat pg), .int (zmn (gcn g) (i + 1)), .int (Int32.ofNat (i + 1))] [] m r h' := by
          rw [show zmn (gcn g) (i + 1) = gcn g i by
            rw [zmn, if_pos i0, i0]]
          rw [← zofn_s]
          exact H
        exact ih (i + 1) d r h' (by omega) H
      · skip
        replace H := i_aln (q := 20) H I_X8_leastOn_19 rfl rfl
        replace H := i_iln (q := 21) H I_X8_leastOn_20 rfl rfl
        replace H := i_iln (q := 22) H I_X8_leastOn_21 rfl rfl
        have W := i_cv2 0 (q := 25) H I_X8_leastOn_22 K_8_141 Zm_129 rfl rfl
        clear H
        obtain ⟨r1, h1, Hc, K1, K2⟩ := W
        obtain ⟨e1, e2⟩ := t_X8_countOf hP (by omega) Hc
        have H := K1 _ _ e1 e2
        clear e1 e2 Hc K1 K2
        replace H := i_iln (q := 26) H I_X8_leastOn_25 rfl rfl
        have W := i_ic_ge (t := 38) (q := 29) H I_X8_leastOn_26 (by decide) rfl
        clear H
        rcases W with ⟨c_26, H⟩ | ⟨c_26, H⟩
        · skip
          replace H := i_iln (q := 39) H I_X8_leastOn_38 rfl rfl
          replace H := i_isn (q := 40) H I_X8_leastOn_39 rfl rfl
          replace H := i_inc (q := 43) H I_X8_leastOn_40 rfl rfl rfl
          replace H := i_goto (q := 5) H I_X8_leastOn_43 (by decide)
          have h4 := zmn_4 (f := gcn g) (n := i) (fun j hj => gok_n hg (by omega))
          have i0 : ¬ i = 0 := fun e => c_16 (h4.mpr e)
          replace H : zE none d zm_X8_leastOn 5 [.ref 71, .int (Int32.ofNat pg), .int (zmn (gcn g) (i + 1)), .int (Int32.ofNat (i + 1))] [] m r h' := by
            rw [show zmn (gcn g) (i + 1) = zmn (gcn g) i by
              rw [zmn, if_neg i0, zmin, if_neg c_26]]
            rw [← zofn_s]
            exact H
          exact ih (i + 1) d r h' (by omega) H
        · skip
          replace H := i_aln (q := 30) H I_X8_leastOn_29 rfl rfl
          replace H := i_iln (q := 31) H I_X8_leastOn_30 rfl rfl
          replace H := i_iln (q := 32) H I_X8_leastOn_31 rfl rfl
          have W := i_cv2 0 (q := 35) H I_X8_leastOn_32 K_8_141 Zm_129 rfl rfl
          clear H
          obtain ⟨r1, h1, Hc, K1, K2⟩ := W
          obtain ⟨e1, e2⟩ := t_X8_countOf hP (by omega) Hc
          have H := K1 _ _ e1 e2
          clear e1 e2 Hc K1 K2
          replace H := i_goto (q := 39) H I_X8_leastOn_35 (by decide)
          replace H := i_isn (q := 40) H I_X8_leastOn_39 rfl rfl
          replace H := i_inc (q := 43) H I_X8_leastOn_40 rfl rfl rfl
          replace H := i_goto (q := 5) H I_X8_leastOn_43 (by decide)
          have h4 := zmn_4 (f := gcn g) (n := i) (fun j hj => gok_n hg (by omega))
          have i0 : ¬ i = 0 := fun e => c_16 (h4.mpr e)
          replace H : zE none d zm_X8_leastOn 5 [.ref 71, .int (Int32.ofNat pg), .int (zmn (gcn g) (i + 1)), .int (Int32.ofNat (i + 1))] [] m r h' := by
            rw [show zmn (gcn g) (i + 1) = gcn g i by
              rw [zmn, if_neg i0, zmin, if_pos c_26]]
            rw [← zofn_s]
            exact H
          exact ih (i + 1) d r h' (by omega) H
theorem t_X8_leastOn {d : Nat} {m : zM} {r : Option Value} {h' : zHp} {pg c : Nat} {g : Nat → Int32} (hP : PG m pg g) (hg : gok g c) (hc : m 71 2 = Int32.ofNat c) (H : zE none d zm_X8_leastOn 0 [.ref 71, .int (Int32.ofNat pg), .null, .null] [] m r h') : r = some (.int (zmn (gcn g) c)) ∧ h' = zhp m := by
  replace H := i_bip (x := (-4)) (q := 2) H I_X8_leastOn_0 (by decide) rfl
  replace H := i_isn (q := 3) H I_X8_leastOn_2 rfl rfl
  replace H := i_icst (x := 0) (q := 4) H I_X8_leastOn_3 (by decide) rfl
  replace H := i_isn (q := 5) H I_X8_leastOn_4 rfl rfl
  exact ln_loop hP hg hc c 0 d r h' (by omega) H
theorem t_X8_isNear {d : Nat} {m : zM} {r : Option Value} {h' : zHp} {pg i c : Nat} {g : Nat → Int32} (hP : PG m pg g) (hg : gok g c) (hc : m 71 2 = Int32.ofNat c) (hi : i < 5) (H : zE none d zm_X8_isNear 0 [.ref 71, .int (Int32.ofNat pg), .int (Int32.ofNat i)] [] m r h') : r = some (.int (if zmn (gcn g) c + (g 16 + 1) < gcn g i then 0 else 1)) ∧ h' = zhp m := by
  replace H := i_aln (q := 1) H I_X8_isNear_0 rfl rfl
  replace H := i_iln (q := 2) H I_X8_isNear_1 rfl rfl
  replace H := i_iln (q := 3) H I_X8_isNear_2 rfl rfl
  have W := i_cv2 0 (q := 6) H I_X8_isNear_3 K_8_141 Zm_129 rfl rfl
  clear H
  obtain ⟨r1, h1, Hc, K1, K2⟩ := W
  obtain ⟨e1, e2⟩ := t_X8_countOf hP (by omega) Hc
  have H := K1 _ _ e1 e2
  clear e1 e2 Hc K1 K2
  replace H := i_aln (q := 7) H I_X8_isNear_6 rfl rfl
  replace H := i_iln (q := 8) H I_X8_isNear_7 rfl rfl
  have W := i_cv1 2 (q := 11) H I_X8_isNear_8 K_8_144 Zm_130 rfl rfl
  clear H
  obtain ⟨r1, h1, Hc, K1, K2⟩ := W
  obtain ⟨e1, e2⟩ := t_X8_leastOn hP hg hc Hc
  have H := K1 _ _ e1 e2
  clear e1 e2 Hc K1 K2
  replace H := i_aln (q := 12) H I_X8_isNear_11 rfl rfl
  replace H := i_gfr (q := 15) H I_X8_isNear_12 G_8_7 cn_X8_isNear LY_71 rfl rfl
  replace H := i_iln (q := 16) H I_X8_isNear_15 rfl rfl
  replace H := i_bip (x := 16) (q := 18) H I_X8_isNear_16 (by decide) rfl
  replace H := i_iadd (q := 19) H I_X8_isNear_18 rfl
  have W := i_ia (q := 20) H I_X8_isNear_19 LY_72 rfl
  clear H
  obtain ⟨i_19, bi_19, ei_19, H⟩ := W
  replace H := i_iadd (q := 21) H I_X8_isNear_20 rfl
  replace H := i_icst (x := 1) (q := 22) H I_X8_isNear_21 (by decide) rfl
  replace H := i_iadd (q := 23) H I_X8_isNear_22 rfl
  have W := i_ic_gt (t := 30) (q := 26) H I_X8_isNear_23 (by decide) rfl
  clear H
  rcases W with ⟨c_23, H⟩ | ⟨c_23, H⟩
  · skip
    replace H := i_icst (x := 0) (q := 31) H I_X8_isNear_30 (by decide) rfl
    obtain ⟨hr, hh⟩ := i_ir H I_X8_isNear_31
    have i1 : i_19 = pg + 16 := zix3 rfl (b := 16) rfl ei_19 (by have := hP.1; omega) (by omega)
    subst i1
    rw [hP.2 16 (by omega), Int32.add_assoc] at c_23
    exact ⟨hr.trans (by rw [if_pos c_23]), hh⟩
  · skip
    replace H := i_icst (x := 1) (q := 27) H I_X8_isNear_26 (by decide) rfl
    replace H := i_goto (q := 31) H I_X8_isNear_27 (by decide)
    obtain ⟨hr, hh⟩ := i_ir H I_X8_isNear_31
    have i1 : i_19 = pg + 16 := zix3 rfl (b := 16) rfl ei_19 (by have := hP.1; omega) (by omega)
    subst i1
    rw [hP.2 16 (by omega), Int32.add_assoc] at c_23
    exact ⟨hr.trans (by rw [if_neg c_23]), hh⟩
/-- of those from lo on: the first with the least count -/
def IsW (f : Nat → Int32) (s : Int32) (lo n : Nat) (b : Int32) : Prop := (b = -4 ∧ ∀ p, lo ≤ p → p < n → zbt s p = 0) ∨ ∃ w, lo ≤ w ∧ w < n ∧ b = Int32.ofNat w ∧ ¬ zbt s w = 0 ∧ ∀ p, lo ≤ p → p < n → ¬ zbt s p = 0 → ¬ f p < f w ∧ (p < w → f w < f p)
theorem i32_le {a b c : Int32} (h1 : ¬ b < a) (h2 : ¬ c < b) : ¬ c < a := by
  rw [Int32.lt_iff_toInt_lt] at *
  omega
theorem i32_l1 {a b c : Int32} (h1 : a < b) (h2 : ¬ c < b) : a < c := by
  rw [Int32.lt_iff_toInt_lt] at *
  omega
theorem i32_l2 {a b : Int32} (h1 : a < b) : ¬ b < a := by
  rw [Int32.lt_iff_toInt_lt] at *
  omega
theorem zofn_n4 {w : Nat} (h : w < 5) : ¬ Int32.ofNat w = -4 := by
  rcases (by omega : w = 0 ∨ w = 1 ∨ w = 2 ∨ w = 3 ∨ w = 4) with rfl | rfl | rfl | rfl | rfl <;> decide
theorem zwb_W (f : Nat → Int32) (s : Int32) : ∀ n, n ≤ 5 → IsW f s 0 n (zwb f s n)
  | 0, _ => Or.inl ⟨rfl, fun p _ h => by omega⟩
  | n + 1, hn => by
    have ih := zwb_W f s n (by omega)
    rw [zwb]
    by_cases hz : zbt s n = 0
    · rw [if_pos hz]
      rcases ih with ⟨e, h⟩ | ⟨w, w0, w1, w2, w3, w4⟩
      · refine Or.inl ⟨e, fun p h1 h2 => ?_⟩
        by_cases hp : p = n
        · rw [hp]; exact hz
        · exact h p h1 (by omega)
      · refine Or.inr ⟨w, w0, by omega, w2, w3, fun p h1 h2 h3 => ?_⟩
        by_cases hp : p = n
        · rw [hp] at h3; exact absurd hz h3
        · exact w4 p h1 (by omega) h3
    · rw [if_neg hz]
      rcases ih with ⟨e, h⟩ | ⟨w, w0, w1, w2, w3, w4⟩
      · rw [if_pos e]
        refine Or.inr ⟨n, by omega, by omega, rfl, hz, fun p h1 h2 h3 => ?_⟩
        by_cases hp : p = n
        · subst hp
          exact ⟨fun q => i32_l2 q q, fun q => absurd q (Nat.lt_irrefl _)⟩
        · exact absurd (h p h1 (by omega)) h3
      · rw [w2, if_neg (zofn_n4 (by omega)), Int32.toNatClampNeg_ofNat_of_lt (by omega)]
        by_cases hl : f n < f w
        · rw [if_pos hl]
          refine Or.inr ⟨n, by omega, by omega, rfl, hz, fun p h1 h2 h3 => ?_⟩
          by_cases hp : p = n
          · subst hp
            exact ⟨fun q => i32_l2 q q, fun q => absurd q (Nat.lt_irrefl _)⟩
          · have := (w4 p h1 (by omega) h3).1
            have h5 := i32_l1 hl this
            exact ⟨i32_l2 h5, fun _ => h5⟩
        · rw [if_neg hl]
          refine Or.inr ⟨w, w0, by omega, rfl, w3, fun p h1 h2 h3 => ?_⟩
          by_cases hp : p = n
          · subst hp
            exact ⟨hl, fun q => by omega⟩
          · exact w4 p h1 (by omega) h3
theorem IsW_u {f : Nat → Int32} {s b b2 : Int32} {lo n : Nat} (h : IsW f s lo n b) (h2 : IsW f s lo n b2) : b = b2 := by
  rcases h with ⟨e, k⟩ | ⟨w, w0, w1, w2, w3, w4⟩
  · rcases h2 with ⟨e2, _⟩ | ⟨v, v0, v1, v2, v3, v4⟩
    · rw [e, e2]
    · exact absurd (k v v0 v1) v3
  · rcases h2 with ⟨e2, k⟩ | ⟨v, v0, v1, v2, v3, v4⟩
    · exact absurd (k w w0 w1) w3
    · have a1 := w4 v v0 v1 v3
      have a2 := v4 w w0 w1 w3
      have : w = v := by
        rcases Nat.lt_or_ge w v with q | q
        · exact absurd (a2.2 q) (fun z => a1.1 z)
        · rcases Nat.lt_or_ge v w with q2 | q2
          · exact absurd (a1.2 q2) (fun z => a2.1 z)
          · omega
      rw [w2, v2, this]
theorem IsW_s {f : Nat → Int32} {s b : Int32} {j n : Nat} (h : IsW f s (j + 1) n b) (hj : j < n) (hn : n ≤ 5) : (zbt s j = 0 → IsW f s j n b) ∧ (¬ zbt s j = 0 → (b = -4 ∨ ∃ w, w < 5 ∧ b = Int32.ofNat w ∧ ¬ f w < f j) → IsW f s j n (Int32.ofNat j)) ∧ (¬ zbt s j = 0 → (∃ w, w < 5 ∧ b = Int32.ofNat w ∧ f w < f j) → IsW f s j n b) := by
  refine ⟨fun hz => ?_, fun hz hb => ?_, fun hz hb => ?_⟩
  · rcases h with ⟨e, k⟩ | ⟨w, w0, w1, w2, w3, w4⟩
    · refine Or.inl ⟨e, fun p h1 h2 => ?_⟩
      by_cases hp : p = j
      · rw [hp]; exact hz
      · exact k p (by omega) h2
    · refine Or.inr ⟨w, by omega, w1, w2, w3, fun p h1 h2 h3 => ?_⟩
      by_cases hp : p = j
      · rw [hp] at h3; exact absurd hz h3
      · exact w4 p (by omega) h2 h3
  · refine Or.inr ⟨j, Nat.le_refl _, hj, rfl, hz, fun p h1 h2 h3 => ?_⟩
    by_cases hp : p = j
    · subst hp
      exact ⟨fun q => i32_l2 q q, fun q => absurd q (Nat.lt_irrefl _)⟩
    · refine ⟨?_, fun q => by omega⟩
      rcases h with ⟨e, k⟩ | ⟨w, w0, w1, w2, w3, w4⟩
      · exact absurd (k p (by omega) h2) h3
      · rcases hb with e | ⟨v, v1, v2, v3⟩
        · rw [w2] at e
          exact absurd e (zofn_n4 (by omega))
        · have e : v = w := zofn (v2.symm.trans w2) (by omega) (by omega)
          subst e
          exact i32_le v3 (w4 p (by omega) h2 h3).1
  · obtain ⟨v, v1, v2, v3⟩ := hb
    rcases h with ⟨e, k⟩ | ⟨w, w0, w1, w2, w3, w4⟩
    · rw [v2] at e
      exact absurd e (zofn_n4 v1)
    · have e : v = w := zofn (v2.symm.trans w2) (by omega) (by omega)
      subst e
      refine Or.inr ⟨v, by omega, w1, w2, w3, fun p h1 h2 h3 => ?_⟩
      by_cases hp : p = j
      · subst hp
        exact ⟨i32_l2 v3, fun _ => v3⟩
      · exact w4 p (by omega) h2 h3
theorem tr_loop {m : zM} {pg c : Nat} {g : Nat → Int32} {s : Int32} (hP : PG m pg g) (hc5 : c ≤ 5) : ∀ (j d : Nat) (r : Option Value) (h' : zHp) (b : Int32), j ≤ c → IsW (gcn g) s j c b → zE none d zm_X8_triesOn 11 [.ref 71, .int (Int32.ofNat pg), .int s, .int b, .int (Int32.ofNat j - 1), .null] [] m r h' → ∃ b2, IsW (gcn g) s 0 c b2 ∧ zE none d zm_X8_triesOn 73 [.ref 71, .int (Int32.ofNat pg), .int s, .int b2, .null, .null] [] m r h' := by
  intro j
  induction j with
  | zero =>
    intro d r h' b hj hW H
    replace H := i_il (q := 13) H I_X8_triesOn_11 rfl rfl
    have W := i_if_lt (t := 73) (q := 16) H I_X8_triesOn_13 (by decide) rfl
    clear H
    rcases W with ⟨c_13, H⟩ | ⟨c_13, H⟩
    · skip
      replace H := i_w [true, true, true, true, false, false] H
      exact ⟨b, hW, H⟩
    · exfalso
      exact c_13 (by decide)
  | succ j ih =>
    intro d r h' b hj hW H
    replace H : zE none d zm_X8_triesOn 11 [.ref 71, .int (Int32.ofNat pg), .int s, .int b, .int (Int32.ofNat j), .null] [] m r h' := by
      rw [show Int32.ofNat (j + 1) - 1 = Int32.ofNat j by rw [← zofn_1, Int32.add_sub_cancel]] at H
      exact H
    replace H := i_il (q := 13) H I_X8_triesOn_11 rfl rfl
    have W := i_if_lt (t := 73) (q := 16) H I_X8_triesOn_13 (by decide) rfl
    clear H
    rcases W with ⟨c_13, H⟩ | ⟨c_13, H⟩
    · skip
      exfalso
      rw [Int32.lt_iff_toInt_lt, zofn_t (by omega)] at c_13
      have e0 : (0 : Int32).toInt = 0 := rfl
      omega
    · skip
      replace H := i_iln (q := 17) H I_X8_triesOn_16 rfl rfl
      replace H := i_il (q := 19) H I_X8_triesOn_17 rfl rfl
      replace H := i_ishr (q := 20) H I_X8_triesOn_19 rfl
      replace H := i_icst (x := 1) (q := 21) H I_X8_triesOn_20 (by decide) rfl
      replace H := i_iand (q := 22) H I_X8_triesOn_21 rfl
      replace H := i_icst (x := 1) (q := 23) H I_X8_triesOn_22 (by decide) rfl
      have W := i_ic_ne (t := 52) (q := 26) H I_X8_triesOn_23 (by decide) rfl
      clear H
      rcases W with ⟨c_23, H⟩ | ⟨c_23, H⟩
      · skip
        replace H := i_icst (x := 0) (q := 53) H I_X8_triesOn_52 (by decide) rfl
        replace H := i_is (q := 55) H I_X8_triesOn_53 rfl rfl
        replace H := i_il (q := 57) H I_X8_triesOn_55 rfl rfl
        have W := i_if_eq (t := 65) (q := 60) H I_X8_triesOn_57 (by decide) rfl
        clear H
        rcases W with ⟨c_57, H⟩ | ⟨c_57, H⟩
        · skip
          replace H := i_iln (q := 66) H I_X8_triesOn_65 rfl rfl
          replace H := i_isn (q := 67) H I_X8_triesOn_66 rfl rfl
          replace H := i_inc (q := 70) H I_X8_triesOn_67 rfl rfl rfl
          replace H := i_goto (q := 11) H I_X8_triesOn_70 (by decide)
          have hz : zbt s j = 0 := Decidable.not_not.mp (fun q => c_23 (zbt_1.mpr q))
          replace H := i_w [true, true, true, true, true, false] H
          replace H : zE none d zm_X8_triesOn 11 [.ref 71, .int (Int32.ofNat pg), .int s, .int (b), .int (Int32.ofNat j - 1), .null] [] m r h' := by
            rw [show Int32.ofNat j - 1 = Int32.ofNat j + Int32.ofInt (-1) by rw [Int32.sub_eq_add_neg]; rfl]
            exact H
          exact ih d r h' _ (by omega) ((IsW_s hW (by omega) hc5).1 hz) H
        · skip
          replace H := i_il (q := 62) H I_X8_triesOn_60 rfl rfl
          replace H := i_goto (q := 66) H I_X8_triesOn_62 (by decide)
          replace H := i_isn (q := 67) H I_X8_triesOn_66 rfl rfl
          replace H := i_inc (q := 70) H I_X8_triesOn_67 rfl rfl rfl
          replace H := i_goto (q := 11) H I_X8_triesOn_70 (by decide)
          exact absurd rfl c_57
      · skip
        replace H := i_iln (q := 27) H I_X8_triesOn_26 rfl rfl
        replace H := i_bip (x := (-4)) (q := 29) H I_X8_triesOn_27 (by decide) rfl
        have W := i_ic_eq (t := 48) (q := 32) H I_X8_triesOn_29 (by decide) rfl
        clear H
        rcases W with ⟨c_29, H⟩ | ⟨c_29, H⟩
        · skip
          replace H := i_icst (x := 1) (q := 49) H I_X8_triesOn_48 (by decide) rfl
          replace H := i_goto (q := 53) H I_X8_triesOn_49 (by decide)
          replace H := i_is (q := 55) H I_X8_triesOn_53 rfl rfl
          replace H := i_il (q := 57) H I_X8_triesOn_55 rfl rfl
          have W := i_if_eq (t := 65) (q := 60) H I_X8_triesOn_57 (by decide) rfl
          clear H
          rcases W with ⟨c_57, H⟩ | ⟨c_57, H⟩
          · skip
            replace H := i_iln (q := 66) H I_X8_triesOn_65 rfl rfl
            replace H := i_isn (q := 67) H I_X8_triesOn_66 rfl rfl
            replace H := i_inc (q := 70) H I_X8_triesOn_67 rfl rfl rfl
            replace H := i_goto (q := 11) H I_X8_triesOn_70 (by decide)
            exact absurd c_57 (by decide)
          · skip
            replace H := i_il (q := 62) H I_X8_triesOn_60 rfl rfl
            replace H := i_goto (q := 66) H I_X8_triesOn_62 (by decide)
            replace H := i_isn (q := 67) H I_X8_triesOn_66 rfl rfl
            replace H := i_inc (q := 70) H I_X8_triesOn_67 rfl rfl rfl
            replace H := i_goto (q := 11) H I_X8_triesOn_70 (by decide)
            have hz : ¬ zbt s j = 0 := zbt_1.mp c_23
            replace H := i_w [true, true, true, true, true, false] H
            replace H : zE none d zm_X8_triesOn 11 [.ref 71, .int (Int32.ofNat pg), .int s, .int (Int32.ofNat j), .int (Int32.ofNat j - 1), .null] [] m r h' := by
              rw [show Int32.ofNat j - 1 = Int32.ofNat j + Int32.ofInt (-1) by rw [Int32.sub_eq_add_neg]; rfl]
              exact H
            exact ih d r h' _ (by omega) ((IsW_s hW (by omega) hc5).2.1 hz (Or.inl c_29)) H
        · skip
          replace H := i_aln (q := 33) H I_X8_triesOn_32 rfl rfl
          replace H := i_iln (q := 34) H I_X8_triesOn_33 rfl rfl
          replace H := i_il (q := 36) H I_X8_triesOn_34 rfl rfl
          have W := i_cv2 0 (q := 39) H I_X8_triesOn_36 K_8_141 Zm_129 rfl rfl
          clear H
          obtain ⟨r1, h1, Hc, K1, K2⟩ := W
          obtain ⟨e1, e2⟩ := t_X8_countOf hP (by omega) Hc
          have H := K1 _ _ e1 e2
          clear e1 e2 Hc K1 K2
          replace H := i_aln (q := 40) H I_X8_triesOn_39 rfl rfl
          replace H := i_iln (q := 41) H I_X8_triesOn_40 rfl rfl
          replace H := i_iln (q := 42) H I_X8_triesOn_41 rfl rfl
          have W := i_cv2 0 (q := 45) H I_X8_triesOn_42 K_8_141 Zm_129 rfl rfl
          clear H
          obtain ⟨r1, h1, Hc, K1, K2⟩ := W
          obtain ⟨bw, bw5, ebw⟩ : ∃ w, w < 5 ∧ b = Int32.ofNat w := by
            rcases hW with ⟨e, _⟩ | ⟨w, w0, w1, w2, _⟩
            · exact absurd e c_29
            · exact ⟨w, by omega, w2⟩
          rw [ebw] at Hc
          obtain ⟨e1, e2⟩ := t_X8_countOf hP bw5 Hc
          have H := K1 _ _ e1 e2
          clear e1 e2 Hc K1 K2
          have W := i_ic_gt (t := 52) (q := 48) H I_X8_triesOn_45 (by decide) rfl
          clear H
          rcases W with ⟨c_45, H⟩ | ⟨c_45, H⟩
          · skip
            replace H := i_icst (x := 0) (q := 53) H I_X8_triesOn_52 (by decide) rfl
            replace H := i_is (q := 55) H I_X8_triesOn_53 rfl rfl
            replace H := i_il (q := 57) H I_X8_triesOn_55 rfl rfl
            have W := i_if_eq (t := 65) (q := 60) H I_X8_triesOn_57 (by decide) rfl
            clear H
            rcases W with ⟨c_57, H⟩ | ⟨c_57, H⟩
            · skip
              replace H := i_iln (q := 66) H I_X8_triesOn_65 rfl rfl
              replace H := i_isn (q := 67) H I_X8_triesOn_66 rfl rfl
              replace H := i_inc (q := 70) H I_X8_triesOn_67 rfl rfl rfl
              replace H := i_goto (q := 11) H I_X8_triesOn_70 (by decide)
              have hz : ¬ zbt s j = 0 := zbt_1.mp c_23
              replace H := i_w [true, true, true, true, true, false] H
              replace H : zE none d zm_X8_triesOn 11 [.ref 71, .int (Int32.ofNat pg), .int s, .int (b), .int (Int32.ofNat j - 1), .null] [] m r h' := by
                rw [show Int32.ofNat j - 1 = Int32.ofNat j + Int32.ofInt (-1) by rw [Int32.sub_eq_add_neg]; rfl]
                exact H
              exact ih d r h' _ (by omega) ((IsW_s hW (by omega) hc5).2.2 hz ⟨bw, bw5, ebw, c_45⟩) H
            · skip
              replace H := i_il (q := 62) H I_X8_triesOn_60 rfl rfl
              replace H := i_goto (q := 66) H I_X8_triesOn_62 (by decide)
              replace H := i_isn (q := 67) H I_X8_triesOn_66 rfl rfl
              replace H := i_inc (q := 70) H I_X8_triesOn_67 rfl rfl rfl
              replace H := i_goto (q := 11) H I_X8_triesOn_70 (by decide)
              exact absurd rfl c_57
          · skip
            replace H := i_icst (x := 1) (q := 49) H I_X8_triesOn_48 (by decide) rfl
            replace H := i_goto (q := 53) H I_X8_triesOn_49 (by decide)
            replace H := i_is (q := 55) H I_X8_triesOn_53 rfl rfl
            replace H := i_il (q := 57) H I_X8_triesOn_55 rfl rfl
            have W := i_if_eq (t := 65) (q := 60) H I_X8_triesOn_57 (by decide) rfl
            clear H
            rcases W with ⟨c_57, H⟩ | ⟨c_57, H⟩
            · skip
              replace H := i_iln (q := 66) H I_X8_triesOn_65 rfl rfl
              replace H := i_isn (q := 67) H I_X8_triesOn_66 rfl rfl
              replace H := i_inc (q := 70) H I_X8_triesOn_67 rfl rfl rfl
              replace H := i_goto (q := 11) H I_X8_triesOn_70 (by decide)
              exact absurd c_57 (by decide)
            · skip
              replace H := i_il (q := 62) H I_X8_triesOn_60 rfl rfl
              replace H := i_goto (q := 66) H I_X8_triesOn_62 (by decide)
              replace H := i_isn (q := 67) H I_X8_triesOn_66 rfl rfl
              replace H := i_inc (q := 70) H I_X8_triesOn_67 rfl rfl rfl
              replace H := i_goto (q := 11) H I_X8_triesOn_70 (by decide)
              have hz : ¬ zbt s j = 0 := zbt_1.mp c_23
              replace H := i_w [true, true, true, true, true, false] H
              replace H : zE none d zm_X8_triesOn 11 [.ref 71, .int (Int32.ofNat pg), .int s, .int (Int32.ofNat j), .int (Int32.ofNat j - 1), .null] [] m r h' := by
                rw [show Int32.ofNat j - 1 = Int32.ofNat j + Int32.ofInt (-1) by rw [Int32.sub_eq_add_neg]; rfl]
                exact H
              exact ih d r h' _ (by omega) ((IsW_s hW (by omega) hc5).2.1 hz (Or.inr ⟨bw, bw5, ebw, c_45⟩)) H
end
section
/-! triesOn -/
theorem I_X8_triesOn_0 : zin zm_X8_triesOn.2.2.2.2.2 0 = some (.bipush (-4), 2) := by rw [It_X8_triesOn]; rfl
theorem I_X8_triesOn_2 : zin zm_X8_triesOn.2.2.2.2.2 2 = some (.istore_n 3, 1) := by rw [It_X8_triesOn]; rfl
theorem I_X8_triesOn_3 : zin zm_X8_triesOn.2.2.2.2.2 3 = some (.aload_n 0, 1) := by rw [It_X8_triesOn]; rfl
theorem I_X8_triesOn_4 : zin zm_X8_triesOn.2.2.2.2.2 4 = some (.getfield 131, 3) := by rw [It_X8_triesOn]; rfl
theorem I_X8_triesOn_7 : zin zm_X8_triesOn.2.2.2.2.2 7 = some (.iconst 1, 1) := by rw [It_X8_triesOn]; rfl
theorem I_X8_triesOn_8 : zin zm_X8_triesOn.2.2.2.2.2 8 = some (.isub, 1) := by rw [It_X8_triesOn]; rfl
theorem I_X8_triesOn_9 : zin zm_X8_triesOn.2.2.2.2.2 9 = some (.istore 4, 2) := by rw [It_X8_triesOn]; rfl
theorem I_X8_triesOn_73 : zin zm_X8_triesOn.2.2.2.2.2 73 = some (.aload_n 0, 1) := by rw [It_X8_triesOn]; rfl
theorem I_X8_triesOn_74 : zin zm_X8_triesOn.2.2.2.2.2 74 = some (.getfield 7, 3) := by rw [It_X8_triesOn]; rfl
theorem I_X8_triesOn_77 : zin zm_X8_triesOn.2.2.2.2.2 77 = some (.iload_n 1, 1) := by rw [It_X8_triesOn]; rfl
theorem I_X8_triesOn_78 : zin zm_X8_triesOn.2.2.2.2.2 78 = some (.bipush 17, 2) := by rw [It_X8_triesOn]; rfl
theorem I_X8_triesOn_80 : zin zm_X8_triesOn.2.2.2.2.2 80 = some (.iadd, 1) := by rw [It_X8_triesOn]; rfl
theorem I_X8_triesOn_81 : zin zm_X8_triesOn.2.2.2.2.2 81 = some (.dup2, 1) := by rw [It_X8_triesOn]; rfl
theorem I_X8_triesOn_82 : zin zm_X8_triesOn.2.2.2.2.2 82 = some (.iaload, 1) := by rw [It_X8_triesOn]; rfl
theorem I_X8_triesOn_83 : zin zm_X8_triesOn.2.2.2.2.2 83 = some (.aload_n 0, 1) := by rw [It_X8_triesOn]; rfl
theorem I_X8_triesOn_84 : zin zm_X8_triesOn.2.2.2.2.2 84 = some (.getfield 7, 3) := by rw [It_X8_triesOn]; rfl
theorem I_X8_triesOn_87 : zin zm_X8_triesOn.2.2.2.2.2 87 = some (.iload_n 1, 1) := by rw [It_X8_triesOn]; rfl
theorem I_X8_triesOn_88 : zin zm_X8_triesOn.2.2.2.2.2 88 = some (.bipush 17, 2) := by rw [It_X8_triesOn]; rfl
theorem I_X8_triesOn_90 : zin zm_X8_triesOn.2.2.2.2.2 90 = some (.iadd, 1) := by rw [It_X8_triesOn]; rfl
theorem I_X8_triesOn_91 : zin zm_X8_triesOn.2.2.2.2.2 91 = some (.iaload, 1) := by rw [It_X8_triesOn]; rfl
theorem I_X8_triesOn_92 : zin zm_X8_triesOn.2.2.2.2.2 92 = some (.sipush 999, 3) := by rw [It_X8_triesOn]; rfl
theorem I_X8_triesOn_95 : zin zm_X8_triesOn.2.2.2.2.2 95 = some (.if_icmp .ge 7, 3) := by rw [It_X8_triesOn]; rfl
theorem I_X8_triesOn_98 : zin zm_X8_triesOn.2.2.2.2.2 98 = some (.iconst 1, 1) := by rw [It_X8_triesOn]; rfl
theorem I_X8_triesOn_99 : zin zm_X8_triesOn.2.2.2.2.2 99 = some (.goto 4, 3) := by rw [It_X8_triesOn]; rfl
theorem I_X8_triesOn_102 : zin zm_X8_triesOn.2.2.2.2.2 102 = some (.iconst 0, 1) := by rw [It_X8_triesOn]; rfl
theorem I_X8_triesOn_103 : zin zm_X8_triesOn.2.2.2.2.2 103 = some (.iadd, 1) := by rw [It_X8_triesOn]; rfl
theorem I_X8_triesOn_104 : zin zm_X8_triesOn.2.2.2.2.2 104 = some (.iastore, 1) := by rw [It_X8_triesOn]; rfl
theorem I_X8_triesOn_105 : zin zm_X8_triesOn.2.2.2.2.2 105 = some (.iload_n 3, 1) := by rw [It_X8_triesOn]; rfl
theorem I_X8_triesOn_106 : zin zm_X8_triesOn.2.2.2.2.2 106 = some (.bipush (-4), 2) := by rw [It_X8_triesOn]; rfl
theorem I_X8_triesOn_108 : zin zm_X8_triesOn.2.2.2.2.2 108 = some (.if_icmp .eq 12, 3) := by rw [It_X8_triesOn]; rfl
theorem I_X8_triesOn_111 : zin zm_X8_triesOn.2.2.2.2.2 111 = some (.aload_n 0, 1) := by rw [It_X8_triesOn]; rfl
theorem I_X8_triesOn_112 : zin zm_X8_triesOn.2.2.2.2.2 112 = some (.iload_n 1, 1) := by rw [It_X8_triesOn]; rfl
theorem I_X8_triesOn_113 : zin zm_X8_triesOn.2.2.2.2.2 113 = some (.iload_n 3, 1) := by rw [It_X8_triesOn]; rfl
theorem I_X8_triesOn_114 : zin zm_X8_triesOn.2.2.2.2.2 114 = some (.invokevirtual 147, 3) := by rw [It_X8_triesOn]; rfl
theorem I_X8_triesOn_117 : zin zm_X8_triesOn.2.2.2.2.2 117 = some (.ifCond .ne 6, 3) := by rw [It_X8_triesOn]; rfl
theorem I_X8_triesOn_120 : zin zm_X8_triesOn.2.2.2.2.2 120 = some (.bipush (-4), 2) := by rw [It_X8_triesOn]; rfl
theorem I_X8_triesOn_122 : zin zm_X8_triesOn.2.2.2.2.2 122 = some (.ireturn, 1) := by rw [It_X8_triesOn]; rfl
theorem I_X8_triesOn_123 : zin zm_X8_triesOn.2.2.2.2.2 123 = some (.aload_n 0, 1) := by rw [It_X8_triesOn]; rfl
theorem I_X8_triesOn_124 : zin zm_X8_triesOn.2.2.2.2.2 124 = some (.iload_n 1, 1) := by rw [It_X8_triesOn]; rfl
theorem I_X8_triesOn_125 : zin zm_X8_triesOn.2.2.2.2.2 125 = some (.iload_n 3, 1) := by rw [It_X8_triesOn]; rfl
theorem I_X8_triesOn_126 : zin zm_X8_triesOn.2.2.2.2.2 126 = some (.invokevirtual 141, 3) := by rw [It_X8_triesOn]; rfl
theorem I_X8_triesOn_129 : zin zm_X8_triesOn.2.2.2.2.2 129 = some (.aload_n 0, 1) := by rw [It_X8_triesOn]; rfl
theorem I_X8_triesOn_130 : zin zm_X8_triesOn.2.2.2.2.2 130 = some (.getfield 13, 3) := by rw [It_X8_triesOn]; rfl
theorem I_X8_triesOn_133 : zin zm_X8_triesOn.2.2.2.2.2 133 = some (.aload_n 0, 1) := by rw [It_X8_triesOn]; rfl
theorem I_X8_triesOn_134 : zin zm_X8_triesOn.2.2.2.2.2 134 = some (.getfield 7, 3) := by rw [It_X8_triesOn]; rfl
theorem I_X8_triesOn_137 : zin zm_X8_triesOn.2.2.2.2.2 137 = some (.iload_n 1, 1) := by rw [It_X8_triesOn]; rfl
theorem I_X8_triesOn_138 : zin zm_X8_triesOn.2.2.2.2.2 138 = some (.iload_n 3, 1) := by rw [It_X8_triesOn]; rfl
theorem I_X8_triesOn_139 : zin zm_X8_triesOn.2.2.2.2.2 139 = some (.iadd, 1) := by rw [It_X8_triesOn]; rfl
theorem I_X8_triesOn_140 : zin zm_X8_triesOn.2.2.2.2.2 140 = some (.iaload, 1) := by rw [It_X8_triesOn]; rfl
theorem I_X8_triesOn_141 : zin zm_X8_triesOn.2.2.2.2.2 141 = some (.iaload, 1) := by rw [It_X8_triesOn]; rfl
theorem I_X8_triesOn_142 : zin zm_X8_triesOn.2.2.2.2.2 142 = some (.iadd, 1) := by rw [It_X8_triesOn]; rfl
theorem I_X8_triesOn_143 : zin zm_X8_triesOn.2.2.2.2.2 143 = some (.istore 4, 2) := by rw [It_X8_triesOn]; rfl
theorem I_X8_triesOn_145 : zin zm_X8_triesOn.2.2.2.2.2 145 = some (.aload_n 0, 1) := by rw [It_X8_triesOn]; rfl
theorem I_X8_triesOn_146 : zin zm_X8_triesOn.2.2.2.2.2 146 = some (.getfield 7, 3) := by rw [It_X8_triesOn]; rfl
theorem I_X8_triesOn_149 : zin zm_X8_triesOn.2.2.2.2.2 149 = some (.aload_n 0, 1) := by rw [It_X8_triesOn]; rfl
theorem I_X8_triesOn_150 : zin zm_X8_triesOn.2.2.2.2.2 150 = some (.iload_n 1, 1) := by rw [It_X8_triesOn]; rfl
theorem I_X8_triesOn_151 : zin zm_X8_triesOn.2.2.2.2.2 151 = some (.iload_n 3, 1) := by rw [It_X8_triesOn]; rfl
theorem I_X8_triesOn_152 : zin zm_X8_triesOn.2.2.2.2.2 152 = some (.invokevirtual 137, 3) := by rw [It_X8_triesOn]; rfl
theorem I_X8_triesOn_155 : zin zm_X8_triesOn.2.2.2.2.2 155 = some (.iload 4, 2) := by rw [It_X8_triesOn]; rfl
theorem I_X8_triesOn_157 : zin zm_X8_triesOn.2.2.2.2.2 157 = some (.bipush 99, 2) := by rw [It_X8_triesOn]; rfl
theorem I_X8_triesOn_159 : zin zm_X8_triesOn.2.2.2.2.2 159 = some (.if_icmp .le 8, 3) := by rw [It_X8_triesOn]; rfl
theorem I_X8_triesOn_162 : zin zm_X8_triesOn.2.2.2.2.2 162 = some (.bipush 99, 2) := by rw [It_X8_triesOn]; rfl
theorem I_X8_triesOn_164 : zin zm_X8_triesOn.2.2.2.2.2 164 = some (.goto 5, 3) := by rw [It_X8_triesOn]; rfl
theorem I_X8_triesOn_167 : zin zm_X8_triesOn.2.2.2.2.2 167 = some (.iload 4, 2) := by rw [It_X8_triesOn]; rfl
theorem I_X8_triesOn_169 : zin zm_X8_triesOn.2.2.2.2.2 169 = some (.iastore, 1) := by rw [It_X8_triesOn]; rfl
theorem I_X8_triesOn_170 : zin zm_X8_triesOn.2.2.2.2.2 170 = some (.iload_n 3, 1) := by rw [It_X8_triesOn]; rfl
theorem I_X8_triesOn_171 : zin zm_X8_triesOn.2.2.2.2.2 171 = some (.ireturn, 1) := by rw [It_X8_triesOn]; rfl
theorem G_8_13 : zlk zfls 8 13 = some (8, 1, 842) := rfl
theorem K_8_147 : zlk zmls 8 147 = some (0, 132, 2, 996) := rfl
theorem Zm_132 : zms[132]? = some zm_X8_isNear := rfl
theorem LY_73 : zLY[73]? = some (Sum.inl 0, List.replicate 4 none) := rfl
theorem cl_X8_triesOn : zm_X8_triesOn.2.2.2.2.1 = 8 := by
  unfold zm_X8_triesOn
  rfl
theorem cn_X8_triesOn : zm_X8_triesOn.2.2.2.2.1 ≠ 12 := by
  rw [cl_X8_triesOn]
  decide
theorem cn2_X8_triesOn : zm_X8_triesOn.2.2.2.2.1 ≠ 2 := by
  rw [cl_X8_triesOn]
  decide
/-- the marks by kind -/
def zMk (m : zM) : Prop := m 73 0 = 1 ∧ m 73 1 = 2 ∧ m 73 2 = 0 ∧ m 73 3 = 4
theorem zMk_k {m : zM} (h : zMk m) {x : Int32} (h0 : 0 ≤ x.toInt) (h3 : x.toInt ≤ 3) : ∃ a, a < 4 ∧ x = Int32.ofNat a ∧ m 73 a = zmrk x := by
  obtain ⟨k0, k1, k2, k3⟩ := h
  refine ⟨x.toInt.toNat, by omega, ?_, ?_⟩
  · apply Int32.toInt_inj.mp
    rw [zofn_t (by omega)]
    omega
  · have e : x = Int32.ofNat x.toInt.toNat := by
      apply Int32.toInt_inj.mp
      rw [zofn_t (by omega)]
      omega
    rcases (by omega : x.toInt.toNat = 0 ∨ x.toInt.toNat = 1 ∨ x.toInt.toNat = 2 ∨ x.toInt.toNat = 3) with w | w | w | w
    · rw [w] at e ⊢; rw [e, k0]; rfl
    · rw [w] at e ⊢; rw [e, k1]; rfl
    · rw [w] at e ⊢; rw [e, k2]; rfl
    · rw [w] at e ⊢; rw [e, k3]; rfl
theorem gtr_r {x : Int32} : (if x < 999 then x + 1 else x + 0) = gtr x := by
  unfold gtr
  split
  · rfl
  · rw [Int32.add_zero]
theorem PG_s {m : zM} {pg : Nat} {g : Nat → Int32} {j : Nat} {v : Int32} (h : PG m pg g) (hj : j < 27) : PG (zup m 72 (pg + j) v) pg (gset g j v) := by
  refine ⟨h.1, fun i hi => ?_⟩
  by_cases e : i = j
  · subst e
    rw [zup_s, gset_s]
  · rw [zup_n (by omega), gset_n e, h.2 i hi]
theorem gcn_17 {g : Nat → Int32} {v : Int32} {i : Nat} (hi : i < 5) : gcn (gset g 17 v) i = gcn g i := by
  unfold gcn
  rw [gset_n (by omega), gset_n (by omega), gset_n (by omega)]
theorem gat_17 {g : Nat → Int32} {v : Int32} {i : Nat} : gat (gset g 17 v) i = gat g i := by
  unfold gat
  rw [gset_n (by omega)]
theorem gok_17 {g : Nat → Int32} {c : Nat} {v : Int32} (h : gok g c) (h0 : 0 ≤ v.toInt) (h1 : v.toInt ≤ 999) : gok (gset g 17 v) c := by
  obtain ⟨a, b, d, e⟩ := h
  refine ⟨a, fun i hi => ?_, by rw [gset_s]; exact h0, by rw [gset_s]; exact h1⟩
  have := b i hi
  rw [gset_n (by omega), gset_n (by omega), gset_n (by omega)]
  exact this
theorem gtr_b {x : Int32} (h0 : 0 ≤ x.toInt) (h1 : x.toInt ≤ 999) : 0 ≤ (gtr x).toInt ∧ (gtr x).toInt ≤ 999 := by
  obtain ⟨a, a1, rfl⟩ : ∃ a, a ≤ 999 ∧ x = Int32.ofNat a := ⟨x.toInt.toNat, by omega, by
    apply Int32.toInt_inj.mp
    rw [zofn_t (by omega)]
    omega⟩
  unfold gtr
  have e2 : Int32.ofNat a < (999 : Int32) ↔ a < 999 := zofn_lt (j := 999) (by omega) (by decide)
  by_cases h2 : a < 999
  · rw [if_pos (e2.mpr h2), zofn_1, zofn_t (by omega)]
    omega
  · rw [if_neg (fun w => h2 (e2.mp w)), zofn_t (by omega)]
    omega
theorem tr_73 {d : Nat} {m : zM} {r : Option Value} {h' : zHp} {pg : Nat} {g : Nat → Int32} {s b : Int32} (hP : PG m pg g) (H : zE none d zm_X8_triesOn 73 [.ref 71, .int (Int32.ofNat pg), .int s, .int b, .null, .null] [] m r h') : zE none d zm_X8_triesOn 105 [.ref 71, .int (Int32.ofNat pg), .int s, .int b, .null, .null] [] (zup m 72 (pg + 17) (gtr (g 17))) r h' := by
  replace H := i_aln (q := 74) H I_X8_triesOn_73 rfl rfl
  replace H := i_gfr (q := 77) H I_X8_triesOn_74 G_8_7 cn_X8_triesOn LY_71 rfl rfl
  replace H := i_iln (q := 78) H I_X8_triesOn_77 rfl rfl
  replace H := i_bip (x := 17) (q := 80) H I_X8_triesOn_78 (by decide) rfl
  replace H := i_iadd (q := 81) H I_X8_triesOn_80 rfl
  replace H := i_dup2 (q := 82) H I_X8_triesOn_81 rfl rfl rfl
  have W := i_ia (q := 83) H I_X8_triesOn_82 LY_72 rfl
  clear H
  obtain ⟨i_82, bi_82, ei_82, H⟩ := W
  replace H := i_aln (q := 84) H I_X8_triesOn_83 rfl rfl
  replace H := i_gfr (q := 87) H I_X8_triesOn_84 G_8_7 cn_X8_triesOn LY_71 rfl rfl
  replace H := i_iln (q := 88) H I_X8_triesOn_87 rfl rfl
  replace H := i_bip (x := 17) (q := 90) H I_X8_triesOn_88 (by decide) rfl
  replace H := i_iadd (q := 91) H I_X8_triesOn_90 rfl
  have W := i_ia (q := 92) H I_X8_triesOn_91 LY_72 rfl
  clear H
  obtain ⟨i_91, bi_91, ei_91, H⟩ := W
  replace H := i_sip (x := 999) (q := 95) H I_X8_triesOn_92 (by decide) rfl
  have W := i_ic_ge (t := 102) (q := 98) H I_X8_triesOn_95 (by decide) rfl
  clear H
  rcases W with ⟨c_95, H⟩ | ⟨c_95, H⟩
  · skip
    replace H := i_icst (x := 0) (q := 103) H I_X8_triesOn_102 (by decide) rfl
    replace H := i_iadd (q := 104) H I_X8_triesOn_103 rfl
    have W := i_iast (q := 105) H I_X8_triesOn_104 LY_72 rfl
    clear H
    obtain ⟨i_104, bi_104, ei_104, H⟩ := W
    have j1 : i_82 = pg + 17 := zix3 rfl (b := 17) rfl ei_82 (by have := hP.1; omega) (by omega)
    subst j1
    have j2 : i_91 = pg + 17 := zix3 rfl (b := 17) rfl ei_91 (by have := hP.1; omega) (by omega)
    subst j2
    have j3 : i_104 = pg + 17 := zix3 rfl (b := 17) rfl ei_104 (by have := hP.1; omega) (by omega)
    subst j3
    rw [hP.2 17 (by omega)] at c_95 H
    rw [show g 17 + 0 = gtr (g 17) by rw [← gtr_r, if_neg c_95]] at H
    exact H
  · skip
    replace H := i_icst (x := 1) (q := 99) H I_X8_triesOn_98 (by decide) rfl
    replace H := i_goto (q := 103) H I_X8_triesOn_99 (by decide)
    replace H := i_iadd (q := 104) H I_X8_triesOn_103 rfl
    have W := i_iast (q := 105) H I_X8_triesOn_104 LY_72 rfl
    clear H
    obtain ⟨i_104, bi_104, ei_104, H⟩ := W
    have j1 : i_82 = pg + 17 := zix3 rfl (b := 17) rfl ei_82 (by have := hP.1; omega) (by omega)
    subst j1
    have j2 : i_91 = pg + 17 := zix3 rfl (b := 17) rfl ei_91 (by have := hP.1; omega) (by omega)
    subst j2
    have j3 : i_104 = pg + 17 := zix3 rfl (b := 17) rfl ei_104 (by have := hP.1; omega) (by omega)
    subst j3
    rw [hP.2 17 (by omega)] at c_95 H
    rw [show g 17 + 1 = gtr (g 17) by rw [← gtr_r, if_pos c_95]] at H
    exact H
theorem tr_105 {d : Nat} {m : zM} {r : Option Value} {h' : zHp} {pg c : Nat} {g : Nat → Int32} {s b : Int32} (hP : PG m pg g) (hg : gok g c) (hc : m 71 2 = Int32.ofNat c) (hM : zMk m) (hb4 : b = -4 ∨ ∃ w, w < c ∧ b = Int32.ofNat w) (H : zE none d zm_X8_triesOn 105 [.ref 71, .int (Int32.ofNat pg), .int s, .int b, .null, .null] [] m r h') : ∃ m1, r = some (.int (if b = -4 ∨ zmn (gcn g) c + (g 16 + 1) < gcn g b.toNatClampNeg then -4 else b)) ∧ h' = zhp m1 ∧ PG m1 pg (if b = -4 ∨ zmn (gcn g) c + (g 16 + 1) < gcn g b.toNatClampNeg then g else gset g (gat g b.toNatClampNeg) (zcap (gcn g b.toNatClampNeg + zmrk (g b.toNatClampNeg)))) ∧ ∀ x y, ¬ (x = 72 ∧ pg ≤ y ∧ y < pg + 27) → m1 x y = m x y := by
  have hc5 := hg.1
  rcases hb4 with rfl | ⟨w, hw, rfl⟩
  · skip
    replace H := i_iln (q := 106) H I_X8_triesOn_105 rfl rfl
    replace H := i_bip (x := (-4)) (q := 108) H I_X8_triesOn_106 (by decide) rfl
    have W := i_ic_eq (t := 120) (q := 111) H I_X8_triesOn_108 (by decide) rfl
    clear H
    rcases W with ⟨c_108, H⟩ | ⟨c_108, H⟩
    · skip
      replace H := i_bip (x := (-4)) (q := 122) H I_X8_triesOn_120 (by decide) rfl
      obtain ⟨hr, hh⟩ := i_ir H I_X8_triesOn_122
      exact ⟨m, hr.trans (by rw [if_pos (Or.inl c_108)]), hh, by rw [if_pos (Or.inl c_108)]; exact hP, fun _ _ _ => rfl⟩
    · exact absurd rfl c_108
  · have hb : (Int32.ofNat w).toNatClampNeg = w := Int32.toNatClampNeg_ofNat_of_lt (by omega)
    replace H := i_iln (q := 106) H I_X8_triesOn_105 rfl rfl
    replace H := i_bip (x := (-4)) (q := 108) H I_X8_triesOn_106 (by decide) rfl
    have W := i_ic_eq (t := 120) (q := 111) H I_X8_triesOn_108 (by decide) rfl
    clear H
    rcases W with ⟨c_108, H⟩ | ⟨c_108, H⟩
    · exact absurd c_108 (zofn_n4 (by omega))
    · skip
      replace H := i_aln (q := 112) H I_X8_triesOn_111 rfl rfl
      replace H := i_iln (q := 113) H I_X8_triesOn_112 rfl rfl
      replace H := i_iln (q := 114) H I_X8_triesOn_113 rfl rfl
      have W := i_cv2 0 (q := 117) H I_X8_triesOn_114 K_8_147 Zm_132 rfl rfl
      clear H
      obtain ⟨r1, h1, Hc, K1, K2⟩ := W
      obtain ⟨e1, e2⟩ := t_X8_isNear hP hg hc (by omega) Hc
      have H := K1 _ _ e1 e2
      clear e1 e2 Hc K1 K2
      have W := i_if_ne (t := 123) (q := 120) H I_X8_triesOn_117 (by decide) rfl
      clear H
      rcases W with ⟨c_117, H⟩ | ⟨c_117, H⟩
      · skip
        replace H := i_aln (q := 124) H I_X8_triesOn_123 rfl rfl
        replace H := i_iln (q := 125) H I_X8_triesOn_124 rfl rfl
        replace H := i_iln (q := 126) H I_X8_triesOn_125 rfl rfl
        have W := i_cv2 0 (q := 129) H I_X8_triesOn_126 K_8_141 Zm_129 rfl rfl
        clear H
        obtain ⟨r1, h1, Hc, K1, K2⟩ := W
        obtain ⟨e1, e2⟩ := t_X8_countOf hP (by omega) Hc
        have H := K1 _ _ e1 e2
        clear e1 e2 Hc K1 K2
        replace H := i_aln (q := 130) H I_X8_triesOn_129 rfl rfl
        replace H := i_gfr (q := 133) H I_X8_triesOn_130 G_8_13 cn_X8_triesOn LY_71 rfl rfl
        replace H := i_aln (q := 134) H I_X8_triesOn_133 rfl rfl
        replace H := i_gfr (q := 137) H I_X8_triesOn_134 G_8_7 cn_X8_triesOn LY_71 rfl rfl
        replace H := i_iln (q := 138) H I_X8_triesOn_137 rfl rfl
        replace H := i_iln (q := 139) H I_X8_triesOn_138 rfl rfl
        replace H := i_iadd (q := 140) H I_X8_triesOn_139 rfl
        have W := i_ia (q := 141) H I_X8_triesOn_140 LY_72 rfl
        clear H
        obtain ⟨i_140, bi_140, ei_140, H⟩ := W
        have W := i_ia (q := 142) H I_X8_triesOn_141 LY_73 rfl
        clear H
        obtain ⟨i_141, bi_141, ei_141, H⟩ := W
        replace H := i_iadd (q := 143) H I_X8_triesOn_142 rfl
        replace H := i_is (q := 145) H I_X8_triesOn_143 rfl rfl
        replace H := i_aln (q := 146) H I_X8_triesOn_145 rfl rfl
        replace H := i_gfr (q := 149) H I_X8_triesOn_146 G_8_7 cn_X8_triesOn LY_71 rfl rfl
        replace H := i_aln (q := 150) H I_X8_triesOn_149 rfl rfl
        replace H := i_iln (q := 151) H I_X8_triesOn_150 rfl rfl
        replace H := i_iln (q := 152) H I_X8_triesOn_151 rfl rfl
        have W := i_cv2 0 (q := 155) H I_X8_triesOn_152 K_8_137 Zm_128 rfl rfl
        clear H
        obtain ⟨r1, h1, Hc, K1, K2⟩ := W
        obtain ⟨e1, e2⟩ := t_X8_countAt hP (by omega) Hc
        have H := K1 _ _ e1 e2
        clear e1 e2 Hc K1 K2
        replace H := i_il (q := 157) H I_X8_triesOn_155 rfl rfl
        replace H := i_bip (x := 99) (q := 159) H I_X8_triesOn_157 (by decide) rfl
        have W := i_ic_le (t := 167) (q := 162) H I_X8_triesOn_159 (by decide) rfl
        clear H
        rcases W with ⟨c_159, H⟩ | ⟨c_159, H⟩
        · skip
          replace H := i_il (q := 169) H I_X8_triesOn_167 rfl rfl
          have W := i_iast (q := 170) H I_X8_triesOn_169 LY_72 rfl
          clear H
          obtain ⟨i_169, bi_169, ei_169, H⟩ := W
          replace H := i_iln (q := 171) H I_X8_triesOn_170 rfl rfl
          obtain ⟨hr, hh⟩ := i_ir H I_X8_triesOn_171
          have hn : ¬ zmn (gcn g) c + (g 16 + 1) < gcn g w := fun q => by rw [if_pos q] at c_117; exact absurd rfl c_117
          have hno : ¬ (Int32.ofNat w = -4 ∨ zmn (gcn g) c + (g 16 + 1) < gcn g (Int32.ofNat w).toNatClampNeg) := by
            rintro (e | e)
            · exact c_108 e
            · rw [hb] at e
              exact hn e
          have j1 : i_140 = pg + w := zix3 rfl rfl ei_140 (by have := hP.1; omega) (by omega)
          subst j1
          rw [hP.2 w (by omega)] at ei_141
          obtain ⟨a, a1, a2, a3⟩ := zMk_k hM (hg.2.1 w hw).1.1 (hg.2.1 w hw).1.2
          have j2 : i_141 = a := zofn (ei_141.symm.trans a2) (by omega) (by omega)
          subst j2
          have hle := gat_le (g := g) (i := w) (by omega)
          have j3 : pg + gat g w = i_169 := zofn ei_169 (by have := hP.1; omega) (by omega)
          subst j3
          rw [a3] at c_159
          try rw [a3] at hh
          refine ⟨_, hr.trans (by rw [if_neg hno]), hh, ?_, fun x y hxy => by rw [zup_n (by omega)]⟩
          rw [if_neg hno, hb]
          rw [zcap, if_neg c_159]
          exact PG_s hP (by omega)
        · skip
          replace H := i_bip (x := 99) (q := 164) H I_X8_triesOn_162 (by decide) rfl
          replace H := i_goto (q := 169) H I_X8_triesOn_164 (by decide)
          have W := i_iast (q := 170) H I_X8_triesOn_169 LY_72 rfl
          clear H
          obtain ⟨i_169, bi_169, ei_169, H⟩ := W
          replace H := i_iln (q := 171) H I_X8_triesOn_170 rfl rfl
          obtain ⟨hr, hh⟩ := i_ir H I_X8_triesOn_171
          have hn : ¬ zmn (gcn g) c + (g 16 + 1) < gcn g w := fun q => by rw [if_pos q] at c_117; exact absurd rfl c_117
          have hno : ¬ (Int32.ofNat w = -4 ∨ zmn (gcn g) c + (g 16 + 1) < gcn g (Int32.ofNat w).toNatClampNeg) := by
            rintro (e | e)
            · exact c_108 e
            · rw [hb] at e
              exact hn e
          have j1 : i_140 = pg + w := zix3 rfl rfl ei_140 (by have := hP.1; omega) (by omega)
          subst j1
          rw [hP.2 w (by omega)] at ei_141
          obtain ⟨a, a1, a2, a3⟩ := zMk_k hM (hg.2.1 w hw).1.1 (hg.2.1 w hw).1.2
          have j2 : i_141 = a := zofn (ei_141.symm.trans a2) (by omega) (by omega)
          subst j2
          have hle := gat_le (g := g) (i := w) (by omega)
          have j3 : pg + gat g w = i_169 := zofn ei_169 (by have := hP.1; omega) (by omega)
          subst j3
          rw [a3] at c_159
          try rw [a3] at hh
          refine ⟨_, hr.trans (by rw [if_neg hno]), hh, ?_, fun x y hxy => by rw [zup_n (by omega)]⟩
          rw [if_neg hno, hb]
          rw [zcap, if_pos c_159]
          exact PG_s hP (by omega)
      · skip
        replace H := i_bip (x := (-4)) (q := 122) H I_X8_triesOn_120 (by decide) rfl
        obtain ⟨hr, hh⟩ := i_ir H I_X8_triesOn_122
        have hn : zmn (gcn g) c + (g 16 + 1) < gcn g w := Decidable.not_not.mp (fun q => by rw [if_neg q] at c_117; exact absurd c_117 (by decide))
        have hno : Int32.ofNat w = -4 ∨ zmn (gcn g) c + (g 16 + 1) < gcn g (Int32.ofNat w).toNatClampNeg := Or.inr (by rw [hb]; exact hn)
        exact ⟨m, hr.trans (by rw [if_pos hno]), hh, by rw [if_pos hno]; exact hP, fun _ _ _ => rfl⟩
theorem t_X8_triesOn {d : Nat} {m : zM} {r : Option Value} {h' : zHp} {pg c : Nat} {g : Nat → Int32} {s : Int32} (hP : PG m pg g) (hg : gok g c) (hc : m 71 2 = Int32.ofNat c) (hM : zMk m) (H : zE none d zm_X8_triesOn 0 [.ref 71, .int (Int32.ofNat pg), .int s, .null, .null, .null] [] m r h') : ∃ m1, r = some (.int (gTry1 g c s)) ∧ h' = zhp m1 ∧ PG m1 pg (gTry2 g c s) ∧ ∀ x y, ¬ (x = 72 ∧ pg ≤ y ∧ y < pg + 27) → m1 x y = m x y := by
  have hc5 := hg.1
  replace H := i_bip (x := (-4)) (q := 2) H I_X8_triesOn_0 (by decide) rfl
  replace H := i_isn (q := 3) H I_X8_triesOn_2 rfl rfl
  replace H := i_aln (q := 4) H I_X8_triesOn_3 rfl rfl
  replace H := i_gfi (q := 7) H I_X8_triesOn_4 G_8_131 cn_X8_triesOn LY_71 rfl rfl
  replace H := i_icst (x := 1) (q := 8) H I_X8_triesOn_7 (by decide) rfl
  replace H := i_isub (q := 9) H I_X8_triesOn_8 rfl
  replace H := i_is (q := 11) H I_X8_triesOn_9 rfl rfl
  rw [hc] at H
  replace H := i_w [true, true, true, true, true, false] H
  obtain ⟨b, hW, H⟩ := tr_loop (c := c) (s := s) hP hc5 c d r h' (-4) (Nat.le_refl c) (Or.inl ⟨rfl, fun p h1 h2 => by omega⟩) H
  have eb : b = zwb (gcn g) s c := IsW_u hW (zwb_W (gcn g) s c hc5)
  subst eb
  replace H := tr_73 hP H
  have hP1 : PG (zup m 72 (pg + 17) (gtr (g 17))) pg (gset g 17 (gtr (g 17))) := PG_s hP (by omega)
  have ef : ∀ i, i < c → gcn (gset g 17 (gtr (g 17))) i = gcn g i := fun i hi => gcn_17 (by omega)
  obtain ⟨m1, x1, x2, x3, x4⟩ := tr_105 hP1 (gok_17 hg (gtr_b hg.2.2.1 hg.2.2.2).1 (gtr_b hg.2.2.1 hg.2.2.2).2) (by rw [zup_n (by omega)]; exact hc) (by unfold zMk; rw [zup_n (by omega), zup_n (by omega), zup_n (by omega), zup_n (by omega)]; exact hM) (zwb_r (gcn g) s c hc5) H
  have em := zmn_g c ef
  rcases zwb_r (gcn g) s c hc5 with e | ⟨w, w1, w2⟩
  · rw [if_pos (Or.inl e)] at x1 x3
    refine ⟨m1, by rw [gTry1, if_pos (Or.inl e)]; exact x1, x2, by rw [gTry2, if_pos (Or.inl e)]; exact x3, fun x y hxy => by rw [x4 x y hxy, zup_n (by omega)]⟩
  · have hb : (zwb (gcn g) s c).toNatClampNeg = w := by rw [w2, Int32.toNatClampNeg_ofNat_of_lt (by omega)]
    rw [em, hb, ef w w1, gset_n (show ¬ 16 = 17 by omega), gat_17, gset_n (show ¬ w = 17 by omega)] at x3
    rw [em, hb, ef w w1, gset_n (show ¬ 16 = 17 by omega)] at x1
    refine ⟨m1, by rw [gTry1, hb]; exact x1, x2, ?_, fun x y hxy => by rw [x4 x y hxy, zup_n (by omega)]⟩
    rw [gTry2, hb]
    exact x3
end
section
/-! rests -/
theorem It_X0_calm : zm_X0_calm.2.2.2.2.2 = zt_X0_calm := by
  unfold zm_X0_calm
  rfl
theorem It_X8_restsOn : zm_X8_restsOn.2.2.2.2.2 = zt_X8_restsOn := by
  unfold zm_X8_restsOn
  rfl
theorem I_X0_calm_0 : zin zm_X0_calm.2.2.2.2.2 0 = some (.iconst 0, 1) := by rw [It_X0_calm]; rfl
theorem I_X0_calm_1 : zin zm_X0_calm.2.2.2.2.2 1 = some (.istore_n 1, 1) := by rw [It_X0_calm]; rfl
theorem I_X0_calm_2 : zin zm_X0_calm.2.2.2.2.2 2 = some (.iload_n 1, 1) := by rw [It_X0_calm]; rfl
theorem I_X0_calm_3 : zin zm_X0_calm.2.2.2.2.2 3 = some (.aload_n 0, 1) := by rw [It_X0_calm]; rfl
theorem I_X0_calm_4 : zin zm_X0_calm.2.2.2.2.2 4 = some (.getfield 26, 3) := by rw [It_X0_calm]; rfl
theorem I_X0_calm_7 : zin zm_X0_calm.2.2.2.2.2 7 = some (.if_icmp .ge 18, 3) := by rw [It_X0_calm]; rfl
theorem I_X0_calm_10 : zin zm_X0_calm.2.2.2.2.2 10 = some (.aload_n 0, 1) := by rw [It_X0_calm]; rfl
theorem I_X0_calm_11 : zin zm_X0_calm.2.2.2.2.2 11 = some (.getfield 11, 3) := by rw [It_X0_calm]; rfl
theorem I_X0_calm_14 : zin zm_X0_calm.2.2.2.2.2 14 = some (.iload_n 1, 1) := by rw [It_X0_calm]; rfl
theorem I_X0_calm_15 : zin zm_X0_calm.2.2.2.2.2 15 = some (.aaload, 1) := by rw [It_X0_calm]; rfl
theorem I_X0_calm_16 : zin zm_X0_calm.2.2.2.2.2 16 = some (.invokevirtual 85, 3) := by rw [It_X0_calm]; rfl
theorem I_X0_calm_19 : zin zm_X0_calm.2.2.2.2.2 19 = some (.iinc 1 1, 3) := by rw [It_X0_calm]; rfl
theorem I_X0_calm_22 : zin zm_X0_calm.2.2.2.2.2 22 = some (.goto (-20), 3) := by rw [It_X0_calm]; rfl
theorem I_X0_calm_25 : zin zm_X0_calm.2.2.2.2.2 25 = some (.return_, 1) := by rw [It_X0_calm]; rfl
theorem I_X8_restsOn_0 : zin zm_X8_restsOn.2.2.2.2.2 0 = some (.iconst 5, 1) := by rw [It_X8_restsOn]; rfl
theorem I_X8_restsOn_1 : zin zm_X8_restsOn.2.2.2.2.2 1 = some (.istore_n 2, 1) := by rw [It_X8_restsOn]; rfl
theorem I_X8_restsOn_2 : zin zm_X8_restsOn.2.2.2.2.2 2 = some (.iload_n 2, 1) := by rw [It_X8_restsOn]; rfl
theorem I_X8_restsOn_3 : zin zm_X8_restsOn.2.2.2.2.2 3 = some (.bipush 15, 2) := by rw [It_X8_restsOn]; rfl
theorem I_X8_restsOn_5 : zin zm_X8_restsOn.2.2.2.2.2 5 = some (.if_icmp .ge 36, 3) := by rw [It_X8_restsOn]; rfl
theorem I_X8_restsOn_8 : zin zm_X8_restsOn.2.2.2.2.2 8 = some (.aload_n 0, 1) := by rw [It_X8_restsOn]; rfl
theorem I_X8_restsOn_9 : zin zm_X8_restsOn.2.2.2.2.2 9 = some (.getfield 7, 3) := by rw [It_X8_restsOn]; rfl
theorem I_X8_restsOn_12 : zin zm_X8_restsOn.2.2.2.2.2 12 = some (.iload_n 1, 1) := by rw [It_X8_restsOn]; rfl
theorem I_X8_restsOn_13 : zin zm_X8_restsOn.2.2.2.2.2 13 = some (.iload_n 2, 1) := by rw [It_X8_restsOn]; rfl
theorem I_X8_restsOn_14 : zin zm_X8_restsOn.2.2.2.2.2 14 = some (.iadd, 1) := by rw [It_X8_restsOn]; rfl
theorem I_X8_restsOn_15 : zin zm_X8_restsOn.2.2.2.2.2 15 = some (.dup2, 1) := by rw [It_X8_restsOn]; rfl
theorem I_X8_restsOn_16 : zin zm_X8_restsOn.2.2.2.2.2 16 = some (.iaload, 1) := by rw [It_X8_restsOn]; rfl
theorem I_X8_restsOn_17 : zin zm_X8_restsOn.2.2.2.2.2 17 = some (.aload_n 0, 1) := by rw [It_X8_restsOn]; rfl
theorem I_X8_restsOn_18 : zin zm_X8_restsOn.2.2.2.2.2 18 = some (.getfield 7, 3) := by rw [It_X8_restsOn]; rfl
theorem I_X8_restsOn_21 : zin zm_X8_restsOn.2.2.2.2.2 21 = some (.iload_n 1, 1) := by rw [It_X8_restsOn]; rfl
theorem I_X8_restsOn_22 : zin zm_X8_restsOn.2.2.2.2.2 22 = some (.iload_n 2, 1) := by rw [It_X8_restsOn]; rfl
theorem I_X8_restsOn_23 : zin zm_X8_restsOn.2.2.2.2.2 23 = some (.iadd, 1) := by rw [It_X8_restsOn]; rfl
theorem I_X8_restsOn_24 : zin zm_X8_restsOn.2.2.2.2.2 24 = some (.iaload, 1) := by rw [It_X8_restsOn]; rfl
theorem I_X8_restsOn_25 : zin zm_X8_restsOn.2.2.2.2.2 25 = some (.ifCond .le 7, 3) := by rw [It_X8_restsOn]; rfl
theorem I_X8_restsOn_28 : zin zm_X8_restsOn.2.2.2.2.2 28 = some (.iconst 1, 1) := by rw [It_X8_restsOn]; rfl
theorem I_X8_restsOn_29 : zin zm_X8_restsOn.2.2.2.2.2 29 = some (.goto 4, 3) := by rw [It_X8_restsOn]; rfl
theorem I_X8_restsOn_32 : zin zm_X8_restsOn.2.2.2.2.2 32 = some (.iconst 0, 1) := by rw [It_X8_restsOn]; rfl
theorem I_X8_restsOn_33 : zin zm_X8_restsOn.2.2.2.2.2 33 = some (.isub, 1) := by rw [It_X8_restsOn]; rfl
theorem I_X8_restsOn_34 : zin zm_X8_restsOn.2.2.2.2.2 34 = some (.iastore, 1) := by rw [It_X8_restsOn]; rfl
theorem I_X8_restsOn_35 : zin zm_X8_restsOn.2.2.2.2.2 35 = some (.iinc 2 1, 3) := by rw [It_X8_restsOn]; rfl
theorem I_X8_restsOn_38 : zin zm_X8_restsOn.2.2.2.2.2 38 = some (.goto (-36), 3) := by rw [It_X8_restsOn]; rfl
theorem I_X8_restsOn_41 : zin zm_X8_restsOn.2.2.2.2.2 41 = some (.return_, 1) := by rw [It_X8_restsOn]; rfl
theorem K_0_85 : zlk zmls 0 85 = some (0, 24, 0, 583) := rfl
theorem Zm_24 : zms[24]? = some zm_X1_calm := rfl
theorem cl_X0_calm : zm_X0_calm.2.2.2.2.1 = 0 := by
  unfold zm_X0_calm
  rfl
theorem cn_X0_calm : zm_X0_calm.2.2.2.2.1 ≠ 12 := by
  rw [cl_X0_calm]
  decide
theorem cn2_X0_calm : zm_X0_calm.2.2.2.2.1 ≠ 2 := by
  rw [cl_X0_calm]
  decide
theorem cl_X8_restsOn : zm_X8_restsOn.2.2.2.2.1 = 8 := by
  unfold zm_X8_restsOn
  rfl
theorem cn_X8_restsOn : zm_X8_restsOn.2.2.2.2.1 ≠ 12 := by
  rw [cl_X8_restsOn]
  decide
theorem cn2_X8_restsOn : zm_X8_restsOn.2.2.2.2.1 ≠ 2 := by
  rw [cl_X8_restsOn]
  decide
def gdc (x : Int32) : Int32 := if 0 < x then x - 1 else x
/-- a rest, up to place lo -/
def gRr (lo : Nat) (g : Nat → Int32) : Nat → Int32 := fun j => if 5 ≤ j ∧ j < lo then gdc (g j) else g j
def gRest (g : Nat → Int32) : Nat → Int32 := gRr 15 g
theorem gdc_d : ∀ a, a < 100 → zmax 0 (Int32.ofNat a - 1) = gdc (Int32.ofNat a) ∧ 0 ≤ (gdc (Int32.ofNat a)).toInt ∧ (gdc (Int32.ofNat a)).toInt ≤ 99 := by decide +kernel
theorem z_99 {x : Int32} (h0 : 0 ≤ x.toInt) (h1 : x.toInt ≤ 99) : ∃ a, a < 100 ∧ x = Int32.ofNat a := ⟨x.toInt.toNat, by omega, by
    apply Int32.toInt_inj.mp
    rw [zofn_t (by omega)]
    omega⟩
theorem gdc_c {x : Int32} (h0 : 0 ≤ x.toInt) (h1 : x.toInt ≤ 99) : zmax 0 (x - 1) = gdc x := by
  obtain ⟨a, a1, rfl⟩ := z_99 h0 h1
  exact (gdc_d a a1).1
theorem gdc_b {x : Int32} (h0 : 0 ≤ x.toInt) (h1 : x.toInt ≤ 99) : 0 ≤ (gdc x).toInt ∧ (gdc x).toInt ≤ 99 := by
  obtain ⟨a, a1, rfl⟩ := z_99 h0 h1
  exact (gdc_d a a1).2
theorem gRest_k {g : Nat → Int32} {j : Nat} (h : ¬ (5 ≤ j ∧ j < 15)) : gRest g j = g j := by
  unfold gRest gRr
  rw [if_neg h]
theorem gRest_y {g : Nat → Int32} {j : Nat} (h : 5 ≤ j ∧ j < 15) : gRest g j = gdc (g j) := by
  unfold gRest gRr
  rw [if_pos h]
theorem gok_r {g : Nat → Int32} {c : Nat} (h : gok g c) : gok (gRest g) c := by
  obtain ⟨a, b, d, e⟩ := h
  refine ⟨a, fun i hi => ?_, by rw [gRest_k (by omega)]; exact d, by rw [gRest_k (by omega)]; exact e⟩
  obtain ⟨x, y, z⟩ := b i hi
  rw [gRest_k (show ¬ (5 ≤ i ∧ i < 15) by omega), gRest_y (show 5 ≤ 5 + i ∧ 5 + i < 15 by omega), gRest_y (show 5 ≤ 10 + i ∧ 10 + i < 15 by omega)]
  exact ⟨x, gdc_b y.1 y.2, gdc_b z.1 z.2⟩
theorem ca_loop {k c : Nat} (hk : zlk6 k) (hc5 : c ≤ 5) : ∀ (j i d : Nat) (r : Option Value) (h' : zHp) (m : zM), i + j = c → m k 2 = Int32.ofNat c → zE none d zm_X0_calm 2 [.ref k, .int (Int32.ofNat i)] [] m r h' → ∃ m1, r = none ∧ h' = zhp m1 ∧ (∀ i', i ≤ i' → i' < c → m1 (k + 3 + i') 1 = zmax 0 (m (k + 3 + i') 1 - 1) ∧ m1 (k + 3 + i') 2 = zmax 0 (m (k + 3 + i') 2 - 1)) ∧ ∀ a b, ¬ ((b = 1 ∨ b = 2) ∧ k + 3 + i ≤ a ∧ a < k + 3 + c) → m1 a b = m a b := by
  intro j
  induction j with
  | zero =>
    intro i d r h' m hj hc H
    replace H := i_iln (q := 3) H I_X0_calm_2 rfl rfl
    replace H := i_aln (q := 4) H I_X0_calm_3 rfl rfl
    replace H := i_gfi (q := 7) H I_X0_calm_4 G_0_26 cn_X0_calm (lk_0 hk) rfl rfl
    have W := i_ic_ge (t := 25) (q := 10) H I_X0_calm_7 (by decide) rfl
    clear H
    rcases W with ⟨c_7, H⟩ | ⟨c_7, H⟩
    · skip
      obtain ⟨hr, hh⟩ := i_rt H I_X0_calm_25
      exact ⟨m, hr, hh, fun i' h1 h2 => by omega, fun a b _ => rfl⟩
    · skip
      replace H := i_aln (q := 11) H I_X0_calm_10 rfl rfl
      replace H := i_gfr (q := 14) H I_X0_calm_11 G_0_11 cn_X0_calm (lk_0 hk) rfl rfl
      replace H := i_iln (q := 15) H I_X0_calm_14 rfl rfl
      have W := i_folk (k := k) hk (q := 16) H I_X0_calm_15 rfl
      clear H
      obtain ⟨i_15, bi_15, ei_15, H⟩ := W
      have W := i_cv0 0 (q := 19) H I_X0_calm_16 K_0_85 Zm_24 rfl rfl
      clear H
      obtain ⟨r1, h1, Hc, K1, K2⟩ := W
      obtain ⟨e1, e2⟩ := t_X1_calm (lk_p hk bi_15) Hc
      have H := K2 _ e1 e2
      clear e1 e2 Hc K1 K2
      replace H := i_inc (q := 22) H I_X0_calm_19 rfl rfl rfl
      replace H := i_goto (q := 2) H I_X0_calm_22 (by decide)
      exfalso
      rw [hc] at c_7
      exact absurd ((zofn_lt (by omega) (by omega)).mp c_7) (by omega)
  | succ j ih =>
    intro i d r h' m hj hc H
    replace H := i_iln (q := 3) H I_X0_calm_2 rfl rfl
    replace H := i_aln (q := 4) H I_X0_calm_3 rfl rfl
    replace H := i_gfi (q := 7) H I_X0_calm_4 G_0_26 cn_X0_calm (lk_0 hk) rfl rfl
    have W := i_ic_ge (t := 25) (q := 10) H I_X0_calm_7 (by decide) rfl
    clear H
    rcases W with ⟨c_7, H⟩ | ⟨c_7, H⟩
    · skip
      obtain ⟨hr, hh⟩ := i_rt H I_X0_calm_25
      exfalso
      rw [hc] at c_7
      exact c_7 ((zofn_lt (by omega) (by omega)).mpr (by omega))
    · skip
      replace H := i_aln (q := 11) H I_X0_calm_10 rfl rfl
      replace H := i_gfr (q := 14) H I_X0_calm_11 G_0_11 cn_X0_calm (lk_0 hk) rfl rfl
      replace H := i_iln (q := 15) H I_X0_calm_14 rfl rfl
      have W := i_folk (k := k) hk (q := 16) H I_X0_calm_15 rfl
      clear H
      obtain ⟨i_15, bi_15, ei_15, H⟩ := W
      have W := i_cv0 0 (q := 19) H I_X0_calm_16 K_0_85 Zm_24 rfl rfl
      clear H
      obtain ⟨r1, h1, Hc, K1, K2⟩ := W
      obtain ⟨e1, e2⟩ := t_X1_calm (lk_p hk bi_15) Hc
      have H := K2 _ e1 e2
      clear e1 e2 Hc K1 K2
      replace H := i_inc (q := 22) H I_X0_calm_19 rfl rfl rfl
      replace H := i_goto (q := 2) H I_X0_calm_22 (by decide)
      have e : i = i_15 := zofn ei_15 (by omega) (by omega)
      subst e
      replace H : zE none d zm_X0_calm 2 [.ref k, .int (Int32.ofNat (i + 1))] [] (zup (zup m (k + 3 + i) 1 (zmax 0 (m (k + 3 + i) 1 - 1))) (k + 3 + i) 2 (zmax 0 (m (k + 3 + i) 2 - 1))) r h' := by
        rw [zofn_s] at H
        exact H
      obtain ⟨m1, g1, g2, g3, g4⟩ := ih (i + 1) d r h' _ (by omega) (by rw [zup_n (by omega), zup_n (by omega)]; exact hc) H
      refine ⟨m1, g1, g2, fun i' h1 h2 => ?_, fun a b hab => ?_⟩
      · by_cases hi' : i' = i
        · subst hi'
          rw [g4 _ 1 (by omega), g4 _ 2 (by omega), zup_n (by omega), zup_s, zup_s]
          exact ⟨rfl, rfl⟩
        · have := g3 i' (by omega) h2
          rw [zup_n (by omega), zup_n (by omega), zup_n (by omega), zup_n (by omega)] at this
          exact this
      · rw [g4 a b (by omega), zup_n (by omega), zup_n (by omega)]
theorem t_X0_calm {d : Nat} {m : zM} {r : Option Value} {h' : zHp} {k c : Nat} {g : Nat → Int32} (hk : zlk6 k) (hL : LV m k c g) (hg : gok g c) (H : zE none d zm_X0_calm 0 [.ref k, .null] [] m r h') : ∃ m1, r = none ∧ h' = zhp m1 ∧ LV m1 k c (gRest g) ∧ ∀ a b, ¬ (k ≤ a ∧ a ≤ k + 7) → m1 a b = m a b := by
  obtain ⟨q1, q2, q3, q4, q5, a, a1, a2, a3, a4⟩ := id hL
  replace H := i_icst (x := 0) (q := 1) H I_X0_calm_0 (by decide) rfl
  replace H := i_isn (q := 2) H I_X0_calm_1 rfl rfl
  obtain ⟨m1, g1, g2, g3, g4⟩ := ca_loop hk q2 c 0 d r h' m (by omega) q1 H
  refine ⟨m1, g1, g2, ⟨?_, q2, fun i hi => ?_, ?_, ?_, a, a1, ?_, ?_, fun i hi => ?_⟩, fun x y hxy => g4 x y (by omega)⟩
  · rw [g4 _ _ (by omega)]; exact q1
  · obtain ⟨x, y, z, w⟩ := q3 i hi
    obtain ⟨u1, u2, u3⟩ := hg.2.1 i hi
    have hi5 : i < 5 := by omega
    refine ⟨?_, ?_, ?_, ?_⟩
    · rw [g4 _ _ (by omega), gRest_k (by omega)]; exact x
    · rw [(g3 i (by omega) hi).1, gRest_y (by omega), y, gdc_c u2.1 u2.2]
    · rw [(g3 i (by omega) hi).2, gRest_y (by omega), z, gdc_c u3.1 u3.2]
    · rw [g4 _ _ (by omega), gRest_k (by omega)]; exact w
  · rw [g4 _ _ (by omega), gRest_k (by omega)]; exact q4
  · rw [g4 _ _ (by omega), gRest_k (by omega)]; exact q5
  · rw [gRest_k (by omega)]; exact a2
  · rw [g4 _ _ (by omega)]; exact a3
  · rw [g4 _ _ (by omega), gRest_k (by omega)]; exact a4 i hi
theorem rs_loop {pg : Nat} {g : Nat → Int32} : ∀ (j k d : Nat) (r : Option Value) (h' : zHp) (m : zM), k + j = 15 → 5 ≤ k → PG m pg (gRr k g) → zE none d zm_X8_restsOn 2 [.ref 71, .int (Int32.ofNat pg), .int (Int32.ofNat k)] [] m r h' → ∃ m1, r = none ∧ h' = zhp m1 ∧ PG m1 pg (gRest g) ∧ ∀ x y, ¬ (x = 72 ∧ pg ≤ y ∧ y < pg + 27) → m1 x y = m x y := by
  intro j
  induction j with
  | zero =>
    intro k d r h' m hj h5 hP H
    replace H := i_iln (q := 3) H I_X8_restsOn_2 rfl rfl
    replace H := i_bip (x := 15) (q := 5) H I_X8_restsOn_3 (by decide) rfl
    have W := i_ic_ge (t := 41) (q := 8) H I_X8_restsOn_5 (by decide) rfl
    clear H
    rcases W with ⟨c_5, H⟩ | ⟨c_5, H⟩
    · skip
      obtain ⟨hr, hh⟩ := i_rt H I_X8_restsOn_41
      have e : k = 15 := by omega
      subst e
      exact ⟨m, hr, hh, hP, fun _ _ _ => rfl⟩
    · skip
      replace H := i_aln (q := 9) H I_X8_restsOn_8 rfl rfl
      replace H := i_gfr (q := 12) H I_X8_restsOn_9 G_8_7 cn_X8_restsOn LY_71 rfl rfl
      replace H := i_iln (q := 13) H I_X8_restsOn_12 rfl rfl
      replace H := i_iln (q := 14) H I_X8_restsOn_13 rfl rfl
      replace H := i_iadd (q := 15) H I_X8_restsOn_14 rfl
      replace H := i_dup2 (q := 16) H I_X8_restsOn_15 rfl rfl rfl
      have W := i_ia (q := 17) H I_X8_restsOn_16 LY_72 rfl
      clear H
      obtain ⟨i_16, bi_16, ei_16, H⟩ := W
      replace H := i_aln (q := 18) H I_X8_restsOn_17 rfl rfl
      replace H := i_gfr (q := 21) H I_X8_restsOn_18 G_8_7 cn_X8_restsOn LY_71 rfl rfl
      replace H := i_iln (q := 22) H I_X8_restsOn_21 rfl rfl
      replace H := i_iln (q := 23) H I_X8_restsOn_22 rfl rfl
      replace H := i_iadd (q := 24) H I_X8_restsOn_23 rfl
      have W := i_ia (q := 25) H I_X8_restsOn_24 LY_72 rfl
      clear H
      obtain ⟨i_24, bi_24, ei_24, H⟩ := W
      have W := i_if_le (t := 32) (q := 28) H I_X8_restsOn_25 (by decide) rfl
      clear H
      rcases W with ⟨c_25, H⟩ | ⟨c_25, H⟩
      · skip
        replace H := i_icst (x := 0) (q := 33) H I_X8_restsOn_32 (by decide) rfl
        replace H := i_isub (q := 34) H I_X8_restsOn_33 rfl
        have W := i_iast (q := 35) H I_X8_restsOn_34 LY_72 rfl
        clear H
        obtain ⟨i_34, bi_34, ei_34, H⟩ := W
        replace H := i_inc (q := 38) H I_X8_restsOn_35 rfl rfl rfl
        replace H := i_goto (q := 2) H I_X8_restsOn_38 (by decide)
        exfalso
        exact absurd ((zofn_lt (j := 15) (by omega) (by decide)).mp c_5) (by omega)
      · skip
        replace H := i_icst (x := 1) (q := 29) H I_X8_restsOn_28 (by decide) rfl
        replace H := i_goto (q := 33) H I_X8_restsOn_29 (by decide)
        replace H := i_isub (q := 34) H I_X8_restsOn_33 rfl
        have W := i_iast (q := 35) H I_X8_restsOn_34 LY_72 rfl
        clear H
        obtain ⟨i_34, bi_34, ei_34, H⟩ := W
        replace H := i_inc (q := 38) H I_X8_restsOn_35 rfl rfl rfl
        replace H := i_goto (q := 2) H I_X8_restsOn_38 (by decide)
        exfalso
        exact absurd ((zofn_lt (j := 15) (by omega) (by decide)).mp c_5) (by omega)
  | succ j ih =>
    intro k d r h' m hj h5 hP H
    replace H := i_iln (q := 3) H I_X8_restsOn_2 rfl rfl
    replace H := i_bip (x := 15) (q := 5) H I_X8_restsOn_3 (by decide) rfl
    have W := i_ic_ge (t := 41) (q := 8) H I_X8_restsOn_5 (by decide) rfl
    clear H
    rcases W with ⟨c_5, H⟩ | ⟨c_5, H⟩
    · skip
      obtain ⟨hr, hh⟩ := i_rt H I_X8_restsOn_41
      exfalso
      exact c_5 ((zofn_lt (j := 15) (by omega) (by decide)).mpr (by omega))
    · skip
      replace H := i_aln (q := 9) H I_X8_restsOn_8 rfl rfl
      replace H := i_gfr (q := 12) H I_X8_restsOn_9 G_8_7 cn_X8_restsOn LY_71 rfl rfl
      replace H := i_iln (q := 13) H I_X8_restsOn_12 rfl rfl
      replace H := i_iln (q := 14) H I_X8_restsOn_13 rfl rfl
      replace H := i_iadd (q := 15) H I_X8_restsOn_14 rfl
      replace H := i_dup2 (q := 16) H I_X8_restsOn_15 rfl rfl rfl
      have W := i_ia (q := 17) H I_X8_restsOn_16 LY_72 rfl
      clear H
      obtain ⟨i_16, bi_16, ei_16, H⟩ := W
      replace H := i_aln (q := 18) H I_X8_restsOn_17 rfl rfl
      replace H := i_gfr (q := 21) H I_X8_restsOn_18 G_8_7 cn_X8_restsOn LY_71 rfl rfl
      replace H := i_iln (q := 22) H I_X8_restsOn_21 rfl rfl
      replace H := i_iln (q := 23) H I_X8_restsOn_22 rfl rfl
      replace H := i_iadd (q := 24) H I_X8_restsOn_23 rfl
      have W := i_ia (q := 25) H I_X8_restsOn_24 LY_72 rfl
      clear H
      obtain ⟨i_24, bi_24, ei_24, H⟩ := W
      have W := i_if_le (t := 32) (q := 28) H I_X8_restsOn_25 (by decide) rfl
      clear H
      rcases W with ⟨c_25, H⟩ | ⟨c_25, H⟩
      · skip
        replace H := i_icst (x := 0) (q := 33) H I_X8_restsOn_32 (by decide) rfl
        replace H := i_isub (q := 34) H I_X8_restsOn_33 rfl
        have W := i_iast (q := 35) H I_X8_restsOn_34 LY_72 rfl
        clear H
        obtain ⟨i_34, bi_34, ei_34, H⟩ := W
        replace H := i_inc (q := 38) H I_X8_restsOn_35 rfl rfl rfl
        replace H := i_goto (q := 2) H I_X8_restsOn_38 (by decide)
        have j1 : i_16 = pg + k := zix3 rfl rfl ei_16 (by have := hP.1; omega) (by omega)
        subst j1
        have j2 : i_24 = pg + k := zix3 rfl rfl ei_24 (by have := hP.1; omega) (by omega)
        subst j2
        have j3 : i_34 = pg + k := zix3 rfl rfl ei_34 (by have := hP.1; omega) (by omega)
        subst j3
        have ev : gRr k g k = g k := by unfold gRr; rw [if_neg (by omega)]
        rw [hP.2 k (by omega), ev] at c_25 H
        replace H : zE none d zm_X8_restsOn 2 [.ref 71, .int (Int32.ofNat pg), .int (Int32.ofNat (k + 1))] [] (zup m 72 (pg + k) (gdc (g k))) r h' := by
          rw [show gdc (g k) = g k - 0 by unfold gdc; rw [if_neg c_25]; rw [Int32.sub_zero], ← zofn_s]
          exact H
        have hP1 : PG (zup m 72 (pg + k) (gdc (g k))) pg (gRr (k + 1) g) := by
          refine ⟨hP.1, fun i hi => ?_⟩
          by_cases e : i = k
          · subst e
            rw [zup_s]
            unfold gRr
            rw [if_pos (by omega)]
          · rw [zup_n (by omega), hP.2 i hi]
            unfold gRr
            by_cases h1 : 5 ≤ i ∧ i < k
            · rw [if_pos h1, if_pos (by omega)]
            · rw [if_neg h1, if_neg (by omega)]
        obtain ⟨m1, g1, g2, g3, g4⟩ := ih (k + 1) d r h' _ (by omega) (by omega) hP1 H
        exact ⟨m1, g1, g2, g3, fun x y hxy => by rw [g4 x y hxy, zup_n (by omega)]⟩
      · skip
        replace H := i_icst (x := 1) (q := 29) H I_X8_restsOn_28 (by decide) rfl
        replace H := i_goto (q := 33) H I_X8_restsOn_29 (by decide)
        replace H := i_isub (q := 34) H I_X8_restsOn_33 rfl
        have W := i_iast (q := 35) H I_X8_restsOn_34 LY_72 rfl
        clear H
        obtain ⟨i_34, bi_34, ei_34, H⟩ := W
        replace H := i_inc (q := 38) H I_X8_restsOn_35 rfl rfl rfl
        replace H := i_goto (q := 2) H I_X8_restsOn_38 (by decide)
        have j1 : i_16 = pg + k := zix3 rfl rfl ei_16 (by have := hP.1; omega) (by omega)
        subst j1
        have j2 : i_24 = pg + k := zix3 rfl rfl ei_24 (by have := hP.1; omega) (by omega)
        subst j2
        have j3 : i_34 = pg + k := zix3 rfl rfl ei_34 (by have := hP.1; omega) (by omega)
        subst j3
        have ev : gRr k g k = g k := by unfold gRr; rw [if_neg (by omega)]
        rw [hP.2 k (by omega), ev] at c_25 H
        replace H : zE none d zm_X8_restsOn 2 [.ref 71, .int (Int32.ofNat pg), .int (Int32.ofNat (k + 1))] [] (zup m 72 (pg + k) (gdc (g k))) r h' := by
          rw [show gdc (g k) = g k - 1 by unfold gdc; rw [if_pos c_25], ← zofn_s]
          exact H
        have hP1 : PG (zup m 72 (pg + k) (gdc (g k))) pg (gRr (k + 1) g) := by
          refine ⟨hP.1, fun i hi => ?_⟩
          by_cases e : i = k
          · subst e
            rw [zup_s]
            unfold gRr
            rw [if_pos (by omega)]
          · rw [zup_n (by omega), hP.2 i hi]
            unfold gRr
            by_cases h1 : 5 ≤ i ∧ i < k
            · rw [if_pos h1, if_pos (by omega)]
            · rw [if_neg h1, if_neg (by omega)]
        obtain ⟨m1, g1, g2, g3, g4⟩ := ih (k + 1) d r h' _ (by omega) (by omega) hP1 H
        exact ⟨m1, g1, g2, g3, fun x y hxy => by rw [g4 x y hxy, zup_n (by omega)]⟩
theorem t_X8_restsOn {d : Nat} {m : zM} {r : Option Value} {h' : zHp} {pg : Nat} {g : Nat → Int32} (hP : PG m pg g) (H : zE none d zm_X8_restsOn 0 [.ref 71, .int (Int32.ofNat pg), .null] [] m r h') : ∃ m1, r = none ∧ h' = zhp m1 ∧ PG m1 pg (gRest g) ∧ ∀ x y, ¬ (x = 72 ∧ pg ≤ y ∧ y < pg + 27) → m1 x y = m x y := by
  have e5 : gRr 5 g = g := by
    funext j
    unfold gRr
    rw [if_neg (by omega)]
  replace H := i_icst (x := 5) (q := 1) H I_X8_restsOn_0 (by decide) rfl
  replace H := i_isn (q := 2) H I_X8_restsOn_1 rfl rfl
  exact rs_loop 10 5 d r h' m rfl (Nat.le_refl 5) (by rw [e5]; exact hP) H
end
