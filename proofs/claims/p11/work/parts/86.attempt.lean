/-! a try -/
theorem It_X0_attempt : zm_X0_attempt.2.2.2.2.2 = zt_X0_attempt := by
  unfold zm_X0_attempt
  rfl
theorem I_X0_attempt_0 : zin zm_X0_attempt.2.2.2.2.2 0 = some (.aload_n 0, 1) := by rw [It_X0_attempt]; rfl
theorem I_X0_attempt_1 : zin zm_X0_attempt.2.2.2.2.2 1 = some (.sipush 999, 3) := by rw [It_X0_attempt]; rfl
theorem I_X0_attempt_4 : zin zm_X0_attempt.2.2.2.2.2 4 = some (.aload_n 0, 1) := by rw [It_X0_attempt]; rfl
theorem I_X0_attempt_5 : zin zm_X0_attempt.2.2.2.2.2 5 = some (.getfield 32, 3) := by rw [It_X0_attempt]; rfl
theorem I_X0_attempt_8 : zin zm_X0_attempt.2.2.2.2.2 8 = some (.iconst 1, 1) := by rw [It_X0_attempt]; rfl
theorem I_X0_attempt_9 : zin zm_X0_attempt.2.2.2.2.2 9 = some (.iadd, 1) := by rw [It_X0_attempt]; rfl
theorem I_X0_attempt_10 : zin zm_X0_attempt.2.2.2.2.2 10 = some (.invokestatic 59, 3) := by rw [It_X0_attempt]; rfl
theorem I_X0_attempt_13 : zin zm_X0_attempt.2.2.2.2.2 13 = some (.putfield 32, 3) := by rw [It_X0_attempt]; rfl
theorem I_X0_attempt_16 : zin zm_X0_attempt.2.2.2.2.2 16 = some (.aload_n 0, 1) := by rw [It_X0_attempt]; rfl
theorem I_X0_attempt_17 : zin zm_X0_attempt.2.2.2.2.2 17 = some (.iload_n 1, 1) := by rw [It_X0_attempt]; rfl
theorem I_X0_attempt_18 : zin zm_X0_attempt.2.2.2.2.2 18 = some (.invokevirtual 78, 3) := by rw [It_X0_attempt]; rfl
theorem I_X0_attempt_21 : zin zm_X0_attempt.2.2.2.2.2 21 = some (.istore_n 2, 1) := by rw [It_X0_attempt]; rfl
theorem I_X0_attempt_22 : zin zm_X0_attempt.2.2.2.2.2 22 = some (.iload_n 2, 1) := by rw [It_X0_attempt]; rfl
theorem I_X0_attempt_23 : zin zm_X0_attempt.2.2.2.2.2 23 = some (.bipush (-4), 2) := by rw [It_X0_attempt]; rfl
theorem I_X0_attempt_25 : zin zm_X0_attempt.2.2.2.2.2 25 = some (.if_icmp .eq 24, 3) := by rw [It_X0_attempt]; rfl
theorem I_X0_attempt_28 : zin zm_X0_attempt.2.2.2.2.2 28 = some (.aload_n 0, 1) := by rw [It_X0_attempt]; rfl
theorem I_X0_attempt_29 : zin zm_X0_attempt.2.2.2.2.2 29 = some (.getfield 11, 3) := by rw [It_X0_attempt]; rfl
theorem I_X0_attempt_32 : zin zm_X0_attempt.2.2.2.2.2 32 = some (.iload_n 2, 1) := by rw [It_X0_attempt]; rfl
theorem I_X0_attempt_33 : zin zm_X0_attempt.2.2.2.2.2 33 = some (.aaload, 1) := by rw [It_X0_attempt]; rfl
theorem I_X0_attempt_34 : zin zm_X0_attempt.2.2.2.2.2 34 = some (.invokevirtual 51, 3) := by rw [It_X0_attempt]; rfl
theorem I_X0_attempt_37 : zin zm_X0_attempt.2.2.2.2.2 37 = some (.aload_n 0, 1) := by rw [It_X0_attempt]; rfl
theorem I_X0_attempt_38 : zin zm_X0_attempt.2.2.2.2.2 38 = some (.invokevirtual 75, 3) := by rw [It_X0_attempt]; rfl
theorem I_X0_attempt_41 : zin zm_X0_attempt.2.2.2.2.2 41 = some (.aload_n 0, 1) := by rw [It_X0_attempt]; rfl
theorem I_X0_attempt_42 : zin zm_X0_attempt.2.2.2.2.2 42 = some (.getfield 21, 3) := by rw [It_X0_attempt]; rfl
theorem I_X0_attempt_45 : zin zm_X0_attempt.2.2.2.2.2 45 = some (.iadd, 1) := by rw [It_X0_attempt]; rfl
theorem I_X0_attempt_46 : zin zm_X0_attempt.2.2.2.2.2 46 = some (.if_icmp .le 6, 3) := by rw [It_X0_attempt]; rfl
theorem I_X0_attempt_49 : zin zm_X0_attempt.2.2.2.2.2 49 = some (.bipush (-4), 2) := by rw [It_X0_attempt]; rfl
theorem I_X0_attempt_51 : zin zm_X0_attempt.2.2.2.2.2 51 = some (.ireturn, 1) := by rw [It_X0_attempt]; rfl
theorem I_X0_attempt_52 : zin zm_X0_attempt.2.2.2.2.2 52 = some (.aload_n 0, 1) := by rw [It_X0_attempt]; rfl
theorem I_X0_attempt_53 : zin zm_X0_attempt.2.2.2.2.2 53 = some (.getfield 11, 3) := by rw [It_X0_attempt]; rfl
theorem I_X0_attempt_56 : zin zm_X0_attempt.2.2.2.2.2 56 = some (.iload_n 2, 1) := by rw [It_X0_attempt]; rfl
theorem I_X0_attempt_57 : zin zm_X0_attempt.2.2.2.2.2 57 = some (.aaload, 1) := by rw [It_X0_attempt]; rfl
theorem I_X0_attempt_58 : zin zm_X0_attempt.2.2.2.2.2 58 = some (.invokevirtual 82, 3) := by rw [It_X0_attempt]; rfl
theorem I_X0_attempt_61 : zin zm_X0_attempt.2.2.2.2.2 61 = some (.iload_n 2, 1) := by rw [It_X0_attempt]; rfl
theorem I_X0_attempt_62 : zin zm_X0_attempt.2.2.2.2.2 62 = some (.ireturn, 1) := by rw [It_X0_attempt]; rfl
theorem K_0_75 : zlk zmls 0 75 = some (0, 10, 0, 510) := rfl
theorem K_0_78 : zlk zmls 0 78 = some (0, 9, 1, 560) := rfl
theorem K_0_82 : zlk zmls 0 82 = some (0, 23, 0, 564) := rfl
theorem Zm_9 : zms[9]? = some zm_X0_leastOf := rfl
theorem Zm_10 : zms[10]? = some zm_X0_least := rfl
theorem Zm_23 : zms[23]? = some zm_X1_enter := rfl
theorem cl_X0_attempt : zm_X0_attempt.2.2.2.2.1 = 0 := by
  unfold zm_X0_attempt
  rfl
theorem cn_X0_attempt : zm_X0_attempt.2.2.2.2.1 ≠ 12 := by
  rw [cl_X0_attempt]
  decide
theorem cn2_X0_attempt : zm_X0_attempt.2.2.2.2.1 ≠ 2 := by
  rw [cl_X0_attempt]
  decide
def gcn (g : Nat → Int32) (i : Nat) : Int32 := if zbt (g 15) i = 1 then g (10 + i) else g (5 + i)
def gat (g : Nat → Int32) (i : Nat) : Nat := if zbt (g 15) i = 1 then 10 + i else 5 + i
def gtr (x : Int32) : Int32 := if x < 999 then x + 1 else x
def zcap (v : Int32) : Int32 := if 99 < v then 99 else v
/-- nobody is let in: none of these, or too far above the least -/
def gno (g : Nat → Int32) (c : Nat) (s : Int32) : Prop := zwb (gcn g) s c = -4 ∨ zmn (gcn g) c + (g 16 + 1) < gcn g (zwb (gcn g) s c).toNatClampNeg
def gTry1 (g : Nat → Int32) (c : Nat) (s : Int32) : Int32 := if zwb (gcn g) s c = -4 ∨ zmn (gcn g) c + (g 16 + 1) < gcn g (zwb (gcn g) s c).toNatClampNeg then -4 else zwb (gcn g) s c
def gTry2 (g : Nat → Int32) (c : Nat) (s : Int32) : Nat → Int32 := if zwb (gcn g) s c = -4 ∨ zmn (gcn g) c + (g 16 + 1) < gcn g (zwb (gcn g) s c).toNatClampNeg then gset g 17 (gtr (g 17)) else gset (gset g 17 (gtr (g 17))) (gat g (zwb (gcn g) s c).toNatClampNeg) (zcap (gcn g (zwb (gcn g) s c).toNatClampNeg + zmrk (g (zwb (gcn g) s c).toNatClampNeg)))
/-- a page as it may be -/
def gok (g : Nat → Int32) (c : Nat) : Prop := c ≤ 5 ∧ (∀ i, i < c → (0 ≤ (g i).toInt ∧ (g i).toInt ≤ 3) ∧ (0 ≤ (g (5 + i)).toInt ∧ (g (5 + i)).toInt ≤ 99) ∧ (0 ≤ (g (10 + i)).toInt ∧ (g (10 + i)).toInt ≤ 99)) ∧ 0 ≤ (g 17).toInt ∧ (g 17).toInt ≤ 999
theorem zwb_r (f : Nat → Int32) (s : Int32) : ∀ n, n ≤ 5 → zwb f s n = -4 ∨ ∃ w, w < n ∧ zwb f s n = Int32.ofNat w
  | 0, _ => Or.inl rfl
  | n + 1, hn => by
    rw [zwb]
    have ih := zwb_r f s n (by omega)
    have up : zwb f s n = -4 ∨ ∃ w, w < n + 1 ∧ zwb f s n = Int32.ofNat w := by
      rcases ih with h | ⟨w, w1, w2⟩
      · exact Or.inl h
      · exact Or.inr ⟨w, by omega, w2⟩
    split
    · exact up
    · split
      · exact Or.inr ⟨n, by omega, rfl⟩
      · split
        · exact Or.inr ⟨n, by omega, rfl⟩
        · exact up
theorem zwb_g {f u : Nat → Int32} {s : Int32} : ∀ n, n ≤ 5 → (∀ i, i < n → f i = u i) → zwb f s n = zwb u s n
  | 0, _, _ => rfl
  | n + 1, hn, h => by
    have ih := zwb_g (f := f) (u := u) (s := s) n (by omega) (fun i hi => h i (by omega))
    rw [zwb, zwb, ih, h n (by omega)]
    by_cases h4 : zwb u s n = -4
    · rw [if_pos h4, if_pos h4]
    · rcases zwb_r u s n (by omega) with e | ⟨w, w1, w2⟩
      · exact absurd e h4
      · rw [w2, Int32.toNatClampNeg_ofNat_of_lt (by omega), h w (by omega)]
theorem zmn_g {f u : Nat → Int32} : ∀ n, (∀ i, i < n → f i = u i) → zmn f n = zmn u n
  | 0, _ => rfl
  | n + 1, h => by
    rw [zmn, zmn, zmn_g n (fun i hi => h i (by omega)), h n (by omega), h 0 (by omega)]
theorem LV_c {m : zM} {k c : Nat} {g : Nat → Int32} (h : LV m k c g) {i : Nat} (hi : i < c) : zcf m k i = gcn g i := by
  obtain ⟨x, y, z, w⟩ := h.2.2.1 i hi
  show zcnt m (k + 3 + i) = gcn g i
  unfold zcnt gcn
  rw [w, y, z]
  rfl
theorem zmin_cap {v : Int32} : zmin 99 v = zcap v := by
  unfold zmin zcap
  have e1 : v < 99 ↔ v.toInt < 99 := Int32.lt_iff_toInt_lt
  have e2 : (99 : Int32) < v ↔ 99 < v.toInt := Int32.lt_iff_toInt_lt
  by_cases h1 : v < 99
  · rw [if_pos h1, if_neg (fun w => by have := e1.mp h1; have := e2.mp w; omega)]
  · rw [if_neg h1]
    by_cases h2 : (99 : Int32) < v
    · rw [if_pos h2]
    · rw [if_neg h2]
      apply Int32.toInt_inj.mp
      have := mt e1.mpr h1
      have := mt e2.mpr h2
      have e3 : (99 : Int32).toInt = 99 := rfl
      omega
theorem gtr_c {x : Int32} (h0 : 0 ≤ x.toInt) (h1 : x.toInt ≤ 999) : (if x + 1 < (999 : Int32) then x + 1 else 999) = gtr x := by
  obtain ⟨a, a1, rfl⟩ : ∃ a, a ≤ 999 ∧ x = Int32.ofNat a := ⟨x.toInt.toNat, by omega, by
    apply Int32.toInt_inj.mp
    rw [zofn_t (by omega)]
    omega⟩
  unfold gtr
  rw [zofn_1]
  have e1 : Int32.ofNat (a + 1) < (999 : Int32) ↔ a + 1 < 999 := zofn_lt (j := 999) (by omega) (by decide)
  have e2 : Int32.ofNat a < (999 : Int32) ↔ a < 999 := zofn_lt (j := 999) (by omega) (by decide)
  by_cases h : a + 1 < 999
  · rw [if_pos (e1.mpr h), if_pos (e2.mpr (by omega))]
  · rw [if_neg (fun w => h (e1.mp w))]
    by_cases h2 : a < 999
    · rw [if_pos (e2.mpr h2), show a + 1 = 999 by omega]
      rfl
    · rw [if_neg (fun w => h2 (e2.mp w)), show a = 999 by omega]
      rfl
theorem t_X0_attempt {d : Nat} {m : zM} {r : Option Value} {h' : zHp} {k c : Nat} {s : Int32} {g : Nat → Int32} (hk : zlk6 k) (hL : LV m k c g) (hg : gok g c) (H : zE none d zm_X0_attempt 0 [.ref k, .int s, .null] [] m r h') : ∃ m1, r = some (.int (gTry1 g c s)) ∧ h' = zhp m1 ∧ LV m1 k c (gTry2 g c s) ∧ ∀ a b, ¬ (k ≤ a ∧ a ≤ k + 7) → m1 a b = m a b := by
  replace H := i_aln (q := 1) H I_X0_attempt_0 rfl rfl
  replace H := i_sip (x := 999) (q := 4) H I_X0_attempt_1 (by decide) rfl
  replace H := i_aln (q := 5) H I_X0_attempt_4 rfl rfl
  replace H := i_gfi (q := 8) H I_X0_attempt_5 G_0_32 cn_X0_attempt (lk_0 hk) rfl rfl
  replace H := i_icst (x := 1) (q := 9) H I_X0_attempt_8 (by decide) rfl
  replace H := i_iadd (q := 10) H I_X0_attempt_9 rfl
  replace H := i_min (q := 13) H I_X0_attempt_10 K_0_59 rfl
  replace H := i_pf (q := 16) H I_X0_attempt_13 G_0_32 cn_X0_attempt (lk_0 hk) rfl rfl
  replace H := i_aln (q := 17) H I_X0_attempt_16 rfl rfl
  replace H := i_iln (q := 18) H I_X0_attempt_17 rfl rfl
  have W := i_cv1 2 (q := 21) H I_X0_attempt_18 K_0_78 Zm_9 rfl rfl
  clear H
  obtain ⟨r1, h1, Hc, K1, K2⟩ := W
  obtain ⟨e1, e2⟩ := t_X0_leastOf hk (c := c) (by rw [zup_n (by omega)]; exact hL.1) hL.2.1 Hc
  have H := K1 _ _ e1 e2
  clear e1 e2 Hc K1 K2
  replace H := i_isn (q := 22) H I_X0_attempt_21 rfl rfl
  replace H := i_iln (q := 23) H I_X0_attempt_22 rfl rfl
  replace H := i_bip (x := (-4)) (q := 25) H I_X0_attempt_23 (by decide) rfl
  have W := i_ic_eq (t := 49) (q := 28) H I_X0_attempt_25 (by decide) rfl
  clear H
  rcases W with ⟨c_25, H⟩ | ⟨c_25, H⟩
  · skip
    replace H := i_bip (x := (-4)) (q := 51) H I_X0_attempt_49 (by decide) rfl
    obtain ⟨hr, hh⟩ := i_ir H I_X0_attempt_51
    have ew : zwb (zcf (zup m k 5 (if m k 5 + 1 < 999 then m k 5 + 1 else 999)) k) s c = zwb (gcn g) s c := by
      refine zwb_g c hL.2.1 (fun i hi => ?_)
      rw [← LV_c hL hi]
      show zcnt _ _ = zcnt _ _
      unfold zcnt
      rw [zup_n (by omega), zup_n (by omega), zup_n (by omega)]
    have el : zmn (zcf (zup m k 5 (if m k 5 + 1 < 999 then m k 5 + 1 else 999)) k) c = zmn (gcn g) c := by
      refine zmn_g c (fun i hi => ?_)
      rw [← LV_c hL hi]
      show zcnt _ _ = zcnt _ _
      unfold zcnt
      rw [zup_n (by omega), zup_n (by omega), zup_n (by omega)]
    have et : (if m k 5 + 1 < 999 then m k 5 + 1 else 999) = gtr (g 17) := by rw [hL.2.2.2.2.1]; exact gtr_c hg.2.2.1 hg.2.2.2
    rw [et] at ew el hh
    obtain ⟨q1, q2, q3, q4, q5, a, a1, a2, a3, a4⟩ := id hL
    have hL1 : LV (zup m k 5 (gtr (g 17))) k c (gset g 17 (gtr (g 17))) := by
      refine ⟨by rw [zup_n (by omega)]; exact q1, q2, fun i hi => ?_, ?_, ?_, a, a1, ?_, ?_, fun i hi => ?_⟩
      · obtain ⟨x, y, z, w⟩ := q3 i hi
        refine ⟨?_, ?_, ?_, ?_⟩
        · rw [zup_n (by omega), gset_n (by omega)]; exact x
        · rw [zup_n (by omega), gset_n (by omega)]; exact y
        · rw [zup_n (by omega), gset_n (by omega)]; exact z
        · rw [zup_n (by omega), gset_n (by omega)]; exact w
      · rw [zup_n (by omega), gset_n (by omega)]; exact q4
      · rw [zup_s, gset_s]
      · rw [gset_n (by omega)]; exact a2
      · rw [zup_n (by omega)]; exact a3
      · rw [zup_n (by omega), gset_n (by omega)]; exact a4 i hi
    rw [et, ew] at c_25
    have hno : zwb (gcn g) s c = -4 ∨ zmn (gcn g) c + (g 16 + 1) < gcn g (zwb (gcn g) s c).toNatClampNeg := Or.inl c_25
    refine ⟨_, hr.trans (by rw [gTry1, if_pos hno]), hh, by rw [gTry2, if_pos hno]; exact hL1, fun a b hab => by rw [zup_n (by omega)]⟩
  · skip
    replace H := i_aln (q := 29) H I_X0_attempt_28 rfl rfl
    replace H := i_gfr (q := 32) H I_X0_attempt_29 G_0_11 cn_X0_attempt (lk_0 hk) rfl rfl
    replace H := i_iln (q := 33) H I_X0_attempt_32 rfl rfl
    have W := i_folk (k := k) hk (q := 34) H I_X0_attempt_33 rfl
    clear H
    obtain ⟨i_33, bi_33, ei_33, H⟩ := W
    have W := i_cv0 0 (q := 37) H I_X0_attempt_34 K_0_51 Zm_20 rfl rfl
    clear H
    obtain ⟨r1, h1, Hc, K1, K2⟩ := W
    obtain ⟨e1, e2⟩ := t_X1_turned (lk_p hk bi_33) Hc
    have H := K1 _ _ e1 e2
    clear e1 e2 Hc K1 K2
    replace H := i_aln (q := 38) H I_X0_attempt_37 rfl rfl
    have W := i_cv0 3 (q := 41) H I_X0_attempt_38 K_0_75 Zm_10 rfl rfl
    clear H
    obtain ⟨r1, h1, Hc, K1, K2⟩ := W
    obtain ⟨e1, e2⟩ := t_X0_least hk (c := c) (by rw [zup_n (by omega)]; exact hL.1) hL.2.1 Hc
    have H := K1 _ _ e1 e2
    clear e1 e2 Hc K1 K2
    replace H := i_aln (q := 42) H I_X0_attempt_41 rfl rfl
    replace H := i_gfi (q := 45) H I_X0_attempt_42 G_0_21 cn_X0_attempt (lk_0 hk) rfl rfl
    replace H := i_iadd (q := 46) H I_X0_attempt_45 rfl
    have W := i_ic_le (t := 52) (q := 49) H I_X0_attempt_46 (by decide) rfl
    clear H
    rcases W with ⟨c_46, H⟩ | ⟨c_46, H⟩
    · skip
      replace H := i_aln (q := 53) H I_X0_attempt_52 rfl rfl
      replace H := i_gfr (q := 56) H I_X0_attempt_53 G_0_11 cn_X0_attempt (lk_0 hk) rfl rfl
      replace H := i_iln (q := 57) H I_X0_attempt_56 rfl rfl
      have W := i_folk (k := k) hk (q := 58) H I_X0_attempt_57 rfl
      clear H
      obtain ⟨i_57, bi_57, ei_57, H⟩ := W
      have W := i_cv0 0 (q := 61) H I_X0_attempt_58 K_0_82 Zm_23 rfl rfl
      clear H
      obtain ⟨r1, h1, Hc, K1, K2⟩ := W
      obtain ⟨e1, e2⟩ := t_X1_enter (lk_p hk bi_57) Hc
      have H := K2 _ e1 e2
      clear e1 e2 Hc K1 K2
      replace H := i_iln (q := 62) H I_X0_attempt_61 rfl rfl
      obtain ⟨hr, hh⟩ := i_ir H I_X0_attempt_62
      have ew : zwb (zcf (zup m k 5 (if m k 5 + 1 < 999 then m k 5 + 1 else 999)) k) s c = zwb (gcn g) s c := by
        refine zwb_g c hL.2.1 (fun i hi => ?_)
        rw [← LV_c hL hi]
        show zcnt _ _ = zcnt _ _
        unfold zcnt
        rw [zup_n (by omega), zup_n (by omega), zup_n (by omega)]
      have el : zmn (zcf (zup m k 5 (if m k 5 + 1 < 999 then m k 5 + 1 else 999)) k) c = zmn (gcn g) c := by
        refine zmn_g c (fun i hi => ?_)
        rw [← LV_c hL hi]
        show zcnt _ _ = zcnt _ _
        unfold zcnt
        rw [zup_n (by omega), zup_n (by omega), zup_n (by omega)]
      have et : (if m k 5 + 1 < 999 then m k 5 + 1 else 999) = gtr (g 17) := by rw [hL.2.2.2.2.1]; exact gtr_c hg.2.2.1 hg.2.2.2
      rw [et] at ew el hh
      obtain ⟨q1, q2, q3, q4, q5, a, a1, a2, a3, a4⟩ := id hL
      have hL1 : LV (zup m k 5 (gtr (g 17))) k c (gset g 17 (gtr (g 17))) := by
        refine ⟨by rw [zup_n (by omega)]; exact q1, q2, fun i hi => ?_, ?_, ?_, a, a1, ?_, ?_, fun i hi => ?_⟩
        · obtain ⟨x, y, z, w⟩ := q3 i hi
          refine ⟨?_, ?_, ?_, ?_⟩
          · rw [zup_n (by omega), gset_n (by omega)]; exact x
          · rw [zup_n (by omega), gset_n (by omega)]; exact y
          · rw [zup_n (by omega), gset_n (by omega)]; exact z
          · rw [zup_n (by omega), gset_n (by omega)]; exact w
        · rw [zup_n (by omega), gset_n (by omega)]; exact q4
        · rw [zup_s, gset_s]
        · rw [gset_n (by omega)]; exact a2
        · rw [zup_n (by omega)]; exact a3
        · rw [zup_n (by omega), gset_n (by omega)]; exact a4 i hi
      rw [et, ew] at c_25
      rw [et, ew] at ei_33
      have hwc : i_33 < c := by
        rcases zwb_r (gcn g) s c q2 with e | ⟨w, w1, w2⟩
        · exact absurd e c_25
        · have := zofn (ei_33.symm.trans w2) (by omega) (by omega)
          omega
      have hb : (zwb (gcn g) s c).toNatClampNeg = i_33 := by rw [ei_33, Int32.toNatClampNeg_ofNat_of_lt (by omega)]
      have e33 : zcnt (zup m k 5 (gtr (g 17))) (k + 3 + i_33) = gcn g i_33 := by
        rw [← LV_c hL hwc]
        show _ = zcnt _ _
        unfold zcnt
        rw [zup_n (by omega), zup_n (by omega), zup_n (by omega)]
      rw [et, e33, el, zup_n (by omega), q4] at c_46
      have hno : ¬ (zwb (gcn g) s c = -4 ∨ zmn (gcn g) c + (g 16 + 1) < gcn g (zwb (gcn g) s c).toNatClampNeg) := by
        rintro (e | e)
        · exact c_25 e
        · rw [hb] at e
          exact c_46 e
      rw [et, ew] at ei_57
      have i2 : i_57 = i_33 := zofn (ei_57.symm.trans ei_33) (by omega) (by omega)
      subst i2
      rw [et, ew] at hr
      have hi5 : i_57 < 5 := by omega
      have ek : zmrk (zup m k 5 (gtr (g 17)) (k + 3 + i_57) 0) = zmrk (g i_57) := by
        rw [zup_n (by omega), (q3 i_57 hwc).1]
      unfold zent at hh
      rw [zmin_cap, e33, ek] at hh
      refine ⟨_, hr.trans (by rw [gTry1, if_neg hno]), hh, ?_, fun a b hab => ?_⟩
      · rw [gTry2, if_neg hno, hb]
        obtain ⟨r1, r2, r3, r4, r5, b, b1, b2, b3, b4⟩ := hL1
        have eh : zup m k 5 (gtr (g 17)) (k + 3 + i_57) 3 = zbt (g 15) i_57 := by
          rw [(r3 i_57 hwc).2.2.2, gset_n (by omega)]
          rfl
        unfold zset gat
        rw [eh]
        by_cases hz : zbt (g 15) i_57 = 1
        · rw [if_pos hz, if_pos hz]
          refine ⟨by rw [zup_n (by omega)]; exact r1, r2, fun i hi => ?_, ?_, ?_, b, b1, ?_, ?_, fun i hi => ?_⟩
          · obtain ⟨x, y, z, w⟩ := r3 i hi
            have hi5' : i < 5 := by omega
            refine ⟨?_, ?_, ?_, ?_⟩
            · rw [zup_n (by omega), gset_n (by omega)]; exact x
            · rw [zup_n (by omega), gset_n (by omega)]; exact y
            · by_cases hii : i = i_57
              · subst hii
                rw [zup_s, gset_s]
              · rw [zup_n (by omega), gset_n (by omega)]; exact z
            · rw [zup_n (by omega), gset_n (by omega)]; exact w
          · rw [zup_n (by omega), gset_n (by omega)]; exact r4
          · rw [zup_n (by omega), gset_n (by omega)]; exact r5
          · rw [gset_n (by omega)]; exact b2
          · rw [zup_n (by omega)]; exact b3
          · rw [zup_n (by omega), gset_n (by omega)]; exact b4 i hi
        · rw [if_neg hz, if_neg hz]
          refine ⟨by rw [zup_n (by omega)]; exact r1, r2, fun i hi => ?_, ?_, ?_, b, b1, ?_, ?_, fun i hi => ?_⟩
          · obtain ⟨x, y, z, w⟩ := r3 i hi
            have hi5' : i < 5 := by omega
            refine ⟨?_, ?_, ?_, ?_⟩
            · rw [zup_n (by omega), gset_n (by omega)]; exact x
            · by_cases hii : i = i_57
              · subst hii
                rw [zup_s, gset_s]
              · rw [zup_n (by omega), gset_n (by omega)]; exact y
            · rw [zup_n (by omega), gset_n (by omega)]; exact z
            · rw [zup_n (by omega), gset_n (by omega)]; exact w
          · rw [zup_n (by omega), gset_n (by omega)]; exact r4
          · rw [zup_n (by omega), gset_n (by omega)]; exact r5
          · rw [gset_n (by omega)]; exact b2
          · rw [zup_n (by omega)]; exact b3
          · rw [zup_n (by omega), gset_n (by omega)]; exact b4 i hi
      · unfold zset
        split
        · rw [zup_n (by omega), zup_n (by omega)]
        · rw [zup_n (by omega), zup_n (by omega)]
    · skip
      replace H := i_bip (x := (-4)) (q := 51) H I_X0_attempt_49 (by decide) rfl
      obtain ⟨hr, hh⟩ := i_ir H I_X0_attempt_51
      have ew : zwb (zcf (zup m k 5 (if m k 5 + 1 < 999 then m k 5 + 1 else 999)) k) s c = zwb (gcn g) s c := by
        refine zwb_g c hL.2.1 (fun i hi => ?_)
        rw [← LV_c hL hi]
        show zcnt _ _ = zcnt _ _
        unfold zcnt
        rw [zup_n (by omega), zup_n (by omega), zup_n (by omega)]
      have el : zmn (zcf (zup m k 5 (if m k 5 + 1 < 999 then m k 5 + 1 else 999)) k) c = zmn (gcn g) c := by
        refine zmn_g c (fun i hi => ?_)
        rw [← LV_c hL hi]
        show zcnt _ _ = zcnt _ _
        unfold zcnt
        rw [zup_n (by omega), zup_n (by omega), zup_n (by omega)]
      have et : (if m k 5 + 1 < 999 then m k 5 + 1 else 999) = gtr (g 17) := by rw [hL.2.2.2.2.1]; exact gtr_c hg.2.2.1 hg.2.2.2
      rw [et] at ew el hh
      obtain ⟨q1, q2, q3, q4, q5, a, a1, a2, a3, a4⟩ := id hL
      have hL1 : LV (zup m k 5 (gtr (g 17))) k c (gset g 17 (gtr (g 17))) := by
        refine ⟨by rw [zup_n (by omega)]; exact q1, q2, fun i hi => ?_, ?_, ?_, a, a1, ?_, ?_, fun i hi => ?_⟩
        · obtain ⟨x, y, z, w⟩ := q3 i hi
          refine ⟨?_, ?_, ?_, ?_⟩
          · rw [zup_n (by omega), gset_n (by omega)]; exact x
          · rw [zup_n (by omega), gset_n (by omega)]; exact y
          · rw [zup_n (by omega), gset_n (by omega)]; exact z
          · rw [zup_n (by omega), gset_n (by omega)]; exact w
        · rw [zup_n (by omega), gset_n (by omega)]; exact q4
        · rw [zup_s, gset_s]
        · rw [gset_n (by omega)]; exact a2
        · rw [zup_n (by omega)]; exact a3
        · rw [zup_n (by omega), gset_n (by omega)]; exact a4 i hi
      rw [et, ew] at c_25
      rw [et, ew] at ei_33
      have hwc : i_33 < c := by
        rcases zwb_r (gcn g) s c q2 with e | ⟨w, w1, w2⟩
        · exact absurd e c_25
        · have := zofn (ei_33.symm.trans w2) (by omega) (by omega)
          omega
      have hb : (zwb (gcn g) s c).toNatClampNeg = i_33 := by rw [ei_33, Int32.toNatClampNeg_ofNat_of_lt (by omega)]
      have e33 : zcnt (zup m k 5 (gtr (g 17))) (k + 3 + i_33) = gcn g i_33 := by
        rw [← LV_c hL hwc]
        show _ = zcnt _ _
        unfold zcnt
        rw [zup_n (by omega), zup_n (by omega), zup_n (by omega)]
      rw [et, e33, el, zup_n (by omega), q4] at c_46
      have hno : zwb (gcn g) s c = -4 ∨ zmn (gcn g) c + (g 16 + 1) < gcn g (zwb (gcn g) s c).toNatClampNeg := Or.inr (by rw [hb]; exact c_46)
      refine ⟨_, hr.trans (by rw [gTry1, if_pos hno]), hh, by rw [gTry2, if_pos hno]; exact hL1, fun a b hab => by rw [zup_n (by omega)]⟩
