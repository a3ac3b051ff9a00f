/-! the reference's numbers -/
theorem It_X8_other : zm_X8_other.2.2.2.2.2 = zt_X8_other := by
  unfold zm_X8_other
  rfl
theorem I_X8_other_0 : zin zm_X8_other.2.2.2.2.2 0 = some (.aload_n 0, 1) := by rw [It_X8_other]; rfl
theorem I_X8_other_1 : zin zm_X8_other.2.2.2.2.2 1 = some (.getfield 63, 3) := by rw [It_X8_other]; rfl
theorem I_X8_other_4 : zin zm_X8_other.2.2.2.2.2 4 = some (.ifCond .ne 16, 3) := by rw [It_X8_other]; rfl
theorem I_X8_other_7 : zin zm_X8_other.2.2.2.2.2 7 = some (.aload_n 0, 1) := by rw [It_X8_other]; rfl
theorem I_X8_other_8 : zin zm_X8_other.2.2.2.2.2 8 = some (.getfield 72, 3) := by rw [It_X8_other]; rfl
theorem I_X8_other_11 : zin zm_X8_other.2.2.2.2.2 11 = some (.iconst 2, 1) := by rw [It_X8_other]; rfl
theorem I_X8_other_12 : zin zm_X8_other.2.2.2.2.2 12 = some (.if_icmp .eq 8, 3) := by rw [It_X8_other]; rfl
theorem I_X8_other_15 : zin zm_X8_other.2.2.2.2.2 15 = some (.aload_n 0, 1) := by rw [It_X8_other]; rfl
theorem I_X8_other_16 : zin zm_X8_other.2.2.2.2.2 16 = some (.iconst 2, 1) := by rw [It_X8_other]; rfl
theorem I_X8_other_17 : zin zm_X8_other.2.2.2.2.2 17 = some (.invokevirtual 93, 3) := by rw [It_X8_other]; rfl
theorem I_X8_other_20 : zin zm_X8_other.2.2.2.2.2 20 = some (.aload_n 0, 1) := by rw [It_X8_other]; rfl
theorem I_X8_other_21 : zin zm_X8_other.2.2.2.2.2 21 = some (.getfield 63, 3) := by rw [It_X8_other]; rfl
theorem I_X8_other_24 : zin zm_X8_other.2.2.2.2.2 24 = some (.ifCond .ne 23, 3) := by rw [It_X8_other]; rfl
theorem I_X8_other_27 : zin zm_X8_other.2.2.2.2.2 27 = some (.aload_n 0, 1) := by rw [It_X8_other]; rfl
theorem I_X8_other_28 : zin zm_X8_other.2.2.2.2.2 28 = some (.getfield 82, 3) := by rw [It_X8_other]; rfl
theorem I_X8_other_31 : zin zm_X8_other.2.2.2.2.2 31 = some (.i2l, 1) := by rw [It_X8_other]; rfl
theorem I_X8_other_32 : zin zm_X8_other.2.2.2.2.2 32 = some (.iload_n 1, 1) := by rw [It_X8_other]; rfl
theorem I_X8_other_33 : zin zm_X8_other.2.2.2.2.2 33 = some (.i2l, 1) := by rw [It_X8_other]; rfl
theorem I_X8_other_34 : zin zm_X8_other.2.2.2.2.2 34 = some (.iload_n 2, 1) := by rw [It_X8_other]; rfl
theorem I_X8_other_35 : zin zm_X8_other.2.2.2.2.2 35 = some (.i2l, 1) := by rw [It_X8_other]; rfl
theorem I_X8_other_36 : zin zm_X8_other.2.2.2.2.2 36 = some (.invokestatic 55, 3) := by rw [It_X8_other]; rfl
theorem I_X8_other_39 : zin zm_X8_other.2.2.2.2.2 39 = some (.ifCond .ne 8, 3) := by rw [It_X8_other]; rfl
theorem I_X8_other_42 : zin zm_X8_other.2.2.2.2.2 42 = some (.aload_n 0, 1) := by rw [It_X8_other]; rfl
theorem I_X8_other_43 : zin zm_X8_other.2.2.2.2.2 43 = some (.iconst 3, 1) := by rw [It_X8_other]; rfl
theorem I_X8_other_44 : zin zm_X8_other.2.2.2.2.2 44 = some (.invokevirtual 93, 3) := by rw [It_X8_other]; rfl
theorem I_X8_other_47 : zin zm_X8_other.2.2.2.2.2 47 = some (.aload_n 0, 1) := by rw [It_X8_other]; rfl
theorem I_X8_other_48 : zin zm_X8_other.2.2.2.2.2 48 = some (.getfield 63, 3) := by rw [It_X8_other]; rfl
theorem I_X8_other_51 : zin zm_X8_other.2.2.2.2.2 51 = some (.ifCond .ne 24, 3) := by rw [It_X8_other]; rfl
theorem I_X8_other_54 : zin zm_X8_other.2.2.2.2.2 54 = some (.iload_n 3, 1) := by rw [It_X8_other]; rfl
theorem I_X8_other_55 : zin zm_X8_other.2.2.2.2.2 55 = some (.ifCond .eq 20, 3) := by rw [It_X8_other]; rfl
theorem I_X8_other_58 : zin zm_X8_other.2.2.2.2.2 58 = some (.iload_n 3, 1) := by rw [It_X8_other]; rfl
theorem I_X8_other_59 : zin zm_X8_other.2.2.2.2.2 59 = some (.aload_n 0, 1) := by rw [It_X8_other]; rfl
theorem I_X8_other_60 : zin zm_X8_other.2.2.2.2.2 60 = some (.getfield 82, 3) := by rw [It_X8_other]; rfl
theorem I_X8_other_63 : zin zm_X8_other.2.2.2.2.2 63 = some (.ishr, 1) := by rw [It_X8_other]; rfl
theorem I_X8_other_64 : zin zm_X8_other.2.2.2.2.2 64 = some (.iconst 1, 1) := by rw [It_X8_other]; rfl
theorem I_X8_other_65 : zin zm_X8_other.2.2.2.2.2 65 = some (.iand, 1) := by rw [It_X8_other]; rfl
theorem I_X8_other_66 : zin zm_X8_other.2.2.2.2.2 66 = some (.iconst 1, 1) := by rw [It_X8_other]; rfl
theorem I_X8_other_67 : zin zm_X8_other.2.2.2.2.2 67 = some (.if_icmp .ne 8, 3) := by rw [It_X8_other]; rfl
theorem I_X8_other_70 : zin zm_X8_other.2.2.2.2.2 70 = some (.aload_n 0, 1) := by rw [It_X8_other]; rfl
theorem I_X8_other_71 : zin zm_X8_other.2.2.2.2.2 71 = some (.iconst 4, 1) := by rw [It_X8_other]; rfl
theorem I_X8_other_72 : zin zm_X8_other.2.2.2.2.2 72 = some (.invokevirtual 93, 3) := by rw [It_X8_other]; rfl
theorem I_X8_other_75 : zin zm_X8_other.2.2.2.2.2 75 = some (.aload_n 0, 1) := by rw [It_X8_other]; rfl
theorem I_X8_other_76 : zin zm_X8_other.2.2.2.2.2 76 = some (.getfield 63, 3) := by rw [It_X8_other]; rfl
theorem I_X8_other_79 : zin zm_X8_other.2.2.2.2.2 79 = some (.ifCond .ne 10, 3) := by rw [It_X8_other]; rfl
theorem I_X8_other_82 : zin zm_X8_other.2.2.2.2.2 82 = some (.aload_n 0, 1) := by rw [It_X8_other]; rfl
theorem I_X8_other_83 : zin zm_X8_other.2.2.2.2.2 83 = some (.getfield 82, 3) := by rw [It_X8_other]; rfl
theorem I_X8_other_86 : zin zm_X8_other.2.2.2.2.2 86 = some (.goto 4, 3) := by rw [It_X8_other]; rfl
theorem I_X8_other_89 : zin zm_X8_other.2.2.2.2.2 89 = some (.iload_n 1, 1) := by rw [It_X8_other]; rfl
theorem I_X8_other_90 : zin zm_X8_other.2.2.2.2.2 90 = some (.istore 4, 2) := by rw [It_X8_other]; rfl
theorem I_X8_other_92 : zin zm_X8_other.2.2.2.2.2 92 = some (.aload_n 0, 1) := by rw [It_X8_other]; rfl
theorem I_X8_other_93 : zin zm_X8_other.2.2.2.2.2 93 = some (.invokevirtual 97, 3) := by rw [It_X8_other]; rfl
theorem I_X8_other_96 : zin zm_X8_other.2.2.2.2.2 96 = some (.iload 4, 2) := by rw [It_X8_other]; rfl
theorem I_X8_other_98 : zin zm_X8_other.2.2.2.2.2 98 = some (.ireturn, 1) := by rw [It_X8_other]; rfl
theorem K_8_97 : zlk zmls 8 97 = some (0, 120, 0, 951) := rfl
theorem Zm_120 : zms[120]? = some zm_X8_step := rfl
theorem cl_X8_other : zm_X8_other.2.2.2.2.1 = 8 := by
  unfold zm_X8_other
  rfl
theorem cn_X8_other : zm_X8_other.2.2.2.2.1 ≠ 12 := by
  rw [cl_X8_other]
  decide
theorem cn2_X8_other : zm_X8_other.2.2.2.2.1 ≠ 2 := by
  rw [cl_X8_other]
  decide
theorem tE_c {f : Int32 → Bool} {t : Nat → Int32} {n p : Nat} (h : ¬ tE f t n p = p) : f (t p) = true := by
  cases hf : f (t p) with
  | true => rfl
  | false => exact absurd (tE_no hf) h
theorem zdg_n {c : Int32} (h : zdg c = true) : ∃ a, a < 10 ∧ c = Int32.ofNat (48 + a) := by
  simp only [zdg, Bool.and_eq_true, decide_eq_true_eq, Int32.lt_iff_toInt_lt] at h
  have h1 : ¬ c.toInt < 48 := h.1
  have h2 : ¬ 57 < c.toInt := h.2
  refine ⟨(c.toInt - 48).toNat, by omega, ?_⟩
  apply Int32.toInt_inj.mp
  rw [zofn_t (by omega)]
  omega
theorem zd_1 : ∀ a, a < 10 → Int32.ofNat (48 + a) - 48 = Int32.ofNat a := by decide
theorem zd_2 : ∀ a, a < 10 → ∀ b, b < 10 → (Int32.ofNat (48 + a) - 48) * 10 + Int32.ofNat (48 + b) - 48 = Int32.ofNat (10 * a + b) := by decide
theorem tV_n {t : Nat → Int32} {n p : Nat} (h : tK t n p = 2) : ∃ v, v ≤ 99 ∧ tV t n p = Int32.ofNat v := by
  unfold tK tKs at h
  unfold tV tVs
  generalize tS t n p = s at h ⊢
  split at h
  · cases h
  · split at h
    · cases h
    · split at h
      · rename_i hd
        rw [if_pos hd]
        obtain ⟨a, a1, a2⟩ := zdg_n hd
        by_cases he : tE zdg t n (s + 1) = s + 1
        · rw [if_pos he, a2, zd_1 a a1]
          exact ⟨a, by omega, rfl⟩
        · rw [if_neg he]
          obtain ⟨b, b1, b2⟩ := zdg_n (tE_c he)
          rw [a2, b2, zd_2 a a1 b b1]
          exact ⟨10 * a + b, by omega, rfl⟩
      · split at h <;> cases h
theorem zin_V {t : Nat → Int32} {n p : Nat} {most : Int32} (h : tK t n p = 2) : zin64 (tV t n p).toInt64 (Int32.toInt64 0) most.toInt64 = if most < tV t n p then 0 else 1 := by
  obtain ⟨v, v1, v2⟩ := tV_n h
  rw [zin_32, Int32.toInt_toInt64, Int32.toInt_toInt64, v2, zofn_t (by omega)]
  have e0 : (0 : Int32).toInt = 0 := rfl
  have e1 : most < Int32.ofNat v ↔ most.toInt < (v : Int) := by rw [Int32.lt_iff_toInt_lt, zofn_t (by omega)]
  by_cases hm : most.toInt < (v : Int)
  · rw [if_pos (e1.mpr hm), if_neg (by omega)]
  · rw [if_neg (fun w => hm (e1.mp w)), if_pos (by omega)]
theorem zbt01 (x : Int32) : x &&& 1 = 0 ∨ x &&& 1 = 1 := by
  have h : (x &&& 1).toBitVec = BitVec.setWidth 32 (BitVec.ofBool (x.toBitVec.getLsbD 0)) := by
    rw [Int32.toBitVec_and]
    exact BitVec.and_one_eq_setWidth_ofBool_getLsbD
  cases hb : x.toBitVec.getLsbD 0 with
  | true => rw [hb] at h; exact Or.inr (Int32.toBitVec_inj.mp (h.trans (by decide)))
  | false => rw [hb] at h; exact Or.inl (Int32.toBitVec_inj.mp (h.trans (by decide)))
/-- the reference's tape and tables -/
def rE (m : zM) (n : Nat) : Prop := m 71 8 = Int32.ofNat n ∧ n ≤ 160 ∧ (∀ i, i < n → ¬ m 75 i = -4) ∧ zTab m
def rF (m : zM) (f : Int32 × Nat) : Prop := m 71 10 = f.1 ∧ m 71 11 = Int32.ofNat f.2 ∧ 0 < f.1
/-- the token at p is the one at hand -/
def rC0 (m : zM) (n p : Nat) : Prop := ¬ tK (m 75) n p = 4 ∧ m 71 10 = 0 ∧ m 71 12 = Int32.ofNat (tN (m 75) n p) ∧ m 71 13 = Int32.ofNat (tS (m 75) n p) ∧ m 71 14 = tK (m 75) n p ∧ (tK (m 75) n p = 2 → m 71 15 = tV (m 75) n p)
def rC (m : zM) (n p : Nat) : Prop := p ≤ n ∧ (rC0 m n p ∨ (tK (m 75) n p = 4 ∧ rF m (1, tS (m 75) n p)))
/-- what the reference's reading writes -/
def zfR (m m1 : zM) : Prop := ∀ a b, ¬ a = 74 → ¬ (a = 71 ∧ ((4 ≤ b ∧ b ≤ 6) ∨ (10 ≤ b ∧ b ≤ 15))) → m1 a b = m a b
theorem zfR_g {m m1 : zM} (h : zg1015 m m1) : zfR m m1 := fun a b x y => h a b (by omega)
theorem zfR_t {m m1 m2 : zM} (h1 : zfR m m1) (h2 : zfR m1 m2) : zfR m m2 := fun a b x y => (h2 a b x y).trans (h1 a b x y)
theorem zg_t {m m1 m2 : zM} (h1 : zg1015 m m1) (h2 : zg1015 m1 m2) : zg1015 m m2 := fun a b x => (h2 a b x).trans (h1 a b x)
theorem zfR_5 {m m1 : zM} (h : zfR m m1) : m1 75 = m 75 := by funext b; exact h 75 b (by omega) (by omega)
theorem rE_f {m m1 : zM} {n : Nat} (h : rE m n) (hf : zfR m m1) : rE m1 n := by
  obtain ⟨h1, h2, h3, h4, h5⟩ := h
  exact ⟨by rw [hf 71 8 (by omega) (by omega)]; exact h1, h2, fun i hi => by rw [hf 75 i (by omega) (by omega)]; exact h3 i hi, fun w hw => by rw [hf 76 w (by omega) (by omega)]; exact h4 w hw, fun w hw k hk => by rw [hf 77 _ (by omega) (by omega)]; exact h5 w hw k hk⟩
theorem t_step1 {d : Nat} {m : zM} {r : Option Value} {h' : zHp} {n p : Nat} (hE : rE m n) (h0 : m 71 10 = 0) (hp : m 71 12 = Int32.ofNat p) (hpn : p ≤ n) (H : zE none d zm_X8_step 0 [.ref 71, .null] [] m r h') : ∃ m1, r = none ∧ h' = zhp m1 ∧ rC m1 n p ∧ zg1015 m m1 := by
  obtain ⟨m1, x1, x2, x3, x4, x5, x6, x7, x8⟩ := t_X8_step h0 hE.1 hE.2.1 hp hpn hE.2.2.1 H
  have e : m1 75 = m 75 := by funext b; exact x8 75 b (by omega)
  refine ⟨m1, x1, x2, ⟨hpn, ?_⟩, x8⟩
  unfold rC0
  rw [e]
  by_cases hk : tK (m 75) n p = 4
  · exact Or.inr ⟨hk, (x6 hk).1, (x6 hk).2, (show (0 : Int32) < 1 by decide)⟩
  · exact Or.inl ⟨hk, (x5 hk).2, x3, x4, (x5 hk).1, x7⟩
theorem t_fails0 {d : Nat} {m : zM} {r : Option Value} {h' : zHp} {c : Int32} (h0 : m 71 10 = 0) (H : zE none d zm_X8_fails 0 [.ref 71, .int c] [] m r h') : r = none ∧ h' = zhp (zup (zup m 71 10 c) 71 11 (m 71 13)) := by
  obtain ⟨x, y⟩ := t_X8_fails H
  rw [if_pos h0] at y
  exact ⟨x, y⟩
theorem t_fails1 {d : Nat} {m : zM} {r : Option Value} {h' : zHp} {c : Int32} (h0 : ¬ m 71 10 = 0) (H : zE none d zm_X8_fails 0 [.ref 71, .int c] [] m r h') : r = none ∧ h' = zhp m := by
  obtain ⟨x, y⟩ := t_X8_fails H
  rw [if_neg h0] at y
  exact ⟨x, y⟩
theorem rF_0 {m : zM} {f : Int32 × Nat} (h : rF m f) : ¬ m 71 10 = 0 := fun e => by
  have := h.2.2
  rw [← h.1, e] at this
  exact absurd this (by decide)
theorem rF_p {m : zM} {f : Int32 × Nat} (h : rF m f) : 0 < m 71 10 := by rw [h.1]; exact h.2.2
theorem t_other_br {d : Nat} {m : zM} {r : Option Value} {h' : zHp} {most x : Int32} {f : Int32 × Nat} (hF : rF m f) (H : zE none d zm_X8_other 0 [.ref 71, .int 0, .int most, .int x, .null] [] m r h') : r = some (.int 0) ∧ h' = zhp m := by
  have h0 := rF_0 hF
  replace H := i_aln (q := 1) H I_X8_other_0 rfl rfl
  replace H := i_gfi (q := 4) H I_X8_other_1 G_8_63 cn_X8_other LY_71 rfl rfl
  have W := i_if_ne (t := 20) (q := 7) H I_X8_other_4 (by decide) rfl
  clear H
  rcases W with ⟨c_4, H⟩ | ⟨c_4, H⟩
  · skip
    replace H := i_aln (q := 21) H I_X8_other_20 rfl rfl
    replace H := i_gfi (q := 24) H I_X8_other_21 G_8_63 cn_X8_other LY_71 rfl rfl
    have W := i_if_ne (t := 47) (q := 27) H I_X8_other_24 (by decide) rfl
    clear H
    rcases W with ⟨c_24, H⟩ | ⟨c_24, H⟩
    · skip
      replace H := i_aln (q := 48) H I_X8_other_47 rfl rfl
      replace H := i_gfi (q := 51) H I_X8_other_48 G_8_63 cn_X8_other LY_71 rfl rfl
      have W := i_if_ne (t := 75) (q := 54) H I_X8_other_51 (by decide) rfl
      clear H
      rcases W with ⟨c_51, H⟩ | ⟨c_51, H⟩
      · skip
        replace H := i_aln (q := 76) H I_X8_other_75 rfl rfl
        replace H := i_gfi (q := 79) H I_X8_other_76 G_8_63 cn_X8_other LY_71 rfl rfl
        have W := i_if_ne (t := 89) (q := 82) H I_X8_other_79 (by decide) rfl
        clear H
        rcases W with ⟨c_79, H⟩ | ⟨c_79, H⟩
        · skip
          replace H := i_iln (q := 90) H I_X8_other_89 rfl rfl
          replace H := i_is (q := 92) H I_X8_other_90 rfl rfl
          replace H := i_aln (q := 93) H I_X8_other_92 rfl rfl
          have W := i_cv0 1 (q := 96) H I_X8_other_93 K_8_97 Zm_120 rfl rfl
          clear H
          obtain ⟨r1, h1, Hc, K1, K2⟩ := W
          obtain ⟨e1, e2⟩ := t_X8_step0 (rF_p hF) Hc
          have H := K2 _ e1 e2
          clear e1 e2 Hc K1 K2
          replace H := i_il (q := 98) H I_X8_other_96 rfl rfl
          obtain ⟨hr, hh⟩ := i_ir H I_X8_other_98
          exact ⟨hr, hh⟩
        · exact absurd c_79 h0
      · exact absurd c_51 h0
    · exact absurd c_24 h0
  · exact absurd c_4 h0
theorem t_other_ok {d : Nat} {m : zM} {r : Option Value} {h' : zHp} {n p : Nat} {most x : Int32} (hE : rE m n) (hpn : p ≤ n) (hC : rC0 m n p) (hk : zNm (m 75) n p most = true) (hx : (x >>> (tV (m 75) n p &&& 31)) &&& 1 = 0) (H : zE none d zm_X8_other 0 [.ref 71, .int 0, .int most, .int x, .null] [] m r h') : ∃ m1, r = some (.int (tV (m 75) n p)) ∧ h' = zhp m1 ∧ rC m1 n (tN (m 75) n p) ∧ zg1015 m m1 := by
  obtain ⟨h4, h0, h12, h13, h14, h15⟩ := hC
  simp only [zNm, Bool.and_eq_true, decide_eq_true_eq, Bool.not_eq_true', decide_eq_false_iff_not] at hk
  rw [hk.1] at h14
  have h15 := h15 hk.1
  replace H := i_aln (q := 1) H I_X8_other_0 rfl rfl
  replace H := i_gfi (q := 4) H I_X8_other_1 G_8_63 cn_X8_other LY_71 rfl rfl
  have W := i_if_ne (t := 20) (q := 7) H I_X8_other_4 (by decide) rfl
  clear H
  rcases W with ⟨c_4, H⟩ | ⟨c_4, H⟩
  · exact absurd h0 c_4
  · skip
    replace H := i_aln (q := 8) H I_X8_other_7 rfl rfl
    replace H := i_gfi (q := 11) H I_X8_other_8 G_8_72 cn_X8_other LY_71 rfl rfl
    replace H := i_icst (x := 2) (q := 12) H I_X8_other_11 (by decide) rfl
    have W := i_ic_eq (t := 20) (q := 15) H I_X8_other_12 (by decide) rfl
    clear H
    rcases W with ⟨c_12, H⟩ | ⟨c_12, H⟩
    · skip
      replace H := i_aln (q := 21) H I_X8_other_20 rfl rfl
      replace H := i_gfi (q := 24) H I_X8_other_21 G_8_63 cn_X8_other LY_71 rfl rfl
      have W := i_if_ne (t := 47) (q := 27) H I_X8_other_24 (by decide) rfl
      clear H
      rcases W with ⟨c_24, H⟩ | ⟨c_24, H⟩
      · exact absurd h0 c_24
      · skip
        replace H := i_aln (q := 28) H I_X8_other_27 rfl rfl
        replace H := i_gfi (q := 31) H I_X8_other_28 G_8_82 cn_X8_other LY_71 rfl rfl
        replace H := i_i2l (q := 32) H I_X8_other_31 rfl
        replace H := i_iln (q := 33) H I_X8_other_32 rfl rfl
        replace H := i_i2l (q := 34) H I_X8_other_33 rfl
        replace H := i_iln (q := 35) H I_X8_other_34 rfl rfl
        replace H := i_i2l (q := 36) H I_X8_other_35 rfl
        replace H := i_in (q := 39) H I_X8_other_36 K_8_55 rfl
        have W := i_if_ne (t := 47) (q := 42) H I_X8_other_39 (by decide) rfl
        clear H
        rcases W with ⟨c_39, H⟩ | ⟨c_39, H⟩
        · skip
          replace H := i_aln (q := 48) H I_X8_other_47 rfl rfl
          replace H := i_gfi (q := 51) H I_X8_other_48 G_8_63 cn_X8_other LY_71 rfl rfl
          have W := i_if_ne (t := 75) (q := 54) H I_X8_other_51 (by decide) rfl
          clear H
          rcases W with ⟨c_51, H⟩ | ⟨c_51, H⟩
          · exact absurd h0 c_51
          · skip
            replace H := i_iln (q := 55) H I_X8_other_54 rfl rfl
            have W := i_if_eq (t := 75) (q := 58) H I_X8_other_55 (by decide) rfl
            clear H
            rcases W with ⟨c_55, H⟩ | ⟨c_55, H⟩
            · skip
              replace H := i_aln (q := 76) H I_X8_other_75 rfl rfl
              replace H := i_gfi (q := 79) H I_X8_other_76 G_8_63 cn_X8_other LY_71 rfl rfl
              have W := i_if_ne (t := 89) (q := 82) H I_X8_other_79 (by decide) rfl
              clear H
              rcases W with ⟨c_79, H⟩ | ⟨c_79, H⟩
              · exact absurd h0 c_79
              · skip
                replace H := i_aln (q := 83) H I_X8_other_82 rfl rfl
                replace H := i_gfi (q := 86) H I_X8_other_83 G_8_82 cn_X8_other LY_71 rfl rfl
                replace H := i_goto (q := 90) H I_X8_other_86 (by decide)
                replace H := i_is (q := 92) H I_X8_other_90 rfl rfl
                replace H := i_aln (q := 93) H I_X8_other_92 rfl rfl
                have W := i_cv0 1 (q := 96) H I_X8_other_93 K_8_97 Zm_120 rfl rfl
                clear H
                obtain ⟨r1, h1, Hc, K1, K2⟩ := W
                obtain ⟨M_93, e1, e2, F_93⟩ := t_step1 (n := n) (p := tN (m 75) n p) hE h0 h12 (tN_le hpn) Hc
                have H := K2 _ e1 e2
                clear e1 e2 Hc K1 K2
                replace H := i_il (q := 98) H I_X8_other_96 rfl rfl
                obtain ⟨hr, hh⟩ := i_ir H I_X8_other_98
                refine ⟨_, hr.trans ?_, hh, F_93⟩
                rw [h15]
            · skip
              replace H := i_iln (q := 59) H I_X8_other_58 rfl rfl
              replace H := i_aln (q := 60) H I_X8_other_59 rfl rfl
              replace H := i_gfi (q := 63) H I_X8_other_60 G_8_82 cn_X8_other LY_71 rfl rfl
              replace H := i_ishr (q := 64) H I_X8_other_63 rfl
              replace H := i_icst (x := 1) (q := 65) H I_X8_other_64 (by decide) rfl
              replace H := i_iand (q := 66) H I_X8_other_65 rfl
              replace H := i_icst (x := 1) (q := 67) H I_X8_other_66 (by decide) rfl
              have W := i_ic_ne (t := 75) (q := 70) H I_X8_other_67 (by decide) rfl
              clear H
              rcases W with ⟨c_67, H⟩ | ⟨c_67, H⟩
              · skip
                replace H := i_aln (q := 76) H I_X8_other_75 rfl rfl
                replace H := i_gfi (q := 79) H I_X8_other_76 G_8_63 cn_X8_other LY_71 rfl rfl
                have W := i_if_ne (t := 89) (q := 82) H I_X8_other_79 (by decide) rfl
                clear H
                rcases W with ⟨c_79, H⟩ | ⟨c_79, H⟩
                · exact absurd h0 c_79
                · skip
                  replace H := i_aln (q := 83) H I_X8_other_82 rfl rfl
                  replace H := i_gfi (q := 86) H I_X8_other_83 G_8_82 cn_X8_other LY_71 rfl rfl
                  replace H := i_goto (q := 90) H I_X8_other_86 (by decide)
                  replace H := i_is (q := 92) H I_X8_other_90 rfl rfl
                  replace H := i_aln (q := 93) H I_X8_other_92 rfl rfl
                  have W := i_cv0 1 (q := 96) H I_X8_other_93 K_8_97 Zm_120 rfl rfl
                  clear H
                  obtain ⟨r1, h1, Hc, K1, K2⟩ := W
                  obtain ⟨M_93, e1, e2, F_93⟩ := t_step1 (n := n) (p := tN (m 75) n p) hE h0 h12 (tN_le hpn) Hc
                  have H := K2 _ e1 e2
                  clear e1 e2 Hc K1 K2
                  replace H := i_il (q := 98) H I_X8_other_96 rfl rfl
                  obtain ⟨hr, hh⟩ := i_ir H I_X8_other_98
                  refine ⟨_, hr.trans ?_, hh, F_93⟩
                  rw [h15]
              · rw [h15, hx] at c_67
                exact absurd c_67 (by decide)
        · rw [h15, zin_V hk.1, if_neg hk.2] at c_39
          exact absurd c_39 (by decide)
    · exact absurd h14 c_12
theorem z_0sh {y : Int32} : ((0 : Int32) >>> y) &&& 1 = 0 := by
  rw [Int32.zero_shiftRight]
  decide
theorem t_other_b2 {d : Nat} {m : zM} {r : Option Value} {h' : zHp} {n p : Nat} {most x : Int32} (hC : rC0 m n p) (hk : ¬ tK (m 75) n p = 2) (H : zE none d zm_X8_other 0 [.ref 71, .int 0, .int most, .int x, .null] [] m r h') : ∃ m1, r = some (.int 0) ∧ h' = zhp m1 ∧ rF m1 (2, tS (m 75) n p) ∧ zg1015 m m1 := by
  obtain ⟨h4, h0, h12, h13, h14, h15⟩ := hC
  rw [← h14] at hk
  have hz : ∀ c y : Int32, zup (zup m 71 10 c) 71 11 y 71 10 = c := fun c y => by rw [zup_n (by omega), zup_s]
  replace H := i_aln (q := 1) H I_X8_other_0 rfl rfl
  replace H := i_gfi (q := 4) H I_X8_other_1 G_8_63 cn_X8_other LY_71 rfl rfl
  have W := i_if_ne (t := 20) (q := 7) H I_X8_other_4 (by decide) rfl
  clear H
  rcases W with ⟨c_4, H⟩ | ⟨c_4, H⟩
  · exact absurd h0 c_4
  · skip
    replace H := i_aln (q := 8) H I_X8_other_7 rfl rfl
    replace H := i_gfi (q := 11) H I_X8_other_8 G_8_72 cn_X8_other LY_71 rfl rfl
    replace H := i_icst (x := 2) (q := 12) H I_X8_other_11 (by decide) rfl
    have W := i_ic_eq (t := 20) (q := 15) H I_X8_other_12 (by decide) rfl
    clear H
    rcases W with ⟨c_12, H⟩ | ⟨c_12, H⟩
    · exact absurd c_12 hk
    · skip
      replace H := i_aln (q := 16) H I_X8_other_15 rfl rfl
      replace H := i_icst (x := 2) (q := 17) H I_X8_other_16 (by decide) rfl
      have W := i_cv1 0 (q := 20) H I_X8_other_17 K_8_93 Zm_118 rfl rfl
      clear H
      obtain ⟨r1, h1, Hc, K1, K2⟩ := W
      obtain ⟨e1, e2⟩ := t_fails0 h0 Hc
      have H := K2 _ e1 e2
      clear e1 e2 Hc K1 K2
      replace H := i_aln (q := 21) H I_X8_other_20 rfl rfl
      replace H := i_gfi (q := 24) H I_X8_other_21 G_8_63 cn_X8_other LY_71 rfl rfl
      have W := i_if_ne (t := 47) (q := 27) H I_X8_other_24 (by decide) rfl
      clear H
      rcases W with ⟨c_24, H⟩ | ⟨c_24, H⟩
      · skip
        replace H := i_aln (q := 48) H I_X8_other_47 rfl rfl
        replace H := i_gfi (q := 51) H I_X8_other_48 G_8_63 cn_X8_other LY_71 rfl rfl
        have W := i_if_ne (t := 75) (q := 54) H I_X8_other_51 (by decide) rfl
        clear H
        rcases W with ⟨c_51, H⟩ | ⟨c_51, H⟩
        · skip
          replace H := i_aln (q := 76) H I_X8_other_75 rfl rfl
          replace H := i_gfi (q := 79) H I_X8_other_76 G_8_63 cn_X8_other LY_71 rfl rfl
          have W := i_if_ne (t := 89) (q := 82) H I_X8_other_79 (by decide) rfl
          clear H
          rcases W with ⟨c_79, H⟩ | ⟨c_79, H⟩
          · skip
            replace H := i_iln (q := 90) H I_X8_other_89 rfl rfl
            replace H := i_is (q := 92) H I_X8_other_90 rfl rfl
            replace H := i_aln (q := 93) H I_X8_other_92 rfl rfl
            have W := i_cv0 1 (q := 96) H I_X8_other_93 K_8_97 Zm_120 rfl rfl
            clear H
            obtain ⟨r1, h1, Hc, K1, K2⟩ := W
            obtain ⟨e1, e2⟩ := t_X8_step0 (by rw [hz]; decide) Hc
            have H := K2 _ e1 e2
            clear e1 e2 Hc K1 K2
            replace H := i_il (q := 98) H I_X8_other_96 rfl rfl
            obtain ⟨hr, hh⟩ := i_ir H I_X8_other_98
            refine ⟨_, hr, hh, ⟨?_, ?_, (show (0 : Int32) < 2 by decide)⟩, fun a b hab => ?_⟩
            · rw [zup_n (by omega), zup_s]
            · rw [zup_s, h13]
            · rw [zup_n (by omega), zup_n (by omega)]
          · rw [hz] at c_79
            exact absurd c_79 (by decide)
        · rw [hz] at c_51
          exact absurd c_51 (by decide)
      · rw [hz] at c_24
        exact absurd c_24 (by decide)
theorem t_other_b3 {d : Nat} {m : zM} {r : Option Value} {h' : zHp} {n p : Nat} {most x : Int32} (hC : rC0 m n p) (hk : tK (m 75) n p = 2) (hv : most < tV (m 75) n p) (H : zE none d zm_X8_other 0 [.ref 71, .int 0, .int most, .int x, .null] [] m r h') : ∃ m1, r = some (.int 0) ∧ h' = zhp m1 ∧ rF m1 (3, tS (m 75) n p) ∧ zg1015 m m1 := by
  obtain ⟨h4, h0, h12, h13, h14, h15⟩ := hC
  rw [hk] at h14
  have h15 := h15 hk
  have hz : ∀ c y : Int32, zup (zup m 71 10 c) 71 11 y 71 10 = c := fun c y => by rw [zup_n (by omega), zup_s]
  replace H := i_aln (q := 1) H I_X8_other_0 rfl rfl
  replace H := i_gfi (q := 4) H I_X8_other_1 G_8_63 cn_X8_other LY_71 rfl rfl
  have W := i_if_ne (t := 20) (q := 7) H I_X8_other_4 (by decide) rfl
  clear H
  rcases W with ⟨c_4, H⟩ | ⟨c_4, H⟩
  · exact absurd h0 c_4
  · skip
    replace H := i_aln (q := 8) H I_X8_other_7 rfl rfl
    replace H := i_gfi (q := 11) H I_X8_other_8 G_8_72 cn_X8_other LY_71 rfl rfl
    replace H := i_icst (x := 2) (q := 12) H I_X8_other_11 (by decide) rfl
    have W := i_ic_eq (t := 20) (q := 15) H I_X8_other_12 (by decide) rfl
    clear H
    rcases W with ⟨c_12, H⟩ | ⟨c_12, H⟩
    · skip
      replace H := i_aln (q := 21) H I_X8_other_20 rfl rfl
      replace H := i_gfi (q := 24) H I_X8_other_21 G_8_63 cn_X8_other LY_71 rfl rfl
      have W := i_if_ne (t := 47) (q := 27) H I_X8_other_24 (by decide) rfl
      clear H
      rcases W with ⟨c_24, H⟩ | ⟨c_24, H⟩
      · exact absurd h0 c_24
      · skip
        replace H := i_aln (q := 28) H I_X8_other_27 rfl rfl
        replace H := i_gfi (q := 31) H I_X8_other_28 G_8_82 cn_X8_other LY_71 rfl rfl
        replace H := i_i2l (q := 32) H I_X8_other_31 rfl
        replace H := i_iln (q := 33) H I_X8_other_32 rfl rfl
        replace H := i_i2l (q := 34) H I_X8_other_33 rfl
        replace H := i_iln (q := 35) H I_X8_other_34 rfl rfl
        replace H := i_i2l (q := 36) H I_X8_other_35 rfl
        replace H := i_in (q := 39) H I_X8_other_36 K_8_55 rfl
        have W := i_if_ne (t := 47) (q := 42) H I_X8_other_39 (by decide) rfl
        clear H
        rcases W with ⟨c_39, H⟩ | ⟨c_39, H⟩
        · rw [h15, zin_V hk, if_pos hv] at c_39
          exact absurd rfl c_39
        · skip
          replace H := i_aln (q := 43) H I_X8_other_42 rfl rfl
          replace H := i_icst (x := 3) (q := 44) H I_X8_other_43 (by decide) rfl
          have W := i_cv1 0 (q := 47) H I_X8_other_44 K_8_93 Zm_118 rfl rfl
          clear H
          obtain ⟨r1, h1, Hc, K1, K2⟩ := W
          obtain ⟨e1, e2⟩ := t_fails0 h0 Hc
          have H := K2 _ e1 e2
          clear e1 e2 Hc K1 K2
          replace H := i_aln (q := 48) H I_X8_other_47 rfl rfl
          replace H := i_gfi (q := 51) H I_X8_other_48 G_8_63 cn_X8_other LY_71 rfl rfl
          have W := i_if_ne (t := 75) (q := 54) H I_X8_other_51 (by decide) rfl
          clear H
          rcases W with ⟨c_51, H⟩ | ⟨c_51, H⟩
          · skip
            replace H := i_aln (q := 76) H I_X8_other_75 rfl rfl
            replace H := i_gfi (q := 79) H I_X8_other_76 G_8_63 cn_X8_other LY_71 rfl rfl
            have W := i_if_ne (t := 89) (q := 82) H I_X8_other_79 (by decide) rfl
            clear H
            rcases W with ⟨c_79, H⟩ | ⟨c_79, H⟩
            · skip
              replace H := i_iln (q := 90) H I_X8_other_89 rfl rfl
              replace H := i_is (q := 92) H I_X8_other_90 rfl rfl
              replace H := i_aln (q := 93) H I_X8_other_92 rfl rfl
              have W := i_cv0 1 (q := 96) H I_X8_other_93 K_8_97 Zm_120 rfl rfl
              clear H
              obtain ⟨r1, h1, Hc, K1, K2⟩ := W
              obtain ⟨e1, e2⟩ := t_X8_step0 (by rw [hz]; decide) Hc
              have H := K2 _ e1 e2
              clear e1 e2 Hc K1 K2
              replace H := i_il (q := 98) H I_X8_other_96 rfl rfl
              obtain ⟨hr, hh⟩ := i_ir H I_X8_other_98
              refine ⟨_, hr, hh, ⟨?_, ?_, (show (0 : Int32) < 3 by decide)⟩, fun a b hab => ?_⟩
              · rw [zup_n (by omega), zup_s]
              · rw [zup_s, h13]
              · rw [zup_n (by omega), zup_n (by omega)]
            · rw [hz] at c_79
              exact absurd c_79 (by decide)
          · rw [hz] at c_51
            exact absurd c_51 (by decide)
    · exact absurd h14 c_12
theorem t_other_b4 {d : Nat} {m : zM} {r : Option Value} {h' : zHp} {n p : Nat} {most x : Int32} (hC : rC0 m n p) (hk : zNm (m 75) n p most = true) (hx : ¬ (x >>> (tV (m 75) n p &&& 31)) &&& 1 = 0) (H : zE none d zm_X8_other 0 [.ref 71, .int 0, .int most, .int x, .null] [] m r h') : ∃ m1, r = some (.int 0) ∧ h' = zhp m1 ∧ rF m1 (4, tS (m 75) n p) ∧ zg1015 m m1 := by
  obtain ⟨h4, h0, h12, h13, h14, h15⟩ := hC
  simp only [zNm, Bool.and_eq_true, decide_eq_true_eq, Bool.not_eq_true', decide_eq_false_iff_not] at hk
  rw [hk.1] at h14
  have h15 := h15 hk.1
  have hx1 : (x >>> (tV (m 75) n p &&& 31)) &&& 1 = 1 := (zbt01 _).resolve_left hx
  have hz : ∀ c y : Int32, zup (zup m 71 10 c) 71 11 y 71 10 = c := fun c y => by rw [zup_n (by omega), zup_s]
  replace H := i_aln (q := 1) H I_X8_other_0 rfl rfl
  replace H := i_gfi (q := 4) H I_X8_other_1 G_8_63 cn_X8_other LY_71 rfl rfl
  have W := i_if_ne (t := 20) (q := 7) H I_X8_other_4 (by decide) rfl
  clear H
  rcases W with ⟨c_4, H⟩ | ⟨c_4, H⟩
  · exact absurd h0 c_4
  · skip
    replace H := i_aln (q := 8) H I_X8_other_7 rfl rfl
    replace H := i_gfi (q := 11) H I_X8_other_8 G_8_72 cn_X8_other LY_71 rfl rfl
    replace H := i_icst (x := 2) (q := 12) H I_X8_other_11 (by decide) rfl
    have W := i_ic_eq (t := 20) (q := 15) H I_X8_other_12 (by decide) rfl
    clear H
    rcases W with ⟨c_12, H⟩ | ⟨c_12, H⟩
    · skip
      replace H := i_aln (q := 21) H I_X8_other_20 rfl rfl
      replace H := i_gfi (q := 24) H I_X8_other_21 G_8_63 cn_X8_other LY_71 rfl rfl
      have W := i_if_ne (t := 47) (q := 27) H I_X8_other_24 (by decide) rfl
      clear H
      rcases W with ⟨c_24, H⟩ | ⟨c_24, H⟩
      · exact absurd h0 c_24
      · skip
        replace H := i_aln (q := 28) H I_X8_other_27 rfl rfl
        replace H := i_gfi (q := 31) H I_X8_other_28 G_8_82 cn_X8_other LY_71 rfl rfl
        replace H := i_i2l (q := 32) H I_X8_other_31 rfl
        replace H := i_iln (q := 33) H I_X8_other_32 rfl rfl
        replace H := i_i2l (q := 34) H I_X8_other_33 rfl
        replace H := i_iln (q := 35) H I_X8_other_34 rfl rfl
        replace H := i_i2l (q := 36) H I_X8_other_35 rfl
        replace H := i_in (q := 39) H I_X8_other_36 K_8_55 rfl
        have W := i_if_ne (t := 47) (q := 42) H I_X8_other_39 (by decide) rfl
        clear H
        rcases W with ⟨c_39, H⟩ | ⟨c_39, H⟩
        · skip
          replace H := i_aln (q := 48) H I_X8_other_47 rfl rfl
          replace H := i_gfi (q := 51) H I_X8_other_48 G_8_63 cn_X8_other LY_71 rfl rfl
          have W := i_if_ne (t := 75) (q := 54) H I_X8_other_51 (by decide) rfl
          clear H
          rcases W with ⟨c_51, H⟩ | ⟨c_51, H⟩
          · exact absurd h0 c_51
          · skip
            replace H := i_iln (q := 55) H I_X8_other_54 rfl rfl
            have W := i_if_eq (t := 75) (q := 58) H I_X8_other_55 (by decide) rfl
            clear H
            rcases W with ⟨c_55, H⟩ | ⟨c_55, H⟩
            · exfalso
              rw [c_55] at hx
              revert hx
              rw [z_0sh]
              decide
            · skip
              replace H := i_iln (q := 59) H I_X8_other_58 rfl rfl
              replace H := i_aln (q := 60) H I_X8_other_59 rfl rfl
              replace H := i_gfi (q := 63) H I_X8_other_60 G_8_82 cn_X8_other LY_71 rfl rfl
              replace H := i_ishr (q := 64) H I_X8_other_63 rfl
              replace H := i_icst (x := 1) (q := 65) H I_X8_other_64 (by decide) rfl
              replace H := i_iand (q := 66) H I_X8_other_65 rfl
              replace H := i_icst (x := 1) (q := 67) H I_X8_other_66 (by decide) rfl
              have W := i_ic_ne (t := 75) (q := 70) H I_X8_other_67 (by decide) rfl
              clear H
              rcases W with ⟨c_67, H⟩ | ⟨c_67, H⟩
              · rw [h15] at c_67
                exact absurd hx1 c_67
              · skip
                replace H := i_aln (q := 71) H I_X8_other_70 rfl rfl
                replace H := i_icst (x := 4) (q := 72) H I_X8_other_71 (by decide) rfl
                have W := i_cv1 0 (q := 75) H I_X8_other_72 K_8_93 Zm_118 rfl rfl
                clear H
                obtain ⟨r1, h1, Hc, K1, K2⟩ := W
                obtain ⟨e1, e2⟩ := t_fails0 h0 Hc
                have H := K2 _ e1 e2
                clear e1 e2 Hc K1 K2
                replace H := i_aln (q := 76) H I_X8_other_75 rfl rfl
                replace H := i_gfi (q := 79) H I_X8_other_76 G_8_63 cn_X8_other LY_71 rfl rfl
                have W := i_if_ne (t := 89) (q := 82) H I_X8_other_79 (by decide) rfl
                clear H
                rcases W with ⟨c_79, H⟩ | ⟨c_79, H⟩
                · skip
                  replace H := i_iln (q := 90) H I_X8_other_89 rfl rfl
                  replace H := i_is (q := 92) H I_X8_other_90 rfl rfl
                  replace H := i_aln (q := 93) H I_X8_other_92 rfl rfl
                  have W := i_cv0 1 (q := 96) H I_X8_other_93 K_8_97 Zm_120 rfl rfl
                  clear H
                  obtain ⟨r1, h1, Hc, K1, K2⟩ := W
                  obtain ⟨e1, e2⟩ := t_X8_step0 (by rw [hz]; decide) Hc
                  have H := K2 _ e1 e2
                  clear e1 e2 Hc K1 K2
                  replace H := i_il (q := 98) H I_X8_other_96 rfl rfl
                  obtain ⟨hr, hh⟩ := i_ir H I_X8_other_98
                  refine ⟨_, hr, hh, ⟨?_, ?_, (show (0 : Int32) < 4 by decide)⟩, fun a b hab => ?_⟩
                  · rw [zup_n (by omega), zup_s]
                  · rw [zup_s, h13]
                  · rw [zup_n (by omega), zup_n (by omega)]
                · rw [hz] at c_79
                  exact absurd c_79 (by decide)
        · rw [h15, zin_V hk.1, if_neg hk.2] at c_39
          exact absurd c_39 (by decide)
    · exact absurd h14 c_12
/-- a number is wanted: up to most, not one of x -/
def pOth (t : Nat → Int32) (n p : Nat) (most x : Int32) : (Int32 × Nat) ⊕ Int32 := if zNm t n p most = true then (if (x >>> (tV t n p &&& 31)) &&& 1 = 0 then .inr (tV t n p) else .inl (4, tS t n p)) else .inl (zfn t n p)
theorem t_other {d : Nat} {m : zM} {r : Option Value} {h' : zHp} {n p : Nat} {most x : Int32} (hE : rE m n) (hC : rC m n p) (H : zE none d zm_X8_other 0 [.ref 71, .int 0, .int most, .int x, .null] [] m r h') : ∃ m1 v, r = some (.int v) ∧ h' = zhp m1 ∧ zg1015 m m1 ∧ ((pOth (m 75) n p most x = .inr v ∧ rC m1 n (tN (m 75) n p)) ∨ ∃ f, pOth (m 75) n p most x = .inl f ∧ rF m1 f) := by
  obtain ⟨hpn, hC | ⟨hk, hF⟩⟩ := hC
  · by_cases hn : zNm (m 75) n p most = true
    · by_cases hx : (x >>> (tV (m 75) n p &&& 31)) &&& 1 = 0
      · obtain ⟨m1, x1, x2, x3, x4⟩ := t_other_ok hE hpn hC hn hx H
        exact ⟨m1, _, x1, x2, x4, Or.inl ⟨by rw [pOth, if_pos hn, if_pos hx], x3⟩⟩
      · obtain ⟨m1, x1, x2, x3, x4⟩ := t_other_b4 hC hn hx H
        exact ⟨m1, _, x1, x2, x4, Or.inr ⟨_, by rw [pOth, if_pos hn, if_neg hx], x3⟩⟩
    · by_cases hk : tK (m 75) n p = 2
      · have hv : most < tV (m 75) n p := by
          simp only [zNm, hk, decide_true, Bool.true_and, Bool.not_eq_true', decide_eq_false_iff_not] at hn
          exact Decidable.not_not.mp hn
        obtain ⟨m1, x1, x2, x3, x4⟩ := t_other_b3 hC hk hv H
        exact ⟨m1, _, x1, x2, x4, Or.inr ⟨_, by rw [pOth, if_neg hn], by rw [zfn, if_pos hk]; exact x3⟩⟩
      · obtain ⟨m1, x1, x2, x3, x4⟩ := t_other_b2 hC hk H
        exact ⟨m1, _, x1, x2, x4, Or.inr ⟨_, by rw [pOth, if_neg hn], by rw [zfn, if_neg hk, zfk, if_neg hC.1]; exact x3⟩⟩
  · have h2 : ¬ tK (m 75) n p = 2 := by rw [hk]; decide
    have hn : ¬ zNm (m 75) n p most = true := by simp [zNm, h2]
    obtain ⟨x1, x2⟩ := t_other_br hF H
    exact ⟨m, _, x1, x2, fun _ _ _ => rfl, Or.inr ⟨_, by rw [pOth, if_neg hn], by rw [zfn, if_neg h2, zfk, if_pos hk]; exact hF⟩⟩
