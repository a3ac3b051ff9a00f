/-! the class's lines -/
theorem It_X0_join : zm_X0_join.2.2.2.2.2 = zt_X0_join := by
  unfold zm_X0_join
  rfl
theorem It_X2_fail : zm_X2_fail.2.2.2.2.2 = zt_X2_fail := by
  unfold zm_X2_fail
  rfl
theorem It_X2_failToken : zm_X2_failToken.2.2.2.2.2 = zt_X2_failToken := by
  unfold zm_X2_failToken
  rfl
theorem It_X2_wantsNumber : zm_X2_wantsNumber.2.2.2.2.2 = zt_X2_wantsNumber := by
  unfold zm_X2_wantsNumber
  rfl
theorem It_X2_wantsStop : zm_X2_wantsStop.2.2.2.2.2 = zt_X2_wantsStop := by
  unfold zm_X2_wantsStop
  rfl
theorem I_X0_join_0 : zin zm_X0_join.2.2.2.2.2 0 = some (.aload_n 0, 1) := by rw [It_X0_join]; rfl
theorem I_X0_join_1 : zin zm_X0_join.2.2.2.2.2 1 = some (.getfield 11, 3) := by rw [It_X0_join]; rfl
theorem I_X0_join_4 : zin zm_X0_join.2.2.2.2.2 4 = some (.aload_n 0, 1) := by rw [It_X0_join]; rfl
theorem I_X0_join_5 : zin zm_X0_join.2.2.2.2.2 5 = some (.getfield 26, 3) := by rw [It_X0_join]; rfl
theorem I_X0_join_8 : zin zm_X0_join.2.2.2.2.2 8 = some (.aaload, 1) := by rw [It_X0_join]; rfl
theorem I_X0_join_9 : zin zm_X0_join.2.2.2.2.2 9 = some (.astore 4, 2) := by rw [It_X0_join]; rfl
theorem I_X0_join_11 : zin zm_X0_join.2.2.2.2.2 11 = some (.aload 4, 2) := by rw [It_X0_join]; rfl
theorem I_X0_join_13 : zin zm_X0_join.2.2.2.2.2 13 = some (.iload_n 1, 1) := by rw [It_X0_join]; rfl
theorem I_X0_join_14 : zin zm_X0_join.2.2.2.2.2 14 = some (.putfield 39, 3) := by rw [It_X0_join]; rfl
theorem I_X0_join_17 : zin zm_X0_join.2.2.2.2.2 17 = some (.aload 4, 2) := by rw [It_X0_join]; rfl
theorem I_X0_join_19 : zin zm_X0_join.2.2.2.2.2 19 = some (.iload_n 2, 1) := by rw [It_X0_join]; rfl
theorem I_X0_join_20 : zin zm_X0_join.2.2.2.2.2 20 = some (.putfield 42, 3) := by rw [It_X0_join]; rfl
theorem I_X0_join_23 : zin zm_X0_join.2.2.2.2.2 23 = some (.aload 4, 2) := by rw [It_X0_join]; rfl
theorem I_X0_join_25 : zin zm_X0_join.2.2.2.2.2 25 = some (.iload_n 3, 1) := by rw [It_X0_join]; rfl
theorem I_X0_join_26 : zin zm_X0_join.2.2.2.2.2 26 = some (.putfield 45, 3) := by rw [It_X0_join]; rfl
theorem I_X0_join_29 : zin zm_X0_join.2.2.2.2.2 29 = some (.aload 4, 2) := by rw [It_X0_join]; rfl
theorem I_X0_join_31 : zin zm_X0_join.2.2.2.2.2 31 = some (.iconst 0, 1) := by rw [It_X0_join]; rfl
theorem I_X0_join_32 : zin zm_X0_join.2.2.2.2.2 32 = some (.putfield 48, 3) := by rw [It_X0_join]; rfl
theorem I_X0_join_35 : zin zm_X0_join.2.2.2.2.2 35 = some (.aload_n 0, 1) := by rw [It_X0_join]; rfl
theorem I_X0_join_36 : zin zm_X0_join.2.2.2.2.2 36 = some (.dup, 1) := by rw [It_X0_join]; rfl
theorem I_X0_join_37 : zin zm_X0_join.2.2.2.2.2 37 = some (.getfield 26, 3) := by rw [It_X0_join]; rfl
theorem I_X0_join_40 : zin zm_X0_join.2.2.2.2.2 40 = some (.iconst 1, 1) := by rw [It_X0_join]; rfl
theorem I_X0_join_41 : zin zm_X0_join.2.2.2.2.2 41 = some (.iadd, 1) := by rw [It_X0_join]; rfl
theorem I_X0_join_42 : zin zm_X0_join.2.2.2.2.2 42 = some (.putfield 26, 3) := by rw [It_X0_join]; rfl
theorem I_X0_join_45 : zin zm_X0_join.2.2.2.2.2 45 = some (.return_, 1) := by rw [It_X0_join]; rfl
theorem I_X2_fail_0 : zin zm_X2_fail.2.2.2.2.2 0 = some (.aload_n 0, 1) := by rw [It_X2_fail]; rfl
theorem I_X2_fail_1 : zin zm_X2_fail.2.2.2.2.2 1 = some (.iload_n 1, 1) := by rw [It_X2_fail]; rfl
theorem I_X2_fail_2 : zin zm_X2_fail.2.2.2.2.2 2 = some (.putfield 32, 3) := by rw [It_X2_fail]; rfl
theorem I_X2_fail_5 : zin zm_X2_fail.2.2.2.2.2 5 = some (.aload_n 0, 1) := by rw [It_X2_fail]; rfl
theorem I_X2_fail_6 : zin zm_X2_fail.2.2.2.2.2 6 = some (.iload_n 2, 1) := by rw [It_X2_fail]; rfl
theorem I_X2_fail_7 : zin zm_X2_fail.2.2.2.2.2 7 = some (.putfield 35, 3) := by rw [It_X2_fail]; rfl
theorem I_X2_fail_10 : zin zm_X2_fail.2.2.2.2.2 10 = some (.iconst 0, 1) := by rw [It_X2_fail]; rfl
theorem I_X2_fail_11 : zin zm_X2_fail.2.2.2.2.2 11 = some (.ireturn, 1) := by rw [It_X2_fail]; rfl
theorem I_X2_failToken_0 : zin zm_X2_failToken.2.2.2.2.2 0 = some (.aload_n 0, 1) := by rw [It_X2_failToken]; rfl
theorem I_X2_failToken_1 : zin zm_X2_failToken.2.2.2.2.2 1 = some (.aload_n 0, 1) := by rw [It_X2_failToken]; rfl
theorem I_X2_failToken_2 : zin zm_X2_failToken.2.2.2.2.2 2 = some (.getfield 51, 3) := by rw [It_X2_failToken]; rfl
theorem I_X2_failToken_5 : zin zm_X2_failToken.2.2.2.2.2 5 = some (.iconst 4, 1) := by rw [It_X2_failToken]; rfl
theorem I_X2_failToken_6 : zin zm_X2_failToken.2.2.2.2.2 6 = some (.if_icmp .ne 7, 3) := by rw [It_X2_failToken]; rfl
theorem I_X2_failToken_9 : zin zm_X2_failToken.2.2.2.2.2 9 = some (.iconst 1, 1) := by rw [It_X2_failToken]; rfl
theorem I_X2_failToken_10 : zin zm_X2_failToken.2.2.2.2.2 10 = some (.goto 4, 3) := by rw [It_X2_failToken]; rfl
theorem I_X2_failToken_13 : zin zm_X2_failToken.2.2.2.2.2 13 = some (.iconst 2, 1) := by rw [It_X2_failToken]; rfl
theorem I_X2_failToken_14 : zin zm_X2_failToken.2.2.2.2.2 14 = some (.aload_n 0, 1) := by rw [It_X2_failToken]; rfl
theorem I_X2_failToken_15 : zin zm_X2_failToken.2.2.2.2.2 15 = some (.getfield 102, 3) := by rw [It_X2_failToken]; rfl
theorem I_X2_failToken_18 : zin zm_X2_failToken.2.2.2.2.2 18 = some (.invokevirtual 74, 3) := by rw [It_X2_failToken]; rfl
theorem I_X2_failToken_21 : zin zm_X2_failToken.2.2.2.2.2 21 = some (.ireturn, 1) := by rw [It_X2_failToken]; rfl
theorem I_X2_wantsNumber_0 : zin zm_X2_wantsNumber.2.2.2.2.2 0 = some (.aload_n 0, 1) := by rw [It_X2_wantsNumber]; rfl
theorem I_X2_wantsNumber_1 : zin zm_X2_wantsNumber.2.2.2.2.2 1 = some (.invokevirtual 48, 3) := by rw [It_X2_wantsNumber]; rfl
theorem I_X2_wantsNumber_4 : zin zm_X2_wantsNumber.2.2.2.2.2 4 = some (.aload_n 0, 1) := by rw [It_X2_wantsNumber]; rfl
theorem I_X2_wantsNumber_5 : zin zm_X2_wantsNumber.2.2.2.2.2 5 = some (.getfield 51, 3) := by rw [It_X2_wantsNumber]; rfl
theorem I_X2_wantsNumber_8 : zin zm_X2_wantsNumber.2.2.2.2.2 8 = some (.iconst 2, 1) := by rw [It_X2_wantsNumber]; rfl
theorem I_X2_wantsNumber_9 : zin zm_X2_wantsNumber.2.2.2.2.2 9 = some (.if_icmp .eq 8, 3) := by rw [It_X2_wantsNumber]; rfl
theorem I_X2_wantsNumber_12 : zin zm_X2_wantsNumber.2.2.2.2.2 12 = some (.aload_n 0, 1) := by rw [It_X2_wantsNumber]; rfl
theorem I_X2_wantsNumber_13 : zin zm_X2_wantsNumber.2.2.2.2.2 13 = some (.invokevirtual 82, 3) := by rw [It_X2_wantsNumber]; rfl
theorem I_X2_wantsNumber_16 : zin zm_X2_wantsNumber.2.2.2.2.2 16 = some (.ireturn, 1) := by rw [It_X2_wantsNumber]; rfl
theorem I_X2_wantsNumber_17 : zin zm_X2_wantsNumber.2.2.2.2.2 17 = some (.aload_n 0, 1) := by rw [It_X2_wantsNumber]; rfl
theorem I_X2_wantsNumber_18 : zin zm_X2_wantsNumber.2.2.2.2.2 18 = some (.getfield 105, 3) := by rw [It_X2_wantsNumber]; rfl
theorem I_X2_wantsNumber_21 : zin zm_X2_wantsNumber.2.2.2.2.2 21 = some (.iload_n 1, 1) := by rw [It_X2_wantsNumber]; rfl
theorem I_X2_wantsNumber_22 : zin zm_X2_wantsNumber.2.2.2.2.2 22 = some (.if_icmp .le 15, 3) := by rw [It_X2_wantsNumber]; rfl
theorem I_X2_wantsNumber_25 : zin zm_X2_wantsNumber.2.2.2.2.2 25 = some (.aload_n 0, 1) := by rw [It_X2_wantsNumber]; rfl
theorem I_X2_wantsNumber_26 : zin zm_X2_wantsNumber.2.2.2.2.2 26 = some (.iconst 3, 1) := by rw [It_X2_wantsNumber]; rfl
theorem I_X2_wantsNumber_27 : zin zm_X2_wantsNumber.2.2.2.2.2 27 = some (.aload_n 0, 1) := by rw [It_X2_wantsNumber]; rfl
theorem I_X2_wantsNumber_28 : zin zm_X2_wantsNumber.2.2.2.2.2 28 = some (.getfield 102, 3) := by rw [It_X2_wantsNumber]; rfl
theorem I_X2_wantsNumber_31 : zin zm_X2_wantsNumber.2.2.2.2.2 31 = some (.invokevirtual 74, 3) := by rw [It_X2_wantsNumber]; rfl
theorem I_X2_wantsNumber_34 : zin zm_X2_wantsNumber.2.2.2.2.2 34 = some (.ifCond .eq 7, 3) := by rw [It_X2_wantsNumber]; rfl
theorem I_X2_wantsNumber_37 : zin zm_X2_wantsNumber.2.2.2.2.2 37 = some (.iconst 1, 1) := by rw [It_X2_wantsNumber]; rfl
theorem I_X2_wantsNumber_38 : zin zm_X2_wantsNumber.2.2.2.2.2 38 = some (.goto 4, 3) := by rw [It_X2_wantsNumber]; rfl
theorem I_X2_wantsNumber_41 : zin zm_X2_wantsNumber.2.2.2.2.2 41 = some (.iconst 0, 1) := by rw [It_X2_wantsNumber]; rfl
theorem I_X2_wantsNumber_42 : zin zm_X2_wantsNumber.2.2.2.2.2 42 = some (.ireturn, 1) := by rw [It_X2_wantsNumber]; rfl
theorem I_X2_wantsStop_0 : zin zm_X2_wantsStop.2.2.2.2.2 0 = some (.aload_n 0, 1) := by rw [It_X2_wantsStop]; rfl
theorem I_X2_wantsStop_1 : zin zm_X2_wantsStop.2.2.2.2.2 1 = some (.invokevirtual 48, 3) := by rw [It_X2_wantsStop]; rfl
theorem I_X2_wantsStop_4 : zin zm_X2_wantsStop.2.2.2.2.2 4 = some (.aload_n 0, 1) := by rw [It_X2_wantsStop]; rfl
theorem I_X2_wantsStop_5 : zin zm_X2_wantsStop.2.2.2.2.2 5 = some (.getfield 51, 3) := by rw [It_X2_wantsStop]; rfl
theorem I_X2_wantsStop_8 : zin zm_X2_wantsStop.2.2.2.2.2 8 = some (.iconst 3, 1) := by rw [It_X2_wantsStop]; rfl
theorem I_X2_wantsStop_9 : zin zm_X2_wantsStop.2.2.2.2.2 9 = some (.if_icmp .eq 10, 3) := by rw [It_X2_wantsStop]; rfl
theorem I_X2_wantsStop_12 : zin zm_X2_wantsStop.2.2.2.2.2 12 = some (.aload_n 0, 1) := by rw [It_X2_wantsStop]; rfl
theorem I_X2_wantsStop_13 : zin zm_X2_wantsStop.2.2.2.2.2 13 = some (.invokevirtual 82, 3) := by rw [It_X2_wantsStop]; rfl
theorem I_X2_wantsStop_16 : zin zm_X2_wantsStop.2.2.2.2.2 16 = some (.ifCond .eq 7, 3) := by rw [It_X2_wantsStop]; rfl
theorem I_X2_wantsStop_19 : zin zm_X2_wantsStop.2.2.2.2.2 19 = some (.iconst 1, 1) := by rw [It_X2_wantsStop]; rfl
theorem I_X2_wantsStop_20 : zin zm_X2_wantsStop.2.2.2.2.2 20 = some (.goto 4, 3) := by rw [It_X2_wantsStop]; rfl
theorem I_X2_wantsStop_23 : zin zm_X2_wantsStop.2.2.2.2.2 23 = some (.iconst 0, 1) := by rw [It_X2_wantsStop]; rfl
theorem I_X2_wantsStop_24 : zin zm_X2_wantsStop.2.2.2.2.2 24 = some (.ireturn, 1) := by rw [It_X2_wantsStop]; rfl
theorem G_0_39 : zlk zfls 0 39 = some (1, 0, 96) := rfl
theorem G_0_42 : zlk zfls 0 42 = some (1, 1, 99) := rfl
theorem G_0_45 : zlk zfls 0 45 = some (1, 2, 102) := rfl
theorem G_0_48 : zlk zfls 0 48 = some (1, 3, 105) := rfl
theorem G_2_32 : zlk zfls 2 32 = some (2, 4, 159) := rfl
theorem G_2_35 : zlk zfls 2 35 = some (2, 5, 161) := rfl
theorem K_2_48 : zlk zmls 2 48 = some (0, 37, 0, 347) := rfl
theorem K_2_74 : zlk zmls 2 74 = some (0, 27, 2, 361) := rfl
theorem K_2_82 : zlk zmls 2 82 = some (0, 30, 0, 373) := rfl
theorem Zm_27 : zms[27]? = some zm_X2_fail := rfl
theorem Zm_30 : zms[30]? = some zm_X2_failToken := rfl
theorem Zm_37 : zms[37]? = some zm_X2_next := rfl
theorem cl_X0_join : zm_X0_join.2.2.2.2.1 = 0 := by
  unfold zm_X0_join
  rfl
theorem cn_X0_join : zm_X0_join.2.2.2.2.1 ≠ 12 := by
  rw [cl_X0_join]
  decide
theorem cn2_X0_join : zm_X0_join.2.2.2.2.1 ≠ 2 := by
  rw [cl_X0_join]
  decide
theorem cl_X2_fail : zm_X2_fail.2.2.2.2.1 = 2 := by
  unfold zm_X2_fail
  rfl
theorem cn_X2_fail : zm_X2_fail.2.2.2.2.1 ≠ 12 := by
  rw [cl_X2_fail]
  decide
theorem cl_X2_failToken : zm_X2_failToken.2.2.2.2.1 = 2 := by
  unfold zm_X2_failToken
  rfl
theorem cn_X2_failToken : zm_X2_failToken.2.2.2.2.1 ≠ 12 := by
  rw [cl_X2_failToken]
  decide
theorem cl_X2_wantsNumber : zm_X2_wantsNumber.2.2.2.2.1 = 2 := by
  unfold zm_X2_wantsNumber
  rfl
theorem cn_X2_wantsNumber : zm_X2_wantsNumber.2.2.2.2.1 ≠ 12 := by
  rw [cl_X2_wantsNumber]
  decide
theorem cl_X2_wantsStop : zm_X2_wantsStop.2.2.2.2.1 = 2 := by
  unfold zm_X2_wantsStop
  rfl
theorem cn_X2_wantsStop : zm_X2_wantsStop.2.2.2.2.1 ≠ 12 := by
  rw [cl_X2_wantsStop]
  decide
theorem zif1 {P : Prop} {_ : Decidable P} (h : ¬ (if P then (1 : Int32) else 0) = 0) : P := by
  by_cases hp : P
  · exact hp
  · rw [if_neg hp] at h
    exact absurd rfl h
theorem zif0 {P : Prop} {_ : Decidable P} (h : (if P then (1 : Int32) else 0) = 0) : ¬ P := fun hp => by
  rw [if_pos hp] at h
  exact absurd h (by decide)
theorem tS_ge {t : Nat → Int32} {n p : Nat} : p ≤ tS t n p := tE_ge
theorem tS_le {t : Nat → Int32} {n p : Nat} (h : p ≤ n) : tS t n p ≤ n := tE_le h
theorem tNs_ge {t : Nat → Int32} {n s : Nat} : s ≤ tNs t n s := by
  unfold tNs
  split
  · omega
  · split
    · exact Nat.le_trans (Nat.le_succ s) tE_ge
    · split
      · exact Nat.le_trans (Nat.le_succ s) tE_ge
      · omega
theorem tNs_gt {t : Nat → Int32} {n s : Nat} (h : ¬ tKs t n s = 0) : s + 1 ≤ tNs t n s := by
  unfold tNs
  unfold tKs at h
  split
  · rename_i hn
    rw [if_pos hn] at h
    exact absurd rfl h
  · split
    · exact tE_ge
    · split
      · exact tE_ge
      · omega
theorem tNs_le {t : Nat → Int32} {n s : Nat} (h : s ≤ n) : tNs t n s ≤ n := by
  unfold tNs
  split
  · omega
  · split
    · exact tE_le (by omega)
    · split
      · exact tE_le (by omega)
      · omega
theorem tN_le {t : Nat → Int32} {n p : Nat} (h : p ≤ n) : tN t n p ≤ n := tNs_le (tS_le h)
theorem tN_ge {t : Nat → Int32} {n p : Nat} : tS t n p ≤ tN t n p := tNs_ge
theorem tN_gt {t : Nat → Int32} {n p : Nat} (h : ¬ tK t n p = 0) : p + 1 ≤ tN t n p := Nat.le_trans (Nat.add_le_add_right tS_ge 1) (tNs_gt h)
def zfk (k : Int32) : Int32 := if k = 4 then 1 else 2
/-- the fault where a number up to most was wanted -/
def zfn (t : Nat → Int32) (n p : Nat) : Int32 × Nat := (if tK t n p = 2 then 3 else zfk (tK t n p), tS t n p)
def zft (t : Nat → Int32) (n p : Nat) : Int32 × Nat := (zfk (tK t n p), tS t n p)
/-- a number is there, and no more than most -/
def zNm (t : Nat → Int32) (n p : Nat) (most : Int32) : Bool := decide (tK t n p = 2) && !decide (most < tV t n p)
/-- the tape's length, the place -/
def zPl (m : zM) (n p : Nat) : Prop := m 1 2 = Int32.ofNat n ∧ n ≤ 160 ∧ m 1 6 = Int32.ofNat p ∧ p ≤ n
def zf49 (m m1 : zM) : Prop := ∀ a b, ¬ (a = 1 ∧ 4 ≤ b ∧ b ≤ 9) → m1 a b = m a b
theorem zPl_s {m m1 : zM} {n p q : Nat} (h : zPl m n p) (hf : zf49 m m1) (hq : m1 1 6 = Int32.ofNat q) (hq2 : q ≤ n) : zPl m1 n q := ⟨by rw [hf 1 2 (by omega)]; exact h.1, h.2.1, hq, hq2⟩
theorem zf49_t {m m1 m2 : zM} (h1 : zf49 m m1) (h2 : zf49 m1 m2) : zf49 m m2 := fun a b hab => (h2 a b hab).trans (h1 a b hab)
theorem zf49_2 {m m1 : zM} (h : zf49 m m1) : m1 2 = m 2 := by funext b; exact h 2 b (by omega)
def gset (g : Nat → Int32) (k : Nat) (v : Int32) : Nat → Int32 := fun i => if i = k then v else g i
theorem gset_s (g : Nat → Int32) (k : Nat) (v : Int32) : gset g k v k = v := by simp [gset]
theorem gset_n {g : Nat → Int32} {k i : Nat} {v : Int32} (h : ¬ i = k) : gset g k v i = g i := by simp [gset, h]
theorem t_X2_fail {d : Nat} {m : zM} {r : Option Value} {h' : zHp} {a b : Int32}  (H : zE none d zm_X2_fail 0 [.ref 1, .int a, .int b] [] m r h') : r = some (.int 0) ∧ h' = zhp (zup (zup m 1 4 a) 1 5 b) := by
  replace H := i_aln (q := 1) H I_X2_fail_0 rfl rfl
  replace H := i_iln (q := 2) H I_X2_fail_1 rfl rfl
  replace H := i_pf (q := 5) H I_X2_fail_2 G_2_32 cn_X2_fail LY_1 rfl rfl
  replace H := i_aln (q := 6) H I_X2_fail_5 rfl rfl
  replace H := i_iln (q := 7) H I_X2_fail_6 rfl rfl
  replace H := i_pf (q := 10) H I_X2_fail_7 G_2_35 cn_X2_fail LY_1 rfl rfl
  replace H := i_icst (x := 0) (q := 11) H I_X2_fail_10 (by decide) rfl
  obtain ⟨hr, hh⟩ := i_ir H I_X2_fail_11
  exact ⟨hr, hh⟩
theorem t_X2_failToken {d : Nat} {m : zM} {r : Option Value} {h' : zHp}   (H : zE none d zm_X2_failToken 0 [.ref 1] [] m r h') : r = some (.int 0) ∧ h' = zhp (zup (zup m 1 4 (zfk (m 1 7))) 1 5 (m 1 8)) := by
  replace H := i_aln (q := 1) H I_X2_failToken_0 rfl rfl
  replace H := i_aln (q := 2) H I_X2_failToken_1 rfl rfl
  replace H := i_gfi (q := 5) H I_X2_failToken_2 G_2_51 cn_X2_failToken LY_1 rfl rfl
  replace H := i_icst (x := 4) (q := 6) H I_X2_failToken_5 (by decide) rfl
  have W := i_ic_ne (t := 13) (q := 9) H I_X2_failToken_6 (by decide) rfl
  clear H
  rcases W with ⟨c_6, H⟩ | ⟨c_6, H⟩
  · skip
    replace H := i_icst (x := 2) (q := 14) H I_X2_failToken_13 (by decide) rfl
    replace H := i_aln (q := 15) H I_X2_failToken_14 rfl rfl
    replace H := i_gfi (q := 18) H I_X2_failToken_15 G_2_102 cn_X2_failToken LY_1 rfl rfl
    have W := i_cv2 0 (q := 21) H I_X2_failToken_18 K_2_74 Zm_27 rfl rfl
    clear H
    obtain ⟨r1, h1, Hc, K1, K2⟩ := W
    obtain ⟨e1, e2⟩ := t_X2_fail Hc
    have H := K1 _ _ e1 e2
    clear e1 e2 Hc K1 K2
    obtain ⟨hr, hh⟩ := i_ir H I_X2_failToken_21
    refine ⟨hr, hh.trans ?_⟩
    simp [zfk, *]
  · skip
    replace H := i_icst (x := 1) (q := 10) H I_X2_failToken_9 (by decide) rfl
    replace H := i_goto (q := 14) H I_X2_failToken_10 (by decide)
    replace H := i_aln (q := 15) H I_X2_failToken_14 rfl rfl
    replace H := i_gfi (q := 18) H I_X2_failToken_15 G_2_102 cn_X2_failToken LY_1 rfl rfl
    have W := i_cv2 0 (q := 21) H I_X2_failToken_18 K_2_74 Zm_27 rfl rfl
    clear H
    obtain ⟨r1, h1, Hc, K1, K2⟩ := W
    obtain ⟨e1, e2⟩ := t_X2_fail Hc
    have H := K1 _ _ e1 e2
    clear e1 e2 Hc K1 K2
    obtain ⟨hr, hh⟩ := i_ir H I_X2_failToken_21
    refine ⟨hr, hh.trans ?_⟩
    simp [zfk, *]
theorem t_X2_wantsStop {d : Nat} {m : zM} {r : Option Value} {h' : zHp} {n p : Nat} (hq : zPl m n p) (H : zE none d zm_X2_wantsStop 0 [.ref 1] [] m r h') : ∃ m1, r = some (.int (if tK (m 2) n p = 3 then 1 else 0)) ∧ h' = zhp m1 ∧ zf49 m m1 ∧ m1 1 6 = Int32.ofNat (tN (m 2) n p) ∧ (¬ tK (m 2) n p = 3 → m1 1 4 = (zft (m 2) n p).1 ∧ m1 1 5 = Int32.ofNat (zft (m 2) n p).2) ∧ (tK (m 2) n p = 3 → m1 1 4 = m 1 4) := by
  replace H := i_aln (q := 1) H I_X2_wantsStop_0 rfl rfl
  have W := i_cv0 1 (q := 4) H I_X2_wantsStop_1 K_2_48 Zm_37 rfl rfl
  clear H
  obtain ⟨r1, h1, Hc, K1, K2⟩ := W
  obtain ⟨M_1, e1, e2, F_1⟩ := t_X2_next (n := n) (p := p) hq.1 hq.2.1 hq.2.2.1 hq.2.2.2 Hc
  have H := K2 _ e1 e2
  clear e1 e2 Hc K1 K2
  replace H := i_aln (q := 5) H I_X2_wantsStop_4 rfl rfl
  replace H := i_gfi (q := 8) H I_X2_wantsStop_5 G_2_51 cn_X2_wantsStop LY_1 rfl rfl
  replace H := i_icst (x := 3) (q := 9) H I_X2_wantsStop_8 (by decide) rfl
  have W := i_ic_eq (t := 19) (q := 12) H I_X2_wantsStop_9 (by decide) rfl
  clear H
  rcases W with ⟨c_9, H⟩ | ⟨c_9, H⟩
  · skip
    replace H := i_icst (x := 1) (q := 20) H I_X2_wantsStop_19 (by decide) rfl
    replace H := i_goto (q := 24) H I_X2_wantsStop_20 (by decide)
    obtain ⟨hr, hh⟩ := i_ir H I_X2_wantsStop_24
    obtain ⟨f6, f7, f8, f9, ff⟩ := F_1
    rw [f7] at c_9
    refine ⟨_, hr.trans ?_, hh, fun a b hab => ff a b (by omega), f6, fun h => absurd c_9 h, fun _ => ff 1 4 (by omega)⟩
    rw [if_pos c_9]
  · skip
    replace H := i_aln (q := 13) H I_X2_wantsStop_12 rfl rfl
    have W := i_cv0 0 (q := 16) H I_X2_wantsStop_13 K_2_82 Zm_30 rfl rfl
    clear H
    obtain ⟨r1, h1, Hc, K1, K2⟩ := W
    obtain ⟨e1, e2⟩ := t_X2_failToken Hc
    have H := K1 _ _ e1 e2
    clear e1 e2 Hc K1 K2
    have W := i_if_eq (t := 23) (q := 19) H I_X2_wantsStop_16 (by decide) rfl
    clear H
    rcases W with ⟨c_16, H⟩ | ⟨c_16, H⟩
    · skip
      replace H := i_icst (x := 0) (q := 24) H I_X2_wantsStop_23 (by decide) rfl
      obtain ⟨hr, hh⟩ := i_ir H I_X2_wantsStop_24
      obtain ⟨f6, f7, f8, f9, ff⟩ := F_1
      rw [f7] at c_9
      rw [f7, f8] at hh
      refine ⟨_, hr.trans ?_, hh, fun a b hab => ?_, ?_, fun _ => ⟨?_, ?_⟩, fun w => absurd w c_9⟩
      · rw [if_neg c_9]
      · rw [zup_n (by omega), zup_n (by omega), ff a b (by omega)]
      · rw [zup_n (by omega), zup_n (by omega), f6]
      · rw [zup_n (by omega), zup_s]; rfl
      · rw [zup_s]; rfl
    · skip
      replace H := i_icst (x := 1) (q := 20) H I_X2_wantsStop_19 (by decide) rfl
      replace H := i_goto (q := 24) H I_X2_wantsStop_20 (by decide)
      obtain ⟨hr, hh⟩ := i_ir H I_X2_wantsStop_24
      obtain ⟨f6, f7, f8, f9, ff⟩ := F_1
      exact absurd rfl c_16
theorem t_X2_wantsNumber {d : Nat} {m : zM} {r : Option Value} {h' : zHp} {n p : Nat} {most : Int32} (hq : zPl m n p) (H : zE none d zm_X2_wantsNumber 0 [.ref 1, .int most] [] m r h') : ∃ m1, r = some (.int (if zNm (m 2) n p most = true then 1 else 0)) ∧ h' = zhp m1 ∧ zf49 m m1 ∧ m1 1 6 = Int32.ofNat (tN (m 2) n p) ∧ m1 1 8 = Int32.ofNat (tS (m 2) n p) ∧ (zNm (m 2) n p most = true → m1 1 9 = tV (m 2) n p) ∧ (¬ zNm (m 2) n p most = true → m1 1 4 = (zfn (m 2) n p).1 ∧ m1 1 5 = Int32.ofNat (zfn (m 2) n p).2) ∧ (zNm (m 2) n p most = true → m1 1 4 = m 1 4) := by
  replace H := i_aln (q := 1) H I_X2_wantsNumber_0 rfl rfl
  have W := i_cv0 1 (q := 4) H I_X2_wantsNumber_1 K_2_48 Zm_37 rfl rfl
  clear H
  obtain ⟨r1, h1, Hc, K1, K2⟩ := W
  obtain ⟨M_1, e1, e2, F_1⟩ := t_X2_next (n := n) (p := p) hq.1 hq.2.1 hq.2.2.1 hq.2.2.2 Hc
  have H := K2 _ e1 e2
  clear e1 e2 Hc K1 K2
  replace H := i_aln (q := 5) H I_X2_wantsNumber_4 rfl rfl
  replace H := i_gfi (q := 8) H I_X2_wantsNumber_5 G_2_51 cn_X2_wantsNumber LY_1 rfl rfl
  replace H := i_icst (x := 2) (q := 9) H I_X2_wantsNumber_8 (by decide) rfl
  have W := i_ic_eq (t := 17) (q := 12) H I_X2_wantsNumber_9 (by decide) rfl
  clear H
  rcases W with ⟨c_9, H⟩ | ⟨c_9, H⟩
  · skip
    replace H := i_aln (q := 18) H I_X2_wantsNumber_17 rfl rfl
    replace H := i_gfi (q := 21) H I_X2_wantsNumber_18 G_2_105 cn_X2_wantsNumber LY_1 rfl rfl
    replace H := i_iln (q := 22) H I_X2_wantsNumber_21 rfl rfl
    have W := i_ic_le (t := 37) (q := 25) H I_X2_wantsNumber_22 (by decide) rfl
    clear H
    rcases W with ⟨c_22, H⟩ | ⟨c_22, H⟩
    · skip
      replace H := i_icst (x := 1) (q := 38) H I_X2_wantsNumber_37 (by decide) rfl
      replace H := i_goto (q := 42) H I_X2_wantsNumber_38 (by decide)
      obtain ⟨hr, hh⟩ := i_ir H I_X2_wantsNumber_42
      obtain ⟨f6, f7, f8, f9, ff⟩ := F_1
      rw [f7] at c_9
      rw [f9 c_9] at c_22
      have hk : zNm (m 2) n p most = true := by simp only [zNm, c_9, c_22, decide_true, decide_false, Bool.not_false, Bool.and_self]
      refine ⟨_, hr.trans ?_, hh, fun a b hab => ff a b (by omega), f6, f8, fun _ => f9 c_9, fun w => absurd hk w, fun _ => ff 1 4 (by omega)⟩
      rw [if_pos hk]
    · skip
      replace H := i_aln (q := 26) H I_X2_wantsNumber_25 rfl rfl
      replace H := i_icst (x := 3) (q := 27) H I_X2_wantsNumber_26 (by decide) rfl
      replace H := i_aln (q := 28) H I_X2_wantsNumber_27 rfl rfl
      replace H := i_gfi (q := 31) H I_X2_wantsNumber_28 G_2_102 cn_X2_wantsNumber LY_1 rfl rfl
      have W := i_cv2 0 (q := 34) H I_X2_wantsNumber_31 K_2_74 Zm_27 rfl rfl
      clear H
      obtain ⟨r1, h1, Hc, K1, K2⟩ := W
      obtain ⟨e1, e2⟩ := t_X2_fail Hc
      have H := K1 _ _ e1 e2
      clear e1 e2 Hc K1 K2
      have W := i_if_eq (t := 41) (q := 37) H I_X2_wantsNumber_34 (by decide) rfl
      clear H
      rcases W with ⟨c_34, H⟩ | ⟨c_34, H⟩
      · skip
        replace H := i_icst (x := 0) (q := 42) H I_X2_wantsNumber_41 (by decide) rfl
        obtain ⟨hr, hh⟩ := i_ir H I_X2_wantsNumber_42
        obtain ⟨f6, f7, f8, f9, ff⟩ := F_1
        rw [f7] at c_9
        rw [f9 c_9] at c_22
        rw [f8] at hh
        have hk : ¬ zNm (m 2) n p most = true := by simp [zNm, c_22]
        refine ⟨_, hr.trans ?_, hh, fun a b hab => ?_, ?_, ?_, fun w => absurd w hk, fun _ => ⟨?_, ?_⟩, fun w => absurd w hk⟩
        · rw [if_neg hk]
        · rw [zup_n (by omega), zup_n (by omega), ff a b (by omega)]
        · rw [zup_n (by omega), zup_n (by omega), f6]
        · rw [zup_n (by omega), zup_n (by omega), f8]
        · rw [zup_n (by omega), zup_s]; simp [zfn, c_9]
        · rw [zup_s]; rfl
      · skip
        replace H := i_icst (x := 1) (q := 38) H I_X2_wantsNumber_37 (by decide) rfl
        replace H := i_goto (q := 42) H I_X2_wantsNumber_38 (by decide)
        obtain ⟨hr, hh⟩ := i_ir H I_X2_wantsNumber_42
        exact absurd rfl c_34
  · skip
    replace H := i_aln (q := 13) H I_X2_wantsNumber_12 rfl rfl
    have W := i_cv0 0 (q := 16) H I_X2_wantsNumber_13 K_2_82 Zm_30 rfl rfl
    clear H
    obtain ⟨r1, h1, Hc, K1, K2⟩ := W
    obtain ⟨e1, e2⟩ := t_X2_failToken Hc
    have H := K1 _ _ e1 e2
    clear e1 e2 Hc K1 K2
    obtain ⟨hr, hh⟩ := i_ir H I_X2_wantsNumber_16
    obtain ⟨f6, f7, f8, f9, ff⟩ := F_1
    rw [f7] at c_9
    rw [f7, f8] at hh
    have hk : ¬ zNm (m 2) n p most = true := by simp [zNm, c_9]
    refine ⟨_, hr.trans ?_, hh, fun a b hab => ?_, ?_, ?_, fun w => absurd w hk, fun _ => ⟨?_, ?_⟩, fun w => absurd w hk⟩
    · rw [if_neg hk]
    · rw [zup_n (by omega), zup_n (by omega), ff a b (by omega)]
    · rw [zup_n (by omega), zup_n (by omega), f6]
    · rw [zup_n (by omega), zup_n (by omega), f8]
    · rw [zup_n (by omega), zup_s]; simp [zfn, c_9]
    · rw [zup_s]; rfl
theorem t_X0_join {d : Nat} {m : zM} {r : Option Value} {h' : zHp} {k i : Nat} {a b c : Int32} (hk : zlk6 k) (hc : m k 2 = Int32.ofNat i) (hi : i ≤ 5) (H : zE none d zm_X0_join 0 [.ref k, .int a, .int b, .int c, .null] [] m r h') : r = none ∧ h' = zhp (zup (zup (zup (zup (zup m (k + 3 + i) 0 a) (k + 3 + i) 1 b) (k + 3 + i) 2 c) (k + 3 + i) 3 0) k 2 (Int32.ofNat (i + 1))) := by
  replace H := i_aln (q := 1) H I_X0_join_0 rfl rfl
  replace H := i_gfr (q := 4) H I_X0_join_1 G_0_11 cn_X0_join (lk_0 hk) rfl rfl
  replace H := i_aln (q := 5) H I_X0_join_4 rfl rfl
  replace H := i_gfi (q := 8) H I_X0_join_5 G_0_26 cn_X0_join (lk_0 hk) rfl rfl
  have W := i_folk (k := k) hk (q := 9) H I_X0_join_8 rfl
  clear H
  obtain ⟨i_8, bi_8, ei_8, H⟩ := W
  replace H := i_as (q := 11) H I_X0_join_9 rfl rfl
  replace H := i_al (q := 13) H I_X0_join_11 rfl rfl
  replace H := i_iln (q := 14) H I_X0_join_13 rfl rfl
  replace H := i_pf (q := 17) H I_X0_join_14 G_0_39 cn_X0_join (lk_p hk bi_8) rfl rfl
  replace H := i_al (q := 19) H I_X0_join_17 rfl rfl
  replace H := i_iln (q := 20) H I_X0_join_19 rfl rfl
  replace H := i_pf (q := 23) H I_X0_join_20 G_0_42 cn_X0_join (lk_p hk bi_8) rfl rfl
  replace H := i_al (q := 25) H I_X0_join_23 rfl rfl
  replace H := i_iln (q := 26) H I_X0_join_25 rfl rfl
  replace H := i_pf (q := 29) H I_X0_join_26 G_0_45 cn_X0_join (lk_p hk bi_8) rfl rfl
  replace H := i_al (q := 31) H I_X0_join_29 rfl rfl
  replace H := i_icst (x := 0) (q := 32) H I_X0_join_31 (by decide) rfl
  replace H := i_pf (q := 35) H I_X0_join_32 G_0_48 cn_X0_join (lk_p hk bi_8) rfl rfl
  replace H := i_aln (q := 36) H I_X0_join_35 rfl rfl
  replace H := i_dup (q := 37) H I_X0_join_36 rfl rfl
  replace H := i_gfi (q := 40) H I_X0_join_37 G_0_26 cn_X0_join (lk_0 hk) rfl rfl
  replace H := i_icst (x := 1) (q := 41) H I_X0_join_40 (by decide) rfl
  replace H := i_iadd (q := 42) H I_X0_join_41 rfl
  replace H := i_pf (q := 45) H I_X0_join_42 G_0_26 cn_X0_join (lk_0 hk) rfl rfl
  obtain ⟨hr, hh⟩ := i_rt H I_X0_join_45
  have e := zofn (hc.symm.trans ei_8) (by omega) (by omega)
  subst e
  refine ⟨hr, hh.trans ?_⟩
  rw [zup_n (by omega), zup_n (by omega), zup_n (by omega), zup_n (by omega), hc, zofn_1]
def zbi (b : Bool) : Int32 := if b = true then 1 else 0
/-- the bits of the first a of a row -/
def zorf (f : Nat → Int32) : Nat → Int32
  | 0 => 0
  | a + 1 => zorf f a ||| f a
theorem zorf_c {f u : Nat → Int32} : ∀ {a : Nat}, (∀ i, i < a → f i = u i) → zorf f a = zorf u a
  | 0, _ => rfl
  | a + 1, h => by
    simp only [zorf]
    rw [zorf_c (fun i hi => h i (by omega)), h a (by omega)]
/-- what the class's draft holds of what has been read: c people, the page g, told once -/
def cV (m : zM) (c : Nat) (g : Nat → Int32) (sT pT : Bool) (sb : Int32) : Prop := m 3 2 = Int32.ofNat c ∧ c ≤ 5 ∧ (∀ i, i < c → m (6 + i) 0 = g i ∧ m (6 + i) 1 = g (5 + i) ∧ m (6 + i) 2 = g (10 + i)) ∧ m 1 10 = g 15 ∧ m 3 4 = g 16 + 1 ∧ m 3 5 = g 17 ∧ (∃ a, a ≤ 8 ∧ g 26 = Int32.ofNat a ∧ m 3 3 = Int32.ofNat a ∧ (∀ i, i < a → m 5 i = g (18 + i)) ∧ (pT = false → a = 0) ∧ sb = zorf (m 5) a) ∧ m 1 11 = zbi sT ∧ m 1 12 = zbi pT ∧ m 1 4 = 0
theorem cV_f {m m1 : zM} {c : Nat} {g : Nat → Int32} {sT pT : Bool} {sb : Int32} (h : cV m c g sT pT sb) (hf : zf49 m m1) (h4 : m1 1 4 = m 1 4) : cV m1 c g sT pT sb := by
  obtain ⟨h1, h2, h3, k4, h5, h6, ⟨a, a1, a2, a3, a4, a5, a6⟩, h8, h9, h10⟩ := h
  refine ⟨by rw [hf 3 2 (by omega)]; exact h1, h2, fun i hi => ?_, by rw [hf 1 10 (by omega)]; exact k4, by rw [hf 3 4 (by omega)]; exact h5, by rw [hf 3 5 (by omega)]; exact h6, ⟨a, a1, a2, by rw [hf 3 3 (by omega)]; exact a3, fun i hi => by rw [hf 5 i (by omega)]; exact a4 i hi, a5, by rw [show m1 5 = m 5 from by funext b; exact hf 5 b (by omega)]; exact a6⟩, by rw [hf 1 11 (by omega)]; exact h8, by rw [hf 1 12 (by omega)]; exact h9, h4.trans h10⟩
  obtain ⟨x, y, z⟩ := h3 i hi
  exact ⟨by rw [hf (6 + i) 0 (by omega)]; exact x, by rw [hf (6 + i) 1 (by omega)]; exact y, by rw [hf (6 + i) 2 (by omega)]; exact z⟩
/-- what the class's reading writes -/
def zfC (m m1 : zM) : Prop := ∀ a b, ¬ (a = 1 ∧ 4 ≤ b) → ¬ (3 ≤ a ∧ a ≤ 10) → m1 a b = m a b
theorem zfC_4 {m m1 : zM} (h : zf49 m m1) : zfC m m1 := fun a b h1 h2 => h a b (by omega)
theorem zfC_t {m m1 m2 : zM} (h1 : zfC m m1) (h2 : zfC m1 m2) : zfC m m2 := fun a b x y => (h2 a b x y).trans (h1 a b x y)
theorem zfC_2 {m m1 : zM} (h : zfC m m1) : m1 2 = m 2 := by funext b; exact h 2 b (by omega) (by omega)
/-- the state of reading: people, the page, slack and plan told, the bits of all acts -/
abbrev zPs : Type := Nat × (Nat → Int32) × Bool × Bool × Int32
abbrev zPr : Type := (Int32 × Nat) ⊕ (zPs × Nat)
/-- what the class holds behind a line -/
def cR (m1 : zM) (r : Option Value) (x : zPr) : Prop := match x with
  | .inl f => r = some (.int 0) ∧ m1 1 4 = f.1 ∧ m1 1 5 = Int32.ofNat f.2
  | .inr q => r = some (.int 1) ∧ cV m1 q.1.1 q.1.2.1 q.1.2.2.1 q.1.2.2.2.1 q.1.2.2.2.2 ∧ m1 1 6 = Int32.ofNat q.2 ∧ q.2 ≤ 160
