/-! the class's lines, one by one -/
theorem It_X2_readLeft : zm_X2_readLeft.2.2.2.2.2 = zt_X2_readLeft := by
  unfold zm_X2_readLeft
  rfl
theorem It_X2_readOne : zm_X2_readOne.2.2.2.2.2 = zt_X2_readOne := by
  unfold zm_X2_readOne
  rfl
theorem It_X2_readSlack : zm_X2_readSlack.2.2.2.2.2 = zt_X2_readSlack := by
  unfold zm_X2_readSlack
  rfl
theorem I_X2_readLeft_0 : zin zm_X2_readLeft.2.2.2.2.2 0 = some (.aload_n 0, 1) := by rw [It_X2_readLeft]; rfl
theorem I_X2_readLeft_1 : zin zm_X2_readLeft.2.2.2.2.2 1 = some (.iconst 4, 1) := by rw [It_X2_readLeft]; rfl
theorem I_X2_readLeft_2 : zin zm_X2_readLeft.2.2.2.2.2 2 = some (.invokevirtual 108, 3) := by rw [It_X2_readLeft]; rfl
theorem I_X2_readLeft_5 : zin zm_X2_readLeft.2.2.2.2.2 5 = some (.ifCond .ne 5, 3) := by rw [It_X2_readLeft]; rfl
theorem I_X2_readLeft_8 : zin zm_X2_readLeft.2.2.2.2.2 8 = some (.iconst 0, 1) := by rw [It_X2_readLeft]; rfl
theorem I_X2_readLeft_9 : zin zm_X2_readLeft.2.2.2.2.2 9 = some (.ireturn, 1) := by rw [It_X2_readLeft]; rfl
theorem I_X2_readLeft_10 : zin zm_X2_readLeft.2.2.2.2.2 10 = some (.aload_n 0, 1) := by rw [It_X2_readLeft]; rfl
theorem I_X2_readLeft_11 : zin zm_X2_readLeft.2.2.2.2.2 11 = some (.getfield 38, 3) := by rw [It_X2_readLeft]; rfl
theorem I_X2_readLeft_14 : zin zm_X2_readLeft.2.2.2.2.2 14 = some (.aload_n 0, 1) := by rw [It_X2_readLeft]; rfl
theorem I_X2_readLeft_15 : zin zm_X2_readLeft.2.2.2.2.2 15 = some (.getfield 105, 3) := by rw [It_X2_readLeft]; rfl
theorem I_X2_readLeft_18 : zin zm_X2_readLeft.2.2.2.2.2 18 = some (.ishr, 1) := by rw [It_X2_readLeft]; rfl
theorem I_X2_readLeft_19 : zin zm_X2_readLeft.2.2.2.2.2 19 = some (.iconst 1, 1) := by rw [It_X2_readLeft]; rfl
theorem I_X2_readLeft_20 : zin zm_X2_readLeft.2.2.2.2.2 20 = some (.iand, 1) := by rw [It_X2_readLeft]; rfl
theorem I_X2_readLeft_21 : zin zm_X2_readLeft.2.2.2.2.2 21 = some (.ifCond .eq 13, 3) := by rw [It_X2_readLeft]; rfl
theorem I_X2_readLeft_24 : zin zm_X2_readLeft.2.2.2.2.2 24 = some (.aload_n 0, 1) := by rw [It_X2_readLeft]; rfl
theorem I_X2_readLeft_25 : zin zm_X2_readLeft.2.2.2.2.2 25 = some (.iconst 4, 1) := by rw [It_X2_readLeft]; rfl
theorem I_X2_readLeft_26 : zin zm_X2_readLeft.2.2.2.2.2 26 = some (.aload_n 0, 1) := by rw [It_X2_readLeft]; rfl
theorem I_X2_readLeft_27 : zin zm_X2_readLeft.2.2.2.2.2 27 = some (.getfield 102, 3) := by rw [It_X2_readLeft]; rfl
theorem I_X2_readLeft_30 : zin zm_X2_readLeft.2.2.2.2.2 30 = some (.invokevirtual 74, 3) := by rw [It_X2_readLeft]; rfl
theorem I_X2_readLeft_33 : zin zm_X2_readLeft.2.2.2.2.2 33 = some (.ireturn, 1) := by rw [It_X2_readLeft]; rfl
theorem I_X2_readLeft_34 : zin zm_X2_readLeft.2.2.2.2.2 34 = some (.aload_n 0, 1) := by rw [It_X2_readLeft]; rfl
theorem I_X2_readLeft_35 : zin zm_X2_readLeft.2.2.2.2.2 35 = some (.dup, 1) := by rw [It_X2_readLeft]; rfl
theorem I_X2_readLeft_36 : zin zm_X2_readLeft.2.2.2.2.2 36 = some (.getfield 38, 3) := by rw [It_X2_readLeft]; rfl
theorem I_X2_readLeft_39 : zin zm_X2_readLeft.2.2.2.2.2 39 = some (.iconst 1, 1) := by rw [It_X2_readLeft]; rfl
theorem I_X2_readLeft_40 : zin zm_X2_readLeft.2.2.2.2.2 40 = some (.aload_n 0, 1) := by rw [It_X2_readLeft]; rfl
theorem I_X2_readLeft_41 : zin zm_X2_readLeft.2.2.2.2.2 41 = some (.getfield 105, 3) := by rw [It_X2_readLeft]; rfl
theorem I_X2_readLeft_44 : zin zm_X2_readLeft.2.2.2.2.2 44 = some (.ishl, 1) := by rw [It_X2_readLeft]; rfl
theorem I_X2_readLeft_45 : zin zm_X2_readLeft.2.2.2.2.2 45 = some (.ior, 1) := by rw [It_X2_readLeft]; rfl
theorem I_X2_readLeft_46 : zin zm_X2_readLeft.2.2.2.2.2 46 = some (.putfield 38, 3) := by rw [It_X2_readLeft]; rfl
theorem I_X2_readLeft_49 : zin zm_X2_readLeft.2.2.2.2.2 49 = some (.aload_n 0, 1) := by rw [It_X2_readLeft]; rfl
theorem I_X2_readLeft_50 : zin zm_X2_readLeft.2.2.2.2.2 50 = some (.invokevirtual 115, 3) := by rw [It_X2_readLeft]; rfl
theorem I_X2_readLeft_53 : zin zm_X2_readLeft.2.2.2.2.2 53 = some (.ireturn, 1) := by rw [It_X2_readLeft]; rfl
theorem I_X2_readOne_0 : zin zm_X2_readOne.2.2.2.2.2 0 = some (.aload_n 0, 1) := by rw [It_X2_readOne]; rfl
theorem I_X2_readOne_1 : zin zm_X2_readOne.2.2.2.2.2 1 = some (.getfield 18, 3) := by rw [It_X2_readOne]; rfl
theorem I_X2_readOne_4 : zin zm_X2_readOne.2.2.2.2.2 4 = some (.getfield 68, 3) := by rw [It_X2_readOne]; rfl
theorem I_X2_readOne_7 : zin zm_X2_readOne.2.2.2.2.2 7 = some (.iconst 5, 1) := by rw [It_X2_readOne]; rfl
theorem I_X2_readOne_8 : zin zm_X2_readOne.2.2.2.2.2 8 = some (.if_icmp .lt 13, 3) := by rw [It_X2_readOne]; rfl
theorem I_X2_readOne_11 : zin zm_X2_readOne.2.2.2.2.2 11 = some (.aload_n 0, 1) := by rw [It_X2_readOne]; rfl
theorem I_X2_readOne_12 : zin zm_X2_readOne.2.2.2.2.2 12 = some (.iconst 5, 1) := by rw [It_X2_readOne]; rfl
theorem I_X2_readOne_13 : zin zm_X2_readOne.2.2.2.2.2 13 = some (.aload_n 0, 1) := by rw [It_X2_readOne]; rfl
theorem I_X2_readOne_14 : zin zm_X2_readOne.2.2.2.2.2 14 = some (.getfield 102, 3) := by rw [It_X2_readOne]; rfl
theorem I_X2_readOne_17 : zin zm_X2_readOne.2.2.2.2.2 17 = some (.invokevirtual 74, 3) := by rw [It_X2_readOne]; rfl
theorem I_X2_readOne_20 : zin zm_X2_readOne.2.2.2.2.2 20 = some (.ireturn, 1) := by rw [It_X2_readOne]; rfl
theorem I_X2_readOne_21 : zin zm_X2_readOne.2.2.2.2.2 21 = some (.aload_n 0, 1) := by rw [It_X2_readOne]; rfl
theorem I_X2_readOne_22 : zin zm_X2_readOne.2.2.2.2.2 22 = some (.bipush 99, 2) := by rw [It_X2_readOne]; rfl
theorem I_X2_readOne_24 : zin zm_X2_readOne.2.2.2.2.2 24 = some (.invokevirtual 108, 3) := by rw [It_X2_readOne]; rfl
theorem I_X2_readOne_27 : zin zm_X2_readOne.2.2.2.2.2 27 = some (.ifCond .ne 5, 3) := by rw [It_X2_readOne]; rfl
theorem I_X2_readOne_30 : zin zm_X2_readOne.2.2.2.2.2 30 = some (.iconst 0, 1) := by rw [It_X2_readOne]; rfl
theorem I_X2_readOne_31 : zin zm_X2_readOne.2.2.2.2.2 31 = some (.ireturn, 1) := by rw [It_X2_readOne]; rfl
theorem I_X2_readOne_32 : zin zm_X2_readOne.2.2.2.2.2 32 = some (.aload_n 0, 1) := by rw [It_X2_readOne]; rfl
theorem I_X2_readOne_33 : zin zm_X2_readOne.2.2.2.2.2 33 = some (.getfield 105, 3) := by rw [It_X2_readOne]; rfl
theorem I_X2_readOne_36 : zin zm_X2_readOne.2.2.2.2.2 36 = some (.istore_n 2, 1) := by rw [It_X2_readOne]; rfl
theorem I_X2_readOne_37 : zin zm_X2_readOne.2.2.2.2.2 37 = some (.aload_n 0, 1) := by rw [It_X2_readOne]; rfl
theorem I_X2_readOne_38 : zin zm_X2_readOne.2.2.2.2.2 38 = some (.bipush 99, 2) := by rw [It_X2_readOne]; rfl
theorem I_X2_readOne_40 : zin zm_X2_readOne.2.2.2.2.2 40 = some (.invokevirtual 108, 3) := by rw [It_X2_readOne]; rfl
theorem I_X2_readOne_43 : zin zm_X2_readOne.2.2.2.2.2 43 = some (.ifCond .ne 5, 3) := by rw [It_X2_readOne]; rfl
theorem I_X2_readOne_46 : zin zm_X2_readOne.2.2.2.2.2 46 = some (.iconst 0, 1) := by rw [It_X2_readOne]; rfl
theorem I_X2_readOne_47 : zin zm_X2_readOne.2.2.2.2.2 47 = some (.ireturn, 1) := by rw [It_X2_readOne]; rfl
theorem I_X2_readOne_48 : zin zm_X2_readOne.2.2.2.2.2 48 = some (.aload_n 0, 1) := by rw [It_X2_readOne]; rfl
theorem I_X2_readOne_49 : zin zm_X2_readOne.2.2.2.2.2 49 = some (.getfield 18, 3) := by rw [It_X2_readOne]; rfl
theorem I_X2_readOne_52 : zin zm_X2_readOne.2.2.2.2.2 52 = some (.iload_n 1, 1) := by rw [It_X2_readOne]; rfl
theorem I_X2_readOne_53 : zin zm_X2_readOne.2.2.2.2.2 53 = some (.iload_n 2, 1) := by rw [It_X2_readOne]; rfl
theorem I_X2_readOne_54 : zin zm_X2_readOne.2.2.2.2.2 54 = some (.aload_n 0, 1) := by rw [It_X2_readOne]; rfl
theorem I_X2_readOne_55 : zin zm_X2_readOne.2.2.2.2.2 55 = some (.getfield 105, 3) := by rw [It_X2_readOne]; rfl
theorem I_X2_readOne_58 : zin zm_X2_readOne.2.2.2.2.2 58 = some (.invokevirtual 111, 3) := by rw [It_X2_readOne]; rfl
theorem I_X2_readOne_61 : zin zm_X2_readOne.2.2.2.2.2 61 = some (.aload_n 0, 1) := by rw [It_X2_readOne]; rfl
theorem I_X2_readOne_62 : zin zm_X2_readOne.2.2.2.2.2 62 = some (.invokevirtual 115, 3) := by rw [It_X2_readOne]; rfl
theorem I_X2_readOne_65 : zin zm_X2_readOne.2.2.2.2.2 65 = some (.ireturn, 1) := by rw [It_X2_readOne]; rfl
theorem I_X2_readSlack_0 : zin zm_X2_readSlack.2.2.2.2.2 0 = some (.aload_n 0, 1) := by rw [It_X2_readSlack]; rfl
theorem I_X2_readSlack_1 : zin zm_X2_readSlack.2.2.2.2.2 1 = some (.getfield 41, 3) := by rw [It_X2_readSlack]; rfl
theorem I_X2_readSlack_4 : zin zm_X2_readSlack.2.2.2.2.2 4 = some (.ifCond .eq 13, 3) := by rw [It_X2_readSlack]; rfl
theorem I_X2_readSlack_7 : zin zm_X2_readSlack.2.2.2.2.2 7 = some (.aload_n 0, 1) := by rw [It_X2_readSlack]; rfl
theorem I_X2_readSlack_8 : zin zm_X2_readSlack.2.2.2.2.2 8 = some (.iconst 4, 1) := by rw [It_X2_readSlack]; rfl
theorem I_X2_readSlack_9 : zin zm_X2_readSlack.2.2.2.2.2 9 = some (.aload_n 0, 1) := by rw [It_X2_readSlack]; rfl
theorem I_X2_readSlack_10 : zin zm_X2_readSlack.2.2.2.2.2 10 = some (.getfield 102, 3) := by rw [It_X2_readSlack]; rfl
theorem I_X2_readSlack_13 : zin zm_X2_readSlack.2.2.2.2.2 13 = some (.invokevirtual 74, 3) := by rw [It_X2_readSlack]; rfl
theorem I_X2_readSlack_16 : zin zm_X2_readSlack.2.2.2.2.2 16 = some (.ireturn, 1) := by rw [It_X2_readSlack]; rfl
theorem I_X2_readSlack_17 : zin zm_X2_readSlack.2.2.2.2.2 17 = some (.aload_n 0, 1) := by rw [It_X2_readSlack]; rfl
theorem I_X2_readSlack_18 : zin zm_X2_readSlack.2.2.2.2.2 18 = some (.iconst 1, 1) := by rw [It_X2_readSlack]; rfl
theorem I_X2_readSlack_19 : zin zm_X2_readSlack.2.2.2.2.2 19 = some (.putfield 41, 3) := by rw [It_X2_readSlack]; rfl
theorem I_X2_readSlack_22 : zin zm_X2_readSlack.2.2.2.2.2 22 = some (.aload_n 0, 1) := by rw [It_X2_readSlack]; rfl
theorem I_X2_readSlack_23 : zin zm_X2_readSlack.2.2.2.2.2 23 = some (.bipush 9, 2) := by rw [It_X2_readSlack]; rfl
theorem I_X2_readSlack_25 : zin zm_X2_readSlack.2.2.2.2.2 25 = some (.invokevirtual 108, 3) := by rw [It_X2_readSlack]; rfl
theorem I_X2_readSlack_28 : zin zm_X2_readSlack.2.2.2.2.2 28 = some (.ifCond .ne 5, 3) := by rw [It_X2_readSlack]; rfl
theorem I_X2_readSlack_31 : zin zm_X2_readSlack.2.2.2.2.2 31 = some (.iconst 0, 1) := by rw [It_X2_readSlack]; rfl
theorem I_X2_readSlack_32 : zin zm_X2_readSlack.2.2.2.2.2 32 = some (.ireturn, 1) := by rw [It_X2_readSlack]; rfl
theorem I_X2_readSlack_33 : zin zm_X2_readSlack.2.2.2.2.2 33 = some (.aload_n 0, 1) := by rw [It_X2_readSlack]; rfl
theorem I_X2_readSlack_34 : zin zm_X2_readSlack.2.2.2.2.2 34 = some (.getfield 18, 3) := by rw [It_X2_readSlack]; rfl
theorem I_X2_readSlack_37 : zin zm_X2_readSlack.2.2.2.2.2 37 = some (.aload_n 0, 1) := by rw [It_X2_readSlack]; rfl
theorem I_X2_readSlack_38 : zin zm_X2_readSlack.2.2.2.2.2 38 = some (.getfield 105, 3) := by rw [It_X2_readSlack]; rfl
theorem I_X2_readSlack_41 : zin zm_X2_readSlack.2.2.2.2.2 41 = some (.putfield 118, 3) := by rw [It_X2_readSlack]; rfl
theorem I_X2_readSlack_44 : zin zm_X2_readSlack.2.2.2.2.2 44 = some (.aload_n 0, 1) := by rw [It_X2_readSlack]; rfl
theorem I_X2_readSlack_45 : zin zm_X2_readSlack.2.2.2.2.2 45 = some (.invokevirtual 115, 3) := by rw [It_X2_readSlack]; rfl
theorem I_X2_readSlack_48 : zin zm_X2_readSlack.2.2.2.2.2 48 = some (.ireturn, 1) := by rw [It_X2_readSlack]; rfl
theorem G_2_18 : zlk zfls 2 18 = some (2, 1, 153) := rfl
theorem G_2_38 : zlk zfls 2 38 = some (2, 10, 167) := rfl
theorem G_2_41 : zlk zfls 2 41 = some (2, 11, 168) := rfl
theorem G_2_68 : zlk zfls 2 68 = some (0, 2, 127) := rfl
theorem G_2_118 : zlk zfls 2 118 = some (0, 4, 135) := rfl
theorem K_2_108 : zlk zmls 2 108 = some (0, 32, 1, 447) := rfl
theorem K_2_111 : zlk zmls 2 111 = some (0, 5, 3, 451) := rfl
theorem K_2_115 : zlk zmls 2 115 = some (0, 31, 0, 455) := rfl
theorem Zm_5 : zms[5]? = some zm_X0_join := rfl
theorem Zm_31 : zms[31]? = some zm_X2_wantsStop := rfl
theorem Zm_32 : zms[32]? = some zm_X2_wantsNumber := rfl
theorem LY_3 : zLY[3]? = some (Sum.inr 0, [some (.ref 4), some (.ref 5), none, none, none, none]) := rfl
theorem cl_X2_readLeft : zm_X2_readLeft.2.2.2.2.1 = 2 := by
  unfold zm_X2_readLeft
  rfl
theorem cn_X2_readLeft : zm_X2_readLeft.2.2.2.2.1 ≠ 12 := by
  rw [cl_X2_readLeft]
  decide
theorem cl_X2_readOne : zm_X2_readOne.2.2.2.2.1 = 2 := by
  unfold zm_X2_readOne
  rfl
theorem cn_X2_readOne : zm_X2_readOne.2.2.2.2.1 ≠ 12 := by
  rw [cl_X2_readOne]
  decide
theorem cl_X2_readSlack : zm_X2_readSlack.2.2.2.2.1 = 2 := by
  unfold zm_X2_readSlack
  rfl
theorem cn_X2_readSlack : zm_X2_readSlack.2.2.2.2.1 ≠ 12 := by
  rw [cl_X2_readSlack]
  decide
section
variable (t : Nat → Int32) (n : Nat) (σ : zPs)
def pEnd (p : Nat) (x : zPs) : zPr := if tK t n p = 3 then .inr (x, tN t n p) else .inl (zft t n p)
def pOne (w s p : Nat) : zPr := if σ.1 = 5 then .inl (5, s) else if zNm t n p 99 = true then (if zNm t n (tN t n p) 99 = true then pEnd t n (tN t n (tN t n p)) (σ.1 + 1, gset (gset (gset σ.2.1 σ.1 (Int32.ofNat w)) (5 + σ.1) (tV t n p)) (10 + σ.1) (tV t n (tN t n p)), σ.2.2) else .inl (zfn t n (tN t n p))) else .inl (zfn t n p)
def pLeft (p : Nat) : zPr := if zNm t n p 4 = true then (if (σ.2.1 15 >>> (tV t n p &&& 31)) &&& 1 = 0 then pEnd t n (tN t n p) (σ.1, gset σ.2.1 15 (σ.2.1 15 ||| (1 <<< (tV t n p &&& 31))), σ.2.2) else .inl (4, tS t n p)) else .inl (zfn t n p)
def pSlack (s p : Nat) : zPr := if σ.2.2.1 = true then .inl (4, s) else if zNm t n p 9 = true then pEnd t n (tN t n p) (σ.1, gset σ.2.1 16 (tV t n p - 1), true, σ.2.2.2) else .inl (zfn t n p)
def pPl (c : Nat) (sT : Bool) : Nat → Nat → (Nat → Int32) → Int32 → Nat → zPr
  | 0, _, _, _, _ => .inl (0, 0)
  | k + 1, a, g, sb, p => if tK t n p = 3 then .inr ((c, g, sT, true, sb), tN t n p) else if tK t n p = 2 then (if 8 ≤ a then .inl (5, tS t n p) else if 31 < tV t n p then .inl (3, tS t n p) else pPl c sT k (a + 1) (gset (gset g (18 + a) (tV t n p)) 26 (Int32.ofNat (a + 1))) (sb ||| tV t n p) (tN t n p)) else .inl (zft t n p)
def pPlan (s p : Nat) : zPr := if σ.2.2.2.1 = true then .inl (4, s) else pPl t n σ.1 σ.2.2.1 9 0 σ.2.1 σ.2.2.2.2 p
/-- a line, from its first token on -/
def pLn (p : Nat) : zPr := if tK t n p = 1 then (if zword t (tS t n p) (tN t n p) < 4 then pOne t n σ (zword t (tS t n p) (tN t n p)) (tS t n p) (tN t n p) else if zword t (tS t n p) (tN t n p) = 4 then pLeft t n σ (tN t n p) else if zword t (tS t n p) (tN t n p) = 5 then pSlack t n σ (tS t n p) (tN t n p) else if zword t (tS t n p) (tN t n p) = 6 then pPlan t n σ (tS t n p) (tN t n p) else .inl (2, tS t n p)) else .inl (zft t n p)
end
theorem cR_end {m m1 m2 : zM} {r : Option Value} {n p : Nat} {x : zPs} {t : Nat → Int32} (ht : m1 2 = t) (hr : r = some (.int (if tK (m1 2) n p = 3 then 1 else 0))) (hV : cV m1 x.1 x.2.1 x.2.2.1 x.2.2.2.1 x.2.2.2.2) (hp : p ≤ n) (hn : n ≤ 160) (F : zf49 m1 m2 ∧ m2 1 6 = Int32.ofNat (tN (m1 2) n p) ∧ (¬ tK (m1 2) n p = 3 → m2 1 4 = (zft (m1 2) n p).1 ∧ m2 1 5 = Int32.ofNat (zft (m1 2) n p).2) ∧ (tK (m1 2) n p = 3 → m2 1 4 = m1 1 4)) : cR m2 r (pEnd t n p x) := by
  subst ht
  obtain ⟨f1, f2, f3, f4⟩ := F
  unfold pEnd
  by_cases h : tK (m1 2) n p = 3
  · rw [if_pos h]
    rw [if_pos h] at hr
    exact ⟨hr, cV_f hV f1 (f4 h), f2, Nat.le_trans (tN_le hp) hn⟩
  · rw [if_neg h]
    rw [if_neg h] at hr
    exact ⟨hr, f3 h⟩
theorem t_X2_readOne {d : Nat} {m : zM} {r : Option Value} {h' : zHp} {n p s c : Nat} {g : Nat → Int32} {sT pT : Bool} {sb : Int32} (hq : zPl m n p) (hs : m 1 8 = Int32.ofNat s) (hV : cV m c g sT pT sb) {w : Nat} (H : zE none d zm_X2_readOne 0 [.ref 1, .int (Int32.ofNat w), .null] [] m r h') : ∃ m1, h' = zhp m1 ∧ zfC m m1 ∧ cR m1 r (pOne (m 2) n (c, g, sT, pT, sb) w s p) := by
  replace H := i_aln (q := 1) H I_X2_readOne_0 rfl rfl
  replace H := i_gfr (q := 4) H I_X2_readOne_1 G_2_18 cn_X2_readOne LY_1 rfl rfl
  replace H := i_gfi (q := 7) H I_X2_readOne_4 G_2_68 cn_X2_readOne LY_3 rfl rfl
  replace H := i_icst (x := 5) (q := 8) H I_X2_readOne_7 (by decide) rfl
  have W := i_ic_lt (t := 21) (q := 11) H I_X2_readOne_8 (by decide) rfl
  clear H
  rcases W with ⟨c_8, H⟩ | ⟨c_8, H⟩
  · skip
    replace H := i_aln (q := 22) H I_X2_readOne_21 rfl rfl
    replace H := i_bip (x := 99) (q := 24) H I_X2_readOne_22 (by decide) rfl
    have W := i_cv1 0 (q := 27) H I_X2_readOne_24 K_2_108 Zm_32 rfl rfl
    clear H
    obtain ⟨r1, h1, Hc, K1, K2⟩ := W
    obtain ⟨M_24, e1, e2, F_24⟩ := t_X2_wantsNumber (n := n) (p := p) hq Hc
    have H := K1 _ _ e1 e2
    clear e1 e2 Hc K1 K2
    have W := i_if_ne (t := 32) (q := 30) H I_X2_readOne_27 (by decide) rfl
    clear H
    rcases W with ⟨c_27, H⟩ | ⟨c_27, H⟩
    · skip
      replace H := i_aln (q := 33) H I_X2_readOne_32 rfl rfl
      replace H := i_gfi (q := 36) H I_X2_readOne_33 G_2_105 cn_X2_readOne LY_1 rfl rfl
      replace H := i_isn (q := 37) H I_X2_readOne_36 rfl rfl
      replace H := i_aln (q := 38) H I_X2_readOne_37 rfl rfl
      replace H := i_bip (x := 99) (q := 40) H I_X2_readOne_38 (by decide) rfl
      have W := i_cv1 0 (q := 43) H I_X2_readOne_40 K_2_108 Zm_32 rfl rfl
      clear H
      obtain ⟨r1, h1, Hc, K1, K2⟩ := W
      obtain ⟨M_40, e1, e2, F_40⟩ := t_X2_wantsNumber (n := n) (p := tN (m 2) n p) (zPl_s hq F_24.1 F_24.2.1 (tN_le hq.2.2.2)) Hc
      have H := K1 _ _ e1 e2
      clear e1 e2 Hc K1 K2
      have W := i_if_ne (t := 48) (q := 46) H I_X2_readOne_43 (by decide) rfl
      clear H
      rcases W with ⟨c_43, H⟩ | ⟨c_43, H⟩
      · skip
        replace H := i_aln (q := 49) H I_X2_readOne_48 rfl rfl
        replace H := i_gfr (q := 52) H I_X2_readOne_49 G_2_18 cn_X2_readOne LY_1 rfl rfl
        replace H := i_iln (q := 53) H I_X2_readOne_52 rfl rfl
        replace H := i_iln (q := 54) H I_X2_readOne_53 rfl rfl
        replace H := i_aln (q := 55) H I_X2_readOne_54 rfl rfl
        replace H := i_gfi (q := 58) H I_X2_readOne_55 G_2_105 cn_X2_readOne LY_1 rfl rfl
        have W := i_cv3 1 (q := 61) H I_X2_readOne_58 K_2_111 Zm_5 rfl rfl
        clear H
        obtain ⟨r1, h1, Hc, K1, K2⟩ := W
        obtain ⟨e1, e2⟩ := t_X0_join lkk_3 (i := c) (by rw [F_40.1 3 2 (by omega), F_24.1 3 2 (by omega)]; exact hV.1) (by have := hV.2.1; omega) Hc
        have H := K2 _ e1 e2
        clear e1 e2 Hc K1 K2
        replace H := i_aln (q := 62) H I_X2_readOne_61 rfl rfl
        have W := i_cv0 0 (q := 65) H I_X2_readOne_62 K_2_115 Zm_31 rfl rfl
        clear H
        obtain ⟨r1, h1, Hc, K1, K2⟩ := W
        obtain ⟨M_62, e1, e2, F_62⟩ := t_X2_wantsStop (n := n) (p := tN (m 2) n (tN (m 2) n p)) (by
      have e2 := zf49_2 F_24.1
      have := zPl_s (zPl_s hq F_24.1 F_24.2.1 (tN_le hq.2.2.2)) F_40.1 (q := tN (M_24 2) n (tN (m 2) n p)) F_40.2.1 (tN_le (tN_le hq.2.2.2))
      rw [e2] at this
      exact ⟨by rw [zup_n (by omega), zup_n (by omega), zup_n (by omega), zup_n (by omega), zup_n (by omega)]; exact this.1, this.2.1, by rw [zup_n (by omega), zup_n (by omega), zup_n (by omega), zup_n (by omega), zup_n (by omega)]; exact this.2.2.1, this.2.2.2⟩) Hc
        have H := K1 _ _ e1 e2
        clear e1 e2 Hc K1 K2
        obtain ⟨hr, hh⟩ := i_ir H I_X2_readOne_65
        have h5 : ¬ c = 5 := by
          rw [hV.1] at c_8
          have := (zofn_lt (i := c) (j := 5) (by have := hV.2.1; omega) (by decide)).mp c_8
          omega
        have k1 := zif1 c_27
        obtain ⟨f1, f2, f3, f4, f5, f10⟩ := F_24
        have e2 := zf49_2 f1
        rw [e2] at c_43 F_40
        have k2 := zif1 c_43
        obtain ⟨g1, g2, g3, g4, g5, g10⟩ := F_40
        have e3 : M_40 2 = m 2 := (zf49_2 g1).trans e2
        have v1 := f4 k1
        have v2 := g4 k2
        rw [v1, v2] at hr F_62
        rw [show pOne (m 2) n (c, g, sT, pT, sb) w s p = pEnd (m 2) n (tN (m 2) n (tN (m 2) n p)) (c + 1, gset (gset (gset g c (Int32.ofNat w)) (5 + c) (tV (m 2) n p)) (10 + c) (tV (m 2) n (tN (m 2) n p)), sT, pT, sb) by simp [pOne, h5, k1, k2]]
        have hV2 := cV_f (cV_f hV f1 (f10 k1)) g1 (g10 k2)
        obtain ⟨q1, q2, q3, q4, q5, q6, ⟨a, a1, a2, a3, a4, a5, a6⟩, q8, q9, q10⟩ := hV2
        refine ⟨_, hh, zfC_t (zfC_4 (zf49_t f1 g1)) (zfC_t (fun a b x y => ?_) (zfC_4 F_62.1)), cR_end (m := m) ?_ hr ?_ (tN_le (tN_le hq.2.2.2)) hq.2.1 F_62⟩
        · rw [zup_n (by omega), zup_n (by omega), zup_n (by omega), zup_n (by omega), zup_n (by omega)]
        · funext b
          rw [zup_n (by omega), zup_n (by omega), zup_n (by omega), zup_n (by omega), zup_n (by omega), e3]
        · refine ⟨by rw [zup_s], by show c + 1 ≤ 5; omega, fun i hi => ?_, ?_, ?_, ?_, ⟨a, a1, ?_, ?_, fun i hi => ?_, a5, ?_⟩, ?_, ?_, ?_⟩
          · have hi : i < c + 1 := hi
            by_cases hic : i = c
            · subst hic
              refine ⟨?_, ?_, ?_⟩
              · simp [zup, gset, show ¬ i = 10 + i by omega, show ¬ i = 5 + i by omega, show ¬ 6 + i = 3 by omega]
              · simp [zup, gset, show ¬ 5 + i = 10 + i by omega, show ¬ 6 + i = 3 by omega]
              · simp [zup, gset, show ¬ 6 + i = 3 by omega]
            · obtain ⟨x, y, z⟩ := q3 i (by omega)
              refine ⟨?_, ?_, ?_⟩
              · rw [zup_n (by omega), zup_n (by omega), zup_n (by omega), zup_n (by omega), zup_n (by omega)]
                dsimp only
                rw [gset_n (by omega), gset_n (by omega), gset_n (by omega), x]
              · rw [zup_n (by omega), zup_n (by omega), zup_n (by omega), zup_n (by omega), zup_n (by omega)]
                dsimp only
                rw [gset_n (by omega), gset_n (by omega), gset_n (by omega), y]
              · rw [zup_n (by omega), zup_n (by omega), zup_n (by omega), zup_n (by omega), zup_n (by omega)]
                dsimp only
                rw [gset_n (by omega), gset_n (by omega), gset_n (by omega), z]
          · rw [zup_n (by omega), zup_n (by omega), zup_n (by omega), zup_n (by omega), zup_n (by omega)]
            dsimp only
            rw [gset_n (by omega), gset_n (by omega), gset_n (by omega), q4]
          · rw [zup_n (by omega), zup_n (by omega), zup_n (by omega), zup_n (by omega), zup_n (by omega)]
            dsimp only
            rw [gset_n (by omega), gset_n (by omega), gset_n (by omega), q5]
          · rw [zup_n (by omega), zup_n (by omega), zup_n (by omega), zup_n (by omega), zup_n (by omega)]
            dsimp only
            rw [gset_n (by omega), gset_n (by omega), gset_n (by omega), q6]
          · dsimp only
            rw [gset_n (by omega), gset_n (by omega), gset_n (by omega), a2]
          · rw [zup_n (by omega), zup_n (by omega), zup_n (by omega), zup_n (by omega), zup_n (by omega), a3]
          · rw [zup_n (by omega), zup_n (by omega), zup_n (by omega), zup_n (by omega), zup_n (by omega)]
            dsimp only
            rw [gset_n (by omega), gset_n (by omega), gset_n (by omega), a4 i hi]
          · refine a6.trans (zorf_c (fun i hi => ?_))
            rw [zup_n (by omega), zup_n (by omega), zup_n (by omega), zup_n (by omega), zup_n (by omega)]
          · rw [zup_n (by omega), zup_n (by omega), zup_n (by omega), zup_n (by omega), zup_n (by omega), q8]
          · rw [zup_n (by omega), zup_n (by omega), zup_n (by omega), zup_n (by omega), zup_n (by omega), q9]
          · rw [zup_n (by omega), zup_n (by omega), zup_n (by omega), zup_n (by omega), zup_n (by omega), q10]
      · skip
        replace H := i_icst (x := 0) (q := 47) H I_X2_readOne_46 (by decide) rfl
        obtain ⟨hr, hh⟩ := i_ir H I_X2_readOne_47
        have h5 : ¬ c = 5 := by
          rw [hV.1] at c_8
          have := (zofn_lt (i := c) (j := 5) (by have := hV.2.1; omega) (by decide)).mp c_8
          omega
        have k1 := zif1 c_27
        obtain ⟨f1, f2, f3, f4, f5, f10⟩ := F_24
        have e2 := zf49_2 f1
        rw [e2] at c_43 F_40
        have k2 := zif0 c_43
        obtain ⟨g1, g2, g3, g4, g5, g10⟩ := F_40
        refine ⟨_, hh, zfC_4 (zf49_t f1 g1), ?_⟩
        rw [show pOne (m 2) n (c, g, sT, pT, sb) w s p = .inl (zfn (m 2) n (tN (m 2) n p)) by simp [pOne, h5, k1, k2]]
        exact ⟨hr, g5 k2⟩
    · skip
      replace H := i_icst (x := 0) (q := 31) H I_X2_readOne_30 (by decide) rfl
      obtain ⟨hr, hh⟩ := i_ir H I_X2_readOne_31
      have h5 : ¬ c = 5 := by
        rw [hV.1] at c_8
        have := (zofn_lt (i := c) (j := 5) (by have := hV.2.1; omega) (by decide)).mp c_8
        omega
      have k1 := zif0 c_27
      obtain ⟨f1, f2, f3, f4, f5, f10⟩ := F_24
      refine ⟨_, hh, zfC_4 f1, ?_⟩
      rw [show pOne (m 2) n (c, g, sT, pT, sb) w s p = .inl (zfn (m 2) n p) by simp [pOne, h5, k1]]
      exact ⟨hr, f5 k1⟩
  · skip
    replace H := i_aln (q := 12) H I_X2_readOne_11 rfl rfl
    replace H := i_icst (x := 5) (q := 13) H I_X2_readOne_12 (by decide) rfl
    replace H := i_aln (q := 14) H I_X2_readOne_13 rfl rfl
    replace H := i_gfi (q := 17) H I_X2_readOne_14 G_2_102 cn_X2_readOne LY_1 rfl rfl
    have W := i_cv2 0 (q := 20) H I_X2_readOne_17 K_2_74 Zm_27 rfl rfl
    clear H
    obtain ⟨r1, h1, Hc, K1, K2⟩ := W
    obtain ⟨e1, e2⟩ := t_X2_fail Hc
    have H := K1 _ _ e1 e2
    clear e1 e2 Hc K1 K2
    obtain ⟨hr, hh⟩ := i_ir H I_X2_readOne_20
    have h5 : c = 5 := by
      rw [hV.1] at c_8
      have := mt (zofn_lt (i := c) (j := 5) (by have := hV.2.1; omega) (by decide)).mpr c_8
      have := hV.2.1
      omega
    rw [hs] at hh
    refine ⟨_, hh, fun a b h1 h2 => by rw [zup_n (by omega), zup_n (by omega)], ?_⟩
    rw [show pOne (m 2) n (c, g, sT, pT, sb) w s p = .inl (5, s) by simp [pOne, h5]]
    exact ⟨hr, by rw [zup_n (by omega), zup_s], by rw [zup_s]⟩
theorem t_X2_readLeft {d : Nat} {m : zM} {r : Option Value} {h' : zHp} {n p s c : Nat} {g : Nat → Int32} {sT pT : Bool} {sb : Int32} (hq : zPl m n p) (hs : m 1 8 = Int32.ofNat s) (hV : cV m c g sT pT sb) (H : zE none d zm_X2_readLeft 0 [.ref 1] [] m r h') : ∃ m1, h' = zhp m1 ∧ zfC m m1 ∧ cR m1 r (pLeft (m 2) n (c, g, sT, pT, sb) p) := by
  replace H := i_aln (q := 1) H I_X2_readLeft_0 rfl rfl
  replace H := i_icst (x := 4) (q := 2) H I_X2_readLeft_1 (by decide) rfl
  have W := i_cv1 0 (q := 5) H I_X2_readLeft_2 K_2_108 Zm_32 rfl rfl
  clear H
  obtain ⟨r1, h1, Hc, K1, K2⟩ := W
  obtain ⟨M_2, e1, e2, F_2⟩ := t_X2_wantsNumber (n := n) (p := p) hq Hc
  have H := K1 _ _ e1 e2
  clear e1 e2 Hc K1 K2
  have W := i_if_ne (t := 10) (q := 8) H I_X2_readLeft_5 (by decide) rfl
  clear H
  rcases W with ⟨c_5, H⟩ | ⟨c_5, H⟩
  · skip
    replace H := i_aln (q := 11) H I_X2_readLeft_10 rfl rfl
    replace H := i_gfi (q := 14) H I_X2_readLeft_11 G_2_38 cn_X2_readLeft LY_1 rfl rfl
    replace H := i_aln (q := 15) H I_X2_readLeft_14 rfl rfl
    replace H := i_gfi (q := 18) H I_X2_readLeft_15 G_2_105 cn_X2_readLeft LY_1 rfl rfl
    replace H := i_ishr (q := 19) H I_X2_readLeft_18 rfl
    replace H := i_icst (x := 1) (q := 20) H I_X2_readLeft_19 (by decide) rfl
    replace H := i_iand (q := 21) H I_X2_readLeft_20 rfl
    have W := i_if_eq (t := 34) (q := 24) H I_X2_readLeft_21 (by decide) rfl
    clear H
    rcases W with ⟨c_21, H⟩ | ⟨c_21, H⟩
    · skip
      replace H := i_aln (q := 35) H I_X2_readLeft_34 rfl rfl
      replace H := i_dup (q := 36) H I_X2_readLeft_35 rfl rfl
      replace H := i_gfi (q := 39) H I_X2_readLeft_36 G_2_38 cn_X2_readLeft LY_1 rfl rfl
      replace H := i_icst (x := 1) (q := 40) H I_X2_readLeft_39 (by decide) rfl
      replace H := i_aln (q := 41) H I_X2_readLeft_40 rfl rfl
      replace H := i_gfi (q := 44) H I_X2_readLeft_41 G_2_105 cn_X2_readLeft LY_1 rfl rfl
      replace H := i_ishl (q := 45) H I_X2_readLeft_44 rfl
      replace H := i_ior (q := 46) H I_X2_readLeft_45 rfl
      replace H := i_pf (q := 49) H I_X2_readLeft_46 G_2_38 cn_X2_readLeft LY_1 rfl rfl
      replace H := i_aln (q := 50) H I_X2_readLeft_49 rfl rfl
      have W := i_cv0 0 (q := 53) H I_X2_readLeft_50 K_2_115 Zm_31 rfl rfl
      clear H
      obtain ⟨r1, h1, Hc, K1, K2⟩ := W
      obtain ⟨M_50, e1, e2, F_50⟩ := t_X2_wantsStop (n := n) (p := tN (m 2) n p) (by
      have := zPl_s hq F_2.1 F_2.2.1 (tN_le hq.2.2.2)
      exact ⟨by rw [zup_n (by omega)]; exact this.1, this.2.1, by rw [zup_n (by omega)]; exact this.2.2.1, this.2.2.2⟩) Hc
      have H := K1 _ _ e1 e2
      clear e1 e2 Hc K1 K2
      obtain ⟨hr, hh⟩ := i_ir H I_X2_readLeft_53
      have k1 := zif1 c_5
      obtain ⟨f1, f2, f3, f4, f5, f10⟩ := F_2
      have e2 := zf49_2 f1
      have hV2 := cV_f hV f1 (f10 k1)
      obtain ⟨q1, q2, q3, q4, q5, q6, ⟨a, a1, a2, a3, a4, a5, a6⟩, q8, q9, q10⟩ := hV2
      rw [q4, f4 k1] at c_21
      rw [show pLeft (m 2) n (c, g, sT, pT, sb) p = pEnd (m 2) n (tN (m 2) n p) (c, gset g 15 (g 15 ||| (1 <<< (tV (m 2) n p &&& 31))), sT, pT, sb) by simp [pLeft, k1, c_21]]
      rw [q4, f4 k1] at hr F_50
      refine ⟨_, hh, zfC_t (zfC_4 f1) (zfC_t (fun a b x y => ?_) (zfC_4 F_50.1)), cR_end (m := m) ?_ hr ?_ (tN_le hq.2.2.2) hq.2.1 F_50⟩
      · rw [zup_n (by omega)]
      · funext b
        rw [zup_n (by omega), e2]
      · refine ⟨by rw [zup_n (by omega)]; exact q1, q2, fun i hi => ?_, ?_, ?_, ?_, ⟨a, a1, ?_, ?_, fun i hi => ?_, a5, ?_⟩, ?_, ?_, ?_⟩
        · obtain ⟨x, y, z⟩ := q3 i hi
          have hi5 : i < 5 := by have : i < c := hi; omega
          refine ⟨?_, ?_, ?_⟩
          · rw [zup_n (by omega)]
            dsimp only
            rw [gset_n (by omega), x]
          · rw [zup_n (by omega)]
            dsimp only
            rw [gset_n (by omega), y]
          · rw [zup_n (by omega)]
            dsimp only
            rw [gset_n (by omega), z]
        · rw [zup_s]
          dsimp only
          rw [gset_s]
        · rw [zup_n (by omega)]
          dsimp only
          rw [gset_n (by omega), q5]
        · rw [zup_n (by omega)]
          dsimp only
          rw [gset_n (by omega), q6]
        · dsimp only
          rw [gset_n (by omega), a2]
        · rw [zup_n (by omega), a3]
        · rw [zup_n (by omega)]
          dsimp only
          rw [gset_n (by omega), a4 i hi]
        · refine a6.trans (zorf_c (fun i hi => ?_))
          rw [zup_n (by omega)]
        · rw [zup_n (by omega), q8]
        · rw [zup_n (by omega), q9]
        · rw [zup_n (by omega), q10]
    · skip
      replace H := i_aln (q := 25) H I_X2_readLeft_24 rfl rfl
      replace H := i_icst (x := 4) (q := 26) H I_X2_readLeft_25 (by decide) rfl
      replace H := i_aln (q := 27) H I_X2_readLeft_26 rfl rfl
      replace H := i_gfi (q := 30) H I_X2_readLeft_27 G_2_102 cn_X2_readLeft LY_1 rfl rfl
      have W := i_cv2 0 (q := 33) H I_X2_readLeft_30 K_2_74 Zm_27 rfl rfl
      clear H
      obtain ⟨r1, h1, Hc, K1, K2⟩ := W
      obtain ⟨e1, e2⟩ := t_X2_fail Hc
      have H := K1 _ _ e1 e2
      clear e1 e2 Hc K1 K2
      obtain ⟨hr, hh⟩ := i_ir H I_X2_readLeft_33
      have k1 := zif1 c_5
      obtain ⟨f1, f2, f3, f4, f5, f10⟩ := F_2
      have e2 := zf49_2 f1
      have hV2 := cV_f hV f1 (f10 k1)
      obtain ⟨q1, q2, q3, q4, q5, q6, ⟨a, a1, a2, a3, a4, a5, a6⟩, q8, q9, q10⟩ := hV2
      rw [q4, f4 k1] at c_21
      rw [f3] at hh
      refine ⟨_, hh, zfC_t (zfC_4 f1) (fun a b x y => by rw [zup_n (by omega), zup_n (by omega)]), ?_⟩
      rw [show pLeft (m 2) n (c, g, sT, pT, sb) p = .inl (4, tS (m 2) n p) by simp [pLeft, k1, c_21]]
      exact ⟨hr, by rw [zup_n (by omega), zup_s], by rw [zup_s]⟩
  · skip
    replace H := i_icst (x := 0) (q := 9) H I_X2_readLeft_8 (by decide) rfl
    obtain ⟨hr, hh⟩ := i_ir H I_X2_readLeft_9
    have k1 := zif0 c_5
    obtain ⟨f1, f2, f3, f4, f5, f10⟩ := F_2
    refine ⟨_, hh, zfC_4 f1, ?_⟩
    rw [show pLeft (m 2) n (c, g, sT, pT, sb) p = .inl (zfn (m 2) n p) by simp [pLeft, k1]]
    exact ⟨hr, f5 k1⟩
theorem t_X2_readSlack {d : Nat} {m : zM} {r : Option Value} {h' : zHp} {n p s c : Nat} {g : Nat → Int32} {sT pT : Bool} {sb : Int32} (hq : zPl m n p) (hs : m 1 8 = Int32.ofNat s) (hV : cV m c g sT pT sb) (H : zE none d zm_X2_readSlack 0 [.ref 1] [] m r h') : ∃ m1, h' = zhp m1 ∧ zfC m m1 ∧ cR m1 r (pSlack (m 2) n (c, g, sT, pT, sb) s p) := by
  replace H := i_aln (q := 1) H I_X2_readSlack_0 rfl rfl
  replace H := i_gfi (q := 4) H I_X2_readSlack_1 G_2_41 cn_X2_readSlack LY_1 rfl rfl
  have W := i_if_eq (t := 17) (q := 7) H I_X2_readSlack_4 (by decide) rfl
  clear H
  rcases W with ⟨c_4, H⟩ | ⟨c_4, H⟩
  · skip
    replace H := i_aln (q := 18) H I_X2_readSlack_17 rfl rfl
    replace H := i_icst (x := 1) (q := 19) H I_X2_readSlack_18 (by decide) rfl
    replace H := i_pf (q := 22) H I_X2_readSlack_19 G_2_41 cn_X2_readSlack LY_1 rfl rfl
    replace H := i_aln (q := 23) H I_X2_readSlack_22 rfl rfl
    replace H := i_bip (x := 9) (q := 25) H I_X2_readSlack_23 (by decide) rfl
    have W := i_cv1 0 (q := 28) H I_X2_readSlack_25 K_2_108 Zm_32 rfl rfl
    clear H
    obtain ⟨r1, h1, Hc, K1, K2⟩ := W
    obtain ⟨M_25, e1, e2, F_25⟩ := t_X2_wantsNumber (n := n) (p := p) (⟨by rw [zup_n (by omega)]; exact hq.1, hq.2.1, by rw [zup_n (by omega)]; exact hq.2.2.1, hq.2.2.2⟩ : zPl (zup m 1 11 1) n p) Hc
    have H := K1 _ _ e1 e2
    clear e1 e2 Hc K1 K2
    have W := i_if_ne (t := 33) (q := 31) H I_X2_readSlack_28 (by decide) rfl
    clear H
    rcases W with ⟨c_28, H⟩ | ⟨c_28, H⟩
    · skip
      replace H := i_aln (q := 34) H I_X2_readSlack_33 rfl rfl
      replace H := i_gfr (q := 37) H I_X2_readSlack_34 G_2_18 cn_X2_readSlack LY_1 rfl rfl
      replace H := i_aln (q := 38) H I_X2_readSlack_37 rfl rfl
      replace H := i_gfi (q := 41) H I_X2_readSlack_38 G_2_105 cn_X2_readSlack LY_1 rfl rfl
      replace H := i_pf (q := 44) H I_X2_readSlack_41 G_2_118 cn_X2_readSlack LY_3 rfl rfl
      replace H := i_aln (q := 45) H I_X2_readSlack_44 rfl rfl
      have W := i_cv0 0 (q := 48) H I_X2_readSlack_45 K_2_115 Zm_31 rfl rfl
      clear H
      obtain ⟨r1, h1, Hc, K1, K2⟩ := W
      obtain ⟨M_45, e1, e2, F_45⟩ := t_X2_wantsStop (n := n) (p := tN (m 2) n p) (by
      have e0 : zup m 1 11 1 2 = m 2 := by funext b; rw [zup_n (by omega)]
      have := zPl_s (⟨by rw [zup_n (by omega)]; exact hq.1, hq.2.1, by rw [zup_n (by omega)]; exact hq.2.2.1, hq.2.2.2⟩ : zPl (zup m 1 11 1) n p) F_25.1 F_25.2.1 (tN_le hq.2.2.2)
      rw [e0] at this
      exact ⟨by rw [zup_n (by omega)]; exact this.1, this.2.1, by rw [zup_n (by omega)]; exact this.2.2.1, this.2.2.2⟩) Hc
      have H := K1 _ _ e1 e2
      clear e1 e2 Hc K1 K2
      obtain ⟨hr, hh⟩ := i_ir H I_X2_readSlack_48
      rw [hV.2.2.2.2.2.2.2.1] at c_4
      have hT : sT = false := by cases sT <;> simp_all [zbi]
      have e0 : zup m 1 11 1 2 = m 2 := by funext b; rw [zup_n (by omega)]
      rw [e0] at c_28 F_25
      have k1 := zif1 c_28
      obtain ⟨f1, f2, f3, f4, f5, f10⟩ := F_25
      have e2 : M_25 2 = m 2 := (zf49_2 f1).trans e0
      obtain ⟨q1, q2, q3, q4, q5, q6, ⟨a, a1, a2, a3, a4, a5, a6⟩, q8, q9, q10⟩ := hV
      rw [show pSlack (m 2) n (c, g, sT, pT, sb) s p = pEnd (m 2) n (tN (m 2) n p) (c, gset g 16 (tV (m 2) n p - 1), true, pT, sb) by simp [pSlack, hT, k1]]
      rw [f4 k1] at hr F_45
      refine ⟨_, hh, zfC_t (fun a b x y => by rw [zup_n (by omega)]) (zfC_t (zfC_4 f1) (zfC_t (fun a b x y => ?_) (zfC_4 F_45.1))), cR_end (m := m) ?_ hr ?_ (tN_le hq.2.2.2) hq.2.1 F_45⟩
      · rw [zup_n (by omega)]
      · funext b
        rw [zup_n (by omega), e2]
      · refine ⟨by rw [zup_n (by omega), f1 3 2 (by omega), zup_n (by omega)]; exact q1, q2, fun i hi => ?_, ?_, ?_, ?_, ⟨a, a1, ?_, ?_, fun i hi => ?_, a5, ?_⟩, ?_, ?_, ?_⟩
        · obtain ⟨x, y, z⟩ := q3 i hi
          have hi5 : i < 5 := by have : i < c := hi; omega
          refine ⟨?_, ?_, ?_⟩
          · rw [zup_n (by omega), f1 _ _ (by omega), zup_n (by omega)]
            dsimp only
            rw [gset_n (by omega), x]
          · rw [zup_n (by omega), f1 _ _ (by omega), zup_n (by omega)]
            dsimp only
            rw [gset_n (by omega), y]
          · rw [zup_n (by omega), f1 _ _ (by omega), zup_n (by omega)]
            dsimp only
            rw [gset_n (by omega), z]
        · rw [zup_n (by omega), f1 _ _ (by omega), zup_n (by omega)]
          dsimp only
          rw [gset_n (by omega), q4]
        · rw [zup_s]
          dsimp only
          rw [gset_s, Int32.sub_add_cancel]
        · rw [zup_n (by omega), f1 _ _ (by omega), zup_n (by omega)]
          dsimp only
          rw [gset_n (by omega), q6]
        · dsimp only
          rw [gset_n (by omega), a2]
        · rw [zup_n (by omega), f1 _ _ (by omega), zup_n (by omega), a3]
        · rw [zup_n (by omega), f1 _ _ (by omega), zup_n (by omega)]
          dsimp only
          rw [gset_n (by omega), a4 i hi]
        · refine a6.trans (zorf_c (fun i hi => ?_))
          rw [zup_n (by omega), f1 _ _ (by omega), zup_n (by omega)]
        · rw [zup_n (by omega), f1 _ _ (by omega), zup_s]
          rfl
        · rw [zup_n (by omega), f1 _ _ (by omega), zup_n (by omega), q9]
        · rw [zup_n (by omega), f10 k1, zup_n (by omega), q10]
    · skip
      replace H := i_icst (x := 0) (q := 32) H I_X2_readSlack_31 (by decide) rfl
      obtain ⟨hr, hh⟩ := i_ir H I_X2_readSlack_32
      rw [hV.2.2.2.2.2.2.2.1] at c_4
      have hT : sT = false := by cases sT <;> simp_all [zbi]
      have e0 : zup m 1 11 1 2 = m 2 := by funext b; rw [zup_n (by omega)]
      rw [e0] at c_28 F_25
      have k1 := zif0 c_28
      obtain ⟨f1, f2, f3, f4, f5, f10⟩ := F_25
      refine ⟨_, hh, zfC_t (fun a b x y => by rw [zup_n (by omega)]) (zfC_4 f1), ?_⟩
      rw [show pSlack (m 2) n (c, g, sT, pT, sb) s p = .inl (zfn (m 2) n p) by simp [pSlack, hT, k1]]
      exact ⟨hr, f5 k1⟩
  · skip
    replace H := i_aln (q := 8) H I_X2_readSlack_7 rfl rfl
    replace H := i_icst (x := 4) (q := 9) H I_X2_readSlack_8 (by decide) rfl
    replace H := i_aln (q := 10) H I_X2_readSlack_9 rfl rfl
    replace H := i_gfi (q := 13) H I_X2_readSlack_10 G_2_102 cn_X2_readSlack LY_1 rfl rfl
    have W := i_cv2 0 (q := 16) H I_X2_readSlack_13 K_2_74 Zm_27 rfl rfl
    clear H
    obtain ⟨r1, h1, Hc, K1, K2⟩ := W
    obtain ⟨e1, e2⟩ := t_X2_fail Hc
    have H := K1 _ _ e1 e2
    clear e1 e2 Hc K1 K2
    obtain ⟨hr, hh⟩ := i_ir H I_X2_readSlack_16
    rw [hV.2.2.2.2.2.2.2.1] at c_4
    have hT : sT = true := by cases sT <;> simp_all [zbi]
    rw [hs] at hh
    refine ⟨_, hh, fun a b h1 h2 => by rw [zup_n (by omega), zup_n (by omega)], ?_⟩
    rw [show pSlack (m 2) n (c, g, sT, pT, sb) s p = .inl (4, s) by simp [pSlack, hT]]
    exact ⟨hr, by rw [zup_n (by omega), zup_s], by rw [zup_s]⟩
