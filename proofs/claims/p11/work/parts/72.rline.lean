/-! the reference's lines -/
theorem It_X8_readMore : zm_X8_readMore.2.2.2.2.2 = zt_X8_readMore := by
  unfold zm_X8_readMore
  rfl
theorem I_X8_readMore_0 : zin zm_X8_readMore.2.2.2.2.2 0 = some (.iload_n 1, 1) := by rw [It_X8_readMore]; rfl
theorem I_X8_readMore_1 : zin zm_X8_readMore.2.2.2.2.2 1 = some (.iconst 3, 1) := by rw [It_X8_readMore]; rfl
theorem I_X8_readMore_2 : zin zm_X8_readMore.2.2.2.2.2 2 = some (.if_icmp .gt 65, 3) := by rw [It_X8_readMore]; rfl
theorem I_X8_readMore_5 : zin zm_X8_readMore.2.2.2.2.2 5 = some (.aload_n 0, 1) := by rw [It_X8_readMore]; rfl
theorem I_X8_readMore_6 : zin zm_X8_readMore.2.2.2.2.2 6 = some (.getfield 16, 3) := by rw [It_X8_readMore]; rfl
theorem I_X8_readMore_9 : zin zm_X8_readMore.2.2.2.2.2 9 = some (.aload_n 0, 1) := by rw [It_X8_readMore]; rfl
theorem I_X8_readMore_10 : zin zm_X8_readMore.2.2.2.2.2 10 = some (.getfield 107, 3) := by rw [It_X8_readMore]; rfl
theorem I_X8_readMore_13 : zin zm_X8_readMore.2.2.2.2.2 13 = some (.iload_n 1, 1) := by rw [It_X8_readMore]; rfl
theorem I_X8_readMore_14 : zin zm_X8_readMore.2.2.2.2.2 14 = some (.iastore, 1) := by rw [It_X8_readMore]; rfl
theorem I_X8_readMore_15 : zin zm_X8_readMore.2.2.2.2.2 15 = some (.aload_n 0, 1) := by rw [It_X8_readMore]; rfl
theorem I_X8_readMore_16 : zin zm_X8_readMore.2.2.2.2.2 16 = some (.getfield 16, 3) := by rw [It_X8_readMore]; rfl
theorem I_X8_readMore_19 : zin zm_X8_readMore.2.2.2.2.2 19 = some (.iconst 5, 1) := by rw [It_X8_readMore]; rfl
theorem I_X8_readMore_20 : zin zm_X8_readMore.2.2.2.2.2 20 = some (.aload_n 0, 1) := by rw [It_X8_readMore]; rfl
theorem I_X8_readMore_21 : zin zm_X8_readMore.2.2.2.2.2 21 = some (.getfield 107, 3) := by rw [It_X8_readMore]; rfl
theorem I_X8_readMore_24 : zin zm_X8_readMore.2.2.2.2.2 24 = some (.iadd, 1) := by rw [It_X8_readMore]; rfl
theorem I_X8_readMore_25 : zin zm_X8_readMore.2.2.2.2.2 25 = some (.aload_n 0, 1) := by rw [It_X8_readMore]; rfl
theorem I_X8_readMore_26 : zin zm_X8_readMore.2.2.2.2.2 26 = some (.iconst 0, 1) := by rw [It_X8_readMore]; rfl
theorem I_X8_readMore_27 : zin zm_X8_readMore.2.2.2.2.2 27 = some (.bipush 99, 2) := by rw [It_X8_readMore]; rfl
theorem I_X8_readMore_29 : zin zm_X8_readMore.2.2.2.2.2 29 = some (.iconst 0, 1) := by rw [It_X8_readMore]; rfl
theorem I_X8_readMore_30 : zin zm_X8_readMore.2.2.2.2.2 30 = some (.invokevirtual 100, 3) := by rw [It_X8_readMore]; rfl
theorem I_X8_readMore_33 : zin zm_X8_readMore.2.2.2.2.2 33 = some (.iastore, 1) := by rw [It_X8_readMore]; rfl
theorem I_X8_readMore_34 : zin zm_X8_readMore.2.2.2.2.2 34 = some (.aload_n 0, 1) := by rw [It_X8_readMore]; rfl
theorem I_X8_readMore_35 : zin zm_X8_readMore.2.2.2.2.2 35 = some (.getfield 16, 3) := by rw [It_X8_readMore]; rfl
theorem I_X8_readMore_38 : zin zm_X8_readMore.2.2.2.2.2 38 = some (.bipush 10, 2) := by rw [It_X8_readMore]; rfl
theorem I_X8_readMore_40 : zin zm_X8_readMore.2.2.2.2.2 40 = some (.aload_n 0, 1) := by rw [It_X8_readMore]; rfl
theorem I_X8_readMore_41 : zin zm_X8_readMore.2.2.2.2.2 41 = some (.getfield 107, 3) := by rw [It_X8_readMore]; rfl
theorem I_X8_readMore_44 : zin zm_X8_readMore.2.2.2.2.2 44 = some (.iadd, 1) := by rw [It_X8_readMore]; rfl
theorem I_X8_readMore_45 : zin zm_X8_readMore.2.2.2.2.2 45 = some (.aload_n 0, 1) := by rw [It_X8_readMore]; rfl
theorem I_X8_readMore_46 : zin zm_X8_readMore.2.2.2.2.2 46 = some (.iconst 0, 1) := by rw [It_X8_readMore]; rfl
theorem I_X8_readMore_47 : zin zm_X8_readMore.2.2.2.2.2 47 = some (.bipush 99, 2) := by rw [It_X8_readMore]; rfl
theorem I_X8_readMore_49 : zin zm_X8_readMore.2.2.2.2.2 49 = some (.iconst 0, 1) := by rw [It_X8_readMore]; rfl
theorem I_X8_readMore_50 : zin zm_X8_readMore.2.2.2.2.2 50 = some (.invokevirtual 100, 3) := by rw [It_X8_readMore]; rfl
theorem I_X8_readMore_53 : zin zm_X8_readMore.2.2.2.2.2 53 = some (.iastore, 1) := by rw [It_X8_readMore]; rfl
theorem I_X8_readMore_54 : zin zm_X8_readMore.2.2.2.2.2 54 = some (.aload_n 0, 1) := by rw [It_X8_readMore]; rfl
theorem I_X8_readMore_55 : zin zm_X8_readMore.2.2.2.2.2 55 = some (.dup, 1) := by rw [It_X8_readMore]; rfl
theorem I_X8_readMore_56 : zin zm_X8_readMore.2.2.2.2.2 56 = some (.getfield 107, 3) := by rw [It_X8_readMore]; rfl
theorem I_X8_readMore_59 : zin zm_X8_readMore.2.2.2.2.2 59 = some (.iconst 1, 1) := by rw [It_X8_readMore]; rfl
theorem I_X8_readMore_60 : zin zm_X8_readMore.2.2.2.2.2 60 = some (.iadd, 1) := by rw [It_X8_readMore]; rfl
theorem I_X8_readMore_61 : zin zm_X8_readMore.2.2.2.2.2 61 = some (.putfield 107, 3) := by rw [It_X8_readMore]; rfl
theorem I_X8_readMore_64 : zin zm_X8_readMore.2.2.2.2.2 64 = some (.goto 67, 3) := by rw [It_X8_readMore]; rfl
theorem I_X8_readMore_131 : zin zm_X8_readMore.2.2.2.2.2 131 = some (.return_, 1) := by rw [It_X8_readMore]; rfl
theorem G_8_16 : zlk zfls 8 16 = some (8, 3, 844) := rfl
theorem G_8_107 : zlk zfls 8 107 = some (8, 4, 845) := rfl
theorem K_8_100 : zlk zmls 8 100 = some (0, 121, 3, 980) := rfl
theorem Zm_121 : zms[121]? = some zm_X8_other := rfl
theorem LY_74 : zLY[74]? = some (Sum.inl 0, List.replicate 27 none) := rfl
theorem cl_X8_readMore : zm_X8_readMore.2.2.2.2.1 = 8 := by
  unfold zm_X8_readMore
  rfl
theorem cn_X8_readMore : zm_X8_readMore.2.2.2.2.1 ≠ 12 := by
  rw [cl_X8_readMore]
  decide
theorem cn2_X8_readMore : zm_X8_readMore.2.2.2.2.1 ≠ 2 := by
  rw [cl_X8_readMore]
  decide
/-- what the reference's page holds of what has been read -/
def rV (m : zM) (c : Nat) (g : Nat → Int32) (sT pT : Bool) (sb : Int32) : Prop := m 71 4 = Int32.ofNat c ∧ c ≤ 5 ∧ (∀ k, k < 27 → m 74 k = g k) ∧ (∃ τ, τ < 128 ∧ m 71 5 = Int32.ofNat τ ∧ (Int32.ofNat τ >>> ((5 : Int32) &&& 31)) &&& 1 = zbi sT ∧ (Int32.ofNat τ >>> ((6 : Int32) &&& 31)) &&& 1 = zbi pT) ∧ m 71 6 = sb ∧ (∃ a, a ≤ 8 ∧ g 26 = Int32.ofNat a ∧ (pT = false → a = 0))
theorem rV_g {m m1 : zM} {c : Nat} {g : Nat → Int32} {sT pT : Bool} {sb : Int32} (h : rV m c g sT pT sb) (hf : zg1015 m m1) : rV m1 c g sT pT sb := by
  obtain ⟨h1, h2, h3, ⟨τ, t1, t2, t3, t4⟩, h5, h6⟩ := h
  exact ⟨by rw [hf _ _ (by omega)]; exact h1, h2, fun k hk => by rw [hf _ _ (by omega)]; exact h3 k hk, ⟨τ, t1, by rw [hf _ _ (by omega)]; exact t2, t3, t4⟩, by rw [hf _ _ (by omega)]; exact h5, h6⟩
theorem rC_f {m m1 : zM} {n p : Nat} (h : rC m n p) (hf : ∀ b, 10 ≤ b → b ≤ 15 → m1 71 b = m 71 b) (h5 : m1 75 = m 75) : rC m1 n p := by
  obtain ⟨h0, h⟩ := h
  refine ⟨h0, ?_⟩
  unfold rC0 rF at *
  rw [h5, hf 10 (by omega) (by omega), hf 11 (by omega) (by omega), hf 12 (by omega) (by omega), hf 13 (by omega) (by omega), hf 14 (by omega) (by omega), hf 15 (by omega) (by omega)]
  exact h
def rR (m1 : zM) (n : Nat) (x : zPr) : Prop := match x with
  | .inl f => rF m1 f
  | .inr q => rV m1 q.1.1 q.1.2.1 q.1.2.2.1 q.1.2.2.2.1 q.1.2.2.2.2 ∧ rC m1 n q.2
section
variable (t : Nat → Int32) (n : Nat) (σ : zPs)
def pPlM (c : Nat) (sT : Bool) : Nat → Nat → (Nat → Int32) → Int32 → Nat → zPr
  | 0, _, _, _, _ => .inl (0, 0)
  | k + 1, a, g, sb, p => if tK t n p = 2 then (if 8 ≤ a then .inl (5, tS t n p) else if 31 < tV t n p then .inl (3, tS t n p) else pPlM c sT k (a + 1) (gset (gset g (18 + a) (tV t n p)) 26 (Int32.ofNat (a + 1))) (sb ||| tV t n p) (tN t n p)) else .inr ((c, g, sT, true, sb), p)
/-- a line's numbers, behind its name, up to its stop -/
def pMore (w p : Nat) : zPr := if w < 4 then (if zNm t n p 99 = true then (if zNm t n (tN t n p) 99 = true then .inr ((σ.1 + 1, gset (gset (gset σ.2.1 σ.1 (Int32.ofNat w)) (5 + σ.1) (tV t n p)) (10 + σ.1) (tV t n (tN t n p)), σ.2.2), tN t n (tN t n p)) else .inl (zfn t n (tN t n p))) else .inl (zfn t n p))
  else if w = 4 then (if zNm t n p 4 = true then (if (σ.2.1 15 >>> (tV t n p &&& 31)) &&& 1 = 0 then .inr ((σ.1, gset σ.2.1 15 (σ.2.1 15 ||| (1 <<< (tV t n p &&& 31))), σ.2.2), tN t n p) else .inl (4, tS t n p)) else .inl (zfn t n p))
  else if w = 5 then (if zNm t n p 9 = true then .inr ((σ.1, gset σ.2.1 16 (tV t n p - 1), true, σ.2.2.2), tN t n p) else .inl (zfn t n p))
  else pPlM t n σ.1 σ.2.2.1 9 0 σ.2.1 σ.2.2.2.2 p
def pBd (x : zPr) : zPr := match x with
  | .inl f => .inl f
  | .inr q => pEnd t n q.2 q.1
theorem pPlM_b (c : Nat) (sT : Bool) : ∀ (k a : Nat) (g : Nat → Int32) (sb : Int32) (p : Nat), pBd t n (pPlM t n c sT k a g sb p) = pPl t n c sT k a g sb p
  | 0, a, g, sb, p => rfl
  | k + 1, a, g, sb, p => by
    rw [pPlM, pPl]
    by_cases h2 : tK t n p = 2
    · have h3 : ¬ tK t n p = 3 := by rw [h2]; decide
      rw [if_pos h2, if_neg h3, if_pos h2]
      by_cases h8 : 8 ≤ a
      · rw [if_pos h8, if_pos h8]; rfl
      · rw [if_neg h8, if_neg h8]
        by_cases h31 : 31 < tV t n p
        · rw [if_pos h31, if_pos h31]; rfl
        · rw [if_neg h31, if_neg h31]
          exact pPlM_b c sT k _ _ _ _
    · rw [if_neg h2, if_neg h2]
      show pEnd t n p _ = _
      rw [pEnd]
theorem pOne_b (w s p : Nat) (hw : w < 4) (hc : ¬ σ.1 = 5) : pOne t n σ w s p = pBd t n (pMore t n σ w p) := by
  rw [pOne, if_neg hc, pMore, if_pos hw]
  split
  · split <;> rfl
  · rfl
theorem pLeft_b (p : Nat) : pLeft t n σ p = pBd t n (pMore t n σ 4 p) := by
  rw [pLeft, pMore, if_neg (show ¬ 4 < 4 by omega), if_pos (show 4 = 4 from rfl)]
  split
  · split <;> rfl
  · rfl
theorem pSlack_b (s p : Nat) (hs : ¬ σ.2.2.1 = true) : pSlack t n σ s p = pBd t n (pMore t n σ 5 p) := by
  rw [pSlack, if_neg hs, pMore, if_neg (show ¬ 5 < 4 by omega), if_neg (show ¬ 5 = 4 by omega), if_pos (show 5 = 5 from rfl)]
  split <;> rfl
theorem pPlan_b (s p : Nat) (hs : ¬ σ.2.2.2.1 = true) : pPlan t n σ s p = pBd t n (pMore t n σ 6 p) := by
  rw [pPlan, if_neg hs, pMore, if_neg (show ¬ 6 < 4 by omega), if_neg (show ¬ 6 = 4 by omega), if_neg (show ¬ 6 = 5 by omega), pPlM_b]
end
theorem zix_add {k c i : Nat} {x y : Int32} (hy : y = Int32.ofNat k) (hx : x = Int32.ofNat c) (h : y + x = Int32.ofNat i) (hk : k + c < 1000) (hi : i < 1000) : i = k + c := by
  rw [hy, hx, ← Int32.ofNat_add] at h
  exact zofn h.symm (by omega) (by omega)
theorem pOth_0 {t : Nat → Int32} {n p : Nat} {most : Int32} : pOth t n p most 0 = if zNm t n p most = true then .inr (tV t n p) else .inl (zfn t n p) := by
  rw [pOth]
  split
  · rw [if_pos z_0sh]
  · rfl
theorem pOth_ok {t : Nat → Int32} {n p : Nat} {most v : Int32} (h : pOth t n p most 0 = .inr v) : zNm t n p most = true ∧ v = tV t n p := by
  rw [pOth_0] at h
  split at h
  · rename_i hk; cases h; exact ⟨hk, rfl⟩
  · cases h
theorem pOth_no {t : Nat → Int32} {n p : Nat} {most : Int32} {f : Int32 × Nat} (h : pOth t n p most 0 = .inl f) : ¬ zNm t n p most = true ∧ f = zfn t n p := by
  rw [pOth_0] at h
  split at h
  · cases h
  · rename_i hk; cases h; exact ⟨hk, rfl⟩
theorem rm_one {d : Nat} {m : zM} {r : Option Value} {h' : zHp} {n p c : Nat} {g : Nat → Int32} {sT pT : Bool} {sb : Int32} (hE : rE m n) (hC : rC m n p) (hV : rV m c g sT pT sb) {w : Nat} (hw : w < 4) (hc : c < 5) (H : zE none d zm_X8_readMore 0 [.ref 71, .int (Int32.ofNat w), .null] [] m r h') : ∃ m1, r = none ∧ h' = zhp m1 ∧ zfR m m1 ∧ rR m1 n (pMore (m 75) n (c, g, sT, pT, sb) w p) := by
  replace H := i_iln (q := 1) H I_X8_readMore_0 rfl rfl
  replace H := i_icst (x := 3) (q := 2) H I_X8_readMore_1 (by decide) rfl
  have W := i_ic_gt (t := 67) (q := 5) H I_X8_readMore_2 (by decide) rfl
  clear H
  rcases W with ⟨c_2, H⟩ | ⟨c_2, H⟩
  · exact absurd ((zofn_lt (i := 3) (by decide) (by omega)).mp c_2) (by omega)
  · skip
    replace H := i_aln (q := 6) H I_X8_readMore_5 rfl rfl
    replace H := i_gfr (q := 9) H I_X8_readMore_6 G_8_16 cn_X8_readMore LY_71 rfl rfl
    replace H := i_aln (q := 10) H I_X8_readMore_9 rfl rfl
    replace H := i_gfi (q := 13) H I_X8_readMore_10 G_8_107 cn_X8_readMore LY_71 rfl rfl
    replace H := i_iln (q := 14) H I_X8_readMore_13 rfl rfl
    have W := i_iast (q := 15) H I_X8_readMore_14 LY_74 rfl
    clear H
    obtain ⟨i_14, bi_14, ei_14, H⟩ := W
    replace H := i_aln (q := 16) H I_X8_readMore_15 rfl rfl
    replace H := i_gfr (q := 19) H I_X8_readMore_16 G_8_16 cn_X8_readMore LY_71 rfl rfl
    replace H := i_icst (x := 5) (q := 20) H I_X8_readMore_19 (by decide) rfl
    replace H := i_aln (q := 21) H I_X8_readMore_20 rfl rfl
    replace H := i_gfi (q := 24) H I_X8_readMore_21 G_8_107 cn_X8_readMore LY_71 rfl rfl
    replace H := i_iadd (q := 25) H I_X8_readMore_24 rfl
    replace H := i_aln (q := 26) H I_X8_readMore_25 rfl rfl
    replace H := i_icst (x := 0) (q := 27) H I_X8_readMore_26 (by decide) rfl
    replace H := i_bip (x := 99) (q := 29) H I_X8_readMore_27 (by decide) rfl
    replace H := i_icst (x := 0) (q := 30) H I_X8_readMore_29 (by decide) rfl
    have W := i_cv3 1 (q := 33) H I_X8_readMore_30 K_8_100 Zm_121 rfl rfl
    clear H
    obtain ⟨r1, h1, Hc, K1, K2⟩ := W
    obtain ⟨M_30, v_30, e1, e2, G_30, D_30⟩ := t_other (n := n) (p := p) (rE_f hE (fun a b x y => by rw [zup_n (by omega)])) (rC_f hC (fun b x y => by rw [zup_n (by omega)]) (by funext b; rw [zup_n (by omega)])) Hc
    have H := K1 _ _ e1 e2
    clear e1 e2 Hc K1 K2
    rcases D_30 with ⟨o_30, C_30⟩ | ⟨f_30, o_30, C_30⟩
    · skip
      have W := i_iast (q := 34) H I_X8_readMore_33 LY_74 rfl
      clear H
      obtain ⟨i_33, bi_33, ei_33, H⟩ := W
      replace H := i_aln (q := 35) H I_X8_readMore_34 rfl rfl
      replace H := i_gfr (q := 38) H I_X8_readMore_35 G_8_16 cn_X8_readMore LY_71 rfl rfl
      replace H := i_bip (x := 10) (q := 40) H I_X8_readMore_38 (by decide) rfl
      replace H := i_aln (q := 41) H I_X8_readMore_40 rfl rfl
      replace H := i_gfi (q := 44) H I_X8_readMore_41 G_8_107 cn_X8_readMore LY_71 rfl rfl
      replace H := i_iadd (q := 45) H I_X8_readMore_44 rfl
      replace H := i_aln (q := 46) H I_X8_readMore_45 rfl rfl
      replace H := i_icst (x := 0) (q := 47) H I_X8_readMore_46 (by decide) rfl
      replace H := i_bip (x := 99) (q := 49) H I_X8_readMore_47 (by decide) rfl
      replace H := i_icst (x := 0) (q := 50) H I_X8_readMore_49 (by decide) rfl
      have W := i_cv3 1 (q := 53) H I_X8_readMore_50 K_8_100 Zm_121 rfl rfl
      clear H
      obtain ⟨r1, h1, Hc, K1, K2⟩ := W
      obtain ⟨M_50, v_50, e1, e2, G_50, D_50⟩ := t_other (n := n) (p := tN (m 75) n p) (rE_f (rE_f hE (fun a b x y => by rw [zup_n (by omega)])) (zfR_t (zfR_g G_30) (fun a b x y => by rw [zup_n (by omega)]))) (rC_f (by have C := C_30; rw [show zup m 74 i_14 (Int32.ofNat w) 75 = m 75 from by funext b; rw [zup_n (by omega)]] at C; exact C) (fun b x y => by rw [zup_n (by omega)]) (by funext b; rw [zup_n (by omega)])) Hc
      have H := K1 _ _ e1 e2
      clear e1 e2 Hc K1 K2
      rcases D_50 with ⟨o_50, C_50⟩ | ⟨f_50, o_50, C_50⟩
      · skip
        have W := i_iast (q := 54) H I_X8_readMore_53 LY_74 rfl
        clear H
        obtain ⟨i_53, bi_53, ei_53, H⟩ := W
        replace H := i_aln (q := 55) H I_X8_readMore_54 rfl rfl
        replace H := i_dup (q := 56) H I_X8_readMore_55 rfl rfl
        replace H := i_gfi (q := 59) H I_X8_readMore_56 G_8_107 cn_X8_readMore LY_71 rfl rfl
        replace H := i_icst (x := 1) (q := 60) H I_X8_readMore_59 (by decide) rfl
        replace H := i_iadd (q := 61) H I_X8_readMore_60 rfl
        replace H := i_pf (q := 64) H I_X8_readMore_61 G_8_107 cn_X8_readMore LY_71 rfl rfl
        replace H := i_goto (q := 131) H I_X8_readMore_64 (by decide)
        obtain ⟨hr, hh⟩ := i_rt H I_X8_readMore_131
        have i1 : i_14 = c := zofn (ei_14.symm.trans hV.1) (by omega) (by omega)
        subst i1
        obtain ⟨k1, rfl⟩ := pOth_ok o_30
        have e0 : zup m 74 i_14 (Int32.ofNat w) 75 = m 75 := by funext b; rw [zup_n (by omega)]
        rw [e0] at k1 C_30 o_50 G_50 ei_53
        try rw [e0] at C_50
        have i2 : i_33 = 5 + i_14 := zix_add rfl (by rw [zup_n (by omega)]; exact hV.1) ei_33 (by omega) (by omega)
        subst i2
        have e1 : zup M_30 74 (5 + i_14) (tV (m 75) n p) 75 = m 75 := by
          funext b
          rw [zup_n (by omega), G_30 _ _ (by omega), zup_n (by omega)]
        rw [e1] at o_50
        try rw [e1] at C_50
        obtain ⟨k2, rfl⟩ := pOth_ok o_50
        have i3 : i_53 = 10 + i_14 := zix_add rfl (by rw [zup_n (by omega), G_30 _ _ (by omega), zup_n (by omega)]; exact hV.1) ei_53 (by omega) (by omega)
        subst i3
        rw [show pMore (m 75) n (i_14, g, sT, pT, sb) w p = .inr ((i_14 + 1, gset (gset (gset g i_14 (Int32.ofNat w)) (5 + i_14) (tV (m 75) n p)) (10 + i_14) (tV (m 75) n (tN (m 75) n p)), sT, pT, sb), tN (m 75) n (tN (m 75) n p)) by rw [pMore, if_pos hw, if_pos k1, if_pos k2]]
        obtain ⟨q1, q2, q3, ⟨τ, t1, t2, t3, t4⟩, q5, a, a1, a2, a3⟩ := hV
        refine ⟨_, hr, hh, fun a b x y => ?_, ⟨?_, ?_, fun k hk => ?_, ⟨τ, t1, ?_, t3, t4⟩, ?_, a, a1, ?_, a3⟩, ?_⟩
        · rw [zup_n (by omega), zup_n (by omega), G_50 _ _ (by omega), zup_n (by omega), G_30 _ _ (by omega), zup_n (by omega)]
        · rw [zup_s, zup_n (by omega), G_50 _ _ (by omega), zup_n (by omega), G_30 _ _ (by omega), zup_n (by omega), q1, zofn_1]
        · show i_14 + 1 ≤ 5
          omega
        · dsimp only
          rw [zup_n (by omega)]
          by_cases h1 : k = 10 + i_14
          · subst h1
            rw [zup_s, gset_s]
          · rw [zup_n (by omega), gset_n h1, G_50 _ _ (by omega)]
            by_cases h2 : k = 5 + i_14
            · subst h2
              rw [zup_s, gset_s]
            · rw [zup_n (by omega), gset_n h2, G_30 _ _ (by omega)]
              by_cases h3 : k = i_14
              · subst h3
                rw [zup_s, gset_s]
              · rw [zup_n (by omega), gset_n h3, q3 k hk]
        · rw [zup_n (by omega), zup_n (by omega), G_50 _ _ (by omega), zup_n (by omega), G_30 _ _ (by omega), zup_n (by omega), t2]
        · rw [zup_n (by omega), zup_n (by omega), G_50 _ _ (by omega), zup_n (by omega), G_30 _ _ (by omega), zup_n (by omega), q5]
        · dsimp only
          rw [gset_n (by omega), gset_n (by omega), gset_n (by omega), a2]
        · refine rC_f C_50 (fun b x y => ?_) ?_
          · rw [zup_n (by omega), zup_n (by omega)]
          · funext b
            rw [zup_n (by omega), zup_n (by omega)]
      · skip
        have W := i_iast (q := 54) H I_X8_readMore_53 LY_74 rfl
        clear H
        obtain ⟨i_53, bi_53, ei_53, H⟩ := W
        replace H := i_aln (q := 55) H I_X8_readMore_54 rfl rfl
        replace H := i_dup (q := 56) H I_X8_readMore_55 rfl rfl
        replace H := i_gfi (q := 59) H I_X8_readMore_56 G_8_107 cn_X8_readMore LY_71 rfl rfl
        replace H := i_icst (x := 1) (q := 60) H I_X8_readMore_59 (by decide) rfl
        replace H := i_iadd (q := 61) H I_X8_readMore_60 rfl
        replace H := i_pf (q := 64) H I_X8_readMore_61 G_8_107 cn_X8_readMore LY_71 rfl rfl
        replace H := i_goto (q := 131) H I_X8_readMore_64 (by decide)
        obtain ⟨hr, hh⟩ := i_rt H I_X8_readMore_131
        have i1 : i_14 = c := zofn (ei_14.symm.trans hV.1) (by omega) (by omega)
        subst i1
        obtain ⟨k1, rfl⟩ := pOth_ok o_30
        have e0 : zup m 74 i_14 (Int32.ofNat w) 75 = m 75 := by funext b; rw [zup_n (by omega)]
        rw [e0] at k1 C_30 o_50 G_50 ei_53
        try rw [e0] at C_50
        have i2 : i_33 = 5 + i_14 := zix_add rfl (by rw [zup_n (by omega)]; exact hV.1) ei_33 (by omega) (by omega)
        subst i2
        have e1 : zup M_30 74 (5 + i_14) (tV (m 75) n p) 75 = m 75 := by
          funext b
          rw [zup_n (by omega), G_30 _ _ (by omega), zup_n (by omega)]
        rw [e1] at o_50
        try rw [e1] at C_50
        obtain ⟨k2, rfl⟩ := pOth_no o_50
        rw [show pMore (m 75) n (i_14, g, sT, pT, sb) w p = .inl (zfn (m 75) n (tN (m 75) n p)) by rw [pMore, if_pos hw, if_pos k1, if_neg k2]]
        refine ⟨_, hr, hh, fun a b x y => ?_, ?_⟩
        · rw [zup_n (by omega), zup_n (by omega), G_50 _ _ (by omega), zup_n (by omega), G_30 _ _ (by omega), zup_n (by omega)]
        · exact ⟨by rw [zup_n (by omega), zup_n (by omega)]; exact C_50.1, by rw [zup_n (by omega), zup_n (by omega)]; exact C_50.2.1, C_50.2.2⟩
    · skip
      have W := i_iast (q := 34) H I_X8_readMore_33 LY_74 rfl
      clear H
      obtain ⟨i_33, bi_33, ei_33, H⟩ := W
      replace H := i_aln (q := 35) H I_X8_readMore_34 rfl rfl
      replace H := i_gfr (q := 38) H I_X8_readMore_35 G_8_16 cn_X8_readMore LY_71 rfl rfl
      replace H := i_bip (x := 10) (q := 40) H I_X8_readMore_38 (by decide) rfl
      replace H := i_aln (q := 41) H I_X8_readMore_40 rfl rfl
      replace H := i_gfi (q := 44) H I_X8_readMore_41 G_8_107 cn_X8_readMore LY_71 rfl rfl
      replace H := i_iadd (q := 45) H I_X8_readMore_44 rfl
      replace H := i_aln (q := 46) H I_X8_readMore_45 rfl rfl
      replace H := i_icst (x := 0) (q := 47) H I_X8_readMore_46 (by decide) rfl
      replace H := i_bip (x := 99) (q := 49) H I_X8_readMore_47 (by decide) rfl
      replace H := i_icst (x := 0) (q := 50) H I_X8_readMore_49 (by decide) rfl
      have W := i_cv3 1 (q := 53) H I_X8_readMore_50 K_8_100 Zm_121 rfl rfl
      clear H
      obtain ⟨r1, h1, Hc, K1, K2⟩ := W
      obtain ⟨e1, e2⟩ := t_other_br (f := f_30) ⟨by rw [zup_n (by omega)]; exact C_30.1, by rw [zup_n (by omega)]; exact C_30.2.1, C_30.2.2⟩ Hc
      have H := K1 _ _ e1 e2
      clear e1 e2 Hc K1 K2
      have W := i_iast (q := 54) H I_X8_readMore_53 LY_74 rfl
      clear H
      obtain ⟨i_53, bi_53, ei_53, H⟩ := W
      replace H := i_aln (q := 55) H I_X8_readMore_54 rfl rfl
      replace H := i_dup (q := 56) H I_X8_readMore_55 rfl rfl
      replace H := i_gfi (q := 59) H I_X8_readMore_56 G_8_107 cn_X8_readMore LY_71 rfl rfl
      replace H := i_icst (x := 1) (q := 60) H I_X8_readMore_59 (by decide) rfl
      replace H := i_iadd (q := 61) H I_X8_readMore_60 rfl
      replace H := i_pf (q := 64) H I_X8_readMore_61 G_8_107 cn_X8_readMore LY_71 rfl rfl
      replace H := i_goto (q := 131) H I_X8_readMore_64 (by decide)
      obtain ⟨hr, hh⟩ := i_rt H I_X8_readMore_131
      have i1 : i_14 = c := zofn (ei_14.symm.trans hV.1) (by omega) (by omega)
      subst i1
      obtain ⟨k1, rfl⟩ := pOth_no o_30
      rw [show zup m 74 i_14 (Int32.ofNat w) 75 = m 75 from by funext b; rw [zup_n (by omega)]] at k1 C_30
      rw [show pMore (m 75) n (i_14, g, sT, pT, sb) w p = .inl (zfn (m 75) n p) by rw [pMore, if_pos hw, if_neg k1]]
      refine ⟨_, hr, hh, fun a b x y => ?_, ?_⟩
      · rw [zup_n (by omega), zup_n (by omega), zup_n (by omega), G_30 _ _ (by omega), zup_n (by omega)]
      · exact ⟨by rw [zup_n (by omega), zup_n (by omega), zup_n (by omega)]; exact C_30.1, by rw [zup_n (by omega), zup_n (by omega), zup_n (by omega)]; exact C_30.2.1, C_30.2.2⟩
