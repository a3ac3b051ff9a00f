/-! the tape beyond its end is not looked at -/
theorem tE_g {t u : Nat → Int32} {n : Nat} (h : ∀ i, i < n → t i = u i) (f : Int32 → Bool) (p : Nat) : tE f t n p = tE f u n p := tB_cg h _ _
theorem tS_g {t u : Nat → Int32} {n : Nat} (h : ∀ i, i < n → t i = u i) (p : Nat) : tS t n p = tS u n p := tE_g h _ _
theorem tKs_g {t u : Nat → Int32} {n : Nat} (h : ∀ i, i < n → t i = u i) (s : Nat) : tKs t n s = tKs u n s := by
  unfold tKs
  by_cases hs : n ≤ s
  · rw [if_pos hs, if_pos hs]
  · rw [if_neg hs, if_neg hs, h s (by omega), tE_g h]
theorem tNs_g {t u : Nat → Int32} {n : Nat} (h : ∀ i, i < n → t i = u i) (s : Nat) : tNs t n s = tNs u n s := by
  unfold tNs
  by_cases hs : n ≤ s
  · rw [if_pos hs, if_pos hs]
  · rw [if_neg hs, if_neg hs, h s (by omega), tE_g h, tE_g h]
theorem tK_g {t u : Nat → Int32} {n : Nat} (h : ∀ i, i < n → t i = u i) (p : Nat) : tK t n p = tK u n p := by
  unfold tK
  rw [tS_g h, tKs_g h]
theorem tN_g {t u : Nat → Int32} {n : Nat} (h : ∀ i, i < n → t i = u i) (p : Nat) : tN t n p = tN u n p := by
  unfold tN
  rw [tS_g h, tNs_g h]
theorem tKs_2 {u : Nat → Int32} {n : Nat} {s : Nat} (hk : tKs u n s = 2) : s < n := by
  unfold tKs at hk
  split at hk
  · cases hk
  · omega
theorem tV_g {t u : Nat → Int32} {n : Nat} (h : ∀ i, i < n → t i = u i) {p : Nat} (hk : tK u n p = 2) : tV t n p = tV u n p := by
  have hs := tKs_2 hk
  unfold tV tVs
  rw [tS_g h, h _ hs, tE_g h]
  split
  · split
    · rfl
    · rename_i hne
      rw [h (tS u n p + 1) (by
        rcases Nat.lt_or_ge (tS u n p + 1) n with w | w
        · exact w
        · exact absurd (tE_out w) hne)]
  · rfl
theorem zNm_2 {u : Nat → Int32} {n : Nat} {p : Nat} {x : Int32} (hk : zNm u n p x = true) : tK u n p = 2 := by
  simp only [zNm, Bool.and_eq_true, decide_eq_true_eq] at hk
  exact hk.1
theorem zNm_g {t u : Nat → Int32} {n : Nat} (h : ∀ i, i < n → t i = u i) (p : Nat) (x : Int32) : zNm t n p x = zNm u n p x := by
  unfold zNm
  by_cases hk : tK u n p = 2
  · rw [tK_g h, tV_g h hk]
  · rw [tK_g h, decide_eq_false hk, Bool.false_and, Bool.false_and]
theorem zal_g {t u : Nat → Int32} {n : Nat} (h : ∀ i, i < n → t i = u i) (s w : Nat) : ∀ (j k : Nat), s + k + j ≤ n → zal t s w k j = zal u s w k j
  | 0, k, _ => rfl
  | j + 1, k, hj => by
    simp only [zal]
    rw [h (s + k) (by omega), zal_g h s w j (k + 1) (by omega)]
theorem zmat_g {t u : Nat → Int32} {n : Nat} (h : ∀ i, i < n → t i = u i) {s e : Nat} (he : e ≤ n) (hse : s ≤ e) (w : Nat) : zmat t s e w = zmat u s e w := by
  unfold zmat
  by_cases hl : e - s = zlen.getD w 0
  · rw [zal_g h s w _ 0 (by omega)]
  · rw [decide_eq_false hl, Bool.false_and, Bool.false_and]
theorem zwf_g {t u : Nat → Int32} {n : Nat} (h : ∀ i, i < n → t i = u i) {s e : Nat} (he : e ≤ n) (hse : s ≤ e) : ∀ (k w : Nat), zwf t s e k w = zwf u s e k w
  | 0, w => rfl
  | k + 1, w => by
    simp only [zwf]
    rw [zmat_g h he hse, zwf_g h he hse k (w + 1)]
theorem zfn_g {t u : Nat → Int32} {n : Nat} (h : ∀ i, i < n → t i = u i) (p : Nat) : zfn t n p = zfn u n p := by
  unfold zfn
  rw [tK_g h, tS_g h]
theorem zft_g {t u : Nat → Int32} {n : Nat} (h : ∀ i, i < n → t i = u i) (p : Nat) : zft t n p = zft u n p := by
  unfold zft
  rw [tK_g h, tS_g h]
theorem pEnd_g {t u : Nat → Int32} {n : Nat} (h : ∀ i, i < n → t i = u i) (p : Nat) (x : zPs) : pEnd t n p x = pEnd u n p x := by
  unfold pEnd
  rw [tK_g h, tN_g h, zft_g h]
theorem pOne_g {t u : Nat → Int32} {n : Nat} (h : ∀ i, i < n → t i = u i) (σ : zPs) (w s p : Nat) : pOne t n σ w s p = pOne u n σ w s p := by
  unfold pOne
  rw [zNm_g h, tN_g h, zNm_g h, tN_g h, zfn_g h, zfn_g h, pEnd_g h]
  by_cases hc : σ.1 = 5
  · rw [if_pos hc, if_pos hc]
  · rw [if_neg hc, if_neg hc]
    by_cases k1 : zNm u n p 99 = true
    · rw [if_pos k1, if_pos k1]
      by_cases k2 : zNm u n (tN u n p) 99 = true
      · rw [if_pos k2, if_pos k2, tV_g h (zNm_2 k1), tV_g h (zNm_2 k2)]
      · rw [if_neg k2, if_neg k2]
    · rw [if_neg k1, if_neg k1]
theorem pLeft_g {t u : Nat → Int32} {n : Nat} (h : ∀ i, i < n → t i = u i) (σ : zPs) (p : Nat) : pLeft t n σ p = pLeft u n σ p := by
  unfold pLeft
  rw [zNm_g h, tN_g h, zfn_g h, tS_g h, pEnd_g h]
  by_cases k1 : zNm u n p 4 = true
  · rw [if_pos k1, if_pos k1, tV_g h (zNm_2 k1)]
  · rw [if_neg k1, if_neg k1]
theorem pSlack_g {t u : Nat → Int32} {n : Nat} (h : ∀ i, i < n → t i = u i) (σ : zPs) (s p : Nat) : pSlack t n σ s p = pSlack u n σ s p := by
  unfold pSlack
  rw [zNm_g h, tN_g h, zfn_g h, pEnd_g h]
  by_cases hc : σ.2.2.1 = true
  · rw [if_pos hc, if_pos hc]
  · rw [if_neg hc, if_neg hc]
    by_cases k1 : zNm u n p 9 = true
    · rw [if_pos k1, if_pos k1, tV_g h (zNm_2 k1)]
    · rw [if_neg k1, if_neg k1]
theorem pPl_g {t u : Nat → Int32} {n : Nat} (h : ∀ i, i < n → t i = u i) (c : Nat) (sT : Bool) : ∀ (k a : Nat) (g : Nat → Int32) (sb : Int32) (p : Nat), pPl t n c sT k a g sb p = pPl u n c sT k a g sb p
  | 0, a, g, sb, p => rfl
  | k + 1, a, g, sb, p => by
    rw [pPl, pPl, tK_g h, tN_g h, tS_g h, zft_g h]
    by_cases k3 : tK u n p = 3
    · rw [if_pos k3, if_pos k3]
    · rw [if_neg k3, if_neg k3]
      by_cases k2 : tK u n p = 2
      · rw [if_pos k2, if_pos k2, tV_g h k2, pPl_g h c sT k]
      · rw [if_neg k2, if_neg k2]
theorem pPlan_g {t u : Nat → Int32} {n : Nat} (h : ∀ i, i < n → t i = u i) (σ : zPs) (s p : Nat) : pPlan t n σ s p = pPlan u n σ s p := by
  unfold pPlan
  rw [pPl_g h]
theorem pLn_g {t u : Nat → Int32} {n : Nat} (h : ∀ i, i < n → t i = u i) (σ : zPs) (p : Nat) (hp : p ≤ n) : pLn t n σ p = pLn u n σ p := by
  unfold pLn
  rw [tK_g h, tS_g h, tN_g h, zft_g h, pOne_g h, pLeft_g h, pSlack_g h, pPlan_g h, show zword t (tS u n p) (tN u n p) = zword u (tS u n p) (tN u n p) from zwf_g h (tN_le hp) tN_ge 7 0]
theorem pTx_g {t u : Nat → Int32} {n : Nat} (h : ∀ i, i < n → t i = u i) : ∀ (k : Nat) (σ : zPs) (l p : Nat), p ≤ n → pTx t n k σ l p = pTx u n k σ l p
  | 0, σ, l, p, _ => rfl
  | k + 1, σ, l, p, hp => by
    rw [pTx, pTx, tK_g h, pLn_g h σ p hp]
    cases hx : pLn u n σ p with
    | inl f => rfl
    | inr q =>
      dsimp only
      rw [pTx_g h k q.1 (l + 1) q.2 ((pLn_ok hx).2 hp)]
