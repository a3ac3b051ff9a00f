/-! bounds of the machine's numbers, for the abstract run's second version -/
theorem op_nn {X : Int32} (h : 0 ≤ X.toInt) : ∃ j : Nat, j < 2 ^ 31 ∧ X = nI j ∧ X.toInt = (j : Int) := by
  have h0 : ¬ X < 0 := fun q => by
    have h1 := Int32.lt_iff_toInt_lt.mp q
    have h2 : (0 : Int32).toInt = 0 := rfl
    omega
  obtain ⟨j, hj, hX⟩ := nI_of h0
  exact ⟨j, hj, hX, by rw [hX]; exact nI_toInt hj⟩
theorem op_mul {X Y : Int32} {a b c d : Int} (h1 : a ≤ X.toInt) (h2 : X.toInt ≤ b) (h3 : c ≤ Y.toInt) (h4 : Y.toInt ≤ d) (ha : 0 ≤ a) (hc : 0 ≤ c) (hb : b * d ≤ 2147483647) : a * c ≤ (X * Y).toInt ∧ (X * Y).toInt ≤ b * d := by
  have g1 : a * c ≤ X.toInt * Y.toInt := Int.mul_le_mul h1 h3 hc (by omega)
  have g2 : X.toInt * Y.toInt ≤ b * d := Int.mul_le_mul h2 h4 (by omega) (by omega)
  have g3 : 0 ≤ X.toInt * Y.toInt := Int.mul_nonneg (by omega) (by omega)
  have hs : (X * Y).toInt = X.toInt * Y.toInt := Jvm.Kit.i32_mul (by omega) (by omega)
  rw [hs]
  exact ⟨g1, g2⟩
theorem op_ior {X Y : Int32} {k : Nat} (hk : k ≤ 31) (h1 : 0 ≤ X.toInt) (h2 : X.toInt < 2 ^ k) (h3 : 0 ≤ Y.toInt) (h4 : Y.toInt < 2 ^ k) : 0 ≤ (X ||| Y).toInt ∧ (X ||| Y).toInt < 2 ^ k := by
  obtain ⟨i, hi, eX, tX⟩ := op_nn h1
  obtain ⟨j, hj, eY, tY⟩ := op_nn h3
  rw [tX] at h2
  rw [tY] at h4
  have hi2 : i < 2 ^ k := by exact_mod_cast h2
  have hj2 : j < 2 ^ k := by exact_mod_cast h4
  have ho : i ||| j < 2 ^ k := Nat.or_lt_two_pow hi2 hj2
  have hp : 2 ^ k ≤ 2 ^ 31 := Nat.pow_le_pow_right (by omega) hk
  have e1 : X ||| Y = nI (i ||| j) := by
    rw [eX, eY]
    apply Int32.toBitVec_inj.mp
    show BitVec.ofNat 32 i ||| BitVec.ofNat 32 j = BitVec.ofNat 32 (i ||| j)
    rw [BitVec.ofNat_or]
  rw [e1, nI_toInt (by omega)]
  exact ⟨by omega, by exact_mod_cast ho⟩
theorem op_rem {X Y : Int32} (h1 : 0 ≤ X.toInt) (h2 : 0 < Y.toInt) : 0 ≤ (X - X / Y * Y).toInt ∧ (X - X / Y * Y).toInt < Y.toInt ∧ (X - X / Y * Y).toInt ≤ X.toInt := by
  obtain ⟨i, hi, eX, tX⟩ := op_nn h1
  obtain ⟨j, hj, eY, tY⟩ := op_nn (show 0 ≤ Y.toInt by omega)
  rw [tX, tY, eX, eY, pk_rem hi (by omega) hj]
  have h3 : i % j < j := Nat.mod_lt _ (by omega)
  have h4 : i % j ≤ i := Nat.mod_le _ _
  rw [nI_toInt (by omega)]
  omega
theorem op_div {X Y : Int32} (h1 : 0 ≤ X.toInt) (h2 : 0 < Y.toInt) : 0 ≤ (X / Y).toInt ∧ (X / Y).toInt ≤ X.toInt := by
  obtain ⟨i, hi, eX, tX⟩ := op_nn h1
  obtain ⟨j, hj, eY, tY⟩ := op_nn (show 0 ≤ Y.toInt by omega)
  rw [tX, eX, eY, pk_div hi (by omega) hj]
  have h4 : i / j ≤ i := Nat.div_le_self _ _
  rw [nI_toInt (by omega)]
  exact ⟨Int.natCast_nonneg _, Int.ofNat_le.mpr h4⟩
