/-! more steps; locks, people, sheets -/
section
variable {sc : Option (List Int32)} {d : Nat} {mi : zMi} {pc q : Nat} {L sk : List Value} {m : zM} {r : Option Value} {h' : zHp}
theorem i_icst {n : Int} {x : Int32} (H : zE sc d mi pc L sk m r h') (hi : zin mi.2.2.2.2.2 pc = some (.iconst n, 1)) (hx : Int32.ofInt n = x) (hq : pc + 1 = q) : zE sc d mi q L (.int x :: sk) m r h' := by
  subst hx; subst hq
  exact i_p H hi (fun _ => rfl)
theorem i_bip {n : Int} {x : Int32} (H : zE sc d mi pc L sk m r h') (hi : zin mi.2.2.2.2.2 pc = some (.bipush n, 2)) (hx : (Int8.ofInt n).toInt32 = x) (hq : pc + 2 = q) : zE sc d mi q L (.int x :: sk) m r h' := by
  subst hx; subst hq
  exact i_p H hi (fun _ => rfl)
theorem i_sip {n : Int} {x : Int32} (H : zE sc d mi pc L sk m r h') (hi : zin mi.2.2.2.2.2 pc = some (.sipush n, 3)) (hx : (Int16.ofInt n).toInt32 = x) (hq : pc + 3 = q) : zE sc d mi q L (.int x :: sk) m r h' := by
  subst hx; subst hq
  exact i_p H hi (fun _ => rfl)
theorem i_lcst {n : Fin 2} {x : Int64} (H : zE sc d mi pc L sk m r h') (hi : zin mi.2.2.2.2.2 pc = some (.lconst n, 1)) (hx : Int64.ofNat n.val = x) (hq : pc + 1 = q) : zE sc d mi q L (.long x :: sk) m r h' := by
  subst hx; subst hq
  exact i_p H hi (fun _ => rfl)
theorem i_ldc {i : Nat} {x : Int32} {e : Int × Nat} (H : zE sc d mi pc L sk m r h') (hi : zin mi.2.2.2.2.2 pc = some (.ldc i, 2)) (hn : mi.2.2.2.2.1 ≠ 2) (hf : zlk zcis mi.2.2.2.2.1 i = some e) (hx : Int32.ofInt e.1 = x) (hq : pc + 2 = q) : zE sc d mi q L (.int x :: sk) m r h' := by
  subst hx; subst hq
  refine i_p H hi (fun lo => ?_)
  simp [zst, zg, hn, hf]
theorem i_ldc2 {i : Nat} {x : Int64} {e : Int × Nat} (H : zE sc d mi pc L sk m r h') (hi : zin mi.2.2.2.2.2 pc = some (.ldc2_w i, 3)) (hf : zlk zcJs mi.2.2.2.2.1 i = some e) (hx : Int64.ofInt e.1 = x) (hq : pc + 3 = q) : zE sc d mi q L (.long x :: sk) m r h' := by
  subst hx; subst hq
  refine i_p H hi (fun lo => ?_)
  simp [zst, zg, hf]
theorem i_ts1 (v : Int32) {df lw hg o : Int} {offs : Array Int} {x : Int32} {len : Nat} (H : zE sc d mi pc L (.int x :: sk) m r h') (hi : zin mi.2.2.2.2.2 pc = some (.tableswitch df lw hg offs, len)) (hv : ¬ (v.toInt < lw ∨ hg < v.toInt)) (ho : offs[(v.toInt - lw).toNat]? = some o) (ht : zjp pc o = some q) : (x = v ∧ zE sc d mi q L sk m r h') ∨ (¬ x = v ∧ zE sc d mi pc L (.int x :: sk) m r h') := by
  by_cases h : x = v
  · subst h
    exact Or.inl ⟨rfl, i_tsj H hi hv ho ht⟩
  · exact Or.inr ⟨h, H⟩
theorem zne {x v : Int32} {z : Int} (h : ¬ x = v) (hz : v.toInt = z) : x.toInt ≠ z := fun e => h (Int32.toInt_inj.mp (e.trans hz.symm))
theorem i_dup {v : Value} (H : zE sc d mi pc L (v :: sk) m r h') (hi : zin mi.2.2.2.2.2 pc = some (.dup, 1)) (hv : v.category = 1) (hq : pc + 1 = q) : zE sc d mi q L (v :: v :: sk) m r h' := by
  subst hq
  refine i_p H hi (fun lo => ?_)
  simp [zst, zg, zp1, hv]
theorem i_pop {v : Value} (H : zE sc d mi pc L (v :: sk) m r h') (hi : zin mi.2.2.2.2.2 pc = some (.pop, 1)) (hv : v.category = 1) (hq : pc + 1 = q) : zE sc d mi q L sk m r h' := by
  subst hq
  refine i_p H hi (fun lo => ?_)
  simp [zst, zg, zp1, hv]
theorem i_pop2 {x : Int64} (H : zE sc d mi pc L (.long x :: sk) m r h') (hi : zin mi.2.2.2.2.2 pc = some (.pop2, 1)) (hq : pc + 1 = q) : zE sc d mi q L sk m r h' := by
  subst hq
  refine i_p H hi (fun lo => ?_)
  simp [zst, zg, zpl]
theorem i_dup2 {v w : Value} (H : zE sc d mi pc L (v :: w :: sk) m r h') (hi : zin mi.2.2.2.2.2 pc = some (.dup2, 1)) (hv : v.category = 1) (hw : w.category = 1) (hq : pc + 1 = q) : zE sc d mi q L (v :: w :: v :: w :: sk) m r h' := by
  subst hq
  refine i_p H hi (fun lo => ?_)
  simp [zst, zg, zp1, hv, hw]
theorem i_iadd {x y : Int32} (H : zE sc d mi pc L (.int y :: .int x :: sk) m r h') (hi : zin mi.2.2.2.2.2 pc = some (.iadd, 1)) (hq : pc + 1 = q) : zE sc d mi q L (.int (x + y) :: sk) m r h' := by
  subst hq
  exact i_p H hi (fun lo => rfl)
theorem i_isub {x y : Int32} (H : zE sc d mi pc L (.int y :: .int x :: sk) m r h') (hi : zin mi.2.2.2.2.2 pc = some (.isub, 1)) (hq : pc + 1 = q) : zE sc d mi q L (.int (x - y) :: sk) m r h' := by
  subst hq
  exact i_p H hi (fun lo => rfl)
theorem i_imul {x y : Int32} (H : zE sc d mi pc L (.int y :: .int x :: sk) m r h') (hi : zin mi.2.2.2.2.2 pc = some (.imul, 1)) (hq : pc + 1 = q) : zE sc d mi q L (.int (x * y) :: sk) m r h' := by
  subst hq
  exact i_p H hi (fun lo => rfl)
theorem i_iand {x y : Int32} (H : zE sc d mi pc L (.int y :: .int x :: sk) m r h') (hi : zin mi.2.2.2.2.2 pc = some (.iand, 1)) (hq : pc + 1 = q) : zE sc d mi q L (.int (x &&& y) :: sk) m r h' := by
  subst hq
  exact i_p H hi (fun lo => rfl)
theorem i_ior {x y : Int32} (H : zE sc d mi pc L (.int y :: .int x :: sk) m r h') (hi : zin mi.2.2.2.2.2 pc = some (.ior, 1)) (hq : pc + 1 = q) : zE sc d mi q L (.int (x ||| y) :: sk) m r h' := by
  subst hq
  exact i_p H hi (fun lo => rfl)
theorem i_ixor {x y : Int32} (H : zE sc d mi pc L (.int y :: .int x :: sk) m r h') (hi : zin mi.2.2.2.2.2 pc = some (.ixor, 1)) (hq : pc + 1 = q) : zE sc d mi q L (.int (x ^^^ y) :: sk) m r h' := by
  subst hq
  exact i_p H hi (fun lo => rfl)
theorem i_ishl {x y : Int32} (H : zE sc d mi pc L (.int y :: .int x :: sk) m r h') (hi : zin mi.2.2.2.2.2 pc = some (.ishl, 1)) (hq : pc + 1 = q) : zE sc d mi q L (.int (x <<< (y &&& 31)) :: sk) m r h' := by
  subst hq
  exact i_p H hi (fun lo => rfl)
theorem i_ishr {x y : Int32} (H : zE sc d mi pc L (.int y :: .int x :: sk) m r h') (hi : zin mi.2.2.2.2.2 pc = some (.ishr, 1)) (hq : pc + 1 = q) : zE sc d mi q L (.int (x >>> (y &&& 31)) :: sk) m r h' := by
  subst hq
  exact i_p H hi (fun lo => rfl)
theorem i_ladd {x y : Int64} (H : zE sc d mi pc L (.long y :: .long x :: sk) m r h') (hi : zin mi.2.2.2.2.2 pc = some (.ladd, 1)) (hq : pc + 1 = q) : zE sc d mi q L (.long (x + y) :: sk) m r h' := by
  subst hq
  exact i_p H hi (fun lo => rfl)
theorem i_lsub {x y : Int64} (H : zE sc d mi pc L (.long y :: .long x :: sk) m r h') (hi : zin mi.2.2.2.2.2 pc = some (.lsub, 1)) (hq : pc + 1 = q) : zE sc d mi q L (.long (x - y) :: sk) m r h' := by
  subst hq
  exact i_p H hi (fun lo => rfl)
theorem i_lmul {x y : Int64} (H : zE sc d mi pc L (.long y :: .long x :: sk) m r h') (hi : zin mi.2.2.2.2.2 pc = some (.lmul, 1)) (hq : pc + 1 = q) : zE sc d mi q L (.long (x * y) :: sk) m r h' := by
  subst hq
  exact i_p H hi (fun lo => rfl)
theorem i_lcmp {x y : Int64} (H : zE sc d mi pc L (.long y :: .long x :: sk) m r h') (hi : zin mi.2.2.2.2.2 pc = some (.lcmp, 1)) (hq : pc + 1 = q) : zE sc d mi q L (.int (lg_cmp x y) :: sk) m r h' := by
  subst hq
  exact i_p H hi (fun lo => rfl)
theorem i_i2b {x : Int32} (H : zE sc d mi pc L (.int x :: sk) m r h') (hi : zin mi.2.2.2.2.2 pc = some (.i2b, 1)) (hq : pc + 1 = q) : zE sc d mi q L (.int (x.toInt8.toInt32) :: sk) m r h' := by
  subst hq
  exact i_p H hi (fun lo => rfl)
theorem i_i2s {x : Int32} (H : zE sc d mi pc L (.int x :: sk) m r h') (hi : zin mi.2.2.2.2.2 pc = some (.i2s, 1)) (hq : pc + 1 = q) : zE sc d mi q L (.int (x.toInt16.toInt32) :: sk) m r h' := by
  subst hq
  exact i_p H hi (fun lo => rfl)
theorem i_i2l {x : Int32} (H : zE sc d mi pc L (.int x :: sk) m r h') (hi : zin mi.2.2.2.2.2 pc = some (.i2l, 1)) (hq : pc + 1 = q) : zE sc d mi q L (.long (x.toInt64) :: sk) m r h' := by
  subst hq
  exact i_p H hi (fun lo => rfl)
theorem i_i2c {x : Int32} (H : zE sc d mi pc L (.int x :: sk) m r h') (hi : zin mi.2.2.2.2.2 pc = some (.i2c, 1)) (hq : pc + 1 = q) : zE sc d mi q L (.int ((x.toUInt32 % 65536).toInt32) :: sk) m r h' := by
  subst hq
  exact i_p H hi (fun lo => rfl)
theorem zofn {i j : Nat} (h : Int32.ofNat i = Int32.ofNat j) (hi : i < 2147483648) (hj : j < 2147483648) : i = j := by
  have := congrArg Int32.toNatClampNeg h
  rwa [Int32.toNatClampNeg_ofNat_of_lt (by omega), Int32.toNatClampNeg_ofNat_of_lt (by omega)] at this
theorem zofn_t {i : Nat} (hi : i < 2147483648) : (Int32.ofNat i).toInt = i := Int32.toInt_ofNat_of_lt (by omega)
theorem zofn_lt {i j : Nat} (hi : i < 2147483648) (hj : j < 2147483648) : Int32.ofNat i < Int32.ofNat j ↔ i < j := by
  rw [Int32.lt_iff_toInt_lt, zofn_t hi, zofn_t hj]
  omega
theorem zofn_s {i : Nat} : Int32.ofNat i + Int32.ofInt 1 = Int32.ofNat (i + 1) := by
  rw [Int32.ofNat_add]
  rfl
/-- the six locks -/
def zlk6 (k : Nat) : Prop := k = 3 ∨ k = 11 ∨ k = 20 ∨ k = 30 ∨ k = 47 ∨ k = 55
theorem lkk_3 : zlk6 3 := by unfold zlk6; omega
theorem lkk_11 : zlk6 11 := by unfold zlk6; omega
theorem lkk_20 : zlk6 20 := by unfold zlk6; omega
theorem lkk_30 : zlk6 30 := by unfold zlk6; omega
theorem lkk_47 : zlk6 47 := by unfold zlk6; omega
theorem lkk_55 : zlk6 55 := by unfold zlk6; omega
theorem lk_0 {k : Nat} (hk : zlk6 k) : zLY[k]? = some (Sum.inr 0, [some (.ref (k + 1)), some (.ref (k + 2)), none, none, none, none]) := by
  rcases hk with rfl | rfl | rfl | rfl | rfl | rfl <;> rfl
theorem lk_1 {k : Nat} (hk : zlk6 k) : zLY[k + 1]? = some (Sum.inl 4, [some (.ref (k + 3)), some (.ref (k + 3 + 1)), some (.ref (k + 3 + 2)), some (.ref (k + 3 + 3)), some (.ref (k + 3 + 4))]) := by
  rcases hk with rfl | rfl | rfl | rfl | rfl | rfl <;> rfl
theorem lk_2 {k : Nat} (hk : zlk6 k) : zLY[k + 2]? = some (Sum.inl 0, List.replicate 8 none) := by
  rcases hk with rfl | rfl | rfl | rfl | rfl | rfl <;> rfl
theorem lk_p {k i : Nat} (hk : zlk6 k) (hi : i < 5) : zLY[k + 3 + i]? = some (Sum.inr 1, List.replicate 4 none) := by
  have h5 : i = 0 ∨ i = 1 ∨ i = 2 ∨ i = 3 ∨ i = 4 := by omega
  rcases hk with rfl | rfl | rfl | rfl | rfl | rfl <;> rcases h5 with rfl | rfl | rfl | rfl | rfl <;> rfl
theorem lk_im {i : Nat} (hi : i < 2) : zlk6 (47 + 8 * i) := by unfold zlk6; omega
theorem sh_0 {i : Nat} (hi : i < 4) : zLY[63 + 2 * i]? = some (Sum.inr 5, [some (.ref (64 + 2 * i)), none, none, none]) := by
  have h5 : i = 0 ∨ i = 1 ∨ i = 2 ∨ i = 3 := by omega
  rcases h5 with rfl | rfl | rfl | rfl <;> rfl
theorem sh_1 {i : Nat} (hi : i < 4) : zLY[64 + 2 * i]? = some (Sum.inl 0, List.replicate 40 none) := by
  have h5 : i = 0 ∨ i = 1 ∨ i = 2 ∨ i = 3 := by omega
  rcases h5 with rfl | rfl | rfl | rfl <;> rfl
theorem i_folk {k : Nat} {x : Int32} (hk : zlk6 k) (H : zE sc d mi pc L (.int x :: .ref (k + 1) :: sk) m r h') (hi : zin mi.2.2.2.2.2 pc = some (.aaload, 1)) (hq : pc + 1 = q) : ∃ i, i < 5 ∧ x = Int32.ofNat i ∧ zE sc d mi q L (.ref (k + 3 + i) :: sk) m r h' := by
  obtain ⟨i, b, e, K⟩ := i_aa H hi (lk_1 hk) hq
  have b5 : i < 5 := b
  refine ⟨i, b5, e, K _ ?_⟩
  have h5 : i = 0 ∨ i = 1 ∨ i = 2 ∨ i = 3 ∨ i = 4 := by omega
  rcases h5 with rfl | rfl | rfl | rfl | rfl <;> rfl
theorem i_img {x : Int32} (H : zE sc d mi pc L (.int x :: .ref 44 :: sk) m r h') (hi : zin mi.2.2.2.2.2 pc = some (.aaload, 1)) (hq : pc + 1 = q) : ∃ i, i < 2 ∧ x = Int32.ofNat i ∧ zE sc d mi q L (.ref (47 + 8 * i) :: sk) m r h' := by
  obtain ⟨i, b, e, K⟩ := i_aa (c := (Sum.inl 3, [some (.ref 47), some (.ref 55)])) H hi rfl hq
  have b5 : i < 2 := b
  refine ⟨i, b5, e, K _ ?_⟩
  have h5 : i = 0 ∨ i = 1 := by omega
  rcases h5 with rfl | rfl <;> rfl
theorem i_sht {x : Int32} (H : zE sc d mi pc L (.int x :: .ref 46 :: sk) m r h') (hi : zin mi.2.2.2.2.2 pc = some (.aaload, 1)) (hq : pc + 1 = q) : ∃ i, i < 4 ∧ x = Int32.ofNat i ∧ zE sc d mi q L (.ref (63 + 2 * i) :: sk) m r h' := by
  obtain ⟨i, b, e, K⟩ := i_aa (c := (Sum.inl 8, [some (.ref 63), some (.ref 65), some (.ref 67), some (.ref 69)])) H hi rfl hq
  have b5 : i < 4 := b
  refine ⟨i, b5, e, K _ ?_⟩
  have h5 : i = 0 ∨ i = 1 ∨ i = 2 ∨ i = 3 := by omega
  rcases h5 with rfl | rfl | rfl | rfl <;> rfl
theorem i_ldx {i k : Nat} (H : zE sc d mi pc L sk m r h') (hi : zin mi.2.2.2.2.2 pc = some (.ldc i, 2)) (hcl : mi.2.2.2.2.1 = 2) (hk : zas2 zsts i = some k) (hq : pc + 2 = q) : zE sc d mi q L (.retAddr (2 * k + 1) :: sk) m r h' := by
  obtain ⟨lo, h1, h2⟩ := H
  obtain ⟨y, hy⟩ := zEv_is h2
  rw [zstep_of hi] at hy
  refine ⟨lo, h1, zEv_i1 h2 ((zstep_of hi).trans ?_)⟩
  subst hq
  simp only [zst, zg, if_true, Option.bind_some, hcl, hk, Option.bind_eq_some_iff] at hy ⊢
  obtain ⟨u, hu, _⟩ := hy
  exact ⟨u, hu, by trivial⟩
theorem i_sv {a : Nat} (H : zE sc d mi pc L (.retAddr a :: sk) m r h') (hi : zin mi.2.2.2.2.2 pc = some (.getfield 9, 3)) (hcl : mi.2.2.2.2.1 = 12) (hq : pc + 3 = q) : zE sc d mi q L (.retAddr (a + 1) :: sk) m r h' := by
  obtain ⟨lo, h1, h2⟩ := H
  obtain ⟨y, hy⟩ := zEv_is h2
  rw [zstep_of hi] at hy
  refine ⟨lo, h1, zEv_i1 h2 ((zstep_of hi).trans ?_)⟩
  subst hq
  simp only [zst, zg, if_true, Option.bind_some, hcl, zpx, Option.bind_eq_some_iff] at hy ⊢
  obtain ⟨u, hu, _⟩ := hy
  exact ⟨u, hu, by trivial⟩
theorem i_sco {a : Nat} (H : zE sc d mi pc L (.retAddr a :: sk) m r h') (hi : zin mi.2.2.2.2.2 pc = some (.getfield 15, 3)) (hcl : mi.2.2.2.2.1 = 12) (hq : pc + 3 = q) : zE sc d mi q L (.int 0 :: sk) m r h' := by
  obtain ⟨lo, h1, h2⟩ := H
  obtain ⟨y, hy⟩ := zEv_is h2
  rw [zstep_of hi] at hy
  refine ⟨lo, h1, zEv_i1 h2 ((zstep_of hi).trans ?_)⟩
  subst hq
  simp [zst, zg, hcl, zpx, Option.bind_eq_some_iff] at hy ⊢
  obtain ⟨⟨u, hu⟩, _⟩ := hy
  exact ⟨u, hu⟩
theorem i_gs1 (H : zE sc d mi pc L sk m r h') (hi : zin mi.2.2.2.2.2 pc = some (.getstatic 38, 3)) (hcl : mi.2.2.2.2.1 = 12) (hq : pc + 3 = q) : zE sc d mi q L (.int 1 :: sk) m r h' := by
  subst hq
  refine i_p H hi (fun lo => ?_)
  simp [zst, zg, hcl]
theorem i_gs2 (H : zE sc d mi pc L sk m r h') (hi : zin mi.2.2.2.2.2 pc = some (.getstatic 1053, 3)) (hcl : mi.2.2.2.2.1 = 12) (hq : pc + 3 = q) : zE sc d mi q L (.retAddr 20 :: sk) m r h' := by
  subst hq
  refine i_p H hi (fun lo => ?_)
  simp [zst, zg, hcl]
theorem i_sal {n : Nat} (H : zE sc d mi pc L (.retAddr (n + 1) :: sk) m r h') (hi : zin mi.2.2.2.2.2 pc = some (.arraylength, 1)) (hq : pc + 1 = q) : zE sc d mi q L (.int (Int32.ofNat (zlen.getD (n / 2) 0)) :: sk) m r h' := by
  obtain ⟨lo, h1, h2⟩ := H
  obtain ⟨y, hy⟩ := zEv_is h2
  rw [zstep_of hi] at hy
  refine ⟨lo, h1, zEv_i1 h2 ((zstep_of hi).trans ?_)⟩
  subst hq
  simp only [zst, zg, if_true, Option.bind_some, Option.bind_eq_some_iff] at hy ⊢
  obtain ⟨u, hu, _⟩ := hy
  exact ⟨u, hu, by trivial⟩
theorem i_sba {n : Nat} {x : Int32} (H : zE sc d mi pc L (.int x :: .retAddr (n + 1) :: sk) m r h') (hi : zin mi.2.2.2.2.2 pc = some (.baload, 1)) (hq : pc + 1 = q) : zE sc d mi q L (.int ((zbyt.getD (n / 2) []).getD x.toNatClampNeg 0) :: sk) m r h' := by
  obtain ⟨lo, h1, h2⟩ := H
  obtain ⟨y, hy⟩ := zEv_is h2
  rw [zstep_of hi] at hy
  refine ⟨lo, h1, zEv_i1 h2 ((zstep_of hi).trans ?_)⟩
  subst hq
  simp only [zst, zg, zpi, if_true, Option.bind_some, Option.bind_eq_some_iff] at hy ⊢
  obtain ⟨u, hu, _⟩ := hy
  exact ⟨u, hu, by trivial⟩
theorem i_dead {i : Nat} (H : zE sc d mi pc L sk m r h') (hi : zin mi.2.2.2.2.2 pc = some (.invokestatic i, 3)) (hf : zlk zmls mi.2.2.2.2.1 i = none) : False := by
  obtain ⟨lo, h1, h2⟩ := H
  obtain ⟨y, hy⟩ := zEv_is h2
  rw [zstep_of hi] at hy
  simp [zst, zg, hf] at hy
end
