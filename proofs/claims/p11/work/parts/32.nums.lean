/-! the abstract run, second version, is sound: numbers and their sets -/
theorem yle_iff (a b : Int) : yle a b = true ↔ a ≤ b := by
  cases a with
  | ofNat a =>
    cases b with
    | ofNat b => simp only [yle, Nat.ble_eq]; exact Int.ofNat_le.symm
    | negSucc b =>
      simp only [yle]
      constructor
      · intro h; cases h
      · intro h; have := Int.negSucc_lt_zero b; have h2 : (0 : Int) ≤ Int.ofNat a := Int.natCast_nonneg a; omega
  | negSucc a =>
    cases b with
    | ofNat b =>
      simp only [yle]
      constructor
      · intro _; have := Int.negSucc_lt_zero a; have h2 : (0 : Int) ≤ Int.ofNat b := Int.natCast_nonneg b; omega
      · intro _; trivial
    | negSucc b => simp only [yle, Nat.ble_eq]; rw [Int.negSucc_eq, Int.negSucc_eq]; omega
theorem yle_f (a b : Int) (h : yle a b = false) : b < a := by
  rcases Int.lt_or_le b a with q | q
  · exact q
  · rw [(yle_iff a b).mpr q] at h; cases h
theorem yeq_iff (a b : Int) : yeq a b = true ↔ a = b := by
  unfold yeq
  rw [Bool.and_eq_true, yle_iff, yle_iff]
  omega
theorem ymn_l (a b : Int) : ymn a b ≤ a ∧ ymn a b ≤ b := by
  unfold ymn
  cases h : yle a b with
  | true => have := (yle_iff a b).mp h; simp only [cond_true]; omega
  | false => have := yle_f a b h; simp only [cond_false]; omega
theorem ymn_g (a b c : Int) (h1 : c ≤ a) (h2 : c ≤ b) : c ≤ ymn a b := by
  unfold ymn
  cases yle a b with
  | true => exact h1
  | false => exact h2
theorem ymx_g (a b : Int) : a ≤ ymx a b ∧ b ≤ ymx a b := by
  unfold ymx
  cases h : yle a b with
  | true => have := (yle_iff a b).mp h; simp only [cond_true]; omega
  | false => have := yle_f a b h; simp only [cond_false]; omega
theorem ymx_l (a b c : Int) (h1 : a ≤ c) (h2 : b ≤ c) : ymx a b ≤ c := by
  unfold ymx
  cases yle a b with
  | true => exact h2
  | false => exact h1
def yM (iv : yI) (z : Int) : Prop := ∃ p ∈ iv, p.1 ≤ z ∧ z ≤ p.2
theorem yM_c {p : Int × Int} {r : yI} {z : Int} : yM (p :: r) z ↔ (p.1 ≤ z ∧ z ≤ p.2) ∨ yM r z := by
  unfold yM
  constructor
  · rintro ⟨q, hq, h⟩
    rcases List.mem_cons.mp hq with rfl | hq
    · exact Or.inl h
    · exact Or.inr ⟨q, hq, h⟩
  · rintro (h | ⟨q, hq, h⟩)
    · exact ⟨p, List.mem_cons_self, h⟩
    · exact ⟨q, List.mem_cons_of_mem _ hq, h⟩
theorem yM_n {z : Int} : ¬ yM [] z := by rintro ⟨q, hq, -⟩; simp at hq
theorem yM_a {a b : yI} {z : Int} : yM (a ++ b) z ↔ yM a z ∨ yM b z := by
  induction a with
  | nil => simp [yM_n]
  | cons p r ih => rw [List.cons_append, yM_c, yM_c, ih]; exact or_assoc.symm
theorem ylo_le : ∀ {iv : yI} {z : Int}, yM iv z → ylo iv ≤ z
  | [], z, h => absurd h yM_n
  | [(a, b)], z, h => by
    rcases yM_c.mp h with h | h
    · exact h.1
    · exact absurd h yM_n
  | (a, b) :: p :: r, z, h => by
    show ymn a (ylo (p :: r)) ≤ z
    rcases yM_c.mp h with h | h
    · exact Int.le_trans (ymn_l _ _).1 h.1
    · exact Int.le_trans (ymn_l _ _).2 (ylo_le h)
theorem yhi_ge : ∀ {iv : yI} {z : Int}, yM iv z → z ≤ yhi iv
  | [], z, h => absurd h yM_n
  | [(a, b)], z, h => by
    rcases yM_c.mp h with h | h
    · exact h.2
    · exact absurd h yM_n
  | (a, b) :: p :: r, z, h => by
    show z ≤ ymx b (yhi (p :: r))
    rcases yM_c.mp h with h | h
    · exact Int.le_trans h.2 (ymx_g _ _).1
    · exact Int.le_trans (yhi_ge h) (ymx_g _ _).2
theorem yge_ok {c z : Int} (hc : c ≤ z) : ∀ {iv : yI}, yM iv z → yM (yge c iv) z
  | [], h => h
  | (a, b) :: r, h => by
    simp only [yge]
    cases hb : yle c b with
    | true =>
      simp only [cond_true]
      rcases yM_c.mp h with h | h
      · exact yM_c.mpr (Or.inl ⟨ymx_l _ _ _ h.1 hc, h.2⟩)
      · exact yM_c.mpr (Or.inr (yge_ok hc h))
    | false =>
      simp only [cond_false]
      rcases yM_c.mp h with h | h
      · have := yle_f _ _ hb; dsimp only at h; omega
      · exact yge_ok hc h
theorem yls_ok {c z : Int} (hc : z ≤ c) : ∀ {iv : yI}, yM iv z → yM (yls c iv) z
  | [], h => h
  | (a, b) :: r, h => by
    simp only [yls]
    cases hb : yle a c with
    | true =>
      simp only [cond_true]
      rcases yM_c.mp h with h | h
      · exact yM_c.mpr (Or.inl ⟨h.1, ymn_g _ _ _ h.2 hc⟩)
      · exact yM_c.mpr (Or.inr (yls_ok hc h))
    | false =>
      simp only [cond_false]
      rcases yM_c.mp h with h | h
      · have := yle_f _ _ hb; dsimp only at h; omega
      · exact yls_ok hc h
theorem yne_ok {c z : Int} (hc : z ≠ c) : ∀ {iv : yI}, yM iv z → yM (yne c iv) z
  | [], h => h
  | (a, b) :: r, h => by
    simp only [yne]
    cases hb : (yle a c && yle c b) with
    | true =>
      simp only [cond_true]
      rw [yM_a, yM_a]
      rcases yM_c.mp h with h | h
      · dsimp only at h
        rcases Int.lt_or_le z c with q | q
        · left
          rw [(yle_iff a (c - 1)).mpr (by omega)]
          exact yM_c.mpr (Or.inl ⟨h.1, by show z ≤ c - 1; omega⟩)
        · right; left
          rw [(yle_iff (c + 1) b).mpr (by omega)]
          exact yM_c.mpr (Or.inl ⟨by show c + 1 ≤ z; omega, h.2⟩)
      · exact Or.inr (Or.inr (yne_ok hc h))
    | false =>
      simp only [cond_false]
      rcases yM_c.mp h with h | h
      · exact yM_c.mpr (Or.inl h)
      · exact yM_c.mpr (Or.inr (yne_ok hc h))
theorem ysg_some {iv : yI} {c : Int} (h : ysg iv = some c) : iv = [(c, c)] := by
  unfold ysg at h
  split at h
  · rename_i a b
    cases hb : yeq a b with
    | true =>
      have hab := (yeq_iff _ _).mp hb
      rw [hb] at h
      simp only [cond_true, Option.some.injEq] at h
      rw [← hab, h]
    | false => rw [hb] at h; cases h
  · cases h
theorem ysg_M {iv : yI} {c z : Int} (h : ysg iv = some c) : yM iv z ↔ z = c := by
  rw [ysg_some h, yM_c]
  constructor
  · rintro (h | h)
    · dsimp only at h; omega
    · exact absurd h yM_n
  · rintro rfl; exact Or.inl ⟨Int.le_refl _, Int.le_refl _⟩
theorem ylk_eq {α : Type} : ∀ (l : List α) (n : Nat), ylk l n = l[n]?
  | [], n => by simp [ylk]
  | a :: r, 0 => by simp [ylk]
  | a :: r, n + 1 => by simp [ylk, ylk_eq r n]
theorem yfin_eq (t : List (List (Option (Instr × Nat)))) (pc : Nat) : yfin t pc = zin t pc := by
  unfold yfin zin
  rw [ylk_eq]
  cases t[pc / 16]? with
  | none => rfl
  | some r => dsimp only; rw [ylk_eq]; cases r[pc % 16]? <;> rfl
theorem yzk_eq {α : Type} (t : List (List (Nat × α))) (o i : Nat) : yzk t o i = zlk t o i := by
  unfold yzk zlk
  rw [ylk_eq]
  cases t[o]? <;> rfl
def yE (ρ : List Int) (env : List yI) : Prop := env.length = ρ.length ∧ ρ[0]? = some 0 ∧ ∀ (s : Nat) (iv : yI), env[s]? = some iv → ∃ z, ρ[s]? = some z ∧ yM iv z
def yX (ρ : List Int) (x : Nat × Int) (z : Int) : Prop := ∃ z0, ρ[x.1]? = some z0 ∧ z = z0 + x.2
theorem yX_0 {ρ : List Int} {env : List yI} (hE : yE ρ env) (c : Int) : yX ρ (0, c) c := ⟨0, hE.2.1, by show c = 0 + c; omega⟩
theorem yX_more {ρ : List Int} {x : Nat × Int} {z : Int} (t : List Int) (h : yX ρ x z) : yX (ρ ++ t) x z := by
  obtain ⟨z0, h1, h2⟩ := h
  exact ⟨z0, by rw [List.getElem?_append_left (List.getElem?_eq_some_iff.mp h1).1]; exact h1, h2⟩
theorem yE_get {ρ : List Int} {env : List yI} (hE : yE ρ env) {x : Nat × Int} {z : Int} (h : yX ρ x z) : ∃ iv, env[x.1]? = some iv ∧ yM iv (z - x.2) := by
  obtain ⟨z0, h1, rfl⟩ := h
  have hl : x.1 < env.length := by rw [hE.1]; exact (List.getElem?_eq_some_iff.mp h1).1
  obtain ⟨z1, h2, h3⟩ := hE.2.2 x.1 _ (List.getElem?_eq_getElem hl)
  rw [h1] at h2
  cases h2
  exact ⟨_, List.getElem?_eq_getElem hl, by rw [show z0 + x.2 - x.2 = z0 by omega]; exact h3⟩
theorem yE_push {ρ : List Int} {env : List yI} (hE : yE ρ env) {iv : yI} {z : Int} (h : yM iv z) : yE (ρ ++ [z]) (env ++ [iv]) ∧ yX (ρ ++ [z]) (env.length, 0) z := by
  refine ⟨⟨by rw [List.length_append, List.length_append, hE.1]; rfl, ?_, fun s jv hs => ?_⟩, z, ?_, by show z = z + 0; omega⟩
  · rw [List.getElem?_append_left (List.getElem?_eq_some_iff.mp hE.2.1).1]; exact hE.2.1
  · by_cases hl : s < env.length
    · rw [List.getElem?_append_left hl] at hs
      obtain ⟨z1, h1, h2⟩ := hE.2.2 s jv hs
      exact ⟨z1, by rw [List.getElem?_append_left (by rw [← hE.1]; exact hl)]; exact h1, h2⟩
    · rw [List.getElem?_append_right (by omega)] at hs
      have hz : s - env.length < 1 := (List.getElem?_eq_some_iff.mp hs).1
      have hs0 : s = env.length := by omega
      subst hs0
      rw [Nat.sub_self] at hs
      cases hs
      exact ⟨z, by rw [hE.1, List.getElem?_append_right (Nat.le_refl _), Nat.sub_self]; rfl, h⟩
  · show (ρ ++ [z])[env.length]? = some z
    rw [hE.1, List.getElem?_append_right (Nat.le_refl _), Nat.sub_self]; rfl
theorem yrf_ok {ρ : List Int} {env : List yI} (hE : yE ρ env) {s : Nat} {z : Int} {f : yI → yI} (hs : ρ[s]? = some z) (hf : ∀ iv, yM iv z → yM (f iv) z) : ∃ e, yrf env s f = some e ∧ yE ρ e := by
  have hl : s < env.length := by rw [hE.1]; exact (List.getElem?_eq_some_iff.mp hs).1
  obtain ⟨z1, h2, h3⟩ := hE.2.2 s _ (List.getElem?_eq_getElem hl)
  rw [hs] at h2
  cases h2
  have h4 := hf _ h3
  unfold yrf
  rw [ylk_eq, List.getElem?_eq_getElem hl]
  dsimp only
  cases hfi : f env[s] with
  | nil => rw [hfi] at h4; exact absurd h4 yM_n
  | cons a r =>
    rw [hfi] at h4
    refine ⟨_, rfl, by rw [List.length_set]; exact hE.1, hE.2.1, fun k jv hk => ?_⟩
    by_cases hks : s = k
    · subst hks
      rw [List.getElem?_set_self hl] at hk
      cases hk
      exact ⟨z, hs, h4⟩
    · rw [List.getElem?_set_ne hks] at hk
      exact hE.2.2 k jv hk
theorem nbq (a b : Nat) : Nat.beq a b = true ↔ a = b := by rw [Nat.beq_eq]
theorem yLE_ok {ρ : List Int} {env : List yI} (hE : yE ρ env) {x y : Nat × Int} {a b : Int} (hx : yX ρ x a) (hy : yX ρ y b) (h : a ≤ b) : ∃ e, yLE env x y = some e ∧ yE ρ e := by
  unfold yLE
  obtain ⟨ix, i1, i2⟩ := yE_get hE hx
  obtain ⟨iy, j1, j2⟩ := yE_get hE hy
  obtain ⟨z0, h1, rfl⟩ := hx
  obtain ⟨z1, h2, rfl⟩ := hy
  cases hb : Nat.beq x.1 y.1 with
  | true =>
    have he := (nbq _ _).mp hb
    rw [he, h2] at h1
    cases h1
    simp only [cond_true]
    rw [(yle_iff x.2 y.2).mpr (by omega)]
    exact ⟨env, rfl, hE⟩
  | false =>
    simp only [cond_false]
    rw [ylk_eq, ylk_eq, i1, j1]
    dsimp only
    have k1 := yhi_ge j2
    have k2 := ylo_le i2
    obtain ⟨e1, g1, g2⟩ := yrf_ok hE h1 (f := yls (yhi iy + y.2 - x.2)) (fun iv q => yls_ok (by omega) q)
    rw [g1]
    obtain ⟨e2, g3, g4⟩ := yrf_ok g2 h2 (f := yge (ylo ix + x.2 - y.2)) (fun iv q => yge_ok (by omega) q)
    exact ⟨e2, g3, g4⟩
theorem yLT_ok {ρ : List Int} {env : List yI} (hE : yE ρ env) {x y : Nat × Int} {a b : Int} (hx : yX ρ x a) (hy : yX ρ y b) (h : a < b) : ∃ e, yLT env x y = some e ∧ yE ρ e := by
  obtain ⟨z0, h1, rfl⟩ := hx
  exact yLE_ok hE (x := (x.1, x.2 + 1)) (a := z0 + x.2 + 1) ⟨z0, h1, by show z0 + x.2 + 1 = z0 + (x.2 + 1); omega⟩ hy (by omega)
theorem yEQ_ok {ρ : List Int} {env : List yI} (hE : yE ρ env) {x y : Nat × Int} {a b : Int} (hx : yX ρ x a) (hy : yX ρ y b) (h : a = b) : ∃ e, yEQ env x y = some e ∧ yE ρ e := by
  unfold yEQ
  obtain ⟨e1, h1, h2⟩ := yLE_ok hE hx hy (by omega)
  rw [h1]
  exact yLE_ok h2 hy hx (by omega)
theorem yNE_ok {ρ : List Int} {env : List yI} (hE : yE ρ env) {x y : Nat × Int} {a b : Int} (hx : yX ρ x a) (hy : yX ρ y b) (h : a ≠ b) : ∃ e, yNE env x y = some e ∧ yE ρ e := by
  unfold yNE
  obtain ⟨ix, i1, i2⟩ := yE_get hE hx
  obtain ⟨iy, j1, j2⟩ := yE_get hE hy
  obtain ⟨z0, h1, rfl⟩ := hx
  obtain ⟨z1, h2, rfl⟩ := hy
  cases hb : Nat.beq x.1 y.1 with
  | true =>
    have he := (nbq _ _).mp hb
    rw [he, h2] at h1
    cases h1
    simp only [cond_true]
    cases hq : yeq x.2 y.2 with
    | true => exact absurd ((yeq_iff _ _).mp hq) (fun q => h (by rw [q]))
    | false => exact ⟨env, rfl, hE⟩
  | false =>
    simp only [cond_false]
    rw [ylk_eq, ylk_eq, i1, j1]
    simp only [Option.bind_some]
    cases hs : ysg iy with
    | some c =>
      dsimp only
      have := (ysg_M hs).mp j2
      exact yrf_ok hE h1 (fun iv q => yne_ok (by omega) q)
    | none =>
      dsimp only
      cases hs2 : ysg ix with
      | some c =>
        dsimp only
        have := (ysg_M hs2).mp i2
        exact yrf_ok hE h2 (fun iv q => yne_ok (by omega) q)
      | none => exact ⟨env, rfl, hE⟩
theorem ycd_ok {ρ : List Int} {env : List yI} (hE : yE ρ env) {x y : Nat × Int} {X Y : Int32} (hx : yX ρ x X.toInt) (hy : yX ρ y Y.toInt) (c : Jvm.ClassFile.Cond) (h : zcd c X Y = true) : ∃ e, ycd c env x y = some e ∧ yE ρ e := by
  cases c with
  | eq => exact yEQ_ok hE hx hy (by rw [of_decide_eq_true (show decide (X = Y) = true from h)])
  | ne =>
    have h1 : ¬ X = Y := by simpa [zcd] using h
    exact yNE_ok hE hx hy (fun q => h1 (Int32.toInt_inj.mp q))
  | lt => exact yLT_ok hE hx hy (Int32.lt_iff_toInt_lt.mp (of_decide_eq_true (show decide (X < Y) = true from h)))
  | ge => exact yLE_ok hE hy hx (Int32.le_iff_toInt_le.mp (of_decide_eq_true (show decide (Y ≤ X) = true from h)))
  | gt => exact yLT_ok hE hy hx (Int32.lt_iff_toInt_lt.mp (of_decide_eq_true (show decide (Y < X) = true from h)))
  | le => exact yLE_ok hE hx hy (Int32.le_iff_toInt_le.mp (of_decide_eq_true (show decide (X ≤ Y) = true from h)))
theorem yng_ok {X Y : Int32} (c : Jvm.ClassFile.Cond) (h : ¬ zcd c X Y = true) : zcd (yng c) X Y = true := by
  cases c with
  | eq => simpa [zcd, yng] using h
  | ne => simpa [zcd, yng] using h
  | lt => simp only [zcd, yng, decide_eq_true_eq, Int32.lt_iff_toInt_lt, Int32.le_iff_toInt_le] at h ⊢; omega
  | ge => simp only [zcd, yng, decide_eq_true_eq, Int32.lt_iff_toInt_lt, Int32.le_iff_toInt_le] at h ⊢; omega
  | gt => simp only [zcd, yng, decide_eq_true_eq, Int32.lt_iff_toInt_lt, Int32.le_iff_toInt_le] at h ⊢; omega
  | le => simp only [zcd, yng, decide_eq_true_eq, Int32.lt_iff_toInt_lt, Int32.le_iff_toInt_le] at h ⊢; omega
theorem yc1_ok {ρ : List Int} {env : List yI} (hE : yE ρ env) {x : Nat × Int} {z c : Int} (hx : yX ρ x z) (h : yc1 env x = some c) : z = c := by
  obtain ⟨ix, i1, i2⟩ := yE_get hE hx
  unfold yc1 at h
  rw [ylk_eq, i1, Option.bind_some] at h
  cases hs : ysg ix with
  | none => rw [hs] at h; cases h
  | some a => rw [hs] at h; simp at h; have := (ysg_M hs).mp i2; omega
theorem yin_ok {ρ : List Int} {env : List yI} (hE : yE ρ env) {x : Nat × Int} {z lw hg : Int} (hx : yX ρ x z) (h : yin env x lw hg = true) : lw ≤ z ∧ z ≤ hg := by
  obtain ⟨ix, i1, i2⟩ := yE_get hE hx
  unfold yin at h
  rw [ylk_eq, i1] at h
  simp only [Bool.and_eq_true, yle_iff] at h
  have := ylo_le i2
  have := yhi_ge i2
  omega
theorem yM_32 (X : Int32) : yM yI32 X.toInt := yM_c.mpr (Or.inl ⟨by have := Int32.le_toInt X; show (-2147483648 : Int) ≤ _; omega, by have := Int32.toInt_lt X; show X.toInt ≤ (2147483647 : Int); omega⟩)
theorem yad_ok {ρ : List Int} {env : List yI} (hE : yE ρ env) {x y : Nat × Int} {X Y : Int32} (hx : yX ρ x X.toInt) (hy : yX ρ y Y.toInt) {v : Nat × Int} {e : List yI} (h : yad env x y = some (v, e)) : ∃ t, yE (ρ ++ t) e ∧ yX (ρ ++ t) v (X + Y).toInt := by
  obtain ⟨ix, i1, i2⟩ := yE_get hE hx
  obtain ⟨iy, j1, j2⟩ := yE_get hE hy
  unfold yad at h
  rw [ylk_eq, ylk_eq, i1, j1] at h
  dsimp only at h
  have a1 := ylo_le i2
  have a2 := yhi_ge i2
  have a3 := ylo_le j2
  have a4 := yhi_ge j2
  cases hb : (yle (-2147483648) (ylo ix + x.2 + (ylo iy + y.2)) && yle (yhi ix + x.2 + (yhi iy + y.2)) 2147483647) with
  | false =>
    rw [hb] at h
    cases h
    exact ⟨[_], yE_push hE (yM_32 (X + Y))⟩
  | true =>
    rw [hb] at h
    simp only [Bool.and_eq_true, yle_iff] at hb
    simp only [cond_true] at h
    have hs : (X + Y).toInt = X.toInt + Y.toInt := Jvm.Kit.i32_add (by omega) (by omega)
    rw [hs]
    cases h1 : ysg iy with
    | some b =>
      rw [h1] at h
      cases h
      have := (ysg_M h1).mp j2
      obtain ⟨z0, g1, g2⟩ := hx
      exact ⟨[], by rw [List.append_nil]; exact hE, z0, by rw [List.append_nil]; exact g1, by show _ = z0 + (x.2 + (b + y.2)); omega⟩
    | none =>
      rw [h1] at h
      cases h2 : ysg ix with
      | some a =>
        rw [h2] at h
        cases h
        have := (ysg_M h2).mp i2
        obtain ⟨z0, g1, g2⟩ := hy
        exact ⟨[], by rw [List.append_nil]; exact hE, z0, by rw [List.append_nil]; exact g1, by show _ = z0 + (y.2 + (a + x.2)); omega⟩
      | none =>
        rw [h2] at h
        cases h
        exact ⟨[_], yE_push hE (yM_c.mpr (Or.inl ⟨by show _ ≤ X.toInt + Y.toInt; omega, by show X.toInt + Y.toInt ≤ _; omega⟩))⟩
theorem ysu_ok {ρ : List Int} {env : List yI} (hE : yE ρ env) {x y : Nat × Int} {X Y : Int32} (hx : yX ρ x X.toInt) (hy : yX ρ y Y.toInt) {v : Nat × Int} {e : List yI} (h : ysu env x y = some (v, e)) : ∃ t, yE (ρ ++ t) e ∧ yX (ρ ++ t) v (X - Y).toInt := by
  obtain ⟨ix, i1, i2⟩ := yE_get hE hx
  obtain ⟨iy, j1, j2⟩ := yE_get hE hy
  unfold ysu at h
  cases hq : Nat.beq x.1 y.1 with
  | true =>
    rw [hq] at h
    simp only [cond_true] at h
    cases hb : (yle (-2147483648) (x.2 - y.2) && yle (x.2 - y.2) 2147483647) with
    | false => rw [hb] at h; cases h
    | true =>
      rw [hb] at h
      cases h
      simp only [Bool.and_eq_true, yle_iff] at hb
      obtain ⟨z0, g1, g2⟩ := hx
      obtain ⟨z1, g3, g4⟩ := hy
      rw [(nbq _ _).mp hq, g3] at g1
      cases g1
      have hs : (X - Y).toInt = X.toInt - Y.toInt := Jvm.Kit.i32_sub (by omega) (by omega)
      refine ⟨[], by rw [List.append_nil]; exact hE, ?_⟩
      rw [List.append_nil, hs, show X.toInt - Y.toInt = x.2 - y.2 by omega]
      exact yX_0 hE _
  | false =>
  rw [hq] at h
  simp only [cond_false] at h
  rw [ylk_eq, ylk_eq, i1, j1] at h
  dsimp only at h
  have a1 := ylo_le i2
  have a2 := yhi_ge i2
  have a3 := ylo_le j2
  have a4 := yhi_ge j2
  cases hb : (yle (-2147483648) (ylo ix + x.2 - (yhi iy + y.2)) && yle (yhi ix + x.2 - (ylo iy + y.2)) 2147483647) with
  | false =>
    rw [hb] at h
    cases h
    exact ⟨[_], yE_push hE (yM_32 (X - Y))⟩
  | true =>
    rw [hb] at h
    simp only [Bool.and_eq_true, yle_iff] at hb
    simp only [cond_true] at h
    have hs : (X - Y).toInt = X.toInt - Y.toInt := Jvm.Kit.i32_sub (by omega) (by omega)
    rw [hs]
    cases h1 : ysg iy with
    | some b =>
      rw [h1] at h
      cases h
      have := (ysg_M h1).mp j2
      obtain ⟨z0, g1, g2⟩ := hx
      exact ⟨[], by rw [List.append_nil]; exact hE, z0, by rw [List.append_nil]; exact g1, by show _ = z0 + (x.2 - (b + y.2)); omega⟩
    | none =>
      rw [h1] at h
      cases h
      exact ⟨[_], yE_push hE (yM_c.mpr (Or.inl ⟨by show _ ≤ X.toInt - Y.toInt; omega, by show X.toInt - Y.toInt ≤ _; omega⟩))⟩
theorem yan_ok (X Y : Int32) {b : Int} (h : Y.toInt = b) (h0 : 0 ≤ b) : 0 ≤ (X &&& Y).toInt ∧ (X &&& Y).toInt ≤ b := by
  have h1 : Y.toBitVec.toInt = b := h
  have h2 : (X &&& Y).toInt = (X.toBitVec &&& Y.toBitVec).toInt := rfl
  rw [h2]
  rw [BitVec.toInt_eq_toNat_cond] at h1 ⊢
  have h3 : Y.toBitVec.toNat < 2 ^ 32 := Y.toBitVec.isLt
  have h4 : (X.toBitVec &&& Y.toBitVec).toNat ≤ Y.toBitVec.toNat := by rw [BitVec.toNat_and]; exact Nat.and_le_right
  by_cases hc : 2 * Y.toBitVec.toNat < 2 ^ 32
  · rw [if_pos hc] at h1
    rw [if_pos (by omega)]
    omega
  · rw [if_neg hc] at h1
    omega
theorem ysb1_ok {p : Int × Int} {o z : Int} (h1 : p.1 ≤ z) (h2 : z ≤ p.2) : ∀ {iv : yI}, ysb1 p o iv = true → yM iv (z + o)
  | [], h => by simp [ysb1] at h
  | q :: r, h => by
    simp only [ysb1] at h
    cases hb : (yle q.1 (p.1 + o) && yle (p.2 + o) q.2) with
    | true =>
      simp only [Bool.and_eq_true, yle_iff] at hb
      exact yM_c.mpr (Or.inl ⟨by omega, by omega⟩)
    | false =>
      rw [hb] at h
      exact yM_c.mpr (Or.inr (ysb1_ok h1 h2 h))
theorem ysub_ok {o z : Int} {iv : yI} : ∀ {jv : yI}, ysub jv o iv = true → yM jv z → yM iv (z + o)
  | [], _, h => absurd h yM_n
  | p :: r, hs, h => by
    simp only [ysub, Bool.and_eq_true] at hs
    rcases yM_c.mp h with q | q
    · exact ysb1_ok q.1 q.2 hs.1
    · exact ysub_ok hs.2 q
theorem yvin_ok {ρ : List Int} {env : List yI} (hE : yE ρ env) {x : Nat × Int} {z : Int} {iv : yI} (hx : yX ρ x z) (h : yvin env x iv = true) : yM iv z := by
  obtain ⟨ix, i1, i2⟩ := yE_get hE hx
  unfold yvin at h
  rw [ylk_eq, i1] at h
  have := ysub_ok (show ysub ix x.2 iv = true from h) i2
  rw [show z - x.2 + x.2 = z by omega] at this
  exact this
theorem ybl_ok {n : Int} : ∀ (f k : Nat), k + f = 32 → ybl n f k ≤ 31 → n < ((2 ^ (ybl n f k) : Nat) : Int)
  | 0, k, hk, h => by simp only [ybl] at h; omega
  | f + 1, k, hk, h => by
    simp only [ybl] at h ⊢
    cases hb : yle ((2 ^ k : Nat) : Int) n with
    | true =>
      rw [hb] at h
      simp only [cond_true] at h ⊢
      exact ybl_ok f (k + 1) (by omega) h
    | false =>
      simp only [cond_false]
      exact yle_f _ _ hb
theorem ynz_ok {o z : Int} : ∀ {iv : yI}, ynz o iv = true → yM iv z → z + o ≠ 0
  | [], _, h => absurd h yM_n
  | (a, b) :: r, hs, h => by
    simp only [ynz, Bool.and_eq_true, Bool.or_eq_true, yle_iff] at hs
    rcases yM_c.mp h with q | q
    · dsimp only at q; omega
    · exact ynz_ok hs.2 q
theorem op_smod : ∀ j : Nat, j < 31 → ((nI j &&& 31).toBitVec.smod 32).toNat = j := by decide
theorem op_shl {X Y : Int32} {a b c d : Int} (h1 : a ≤ X.toInt) (h2 : X.toInt ≤ b) (h3 : c ≤ Y.toInt) (h4 : Y.toInt ≤ d) (ha : 0 ≤ a) (hc : 0 ≤ c) (hd : d ≤ 30) (hb : b * ((2 ^ d.toNat : Nat) : Int) ≤ 2147483647) : a * ((2 ^ c.toNat : Nat) : Int) ≤ (X <<< (Y &&& 31)).toInt ∧ (X <<< (Y &&& 31)).toInt ≤ b * ((2 ^ d.toNat : Nat) : Int) := by
  obtain ⟨i, hi, eX, tX⟩ := op_nn (show 0 ≤ X.toInt by omega)
  obtain ⟨j, hj, eY, tY⟩ := op_nn (show 0 ≤ Y.toInt by omega)
  have hj30 : j < 31 := by omega
  have p1 : 2 ^ c.toNat ≤ 2 ^ j := Nat.pow_le_pow_right (by omega) (by omega)
  have p2 : 2 ^ j ≤ 2 ^ d.toNat := Nat.pow_le_pow_right (by omega) (by omega)
  have q1 : a * ((2 ^ c.toNat : Nat) : Int) ≤ (i : Int) * ((2 ^ j : Nat) : Int) := Int.mul_le_mul (by omega) (by exact_mod_cast p1) (Int.natCast_nonneg _) (by omega)
  have q2 : (i : Int) * ((2 ^ j : Nat) : Int) ≤ b * ((2 ^ d.toNat : Nat) : Int) := Int.mul_le_mul (by omega) (by exact_mod_cast p2) (Int.natCast_nonneg _) (by omega)
  have q3 : i * 2 ^ j < 2 ^ 31 := by
    have : ((i * 2 ^ j : Nat) : Int) ≤ 2147483647 := by rw [Int.natCast_mul]; omega
    omega
  rw [eX, eY, pk_shlN (nI j &&& 31) j (op_smod j hj30) (by omega), nI_toInt q3, Int.natCast_mul]
  exact ⟨q1, q2⟩
theorem yM_1 {a b z : Int} (h1 : a ≤ z) (h2 : z ≤ b) : yM [(a, b)] z := yM_c.mpr (Or.inl ⟨h1, h2⟩)
theorem op_and {X Y : Int32} : (0 ≤ Y.toInt → 0 ≤ (X &&& Y).toInt ∧ (X &&& Y).toInt ≤ Y.toInt) ∧ (0 ≤ X.toInt → 0 ≤ (X &&& Y).toInt ∧ (X &&& Y).toInt ≤ X.toInt) := by
  refine ⟨fun h => yan_ok X Y rfl h, fun h => ?_⟩
  have e : X &&& Y = Y &&& X := by
    apply Int32.toBitVec_inj.mp
    show X.toBitVec &&& Y.toBitVec = Y.toBitVec &&& X.toBitVec
    exact BitVec.and_comm _ _
  rw [e]
  exact yan_ok Y X rfl h
theorem yiv_ok {i : Instr} {X Y : Int32} {a b c d : Int} {z : Bool} {iv : yI} (h1 : a ≤ X.toInt) (h2 : X.toInt ≤ b) (h3 : c ≤ Y.toInt) (h4 : Y.toInt ≤ d) (hz : z = true → Y.toInt ≠ 0) (h : yiv i a b c d z = some iv) : ∃ V, zb2 i X Y = some V ∧ yM iv V.toInt := by
  have hY : z = true → ¬ Y = 0 := fun q r => hz q (by rw [r]; rfl)
  unfold yiv at h
  split at h
  · refine ⟨X * Y, rfl, ?_⟩
    cases hb : (yle 0 a && yle 0 c && yle (b * d) 2147483647) with
    | true =>
      rw [hb] at h; cases h
      simp only [Bool.and_eq_true, yle_iff] at hb
      have := op_mul h1 h2 h3 h4 hb.1.1 hb.1.2 hb.2
      exact yM_1 this.1 this.2
    | false => rw [hb] at h; cases h; exact yM_32 _
  · refine ⟨X &&& Y, rfl, ?_⟩
    cases hb : yle 0 c with
    | true =>
      rw [hb] at h; cases h
      have q := (yle_iff _ _).mp hb
      have := (op_and (X := X) (Y := Y)).1 (by omega)
      exact yM_1 this.1 (by omega)
    | false =>
      rw [hb] at h
      cases hb2 : yle 0 a with
      | true =>
        rw [hb2] at h; cases h
        have q := (yle_iff _ _).mp hb2
        have := (op_and (X := X) (Y := Y)).2 (by omega)
        exact yM_1 this.1 (by omega)
      | false => rw [hb2] at h; cases h; exact yM_32 _
  · refine ⟨X ||| Y, rfl, ?_⟩
    cases hb : (yle 0 a && yle 0 c && Nat.ble (ybl (ymx b d) 32 0) 31) with
    | true =>
      rw [hb] at h; cases h
      simp only [Bool.and_eq_true, yle_iff, Nat.ble_eq] at hb
      have k1 := ybl_ok (n := ymx b d) 32 0 rfl hb.2
      have m1 := ymx_g b d
      have g := op_ior (X := X) (Y := Y) (k := ybl (ymx b d) 32 0) hb.2 (by omega) (by rw [Int.natCast_pow] at k1; have e : (((2 : Nat) : Int)) = 2 := rfl; rw [e] at k1; omega) (by omega) (by rw [Int.natCast_pow] at k1; have e : (((2 : Nat) : Int)) = 2 := rfl; rw [e] at k1; omega)
      refine yM_1 g.1 ?_
      rw [Int.natCast_pow]
      have e : (((2 : Nat) : Int)) = 2 := rfl
      rw [e]
      omega
    | false => rw [hb] at h; cases h; exact yM_32 _
  · cases h; exact ⟨_, rfl, yM_32 _⟩
  · refine ⟨X <<< (Y &&& 31), rfl, ?_⟩
    cases hb : (yle 0 a && yle 0 c && yle d 30 && yle (b * ((2 ^ d.toNat : Nat) : Int)) 2147483647) with
    | true =>
      rw [hb] at h; cases h
      simp only [Bool.and_eq_true, yle_iff] at hb
      have := op_shl h1 h2 h3 h4 hb.1.1.1 hb.1.1.2 hb.1.2 hb.2
      exact yM_1 this.1 this.2
    | false => rw [hb] at h; cases h; exact yM_32 _
  · cases h; exact ⟨_, rfl, yM_32 _⟩
  · cases h; exact ⟨_, rfl, yM_32 _⟩
  · cases z with
    | false => cases h
    | true =>
      refine ⟨X / Y, by simp only [zb2, if_neg (hY rfl)], ?_⟩
      simp only [cond_true] at h
      cases hb : (yle 0 a && yle 1 c) with
      | true =>
        rw [hb] at h; cases h
        simp only [Bool.and_eq_true, yle_iff] at hb
        have := op_div (X := X) (Y := Y) (by omega) (by omega)
        exact yM_1 this.1 (by omega)
      | false => rw [hb] at h; cases h; exact yM_32 _
  · cases z with
    | false => cases h
    | true =>
      refine ⟨X - X / Y * Y, by simp only [zb2, if_neg (hY rfl)], ?_⟩
      simp only [cond_true] at h
      cases hb : (yle 0 a && yle 1 c) with
      | true =>
        rw [hb] at h; cases h
        simp only [Bool.and_eq_true, yle_iff] at hb
        have := op_rem (X := X) (Y := Y) (by omega) (by omega)
        exact yM_1 this.1 (ymn_g _ _ _ (by omega) (by omega))
      | false => rw [hb] at h; cases h; exact yM_32 _
  · cases h
theorem yb2_ok {ρ : List Int} {env : List yI} (hE : yE ρ env) {x y : Nat × Int} {X Y : Int32} (hx : yX ρ x X.toInt) (hy : yX ρ y Y.toInt) {i : Instr} {q : (Nat × Int) × List yI} (h : yb2 i env x y = some q) : ∃ V, zb2 i X Y = some V ∧ ∃ t, yE (ρ ++ t) q.2 ∧ yX (ρ ++ t) q.1 V.toInt := by
  unfold yb2 at h
  split at h
  · exact ⟨X + Y, rfl, yad_ok hE hx hy h⟩
  · exact ⟨X - Y, rfl, ysu_ok hE hx hy h⟩
  · rename_i i n1 n2
    split at h
    · rename_i a b ha hb
      have e1 := yc1_ok hE hx ha
      have e2 := yc1_ok hE hy hb
      have e3 : Int32.ofInt a = X := by rw [← e1]; exact Int32.ofInt_toInt X
      have e4 : Int32.ofInt b = Y := by rw [← e2]; exact Int32.ofInt_toInt Y
      rw [e3, e4] at h
      split at h
      · rename_i v hz
        cases h
        exact ⟨v, hz, [], by rw [List.append_nil]; exact hE, by rw [List.append_nil]; exact yX_0 hE _⟩
      · cases h
    · obtain ⟨ix, i1, i2⟩ := yE_get hE hx
      obtain ⟨iy, j1, j2⟩ := yE_get hE hy
      rw [ylk_eq, ylk_eq, i1, j1] at h
      dsimp only at h
      have a1 := ylo_le i2
      have a2 := yhi_ge i2
      have a3 := ylo_le j2
      have a4 := yhi_ge j2
      split at h
      · rename_i iv hiv
        cases h
        obtain ⟨V, g1, g2⟩ := yiv_ok (X := X) (Y := Y) (by omega) (by omega) (by omega) (by omega) (fun hn => by have := ynz_ok hn j2; omega) hiv
        exact ⟨V, g1, [_], yE_push hE g2⟩
      · cases h
theorem yM_64 (X : Int64) : yM yI64 X.toInt := yM_c.mpr (Or.inl ⟨by have := Int64.le_toInt X; show (-9223372036854775808 : Int) ≤ _; omega, by have := Int64.toInt_lt X; show X.toInt ≤ (9223372036854775807 : Int); omega⟩)
theorem op_ladd {X Y : Int64} (h1 : -9223372036854775808 ≤ X.toInt + Y.toInt) (h2 : X.toInt + Y.toInt ≤ 9223372036854775807) : (X + Y).toInt = X.toInt + Y.toInt := by
  rw [Int64.toInt_add, Int.bmod_def]
  omega
theorem yl2_ok {ρ : List Int} {env : List yI} (hE : yE ρ env) {x y : Nat × Int} {X Y : Int64} (hx : yX ρ x X.toInt) (hy : yX ρ y Y.toInt) {i : Instr} {q : (Nat × Int) × List yI} (h : yl2 i env x y = some q) : ∃ V, zl2 i X Y = some V ∧ ∃ t, yE (ρ ++ t) q.2 ∧ yX (ρ ++ t) q.1 V.toInt := by
  unfold yl2 at h
  split at h
  · rename_i a b ha hb
    have e1 := yc1_ok hE hx ha
    have e2 := yc1_ok hE hy hb
    have e3 : Int64.ofInt a = X := by rw [← e1]; exact Int64.ofInt_toInt X
    have e4 : Int64.ofInt b = Y := by rw [← e2]; exact Int64.ofInt_toInt Y
    rw [e3, e4] at h
    cases hz : zl2 i X Y with
    | none => rw [hz] at h; cases h
    | some v =>
      rw [hz] at h
      cases h
      exact ⟨v, rfl, [], by rw [List.append_nil]; exact hE, by rw [List.append_nil]; exact yX_0 hE _⟩
  · split at h
    · refine ⟨X + Y, rfl, ?_⟩
      split at h
      · rename_i b hb
        have e2 := yc1_ok hE hy hb
        cases hq : yin env x (-9223372036854775808 - b) (9223372036854775807 - b) with
        | true =>
          rw [hq] at h; cases h
          have hr := yin_ok hE hx hq
          refine ⟨[], by rw [List.append_nil]; exact hE, ?_⟩
          rw [List.append_nil, op_ladd (by omega) (by omega)]
          obtain ⟨z0, g1, g2⟩ := hx
          exact ⟨z0, g1, by show _ = z0 + (x.2 + b); omega⟩
        | false => rw [hq] at h; cases h; exact ⟨[_], yE_push hE (yM_64 _)⟩
      · rename_i a ha _
        have e2 := yc1_ok hE hx ha
        cases hq : yin env y (-9223372036854775808 - a) (9223372036854775807 - a) with
        | true =>
          rw [hq] at h; cases h
          have hr := yin_ok hE hy hq
          refine ⟨[], by rw [List.append_nil]; exact hE, ?_⟩
          rw [List.append_nil, op_ladd (by omega) (by omega)]
          obtain ⟨z0, g1, g2⟩ := hy
          exact ⟨z0, g1, by show _ = z0 + (y.2 + a); omega⟩
        | false => rw [hq] at h; cases h; exact ⟨[_], yE_push hE (yM_64 _)⟩
      · cases h; exact ⟨[_], yE_push hE (yM_64 _)⟩
    · cases h; exact ⟨_, rfl, [_], yE_push hE (yM_64 _)⟩
    · cases h; exact ⟨_, rfl, [_], yE_push hE (yM_64 _)⟩
    · obtain ⟨iy, j1, j2⟩ := yE_get hE hy
      rw [ylk_eq, j1] at h
      dsimp only at h
      cases hn : ynz y.2 iy with
      | false => rw [hn] at h; cases h
      | true =>
        rw [hn] at h; cases h
        have h0 := ynz_ok hn j2
        have hY : ¬ Y = 0 := fun q => h0 (by rw [q]; show (0 : Int64).toInt - y.2 + y.2 = 0; rw [show (0 : Int64).toInt = 0 from rfl]; omega)
        exact ⟨X / Y, by simp only [zl2, if_neg hY], [_], yE_push hE (yM_64 _)⟩
    · obtain ⟨iy, j1, j2⟩ := yE_get hE hy
      rw [ylk_eq, j1] at h
      dsimp only at h
      cases hn : ynz y.2 iy with
      | false => rw [hn] at h; cases h
      | true =>
        rw [hn] at h; cases h
        have h0 := ynz_ok hn j2
        have hY : ¬ Y = 0 := fun q => h0 (by rw [q]; show (0 : Int64).toInt - y.2 + y.2 = 0; rw [show (0 : Int64).toInt = 0 from rfl]; omega)
        exact ⟨X - X / Y * Y, by simp only [zl2, if_neg hY], [_], yE_push hE (yM_64 _)⟩
    · cases h
