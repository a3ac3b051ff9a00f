/-! the abstract run is sound: numbers and their sets -/
theorem yle_iff (a b : Int) : yle a b = true ↔ a ≤ b := by
  cases a with
  | ofNat a =>
    cases b with
    | ofNat b => simp only [yle, Nat.ble_eq]; exact Int.ofNat_le.symm
    | negSucc b =>
      simp only [yle]
      constructor
      · intro h; cases h
      · intro h; have := Int.negSucc_lt_zero b; have h2 : (0 : Int) ≤ Int.ofNat a := Int.natCast_nonneg a; omega
  | negSucc a =>
    cases b with
    | ofNat b =>
      simp only [yle]
      constructor
      · intro _; have := Int.negSucc_lt_zero a; have h2 : (0 : Int) ≤ Int.ofNat b := Int.natCast_nonneg b; omega
      · intro _; trivial
    | negSucc b => simp only [yle, Nat.ble_eq]; rw [Int.negSucc_eq, Int.negSucc_eq]; omega
theorem yle_f (a b : Int) (h : yle a b = false) : b < a := by
  rcases Int.lt_or_le b a with q | q
  · exact q
  · rw [(yle_iff a b).mpr q] at h; cases h
theorem yeq_iff (a b : Int) : yeq a b = true ↔ a = b := by
  unfold yeq
  rw [Bool.and_eq_true, yle_iff, yle_iff]
  omega
theorem ymn_l (a b : Int) : ymn a b ≤ a ∧ ymn a b ≤ b := by
  unfold ymn
  cases h : yle a b with
  | true => have := (yle_iff a b).mp h; simp only [cond_true]; omega
  | false => have := yle_f a b h; simp only [cond_false]; omega
theorem ymn_g (a b c : Int) (h1 : c ≤ a) (h2 : c ≤ b) : c ≤ ymn a b := by
  unfold ymn
  cases yle a b with
  | true => exact h1
  | false => exact h2
theorem ymx_g (a b : Int) : a ≤ ymx a b ∧ b ≤ ymx a b := by
  unfold ymx
  cases h : yle a b with
  | true => have := (yle_iff a b).mp h; simp only [cond_true]; omega
  | false => have := yle_f a b h; simp only [cond_false]; omega
theorem ymx_l (a b c : Int) (h1 : a ≤ c) (h2 : b ≤ c) : ymx a b ≤ c := by
  unfold ymx
  cases yle a b with
  | true => exact h2
  | false => exact h1
def yM (iv : yI) (z : Int) : Prop := ∃ p ∈ iv, p.1 ≤ z ∧ z ≤ p.2
theorem yM_c {p : Int × Int} {r : yI} {z : Int} : yM (p :: r) z ↔ (p.1 ≤ z ∧ z ≤ p.2) ∨ yM r z := by
  unfold yM
  constructor
  · rintro ⟨q, hq, h⟩
    rcases List.mem_cons.mp hq with rfl | hq
    · exact Or.inl h
    · exact Or.inr ⟨q, hq, h⟩
  · rintro (h | ⟨q, hq, h⟩)
    · exact ⟨p, List.mem_cons_self, h⟩
    · exact ⟨q, List.mem_cons_of_mem _ hq, h⟩
theorem yM_n {z : Int} : ¬ yM [] z := by rintro ⟨q, hq, -⟩; simp at hq
theorem yM_a {a b : yI} {z : Int} : yM (a ++ b) z ↔ yM a z ∨ yM b z := by
  induction a with
  | nil => simp [yM_n]
  | cons p r ih => rw [List.cons_append, yM_c, yM_c, ih]; exact or_assoc.symm
theorem ylo_le : ∀ {iv : yI} {z : Int}, yM iv z → ylo iv ≤ z
  | [], z, h => absurd h yM_n
  | [(a, b)], z, h => by
    rcases yM_c.mp h with h | h
    · exact h.1
    · exact absurd h yM_n
  | (a, b) :: p :: r, z, h => by
    show ymn a (ylo (p :: r)) ≤ z
    rcases yM_c.mp h with h | h
    · exact Int.le_trans (ymn_l _ _).1 h.1
    · exact Int.le_trans (ymn_l _ _).2 (ylo_le h)
theorem yhi_ge : ∀ {iv : yI} {z : Int}, yM iv z → z ≤ yhi iv
  | [], z, h => absurd h yM_n
  | [(a, b)], z, h => by
    rcases yM_c.mp h with h | h
    · exact h.2
    · exact absurd h yM_n
  | (a, b) :: p :: r, z, h => by
    show z ≤ ymx b (yhi (p :: r))
    rcases yM_c.mp h with h | h
    · exact Int.le_trans h.2 (ymx_g _ _).1
    · exact Int.le_trans (yhi_ge h) (ymx_g _ _).2
theorem yge_ok {c z : Int} (hc : c ≤ z) : ∀ {iv : yI}, yM iv z → yM (yge c iv) z
  | [], h => h
  | (a, b) :: r, h => by
    simp only [yge]
    cases hb : yle c b with
    | true =>
      simp only [cond_true]
      rcases yM_c.mp h with h | h
      · exact yM_c.mpr (Or.inl ⟨ymx_l _ _ _ h.1 hc, h.2⟩)
      · exact yM_c.mpr (Or.inr (yge_ok hc h))
    | false =>
      simp only [cond_false]
      rcases yM_c.mp h with h | h
      · have := yle_f _ _ hb; dsimp only at h; omega
      · exact yge_ok hc h
theorem yls_ok {c z : Int} (hc : z ≤ c) : ∀ {iv : yI}, yM iv z → yM (yls c iv) z
  | [], h => h
  | (a, b) :: r, h => by
    simp only [yls]
    cases hb : yle a c with
    | true =>
      simp only [cond_true]
      rcases yM_c.mp h with h | h
      · exact yM_c.mpr (Or.inl ⟨h.1, ymn_g _ _ _ h.2 hc⟩)
      · exact yM_c.mpr (Or.inr (yls_ok hc h))
    | false =>
      simp only [cond_false]
      rcases yM_c.mp h with h | h
      · have := yle_f _ _ hb; dsimp only at h; omega
      · exact yls_ok hc h
theorem yne_ok {c z : Int} (hc : z ≠ c) : ∀ {iv : yI}, yM iv z → yM (yne c iv) z
  | [], h => h
  | (a, b) :: r, h => by
    simp only [yne]
    cases hb : (yle a c && yle c b) with
    | true =>
      simp only [cond_true]
      rw [yM_a, yM_a]
      rcases yM_c.mp h with h | h
      · dsimp only at h
        rcases Int.lt_or_le z c with q | q
        · left
          rw [(yle_iff a (c - 1)).mpr (by omega)]
          exact yM_c.mpr (Or.inl ⟨h.1, by show z ≤ c - 1; omega⟩)
        · right; left
          rw [(yle_iff (c + 1) b).mpr (by omega)]
          exact yM_c.mpr (Or.inl ⟨by show c + 1 ≤ z; omega, h.2⟩)
      · exact Or.inr (Or.inr (yne_ok hc h))
    | false =>
      simp only [cond_false]
      rcases yM_c.mp h with h | h
      · exact yM_c.mpr (Or.inl h)
      · exact yM_c.mpr (Or.inr (yne_ok hc h))
theorem ysg_some {iv : yI} {c : Int} (h : ysg iv = some c) : iv = [(c, c)] := by
  unfold ysg at h
  split at h
  · rename_i a b
    cases hb : yeq a b with
    | true =>
      have hab := (yeq_iff _ _).mp hb
      rw [hb] at h
      simp only [cond_true, Option.some.injEq] at h
      rw [← hab, h]
    | false => rw [hb] at h; cases h
  · cases h
theorem ysg_M {iv : yI} {c z : Int} (h : ysg iv = some c) : yM iv z ↔ z = c := by
  rw [ysg_some h, yM_c]
  constructor
  · rintro (h | h)
    · dsimp only at h; omega
    · exact absurd h yM_n
  · rintro rfl; exact Or.inl ⟨Int.le_refl _, Int.le_refl _⟩
theorem ylk_eq {α : Type} : ∀ (l : List α) (n : Nat), ylk l n = l[n]?
  | [], n => by simp [ylk]
  | a :: r, 0 => by simp [ylk]
  | a :: r, n + 1 => by simp [ylk, ylk_eq r n]
theorem yfin_eq (t : List (List (Option (Instr × Nat)))) (pc : Nat) : yfin t pc = zin t pc := by
  unfold yfin zin
  rw [ylk_eq]
  cases t[pc / 16]? with
  | none => rfl
  | some r => dsimp only; rw [ylk_eq]; cases r[pc % 16]? <;> rfl
theorem yzk_eq {α : Type} (t : List (List (Nat × α))) (o i : Nat) : yzk t o i = zlk t o i := by
  unfold yzk zlk
  rw [ylk_eq]
  cases t[o]? <;> rfl
def yE (ρ : List Int) (env : List yI) : Prop := env.length = ρ.length ∧ ρ[0]? = some 0 ∧ ∀ (s : Nat) (iv : yI), env[s]? = some iv → ∃ z, ρ[s]? = some z ∧ yM iv z
def yX (ρ : List Int) (x : Nat × Int) (z : Int) : Prop := ∃ z0, ρ[x.1]? = some z0 ∧ z = z0 + x.2
theorem yX_0 {ρ : List Int} {env : List yI} (hE : yE ρ env) (c : Int) : yX ρ (0, c) c := ⟨0, hE.2.1, by show c = 0 + c; omega⟩
theorem yX_more {ρ : List Int} {x : Nat × Int} {z : Int} (t : List Int) (h : yX ρ x z) : yX (ρ ++ t) x z := by
  obtain ⟨z0, h1, h2⟩ := h
  exact ⟨z0, by rw [List.getElem?_append_left (List.getElem?_eq_some_iff.mp h1).1]; exact h1, h2⟩
theorem yE_get {ρ : List Int} {env : List yI} (hE : yE ρ env) {x : Nat × Int} {z : Int} (h : yX ρ x z) : ∃ iv, env[x.1]? = some iv ∧ yM iv (z - x.2) := by
  obtain ⟨z0, h1, rfl⟩ := h
  have hl : x.1 < env.length := by rw [hE.1]; exact (List.getElem?_eq_some_iff.mp h1).1
  obtain ⟨z1, h2, h3⟩ := hE.2.2 x.1 _ (List.getElem?_eq_getElem hl)
  rw [h1] at h2
  cases h2
  exact ⟨_, List.getElem?_eq_getElem hl, by rw [show z0 + x.2 - x.2 = z0 by omega]; exact h3⟩
theorem yE_push {ρ : List Int} {env : List yI} (hE : yE ρ env) {iv : yI} {z : Int} (h : yM iv z) : yE (ρ ++ [z]) (env ++ [iv]) ∧ yX (ρ ++ [z]) (env.length, 0) z := by
  refine ⟨⟨by rw [List.length_append, List.length_append, hE.1]; rfl, ?_, fun s jv hs => ?_⟩, z, ?_, by show z = z + 0; omega⟩
  · rw [List.getElem?_append_left (List.getElem?_eq_some_iff.mp hE.2.1).1]; exact hE.2.1
  · by_cases hl : s < env.length
    · rw [List.getElem?_append_left hl] at hs
      obtain ⟨z1, h1, h2⟩ := hE.2.2 s jv hs
      exact ⟨z1, by rw [List.getElem?_append_left (by rw [← hE.1]; exact hl)]; exact h1, h2⟩
    · rw [List.getElem?_append_right (by omega)] at hs
      have hz : s - env.length < 1 := (List.getElem?_eq_some_iff.mp hs).1
      have hs0 : s = env.length := by omega
      subst hs0
      rw [Nat.sub_self] at hs
      cases hs
      exact ⟨z, by rw [hE.1, List.getElem?_append_right (Nat.le_refl _), Nat.sub_self]; rfl, h⟩
  · show (ρ ++ [z])[env.length]? = some z
    rw [hE.1, List.getElem?_append_right (Nat.le_refl _), Nat.sub_self]; rfl
theorem yrf_ok {ρ : List Int} {env : List yI} (hE : yE ρ env) {s : Nat} {z : Int} {f : yI → yI} (hs : ρ[s]? = some z) (hf : ∀ iv, yM iv z → yM (f iv) z) : ∃ e, yrf env s f = some e ∧ yE ρ e := by
  have hl : s < env.length := by rw [hE.1]; exact (List.getElem?_eq_some_iff.mp hs).1
  obtain ⟨z1, h2, h3⟩ := hE.2.2 s _ (List.getElem?_eq_getElem hl)
  rw [hs] at h2
  cases h2
  have h4 := hf _ h3
  unfold yrf
  rw [ylk_eq, List.getElem?_eq_getElem hl]
  dsimp only
  cases hfi : f env[s] with
  | nil => rw [hfi] at h4; exact absurd h4 yM_n
  | cons a r =>
    rw [hfi] at h4
    refine ⟨_, rfl, by rw [List.length_set]; exact hE.1, hE.2.1, fun k jv hk => ?_⟩
    by_cases hks : s = k
    · subst hks
      rw [List.getElem?_set_self hl] at hk
      cases hk
      exact ⟨z, hs, h4⟩
    · rw [List.getElem?_set_ne hks] at hk
      exact hE.2.2 k jv hk
theorem nbq (a b : Nat) : Nat.beq a b = true ↔ a = b := by rw [Nat.beq_eq]
theorem yLE_ok {ρ : List Int} {env : List yI} (hE : yE ρ env) {x y : Nat × Int} {a b : Int} (hx : yX ρ x a) (hy : yX ρ y b) (h : a ≤ b) : ∃ e, yLE env x y = some e ∧ yE ρ e := by
  unfold yLE
  obtain ⟨ix, i1, i2⟩ := yE_get hE hx
  obtain ⟨iy, j1, j2⟩ := yE_get hE hy
  obtain ⟨z0, h1, rfl⟩ := hx
  obtain ⟨z1, h2, rfl⟩ := hy
  cases hb : Nat.beq x.1 y.1 with
  | true =>
    have he := (nbq _ _).mp hb
    rw [he, h2] at h1
    cases h1
    simp only [cond_true]
    rw [(yle_iff x.2 y.2).mpr (by omega)]
    exact ⟨env, rfl, hE⟩
  | false =>
    simp only [cond_false]
    rw [ylk_eq, ylk_eq, i1, j1]
    dsimp only
    have k1 := yhi_ge j2
    have k2 := ylo_le i2
    obtain ⟨e1, g1, g2⟩ := yrf_ok hE h1 (f := yls (yhi iy + y.2 - x.2)) (fun iv q => yls_ok (by omega) q)
    rw [g1]
    obtain ⟨e2, g3, g4⟩ := yrf_ok g2 h2 (f := yge (ylo ix + x.2 - y.2)) (fun iv q => yge_ok (by omega) q)
    exact ⟨e2, g3, g4⟩
theorem yLT_ok {ρ : List Int} {env : List yI} (hE : yE ρ env) {x y : Nat × Int} {a b : Int} (hx : yX ρ x a) (hy : yX ρ y b) (h : a < b) : ∃ e, yLT env x y = some e ∧ yE ρ e := by
  obtain ⟨z0, h1, rfl⟩ := hx
  exact yLE_ok hE (x := (x.1, x.2 + 1)) (a := z0 + x.2 + 1) ⟨z0, h1, by show z0 + x.2 + 1 = z0 + (x.2 + 1); omega⟩ hy (by omega)
theorem yEQ_ok {ρ : List Int} {env : List yI} (hE : yE ρ env) {x y : Nat × Int} {a b : Int} (hx : yX ρ x a) (hy : yX ρ y b) (h : a = b) : ∃ e, yEQ env x y = some e ∧ yE ρ e := by
  unfold yEQ
  obtain ⟨e1, h1, h2⟩ := yLE_ok hE hx hy (by omega)
  rw [h1]
  exact yLE_ok h2 hy hx (by omega)
theorem yNE_ok {ρ : List Int} {env : List yI} (hE : yE ρ env) {x y : Nat × Int} {a b : Int} (hx : yX ρ x a) (hy : yX ρ y b) (h : a ≠ b) : ∃ e, yNE env x y = some e ∧ yE ρ e := by
  unfold yNE
  obtain ⟨ix, i1, i2⟩ := yE_get hE hx
  obtain ⟨iy, j1, j2⟩ := yE_get hE hy
  obtain ⟨z0, h1, rfl⟩ := hx
  obtain ⟨z1, h2, rfl⟩ := hy
  cases hb : Nat.beq x.1 y.1 with
  | true =>
    have he := (nbq _ _).mp hb
    rw [he, h2] at h1
    cases h1
    simp only [cond_true]
    cases hq : yeq x.2 y.2 with
    | true => exact absurd ((yeq_iff _ _).mp hq) (fun q => h (by rw [q]))
    | false => exact ⟨env, rfl, hE⟩
  | false =>
    simp only [cond_false]
    rw [ylk_eq, ylk_eq, i1, j1]
    simp only [Option.bind_some]
    cases hs : ysg iy with
    | some c =>
      dsimp only
      have := (ysg_M hs).mp j2
      exact yrf_ok hE h1 (fun iv q => yne_ok (by omega) q)
    | none =>
      dsimp only
      cases hs2 : ysg ix with
      | some c =>
        dsimp only
        have := (ysg_M hs2).mp i2
        exact yrf_ok hE h2 (fun iv q => yne_ok (by omega) q)
      | none => exact ⟨env, rfl, hE⟩
theorem ycd_ok {ρ : List Int} {env : List yI} (hE : yE ρ env) {x y : Nat × Int} {X Y : Int32} (hx : yX ρ x X.toInt) (hy : yX ρ y Y.toInt) (c : Jvm.ClassFile.Cond) (h : zcd c X Y = true) : ∃ e, ycd c env x y = some e ∧ yE ρ e := by
  cases c with
  | eq => exact yEQ_ok hE hx hy (by rw [of_decide_eq_true (show decide (X = Y) = true from h)])
  | ne =>
    have h1 : ¬ X = Y := by simpa [zcd] using h
    exact yNE_ok hE hx hy (fun q => h1 (Int32.toInt_inj.mp q))
  | lt => exact yLT_ok hE hx hy (Int32.lt_iff_toInt_lt.mp (of_decide_eq_true (show decide (X < Y) = true from h)))
  | ge => exact yLE_ok hE hy hx (Int32.le_iff_toInt_le.mp (of_decide_eq_true (show decide (Y ≤ X) = true from h)))
  | gt => exact yLT_ok hE hy hx (Int32.lt_iff_toInt_lt.mp (of_decide_eq_true (show decide (Y < X) = true from h)))
  | le => exact yLE_ok hE hx hy (Int32.le_iff_toInt_le.mp (of_decide_eq_true (show decide (X ≤ Y) = true from h)))
theorem yng_ok {X Y : Int32} (c : Jvm.ClassFile.Cond) (h : ¬ zcd c X Y = true) : zcd (yng c) X Y = true := by
  cases c with
  | eq => simpa [zcd, yng] using h
  | ne => simpa [zcd, yng] using h
  | lt => simp only [zcd, yng, decide_eq_true_eq, Int32.lt_iff_toInt_lt, Int32.le_iff_toInt_le] at h ⊢; omega
  | ge => simp only [zcd, yng, decide_eq_true_eq, Int32.lt_iff_toInt_lt, Int32.le_iff_toInt_le] at h ⊢; omega
  | gt => simp only [zcd, yng, decide_eq_true_eq, Int32.lt_iff_toInt_lt, Int32.le_iff_toInt_le] at h ⊢; omega
  | le => simp only [zcd, yng, decide_eq_true_eq, Int32.lt_iff_toInt_lt, Int32.le_iff_toInt_le] at h ⊢; omega
theorem yc1_ok {ρ : List Int} {env : List yI} (hE : yE ρ env) {x : Nat × Int} {z c : Int} (hx : yX ρ x z) (h : yc1 env x = some c) : z = c := by
  obtain ⟨ix, i1, i2⟩ := yE_get hE hx
  unfold yc1 at h
  rw [ylk_eq, i1, Option.bind_some] at h
  cases hs : ysg ix with
  | none => rw [hs] at h; cases h
  | some a => rw [hs] at h; simp at h; have := (ysg_M hs).mp i2; omega
theorem yin_ok {ρ : List Int} {env : List yI} (hE : yE ρ env) {x : Nat × Int} {z lw hg : Int} (hx : yX ρ x z) (h : yin env x lw hg = true) : lw ≤ z ∧ z ≤ hg := by
  obtain ⟨ix, i1, i2⟩ := yE_get hE hx
  unfold yin at h
  rw [ylk_eq, i1] at h
  simp only [Bool.and_eq_true, yle_iff] at h
  have := ylo_le i2
  have := yhi_ge i2
  omega
theorem yM_32 (X : Int32) : yM yI32 X.toInt := yM_c.mpr (Or.inl ⟨by have := Int32.le_toInt X; show (-2147483648 : Int) ≤ _; omega, by have := Int32.toInt_lt X; show X.toInt ≤ (2147483647 : Int); omega⟩)
theorem yad_ok {ρ : List Int} {env : List yI} (hE : yE ρ env) {x y : Nat × Int} {X Y : Int32} (hx : yX ρ x X.toInt) (hy : yX ρ y Y.toInt) {v : Nat × Int} {e : List yI} (h : yad env x y = some (v, e)) : ∃ t, yE (ρ ++ t) e ∧ yX (ρ ++ t) v (X + Y).toInt := by
  obtain ⟨ix, i1, i2⟩ := yE_get hE hx
  obtain ⟨iy, j1, j2⟩ := yE_get hE hy
  unfold yad at h
  rw [ylk_eq, ylk_eq, i1, j1] at h
  dsimp only at h
  have a1 := ylo_le i2
  have a2 := yhi_ge i2
  have a3 := ylo_le j2
  have a4 := yhi_ge j2
  cases hb : (yle (-2147483648) (ylo ix + x.2 + (ylo iy + y.2)) && yle (yhi ix + x.2 + (yhi iy + y.2)) 2147483647) with
  | false =>
    rw [hb] at h
    cases h
    exact ⟨[_], yE_push hE (yM_32 (X + Y))⟩
  | true =>
    rw [hb] at h
    simp only [Bool.and_eq_true, yle_iff] at hb
    simp only [cond_true] at h
    have hs : (X + Y).toInt = X.toInt + Y.toInt := Jvm.Kit.i32_add (by omega) (by omega)
    rw [hs]
    cases h1 : ysg iy with
    | some b =>
      rw [h1] at h
      cases h
      have := (ysg_M h1).mp j2
      obtain ⟨z0, g1, g2⟩ := hx
      exact ⟨[], by rw [List.append_nil]; exact hE, z0, by rw [List.append_nil]; exact g1, by show _ = z0 + (x.2 + (b + y.2)); omega⟩
    | none =>
      rw [h1] at h
      cases h2 : ysg ix with
      | some a =>
        rw [h2] at h
        cases h
        have := (ysg_M h2).mp i2
        obtain ⟨z0, g1, g2⟩ := hy
        exact ⟨[], by rw [List.append_nil]; exact hE, z0, by rw [List.append_nil]; exact g1, by show _ = z0 + (y.2 + (a + x.2)); omega⟩
      | none =>
        rw [h2] at h
        cases h
        exact ⟨[_], yE_push hE (yM_c.mpr (Or.inl ⟨by show _ ≤ X.toInt + Y.toInt; omega, by show X.toInt + Y.toInt ≤ _; omega⟩))⟩
theorem ysu_ok {ρ : List Int} {env : List yI} (hE : yE ρ env) {x y : Nat × Int} {X Y : Int32} (hx : yX ρ x X.toInt) (hy : yX ρ y Y.toInt) {v : Nat × Int} {e : List yI} (h : ysu env x y = some (v, e)) : ∃ t, yE (ρ ++ t) e ∧ yX (ρ ++ t) v (X - Y).toInt := by
  obtain ⟨ix, i1, i2⟩ := yE_get hE hx
  obtain ⟨iy, j1, j2⟩ := yE_get hE hy
  unfold ysu at h
  rw [ylk_eq, ylk_eq, i1, j1] at h
  dsimp only at h
  have a1 := ylo_le i2
  have a2 := yhi_ge i2
  have a3 := ylo_le j2
  have a4 := yhi_ge j2
  cases hb : (yle (-2147483648) (ylo ix + x.2 - (yhi iy + y.2)) && yle (yhi ix + x.2 - (ylo iy + y.2)) 2147483647) with
  | false =>
    rw [hb] at h
    cases h
    exact ⟨[_], yE_push hE (yM_32 (X - Y))⟩
  | true =>
    rw [hb] at h
    simp only [Bool.and_eq_true, yle_iff] at hb
    simp only [cond_true] at h
    have hs : (X - Y).toInt = X.toInt - Y.toInt := Jvm.Kit.i32_sub (by omega) (by omega)
    rw [hs]
    cases h1 : ysg iy with
    | some b =>
      rw [h1] at h
      cases h
      have := (ysg_M h1).mp j2
      obtain ⟨z0, g1, g2⟩ := hx
      exact ⟨[], by rw [List.append_nil]; exact hE, z0, by rw [List.append_nil]; exact g1, by show _ = z0 + (x.2 - (b + y.2)); omega⟩
    | none =>
      rw [h1] at h
      cases h
      exact ⟨[_], yE_push hE (yM_c.mpr (Or.inl ⟨by show _ ≤ X.toInt - Y.toInt; omega, by show X.toInt - Y.toInt ≤ _; omega⟩))⟩
theorem yan_ok (X Y : Int32) {b : Int} (h : Y.toInt = b) (h0 : 0 ≤ b) : 0 ≤ (X &&& Y).toInt ∧ (X &&& Y).toInt ≤ b := by
  have h1 : Y.toBitVec.toInt = b := h
  have h2 : (X &&& Y).toInt = (X.toBitVec &&& Y.toBitVec).toInt := rfl
  rw [h2]
  rw [BitVec.toInt_eq_toNat_cond] at h1 ⊢
  have h3 : Y.toBitVec.toNat < 2 ^ 32 := Y.toBitVec.isLt
  have h4 : (X.toBitVec &&& Y.toBitVec).toNat ≤ Y.toBitVec.toNat := by rw [BitVec.toNat_and]; exact Nat.and_le_right
  by_cases hc : 2 * Y.toBitVec.toNat < 2 ^ 32
  · rw [if_pos hc] at h1
    rw [if_pos (by omega)]
    omega
  · rw [if_neg hc] at h1
    omega
theorem yb2_ok {ρ : List Int} {env : List yI} (hE : yE ρ env) {x y : Nat × Int} {X Y : Int32} (hx : yX ρ x X.toInt) (hy : yX ρ y Y.toInt) {i : Instr} {q : (Nat × Int) × List yI} (h : yb2 i env x y = some q) : ∃ V, zb2 i X Y = some V ∧ ∃ t, yE (ρ ++ t) q.2 ∧ yX (ρ ++ t) q.1 V.toInt := by
  unfold yb2 at h
  split at h
  · exact ⟨X + Y, rfl, yad_ok hE hx hy h⟩
  · exact ⟨X - Y, rfl, ysu_ok hE hx hy h⟩
  · rename_i i n1 n2
    split at h
    · rename_i a b ha hb
      have e1 := yc1_ok hE hx ha
      have e2 := yc1_ok hE hy hb
      have e3 : Int32.ofInt a = X := by rw [← e1]; exact Int32.ofInt_toInt X
      have e4 : Int32.ofInt b = Y := by rw [← e2]; exact Int32.ofInt_toInt Y
      rw [e3, e4] at h
      split at h
      · rename_i v hz
        cases h
        exact ⟨v, hz, [], by rw [List.append_nil]; exact hE, by rw [List.append_nil]; exact yX_0 hE _⟩
      · cases h
    · split at h
      · split at h
        · rename_i b hb
          cases h0 : yle 0 b with
          | true =>
            rw [h0] at h
            cases h
            have hh := yan_ok X Y (yc1_ok hE hy hb) ((yle_iff _ _).mp h0)
            exact ⟨X &&& Y, rfl, [_], yE_push hE (yM_c.mpr (Or.inl hh))⟩
          | false =>
            rw [h0] at h
            cases h
            exact ⟨X &&& Y, rfl, [_], yE_push hE (yM_32 _)⟩
        · cases h
          exact ⟨X &&& Y, rfl, [_], yE_push hE (yM_32 _)⟩
      · cases h; exact ⟨_, rfl, [_], yE_push hE (yM_32 _)⟩
      · cases h; exact ⟨_, rfl, [_], yE_push hE (yM_32 _)⟩
      · cases h; exact ⟨_, rfl, [_], yE_push hE (yM_32 _)⟩
      · cases h; exact ⟨_, rfl, [_], yE_push hE (yM_32 _)⟩
      · cases h; exact ⟨_, rfl, [_], yE_push hE (yM_32 _)⟩
      · cases h
theorem yl2_ok {ρ : List Int} {env : List yI} (hE : yE ρ env) {x y : Nat × Int} {X Y : Int64} (hx : yX ρ x X.toInt) (hy : yX ρ y Y.toInt) {i : Instr} {q : (Nat × Int) × List yI} (h : yl2 i env x y = some q) : ∃ V, zl2 i X Y = some V ∧ ∃ t, yE (ρ ++ t) q.2 ∧ yX (ρ ++ t) q.1 V.toInt := by
  unfold yl2 at h
  split at h
  · rename_i a b ha hb
    have e1 := yc1_ok hE hx ha
    have e2 := yc1_ok hE hy hb
    have e3 : Int64.ofInt a = X := by rw [← e1]; exact Int64.ofInt_toInt X
    have e4 : Int64.ofInt b = Y := by rw [← e2]; exact Int64.ofInt_toInt Y
    rw [e3, e4] at h
    cases hz : zl2 i X Y with
    | none => rw [hz] at h; cases h
    | some v =>
      rw [hz] at h
      cases h
      exact ⟨v, rfl, [], by rw [List.append_nil]; exact hE, by rw [List.append_nil]; exact yX_0 hE _⟩
  · cases h
