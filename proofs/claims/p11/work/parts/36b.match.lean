/-! the engine is sound: a state within another -/
def qMs (ρ : List Int) (sg : qSg) (p : Nat × Int) (z : Int) : Prop := (p.1 = 0 ∧ z = p.2) ∨ ∃ y, sg[p.1]? = some (some y) ∧ yX ρ (y.1, y.2 + p.2) z
def qLe (a b : qSg) : Prop := a.length = b.length ∧ ∀ (j : Nat) (y : Nat × Int), a[j]? = some (some y) → b[j]? = some (some y)
theorem qLe_rf {a : qSg} : qLe a a := ⟨rfl, fun _ _ h => h⟩
theorem qLe_tr {a b c : qSg} (h1 : qLe a b) (h2 : qLe b c) : qLe a c := ⟨h1.1.trans h2.1, fun j y h => h2.2 j y (h1.2 j y h)⟩
theorem qMs_le {ρ : List Int} {a b : qSg} {p : Nat × Int} {z : Int} (h : qLe a b) (hm : qMs ρ a p z) : qMs ρ b p z := by
  rcases hm with q | ⟨y, h1, h2⟩
  · exact Or.inl q
  · exact Or.inr ⟨y, h.2 _ _ h1, h2⟩
theorem qMs_more {ρ : List Int} {a : qSg} {p : Nat × Int} {z : Int} (t : List Int) (hm : qMs ρ a p z) : qMs (ρ ++ t) a p z := by
  rcases hm with q | ⟨y, h1, h2⟩
  · exact Or.inl q
  · exact Or.inr ⟨y, h1, yX_more t h2⟩
def qVs (ρ : List Int) (sg : qSg) (p : yV) (v : Value) : Prop := match p with
  | .inl p => ∃ X : Int32, v = .int X ∧ qMs ρ sg p X.toInt
  | .inr (.inl p) => ∃ X : Int64, v = .long X ∧ qMs ρ sg p X.toInt
  | .inr (.inr w) => v = w
theorem qVs_le {ρ : List Int} {a b : qSg} {v : Value} (h : qLe a b) : ∀ {p : yV}, qVs ρ a p v → qVs ρ b p v
  | .inl _, hm => by obtain ⟨X, h1, h2⟩ := hm; exact ⟨X, h1, qMs_le h h2⟩
  | .inr (.inl _), hm => by obtain ⟨X, h1, h2⟩ := hm; exact ⟨X, h1, qMs_le h h2⟩
  | .inr (.inr _), hm => hm
theorem qVs_more {ρ : List Int} {a : qSg} {v : Value} (t : List Int) : ∀ {p : yV}, qVs ρ a p v → qVs (ρ ++ t) a p v
  | .inl _, hm => by obtain ⟨X, h1, h2⟩ := hm; exact ⟨X, h1, qMs_more t h2⟩
  | .inr (.inl _), hm => by obtain ⟨X, h1, h2⟩ := hm; exact ⟨X, h1, qMs_more t h2⟩
  | .inr (.inr _), hm => hm
theorem qsm_ok {ρ : List Int} {env : List yI} (hE : yE ρ env) {a b : Nat × Int} (h : qsm env a b = true) {z : Int} (hb : yX ρ b z) (hr : ∃ w, yX ρ a w) : yX ρ a z := by
  unfold qsm at h
  rw [Bool.or_eq_true] at h
  rcases h with h | h
  · simp only [Bool.and_eq_true, nbq, yeq_iff] at h
    rw [show a = b from Prod.ext h.1 h.2]
    exact hb
  · obtain ⟨w, hw⟩ := hr
    split at h
    · rename_i c d hc hd
      have e1 := yc1_ok hE hw hc
      have e2 := yc1_ok hE hb hd
      have e3 := (yeq_iff _ _).mp h
      rw [e2, ← e3, ← e1]
      exact hw
    · cases h
/-- every bound symbol has a number -/
def qBd (ρ : List Int) (sg : qSg) : Prop := ∀ (j : Nat) (y : Nat × Int), sg[j]? = some (some y) → y.1 < ρ.length
theorem qX_of {ρ : List Int} {x : Nat × Int} (h : x.1 < ρ.length) : ∃ w, yX ρ x w := ⟨_, _, List.getElem?_eq_getElem h, rfl⟩
theorem qb1_ok {ρ : List Int} {env : List yI} (hE : yE ρ env) {sg sg' : qSg} {p x : Nat × Int} {z : Int} (hB : qBd ρ sg) (hx : yX ρ x z) (h : qb1 env sg p x = some sg') : qLe sg sg' ∧ qBd ρ sg' ∧ qMs ρ sg' p z := by
  unfold qb1 at h
  cases hb : Nat.beq p.1 0 with
  | true =>
    rw [hb] at h
    simp only [cond_true] at h
    split at h
    · rename_i c hc
      cases hq : yeq c p.2 with
      | false => rw [hq] at h; cases h
      | true =>
        rw [hq] at h
        cases h
        refine ⟨qLe_rf, hB, Or.inl ⟨(nbq _ _).mp hb, ?_⟩⟩
        rw [yc1_ok hE hx hc, (yeq_iff _ _).mp hq]
    · cases h
  | false =>
    rw [hb] at h
    simp only [cond_false] at h
    rw [ylk_eq] at h
    split at h
    · rename_i y hy
      cases hq : qsm env (y.1, y.2 + p.2) x with
      | false => rw [hq] at h; cases h
      | true =>
        rw [hq] at h
        cases h
        exact ⟨qLe_rf, hB, Or.inr ⟨y, hy, qsm_ok hE hq hx (qX_of (x := (y.1, y.2 + p.2)) (show y.1 < ρ.length from hB _ _ hy))⟩⟩
    · rename_i hy
      cases h
      have hl := (List.getElem?_eq_some_iff.mp hy).1
      obtain ⟨z0, g1, g2⟩ := hx
      refine ⟨⟨by rw [List.length_set], fun j y hj => ?_⟩, fun j y hj => ?_, Or.inr ⟨(x.1, x.2 - p.2), List.getElem?_set_self hl, z0, g1, by show z = z0 + (x.2 - p.2 + p.2); omega⟩⟩
      · by_cases hjp : p.1 = j
        · subst hjp
          rw [hy] at hj
          cases hj
        · rw [List.getElem?_set_ne hjp]
          exact hj
      · by_cases hjp : p.1 = j
        · subst hjp
          rw [List.getElem?_set_self hl] at hj
          cases hj
          exact (List.getElem?_eq_some_iff.mp g1).1
        · rw [List.getElem?_set_ne hjp] at hj
          exact hB j y hj
    · cases h
theorem qve_ok : ∀ {a b : Value}, qve a b = true → a = b
  | .ref a, .ref b, h => by simp only [qve, nbq] at h; rw [h]
  | .retAddr a, .retAddr b, h => by simp only [qve, nbq] at h; rw [h]
  | .null, .null, _ => rfl
  | .int _, _, h => by simp [qve] at h
  | .long _, _, h => by simp [qve] at h
  | .float _, _, h => by simp [qve] at h
  | .double _, _, h => by simp [qve] at h
  | .ref _, .int _, h => by simp [qve] at h
  | .ref _, .long _, h => by simp [qve] at h
  | .ref _, .float _, h => by simp [qve] at h
  | .ref _, .double _, h => by simp [qve] at h
  | .ref _, .retAddr _, h => by simp [qve] at h
  | .ref _, .null, h => by simp [qve] at h
  | .retAddr _, .int _, h => by simp [qve] at h
  | .retAddr _, .long _, h => by simp [qve] at h
  | .retAddr _, .float _, h => by simp [qve] at h
  | .retAddr _, .double _, h => by simp [qve] at h
  | .retAddr _, .ref _, h => by simp [qve] at h
  | .retAddr _, .null, h => by simp [qve] at h
  | .null, .int _, h => by simp [qve] at h
  | .null, .long _, h => by simp [qve] at h
  | .null, .float _, h => by simp [qve] at h
  | .null, .double _, h => by simp [qve] at h
  | .null, .ref _, h => by simp [qve] at h
  | .null, .retAddr _, h => by simp [qve] at h
theorem qbv_ok {ρ : List Int} {env : List yI} (hE : yE ρ env) {sg sg' : qSg} {p x : yV} {v : Value} (hB : qBd ρ sg) (hx : yVG ρ x v) (h : qbv env sg p x = some sg') : qLe sg sg' ∧ qBd ρ sg' ∧ qVs ρ sg' p v := by
  unfold qbv at h
  split at h
  · obtain ⟨X, rfl, hX⟩ := yVG_i hx
    obtain ⟨h1, h2, h3⟩ := qb1_ok hE hB hX h
    exact ⟨h1, h2, X, rfl, h3⟩
  · obtain ⟨X, rfl, hX⟩ := yVG_l hx
    obtain ⟨h1, h2, h3⟩ := qb1_ok hE hB hX h
    exact ⟨h1, h2, X, rfl, h3⟩
  · rename_i w u
    cases hq : qve w u with
    | false => rw [hq] at h; cases h
    | true =>
      rw [hq] at h
      cases h
      refine ⟨qLe_rf, hB, ?_⟩
      show v = w
      rw [yVG_w hx, qve_ok hq]
  · cases h
theorem qbl_ok {ρ : List Int} {env : List yI} (hE : yE ρ env) : ∀ {prs : List (yV × yV)} {sg sg' : qSg}, qBd ρ sg → (∀ q ∈ prs, ∃ v, yVG ρ q.2 v) → qbl env sg prs = some sg' → qLe sg sg' ∧ qBd ρ sg' ∧ ∀ q ∈ prs, ∀ v, yVG ρ q.2 v → qVs ρ sg' q.1 v
  | [], sg, sg', hB, _, h => by
    simp only [qbl, Option.some.injEq] at h
    subst h
    exact ⟨qLe_rf, hB, fun q hq => absurd hq List.not_mem_nil⟩
  | (p, x) :: prs, sg, sg', hB, hv, h => by
    simp only [qbl, Option.bind_eq_some_iff] at h
    obtain ⟨g, h1, h2⟩ := h
    obtain ⟨v0, hv0⟩ := hv _ List.mem_cons_self
    obtain ⟨k1, k2, k3⟩ := qbv_ok hE hB hv0 h1
    obtain ⟨m1, m2, m3⟩ := qbl_ok hE k2 (fun q hq => hv q (List.mem_cons_of_mem _ hq)) h2
    refine ⟨qLe_tr k1 m1, m2, fun q hq v hqv => ?_⟩
    rcases List.mem_cons.mp hq with w | w
    · subst w
      exact qVs_le m1 (qbv_ok hE hB hqv h1).2.2
    · exact m3 q w v hqv
theorem qBd_more {ρ : List Int} {sg : qSg} (t : List Int) (h : qBd ρ sg) : qBd (ρ ++ t) sg := fun j y hj => by
  have := h j y hj
  rw [List.length_append]
  omega
theorem qbh_ok {T : yT} {N1 N2 : Nat} {hh : zHp} : ∀ {hb : yH} {ρ : List Int} {env : List yI} {h : yH} {sg : qSg} {r : qSg × List yI × yH}, yE ρ env → yHG T N1 N2 ρ h hh → qBd ρ sg → qbh T env h sg hb = some r → ∃ t, yE (ρ ++ t) r.2.1 ∧ yHG T N1 N2 (ρ ++ t) r.2.2 hh ∧ qLe sg r.1 ∧ qBd (ρ ++ t) r.1 ∧ ∀ e ∈ hb, ∃ v, zplc hh e.1.1 e.1.2 = some v ∧ qVs (ρ ++ t) r.1 e.2 v
  | [], ρ, env, h, sg, r, hE, hH, hB, hq => by
    simp only [qbh, Option.some.injEq] at hq
    subst hq
    exact ⟨[], by rw [List.append_nil]; exact ⟨hE, hH, qLe_rf, hB, fun e he => absurd he List.not_mem_nil⟩⟩
  | ((k, i), p) :: hb, ρ, env, h, sg, r, hE, hH, hB, hq => by
    simp only [qbh, Option.bind_eq_some_iff] at hq
    obtain ⟨_, h1, v, h2, g, h3, h4⟩ := hq
    have hp := ygb_some h1
    unfold qpl1 at hp
    cases hk : yki T k with
    | none => rw [hk] at hp; cases hp
    | some c =>
      rw [hk] at hp
      have hlt := Nat.blt_eq.mp hp
      obtain ⟨vs, g1, g2, g3⟩ := hH.1.2.2 _ _ hk
      have hi : i < vs.length := by rw [g2]; exact hlt
      obtain ⟨t, r1, r2, r3⟩ := yrd_ok hE hH hk g1 (List.getElem?_eq_getElem hi) h2
      obtain ⟨k1, k2, k3⟩ := qbv_ok r1 (qBd_more t hB) r2 h3
      obtain ⟨t2, m1, m2, m3, m4, m5⟩ := qbh_ok r1 r3 k2 h4
      refine ⟨t ++ t2, by rw [← List.append_assoc]; exact m1, by rw [← List.append_assoc]; exact m2, qLe_tr k1 m3, by rw [← List.append_assoc]; exact m4, fun e he => ?_⟩
      rw [← List.append_assoc]
      rcases List.mem_cons.mp he with w | w
      · subst w
        exact ⟨_, zplc_of g1 (List.getElem?_eq_getElem hi), qVs_le m3 (qVs_more t2 k3)⟩
      · exact m5 e w
theorem qcl_ok : ∀ {sg : qSg} {s : List (Nat × Int)}, qcl sg = some s → sg = s.map some
  | [], s, h => by simp only [qcl, Option.some.injEq] at h; subst h; rfl
  | none :: sg, s, h => by simp [qcl] at h
  | some x :: sg, s, h => by
    simp only [qcl, Option.bind_eq_some_iff, Option.some.injEq] at h
    obtain ⟨r, h1, rfl⟩ := h
    rw [qcl_ok h1]
    rfl
/-- the inner symbols' numbers, by the outer ones' -/
def qVal (ρ : List Int) (s : List (Nat × Int)) : List Int := s.map (fun x => ρ.getD x.1 0 + x.2)
def ySb (s : List (Nat × Int)) (ρp ρ : List Int) : Prop := s.length = ρp.length ∧ ∀ (j : Nat) (x : Nat × Int), s[j]? = some x → ∃ z, ρp[j]? = some z ∧ yX ρ x z
theorem ySb_val {ρ : List Int} {s : List (Nat × Int)} (hb : ∀ x ∈ s, x.1 < ρ.length) : ySb s (qVal ρ s) ρ := by
  refine ⟨by unfold qVal; rw [List.length_map], fun j x hj => ?_⟩
  have hx := hb x (List.mem_of_getElem? hj)
  refine ⟨ρ.getD x.1 0 + x.2, by unfold qVal; rw [List.getElem?_map, hj]; rfl, ρ[x.1], List.getElem?_eq_getElem hx, ?_⟩
  rw [List.getD_eq_getElem?_getD, List.getElem?_eq_getElem hx]
  rfl
theorem ySb_X {s : List (Nat × Int)} {ρp ρ : List Int} (h : ySb s ρp ρ) {p : Nat × Int} {z : Int} (hp : yX ρp p z) : ∃ x, s[p.1]? = some x ∧ yX ρ (x.1, x.2 + p.2) z := by
  obtain ⟨z0, h1, h2⟩ := hp
  have hl : p.1 < s.length := by rw [h.1]; exact (List.getElem?_eq_some_iff.mp h1).1
  obtain ⟨z1, h3, z2, h4, h5⟩ := h.2 _ _ (List.getElem?_eq_getElem hl)
  rw [h1] at h3
  cases h3
  exact ⟨_, List.getElem?_eq_getElem hl, z2, h4, by show z = z2 + (_ + p.2); omega⟩
theorem qMs_X {s : List (Nat × Int)} {ρp ρ : List Int} (h : ySb s ρp ρ) (h0 : ρp[0]? = some 0) {p : Nat × Int} {z : Int} (hm : qMs ρ (s.map some) p z) : yX ρp p z := by
  rcases hm with ⟨h1, h2⟩ | ⟨y, h1, h2⟩
  · exact ⟨0, by rw [h1]; exact h0, by omega⟩
  · rw [List.getElem?_map] at h1
    cases hs : s[p.1]? with
    | none => rw [hs] at h1; cases h1
    | some x =>
      rw [hs] at h1
      simp only [Option.map_some, Option.some.injEq] at h1
      subst h1
      obtain ⟨z1, g1, z2, g2, g3⟩ := h.2 _ _ hs
      obtain ⟨z3, g4, g5⟩ := h2
      rw [g2] at g4
      cases g4
      exact ⟨z1, g1, by dsimp only at g5; omega⟩
theorem qVs_X {s : List (Nat × Int)} {ρp ρ : List Int} (h : ySb s ρp ρ) (h0 : ρp[0]? = some 0) {v : Value} : ∀ {p : yV}, qVs ρ (s.map some) p v → yVG ρp p v
  | .inl _, hm => by obtain ⟨X, h1, h2⟩ := hm; exact ⟨X, h1, qMs_X h h0 h2⟩
  | .inr (.inl _), hm => by obtain ⟨X, h1, h2⟩ := hm; exact ⟨X, h1, qMs_X h h0 h2⟩
  | .inr (.inr _), hm => hm
theorem qivs_ok {ρ : List Int} {env : List yI} (hE : yE ρ env) : ∀ {s : List (Nat × Int)} {eb : List yI}, qivs env s eb = true → s.length = eb.length ∧ (∀ x ∈ s, x.1 < ρ.length) ∧ ∀ (j : Nat) (iv : yI), eb[j]? = some iv → ∃ z, (qVal ρ s)[j]? = some z ∧ yM iv z
  | [], [], _ => ⟨rfl, fun x hx => absurd hx List.not_mem_nil, fun j iv hj => by simp at hj⟩
  | x :: s, iv :: eb, h => by
    simp only [qivs, Bool.and_eq_true] at h
    obtain ⟨h1, h2, h3⟩ := qivs_ok hE h.2
    have hl : x.1 < ρ.length := by
      have := h.1
      unfold yvin at this
      rw [ylk_eq] at this
      split at this
      · rename_i jv hj
        rw [← hE.1]
        exact (List.getElem?_eq_some_iff.mp hj).1
      · cases this
    refine ⟨by rw [List.length_cons, List.length_cons, h1], fun y hy => ?_, fun j jv hj => ?_⟩
    · rcases List.mem_cons.mp hy with w | w
      · rw [w]; exact hl
      · exact h2 y w
    · cases j with
      | zero =>
        simp only [List.getElem?_cons_zero, Option.some.injEq] at hj
        subst hj
        refine ⟨ρ.getD x.1 0 + x.2, rfl, yvin_ok hE ⟨ρ[x.1], List.getElem?_eq_getElem hl, ?_⟩ h.1⟩
        rw [List.getD_eq_getElem?_getD, List.getElem?_eq_getElem hl]
        rfl
      | succ j =>
        simp only [List.getElem?_cons_succ] at hj
        exact h3 j jv hj
theorem qfa_ok {md : yMd} {ρ ρb : List Int} {env : List yI} {F : yF} {h : zHp} {s : List (Nat × Int)} (hE : yE ρ env) (hF : yFa md ρ h F) (hs : ySb s ρb ρ) : ∀ {Fb : yF}, qfa env F s Fb = true → yFa md ρb h Fb
  | [], _ => yFa_n
  | .inr _ :: _, hq => by simp [qfa] at hq
  | .inl (a, b, c) :: Fb, hq => by
    simp only [qfa, Bool.and_eq_true, ylk_eq] at hq
    refine yFa_c ?_ (qfa_ok hE hF hs hq.2)
    have h1 := hq.1
    split at h1
    · rename_i x y hx hy
      obtain ⟨z1, g1, g2⟩ := hs.2 _ _ hx
      obtain ⟨z2, g3, g4⟩ := hs.2 _ _ hy
      exact ⟨z1, z2, g1, g3, qge_ok hE hF 6 g2 g4 h1⟩
    · cases h1
theorem qid_bd {ρ : List Int} {n0 m : Nat} (h : n0 ≤ ρ.length) : qBd ρ (qid n0 m) := fun j y hj => by
  unfold qid at hj
  by_cases hl : j < n0
  · rw [List.getElem?_append_left (by simpa using hl), List.getElem?_map, List.getElem?_range hl] at hj
    simp only [Option.map_some, Option.some.injEq] at hj
    rw [← hj]
    show j < ρ.length
    omega
  · rw [List.getElem?_append_right (by simpa using Nat.le_of_not_lt hl)] at hj
    rw [List.getElem?_replicate] at hj
    split at hj <;> simp at hj
theorem qid_get {n0 m j : Nat} (h : j < n0) : (qid n0 m)[j]? = some (some (j, 0)) := by
  unfold qid
  rw [List.getElem?_append_left (by simpa using h), List.getElem?_map, List.getElem?_range h]
  rfl
theorem yE_0 {ρ : List Int} {env : List yI} (hE : yE ρ env) : 1 ≤ ρ.length := (List.getElem?_eq_some_iff.mp hE.2.1).1
theorem qmt_ok {T : yT} {md : yMd} {N1 N2 n0 : Nat} {hh : zHp} {ρ : List Int} {env envb : List yI} {h hb : yH} {F Fb : yF} {prs : List (yV × yV)} {r : List (Nat × Int) × List yI} (h0 : 1 ≤ n0) (hn : n0 ≤ ρ.length) (hE : yE ρ env) (hH : yHG T N1 N2 ρ h hh) (hF : yFa md ρ hh F) (hv : ∀ q ∈ prs, ∃ v, yVG ρ q.2 v) (hq : qmt T env h F n0 envb Fb prs hb = some r) : ∃ t ρb, ySb r.1 ρb (ρ ++ t) ∧ yE (ρ ++ t) r.2 ∧ yE ρb envb ∧ (∀ j, j < n0 → ρb[j]? = ρ[j]?) ∧ (∀ q ∈ prs, ∀ v, yVG ρ q.2 v → yVG ρb q.1 v) ∧ yHG T N1 N2 ρb hb hh ∧ yFa md ρb hh Fb := by
  simp only [qmt, Option.bind_eq_some_iff, Option.some.injEq] at hq
  obtain ⟨sg, h1, g, h2, s, h3, _, h4, rfl⟩ := hq
  have hb4 := ygb_some h4
  rw [Bool.and_eq_true] at hb4
  obtain ⟨k1, k2, k3⟩ := qbl_ok hE (qid_bd hn) hv h1
  obtain ⟨t, m1, m2, m3, m4, m5⟩ := qbh_ok hE hH k2 h2
  have hs := qcl_ok h3
  obtain ⟨i1, i2, i3⟩ := qivs_ok m1 hb4.1
  have hS := ySb_val i2
  have hid : ∀ j, j < n0 → s[j]? = some (j, 0) := fun j hj => by
    have := m3.2 _ _ (k1.2 _ _ (qid_get (m := envb.length) hj))
    rw [hs, List.getElem?_map] at this
    cases hsj : s[j]? with
    | none => rw [hsj] at this; cases this
    | some x => rw [hsj] at this; simp only [Option.map_some, Option.some.injEq] at this; rw [this]
  have hag : ∀ j, j < n0 → (qVal (ρ ++ t) s)[j]? = ρ[j]? := fun j hj => by
    have hjl : j < ρ.length := by omega
    obtain ⟨z, z1, z2, z3, z4⟩ := hS.2 _ _ (hid j hj)
    dsimp only at z3 z4
    rw [z1, List.getElem?_eq_getElem hjl]
    rw [List.getElem?_append_left hjl, List.getElem?_eq_getElem hjl] at z3
    cases z3
    rw [z4]
    congr 1
    omega
  have hz : (qVal (ρ ++ t) s)[0]? = some 0 := by rw [hag 0 (by omega)]; exact hE.2.1
  refine ⟨t, qVal (ρ ++ t) s, hS, m1, ⟨by unfold qVal; rw [List.length_map]; exact i1.symm, hz, i3⟩, hag, fun q hq' v hqv => ?_, ⟨m2.1, fun e he => ?_⟩, qfa_ok m1 (yFa_more t hF) hS hb4.2⟩
  · exact qVs_X hS hz (by rw [← hs]; exact qVs_le m3 (qVs_more t (k3 q hq' v hqv)))
  · obtain ⟨v, v1, v2⟩ := m5 e he
    exact ⟨v, v1, qVs_X hS hz (by rw [← hs]; exact v2)⟩
