/-! the engine is sound: summaries at calls -/
def zEv (sc : Option (List Int32)) (d : Nat) (mi : zMi) (st : zSt) (r : Option Value) (h' : zHp) : Prop := ∃ n, zex n sc d mi st = some (r, h')
theorem zex_up (n : Nat) : ∀ (sc : Option (List Int32)) (d : Nat) (mi : zMi) (st : zSt) (x : Option Value × zHp), zex n sc d mi st = some x → zex (n + 1) sc d mi st = some x := by
  induction n with
  | zero => intro sc d mi st x hx; simp [zex] at hx
  | succ n ih =>
    intro sc d mi st x hx
    rw [zex] at hx ⊢
    cases hs : zstep sc mi st with
    | none => rw [hs] at hx; cases hx
    | some q =>
      rw [hs] at hx
      match q, hx with
      | .inl st', hx => exact ih _ _ _ _ _ hx
      | .inr (.inr r), hx => exact hx
      | .inr (.inl (kd, id, as, rest)), hx =>
        dsimp only at hx ⊢
        simp only [Option.bind_eq_some_iff] at hx ⊢
        obtain ⟨mi', h1, u, h2, q, h3, h4⟩ := hx
        exact ⟨mi', h1, u, h2, q, ih _ _ _ _ _ h3, ih _ _ _ _ _ h4⟩
theorem zex_le {n k : Nat} (hk : n ≤ k) {sc : Option (List Int32)} {d : Nat} {mi : zMi} {st : zSt} {x : Option Value × zHp} (hx : zex n sc d mi st = some x) : zex k sc d mi st = some x := by
  induction hk with
  | refl => exact hx
  | step _ ih => exact zex_up _ _ _ _ _ _ ih
theorem zex_dp (n : Nat) : ∀ (sc : Option (List Int32)) (d : Nat) (mi : zMi) (st : zSt) (x : Option Value × zHp), zex n sc d mi st = some x → zex n sc (d + 1) mi st = some x := by
  induction n with
  | zero => intro sc d mi st x hx; simp [zex] at hx
  | succ n ih =>
    intro sc d mi st x hx
    rw [zex] at hx ⊢
    cases hs : zstep sc mi st with
    | none => rw [hs] at hx; cases hx
    | some q =>
      rw [hs] at hx
      match q, hx with
      | .inl st', hx => exact ih _ _ _ _ _ hx
      | .inr (.inr r), hx => exact hx
      | .inr (.inl (kd, id, as, rest)), hx =>
        dsimp only at hx ⊢
        simp only [Option.bind_eq_some_iff] at hx ⊢
        obtain ⟨mi', h1, u, h2, q, h3, h4⟩ := hx
        have h5 := zgb_some h2
        rw [Bool.and_eq_true, Nat.blt_eq] at h5
        have e : d - 1 + 1 = d + 1 - 1 := by omega
        refine ⟨mi', h1, u, zgb_true (by rw [Bool.and_eq_true, Nat.blt_eq]; exact ⟨h5.1, by omega⟩), q, ?_, ih _ _ _ _ _ h4⟩
        rw [← e]
        exact ih _ _ _ _ _ h3
theorem zEv_dp {d d' : Nat} (hd : d ≤ d') {sc : Option (List Int32)} {mi : zMi} {st : zSt} {r : Option Value} {h' : zHp} (hx : zEv sc d mi st r h') : zEv sc d' mi st r h' := by
  induction hd with
  | refl => exact hx
  | step _ ih => obtain ⟨n, hn⟩ := ih; exact ⟨n, zex_dp _ _ _ _ _ _ hn⟩
theorem zEv_step {sc : Option (List Int32)} {d : Nat} {mi : zMi} {st st' : zSt} {r : Option Value} {h' : zHp} (hs : zstep sc mi st = some (.inl st')) (hx : zEv sc d mi st' r h') : zEv sc d mi st r h' := by
  obtain ⟨n, hn⟩ := hx
  refine ⟨n + 1, ?_⟩
  rw [zex, hs]
  exact hn
theorem zEv_ret {sc : Option (List Int32)} {d : Nat} {mi : zMi} {st : zSt} {r : Option Value} (hs : zstep sc mi st = some (.inr (.inr r))) : zEv sc d mi st r st.2.2.2 := by
  refine ⟨1, ?_⟩
  rw [zex, hs]
theorem zEv_call {sc : Option (List Int32)} {d kd id : Nat} {mi mi' : zMi} {st : zSt} {as rest : List Value} {r r1 : Option Value} {h1 h' : zHp} (hs : zstep sc mi st = some (.inr (.inl (kd, id, as, rest)))) (hm : zms[id]? = some mi') (hr : (zrcv kd mi' as rest st.2.2.2 && Nat.blt 1 d) = true) (hc : zEv none (d - 1) mi' (0, lv_args 0 as, [], st.2.2.2) r1 h1) (hx : zEv sc d mi (st.1 + 3, st.2.1, r1.toList ++ rest, h1) r h') : zEv sc d mi st r h' := by
  obtain ⟨n1, g1⟩ := hc
  obtain ⟨n2, g2⟩ := hx
  refine ⟨n1 + n2 + 1, ?_⟩
  rw [zex, hs]
  dsimp only
  rw [hm, Option.bind_some, zgb_true hr, Option.bind_some, zex_le (by omega : n1 ≤ n1 + n2) g1, Option.bind_some]
  exact zex_le (by omega : n2 ≤ n1 + n2) g2
def yOv (ρ : List Int) (a : Option yV) (v : Option Value) : Prop := match a, v with
  | none, none => True
  | some a, some v => yVG ρ a v
  | _, _ => False
theorem yOv_sr {ρ : List Int} {a : Option yV} {v : Option Value} (hv : yOv ρ a v) : zF2 (yVG ρ) a.toList v.toList := by
  match a, v, hv with
  | none, none, _ => exact True.intro
  | some a, some v, hv => exact zF2_c hv True.intro
/-- an end is told -/
def yQ (T : yT) (md : yMd) (N1 N2 : Nat) (ρ : List Int) (q : qQ) (r : Option Value) (h' : zHp) : Prop := yOv ρ q.1 r ∧ yE ρ q.2.1 ∧ yHG T N1 N2 ρ q.2.2.1 h' ∧ yFa md ρ h' q.2.2.2
/-- a summary holds -/
def qOK (T : yT) (N1 N2 : Nat) (sm : qSm) : Prop := ∀ (d : Nat), sm.2.1 ≤ d → ∀ (ρ : List Int) (hh : zHp) (vals : List Value), yE ρ sm.2.2.2.1.2.1 → zF2 (yVG ρ) sm.2.2.2.1.1 vals → yHG T N1 N2 ρ sm.2.2.2.1.2.2 hh → ∃ mi r h', zms[sm.1]? = some mi ∧ zEv none d mi (0, lv_args 0 vals, [], hh) r h' ∧ yFr sm.2.2.1 hh h' ∧ ∃ o ∈ sm.2.2.2.2, ∃ t, yQ T sm.2.2.1 N1 N2 (ρ ++ t) o r h'
theorem yit1_ok {p : Int × Int} {o z : Int} (h1 : p.1 ≤ z) (h2 : z ≤ p.2) : ∀ {iv : yI}, yM iv (z + o) → yM (yit1 p o iv) z
  | [], h => absurd h yM_n
  | q :: r, h => by
    simp only [yit1]
    rcases yM_c.mp h with w | w
    · have a1 := ymx_l p.1 (q.1 - o) z h1 (by omega)
      have a2 := ymn_g p.2 (q.2 - o) z h2 (by omega)
      rw [(yle_iff _ _).mpr (by omega)]
      exact yM_c.mpr (Or.inl ⟨a1, a2⟩)
    · cases yle (ymx p.1 (q.1 - o)) (ymn p.2 (q.2 - o)) with
      | true => exact yM_c.mpr (Or.inr (yit1_ok h1 h2 w))
      | false => exact yit1_ok h1 h2 w
theorem yit_ok {o z : Int} {iv : yI} (h : yM iv (z + o)) : ∀ {jv : yI}, yM jv z → yM (yit jv o iv) z
  | [], hj => absurd hj yM_n
  | p :: r, hj => by
    simp only [yit]
    rw [yM_a]
    rcases yM_c.mp hj with w | w
    · exact Or.inl (yit1_ok w.1 w.2 h)
    · exact Or.inr (yit_ok h w)
theorem qnw_ok {ρ : List Int} : ∀ {s : List (Nat × Int)} {ps os env : List yI}, yE ρ env → (∀ (j : Nat) (x : Nat × Int) (b : yI), s[j]? = some x → os[j]? = some b → ∃ w, yX ρ x w ∧ yM b w) → ∃ e, qnw env s ps os = some e ∧ yE ρ e
  | [], ps, os, env, hE, _ => ⟨env, by cases ps <;> cases os <;> rfl, hE⟩
  | x :: s, [], os, env, hE, _ => ⟨env, by cases os <;> rfl, hE⟩
  | x :: s, a :: ps, [], env, hE, _ => ⟨env, rfl, hE⟩
  | x :: s, a :: ps, b :: os, env, hE, hw => by
    simp only [qnw]
    have hw2 : ∀ (j : Nat) (x : Nat × Int) (b : yI), s[j]? = some x → os[j]? = some b → ∃ w, yX ρ x w ∧ yM b w := fun j y c h1 h2 => hw (j + 1) y c (by simpa using h1) (by simpa using h2)
    cases yie a b with
    | true => exact qnw_ok hE hw2
    | false =>
      simp only [cond_false]
      obtain ⟨w, ⟨z0, g1, g2⟩, g3⟩ := hw 0 x b rfl rfl
      rw [g2] at g3
      obtain ⟨e, e1, e2⟩ := yrf_ok hE g1 (f := fun jv => yit jv x.2 b) (fun jv hj => yit_ok g3 hj)
      rw [e1, Option.bind_some]
      exact qnw_ok e2 hw2
theorem qml_ok {s : List (Nat × Int)} {ρc ρn : List Int} (h : ySb s ρc ρn) {v : Value} : ∀ {p w : yV}, qml s p = some w → yVG ρc p v → yVG ρn w v
  | .inl p, w, hq, hv => by
    simp only [qml, ylk_eq, Option.bind_eq_some_iff, Option.some.injEq] at hq
    obtain ⟨x, h1, rfl⟩ := hq
    obtain ⟨X, rfl, hX⟩ := yVG_i hv
    obtain ⟨y, h2, h3⟩ := ySb_X h hX
    rw [h1] at h2
    cases h2
    exact yVG_mi h3
  | .inr (.inl p), w, hq, hv => by
    simp only [qml, ylk_eq, Option.bind_eq_some_iff, Option.some.injEq] at hq
    obtain ⟨x, h1, rfl⟩ := hq
    obtain ⟨X, rfl, hX⟩ := yVG_l hv
    obtain ⟨y, h2, h3⟩ := ySb_X h hX
    rw [h1] at h2
    cases h2
    exact yVG_ml h3
  | .inr (.inr u), w, hq, hv => by
    simp only [qml, Option.some.injEq] at hq
    subst hq
    exact hv
theorem qmo_ok {s : List (Nat × Int)} {ρc ρn : List Int} (h : ySb s ρc ρn) {r : Option Value} : ∀ {p w : Option yV}, qmo s p = some w → yOv ρc p r → yOv ρn w r
  | none, w, hq, hv => by
    simp only [qmo, Option.some.injEq] at hq
    subst hq
    cases r with
    | none => exact True.intro
    | some v => exact hv
  | some p, w, hq, hv => by
    simp only [qmo, Option.bind_eq_some_iff, Option.some.injEq] at hq
    obtain ⟨u, h1, rfl⟩ := hq
    cases r with
    | none => exact hv
    | some v => exact qml_ok h h1 hv
theorem qmh_ok {s : List (Nat × Int)} {ρc ρn : List Int} (h : ySb s ρc ρn) {hh : zHp} : ∀ {a b : yH}, qmh s a = some b → yOd ρc a hh → yOd ρn b hh
  | [], b, hq, _ => by
    simp only [qmh, Option.some.injEq] at hq
    subst hq
    exact fun e he => absurd he List.not_mem_nil
  | (k, v) :: a, b, hq, hv => by
    simp only [qmh, Option.bind_eq_some_iff, Option.some.injEq] at hq
    obtain ⟨w, h1, t, h2, rfl⟩ := hq
    have ih := qmh_ok h h2 (fun e he => hv e (List.mem_cons_of_mem _ he))
    intro e he
    rcases List.mem_cons.mp he with q | q
    · rw [q]
      obtain ⟨u, u1, u2⟩ := hv _ List.mem_cons_self
      exact ⟨u, u1, qml_ok h h1 u2⟩
    · exact ih e q
theorem qmf_ok {s : List (Nat × Int)} {ρc ρn : List Int} (h : ySb s ρc ρn) {md md' : yMd} {hh : zHp} : ∀ {a b : yF}, qmf s a = some b → yFa md ρc hh a → yFa md' ρn hh b
  | [], b, hq, _ => by
    simp only [qmf, Option.some.injEq] at hq
    subst hq
    exact yFa_n
  | .inr _ :: a, b, hq, _ => by simp [qmf] at hq
  | .inl (a, b, c) :: F, g, hq, hv => by
    simp only [qmf, ylk_eq, Option.bind_eq_some_iff, Option.some.injEq] at hq
    obtain ⟨x, h1, y, h2, t, h3, rfl⟩ := hq
    refine yFa_c ?_ (qmf_ok h h3 (fun f hf => hv f (List.mem_cons_of_mem _ hf)))
    obtain ⟨za, zb, k1, k2, k3⟩ := hv _ List.mem_cons_self
    dsimp only at k1 k2 k3
    obtain ⟨z1, m1, z2, m2, m3⟩ := h.2 _ _ h1
    obtain ⟨z3, m4, z4, m5, m6⟩ := h.2 _ _ h2
    rw [k1] at m1
    rw [k2] at m4
    cases m1
    cases m4
    exact ⟨z2, z4, m2, m5, by show z4 + (c + y.2 - x.2) ≤ z2; omega⟩
theorem yov_mem {h : yH} {e : (Nat × Nat) × yV} : ∀ {ho : yH}, e ∈ yov h ho → e ∈ h ∨ e ∈ ho
  | [], he => Or.inl he
  | f :: ho, he => by
    simp only [yov] at he
    rcases List.mem_cons.mp he with q | q
    · rw [q]; exact Or.inr List.mem_cons_self
    · rcases yov_mem (yrm_mem q).1 with w | w
      · exact Or.inl w
      · exact Or.inr (List.mem_cons_of_mem _ w)
theorem qou1_ok {T : yT} {md md' : yMd} {N1 N2 : Nat} {ρ ρp t : List Int} {s : List (Nat × Int)} {env envp : List yI} {h : yH} {F : yF} {o : qQ} {l : List qQ} {r : Option Value} {h' : zHp} (hE : yE ρ env) (hS : ySb s ρp ρ) (hp : ρp.length = envp.length) (hh : yOd ρ h h') (hF : yFa md ρ h' F) (hQ : yQ T md' N1 N2 (ρp ++ t) o r h') (hq : qou1 s env h F envp o = some l) : ∃ q ∈ l, yQ T md N1 N2 (ρ ++ t) q r h' := by
  obtain ⟨q1, q2, q3, q4⟩ := hQ
  have hlen : o.2.1.length = ρp.length + t.length := by rw [q2.1, List.length_append]
  unfold qou1 at hq
  obtain ⟨e, e1, e2⟩ := qnw_ok (s := s) (ps := envp) (os := o.2.1) hE (fun j x b h1 h2 => by
    obtain ⟨z, z1, z2⟩ := hS.2 _ _ h1
    obtain ⟨w, w1, w2⟩ := q2.2.2 _ _ h2
    rw [yg_more t z1] at w1
    cases w1
    exact ⟨z, z2, w2⟩)
  rw [e1] at hq
  dsimp only at hq
  simp only [Option.bind_eq_some_iff, Option.some.injEq] at hq
  obtain ⟨r1, g1, ho, g2, Fo, g3, rfl⟩ := hq
  have hS' : ySb (s ++ (List.range (o.2.1.length - envp.length)).map (fun j => (env.length + j, (0 : Int)))) (ρp ++ t) (ρ ++ t) := by
    refine ⟨by rw [List.length_append, List.length_append, List.length_map, List.length_range, hS.1]; omega, fun j x hj => ?_⟩
    by_cases hl : j < s.length
    · rw [List.getElem?_append_left hl] at hj
      obtain ⟨z, z1, z2⟩ := hS.2 _ _ hj
      exact ⟨z, yg_more t z1, yX_more t z2⟩
    · rw [List.getElem?_append_right (by omega), List.getElem?_map] at hj
      have hl2 : j - s.length < o.2.1.length - envp.length := by
        rcases Nat.lt_or_ge (j - s.length) (o.2.1.length - envp.length) with w | w
        · exact w
        · rw [List.getElem?_eq_none (by rw [List.length_range]; exact w)] at hj; cases hj
      rw [List.getElem?_range hl2] at hj
      simp only [Option.map_some, Option.some.injEq] at hj
      subst hj
      have ht : j - s.length < t.length := by omega
      refine ⟨t[j - s.length], ?_, t[j - s.length], ?_, by show _ = _ + (0 : Int); omega⟩
      · rw [List.getElem?_append_right (by rw [← hS.1]; omega), ← hS.1]
        exact List.getElem?_eq_getElem ht
      · show (ρ ++ t)[env.length + (j - s.length)]? = _
        rw [hE.1, List.getElem?_append_right (by omega), show ρ.length + (j - s.length) - ρ.length = j - s.length by omega]
        exact List.getElem?_eq_getElem ht
  refine ⟨_, List.mem_cons_self, qmo_ok hS' g1 q1, ?_, ⟨q3.1, fun a ha => ?_⟩, fun f hf => ?_⟩
  · refine ⟨?_, yg_more t e2.2.1, fun j iv hj => ?_⟩
    · show (e ++ o.2.1.drop envp.length).length = _
      rw [List.length_append, List.length_append, List.length_drop, e2.1]
      omega
    · change (e ++ o.2.1.drop envp.length)[j]? = some iv at hj
      by_cases hl : j < e.length
      · rw [List.getElem?_append_left hl] at hj
        obtain ⟨z, z1, z2⟩ := e2.2.2 _ _ hj
        exact ⟨z, yg_more t z1, z2⟩
      · rw [List.getElem?_append_right (by omega), List.getElem?_drop] at hj
        obtain ⟨z, z1, z2⟩ := q2.2.2 _ _ hj
        refine ⟨z, ?_, z2⟩
        have := e2.1
        rw [List.getElem?_append_right (by omega)] at z1 ⊢
        rw [← z1]
        congr 1
        omega
  · rcases yov_mem ha with w | w
    · exact yOd_more t hh a w
    · exact qmh_ok hS' g2 q3.2 a w
  · rcases List.mem_append.mp hf with w | w
    · exact qmf_ok hS' g3 q4 f w
    · exact yFa_more t hF f w
theorem qous_ok {s : List (Nat × Int)} {env envp : List yI} {h : yH} {F : yF} {o : qQ} : ∀ {os l : List qQ}, o ∈ os → qous s env h F envp os = some l → ∃ a, qou1 s env h F envp o = some a ∧ ∀ q ∈ a, q ∈ l
  | b :: os, l, ho, hq => by
    simp only [qous, Option.bind_eq_some_iff, Option.some.injEq] at hq
    obtain ⟨a, h1, c, h2, rfl⟩ := hq
    rcases List.mem_cons.mp ho with w | w
    · rw [w]; exact ⟨a, h1, fun q hq => List.mem_append_left _ hq⟩
    · obtain ⟨a2, k1, k2⟩ := qous_ok w h2
      exact ⟨a2, k1, fun q hq => List.mem_append_right _ (k2 q hq)⟩
theorem ymc_ok {md : yMd} {k i : Nat} : ∀ {ms : yMd}, ymc md ms = true → ymd ms k i = true → ymd md k i = true
  | [], _, h => by simp [ymd] at h
  | (a, b, c) :: ms, hc, h => by
    simp only [ymc, Bool.and_eq_true] at hc
    simp only [ymd] at h
    cases hb : (Nat.beq a k && Nat.ble b i && Nat.ble i c) with
    | true =>
      simp only [Bool.and_eq_true, nbq, Nat.ble_eq] at hb
      have := ymr_ok hb.1.2 hb.2 hc.1
      rw [hb.1.1] at this
      exact this
    | false => rw [hb] at h; exact ymc_ok hc.2 h
theorem qzp_mem {A : yV → Value → Prop} : ∀ {ps as : List yV} {prs : List (yV × yV)} {vals : List Value}, qzp ps as = some prs → zF2 A as vals → ∀ q ∈ prs, ∃ v, A q.2 v
  | [], [], prs, vals, hq, _ => by
    simp only [qzp, Option.some.injEq] at hq
    subst hq
    exact fun q hq => absurd hq List.not_mem_nil
  | p :: ps, a :: as, prs, vals, hq, hv => by
    simp only [qzp, Option.bind_eq_some_iff, Option.some.injEq] at hq
    obtain ⟨s, h1, rfl⟩ := hq
    obtain ⟨v, vs, rfl, k1, k2⟩ := zF2_u hv
    intro q hm
    rcases List.mem_cons.mp hm with w | w
    · rw [w]; exact ⟨v, k1⟩
    · exact qzp_mem h1 k2 q w
  | [], _ :: _, _, _, hq, _ => by simp [qzp] at hq
  | _ :: _, [], _, _, hq, _ => by simp [qzp] at hq
theorem qzp_F2 {A B : yV → Value → Prop} : ∀ {ps as : List yV} {prs : List (yV × yV)} {vals : List Value}, qzp ps as = some prs → (∀ q ∈ prs, ∀ v, A q.2 v → B q.1 v) → zF2 A as vals → zF2 B ps vals
  | [], [], prs, vals, _, _, hv => by rw [zF2_n hv]; exact True.intro
  | p :: ps, a :: as, prs, vals, hq, hab, hv => by
    simp only [qzp, Option.bind_eq_some_iff, Option.some.injEq] at hq
    obtain ⟨s, h1, rfl⟩ := hq
    obtain ⟨v, vs, rfl, k1, k2⟩ := zF2_u hv
    exact zF2_c (hab _ List.mem_cons_self v k1) (qzp_F2 h1 (fun q hm => hab q (List.mem_cons_of_mem _ hm)) k2)
  | [], _ :: _, _, _, hq, _, _ => by simp [qzp] at hq
  | _ :: _, [], _, _, hq, _, _ => by simp [qzp] at hq
theorem qap_ok {T : yT} {md : yMd} {N1 N2 d : Nat} {sm : qSm} {as : List yV} {env : List yI} {h : yH} {F : yF} {os : List qQ} {ρ : List Int} {hh : zHp} {vals : List Value} (hsm : qOK T N1 N2 sm) (hE : yE ρ env) (hH : yHG T N1 N2 ρ h hh) (hF : yFa md ρ hh F) (ha : zF2 (yVG ρ) as vals) (hq : qap T md d sm as env h F = some os) : ∃ mi r h', zms[sm.1]? = some mi ∧ zEv none (d - 1) mi (0, lv_args 0 vals, [], hh) r h' ∧ yFr md hh h' ∧ ∃ o ∈ os, ∃ t, yQ T md N1 N2 (ρ ++ t) o r h' := by
  simp only [qap, Option.bind_eq_some_iff] at hq
  obtain ⟨prs, h0, sg, h1, g, h2, s, h3, _, h4, h5⟩ := hq
  have hb4 := ygb_some h4
  simp only [Bool.and_eq_true, Nat.blt_eq] at hb4
  obtain ⟨⟨b1, b2⟩, b3⟩ := hb4
  obtain ⟨k1, k2, k3⟩ := qbl_ok hE (qid_bd (yE_0 hE)) (qzp_mem h0 ha) h1
  obtain ⟨t, m1, m2, m3, m4, m5⟩ := qbh_ok hE hH k2 h2
  have hs := qcl_ok h3
  obtain ⟨i1, i2, i3⟩ := qivs_ok m1 b1
  have hS := ySb_val i2
  have hid : s[0]? = some (0, 0) := by
    have := m3.2 _ _ (k1.2 _ _ (qid_get (m := sm.2.2.2.1.2.1.length) (show 0 < 1 by omega)))
    rw [hs, List.getElem?_map] at this
    cases hsj : s[0]? with
    | none => rw [hsj] at this; cases this
    | some x => rw [hsj] at this; simp only [Option.map_some, Option.some.injEq] at this; rw [this]
  have hz : (qVal (ρ ++ t) s)[0]? = some 0 := by
    obtain ⟨z, z1, z2, z3, z4⟩ := hS.2 _ _ hid
    dsimp only at z3 z4
    rw [yg_more t hE.2.1] at z3
    cases z3
    rw [z1, z4]
    rfl
  have hpE : yE (qVal (ρ ++ t) s) sm.2.2.2.1.2.1 := ⟨by unfold qVal; rw [List.length_map]; exact i1.symm, hz, i3⟩
  obtain ⟨mi, r, h', x1, x2, x3, o, x4, t2, x5⟩ := hsm (d - 1) (by omega) (qVal (ρ ++ t) s) hh vals hpE (qzp_F2 h0 (fun q hm v hv => qVs_X hS hz (by rw [← hs]; exact qVs_le m3 (qVs_more t (k3 q hm v hv)))) ha) ⟨m2.1, fun e he => by
    obtain ⟨v, v1, v2⟩ := m5 e he
    exact ⟨v, v1, qVs_X hS hz (by rw [← hs]; exact v2)⟩⟩
  have hfr : yFr md hh h' := fun k i hm => x3 k i (by
    cases hq : ymd sm.2.2.1 k i with
    | false => rfl
    | true => rw [ymc_ok b3 hq] at hm; cases hm)
  obtain ⟨a, a1, a2⟩ := qous_ok x4 h5
  obtain ⟨q, q1, q2⟩ := qou1_ok (t := t2) m1 hS hpE.1.symm (h := yfl sm.2.2.1 g.2.2) (F := F) (h' := h') (fun e he => by
    unfold yfl at he
    rw [List.mem_filter] at he
    obtain ⟨v, v1, v2⟩ := m2.2 e he.1
    exact ⟨v, by rw [x3 _ _ (by simpa using he.2)]; exact v1, v2⟩) (yFa_fr hfr (yFa_more t hF)) x5 a1
  exact ⟨mi, r, h', x1, x2, hfr, q, a2 q q1, t ++ t2, by rw [← List.append_assoc]; exact q2⟩
theorem qfd_ok {T : yT} {md : yMd} {d id : Nat} {as : List yV} {env : List yI} {h : yH} {F : yF} {os : List qQ} : ∀ {Sg : List qSm}, qfd T md d id as env h F Sg = some os → ∃ sm ∈ Sg, sm.1 = id ∧ qap T md d sm as env h F = some os
  | [], hq => by simp [qfd] at hq
  | sm :: Sg, hq => by
    simp only [qfd] at hq
    cases hb : Nat.beq sm.1 id with
    | false =>
      rw [hb] at hq
      obtain ⟨x, h1, h2⟩ := qfd_ok hq
      exact ⟨x, List.mem_cons_of_mem _ h1, h2⟩
    | true =>
      rw [hb] at hq
      simp only [cond_true] at hq
      split at hq
      · rename_i x hx
        cases hq
        exact ⟨sm, List.mem_cons_self, (nbq _ _).mp hb, hx⟩
      · obtain ⟨x, h1, h2⟩ := qfd_ok hq
        exact ⟨x, List.mem_cons_of_mem _ h1, h2⟩
