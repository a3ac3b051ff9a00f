/-! the law's loop -/
def qwin (b : Nat) : List yV := (List.range 5).map (fun j => .inl (b + j, 0))
def qis1 (q : qQ) : Bool := match q.1 with
  | some (.inl x) => (match yc1 q.2.1 x with
    | some c => yeq c 1
    | none => false)
  | _ => false
def qi5 (lo : yLo) (v : Nat × Int) : Bool := match zas2 lo 3 with
  | some (.inl x) => Nat.beq x.1 v.1 && yeq x.2 v.2
  | _ => false
/-- a head of the law's loop: its shape -/
def qhd (c : qCt) : Bool := Nat.beq c.1.1 18 && c.1.2.2.2.1.isEmpty && qi5 c.1.2.2.1 (2, 0) && c.2.1.isEmpty && Nat.ble 3 c.1.2.1.length
def qlo (T : yT) (heads : List qCt) : qQ ⊕ qS → Bool
  | .inl q => qis1 q
  | .inr a => qi5 a.1.2.2.1 (2, 5) && heads.any (qtoc T 2 a none)
def qlc (T : yT) (Sg : List qSm) (P : List (Nat × Int × Int)) (n : Nat) (md : yMd) (sp : List Nat) (heads : List qCt) (c : qCt) : Bool := match qrun T Sg P n md [18] sp (some (2, 1, qwin c.1.2.1.length)) 20 zm_L_law [(true, (18, c.1.2.1 ++ List.replicate 5 yI32, c.1.2.2.1, [], c.1.2.2.2.2), [])] [] with
  | some os => os.all (qlo T heads)
  | none => false
def qlx1 (o : qQ ⊕ qS) : Bool := match o with
  | .inl q => qis1 q
  | .inr _ => false
def qlx (T : yT) (Sg : List qSm) (P : List (Nat × Int × Int)) (n : Nat) (md : yMd) (c : qCt) (j : Nat) : Bool := match qrun T Sg P n md [18] [] (some (2, 1, [])) 20 zm_L_law [(true, (18, c.1.2.1, (3, .inl (1, -(j : Int))) :: c.1.2.2.1, [], c.1.2.2.2.2), [])] [] with
  | some os => os.all qlx1
  | none => false
theorem qis1_ok {T : yT} {md : yMd} {N1 N2 : Nat} {ρ : List Int} {q : qQ} {r : Option Value} {h' : zHp} (h : qis1 q = true) (hQ : yQ T md N1 N2 ρ q r h') : r = some (.int 1) := by
  unfold qis1 at h
  split at h
  · rename_i x hx
    have h1 := hQ.1
    rw [hx] at h1
    cases r with
    | none => exact absurd h1 (fun w => w)
    | some v =>
      obtain ⟨X, hv, hX⟩ := yVG_i (show yVG ρ (.inl x) v from h1)
      split at h
      · rename_i c hc
        have e1 := yc1_ok hQ.2.1 hX hc
        have e2 := (yeq_iff _ _).mp h
        rw [hv, Int32.toInt_inj.mp (show X.toInt = (1 : Int32).toInt by rw [e1, e2]; rfl)]
      · cases h
  · cases h
theorem qi5_ok {lo : yLo} {v : Nat × Int} (h : qi5 lo v = true) : zas2 lo 3 = some (.inl v) := by
  unfold qi5 at h
  split at h
  · rename_i x hx
    simp only [Bool.and_eq_true, nbq, yeq_iff] at h
    rw [hx, show x = v from Prod.ext h.1 h.2]
  · cases h
theorem yE_app {ρ zs : List Int} {env ex : List yI} (hE : yE ρ env) (hl : ex.length = zs.length) (hx : ∀ (j : Nat) (iv : yI), ex[j]? = some iv → ∃ z, zs[j]? = some z ∧ yM iv z) : yE (ρ ++ zs) (env ++ ex) := by
  refine ⟨by rw [List.length_append, List.length_append, hE.1, hl], yg_more zs hE.2.1, fun j iv hj => ?_⟩
  by_cases hjl : j < env.length
  · rw [List.getElem?_append_left hjl] at hj
    obtain ⟨z, z1, z2⟩ := hE.2.2 _ _ hj
    exact ⟨z, yg_more zs z1, z2⟩
  · rw [List.getElem?_append_right (by omega)] at hj
    obtain ⟨z, z1, z2⟩ := hx _ _ hj
    exact ⟨z, by rw [List.getElem?_append_right (by rw [← hE.1]; omega), ← hE.1]; exact z1, z2⟩
theorem q_exit {T : yT} {N1 N2 n : Nat} {Sg : List qSm} {P : List (Nat × Int × Int)} {md : yMd} {c : qCt} (hSg : ∀ s ∈ Sg, qOK T N1 N2 s) (hh : qhd c = true) (hx : (List.range 5).all (qlx T Sg P n md c) = true) (ys : List Int32) (hL : ys.length ≤ 2560) {ρ : List Int} {st : zSt} {i : Nat} (hi : i ≤ ys.length) (h5 : ys.length < i + 5) (hG : qG T md N1 N2 ρ (c.1, []) st) (h1 : ρ[1]? = some (ys.length : Int)) (h2 : ρ[2]? = some (i : Int)) : ∃ h', zEv (some ys) 20 zm_L_law st (some (.int 1)) h' ∧ h'.length = N1 ∧ zsz h' = N2 := by
  simp only [qhd, Bool.and_eq_true, nbq, List.isEmpty_iff, Nat.ble_eq] at hh
  obtain ⟨⟨⟨⟨p1, p2⟩, p3⟩, p4⟩, p5⟩ := hh
  obtain ⟨⟨g1, g2, g3, g4, g5⟩, g6⟩ := hG
  dsimp only at g1 g2 g3 g4 g5
  rw [p2] at g4
  have hj := List.all_eq_true.mp hx (ys.length - i) (List.mem_range.mpr (by omega))
  unfold qlx at hj
  split at hj
  · rename_i os hos
    obtain ⟨_, _, j3⟩ := q_run T N1 N2 Sg hSg P n _ _ _ _ _ _ _ _ _ hos
    have hlo : yLR ρ ((3, .inl (1, -((ys.length - i : Nat) : Int))) :: c.1.2.2.1) st.2.1 := fun k v hk => by
      simp only [zas2] at hk
      cases hb : Nat.beq 3 k with
      | true =>
        rw [hb] at hk
        simp only [cond_true, Option.some.injEq] at hk
        have e3 := (nbq _ _).mp hb
        subst e3
        subst hk
        obtain ⟨w, w1, w2⟩ := g3 _ _ (qi5_ok p3)
        obtain ⟨X, hw, hX⟩ := yVG_i w2
        refine ⟨w, w1, X, hw, (ys.length : Int), h1, ?_⟩
        obtain ⟨z, z1, z2⟩ := hX
        dsimp only at z1 z2
        rw [h2] at z1
        cases z1
        show X.toInt = (ys.length : Int) + -((ys.length - i : Nat) : Int)
        omega
      | false =>
        rw [hb] at hk
        exact g3 k v hk
    obtain ⟨o, o1, t, o2⟩ := j3 _ List.mem_cons_self ρ st (some ys) (fun xs hxs => by
      cases hxs
      exact ⟨ys, rfl, by omega, i, ⟨_, h2, by show (i : Int) = i + 0; omega⟩, ⟨_, h1, by show (ys.length : Int) = ys.length + 0; omega⟩, fun j v hjv => by simp at hjv⟩) ⟨⟨g1.trans p1, g2, hlo, g4, g5⟩, yFa_n⟩
    have hq := List.all_eq_true.mp hj o o1
    match o, o2, hq with
    | .inl q, o2, hq =>
      obtain ⟨r, h', x1, x2, x3⟩ := o2
      have e := qis1_ok (show qis1 q = true from hq) x3
      subst e
      exact ⟨h', x1, x3.2.2.1.1.1, x3.2.2.1.1.2.1⟩
    | .inr a, _, hq => cases hq
  · cases hj
theorem q_law {T : yT} {N1 N2 n : Nat} {Sg : List qSm} {P : List (Nat × Int × Int)} {md : yMd} {sp : List Nat} {heads : List qCt} (hSg : ∀ s ∈ Sg, qOK T N1 N2 s) (hh : heads.all qhd = true) (hc : heads.all (qlc T Sg P n md sp heads) = true) (hx : heads.all (fun c => (List.range 5).all (qlx T Sg P n md c)) = true) (ys : List Int32) (hL : ys.length ≤ 2560) : ∀ (m : Nat) (c : qCt), c ∈ heads → ∀ (ρ : List Int) (st : zSt) (i : Nat), ys.length - i ≤ m → i ≤ ys.length → qG T md N1 N2 ρ (c.1, []) st → ρ[1]? = some (ys.length : Int) → ρ[2]? = some (i : Int) → ∃ h', zEv (some ys) 20 zm_L_law st (some (.int 1)) h' ∧ h'.length = N1 ∧ zsz h' = N2 := by
  intro m
  induction m with
  | zero =>
    intro c hcm ρ st i hm hi hG h1 h2
    exact q_exit hSg (List.all_eq_true.mp hh c hcm) (List.all_eq_true.mp hx c hcm) ys hL hi (by omega) hG h1 h2
  | succ m ih =>
    intro c hcm ρ st i hm hi hG h1 h2
    by_cases h5 : ys.length < i + 5
    · exact q_exit hSg (List.all_eq_true.mp hh c hcm) (List.all_eq_true.mp hx c hcm) ys hL hi h5 hG h1 h2
    · have hhd := List.all_eq_true.mp hh c hcm
      simp only [qhd, Bool.and_eq_true, nbq, List.isEmpty_iff, Nat.ble_eq] at hhd
      obtain ⟨⟨⟨⟨p1, p2⟩, p3⟩, p4⟩, p5⟩ := hhd
      obtain ⟨⟨g1, g2, g3, g4, g5⟩, g6⟩ := hG
      dsimp only at g1 g2 g3 g4 g5
      rw [p2] at g4
      have hj := List.all_eq_true.mp hc c hcm
      unfold qlc at hj
      split at hj
      · rename_i os hos
        obtain ⟨_, _, j3⟩ := q_run T N1 N2 Sg hSg P n _ _ _ _ _ _ _ _ _ hos
        have hwl : ((List.range 5).map (fun j => (ys.getD (i + j) 0).toInt)).length = 5 := rfl
        have hwg : ∀ j, j < 5 → ((List.range 5).map (fun j => (ys.getD (i + j) 0).toInt))[j]? = some (ys.getD (i + j) 0).toInt := fun j hj => by
          rw [List.getElem?_map, List.getElem?_range hj]; rfl
        have hE2 : yE (ρ ++ (List.range 5).map (fun j => (ys.getD (i + j) 0).toInt)) (c.1.2.1 ++ List.replicate 5 yI32) := by
          refine yE_app g2 rfl (fun j iv hjv => ?_)
          rw [List.getElem?_replicate] at hjv
          split at hjv
          · rename_i hj5
            cases hjv
            exact ⟨_, hwg j hj5, yM_32 _⟩
          · cases hjv
        obtain ⟨o, o1, t, o2⟩ := j3 _ List.mem_cons_self (ρ ++ (List.range 5).map (fun j => (ys.getD (i + j) 0).toInt)) st (some ys) (fun xs hxs => by
          cases hxs
          refine ⟨ys, rfl, by omega, i, ⟨_, yg_more _ h2, by show (i : Int) = i + 0; omega⟩, ⟨_, yg_more _ h1, by show (ys.length : Int) = ys.length + 0; omega⟩, fun j v hjv => ?_⟩
          change (qwin c.1.2.1.length)[j]? = some v at hjv
          unfold qwin at hjv
          rw [List.getElem?_map] at hjv
          have hj5 : j < 5 := by
            rcases Nat.lt_or_ge j 5 with w | w
            · exact w
            · rw [List.getElem?_eq_none (by rw [List.length_range]; exact w)] at hjv; cases hjv
          rw [List.getElem?_range hj5] at hjv
          simp only [Option.map_some, Option.some.injEq] at hjv
          subst hjv
          have hij : i + j < ys.length := by omega
          refine ⟨ys[i + j], List.getElem?_eq_getElem hij, ys[i + j], rfl, (ys[i + j]).toInt, ?_, by show _ = _ + (0 : Int); omega⟩
          show (ρ ++ _)[c.1.2.1.length + j]? = _
          rw [g2.1, List.getElem?_append_right (by omega), show ρ.length + j - ρ.length = j by omega, hwg j hj5, List.getD_eq_getElem?_getD, List.getElem?_eq_getElem hij]
          rfl) ⟨⟨g1.trans p1, hE2, yL_more _ g3, yS_more _ g4, yHG_more _ g5⟩, yFa_n⟩
        have hq := List.all_eq_true.mp hj o o1
        match o, o2, hq with
        | .inl q, o2, hq =>
          obtain ⟨r, h', x1, x2, x3⟩ := o2
          have e := qis1_ok (show qis1 q = true from hq) x3
          subst e
          exact ⟨h', x1, x3.2.2.1.1.1, x3.2.2.1.1.2.1⟩
        | .inr a, o2, hq =>
          obtain ⟨st', ⟨⟨y1, y2, y3, y4, y5⟩, y6⟩, x2, x3⟩ := o2
          simp only [qlo, Bool.and_eq_true] at hq
          obtain ⟨hq5, hq⟩ := hq
          obtain ⟨c', c1, c2⟩ := List.any_eq_true.mp hq
          unfold qtoc at c2
          rw [Bool.and_eq_true] at c2
          obtain ⟨c2, c3⟩ := c2
          have hpc := (nbq _ _).mp c2
          split at c3
          · rename_i g hg
            simp only [Option.bind_eq_some_iff] at hg
            obtain ⟨q1, k1, q2, k2, k3⟩ := hg
            have hv : ∀ q ∈ q1 ++ q2, ∃ v, yVG ((ρ ++ (List.range 5).map (fun j => (ys.getD (i + j) 0).toInt)) ++ t) q.2 v := fun q hm => by
              rcases List.mem_append.mp hm with w | w
              · exact qzl_mem y3 k1 q w
              · exact qzp_mem k2 y4 q w
            have hlen : 2 ≤ ((ρ ++ (List.range 5).map (fun j => (ys.getD (i + j) 0).toInt)) ++ t).length := by
              have := (List.getElem?_eq_some_iff.mp h2).1
              rw [List.length_append, List.length_append]
              omega
            obtain ⟨t2, ρb, m1, m2, m3, m4, m5, m6, m7⟩ := qmt_ok (by omega) hlen y2 y5 y6 hv k3
            have hhd' := List.all_eq_true.mp hh c' c1
            simp only [qhd, Bool.and_eq_true, nbq, List.isEmpty_iff, Nat.ble_eq] at hhd'
            obtain ⟨⟨⟨⟨p1', p2'⟩, p3'⟩, p4'⟩, p5'⟩ := hhd'
            have hG' : qG T md N1 N2 ρb (c'.1, []) st' := by
              refine ⟨⟨by rw [y1]; exact hpc, m3, fun j v hjv => ?_, qzp_F2 k2 (fun q hm v hv => m5 q (List.mem_append_right _ hm) v hv) y4, m6⟩, yFa_n⟩
              obtain ⟨u, u1, u2⟩ := qzl_ok k1 j v hjv
              obtain ⟨w, w1, w2⟩ := y3 _ _ u1
              exact ⟨w, w1, m5 _ (List.mem_append_left _ u2) w w2⟩
            have hb1 : ρb[1]? = some (ys.length : Int) := by
              rw [m4 1 (by omega)]
              exact yg_more _ (yg_more _ h1)
            have hb2 : ρb[2]? = some ((i + 5 : Nat) : Int) := by
              obtain ⟨w, w1, w2⟩ := hG'.1.2.2.1 _ _ (qi5_ok p3')
              obtain ⟨X, hw, z, z1, z2⟩ := yVG_i w2
              obtain ⟨w', w3, w4⟩ := y3 _ _ (qi5_ok hq5)
              obtain ⟨X', hw', z', z3, z4⟩ := yVG_i w4
              rw [w1] at w3
              cases w3
              rw [hw] at hw'
              cases hw'
              dsimp only at z1 z2 z3 z4
              rw [yg_more _ (yg_more _ h2)] at z3
              cases z3
              rw [z1]
              congr 1
              push_cast
              omega
            obtain ⟨h', x4, x5, x6⟩ := ih c' c1 ρb st' (i + 5) (by omega) (by omega) hG' hb1 hb2
            exact ⟨h', x3 _ _ x4, x5, x6⟩
          · cases c3
      · cases hj
