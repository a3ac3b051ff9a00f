/-! the engine is sound: what is known -/
theorem yg_more {ρ : List Int} {a : Nat} {z : Int} (t : List Int) (h : ρ[a]? = some z) : (ρ ++ t)[a]? = some z := by
  rw [List.getElem?_append_left (List.getElem?_eq_some_iff.mp h).1]; exact h
theorem yX_un {ρ : List Int} {x : Nat × Int} {a b : Int} (h1 : yX ρ x a) (h2 : yX ρ x b) : a = b := by
  obtain ⟨z0, g1, g2⟩ := h1
  obtain ⟨z1, g3, g4⟩ := h2
  rw [g1] at g3
  cases g3
  omega
def yKh (md : yMd) (ρ : List Int) (h : zHp) : yK → Prop
  | .inl g => ∃ za zb, ρ[g.1]? = some za ∧ ρ[g.2.1]? = some zb ∧ zb + g.2.2 ≤ za
  | .inr (.inl g) => ∃ X Y : Int32, yX ρ g.2.1 X.toInt ∧ yX ρ g.2.2 Y.toInt ∧ yX ρ (g.1, 0) (X.toInt - Y.toInt) ∧ (X - Y).toInt = X.toInt - Y.toInt
  | .inr (.inr g) => (∀ i, ymd md g.1 i = false) ∧ ∃ X V : Int32, yX ρ g.2.1 X.toInt ∧ 0 ≤ X.toInt ∧ zplc h g.1 X.toInt.toNat = some (.int V) ∧ yX ρ (g.2.2, 0) V.toInt
def yFa (md : yMd) (ρ : List Int) (h : zHp) (F : yF) : Prop := ∀ f ∈ F, yKh md ρ h f
theorem yKh_more {md : yMd} {ρ : List Int} {h : zHp} (t : List Int) : ∀ {f : yK}, yKh md ρ h f → yKh md (ρ ++ t) h f
  | .inl _, hf => by obtain ⟨za, zb, h1, h2, h3⟩ := hf; exact ⟨za, zb, yg_more t h1, yg_more t h2, h3⟩
  | .inr (.inl _), hf => by obtain ⟨X, Y, h1, h2, h3, h4⟩ := hf; exact ⟨X, Y, yX_more t h1, yX_more t h2, yX_more t h3, h4⟩
  | .inr (.inr _), hf => by obtain ⟨h0, X, V, h1, h2, h3, h4⟩ := hf; exact ⟨h0, X, V, yX_more t h1, h2, h3, yX_more t h4⟩
theorem yFa_more {md : yMd} {ρ : List Int} {h : zHp} {F : yF} (t : List Int) (hF : yFa md ρ h F) : yFa md (ρ ++ t) h F := fun f hf => yKh_more t (hF f hf)
theorem yKh_fr {md : yMd} {ρ : List Int} {h h' : zHp} (hr : yFr md h h') : ∀ {f : yK}, yKh md ρ h f → yKh md ρ h' f
  | .inl _, hf => hf
  | .inr (.inl _), hf => hf
  | .inr (.inr _), hf => by obtain ⟨h0, X, V, h1, h2, h3, h4⟩ := hf; exact ⟨h0, X, V, h1, h2, by rw [hr _ _ (h0 _)]; exact h3, h4⟩
theorem yFa_fr {md : yMd} {ρ : List Int} {h h' : zHp} {F : yF} (hr : yFr md h h') (hF : yFa md ρ h F) : yFa md ρ h' F := fun f hf => yKh_fr hr (hF f hf)
theorem yFa_n {md : yMd} {ρ : List Int} {h : zHp} : yFa md ρ h [] := fun _ hf => absurd hf List.not_mem_nil
theorem yFa_c {md : yMd} {ρ : List Int} {h : zHp} {f : yK} {F : yF} (h1 : yKh md ρ h f) (h2 : yFa md ρ h F) : yFa md ρ h (f :: F) := fun g hg => by
  rcases List.mem_cons.mp hg with q | q
  · rw [q]; exact h1
  · exact h2 g q
def qG (T : yT) (md : yMd) (N1 N2 : Nat) (ρ : List Int) (a : qS) (st : zSt) : Prop := yG T N1 N2 ρ a.1 st ∧ yFa md ρ st.2.2.2 a.2
theorem qge_ok {md : yMd} {ρ : List Int} {env : List yI} {F : yF} {h : zHp} (hE : yE ρ env) (hF : yFa md ρ h F) : ∀ (n : Nat) {x y : Nat × Int} {c X Y : Int}, yX ρ x X → yX ρ y Y → qge env F n x y c = true → Y + c ≤ X := by
  intro n
  induction n with
  | zero => intro x y c X Y _ _ hq; simp [qge] at hq
  | succ n ih =>
    intro x y c X Y hx hy hq
    simp only [qge] at hq
    cases hb : Nat.beq x.1 y.1 with
    | true =>
      rw [hb] at hq
      simp only [cond_true, yle_iff] at hq
      obtain ⟨z0, g1, g2⟩ := hx
      obtain ⟨z1, g3, g4⟩ := hy
      rw [(nbq _ _).mp hb, g3] at g1
      cases g1
      omega
    | false =>
      rw [hb] at hq
      simp only [cond_false, Bool.or_eq_true] at hq
      rcases hq with hq | hq
      · obtain ⟨ix, i1, i2⟩ := yE_get hE hx
        obtain ⟨iy, j1, j2⟩ := yE_get hE hy
        rw [ylk_eq, ylk_eq, i1, j1] at hq
        simp only [yle_iff] at hq
        have := ylo_le i2
        have := yhi_ge j2
        omega
      · obtain ⟨f, f1, f2⟩ := List.any_eq_true.mp hq
        match f, f1, f2 with
        | .inl g, f1, f2 =>
          simp only [Bool.and_eq_true, nbq] at f2
          obtain ⟨za, zb, k1, k2, k3⟩ := hF _ f1
          obtain ⟨z0, g1, g2⟩ := hx
          rw [f2.1, g1] at k1
          cases k1
          have := ih (x := (g.2.1, x.2 + g.2.2)) (X := zb + (x.2 + g.2.2)) ⟨zb, k2, rfl⟩ hy f2.2
          omega
        | .inr _, _, f2 => simp at f2
theorem qnr_ok {md : yMd} {ρ : List Int} {h : zHp} : ∀ {F : yF} {env : List yI}, yE ρ env → yFa md ρ h F → ∃ e, qnr F env = some e ∧ yE ρ e
  | [], env, hE, _ => ⟨env, rfl, hE⟩
  | .inl _ :: F, env, hE, hF => by
    simp only [qnr]
    exact qnr_ok hE (fun f hf => hF f (List.mem_cons_of_mem _ hf))
  | .inr (.inr _) :: F, env, hE, hF => by
    simp only [qnr]
    exact qnr_ok hE (fun f hf => hF f (List.mem_cons_of_mem _ hf))
  | .inr (.inl (d, x, y)) :: F, env, hE, hF => by
    have hF2 : yFa md ρ h F := fun f hf => hF f (List.mem_cons_of_mem _ hf)
    obtain ⟨X, Y, h1, h2, h3, h4⟩ := hF _ List.mem_cons_self
    dsimp only at h1 h2 h3
    simp only [qnr]
    obtain ⟨ix, i1, i2⟩ := yE_get hE h1
    obtain ⟨iv, j1, j2⟩ := yE_get hE h3
    dsimp only at j1 j2
    rw [ylk_eq, ylk_eq, i1, j1]
    dsimp only
    obtain ⟨z0, g1, g2⟩ := h2
    have a1 := ylo_le i2
    have a2 := yhi_ge i2
    have a3 := ylo_le j2
    have a4 := yhi_ge j2
    obtain ⟨e, e1, e2⟩ := yrf_ok hE g1 (f := fun jv => yge (ylo ix + x.2 - yhi iv - y.2) (yls (yhi ix + x.2 - ylo iv - y.2) jv)) (fun jv hj => yge_ok (by omega) (yls_ok (by omega) hj))
    rw [e1, Option.bind_some]
    exact qnr_ok e2 hF2
theorem qsts_ok {T : yT} {md : yMd} {N1 N2 : Nat} {ρ : List Int} {F : yF} {st : zSt} {a : yS} (hG : yG T N1 N2 ρ a st) (hF : yFa md ρ st.2.2.2 F) : ∀ {sts : List yS}, a ∈ sts → ∃ b ∈ qsts F sts, qG T md N1 N2 ρ b.2 st
  | b :: sts, hm => by
    simp only [qsts]
    rcases List.mem_cons.mp hm with q | q
    · subst q
      obtain ⟨h1, h2, h3, h4, h5⟩ := hG
      obtain ⟨e, e1, e2⟩ := qnr_ok h2 hF
      refine ⟨(false, (a.1, e, a.2.2.1, a.2.2.2.1, a.2.2.2.2), F), List.mem_append_left _ ?_, ⟨h1, e2, h3, h4, h5⟩, hF⟩
      unfold qst1
      rw [e1]
      exact List.mem_cons_self
    · obtain ⟨b1, m1, m2⟩ := qsts_ok hG hF q
      exact ⟨b1, List.mem_append_right _ m1, m2⟩
theorem qdl_ok {x y : Nat × Int} {d : Nat} : ∀ {F : yF}, qdl x y F = some d → .inr (.inl (d, x, y)) ∈ F
  | [], h => by simp [qdl] at h
  | .inl _ :: F, h => List.mem_cons_of_mem _ (qdl_ok (F := F) (by simpa only [qdl] using h))
  | .inr (.inr _) :: F, h => List.mem_cons_of_mem _ (qdl_ok (F := F) (by simpa only [qdl] using h))
  | .inr (.inl (e, a, b)) :: F, h => by
    simp only [qdl] at h
    cases hb : (Nat.beq a.1 x.1 && yeq a.2 x.2 && Nat.beq b.1 y.1 && yeq b.2 y.2) with
    | true =>
      rw [hb] at h
      simp only [cond_true, Option.some.injEq] at h
      simp only [Bool.and_eq_true, nbq, yeq_iff] at hb
      have e1 : a = x := Prod.ext hb.1.1.1 hb.1.1.2
      have e2 : b = y := Prod.ext hb.1.2 hb.2
      rw [h, e1, e2]
      exact List.mem_cons_self
    | false =>
      rw [hb] at h
      exact List.mem_cons_of_mem _ (qdl_ok h)
theorem qgl_ok {x y : Nat} {c : Int} : ∀ {F : yF}, qgl x y F = some c → .inl (x, y, c) ∈ F
  | [], h => by simp [qgl] at h
  | .inr _ :: F, h => List.mem_cons_of_mem _ (qgl_ok (F := F) (by simpa only [qgl] using h))
  | .inl (a, b, e) :: F, h => by
    simp only [qgl] at h
    cases hb : (Nat.beq a x && Nat.beq b y) with
    | true =>
      rw [hb] at h
      simp only [cond_true, Option.some.injEq] at h
      simp only [Bool.and_eq_true, nbq] at hb
      rw [h, hb.1, hb.2]
      exact List.mem_cons_self
    | false =>
      rw [hb] at h
      exact List.mem_cons_of_mem _ (qgl_ok h)
theorem qrl_ok {a : Nat} {x : Nat × Int} {s : Nat} : ∀ {F : yF}, qrl a x F = some s → .inr (.inr (a, x, s)) ∈ F
  | [], h => by simp [qrl] at h
  | .inl _ :: F, h => List.mem_cons_of_mem _ (qrl_ok (F := F) (by simpa only [qrl] using h))
  | .inr (.inl _) :: F, h => List.mem_cons_of_mem _ (qrl_ok (F := F) (by simpa only [qrl] using h))
  | .inr (.inr (k, y, e)) :: F, h => by
    simp only [qrl] at h
    cases hb : (Nat.beq k a && Nat.beq y.1 x.1 && yeq y.2 x.2) with
    | true =>
      rw [hb] at h
      simp only [cond_true, Option.some.injEq] at h
      simp only [Bool.and_eq_true, nbq, yeq_iff] at hb
      have e1 : y = x := Prod.ext hb.1.2 hb.2
      rw [h, e1, hb.1.1]
      exact List.mem_cons_self
    | false =>
      rw [hb] at h
      exact List.mem_cons_of_mem _ (qrl_ok h)
theorem qtg_ok {ρ : List Int} {e : List yI} {n : Nat} {z : Int} (hE : yE ρ e) (hn : ρ[n]? = some z) : ∀ {o : Option Int}, (∀ g, o = some g → g ≤ z) → yE ρ (qtg e n o)
  | none, _ => hE
  | some g, hg => by
    unfold qtg
    dsimp only
    obtain ⟨e1, h1, h2⟩ := yrf_ok hE hn (f := yge g) (fun iv q => yge_ok (hg g rfl) q)
    rw [h1]
    exact h2
theorem qsb_ok {md : yMd} {ρ : List Int} {env : List yI} {F : yF} {h : zHp} (hE : yE ρ env) (hF : yFa md ρ h F) {x y : Nat × Int} {X Y : Int32} (hx : yX ρ x X.toInt) (hy : yX ρ y Y.toInt) {v : (Nat × Int) × List yI × yF} (hv : qsb env F x y = some v) : ∃ t, yE (ρ ++ t) v.2.1 ∧ yX (ρ ++ t) v.1 (X - Y).toInt ∧ yFa md (ρ ++ t) h v.2.2 := by
  unfold qsb at hv
  cases hd : qdl x y F with
  | some d =>
    rw [hd] at hv
    cases hv
    obtain ⟨X', Y', k1, k2, k3, k4⟩ := hF _ (qdl_ok hd)
    dsimp only at k1 k2 k3
    have eX : X' = X := Int32.toInt_inj.mp (yX_un k1 hx)
    have eY : Y' = Y := Int32.toInt_inj.mp (yX_un k2 hy)
    rw [eX, eY] at k3 k4
    exact ⟨[], by rw [List.append_nil]; exact hE, by rw [List.append_nil, k4]; exact k3, by rw [List.append_nil]; exact hF⟩
  | none =>
    rw [hd] at hv
    simp only [Option.bind_eq_some_iff] at hv
    obtain ⟨⟨w1, w2⟩, hs, hv⟩ := hv
    obtain ⟨t, g1, g2⟩ := ysu_ok hE hx hy hs
    dsimp only at hv
    cases hc : (Nat.beq w1.1 env.length && yeq w1.2 0 && !(Nat.beq x.1 y.1) && qrg env x y) with
    | false =>
      rw [hc] at hv
      cases hv
      exact ⟨t, g1, g2, yFa_more t hF⟩
    | true =>
      rw [hc] at hv
      cases hv
      simp only [Bool.and_eq_true, nbq, yeq_iff] at hc
      obtain ⟨⟨⟨c1, c2⟩, _⟩, c4⟩ := hc
      have hs2 : (X - Y).toInt = X.toInt - Y.toInt := by
        obtain ⟨ix, i1, i2⟩ := yE_get hE hx
        obtain ⟨iy, j1, j2⟩ := yE_get hE hy
        unfold qrg at c4
        rw [ylk_eq, ylk_eq, i1, j1] at c4
        simp only [Bool.and_eq_true, yle_iff] at c4
        have a1 := ylo_le i2
        have a2 := yhi_ge i2
        have a3 := ylo_le j2
        have a4 := yhi_ge j2
        exact Jvm.Kit.i32_sub (by omega) (by omega)
      have hw : w1 = (env.length, 0) := Prod.ext c1 c2
      rw [hw] at g2
      refine ⟨t, ?_, by rw [hw]; exact g2, yFa_c ⟨X, Y, yX_more t hx, yX_more t hy, ?_, hs2⟩ (yFa_more t hF)⟩
      · obtain ⟨z0, k1, k2⟩ := g2
        dsimp only at k1 k2
        refine qtg_ok g1 k1 (fun g hg => ?_)
        cases hl : qgl x.1 y.1 F with
        | none => rw [hl] at hg; cases hg
        | some c =>
          rw [hl] at hg
          simp only [Option.map_some, Option.some.injEq] at hg
          obtain ⟨za, zb, m1, m2, m3⟩ := hF _ (qgl_ok hl)
          dsimp only at m1 m2 m3
          obtain ⟨z1, n1, n2⟩ := hx
          obtain ⟨z2, n3, n4⟩ := hy
          rw [m1] at n1
          rw [m2] at n3
          cases n1
          cases n3
          omega
      · dsimp only
        rw [← hs2, hw]
        exact g2
theorem ymk_ok {k : Nat} : ∀ {md : yMd}, ymk md k = true → ∀ i, ymd md k i = false
  | [], _, _ => rfl
  | (a, b, c) :: r, h, i => by
    simp only [ymk, Bool.and_eq_true, Bool.not_eq_true'] at h
    simp only [ymd, h.1, Bool.false_and, cond_false]
    exact ymk_ok h.2 i
section QHK
variable {T : yT} {md : yMd} {N1 N2 : Nat} {ρ : List Int} {sc : Option (List Int32)} {scA : ySc} {mi : zMi} {len pc : Nat} {env : List yI} {lo : yLo} {sk : List yV} {h : yH} {st : zSt} {F : yF}
theorem qic1_ok {cd : Jvm.ClassFile.Cond} {x y : Nat × Int} {X Y : Int32} {t : Nat} {r : List yV} {l0 : zLo} {r0 : List Value} {hh : zHp} (hE : yE ρ env) (hL : yLR ρ lo l0) (hU : zF2 (yVG ρ) r r0) (hH : yHG T N1 N2 ρ h hh) (hF : yFa md ρ hh F) (hx : yX ρ x X.toInt) (hy : yX ρ y Y.toInt) (hq : zcd cd X Y = true) : ∃ b ∈ qic1 env F cd x y t lo r h, qG T md N1 N2 ρ b.2 (t, l0, r0, hh) := by
  unfold qic1
  obtain ⟨e1, g1, g2⟩ := ycd_ok hE hx hy cd hq
  obtain ⟨e2, g3, g4⟩ := qnr_ok g2 hF
  rw [g1, Option.bind_some, g3]
  dsimp only
  have key : ∀ (u v : Nat × Int) (c U V : Int), yX ρ u U → yX ρ v V → V + c ≤ U → qcf cd x y = some (u, v, c) → ∃ b ∈ (match qcf cd x y with
    | none => [(false, (t, e2, lo, r, h), F)]
    | some g => bif qge env F 6 g.2.1 g.1 (1 - g.2.2) then [] else [(false, (t, e2, lo, r, h), (.inl (g.1.1, g.2.1.1, g.2.2 + g.2.1.2 - g.1.2) : yK) :: F)]), qG T md N1 N2 ρ b.2 (t, l0, r0, hh) := by
    intro u v c U V hu hv hc hg
    rw [hg]
    dsimp only
    cases hn : qge env F 6 v u (1 - c) with
    | true =>
      have := qge_ok hE hF 6 hv hu hn
      omega
    | false =>
      refine ⟨_, List.mem_cons_self, ⟨rfl, g4, hL, hU, hH⟩, yFa_c ?_ hF⟩
      obtain ⟨z0, m1, m2⟩ := hu
      obtain ⟨z1, m3, m4⟩ := hv
      exact ⟨z0, z1, m1, m3, by show z1 + (c + v.2 - u.2) ≤ z0; omega⟩
  cases cd with
  | eq => exact ⟨_, List.mem_cons_self, ⟨rfl, g4, hL, hU, hH⟩, hF⟩
  | ne => exact ⟨_, List.mem_cons_self, ⟨rfl, g4, hL, hU, hH⟩, hF⟩
  | lt => exact key y x 1 _ _ hy hx (by have := Int32.lt_iff_toInt_lt.mp (of_decide_eq_true (show decide (X < Y) = true from hq)); omega) rfl
  | ge => exact key x y 0 _ _ hx hy (by have := Int32.le_iff_toInt_le.mp (of_decide_eq_true (show decide (Y ≤ X) = true from hq)); omega) rfl
  | gt => exact key x y 1 _ _ hx hy (by have := Int32.lt_iff_toInt_lt.mp (of_decide_eq_true (show decide (Y < X) = true from hq)); omega) rfl
  | le => exact key y x 0 _ _ hy hx (by have := Int32.le_iff_toInt_le.mp (of_decide_eq_true (show decide (X ≤ Y) = true from hq)); omega) rfl
theorem qlp_ok {o : Option (List yI)} {no : Bool} {g : yF} {t : Nat} {v : Int} {V : Int32} {r : List yV} {l0 : zLo} {r0 : List Value} {hh : zHp} (ho : ∃ e, o = some e ∧ yE ρ e) (hn : no = true → False) (hg : yFa md ρ hh g) (hV : V.toInt = v) (hE : yE ρ env) (hL : yLR ρ lo l0) (hU : zF2 (yVG ρ) r r0) (hH : yHG T N1 N2 ρ h hh) (hF : yFa md ρ hh F) : ∃ b ∈ qlp env F o no g t lo v r h, qG T md N1 N2 ρ b.2 (t, l0, .int V :: r0, hh) := by
  unfold qlp
  cases no with
  | true => exact absurd (hn rfl) (fun q => q)
  | false =>
    obtain ⟨e1, rfl, g2⟩ := ho
    obtain ⟨e2, g3, g4⟩ := qnr_ok g2 hF
    simp only [cond_false, Option.bind_some]
    rw [g3]
    refine ⟨_, List.mem_cons_self, ⟨rfl, g4, hL, zF2_c (yVG_mi (by rw [hV]; exact yX_0 g4 v)) hU, hH⟩, fun f hf => ?_⟩
    rcases List.mem_append.mp hf with w | w
    · exact hg f w
    · exact hF f w
theorem qrh_ok {x : Nat × Int} {a : Nat} {r : List yV} {f : (Nat ⊕ Nat) → Bool} {l : List (Bool × qS)} {l0 : zLo} {r0 : List Value} {hh : zHp} {X : Int32} (hE : yE ρ env) (hL : yLR ρ lo l0) (hU : zF2 (yVG ρ) r r0) (hH : yHG T N1 N2 ρ h hh) (hF : yFa md ρ hh F) (hx : yX ρ x X.toInt) (hz : qrh md len pc env lo h F x a r (qkd T a f) = some l) : len = 1 ∧ ∃ c vs V, hh[a]? = some (c, vs) ∧ f c = true ∧ zix X vs.length = true ∧ vs[X.toNatClampNeg]? = some (.int V) ∧ ∃ b ∈ l, qG T md N1 N2 ρ b.2 (pc + 1, l0, .int V :: r0, hh) := by
  unfold qrh at hz
  cases hc : (Nat.beq len 1 && ymk md a && qkd T a f) with
  | false => rw [hc] at hz; cases hz
  | true =>
    rw [hc] at hz
    simp only [cond_true] at hz
    simp only [Bool.and_eq_true, nbq] at hc
    obtain ⟨⟨c1, c2⟩, c3⟩ := hc
    split at hz
    · rename_i s hs
      cases hz
      obtain ⟨_, X', V, k1, k2, k3, k4⟩ := hF _ (qrl_ok hs)
      dsimp only at k1 k3 k4
      have eX : X' = X := Int32.toInt_inj.mp (yX_un k1 hx)
      rw [eX] at k2 k3
      unfold qkd at c3
      cases hk : yki T a with
      | none => rw [hk] at c3; cases c3
      | some c =>
        rw [hk] at c3
        obtain ⟨vs, g1, g2, g3⟩ := hH.1.2.2 _ _ hk
        unfold zplc at k3
        rw [g1, Option.bind_some] at k3
        dsimp only at k3
        have hlt : X.toInt.toNat < vs.length := (List.getElem?_eq_some_iff.mp k3).1
        exact ⟨c1, c.1, vs, V, g1, c3, yix_ok k2 hlt, k3, _, List.mem_cons_self, ⟨rfl, hE, hL, zF2_c (yVG_mi k4) hU, hH⟩, hF⟩
    · cases hz
theorem qhk_ok {ins : Instr} {l : List (Bool × qS)} (hG : yG T N1 N2 ρ (pc, env, lo, sk, h) st) (hF : yFa md ρ st.2.2.2 F) (hz : qhk T md ins len pc env lo sk h F = some l) : ∃ st', zst sc mi ins len st.1 st.2.1 st.2.2.1 st.2.2.2 = some (.inl st') ∧ st'.2.2.2 = st.2.2.2 ∧ ∃ b ∈ l, ∃ t, qG T md N1 N2 (ρ ++ t) b.2 st' := by
  obtain ⟨pc0, lo0, sk0, hh⟩ := st
  obtain ⟨hpc, hE, hL, hS, hH⟩ := hG
  dsimp only at hpc hE hL hS hH hF ⊢
  subst hpc
  unfold qhk at hz
  split at hz
  · rename_i y x r
    cases hb : Nat.beq len 1 with
    | false => rw [hb] at hz; cases hz
    | true =>
      rw [hb] at hz
      simp only [cond_true, Option.bind_eq_some_iff, Option.some.injEq] at hz
      obtain ⟨v, hv, rfl⟩ := hz
      have hl := (nbq _ _).mp hb
      subst hl
      obtain ⟨Y, t, hst, hY, hU⟩ := ySi hS
      subst hst
      obtain ⟨X, t, hst, hX, hV⟩ := ySi hU
      subst hst
      obtain ⟨t0, k1, k2, k3⟩ := qsb_ok hE hF hX hY hv
      refine ⟨(pc0 + 1, lo0, .int (X - Y) :: t, hh), by simp only [zst, zg_self, Option.bind_some, zb2], rfl, _, List.mem_cons_self, t0, ⟨rfl, k1, yL_more t0 hL, zF2_c (yVG_mi k2) (yS_more t0 hV), yHG_more t0 hH⟩, k3⟩
  · rename_i cd off y x r
    cases hb : (Nat.beq len 3 && !(Nat.beq x.1 y.1) && !(Nat.beq x.1 0) && !(Nat.beq y.1 0)) with
    | false => rw [hb] at hz; cases hz
    | true =>
      rw [hb] at hz
      simp only [cond_true, Option.bind_eq_some_iff, Option.some.injEq] at hz
      obtain ⟨t, h3, rfl⟩ := hz
      simp only [Bool.and_eq_true, nbq] at hb
      have hl := hb.1.1.1
      subst hl
      obtain ⟨Y, t1, hst, hY, hU⟩ := ySi hS
      subst hst
      obtain ⟨X, t2, hst, hX, hV⟩ := ySi hU
      subst hst
      by_cases hq : zcd cd X Y = true
      · obtain ⟨b, b1, b2⟩ := qic1_ok (t := t) hE hL hV hH hF hX hY hq
        exact ⟨(t, lo0, t2, hh), by simp only [zst, zg_self, zpi, h3, Option.bind_some, if_pos hq], rfl, b, List.mem_append_left _ b1, [], by rw [List.append_nil]; exact b2⟩
      · obtain ⟨b, b1, b2⟩ := qic1_ok (t := pc0 + 3) hE hL hV hH hF hX hY (yng_ok cd hq)
        exact ⟨(pc0 + 3, lo0, t2, hh), by simp only [zst, zg_self, zpi, h3, Option.bind_some, if_neg hq], rfl, b, List.mem_append_right _ b1, [], by rw [List.append_nil]; exact b2⟩
  · rename_i y x r
    cases hb : (Nat.beq len 1 && !(Nat.beq x.1 y.1) && !(Nat.beq x.1 0) && !(Nat.beq y.1 0)) with
    | false => rw [hb] at hz; cases hz
    | true =>
      rw [hb] at hz
      simp only [cond_true, Option.some.injEq] at hz
      subst hz
      simp only [Bool.and_eq_true, nbq] at hb
      have hl := hb.1.1.1
      subst hl
      obtain ⟨Y, t1, hst, hY, hU⟩ := ySl hS
      subst hst
      obtain ⟨X, t2, hst, hX, hV⟩ := ySl hU
      subst hst
      have hX' := hX
      have hY' := hY
      obtain ⟨zx, x1, x2⟩ := hX'
      obtain ⟨zy, y1, y2⟩ := hY'
      have hzz : zst sc mi .lcmp 1 pc0 lo0 (.long Y :: .long X :: t2) hh = some (.inl (pc0 + 1, lo0, .int (lg_cmp X Y) :: t2, hh)) := by simp only [zst, zg_self, zpl, Option.bind_some]
      refine ⟨(pc0 + 1, lo0, .int (lg_cmp X Y) :: t2, hh), hzz, rfl, ?_⟩
      have fin : ∀ {l' : List (Bool × qS)}, (∃ b ∈ l', qG T md N1 N2 ρ b.2 (pc0 + 1, lo0, .int (lg_cmp X Y) :: t2, hh)) → ∃ b ∈ l', ∃ t, qG T md N1 N2 (ρ ++ t) b.2 (pc0 + 1, lo0, .int (lg_cmp X Y) :: t2, hh) := fun ⟨b, b1, b2⟩ => ⟨b, b1, [], by rw [List.append_nil]; exact b2⟩
      apply fin
      rcases Int.lt_trichotomy X.toInt Y.toInt with q | q | q
      · have hc : lg_cmp X Y = -1 := by
          unfold lg_cmp
          rw [if_neg (by rw [gt_iff_lt, Int64.lt_iff_toInt_lt]; omega), if_neg (fun w => by rw [w] at q; omega)]
        obtain ⟨b, b1, b2⟩ := qlp_ok (no := qge env F 6 x y 0) (t := pc0 + 1) (v := -1) (V := lg_cmp X Y) (g := [.inl (y.1, x.1, 1 + x.2 - y.2)]) (yLT_ok hE hX hY q) (fun w => by have := qge_ok hE hF 6 hX hY w; omega) (yFa_c ⟨zy, zx, y1, x1, by show zx + (1 + x.2 - y.2) ≤ zy; omega⟩ yFa_n) (by rw [hc]; rfl) hE hL hV hH hF
        exact ⟨b, List.mem_append_left _ b1, b2⟩
      · have hc : lg_cmp X Y = 0 := by
          unfold lg_cmp
          rw [if_neg (by rw [gt_iff_lt, Int64.lt_iff_toInt_lt]; omega), if_pos (Int64.toInt_inj.mp q)]
        obtain ⟨b, b1, b2⟩ := qlp_ok (no := qge env F 6 x y 1 || qge env F 6 y x 1) (t := pc0 + 1) (v := 0) (V := lg_cmp X Y) (g := [.inl (x.1, y.1, y.2 - x.2), .inl (y.1, x.1, x.2 - y.2)]) (yEQ_ok hE hX hY q) (fun w => by
          rw [Bool.or_eq_true] at w
          rcases w with w | w
          · have := qge_ok hE hF 6 hX hY w; omega
          · have := qge_ok hE hF 6 hY hX w; omega) (yFa_c ⟨zx, zy, x1, y1, by show zy + (y.2 - x.2) ≤ zx; omega⟩ (yFa_c ⟨zy, zx, y1, x1, by show zx + (x.2 - y.2) ≤ zy; omega⟩ yFa_n)) (by rw [hc]; rfl) hE hL hV hH hF
        exact ⟨b, List.mem_append_right _ (List.mem_append_left _ b1), b2⟩
      · have hc : lg_cmp X Y = 1 := by
          unfold lg_cmp
          rw [if_pos (by rw [gt_iff_lt, Int64.lt_iff_toInt_lt]; omega)]
        obtain ⟨b, b1, b2⟩ := qlp_ok (no := qge env F 6 y x 0) (t := pc0 + 1) (v := 1) (V := lg_cmp X Y) (g := [.inl (x.1, y.1, 1 + y.2 - x.2)]) (yLT_ok hE hY hX q) (fun w => by have := qge_ok hE hF 6 hY hX w; omega) (yFa_c ⟨zx, zy, x1, y1, by show zy + (1 + y.2 - x.2) ≤ zx; omega⟩ yFa_n) (by rw [hc]; rfl) hE hL hV hH hF
        exact ⟨b, List.mem_append_right _ (List.mem_append_right _ b1), b2⟩
  · rename_i x a r
    obtain ⟨X, t1, hst, hX, hU⟩ := ySi hS
    subst hst
    obtain ⟨t2, hst, hV⟩ := ySw hU
    subst hst
    obtain ⟨hl, c, vs, V, g1, g2, g3, g4, b, b1, b2⟩ := qrh_ok hE hL hV hH hF hX hz
    subst hl
    rw [yisi_eq g2] at g1
    exact ⟨(pc0 + 1, lo0, .int V :: t2, hh), by simp only [zst, zg_self, zpi, g1, Option.bind_some, decide_true, Bool.true_and, zgb_true g3, g4], rfl, b, b1, [], by rw [List.append_nil]; exact b2⟩
  · rename_i x a r
    obtain ⟨X, t1, hst, hX, hU⟩ := ySi hS
    subst hst
    obtain ⟨t2, hst, hV⟩ := ySw hU
    subst hst
    obtain ⟨hl, c, vs, V, g1, g2, g3, g4, b, b1, b2⟩ := qrh_ok hE hL hV hH hF hX hz
    subst hl
    rw [Bool.or_eq_true] at g2
    have hix : ((decide (c = Sum.inl 1) || decide (c = Sum.inl 2)) && zix X vs.length) = true := by
      rw [g3, Bool.and_true, Bool.or_eq_true, decide_eq_true_eq, decide_eq_true_eq]
      exact g2.imp yisi_eq yisi_eq
    exact ⟨(pc0 + 1, lo0, .int V :: t2, hh), by simp only [zst, zg_self, zpi, g1, Option.bind_some, zgb_true hix, g4], rfl, b, b1, [], by rw [List.append_nil]; exact b2⟩
  · cases hz
theorem qmm1 {x : Nat × Int} {a : Nat} {r : List yV} {sts : List yS} {c : (Nat ⊕ Nat) × Nat} {b : yS} (hn : yc1 env x = none) (hz : yrw T c.2 pc env lo h a r x = some (.inl sts)) (hb : b ∈ sts) : b.2.2.2.1 = .inl (env.length, 0) :: r := by
  unfold yrw at hz
  rw [hn] at hz
  dsimp only at hz
  split at hz
  · simp only [Option.bind_eq_some_iff] at hz
    obtain ⟨_, _, hz⟩ := hz
    split at hz
    · simp only [yN, Option.some.injEq, Sum.inl.injEq] at hz
      subst hz
      rw [List.mem_singleton.mp hb]
    · cases hz
  · cases hz
theorem qmm_ok {ins : Instr} {sts : List yS} {b : yS} {st' : zSt} {t : List Int} (hG : yG T N1 N2 ρ (pc, env, lo, sk, h) st) (hz : yst T md scA mi ins len pc env lo sk h = some (.inl sts)) (hs : zst sc mi ins len st.1 st.2.1 st.2.2.1 st.2.2.2 = some (.inl st')) (hb : b ∈ sts) (hG' : yG T N1 N2 (ρ ++ t) b st') (hF : yFa md (ρ ++ t) st'.2.2.2 F) : yFa md (ρ ++ t) st'.2.2.2 (qmm md ins env sk F) := by
  obtain ⟨pc0, lo0, sk0, hh⟩ := st
  obtain ⟨hpc, hE, hL, hS, hH⟩ := hG
  dsimp only at hpc hE hL hS hH hs
  subst hpc
  unfold qmm
  split
  · rename_i x a r
    cases hc : ((yc1 env x).isNone && ymk md a) with
    | false => exact hF
    | true =>
      simp only [Bool.and_eq_true, Option.isNone_iff_eq_none] at hc
      obtain ⟨X, t1, hst, hX, hU⟩ := ySi hS
      subst hst
      obtain ⟨t2, hst, hV⟩ := ySw hU
      subst hst
      simp only [yst, ypi, Option.bind_eq_some_iff, Option.some.injEq] at hz
      obtain ⟨_, h1, q, rfl, hz⟩ := hz
      dsimp only at hz
      simp only [Option.bind_eq_some_iff] at hz
      obtain ⟨c, h4, _, h5, hz⟩ := hz
      have hk := qmm1 hc.1 hz hb
      have hS' := hG'.2.2.2.1
      rw [hk] at hS'
      obtain ⟨V, t3, e1, e2, _⟩ := ySi hS'
      simp only [zst, zpi, Option.bind_eq_some_iff, Option.some.injEq, Sum.inl.injEq] at hs
      obtain ⟨_, _, q, rfl, hs⟩ := hs
      dsimp only at hs
      simp only [zN, Option.bind_eq_some_iff, Option.some.injEq, Sum.inl.injEq] at hs
      obtain ⟨cc, k1, _, k2, v, k3, rfl⟩ := hs
      dsimp only at e1 k2 k3
      have ev : v = .int V := (List.cons.inj e1).1
      have k4 := zgb_some k2
      simp only [Bool.and_eq_true, zix, Bool.not_eq_true', decide_eq_false_iff_not, decide_eq_true_eq] at k4
      have h0 : 0 ≤ X.toInt := by
        have := k4.2.1
        rcases Int.lt_or_le X.toInt 0 with q | q
        · exact absurd (Int32.lt_iff_toInt_lt.mpr (show X.toInt < (0 : Int32).toInt from q)) this
        · exact q
      exact yFa_c ⟨ymk_ok hc.2, X, V, yX_more t hX, h0, by rw [← ev]; exact zplc_of k1 k3, e2⟩ hF
  · rename_i x a r
    cases hc : ((yc1 env x).isNone && ymk md a) with
    | false => exact hF
    | true =>
      simp only [Bool.and_eq_true, Option.isNone_iff_eq_none] at hc
      obtain ⟨X, t1, hst, hX, hU⟩ := ySi hS
      subst hst
      obtain ⟨t2, hst, hV⟩ := ySw hU
      subst hst
      simp only [yst, ypi, Option.bind_eq_some_iff, Option.some.injEq] at hz
      obtain ⟨_, h1, q, rfl, hz⟩ := hz
      dsimp only at hz
      simp only [Option.bind_eq_some_iff] at hz
      obtain ⟨c, h4, _, h5, hz⟩ := hz
      have hk := qmm1 hc.1 hz hb
      have hS' := hG'.2.2.2.1
      rw [hk] at hS'
      obtain ⟨V, t3, e1, e2, _⟩ := ySi hS'
      simp only [zst, zpi, Option.bind_eq_some_iff, Option.some.injEq, Sum.inl.injEq] at hs
      obtain ⟨_, _, q, rfl, hs⟩ := hs
      dsimp only at hs
      simp only [zN, Option.bind_eq_some_iff, Option.some.injEq, Sum.inl.injEq] at hs
      obtain ⟨cc, k1, _, k2, v, k3, rfl⟩ := hs
      dsimp only at e1 k2 k3
      have ev : v = .int V := (List.cons.inj e1).1
      have k4 := zgb_some k2
      simp only [Bool.and_eq_true, zix, Bool.not_eq_true', decide_eq_false_iff_not, decide_eq_true_eq] at k4
      have h0 : 0 ≤ X.toInt := by
        have := k4.2.1
        rcases Int.lt_or_le X.toInt 0 with q | q
        · exact absurd (Int32.lt_iff_toInt_lt.mpr (show X.toInt < (0 : Int32).toInt from q)) this
        · exact q
      exact yFa_c ⟨ymk_ok hc.2, X, V, yX_more t hX, h0, by rw [← ev]; exact zplc_of k1 k3, e2⟩ hF
  · exact hF
end QHK
