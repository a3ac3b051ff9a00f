/-! the engine is sound: a method whose cuts and ends are checked -/
def qLx : List Nat → List Nat → Prop
  | a :: r, b :: t => a < b ∨ (a = b ∧ qLx r t)
  | _, _ => False
theorem qind : ∀ (m : Nat) (P : List Nat → Prop), (∀ l, l.length = m → (∀ k, k.length = m → qLx k l → P k) → P l) → ∀ l, l.length = m → P l := by
  intro m
  induction m with
  | zero =>
    intro P hs l hl
    have e : l = [] := List.length_eq_zero_iff.mp hl
    subst e
    exact hs [] rfl (fun k _ hk => by cases k <;> exact absurd hk (fun q => q))
  | succ m ih =>
    intro P hs
    have key : ∀ (a : Nat) (t : List Nat), t.length = m → P (a :: t) := by
      intro a
      induction a using Nat.strongRecOn with
      | ind a iha =>
        refine ih (fun t => P (a :: t)) (fun t ht iht => ?_)
        refine hs (a :: t) (by rw [List.length_cons, ht]) (fun k hk hq => ?_)
        cases k with
        | nil => simp at hk
        | cons b r =>
          have hr : r.length = m := by simpa using hk
          rcases hq with q | ⟨q1, q2⟩
          · exact iha b q r hr
          · subst q1
            exact iht r hr q2
    intro l hl
    cases l with
    | nil => simp at hl
    | cons a t => exact key a t (by simpa using hl)
def qrv (ρ : List Int) (rk : yRk) : List Nat := rk.map (fun q => if q.1 = true then ((ρ.getD q.2.2.1 0 + q.2.2.2) - q.2.1).toNat else (q.2.1 - (ρ.getD q.2.2.1 0 + q.2.2.2)).toNat)
theorem qgetD {ρ : List Int} {j : Nat} {z : Int} (h : ρ[j]? = some z) : ρ.getD j 0 = z := by
  rw [List.getD_eq_getElem?_getD, h]; rfl
theorem qrk_ok {md : yMd} {ρ ρb : List Int} {env : List yI} {F : yF} {h : zHp} {s : List (Nat × Int)} (hE : yE ρ env) (hF : yFa md ρ h F) (hs : ySb s ρb ρ) : ∀ {b a : yRk}, qrk env F s b a = true → qLx (qrv ρb b) (qrv ρ a)
  | [], _, hq => by simp [qrk] at hq
  | _ :: _, [], hq => by simp [qrk] at hq
  | (n', K', y) :: r, (n, K, x) :: t, hq => by
    simp only [qrk, ylk_eq] at hq
    split at hq
    · rename_i g ix hg hx
      obtain ⟨z1, g1, g2⟩ := hs.2 _ _ hg
      obtain ⟨z2, g3, g4⟩ := hE.2.2 _ _ hx
      have hX : yX ρ x (z2 + x.2) := ⟨z2, g3, rfl⟩
      obtain ⟨z3, g5, g6⟩ := g2
      have hY : yX ρ (g.1, g.2 + y.2) (z1 + y.2) := ⟨z3, g5, by show _ = z3 + (g.2 + y.2); omega⟩
      have a1 := ylo_le g4
      have a2 := yhi_ge g4
      have e1 := qgetD g1
      have e2 := qgetD g3
      have ih := fun hh => qrk_ok hE hF hs (b := r) (a := t) hh
      show (_ : Nat) < _ ∨ (_ = _ ∧ qLx (qrv ρb r) (qrv ρ t))
      dsimp only
      rw [e1, e2]
      cases n with
      | true =>
        simp only [cond_true, Bool.and_eq_true, Bool.or_eq_true, nbq, yeq_iff, yle_iff] at hq
        obtain ⟨hn, hq⟩ := hq
        subst hn
        simp only [if_true]
        rcases hq with ⟨q1, q2⟩ | ⟨⟨q1, q2⟩, q3⟩
        · have := qge_ok hE hF 6 hX hY q2
          left
          omega
        · right
          rw [q1, g3] at g5
          cases g5
          exact ⟨by congr 1; omega, ih q3⟩
      | false =>
        simp only [cond_false, Bool.and_eq_true, Bool.or_eq_true, nbq, yeq_iff, yle_iff, Bool.not_eq_true'] at hq
        obtain ⟨hn, hq⟩ := hq
        subst hn
        simp only [Bool.false_eq_true, if_false]
        rcases hq with ⟨q1, q2⟩ | ⟨⟨q1, q2⟩, q3⟩
        · have := qge_ok hE hF 6 hY hX q2
          left
          omega
        · right
          rw [q1, g3] at g5
          cases g5
          exact ⟨by congr 1; omega, ih q3⟩
    · cases hq
def qwf (m : Nat) (c : qCt) : Bool := Nat.beq c.2.2.length m && c.2.2.all (fun q => Nat.blt q.2.2.1 c.1.2.1.length)
theorem qrv_more {ρ t : List Int} : ∀ {rk : yRk}, (∀ q ∈ rk, q.2.2.1 < ρ.length) → qrv (ρ ++ t) rk = qrv ρ rk := fun {rk} h => by
  unfold qrv
  refine List.map_congr_left (fun q hq => ?_)
  have e : (ρ ++ t).getD q.2.2.1 0 = ρ.getD q.2.2.1 0 := by
    rw [List.getD_eq_getElem?_getD, List.getD_eq_getElem?_getD, List.getElem?_append_left (h q hq)]
  rw [e]
theorem qzl_ok {lo : yLo} : ∀ {lb : yLo} {prs : List (yV × yV)}, qzl lo lb = some prs → ∀ (k : Nat) (v : yV), zas2 lb k = some v → ∃ u, zas2 lo k = some u ∧ (v, u) ∈ prs
  | [], _, _, k, v, hk => by simp [zas2] at hk
  | (j, p) :: lb, prs, hq, k, v, hk => by
    simp only [qzl, Option.bind_eq_some_iff, Option.some.injEq] at hq
    obtain ⟨u, h1, s, h2, rfl⟩ := hq
    simp only [zas2] at hk
    cases hb : Nat.beq j k with
    | true =>
      rw [hb] at hk
      simp only [cond_true, Option.some.injEq] at hk
      subst hk
      rw [← (nbq j k).mp hb]
      exact ⟨u, h1, List.mem_cons_self⟩
    | false =>
      rw [hb] at hk
      obtain ⟨w, w1, w2⟩ := qzl_ok h2 k v hk
      exact ⟨w, w1, List.mem_cons_of_mem _ w2⟩
theorem qzl_mem {ρ : List Int} {lo : yLo} {l : zLo} (hL : yLR ρ lo l) : ∀ {lb : yLo} {prs : List (yV × yV)}, qzl lo lb = some prs → ∀ q ∈ prs, ∃ v, yVG ρ q.2 v
  | [], prs, hq => by
    simp only [qzl, Option.some.injEq] at hq
    subst hq
    exact fun q hq => absurd hq List.not_mem_nil
  | (j, p) :: lb, prs, hq => by
    simp only [qzl, Option.bind_eq_some_iff, Option.some.injEq] at hq
    obtain ⟨u, h1, s, h2, rfl⟩ := hq
    intro q hm
    rcases List.mem_cons.mp hm with w | w
    · rw [w]
      obtain ⟨v, _, v2⟩ := hL _ _ h1
      exact ⟨v, v2⟩
    · exact qzl_mem hL h2 q w
theorem qag {n0 : Nat} {ρ ρb : List Int} (h1 : n0 ≤ ρ.length) (h2 : n0 ≤ ρb.length) (h : ∀ j, j < n0 → ρb[j]? = ρ[j]?) : ρ.take n0 ++ ρb.drop n0 = ρb := by
  have e : ρ.take n0 = ρb.take n0 := by
    apply List.ext_getElem?
    intro j
    by_cases hj : j < n0
    · rw [List.getElem?_take_of_lt hj, List.getElem?_take_of_lt hj, h j hj]
    · rw [List.getElem?_eq_none (by rw [List.length_take]; omega), List.getElem?_eq_none (by rw [List.length_take]; omega)]
  rw [e, List.take_append_drop]
/-- an outcome that is checked: an end, or a cut further down -/
theorem qto_ok {T : yT} {md : yMd} {N1 N2 n0 d : Nat} {mi : zMi} {cuts : List qCt} {ends : List qQ} {rk : Option yRk} {o : qQ ⊕ qS} {ρ : List Int} {st : zSt} (h0 : 1 ≤ n0) (hn : n0 ≤ ρ.length) (hq : qto T n0 cuts ends rk o = true) (ho : qEnd T md N1 N2 none d mi ρ st o)
    (k : ∀ c ∈ cuts, ∀ (ρb : List Int) (st' : zSt), qG T md N1 N2 ρb (c.1, c.2.1) st' → n0 ≤ ρb.length → (∀ j, j < n0 → ρb[j]? = ρ[j]?) → (∀ a, rk = some a → qLx (qrv ρb c.2.2) (qrv ρ a)) → ∃ r h', zEv none d mi st' r h' ∧ yFr md st'.2.2.2 h' ∧ ∃ e ∈ ends, ∃ t, yQ T md N1 N2 (ρb.take n0 ++ t) e r h') (hrk : ∀ a, rk = some a → ∀ q ∈ a, q.2.2.1 < ρ.length) (hc0 : ∀ c ∈ cuts, n0 ≤ c.1.2.1.length) (he0 : ∀ e ∈ ends, n0 ≤ e.2.1.length) :
    ∃ r h', zEv none d mi st r h' ∧ yFr md st.2.2.2 h' ∧ ∃ e ∈ ends, ∃ t, yQ T md N1 N2 (ρ.take n0 ++ t) e r h' := by
  match o, ho, hq with
  | .inl q, ho, hq =>
    obtain ⟨r, h', x1, x2, x3, x4, x5, x6⟩ := ho
    simp only [qto] at hq
    obtain ⟨e, e1, e2⟩ := List.any_eq_true.mp hq
    unfold qtoo at e2
    split at e2
    · rename_i g hg
      rw [Option.bind_eq_some_iff] at hg
      obtain ⟨prs, g1, g2⟩ := hg
      have hpr : (∀ p ∈ prs, ∃ v, yVG ρ p.2 v) ∧ ∀ ρb, (∀ p ∈ prs, ∀ v, yVG ρ p.2 v → yVG ρb p.1 v) → yOv ρb e.1 r := by
        unfold qzo at g1
        split at g1
        · rename_i q1 q2
          cases g1
          refine ⟨fun p hp => absurd hp List.not_mem_nil, fun ρb _ => ?_⟩
          rw [q2] at x3
          rw [q1]
          cases r with
          | none => exact True.intro
          | some v => exact x3
        · rename_i a b q1 q2
          cases g1
          rw [q2] at x3
          rw [q1]
          cases r with
          | none => exact absurd x3 (fun w => w)
          | some v =>
            have x3' : yVG ρ b v := x3
            refine ⟨fun p hp => ?_, fun ρb hb => hb _ List.mem_cons_self v x3'⟩
            rw [List.mem_singleton.mp hp]
            exact ⟨v, x3'⟩
        · cases g1
      obtain ⟨t, ρb, k1, k2, k3, k4, k5, k6, k7⟩ := qmt_ok h0 hn x4 x5 x6 hpr.1 g2
      have hlb : n0 ≤ ρb.length := by rw [← k3.1]; exact he0 e e1
      exact ⟨r, h', x1, x2, e, e1, ρb.drop n0, by rw [qag hn hlb k4]; exact ⟨hpr.2 ρb k5, k3, k6, k7⟩⟩
    · cases e2
  | .inr a, ho, hq =>
    obtain ⟨st', ⟨⟨y1, y2, y3, y4, y5⟩, y6⟩, x2, x3⟩ := ho
    simp only [qto] at hq
    obtain ⟨c, c1, c2⟩ := List.any_eq_true.mp hq
    unfold qtoc at c2
    rw [Bool.and_eq_true] at c2
    obtain ⟨c2, c3⟩ := c2
    have hpc := (nbq _ _).mp c2
    split at c3
    · rename_i g hg
      simp only [Option.bind_eq_some_iff] at hg
      obtain ⟨p1, g1, p2, g2, g3⟩ := hg
      have hv : ∀ q ∈ p1 ++ p2, ∃ v, yVG ρ q.2 v := fun q hm => by
        rcases List.mem_append.mp hm with w | w
        · exact qzl_mem y3 g1 q w
        · exact qzp_mem g2 y4 q w
      obtain ⟨t, ρb, k1, k2, k3, k4, k5, k6, k7⟩ := qmt_ok h0 hn y2 y5 y6 hv g3
      have hlb : n0 ≤ ρb.length := by rw [← k3.1]; exact hc0 c c1
      have hG : qG T md N1 N2 ρb (c.1, c.2.1) st' := by
        refine ⟨⟨by rw [y1]; exact hpc, k3, fun j v hj => ?_, qzp_F2 g2 (fun q hm v hv => k5 q (List.mem_append_right _ hm) v hv) y4, k6⟩, k7⟩
        obtain ⟨u, u1, u2⟩ := qzl_ok g1 j v hj
        obtain ⟨w, w1, w2⟩ := y3 _ _ u1
        exact ⟨w, w1, k5 _ (List.mem_append_left _ u2) w w2⟩
      obtain ⟨r, h', z1, z2, e, z3, t3, z4⟩ := k c c1 ρb st' hG hlb k4 (fun a ha => by
        rw [ha] at c3
        have hq := qrk_ok k2 (yFa_more t y6) k1 (show qrk g.2 _ g.1 c.2.2 a = true from c3)
        rw [qrv_more (hrk a ha)] at hq
        exact hq)
      refine ⟨r, h', x3 r h' z1, yFr_tr x2 z2, e, z3, t3, ?_⟩
      have e4 : ρb.take n0 = ρ.take n0 := by
        apply List.ext_getElem?
        intro j
        by_cases hj : j < n0
        · rw [List.getElem?_take_of_lt hj, List.getElem?_take_of_lt hj, k4 j hj]
        · rw [List.getElem?_eq_none (by rw [List.length_take]; omega), List.getElem?_eq_none (by rw [List.length_take]; omega)]
      rw [e4] at z4
      exact z4
    · cases c3
def qwl (m n0 : Nat) (c : qCt) : Bool := qwf m c && Nat.ble n0 c.1.2.1.length
theorem qck_ok2 {T : yT} {N1 N2 : Nat} {Sg : List qSm} {P : List (Nat × Int × Int)} {n m : Nat} {sp : List Nat} {cuts g0 : List qCt} {sm : qSm} (hSg : ∀ s ∈ Sg, qOK T N1 N2 s) (hp : Nat.ble 1 sm.2.2.2.1.2.1.length = true) (hg0 : ∀ x ∈ g0, x ∈ cuts) (h0 : qck0 T Sg P n sp g0 sm = true) (h1 : ∀ c ∈ cuts, ∃ g, (∀ x ∈ g, x ∈ cuts) ∧ qck1 T Sg P n sp g sm c = true) (hw : cuts.all (qwl m sm.2.2.2.1.2.1.length) = true) (he : sm.2.2.2.2.all (fun e => Nat.ble sm.2.2.2.1.2.1.length e.2.1.length) = true) : qOK T N1 N2 sm := by
  intro d hd ρ hh vals hE ha hH
  have hp1 : 1 ≤ sm.2.2.2.1.2.1.length := Nat.ble_eq.mp hp
  have hcw : ∀ c ∈ cuts, c.2.2.length = m ∧ (∀ q ∈ c.2.2, q.2.2.1 < c.1.2.1.length) ∧ sm.2.2.2.1.2.1.length ≤ c.1.2.1.length := fun c hc => by
    have := List.all_eq_true.mp hw c hc
    simp only [qwl, qwf, Bool.and_eq_true, nbq, Nat.ble_eq, List.all_eq_true, Nat.blt_eq] at this
    exact ⟨this.1.1, this.1.2, this.2⟩
  have he1 : ∀ e ∈ sm.2.2.2.2, sm.2.2.2.1.2.1.length ≤ e.2.1.length := fun e hm => Nat.ble_eq.mp (List.all_eq_true.mp he e hm)
  unfold qck0 at h0
  split at h0
  · rename_i os hos
    rw [Option.bind_eq_some_iff] at hos
    obtain ⟨mi, hmi, hrun⟩ := hos
    rw [ylk_eq] at hmi
    have hA : ∀ l : List Nat, l.length = m → ∀ c ∈ cuts, ∀ (ρ : List Int) (st : zSt), qG T sm.2.2.1 N1 N2 ρ (c.1, c.2.1) st → qrv ρ c.2.2 = l → sm.2.2.2.1.2.1.length ≤ ρ.length → ∃ r h', zEv none sm.2.1 mi st r h' ∧ yFr sm.2.2.1 st.2.2.2 h' ∧ ∃ e ∈ sm.2.2.2.2, ∃ t, yQ T sm.2.2.1 N1 N2 (ρ.take sm.2.2.2.1.2.1.length ++ t) e r h' := by
      refine qind m _ (fun l hl ih c hc ρ st hG hv hn => ?_)
      obtain ⟨g, hg, hc1⟩ := h1 c hc
      unfold qck1 at hc1
      split at hc1
      · rename_i os2 hos2
        rw [Option.bind_eq_some_iff] at hos2
        obtain ⟨mi2, hmi2, hrun2⟩ := hos2
        rw [ylk_eq, hmi] at hmi2
        cases hmi2
        obtain ⟨_, _, j3⟩ := q_run T N1 N2 Sg hSg P n _ _ _ _ _ _ _ _ _ hrun2
        obtain ⟨o, o1, t, o2⟩ := j3 _ List.mem_cons_self ρ st none (fun xs hx => by cases hx) hG
        have hq := List.all_eq_true.mp hc1 o o1
        have hnt : sm.2.2.2.1.2.1.length ≤ (ρ ++ t).length := by rw [List.length_append]; omega
        have hlr : ∀ q ∈ c.2.2, q.2.2.1 < ρ.length := fun q hm => by rw [← hG.1.2.1.1]; exact (hcw c hc).2.1 q hm
        obtain ⟨r, h', x1, x2, e, x3, t2, x4⟩ := qto_ok (ρ := ρ ++ t) hp1 hnt hq o2 (fun c' hc' ρb st' hG' hlb _ hlx => ih (qrv ρb c'.2.2) (by unfold qrv; rw [List.length_map]; exact (hcw c' (hg c' hc')).1) (by
          have := hlx c.2.2 rfl
          rw [qrv_more hlr, hv] at this
          exact this) c' (hg c' hc') ρb st' hG' rfl hlb) (fun a ha q hm => by
          cases ha
          rw [List.length_append]
          have := hlr q hm
          omega) (fun c' hc' => (hcw c' (hg c' hc')).2.2) he1
        rw [List.take_append_of_le_length hn] at x4
        exact ⟨r, h', x1, x2, e, x3, t2, x4⟩
      · cases hc1
    obtain ⟨_, _, j3⟩ := q_run T N1 N2 Sg hSg P n _ _ _ _ _ _ _ _ _ hrun
    obtain ⟨o, o1, t, o2⟩ := j3 _ List.mem_cons_self ρ (0, lv_args 0 vals, [], hh) none (fun xs hx => by cases hx) ⟨⟨rfl, hE, yags_ok ha, True.intro, hH⟩, yFa_n⟩
    have hq := List.all_eq_true.mp h0 o o1
    have hlen : sm.2.2.2.1.2.1.length = ρ.length := hE.1
    have hnt : sm.2.2.2.1.2.1.length ≤ (ρ ++ t).length := by rw [List.length_append]; omega
    obtain ⟨r, h', x1, x2, e, x3, t2, x4⟩ := qto_ok (ρ := ρ ++ t) hp1 hnt hq o2 (fun c' hc' ρb st' hG' hlb _ _ => hA (qrv ρb c'.2.2) (by unfold qrv; rw [List.length_map]; exact (hcw c' (hg0 c' hc')).1) c' (hg0 c' hc') ρb st' hG' rfl hlb) (fun a ha => by cases ha) (fun c' hc' => (hcw c' (hg0 c' hc')).2.2) he1
    rw [List.take_append_of_le_length (by omega), hlen, List.take_length] at x4
    exact ⟨mi, r, h', hmi, zEv_dp hd x1, x2, e, x3, t2, x4⟩
  · cases h0
theorem qall_n {T : yT} {N1 N2 : Nat} : ∀ s ∈ ([] : List qSm), qOK T N1 N2 s := fun _ h => absurd h List.not_mem_nil
theorem qall_c {T : yT} {N1 N2 : Nat} {a : qSm} {l : List qSm} (h1 : qOK T N1 N2 a) (h2 : ∀ s ∈ l, qOK T N1 N2 s) : ∀ s ∈ a :: l, qOK T N1 N2 s := fun s hs => by
  rcases List.mem_cons.mp hs with q | q
  · rw [q]; exact h1
  · exact h2 s q
theorem qck_ok {T : yT} {N1 N2 : Nat} {Sg : List qSm} {P : List (Nat × Int × Int)} {n m : Nat} {sp : List Nat} {cuts : List qCt} {sm : qSm} (hSg : ∀ s ∈ Sg, qOK T N1 N2 s) (hp : Nat.ble 1 sm.2.2.2.1.2.1.length = true) (h0 : qck0 T Sg P n sp cuts sm = true) (h1 : cuts.all (qck1 T Sg P n sp cuts sm) = true) (hw : cuts.all (qwl m sm.2.2.2.1.2.1.length) = true) (he : sm.2.2.2.2.all (fun e => Nat.ble sm.2.2.2.1.2.1.length e.2.1.length) = true) : qOK T N1 N2 sm := qck_ok2 hSg hp (fun _ h => h) h0 (fun c hc => ⟨cuts, fun _ h => h, List.all_eq_true.mp h1 c hc⟩) hw he
theorem qsb_n {cuts : List qCt} : ∀ x ∈ ([] : List qCt), x ∈ cuts := fun _ h => absurd h List.not_mem_nil
theorem qsb_c {cuts l : List qCt} {a : qCt} {i : Nat} (h : cuts[i]? = some a) (t : ∀ x ∈ l, x ∈ cuts) : ∀ x ∈ a :: l, x ∈ cuts := fun x hx => by
  rcases List.mem_cons.mp hx with q | q
  · rw [q]; exact List.mem_of_getElem? h
  · exact t x q
def qHs (T : yT) (Sg : List qSm) (P : List (Nat × Int × Int)) (n : Nat) (sp : List Nat) (sm : qSm) (cuts l : List qCt) : Prop := ∀ c ∈ l, ∃ g, (∀ x ∈ g, x ∈ cuts) ∧ qck1 T Sg P n sp g sm c = true
theorem qHs_n {T : yT} {Sg : List qSm} {P : List (Nat × Int × Int)} {n : Nat} {sp : List Nat} {sm : qSm} {cuts : List qCt} : qHs T Sg P n sp sm cuts [] := fun _ h => absurd h List.not_mem_nil
theorem qHs_c {T : yT} {Sg : List qSm} {P : List (Nat × Int × Int)} {n : Nat} {sp : List Nat} {sm : qSm} {cuts g l : List qCt} {a : qCt} (hg : ∀ x ∈ g, x ∈ cuts) (h : qck1 T Sg P n sp g sm a = true) (t : qHs T Sg P n sp sm cuts l) : qHs T Sg P n sp sm cuts (a :: l) := fun x hx => by
  rcases List.mem_cons.mp hx with q | q
  · rw [q]; exact ⟨g, hg, h⟩
  · exact t x q
