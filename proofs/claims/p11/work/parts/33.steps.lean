/-! the abstract run, second version, is sound: a step -/
def yVG (ρ : List Int) (a : yV) (v : Value) : Prop := match a with
  | .inl x => ∃ X : Int32, v = .int X ∧ yX ρ x X.toInt
  | .inr (.inl x) => ∃ X : Int64, v = .long X ∧ yX ρ x X.toInt
  | .inr (.inr w) => v = w
theorem yVG_i {ρ : List Int} {x : Nat × Int} {v : Value} (h : yVG ρ (.inl x) v) : ∃ X : Int32, v = .int X ∧ yX ρ x X.toInt := h
theorem yVG_l {ρ : List Int} {x : Nat × Int} {v : Value} (h : yVG ρ (.inr (.inl x)) v) : ∃ X : Int64, v = .long X ∧ yX ρ x X.toInt := h
theorem yVG_w {ρ : List Int} {w v : Value} (h : yVG ρ (.inr (.inr w)) v) : v = w := h
theorem yVG_mi {ρ : List Int} {x : Nat × Int} {X : Int32} (h : yX ρ x X.toInt) : yVG ρ (.inl x) (.int X) := ⟨X, rfl, h⟩
theorem yVG_ml {ρ : List Int} {x : Nat × Int} {X : Int64} (h : yX ρ x X.toInt) : yVG ρ (.inr (.inl x)) (.long X) := ⟨X, rfl, h⟩
theorem yVG_mw {ρ : List Int} (w : Value) : yVG ρ (.inr (.inr w)) w := (rfl : w = w)
theorem yVG_more {ρ : List Int} {a : yV} {v : Value} (t : List Int) (h : yVG ρ a v) : yVG (ρ ++ t) a v := by
  match a, h with
  | .inl x, h => obtain ⟨X, h1, h2⟩ := yVG_i h; exact ⟨X, h1, yX_more t h2⟩
  | .inr (.inl x), h => obtain ⟨X, h1, h2⟩ := yVG_l h; exact ⟨X, h1, yX_more t h2⟩
  | .inr (.inr w), h => exact h
theorem yVG_cat {ρ : List Int} {a : yV} {v : Value} (h : yVG ρ a v) : v.category = yct a := by
  match a, h with
  | .inl x, h => obtain ⟨X, h1, h2⟩ := yVG_i h; rw [h1]; rfl
  | .inr (.inl x), h => obtain ⟨X, h1, h2⟩ := yVG_l h; rw [h1]; rfl
  | .inr (.inr w), h => rw [yVG_w h]; rfl
def yLR (ρ : List Int) (lo : yLo) (l : zLo) : Prop := ∀ (k : Nat) (v : yV), zas2 lo k = some v → ∃ w, zas2 l k = some w ∧ yVG ρ v w
def yDf (T : yT) (k i : Nat) (v : Value) : Prop := match ydf T k i with
  | some (.inl iv) => ∃ X : Int32, v = .int X ∧ yM iv X.toInt
  | some (.inr w) => v = w
  | none => True
def zplc (h : zHp) (k i : Nat) : Option Value := (h[k]?).bind fun c => c.2[i]?
/-- every place holds what it may -/
def yTp (T : yT) (N1 N2 : Nat) (h : zHp) : Prop := h.length = N1 ∧ zsz h = N2 ∧ ∀ (k : Nat) (x : (Nat ⊕ Nat) × Nat), yki T k = some x → ∃ vs, h[k]? = some (x.1, vs) ∧ vs.length = x.2 ∧ ∀ (i : Nat) (v : Value), vs[i]? = some v → yDf T k i v
def yOd (ρ : List Int) (hp : yH) (h : zHp) : Prop := ∀ e ∈ hp, ∃ v, zplc h e.1.1 e.1.2 = some v ∧ yVG ρ e.2 v
def yHG (T : yT) (N1 N2 : Nat) (ρ : List Int) (hp : yH) (h : zHp) : Prop := yTp T N1 N2 h ∧ yOd ρ hp h
def yFr (md : yMd) (h h' : zHp) : Prop := ∀ (k i : Nat), ymd md k i = false → zplc h' k i = zplc h k i
theorem yFr_rf {md : yMd} {h : zHp} : yFr md h h := fun _ _ _ => rfl
theorem yFr_tr {md : yMd} {a b c : zHp} (h1 : yFr md a b) (h2 : yFr md b c) : yFr md a c := fun k i q => (h2 k i q).trans (h1 k i q)
def yG (T : yT) (N1 N2 : Nat) (ρ : List Int) (a : yS) (st : zSt) : Prop := st.1 = a.1 ∧ yE ρ a.2.1 ∧ yLR ρ a.2.2.1 st.2.1 ∧ zF2 (yVG ρ) a.2.2.2.1 st.2.2.1 ∧ yHG T N1 N2 ρ a.2.2.2.2 st.2.2.2
def yCv (T : yT) (N1 N2 : Nat) (ρ : List Int) (sts : List yS) (st : zSt) : Prop := ∃ a ∈ sts, ∃ t, yG T N1 N2 (ρ ++ t) a st
def yRs (T : yT) (md : yMd) (N1 N2 : Nat) (ρ : List Int) (sc : Option (List Int32)) (mi : zMi) (ins : Instr) (len : Nat) (sts : List yS) (st : zSt) : Prop := (∃ st', zst sc mi ins len st.1 st.2.1 st.2.2.1 st.2.2.2 = some (.inl st') ∧ yCv T N1 N2 ρ sts st' ∧ yFr md st.2.2.2 st'.2.2.2) ∨ (ins = .aaload ∧ yCv T N1 N2 ρ sts st)
def yScr (ρ : List Int) (scA : ySc) (sc : Option (List Int32)) : Prop := ∀ xs, scA = some xs → ∃ ys, sc = some ys ∧ ys.length < 2 ^ 31 ∧ ∃ i : Nat, yX ρ (xs.1, 0) (i : Int) ∧ yX ρ (xs.2.1, 0) (ys.length : Int) ∧ ∀ (j : Nat) (v : yV), xs.2.2[j]? = some v → ∃ y, ys[i + j]? = some y ∧ yVG ρ v (.int y)
theorem yScr_more {ρ : List Int} {scA : ySc} {sc : Option (List Int32)} (t : List Int) (h : yScr ρ scA sc) : yScr (ρ ++ t) scA sc := fun xs hx => by
  obtain ⟨ys, h1, h2, i, h3, h4, h5⟩ := h xs hx
  refine ⟨ys, h1, h2, i, yX_more t h3, yX_more t h4, fun j v hj => ?_⟩
  obtain ⟨y, h6, h7⟩ := h5 j v hj
  exact ⟨y, h6, yVG_more t h7⟩
theorem ygb_some {c : Bool} {u : Unit} (h : ygb c = some u) : c = true := by
  unfold ygb at h
  cases c with
  | true => rfl
  | false => cases h
theorem zg_self (n : Nat) : zg n n = some () := by unfold zg; rw [if_pos rfl]
theorem zgb_true {c : Bool} (h : c = true) : zgb c = some () := by unfold zgb; rw [if_pos h]
theorem nbb (a b : Nat) : Nat.beq a b = (a == b) := by rw [Bool.eq_iff_iff, nbq]; simp
theorem yOd_more {ρ : List Int} {hp : yH} {h : zHp} (t : List Int) (hh : yOd ρ hp h) : yOd (ρ ++ t) hp h := fun e he => by
  obtain ⟨v, h1, h2⟩ := hh e he
  exact ⟨v, h1, yVG_more t h2⟩
theorem yHG_more {T : yT} {N1 N2 : Nat} {ρ : List Int} {hp : yH} {h : zHp} (t : List Int) (hh : yHG T N1 N2 ρ hp h) : yHG T N1 N2 (ρ ++ t) hp h := ⟨hh.1, yOd_more t hh.2⟩
theorem yL_more {ρ : List Int} {lo : yLo} {l : zLo} (t : List Int) (h : yLR ρ lo l) : yLR (ρ ++ t) lo l := fun k v hk => by
  obtain ⟨w, h1, h2⟩ := h k v hk
  exact ⟨w, h1, yVG_more t h2⟩
theorem yS_more {ρ : List Int} {sk : List yV} {l : List Value} (t : List Int) (h : zF2 (yVG ρ) sk l) : zF2 (yVG (ρ ++ t)) sk l := zF2_mono (fun _ _ q => yVG_more t q) h
theorem yas2_ok {ρ : List Int} {k : Nat} {v : yV} {lo : yLo} {l : zLo} (h : yLR ρ lo l) (hk : zas2 lo k = some v) : ∃ w, zas2 l k = some w ∧ yVG ρ v w := h k v hk
theorem ydr_as (j : Nat) : ∀ (l : yLo) (k : Nat), zas2 (ydr l j) k = if k = j then none else zas2 l k
  | [], k => by simp [ydr, zas2]
  | (a, v) :: r, k => by
    have ih := ydr_as j r k
    unfold ydr at ih ⊢
    rw [List.filter_cons]
    by_cases hj : a = j
    · rw [(nbq a j).mpr hj]
      simp only [Bool.not_true, Bool.false_eq_true, if_false]
      rw [ih]
      by_cases hk : k = j
      · rw [if_pos hk, if_pos hk]
      · rw [if_neg hk, if_neg hk]
        have : Nat.beq a k = false := by
          cases hb : Nat.beq a k with
          | false => rfl
          | true => exact absurd (((nbq a k).mp hb).symm.trans hj) hk
        simp only [zas2, this, cond_false]
    · have : Nat.beq a j = false := by
        cases hb : Nat.beq a j with
        | false => rfl
        | true => exact absurd ((nbq a j).mp hb) hj
      rw [this]
      simp only [Bool.not_false, if_true, zas2]
      cases hb : Nat.beq a k with
      | true =>
        have := (nbq a k).mp hb
        simp only [cond_true]
        rw [if_neg (fun q => hj (this.trans q))]
      | false =>
        simp only [cond_false]
        exact ih
theorem zflt_as {p : Nat × Value → Bool} {k : Nat} {w : Value} (hp : p (k, w) = true) : ∀ {l : zLo}, zas2 l k = some w → zas2 (l.filter p) k = some w
  | [], h => by simp [zas2] at h
  | (a, v) :: r, h => by
    simp only [zas2] at h
    rw [List.filter_cons]
    cases hb : Nat.beq a k with
    | true =>
      rw [hb] at h
      simp only [cond_true, Option.some.injEq] at h
      have ha := (nbq a k).mp hb
      subst ha
      subst h
      rw [if_pos hp]
      simp only [zas2, hb, cond_true]
    | false =>
      rw [hb] at h
      simp only [cond_false] at h
      have ih := zflt_as hp h
      by_cases hq : p (a, v) = true
      · rw [if_pos hq]
        simp only [zas2, hb, cond_false]
        exact ih
      · rw [if_neg hq]
        exact ih
theorem yl1_ok {ρ : List Int} {lo : yLo} {k : Nat} {u : yV} {w : Value} (hk : zas2 lo k = some u) (hv : yVG ρ u w) (h : yl1 lo (k + 1) = false) : w.category ≠ 2 := fun q => by
  simp only [yl1, hk] at h
  rw [← yVG_cat hv, q] at h
  cases h
theorem yL_s1 {ρ : List Int} {lo : yLo} {l : zLo} (i : Nat) {a : yV} {v : Value} (hv : yVG ρ a v) (h : yLR ρ lo l) : yLR ρ (ys1 lo i a) (zs1 l i v) := fun k u hk => by
  unfold ys1 at hk
  unfold zs1
  simp only [zas2] at hk ⊢
  cases hb : Nat.beq i k with
  | true =>
    rw [hb] at hk
    simp only [cond_true, Option.some.injEq] at hk ⊢
    subst hk
    exact ⟨v, rfl, hv⟩
  | false =>
    rw [hb] at hk
    simp only [cond_false] at hk ⊢
    have hik : ¬ i = k := fun q => by rw [(nbq i k).mpr q] at hb; cases hb
    have key : zas2 lo k = some u ∧ (yl1 lo i = true → k ≠ i - 1) := by
      cases hl : yl1 lo i with
      | true =>
        rw [hl] at hk
        simp only [cond_true] at hk
        rw [ydr_as, ydr_as] at hk
        split at hk
        · cases hk
        · rename_i h1
          split at hk
          · cases hk
          · exact ⟨hk, fun _ => h1⟩
      | false =>
        rw [hl] at hk
        simp only [cond_false] at hk
        rw [ydr_as] at hk
        split at hk
        · cases hk
        · exact ⟨hk, fun q => by cases q⟩
    obtain ⟨w, h1, h2⟩ := h k u key.1
    refine ⟨w, zflt_as ?_ h1, h2⟩
    simp only [Bool.and_eq_true, Bool.not_eq_true', beq_eq_false_iff_ne, ne_eq, Bool.and_eq_false_iff]
    refine ⟨fun q => hik q.symm, ?_⟩
    by_cases hk1 : k + 1 = i
    · right
      subst hk1
      cases hl : yl1 lo (k + 1) with
      | true => exact absurd rfl (key.2 hl)
      | false => exact yl1_ok key.1 h2 hl
    · exact Or.inl hk1
theorem yL_s2 {ρ : List Int} {lo : yLo} {l : zLo} (i : Nat) {a : yV} {v : Value} (hv : yVG ρ a v) (h : yLR ρ lo l) : yLR ρ (ys2 lo i a) (zs2 l i v) := fun k u hk => by
  unfold ys2 at hk
  unfold zs2
  simp only [zas2] at hk ⊢
  cases hb : Nat.beq i k with
  | true =>
    rw [hb] at hk
    simp only [cond_true, Option.some.injEq] at hk ⊢
    subst hk
    exact ⟨v, rfl, hv⟩
  | false =>
    rw [hb] at hk
    simp only [cond_false] at hk ⊢
    have hik : ¬ i = k := fun q => by rw [(nbq i k).mpr q] at hb; cases hb
    have key : zas2 lo k = some u ∧ k ≠ i + 1 ∧ (yl1 lo i = true → k ≠ i - 1) := by
      cases hl : yl1 lo i with
      | true =>
        rw [hl] at hk
        simp only [cond_true] at hk
        rw [ydr_as, ydr_as, ydr_as] at hk
        split at hk
        · cases hk
        · rename_i h1
          split at hk
          · cases hk
          · rename_i h2
            split at hk
            · cases hk
            · exact ⟨hk, h2, fun _ => h1⟩
      | false =>
        rw [hl] at hk
        simp only [cond_false] at hk
        rw [ydr_as, ydr_as] at hk
        split at hk
        · cases hk
        · rename_i h2
          split at hk
          · cases hk
          · exact ⟨hk, h2, fun q => by cases q⟩
    obtain ⟨w, h1, h2⟩ := h k u key.1
    refine ⟨w, zflt_as ?_ h1, h2⟩
    simp only [Bool.and_eq_true, Bool.not_eq_true', beq_eq_false_iff_ne, ne_eq, Bool.and_eq_false_iff]
    refine ⟨fun q => hik q.symm, key.2.1, ?_⟩
    by_cases hk1 : k + 1 = i
    · right
      subst hk1
      cases hl : yl1 lo (k + 1) with
      | true => exact absurd rfl (key.2.2 hl)
      | false => exact yl1_ok key.1 h2 hl
    · exact Or.inl hk1
theorem ypi_some {l : List yV} {q : (Nat × Int) × List yV} (h : ypi l = some q) : l = .inl q.1 :: q.2 := by
  unfold ypi at h
  split at h
  · cases h; rfl
  · cases h
theorem ypl_some {l : List yV} {q : (Nat × Int) × List yV} (h : ypl l = some q) : l = .inr (.inl q.1) :: q.2 := by
  unfold ypl at h
  split at h
  · cases h; rfl
  · cases h
theorem ypr_some {l : List yV} {q : Nat × List yV} (h : ypr l = some q) : l = .inr (.inr (.ref q.1)) :: q.2 := by
  unfold ypr at h
  split at h
  · cases h; rfl
  · cases h
theorem yp1_some {l : List yV} {q : yV × List yV} (h : yp1 l = some q) : l = q.1 :: q.2 ∧ yct q.1 = 1 := by
  unfold yp1 at h
  split at h
  · rename_i v r
    cases hb : Nat.beq (yct v) 1 with
    | true => rw [hb] at h; cases h; exact ⟨rfl, (nbq _ _).mp hb⟩
    | false => rw [hb] at h; cases h
  · cases h
theorem ySi {ρ : List Int} {x : Nat × Int} {r : List yV} {l : List Value} (h : zF2 (yVG ρ) (.inl x :: r) l) : ∃ X t, l = .int X :: t ∧ yX ρ x X.toInt ∧ zF2 (yVG ρ) r t := by
  obtain ⟨w, t, rfl, h1, h2⟩ := zF2_u h
  obtain ⟨X, rfl, h3⟩ := yVG_i h1
  exact ⟨X, t, rfl, h3, h2⟩
theorem ySl {ρ : List Int} {x : Nat × Int} {r : List yV} {l : List Value} (h : zF2 (yVG ρ) (.inr (.inl x) :: r) l) : ∃ X t, l = .long X :: t ∧ yX ρ x X.toInt ∧ zF2 (yVG ρ) r t := by
  obtain ⟨w, t, rfl, h1, h2⟩ := zF2_u h
  obtain ⟨X, rfl, h3⟩ := yVG_l h1
  exact ⟨X, t, rfl, h3, h2⟩
theorem ypx_some {l : List yV} {q : Nat × List yV} (h : ypx l = some q) : l = .inr (.inr (.retAddr q.1)) :: q.2 := by
  unfold ypx at h
  split at h
  · cases h; rfl
  · cases h
theorem ySw {ρ : List Int} {w : Value} {r : List yV} {l : List Value} (h : zF2 (yVG ρ) (.inr (.inr w) :: r) l) : ∃ t, l = w :: t ∧ zF2 (yVG ρ) r t := by
  obtain ⟨v, t, rfl, h1, h2⟩ := zF2_u h
  exact ⟨t, by rw [yVG_w h1], h2⟩
theorem yiso_eq {k : Nat ⊕ Nat} {t : Nat} (h : yiso k t = true) : k = .inr t := by
  unfold yiso at h
  split at h
  · rw [(nbq _ _).mp h]
  · cases h
theorem yisi_eq {k : Nat ⊕ Nat} {t : Nat} (h : yisi k t = true) : k = .inl t := by
  unfold yisi at h
  split at h
  · rw [(nbq _ _).mp h]
  · cases h
theorem y32 {n : Int} (h1 : -2 ^ 31 ≤ n) (h2 : n < 2 ^ 31) : (Int32.ofInt n).toInt = n := Int32.toInt_ofInt_of_le h1 h2
theorem y16 {n : Int} (h1 : -2 ^ 15 ≤ n) (h2 : n < 2 ^ 15) : (Int16.ofInt n).toInt32.toInt = n := by rw [Int16.toInt_toInt32]; exact Int16.toInt_ofInt_of_le h1 h2
theorem y8 {n : Int} (h1 : -2 ^ 7 ≤ n) (h2 : n < 2 ^ 7) : (Int8.ofInt n).toInt32.toInt = n := by rw [Int8.toInt_toInt32]; exact Int8.toInt_ofInt_of_le h1 h2
theorem ycl {X : Int32} (h : 0 ≤ X.toInt) : X.toNatClampNeg = X.toInt.toNat := rfl
theorem op_i2c {X : Int32} (h1 : 0 ≤ X.toInt) (h2 : X.toInt ≤ 65535) : (X.toUInt32 % 65536).toInt32 = X := by
  obtain ⟨i, hi, eX, tX⟩ := op_nn h1
  have hi2 : i < 65536 := by omega
  rw [eX]
  apply Int32.toBitVec_inj.mp
  apply BitVec.eq_of_toNat_eq
  show ((nI i).toUInt32 % 65536).toNat = (BitVec.ofNat 32 i).toNat
  rw [UInt32.toNat_mod]
  have e : (nI i).toUInt32.toNat = i := by
    show (BitVec.ofNat 32 i).toNat = i
    rw [BitVec.toNat_ofNat]
    omega
  rw [e, BitVec.toNat_ofNat]
  show i % 65536 = i % 2 ^ 32
  omega
section YST
variable {T : yT} {N1 N2 : Nat} {ρ : List Int} {sc : Option (List Int32)} {scA : ySc} {md : yMd} {mi : zMi} {len pc : Nat} {env : List yI} {lo : yLo} {sk : List yV} {h : yH} {st : zSt} {sts : List yS}
theorem yCv_one {a : yS} (hg : yG T N1 N2 ρ a st) : yCv T N1 N2 ρ [a] st := ⟨a, List.mem_cons_self, [], by rw [List.append_nil]; exact hg⟩
theorem yCv_t {a : yS} {t : List Int} (hg : yG T N1 N2 (ρ ++ t) a st) : yCv T N1 N2 ρ [a] st := ⟨a, List.mem_cons_self, t, hg⟩
theorem yCv_al {a b : List yS} (hg : yCv T N1 N2 ρ a st) : yCv T N1 N2 ρ (a ++ b) st := by
  obtain ⟨x, h1, h2⟩ := hg
  exact ⟨x, List.mem_append_left _ h1, h2⟩
theorem yCv_ar {a b : List yS} (hg : yCv T N1 N2 ρ b st) : yCv T N1 N2 ρ (a ++ b) st := by
  obtain ⟨x, h1, h2⟩ := hg
  exact ⟨x, List.mem_append_right _ h1, h2⟩
theorem yCv_op {o : Option (List yI)} (ho : ∃ e, o = some e ∧ yE ρ e) (h1 : st.1 = pc) (hL : yLR ρ lo st.2.1) (hS : zF2 (yVG ρ) sk st.2.2.1) (hH : yHG T N1 N2 ρ h st.2.2.2) : yCv T N1 N2 ρ (yop o pc lo sk h) st := by
  obtain ⟨e, rfl, hE⟩ := ho
  exact yCv_one ⟨h1, hE, hL, hS, hH⟩

theorem yi_iconst {n : Int} (hG : yG T N1 N2 ρ (pc, env, lo, sk, h) st) (hz : yst T md scA mi (.iconst n) len pc env lo sk h = some (.inl sts)) : yRs T md N1 N2 ρ sc mi (.iconst n) len sts st := by
  simp only [yst, yN, yzk_eq, Option.bind_eq_some_iff, Option.some.injEq, Sum.inl.injEq] at hz
  obtain ⟨_, h1, rfl⟩ := hz
  have hb := ygb_some h1
  simp only [Bool.and_eq_true, nbq, yle_iff, Nat.blt_eq] at hb
  obtain ⟨⟨hb, h3⟩, h4⟩ := hb
  subst hb
  obtain ⟨pc0, lo0, sk0, hh⟩ := st
  obtain ⟨hpc, hE, hL, hS, hH⟩ := hG
  dsimp only at hpc hE hL hS hH
  subst hpc
  exact Or.inl ⟨_, by simp only [zst, zg_self, Option.bind_some]; rfl, yCv_one ⟨rfl, hE, hL, zF2_c (yVG_mi (by rw [y32 (n := n) (by omega) (by omega)]; exact yX_0 hE n)) hS, hH⟩, by exact yFr_rf⟩
theorem yi_bipush {n : Int} (hG : yG T N1 N2 ρ (pc, env, lo, sk, h) st) (hz : yst T md scA mi (.bipush n) len pc env lo sk h = some (.inl sts)) : yRs T md N1 N2 ρ sc mi (.bipush n) len sts st := by
  simp only [yst, yN, yzk_eq, Option.bind_eq_some_iff, Option.some.injEq, Sum.inl.injEq] at hz
  obtain ⟨_, h1, rfl⟩ := hz
  have hb := ygb_some h1
  simp only [Bool.and_eq_true, nbq, yle_iff, Nat.blt_eq] at hb
  obtain ⟨⟨hb, h3⟩, h4⟩ := hb
  subst hb
  obtain ⟨pc0, lo0, sk0, hh⟩ := st
  obtain ⟨hpc, hE, hL, hS, hH⟩ := hG
  dsimp only at hpc hE hL hS hH
  subst hpc
  exact Or.inl ⟨_, by simp only [zst, zg_self, Option.bind_some]; rfl, yCv_one ⟨rfl, hE, hL, zF2_c (yVG_mi (by rw [y8 (n := n) (by omega) (by omega)]; exact yX_0 hE n)) hS, hH⟩, by exact yFr_rf⟩
theorem yi_sipush {n : Int} (hG : yG T N1 N2 ρ (pc, env, lo, sk, h) st) (hz : yst T md scA mi (.sipush n) len pc env lo sk h = some (.inl sts)) : yRs T md N1 N2 ρ sc mi (.sipush n) len sts st := by
  simp only [yst, yN, yzk_eq, Option.bind_eq_some_iff, Option.some.injEq, Sum.inl.injEq] at hz
  obtain ⟨_, h1, rfl⟩ := hz
  have hb := ygb_some h1
  simp only [Bool.and_eq_true, nbq, yle_iff, Nat.blt_eq] at hb
  obtain ⟨⟨hb, h3⟩, h4⟩ := hb
  subst hb
  obtain ⟨pc0, lo0, sk0, hh⟩ := st
  obtain ⟨hpc, hE, hL, hS, hH⟩ := hG
  dsimp only at hpc hE hL hS hH
  subst hpc
  exact Or.inl ⟨_, by simp only [zst, zg_self, Option.bind_some]; rfl, yCv_one ⟨rfl, hE, hL, zF2_c (yVG_mi (by rw [y16 (n := n) (by omega) (by omega)]; exact yX_0 hE n)) hS, hH⟩, by exact yFr_rf⟩
theorem yi_lconst {n : Fin 2} (hG : yG T N1 N2 ρ (pc, env, lo, sk, h) st) (hz : yst T md scA mi (.lconst n) len pc env lo sk h = some (.inl sts)) : yRs T md N1 N2 ρ sc mi (.lconst n) len sts st := by
  simp only [yst, yN, yzk_eq, Option.bind_eq_some_iff, Option.some.injEq, Sum.inl.injEq] at hz
  obtain ⟨_, h1, rfl⟩ := hz
  have hb := ygb_some h1
  simp only [nbq] at hb
  subst hb
  obtain ⟨pc0, lo0, sk0, hh⟩ := st
  obtain ⟨hpc, hE, hL, hS, hH⟩ := hG
  dsimp only at hpc hE hL hS hH
  subst hpc
  exact Or.inl ⟨_, by simp only [zst, zg_self, Option.bind_some]; rfl, yCv_one ⟨rfl, hE, hL, zF2_c (yVG_ml (yX_0 hE _)) hS, hH⟩, by exact yFr_rf⟩
theorem yi_ldc_w {i : Nat} (hG : yG T N1 N2 ρ (pc, env, lo, sk, h) st) (hz : yst T md scA mi (.ldc_w i) len pc env lo sk h = some (.inl sts)) : yRs T md N1 N2 ρ sc mi (.ldc_w i) len sts st := by
  simp only [yst, yN, yzk_eq, Option.bind_eq_some_iff, Option.some.injEq, Sum.inl.injEq] at hz
  obtain ⟨_, h1, q, h2, rfl⟩ := hz
  have hb := ygb_some h1
  simp only [nbq] at hb
  subst hb
  obtain ⟨pc0, lo0, sk0, hh⟩ := st
  obtain ⟨hpc, hE, hL, hS, hH⟩ := hG
  dsimp only at hpc hE hL hS hH
  subst hpc
  exact Or.inl ⟨_, by simp only [zst, zg_self, h2, Option.bind_some]; rfl, yCv_one ⟨rfl, hE, hL, zF2_c (yVG_mi (yX_0 hE _)) hS, hH⟩, by exact yFr_rf⟩
theorem yi_ldc2_w {i : Nat} (hG : yG T N1 N2 ρ (pc, env, lo, sk, h) st) (hz : yst T md scA mi (.ldc2_w i) len pc env lo sk h = some (.inl sts)) : yRs T md N1 N2 ρ sc mi (.ldc2_w i) len sts st := by
  simp only [yst, yN, yzk_eq, Option.bind_eq_some_iff, Option.some.injEq, Sum.inl.injEq] at hz
  obtain ⟨_, h1, q, h2, rfl⟩ := hz
  have hb := ygb_some h1
  simp only [nbq] at hb
  subst hb
  obtain ⟨pc0, lo0, sk0, hh⟩ := st
  obtain ⟨hpc, hE, hL, hS, hH⟩ := hG
  dsimp only at hpc hE hL hS hH
  subst hpc
  exact Or.inl ⟨_, by simp only [zst, zg_self, h2, Option.bind_some]; rfl, yCv_one ⟨rfl, hE, hL, zF2_c (yVG_ml (yX_0 hE _)) hS, hH⟩, by exact yFr_rf⟩
theorem yi_iload_n {k : Fin 4} (hG : yG T N1 N2 ρ (pc, env, lo, sk, h) st) (hz : yst T md scA mi (.iload_n k) len pc env lo sk h = some (.inl sts)) : yRs T md N1 N2 ρ sc mi (.iload_n k) len sts st := by
  simp only [yst, yN, yzk_eq, Option.bind_eq_some_iff, Option.some.injEq, Sum.inl.injEq] at hz
  obtain ⟨_, h1, v, h2, q, h3, rfl⟩ := hz
  have hb := ygb_some h1
  simp only [nbq] at hb
  subst hb
  have h4 := ypi_some h3
  obtain ⟨rfl, -⟩ := List.cons.inj h4
  obtain ⟨pc0, lo0, sk0, hh⟩ := st
  obtain ⟨hpc, hE, hL, hS, hH⟩ := hG
  dsimp only at hpc hE hL hS hH
  subst hpc
  obtain ⟨w, h5, h6⟩ := yas2_ok hL h2
  obtain ⟨X, rfl, h7⟩ := yVG_i h6
  exact Or.inl ⟨_, by simp only [zst, zg_self, h5, Option.bind_some]; rfl, yCv_one ⟨rfl, hE, hL, zF2_c (yVG_mi h7) hS, hH⟩, by exact yFr_rf⟩
theorem yi_iload {k : Nat} (hG : yG T N1 N2 ρ (pc, env, lo, sk, h) st) (hz : yst T md scA mi (.iload k) len pc env lo sk h = some (.inl sts)) : yRs T md N1 N2 ρ sc mi (.iload k) len sts st := by
  simp only [yst, yN, yzk_eq, Option.bind_eq_some_iff, Option.some.injEq, Sum.inl.injEq] at hz
  obtain ⟨_, h1, v, h2, q, h3, rfl⟩ := hz
  have hb := ygb_some h1
  simp only [nbq] at hb
  subst hb
  have h4 := ypi_some h3
  obtain ⟨rfl, -⟩ := List.cons.inj h4
  obtain ⟨pc0, lo0, sk0, hh⟩ := st
  obtain ⟨hpc, hE, hL, hS, hH⟩ := hG
  dsimp only at hpc hE hL hS hH
  subst hpc
  obtain ⟨w, h5, h6⟩ := yas2_ok hL h2
  obtain ⟨X, rfl, h7⟩ := yVG_i h6
  exact Or.inl ⟨_, by simp only [zst, zg_self, h5, Option.bind_some]; rfl, yCv_one ⟨rfl, hE, hL, zF2_c (yVG_mi h7) hS, hH⟩, by exact yFr_rf⟩
theorem yi_lload_n {k : Fin 4} (hG : yG T N1 N2 ρ (pc, env, lo, sk, h) st) (hz : yst T md scA mi (.lload_n k) len pc env lo sk h = some (.inl sts)) : yRs T md N1 N2 ρ sc mi (.lload_n k) len sts st := by
  simp only [yst, yN, yzk_eq, Option.bind_eq_some_iff, Option.some.injEq, Sum.inl.injEq] at hz
  obtain ⟨_, h1, v, h2, q, h3, rfl⟩ := hz
  have hb := ygb_some h1
  simp only [nbq] at hb
  subst hb
  have h4 := ypl_some h3
  obtain ⟨rfl, -⟩ := List.cons.inj h4
  obtain ⟨pc0, lo0, sk0, hh⟩ := st
  obtain ⟨hpc, hE, hL, hS, hH⟩ := hG
  dsimp only at hpc hE hL hS hH
  subst hpc
  obtain ⟨w, h5, h6⟩ := yas2_ok hL h2
  obtain ⟨X, rfl, h7⟩ := yVG_l h6
  exact Or.inl ⟨_, by simp only [zst, zg_self, h5, Option.bind_some]; rfl, yCv_one ⟨rfl, hE, hL, zF2_c (yVG_ml h7) hS, hH⟩, by exact yFr_rf⟩
theorem yi_lload {k : Nat} (hG : yG T N1 N2 ρ (pc, env, lo, sk, h) st) (hz : yst T md scA mi (.lload k) len pc env lo sk h = some (.inl sts)) : yRs T md N1 N2 ρ sc mi (.lload k) len sts st := by
  simp only [yst, yN, yzk_eq, Option.bind_eq_some_iff, Option.some.injEq, Sum.inl.injEq] at hz
  obtain ⟨_, h1, v, h2, q, h3, rfl⟩ := hz
  have hb := ygb_some h1
  simp only [nbq] at hb
  subst hb
  have h4 := ypl_some h3
  obtain ⟨rfl, -⟩ := List.cons.inj h4
  obtain ⟨pc0, lo0, sk0, hh⟩ := st
  obtain ⟨hpc, hE, hL, hS, hH⟩ := hG
  dsimp only at hpc hE hL hS hH
  subst hpc
  obtain ⟨w, h5, h6⟩ := yas2_ok hL h2
  obtain ⟨X, rfl, h7⟩ := yVG_l h6
  exact Or.inl ⟨_, by simp only [zst, zg_self, h5, Option.bind_some]; rfl, yCv_one ⟨rfl, hE, hL, zF2_c (yVG_ml h7) hS, hH⟩, by exact yFr_rf⟩
theorem yi_aload_n {k : Fin 4} (hG : yG T N1 N2 ρ (pc, env, lo, sk, h) st) (hz : yst T md scA mi (.aload_n k) len pc env lo sk h = some (.inl sts)) : yRs T md N1 N2 ρ sc mi (.aload_n k) len sts st := by
  simp only [yst, yN, yzk_eq, Option.bind_eq_some_iff, Option.some.injEq, Sum.inl.injEq] at hz
  obtain ⟨_, h1, v, h2, hz⟩ := hz
  have hb := ygb_some h1
  simp only [nbq] at hb
  subst hb
  split at hz
  · rename_i w
    simp only [Option.bind_eq_some_iff, Option.some.injEq, Sum.inl.injEq] at hz
    obtain ⟨_, h3, rfl⟩ := hz
    obtain ⟨pc0, lo0, sk0, hh⟩ := st
    obtain ⟨hpc, hE, hL, hS, hH⟩ := hG
    dsimp only at hpc hE hL hS hH
    subst hpc
    obtain ⟨w1, h5, h6⟩ := yas2_ok hL h2
    obtain rfl := yVG_w h6
    exact Or.inl ⟨_, by simp only [zst, zg_self, h5, zgb_true (ygb_some h3), Option.bind_some]; rfl, yCv_one ⟨rfl, hE, hL, zF2_c (yVG_mw _) hS, hH⟩, by exact yFr_rf⟩
  · cases hz
theorem yi_aload {k : Nat} (hG : yG T N1 N2 ρ (pc, env, lo, sk, h) st) (hz : yst T md scA mi (.aload k) len pc env lo sk h = some (.inl sts)) : yRs T md N1 N2 ρ sc mi (.aload k) len sts st := by
  simp only [yst, yN, yzk_eq, Option.bind_eq_some_iff, Option.some.injEq, Sum.inl.injEq] at hz
  obtain ⟨_, h1, v, h2, hz⟩ := hz
  have hb := ygb_some h1
  simp only [nbq] at hb
  subst hb
  split at hz
  · rename_i w
    simp only [Option.bind_eq_some_iff, Option.some.injEq, Sum.inl.injEq] at hz
    obtain ⟨_, h3, rfl⟩ := hz
    obtain ⟨pc0, lo0, sk0, hh⟩ := st
    obtain ⟨hpc, hE, hL, hS, hH⟩ := hG
    dsimp only at hpc hE hL hS hH
    subst hpc
    obtain ⟨w1, h5, h6⟩ := yas2_ok hL h2
    obtain rfl := yVG_w h6
    exact Or.inl ⟨_, by simp only [zst, zg_self, h5, zgb_true (ygb_some h3), Option.bind_some]; rfl, yCv_one ⟨rfl, hE, hL, zF2_c (yVG_mw _) hS, hH⟩, by exact yFr_rf⟩
  · cases hz
theorem yi_istore_n {k : Fin 4} (hG : yG T N1 N2 ρ (pc, env, lo, sk, h) st) (hz : yst T md scA mi (.istore_n k) len pc env lo sk h = some (.inl sts)) : yRs T md N1 N2 ρ sc mi (.istore_n k) len sts st := by
  simp only [yst, yN, yzk_eq, Option.bind_eq_some_iff, Option.some.injEq, Sum.inl.injEq] at hz
  obtain ⟨_, h1, q, h2, rfl⟩ := hz
  have hb := ygb_some h1
  simp only [Bool.and_eq_true, nbq, yle_iff, Nat.blt_eq] at hb
  obtain ⟨hb, h3⟩ := hb
  subst hb
  obtain rfl := ypi_some h2
  obtain ⟨pc0, lo0, sk0, hh⟩ := st
  obtain ⟨hpc, hE, hL, hS, hH⟩ := hG
  dsimp only at hpc hE hL hS hH
  subst hpc
  obtain ⟨X, t, hst, hX, hU⟩ := ySi hS
  subst hst
  exact Or.inl ⟨_, by simp only [zst, zg_self, zpi, zgb_true (decide_eq_true h3), Option.bind_some]; rfl, yCv_one ⟨rfl, hE, yL_s1 _ (yVG_mi hX) hL, hU, hH⟩, by exact yFr_rf⟩
theorem yi_istore {k : Nat} (hG : yG T N1 N2 ρ (pc, env, lo, sk, h) st) (hz : yst T md scA mi (.istore k) len pc env lo sk h = some (.inl sts)) : yRs T md N1 N2 ρ sc mi (.istore k) len sts st := by
  simp only [yst, yN, yzk_eq, Option.bind_eq_some_iff, Option.some.injEq, Sum.inl.injEq] at hz
  obtain ⟨_, h1, q, h2, rfl⟩ := hz
  have hb := ygb_some h1
  simp only [Bool.and_eq_true, nbq, yle_iff, Nat.blt_eq] at hb
  obtain ⟨hb, h3⟩ := hb
  subst hb
  obtain rfl := ypi_some h2
  obtain ⟨pc0, lo0, sk0, hh⟩ := st
  obtain ⟨hpc, hE, hL, hS, hH⟩ := hG
  dsimp only at hpc hE hL hS hH
  subst hpc
  obtain ⟨X, t, hst, hX, hU⟩ := ySi hS
  subst hst
  exact Or.inl ⟨_, by simp only [zst, zg_self, zpi, zgb_true (decide_eq_true h3), Option.bind_some]; rfl, yCv_one ⟨rfl, hE, yL_s1 _ (yVG_mi hX) hL, hU, hH⟩, by exact yFr_rf⟩
theorem yi_lstore_n {k : Fin 4} (hG : yG T N1 N2 ρ (pc, env, lo, sk, h) st) (hz : yst T md scA mi (.lstore_n k) len pc env lo sk h = some (.inl sts)) : yRs T md N1 N2 ρ sc mi (.lstore_n k) len sts st := by
  simp only [yst, yN, yzk_eq, Option.bind_eq_some_iff, Option.some.injEq, Sum.inl.injEq] at hz
  obtain ⟨_, h1, q, h2, rfl⟩ := hz
  have hb := ygb_some h1
  simp only [Bool.and_eq_true, nbq, yle_iff, Nat.blt_eq] at hb
  obtain ⟨hb, h3⟩ := hb
  subst hb
  obtain rfl := ypl_some h2
  obtain ⟨pc0, lo0, sk0, hh⟩ := st
  obtain ⟨hpc, hE, hL, hS, hH⟩ := hG
  dsimp only at hpc hE hL hS hH
  subst hpc
  obtain ⟨X, t, hst, hX, hU⟩ := ySl hS
  subst hst
  exact Or.inl ⟨_, by simp only [zst, zg_self, zpl, zgb_true (decide_eq_true h3), Option.bind_some]; rfl, yCv_one ⟨rfl, hE, yL_s2 _ (yVG_ml hX) hL, hU, hH⟩, by exact yFr_rf⟩
theorem yi_lstore {k : Nat} (hG : yG T N1 N2 ρ (pc, env, lo, sk, h) st) (hz : yst T md scA mi (.lstore k) len pc env lo sk h = some (.inl sts)) : yRs T md N1 N2 ρ sc mi (.lstore k) len sts st := by
  simp only [yst, yN, yzk_eq, Option.bind_eq_some_iff, Option.some.injEq, Sum.inl.injEq] at hz
  obtain ⟨_, h1, q, h2, rfl⟩ := hz
  have hb := ygb_some h1
  simp only [Bool.and_eq_true, nbq, yle_iff, Nat.blt_eq] at hb
  obtain ⟨hb, h3⟩ := hb
  subst hb
  obtain rfl := ypl_some h2
  obtain ⟨pc0, lo0, sk0, hh⟩ := st
  obtain ⟨hpc, hE, hL, hS, hH⟩ := hG
  dsimp only at hpc hE hL hS hH
  subst hpc
  obtain ⟨X, t, hst, hX, hU⟩ := ySl hS
  subst hst
  exact Or.inl ⟨_, by simp only [zst, zg_self, zpl, zgb_true (decide_eq_true h3), Option.bind_some]; rfl, yCv_one ⟨rfl, hE, yL_s2 _ (yVG_ml hX) hL, hU, hH⟩, by exact yFr_rf⟩
theorem yi_astore_n {k : Fin 4} (hG : yG T N1 N2 ρ (pc, env, lo, sk, h) st) (hz : yst T md scA mi (.astore_n k) len pc env lo sk h = some (.inl sts)) : yRs T md N1 N2 ρ sc mi (.astore_n k) len sts st := by
  simp only [yst, yN, yzk_eq, Option.bind_eq_some_iff, Option.some.injEq, Sum.inl.injEq] at hz
  obtain ⟨_, h1, q, h2, rfl⟩ := hz
  have hb := ygb_some h1
  simp only [Bool.and_eq_true, nbq, yle_iff, Nat.blt_eq] at hb
  obtain ⟨hb, h3⟩ := hb
  subst hb
  obtain rfl := ypr_some h2
  obtain ⟨pc0, lo0, sk0, hh⟩ := st
  obtain ⟨hpc, hE, hL, hS, hH⟩ := hG
  dsimp only at hpc hE hL hS hH
  subst hpc
  obtain ⟨t, hst, hU⟩ := ySw hS
  subst hst
  exact Or.inl ⟨_, by simp only [zst, zg_self, zpr, zgb_true (decide_eq_true h3), Option.bind_some]; rfl, yCv_one ⟨rfl, hE, yL_s1 _ (yVG_mw _) hL, hU, hH⟩, by exact yFr_rf⟩
theorem yi_astore {k : Nat} (hG : yG T N1 N2 ρ (pc, env, lo, sk, h) st) (hz : yst T md scA mi (.astore k) len pc env lo sk h = some (.inl sts)) : yRs T md N1 N2 ρ sc mi (.astore k) len sts st := by
  simp only [yst, yN, yzk_eq, Option.bind_eq_some_iff, Option.some.injEq, Sum.inl.injEq] at hz
  obtain ⟨_, h1, q, h2, rfl⟩ := hz
  have hb := ygb_some h1
  simp only [Bool.and_eq_true, nbq, yle_iff, Nat.blt_eq] at hb
  obtain ⟨hb, h3⟩ := hb
  subst hb
  obtain rfl := ypr_some h2
  obtain ⟨pc0, lo0, sk0, hh⟩ := st
  obtain ⟨hpc, hE, hL, hS, hH⟩ := hG
  dsimp only at hpc hE hL hS hH
  subst hpc
  obtain ⟨t, hst, hU⟩ := ySw hS
  subst hst
  exact Or.inl ⟨_, by simp only [zst, zg_self, zpr, zgb_true (decide_eq_true h3), Option.bind_some]; rfl, yCv_one ⟨rfl, hE, yL_s1 _ (yVG_mw _) hL, hU, hH⟩, by exact yFr_rf⟩
theorem yi_iinc {i : Nat} {n : Int} (hG : yG T N1 N2 ρ (pc, env, lo, sk, h) st) (hz : yst T md scA mi (.iinc i n) len pc env lo sk h = some (.inl sts)) : yRs T md N1 N2 ρ sc mi (.iinc i n) len sts st := by
  simp only [yst, yN, yzk_eq, Option.bind_eq_some_iff, Option.some.injEq, Sum.inl.injEq] at hz
  obtain ⟨_, h1, v, h2, q, h3, _, h3b, r, h4, rfl⟩ := hz
  have hb := ygb_some h1
  simp only [Bool.and_eq_true, nbq, yle_iff, Nat.blt_eq] at hb
  obtain ⟨hb, h5⟩ := hb
  subst hb
  have h6 := ypi_some h3
  obtain ⟨rfl, -⟩ := List.cons.inj h6
  have hn := ygb_some h3b
  simp only [Bool.and_eq_true, yle_iff] at hn
  obtain ⟨pc0, lo0, sk0, hh⟩ := st
  obtain ⟨hpc, hE, hL, hS, hH⟩ := hG
  dsimp only at hpc hE hL hS hH
  subst hpc
  obtain ⟨w, h7, h8⟩ := yas2_ok hL h2
  obtain ⟨X, rfl, h9⟩ := yVG_i h8
  obtain ⟨t, g1, g2⟩ := yad_ok hE (X := X) (Y := Int32.ofInt n) h9 (by rw [y32 (n := n) (by omega) (by omega)]; exact yX_0 hE n) h4
  exact Or.inl ⟨_, by simp only [zst, zg_self, h7, zpi, zgb_true (decide_eq_true h5), Option.bind_some]; rfl, yCv_t (t := t) ⟨rfl, g1, yL_s1 _ (yVG_mi g2) (yL_more t hL), yS_more t hS, yHG_more t hH⟩, by exact yFr_rf⟩
theorem yi_i2l  (hG : yG T N1 N2 ρ (pc, env, lo, sk, h) st) (hz : yst T md scA mi (.i2l) len pc env lo sk h = some (.inl sts)) : yRs T md N1 N2 ρ sc mi (.i2l) len sts st := by
  simp only [yst, yN, yzk_eq, Option.bind_eq_some_iff, Option.some.injEq, Sum.inl.injEq] at hz
  obtain ⟨_, h1, q, h2, rfl⟩ := hz
  have hb := ygb_some h1
  simp only [nbq] at hb
  subst hb
  obtain rfl := ypi_some h2
  obtain ⟨pc0, lo0, sk0, hh⟩ := st
  obtain ⟨hpc, hE, hL, hS, hH⟩ := hG
  dsimp only at hpc hE hL hS hH
  subst hpc
  obtain ⟨X, t, hst, hX, hU⟩ := ySi hS
  subst hst
  exact Or.inl ⟨_, by simp only [zst, zg_self, zpi, Option.bind_some]; rfl, yCv_one ⟨rfl, hE, hL, zF2_c (yVG_ml (X := X.toInt64) (by rw [Int32.toInt_toInt64]; exact hX)) hU, hH⟩, by exact yFr_rf⟩
theorem yi_ldc {i : Nat} (hG : yG T N1 N2 ρ (pc, env, lo, sk, h) st) (hz : yst T md scA mi (.ldc i) len pc env lo sk h = some (.inl sts)) : yRs T md N1 N2 ρ sc mi (.ldc i) len sts st := by
  simp only [yst, yN, yzk_eq, Option.bind_eq_some_iff, Option.some.injEq, Sum.inl.injEq] at hz
  obtain ⟨_, h1, hz⟩ := hz
  have hb := ygb_some h1
  simp only [nbq] at hb
  subst hb
  cases hq : Nat.beq mi.2.2.2.2.1 2 with
  | true =>
    rw [hq] at hz
    simp only [cond_true, Option.bind_eq_some_iff, Option.some.injEq, Sum.inl.injEq] at hz
    obtain ⟨k, h2, _, h3, rfl⟩ := hz
    have h4 := ygb_some h3
    rw [Nat.blt_eq] at h4
    obtain ⟨pc0, lo0, sk0, hh⟩ := st
    obtain ⟨hpc, hE, hL, hS, hH⟩ := hG
    dsimp only at hpc hE hL hS hH
    subst hpc
    exact Or.inl ⟨_, by simp only [zst, zg_self, Option.bind_some, if_pos ((nbq _ _).mp hq), h2, zgb_true (decide_eq_true h4)]; rfl, yCv_one ⟨rfl, hE, hL, zF2_c (yVG_mw _) hS, hH⟩, by exact yFr_rf⟩
  | false =>
    rw [hq] at hz
    simp only [cond_false, yzk_eq, Option.bind_eq_some_iff, Option.some.injEq, Sum.inl.injEq] at hz
    obtain ⟨q, h2, rfl⟩ := hz
    obtain ⟨pc0, lo0, sk0, hh⟩ := st
    obtain ⟨hpc, hE, hL, hS, hH⟩ := hG
    dsimp only at hpc hE hL hS hH
    subst hpc
    have hn : ¬ mi.2.2.2.2.1 = 2 := fun w => by rw [(nbq _ _).mpr w] at hq; cases hq
    exact Or.inl ⟨_, by simp only [zst, zg_self, Option.bind_some, if_neg hn, h2]; rfl, yCv_one ⟨rfl, hE, hL, zF2_c (yVG_mi (yX_0 hE _)) hS, hH⟩, by exact yFr_rf⟩
theorem yi_i2b  (hG : yG T N1 N2 ρ (pc, env, lo, sk, h) st) (hz : yst T md scA mi (.i2b) len pc env lo sk h = some (.inl sts)) : yRs T md N1 N2 ρ sc mi (.i2b) len sts st := by
  simp only [yst, yN, yzk_eq, Option.bind_eq_some_iff, Option.some.injEq, Sum.inl.injEq] at hz
  obtain ⟨_, h1, q, h2, hz⟩ := hz
  have hb := ygb_some h1
  simp only [nbq] at hb
  subst hb
  obtain rfl := ypi_some h2
  obtain ⟨pc0, lo0, sk0, hh⟩ := st
  obtain ⟨hpc, hE, hL, hS, hH⟩ := hG
  dsimp only at hpc hE hL hS hH
  subst hpc
  obtain ⟨X, t, hst, hX, hU⟩ := ySi hS
  subst hst
  cases hq : yin env q.1 (-128) 127 with
  | true =>
    rw [hq] at hz
    simp only [cond_true, Option.some.injEq, Sum.inl.injEq] at hz
    subst hz
    have hr := yin_ok hE hX hq
    have hv : X.toInt8.toInt32.toInt = X.toInt := by rw [lg_i2b_toInt, Int.bmod_def]; omega
    exact Or.inl ⟨_, by simp only [zst, zg_self, zpi, Option.bind_some]; rfl, yCv_one ⟨rfl, hE, hL, zF2_c (yVG_mi (X := X.toInt8.toInt32) (by rw [hv]; exact hX)) hU, hH⟩, by exact yFr_rf⟩
  | false =>
    rw [hq] at hz
    simp only [cond_false, Option.some.injEq, Sum.inl.injEq] at hz
    subst hz
    have hv : -128 ≤ X.toInt8.toInt32.toInt ∧ X.toInt8.toInt32.toInt ≤ 127 := by rw [lg_i2b_toInt, Int.bmod_def]; omega
    obtain ⟨g1, g2⟩ := yE_push hE (yM_1 hv.1 hv.2)
    exact Or.inl ⟨_, by simp only [zst, zg_self, zpi, Option.bind_some]; rfl, yCv_t (t := [_]) ⟨rfl, g1, yL_more _ hL, zF2_c (yVG_mi g2) (yS_more _ hU), yHG_more _ hH⟩, by exact yFr_rf⟩
theorem yi_i2s  (hG : yG T N1 N2 ρ (pc, env, lo, sk, h) st) (hz : yst T md scA mi (.i2s) len pc env lo sk h = some (.inl sts)) : yRs T md N1 N2 ρ sc mi (.i2s) len sts st := by
  simp only [yst, yN, yzk_eq, Option.bind_eq_some_iff, Option.some.injEq, Sum.inl.injEq] at hz
  obtain ⟨_, h1, q, h2, rfl⟩ := hz
  have hb := ygb_some h1
  simp only [nbq] at hb
  subst hb
  obtain rfl := ypi_some h2
  obtain ⟨pc0, lo0, sk0, hh⟩ := st
  obtain ⟨hpc, hE, hL, hS, hH⟩ := hG
  dsimp only at hpc hE hL hS hH
  subst hpc
  obtain ⟨X, t, hst, hX, hU⟩ := ySi hS
  subst hst
  have hv : -32768 ≤ X.toInt16.toInt32.toInt ∧ X.toInt16.toInt32.toInt ≤ 32767 := by
    rw [Int16.toInt_toInt32]
    have a1 := Int16.le_toInt X.toInt16
    have a2 := Int16.toInt_lt X.toInt16
    omega
  obtain ⟨g1, g2⟩ := yE_push hE (yM_1 hv.1 hv.2)
  exact Or.inl ⟨_, by simp only [zst, zg_self, zpi, Option.bind_some]; rfl, yCv_t (t := [_]) ⟨rfl, g1, yL_more _ hL, zF2_c (yVG_mi g2) (yS_more _ hU), yHG_more _ hH⟩, by exact yFr_rf⟩
theorem yi_i2c  (hG : yG T N1 N2 ρ (pc, env, lo, sk, h) st) (hz : yst T md scA mi (.i2c) len pc env lo sk h = some (.inl sts)) : yRs T md N1 N2 ρ sc mi (.i2c) len sts st := by
  simp only [yst, yN, yzk_eq, Option.bind_eq_some_iff, Option.some.injEq, Sum.inl.injEq] at hz
  obtain ⟨_, h1, q, h2, _, h3, rfl⟩ := hz
  have hb := ygb_some h1
  simp only [nbq] at hb
  subst hb
  obtain rfl := ypi_some h2
  obtain ⟨pc0, lo0, sk0, hh⟩ := st
  obtain ⟨hpc, hE, hL, hS, hH⟩ := hG
  dsimp only at hpc hE hL hS hH
  subst hpc
  obtain ⟨X, t, hst, hX, hU⟩ := ySi hS
  subst hst
  have hr := yin_ok hE hX (ygb_some h3)
  have hv : (X.toUInt32 % 65536).toInt32 = X := op_i2c hr.1 hr.2
  exact Or.inl ⟨_, by simp only [zst, zg_self, zpi, Option.bind_some, hv]; rfl, yCv_one ⟨rfl, hE, hL, zF2_c (yVG_mi hX) hU, hH⟩, by exact yFr_rf⟩
theorem yi_pop2  (hG : yG T N1 N2 ρ (pc, env, lo, sk, h) st) (hz : yst T md scA mi (.pop2) len pc env lo sk h = some (.inl sts)) : yRs T md N1 N2 ρ sc mi (.pop2) len sts st := by
  simp only [yst, yN, yzk_eq, Option.bind_eq_some_iff, Option.some.injEq, Sum.inl.injEq] at hz
  obtain ⟨_, h1, q, h2, rfl⟩ := hz
  have hb := ygb_some h1
  simp only [nbq] at hb
  subst hb
  obtain rfl := ypl_some h2
  obtain ⟨pc0, lo0, sk0, hh⟩ := st
  obtain ⟨hpc, hE, hL, hS, hH⟩ := hG
  dsimp only at hpc hE hL hS hH
  subst hpc
  obtain ⟨X, t, hst, hX, hU⟩ := ySl hS
  subst hst
  exact Or.inl ⟨_, by simp only [zst, zg_self, zpl, Option.bind_some]; rfl, yCv_one ⟨rfl, hE, hL, hU, hH⟩, by exact yFr_rf⟩
theorem yi_getstatic {i : Nat} (hG : yG T N1 N2 ρ (pc, env, lo, sk, h) st) (hz : yst T md scA mi (.getstatic i) len pc env lo sk h = some (.inl sts)) : yRs T md N1 N2 ρ sc mi (.getstatic i) len sts st := by
  simp only [yst, yN, yzk_eq, Option.bind_eq_some_iff, Option.some.injEq, Sum.inl.injEq] at hz
  obtain ⟨_, h1, hz⟩ := hz
  have hb := ygb_some h1
  simp only [Bool.and_eq_true, nbq] at hb
  obtain ⟨hb, hb2⟩ := hb
  subst hb
  obtain ⟨pc0, lo0, sk0, hh⟩ := st
  obtain ⟨hpc, hE, hL, hS, hH⟩ := hG
  dsimp only at hpc hE hL hS hH
  subst hpc
  cases hq : Nat.beq i 38 with
  | true =>
    rw [hq] at hz
    simp only [cond_true, Option.some.injEq, Sum.inl.injEq] at hz
    subst hz
    exact Or.inl ⟨_, by simp only [zst, zg_self, hb2, Option.bind_some, if_pos ((nbq _ _).mp hq)]; rfl, yCv_one ⟨rfl, hE, hL, zF2_c (yVG_mi (X := 1) (show yX ρ (0, 1) (1 : Int32).toInt from yX_0 hE 1)) hS, hH⟩, by exact yFr_rf⟩
  | false =>
    rw [hq] at hz
    simp only [cond_false, Option.bind_eq_some_iff, Option.some.injEq, Sum.inl.injEq] at hz
    obtain ⟨_, h2, rfl⟩ := hz
    have hn : ¬ i = 38 := fun w => by rw [(nbq _ _).mpr w] at hq; cases hq
    have h3 := (nbq _ _).mp (ygb_some h2)
    subst h3
    exact Or.inl ⟨_, by simp only [zst, zg_self, hb2, Option.bind_some, if_neg hn]; rfl, yCv_one ⟨rfl, hE, hL, zF2_c (yVG_mw _) hS, hH⟩, by exact yFr_rf⟩
theorem yi_lcmp  (hG : yG T N1 N2 ρ (pc, env, lo, sk, h) st) (hz : yst T md scA mi (.lcmp) len pc env lo sk h = some (.inl sts)) : yRs T md N1 N2 ρ sc mi (.lcmp) len sts st := by
  simp only [yst, yN, yzk_eq, Option.bind_eq_some_iff, Option.some.injEq, Sum.inl.injEq] at hz
  obtain ⟨_, h1, y, h2, x, h3, rfl⟩ := hz
  have hb := ygb_some h1
  simp only [nbq] at hb
  subst hb
  obtain rfl := ypl_some h2
  have h4 := ypl_some h3
  obtain ⟨pc0, lo0, sk0, hh⟩ := st
  obtain ⟨hpc, hE, hL, hS, hH⟩ := hG
  dsimp only at hpc hE hL hS hH
  subst hpc
  obtain ⟨Y, t, hst, hY, hU⟩ := ySl hS
  subst hst
  rw [h4] at hU
  obtain ⟨X, t, hst, hX, hV⟩ := ySl hU
  subst hst
  refine Or.inl ⟨(pc0 + 1, lo0, .int (lg_cmp X Y) :: t, hh), by simp only [zst, zg_self, zpl, Option.bind_some], ?_, by exact yFr_rf⟩
  rcases Int.lt_trichotomy X.toInt Y.toInt with q | q | q
  · refine yCv_al (yCv_op (yLT_ok hE hX hY q) rfl hL (zF2_c (yVG_mi ?_) hV) hH)
    have : lg_cmp X Y = -1 := by
      unfold lg_cmp
      rw [if_neg (by rw [gt_iff_lt, Int64.lt_iff_toInt_lt]; omega), if_neg (fun w => by rw [w] at q; omega)]
    rw [this]
    exact yX_0 hE (-1)
  · refine yCv_ar (yCv_al (yCv_op (yEQ_ok hE hX hY q) rfl hL (zF2_c (yVG_mi ?_) hV) hH))
    have : lg_cmp X Y = 0 := by
      unfold lg_cmp
      rw [if_neg (by rw [gt_iff_lt, Int64.lt_iff_toInt_lt]; omega), if_pos (Int64.toInt_inj.mp q)]
    rw [this]
    exact yX_0 hE 0
  · refine yCv_ar (yCv_ar (yCv_op (yLT_ok hE hY hX q) rfl hL (zF2_c (yVG_mi ?_) hV) hH))
    have : lg_cmp X Y = 1 := by
      unfold lg_cmp
      rw [if_pos (by rw [gt_iff_lt, Int64.lt_iff_toInt_lt]; omega)]
    rw [this]
    exact yX_0 hE 1
theorem yi_dup  (hG : yG T N1 N2 ρ (pc, env, lo, sk, h) st) (hz : yst T md scA mi (.dup) len pc env lo sk h = some (.inl sts)) : yRs T md N1 N2 ρ sc mi (.dup) len sts st := by
  simp only [yst, yN, yzk_eq, Option.bind_eq_some_iff, Option.some.injEq, Sum.inl.injEq] at hz
  obtain ⟨_, h1, q, h2, rfl⟩ := hz
  have hb := ygb_some h1
  simp only [nbq] at hb
  subst hb
  obtain ⟨rfl, h3⟩ := yp1_some h2
  obtain ⟨pc0, lo0, sk0, hh⟩ := st
  obtain ⟨hpc, hE, hL, hS, hH⟩ := hG
  dsimp only at hpc hE hL hS hH
  subst hpc
  obtain ⟨w, t, hst, hw, hU⟩ := zF2_u hS
  subst hst
  have hc : w.category = 1 := (yVG_cat hw).trans h3
  exact Or.inl ⟨_, by simp only [zst, zg_self, zp1, if_pos hc, Option.bind_some]; rfl, yCv_one ⟨rfl, hE, hL, zF2_c hw (zF2_c hw hU), hH⟩, by exact yFr_rf⟩
theorem yi_pop  (hG : yG T N1 N2 ρ (pc, env, lo, sk, h) st) (hz : yst T md scA mi (.pop) len pc env lo sk h = some (.inl sts)) : yRs T md N1 N2 ρ sc mi (.pop) len sts st := by
  simp only [yst, yN, yzk_eq, Option.bind_eq_some_iff, Option.some.injEq, Sum.inl.injEq] at hz
  obtain ⟨_, h1, q, h2, rfl⟩ := hz
  have hb := ygb_some h1
  simp only [nbq] at hb
  subst hb
  obtain ⟨rfl, h3⟩ := yp1_some h2
  obtain ⟨pc0, lo0, sk0, hh⟩ := st
  obtain ⟨hpc, hE, hL, hS, hH⟩ := hG
  dsimp only at hpc hE hL hS hH
  subst hpc
  obtain ⟨w, t, hst, hw, hU⟩ := zF2_u hS
  subst hst
  have hc : w.category = 1 := (yVG_cat hw).trans h3
  exact Or.inl ⟨_, by simp only [zst, zg_self, zp1, if_pos hc, Option.bind_some]; rfl, yCv_one ⟨rfl, hE, hL, hU, hH⟩, by exact yFr_rf⟩
theorem yi_dup2  (hG : yG T N1 N2 ρ (pc, env, lo, sk, h) st) (hz : yst T md scA mi (.dup2) len pc env lo sk h = some (.inl sts)) : yRs T md N1 N2 ρ sc mi (.dup2) len sts st := by
  simp only [yst, yN, yzk_eq, Option.bind_eq_some_iff, Option.some.injEq, Sum.inl.injEq] at hz
  obtain ⟨_, h1, q, h2, q2, h2b, rfl⟩ := hz
  have hb := ygb_some h1
  simp only [nbq] at hb
  subst hb
  obtain ⟨rfl, h3⟩ := yp1_some h2
  obtain ⟨h4, h5⟩ := yp1_some h2b
  obtain ⟨pc0, lo0, sk0, hh⟩ := st
  obtain ⟨hpc, hE, hL, hS, hH⟩ := hG
  dsimp only at hpc hE hL hS hH
  subst hpc
  obtain ⟨w, t, hst, hw, hU⟩ := zF2_u hS
  subst hst
  rw [h4] at hU
  obtain ⟨w2, t2, hst, hw2, hV⟩ := zF2_u hU
  subst hst
  have hc : w.category = 1 := (yVG_cat hw).trans h3
  have hc2 : w2.category = 1 := (yVG_cat hw2).trans h5
  exact Or.inl ⟨_, by simp only [zst, zg_self, zp1, if_pos hc, if_pos hc2, Option.bind_some]; rfl, yCv_one ⟨rfl, hE, hL, zF2_c hw (zF2_c hw2 (zF2_c hw (zF2_c hw2 hV))), hH⟩, by exact yFr_rf⟩
theorem yi_goto {off : Int} (hG : yG T N1 N2 ρ (pc, env, lo, sk, h) st) (hz : yst T md scA mi (.goto off) len pc env lo sk h = some (.inl sts)) : yRs T md N1 N2 ρ sc mi (.goto off) len sts st := by
  simp only [yst, yN, yzk_eq, Option.bind_eq_some_iff, Option.some.injEq, Sum.inl.injEq] at hz
  obtain ⟨_, h1, t, h2, rfl⟩ := hz
  have hb := ygb_some h1
  simp only [nbq] at hb
  subst hb
  obtain ⟨pc0, lo0, sk0, hh⟩ := st
  obtain ⟨hpc, hE, hL, hS, hH⟩ := hG
  dsimp only at hpc hE hL hS hH
  subst hpc
  exact Or.inl ⟨_, by simp only [zst, zg_self, h2, Option.bind_some]; rfl, yCv_one ⟨rfl, hE, hL, hS, hH⟩, by exact yFr_rf⟩
theorem yi_ifCond {cd : Jvm.ClassFile.Cond} {off : Int} (hG : yG T N1 N2 ρ (pc, env, lo, sk, h) st) (hz : yst T md scA mi (.ifCond cd off) len pc env lo sk h = some (.inl sts)) : yRs T md N1 N2 ρ sc mi (.ifCond cd off) len sts st := by
  simp only [yst, yN, yzk_eq, Option.bind_eq_some_iff, Option.some.injEq, Sum.inl.injEq] at hz
  obtain ⟨_, h1, x, h2, t, h3, rfl⟩ := hz
  have hb := ygb_some h1
  simp only [nbq] at hb
  subst hb
  obtain rfl := ypi_some h2
  obtain ⟨pc0, lo0, sk0, hh⟩ := st
  obtain ⟨hpc, hE, hL, hS, hH⟩ := hG
  dsimp only at hpc hE hL hS hH
  subst hpc
  obtain ⟨X, t2, hst, hX, hU⟩ := ySi hS
  subst hst
  have h0 : yX ρ (0, 0) (0 : Int32).toInt := yX_0 hE 0
  by_cases hq : zcd cd X 0 = true
  · exact Or.inl ⟨(t, lo0, t2, hh), by simp only [zst, zg_self, zpi, h3, Option.bind_some, if_pos hq], yCv_al (yCv_op (ycd_ok hE hX h0 cd hq) rfl hL hU hH), by exact yFr_rf⟩
  · exact Or.inl ⟨(pc0 + 3, lo0, t2, hh), by simp only [zst, zg_self, zpi, h3, Option.bind_some, if_neg hq], yCv_ar (yCv_op (ycd_ok hE hX h0 _ (yng_ok cd hq)) rfl hL hU hH), by exact yFr_rf⟩
theorem yi_if_icmp {cd : Jvm.ClassFile.Cond} {off : Int} (hG : yG T N1 N2 ρ (pc, env, lo, sk, h) st) (hz : yst T md scA mi (.if_icmp cd off) len pc env lo sk h = some (.inl sts)) : yRs T md N1 N2 ρ sc mi (.if_icmp cd off) len sts st := by
  simp only [yst, yN, yzk_eq, Option.bind_eq_some_iff, Option.some.injEq, Sum.inl.injEq] at hz
  obtain ⟨_, h1, y, h2, x, h2b, t, h3, rfl⟩ := hz
  have hb := ygb_some h1
  simp only [nbq] at hb
  subst hb
  obtain rfl := ypi_some h2
  have h4 := ypi_some h2b
  obtain ⟨pc0, lo0, sk0, hh⟩ := st
  obtain ⟨hpc, hE, hL, hS, hH⟩ := hG
  dsimp only at hpc hE hL hS hH
  subst hpc
  obtain ⟨Y, t1, hst, hY, hU⟩ := ySi hS
  subst hst
  rw [h4] at hU
  obtain ⟨X, t2, hst, hX, hV⟩ := ySi hU
  subst hst
  by_cases hq : zcd cd X Y = true
  · exact Or.inl ⟨(t, lo0, t2, hh), by simp only [zst, zg_self, zpi, h3, Option.bind_some, if_pos hq], yCv_al (yCv_op (ycd_ok hE hX hY cd hq) rfl hL hV hH), by exact yFr_rf⟩
  · exact Or.inl ⟨(pc0 + 3, lo0, t2, hh), by simp only [zst, zg_self, zpi, h3, Option.bind_some, if_neg hq], yCv_ar (yCv_op (ycd_ok hE hX hY _ (yng_ok cd hq)) rfl hL hV hH), by exact yFr_rf⟩
theorem ytb_ok {x : Nat × Int} : ∀ {l : List Int} {c : Int} {q : List yS} (_ : ytb pc env lo sk h x c l = some q) (j : Nat) (o : Int), l[j]? = some o → ∃ t, zjp pc o = some t ∧ ∀ e, yEQ env x (0, c + j) = some e → (t, e, lo, sk, h) ∈ q
  | [], c, q, hq, j, o, hj => by simp at hj
  | o0 :: l, c, q, hq, j, o, hj => by
    simp only [ytb, Option.bind_eq_some_iff, Option.some.injEq] at hq
    obtain ⟨t, h1, q1, h2, rfl⟩ := hq
    cases j with
    | zero =>
      simp at hj
      subst hj
      refine ⟨t, h1, fun e he => List.mem_append_left _ ?_⟩
      rw [show c + ((0 : Nat) : Int) = c by simp] at he
      rw [he]
      exact List.mem_cons_self
    | succ j =>
      simp at hj
      obtain ⟨t1, g1, g2⟩ := ytb_ok h2 j o hj
      exact ⟨t1, g1, fun e he => List.mem_append_right _ (g2 e (by rw [← he]; congr 2; show c + 1 + (j : Int) = c + ((j + 1 : Nat) : Int); push_cast; omega))⟩
theorem yi_tsw {df lw hg : Int} {offs : Array Int} (hG : yG T N1 N2 ρ (pc, env, lo, sk, h) st) (hz : yst T md scA mi (.tableswitch df lw hg offs) len pc env lo sk h = some (.inl sts)) : yRs T md N1 N2 ρ sc mi (.tableswitch df lw hg offs) len sts st := by
  simp only [yst, yN, yzk_eq, Option.bind_eq_some_iff, Option.some.injEq, Sum.inl.injEq] at hz
  obtain ⟨x, h2, t, h3, _, h4, q, h5, rfl⟩ := hz
  obtain rfl := ypi_some h2
  have h6 := (yeq_iff _ _).mp (ygb_some h4)
  obtain ⟨pc0, lo0, sk0, hh⟩ := st
  obtain ⟨hpc, hE, hL, hS, hH⟩ := hG
  dsimp only at hpc hE hL hS hH
  subst hpc
  obtain ⟨X, t2, hst, hX, hU⟩ := ySi hS
  subst hst
  by_cases h7 : X.toInt < lw
  · exact Or.inl ⟨(t, lo0, t2, hh), by simp only [zst, zpi, Option.bind_some, if_pos (show X.toInt < lw ∨ hg < X.toInt from Or.inl h7), h3], yCv_al (yCv_op (yLT_ok hE hX (yX_0 hE lw) h7) rfl hL hU hH), by exact yFr_rf⟩
  by_cases h8 : hg < X.toInt
  · exact Or.inl ⟨(t, lo0, t2, hh), by simp only [zst, zpi, Option.bind_some, if_pos (show X.toInt < lw ∨ hg < X.toInt from Or.inr h8), h3], yCv_ar (yCv_al (yCv_op (yLT_ok hE (yX_0 hE hg) hX h8) rfl hL hU hH)), by exact yFr_rf⟩
  have hj : (X.toInt - lw).toNat < offs.toList.length := by omega
  obtain ⟨t3, g1, g2⟩ := ytb_ok h5 _ _ (List.getElem?_eq_getElem hj)
  obtain ⟨e, g3, g4⟩ := yEQ_ok hE hX (yX_0 hE (lw + ((X.toInt - lw).toNat : Nat))) (by omega)
  have g5 : offs[(X.toInt - lw).toNat]? = some (offs.toList[(X.toInt - lw).toNat]) := by rw [← Array.getElem?_toList]; exact List.getElem?_eq_getElem hj
  exact Or.inl ⟨(t3, lo0, t2, hh), by simp only [zst, zpi, Option.bind_some, if_neg (show ¬ (X.toInt < lw ∨ hg < X.toInt) from fun w => w.elim h7 h8), g5, g1], yCv_ar (yCv_ar ⟨_, g2 e g3, [], by rw [List.append_nil]; exact ⟨rfl, g4, hL, hU, hH⟩⟩), by exact yFr_rf⟩
theorem ylb_ok {x : Nat × Int} {X : Int32} {df : Int} (h1 : st.1 = pc) (hx : yX ρ x X.toInt) (hL : yLR ρ lo st.2.1) (hS : zF2 (yVG ρ) sk st.2.2.1) (hH : yHG T N1 N2 ρ h st.2.2.2) : ∀ {l : List (Int × Int)} {env : List yI} {q : List yS}, yE ρ env → ylb pc lo sk h x df env l = some q → ∃ t, zjp pc (Op.lookupswitch.offset l df X.toInt) = some t ∧ yCv T N1 N2 ρ q (t, st.2.1, st.2.2.1, st.2.2.2)
  | [], env, q, hE, hq => by
    simp only [ylb, Option.bind_eq_some_iff, Option.some.injEq] at hq
    obtain ⟨t, h2, rfl⟩ := hq
    exact ⟨t, h2, yCv_one ⟨rfl, hE, hL, hS, hH⟩⟩
  | (c, o) :: r, env, q, hE, hq => by
    simp only [ylb, Option.bind_eq_some_iff] at hq
    obtain ⟨t, h2, hq⟩ := hq
    rw [Op.lookupswitch.offset_cons]
    by_cases hc : c = X.toInt
    · rw [if_pos hc]
      refine ⟨t, h2, ?_⟩
      have hop : yCv T N1 N2 ρ (yop (yEQ env x (0, c)) t lo sk h) (t, st.2.1, st.2.2.1, st.2.2.2) := yCv_op (yEQ_ok hE hx (yX_0 hE c) hc.symm) rfl hL hS hH
      split at hq
      · cases hq; exact hop
      · simp only [Option.bind_eq_some_iff, Option.some.injEq] at hq
        obtain ⟨q1, _, rfl⟩ := hq
        exact yCv_al hop
    · rw [if_neg hc]
      obtain ⟨e, g1, g2⟩ := yNE_ok hE hx (yX_0 hE c) (fun w => hc w.symm)
      rw [g1] at hq
      simp only [Option.bind_eq_some_iff, Option.some.injEq] at hq
      obtain ⟨q1, h3, rfl⟩ := hq
      obtain ⟨t1, k1, k2⟩ := ylb_ok h1 hx hL hS hH g2 h3
      exact ⟨t1, k1, yCv_ar k2⟩
theorem yi_lsw {df : Int} {ps : Array (Int × Int)} (hG : yG T N1 N2 ρ (pc, env, lo, sk, h) st) (hz : yst T md scA mi (.lookupswitch df ps) len pc env lo sk h = some (.inl sts)) : yRs T md N1 N2 ρ sc mi (.lookupswitch df ps) len sts st := by
  simp only [yst, yN, yzk_eq, Option.bind_eq_some_iff, Option.some.injEq, Sum.inl.injEq] at hz
  obtain ⟨x, h2, _, h3, q, h4, rfl⟩ := hz
  obtain rfl := ypi_some h2
  obtain ⟨pc0, lo0, sk0, hh⟩ := st
  obtain ⟨hpc, hE, hL, hS, hH⟩ := hG
  dsimp only at hpc hE hL hS hH
  subst hpc
  obtain ⟨X, t2, hst, hX, hU⟩ := ySi hS
  subst hst
  obtain ⟨t, g1, g2⟩ := ylb_ok (st := (pc0, lo0, t2, hh)) rfl hX hL hU hH hE h4
  exact Or.inl ⟨(t, lo0, t2, hh), by simp only [zst, zpi, Option.bind_some, zgb_true (ygb_some h3), g1], g2, by exact yFr_rf⟩
theorem yi_iadd (hG : yG T N1 N2 ρ (pc, env, lo, sk, h) st) (hz : yst T md scA mi (.iadd) len pc env lo sk h = some (.inl sts)) : yRs T md N1 N2 ρ sc mi (.iadd) len sts st := by
  simp only [yst, Option.bind_eq_some_iff] at hz
  obtain ⟨_, h1, hz⟩ := hz
  have hb := ygb_some h1
  simp only [nbq] at hb
  subst hb
  split at hz
  · rename_i y x r
    simp only [yN, Option.bind_eq_some_iff, Option.some.injEq, Sum.inl.injEq] at hz
    obtain ⟨v, hv, rfl⟩ := hz
    obtain ⟨pc0, lo0, sk0, hh⟩ := st
    obtain ⟨hpc, hE, hL, hS, hH⟩ := hG
    dsimp only at hpc hE hL hS hH
    subst hpc
    obtain ⟨Y, t, hst, hY, hU⟩ := ySi hS
    subst hst
    obtain ⟨X, t, hst, hX, hV⟩ := ySi hU
    subst hst
    obtain ⟨V, g0, t0, g1, g2⟩ := yb2_ok hE hX hY hv
    exact Or.inl ⟨_, by simp only [zst, zg_self, Option.bind_some, g0]; rfl, yCv_t (t := t0) ⟨rfl, g1, yL_more t0 hL, zF2_c (yVG_mi g2) (yS_more t0 hV), yHG_more t0 hH⟩, by exact yFr_rf⟩
  · rename_i y x r
    simp only [yN, Option.bind_eq_some_iff, Option.some.injEq, Sum.inl.injEq] at hz
    obtain ⟨v, hv, rfl⟩ := hz
    obtain ⟨pc0, lo0, sk0, hh⟩ := st
    obtain ⟨hpc, hE, hL, hS, hH⟩ := hG
    dsimp only at hpc hE hL hS hH
    subst hpc
    obtain ⟨Y, t, hst, hY, hU⟩ := ySl hS
    subst hst
    obtain ⟨X, t, hst, hX, hV⟩ := ySl hU
    subst hst
    obtain ⟨V, g0, t0, g1, g2⟩ := yl2_ok hE hX hY hv
    exact Or.inl ⟨_, by simp only [zst, zg_self, Option.bind_some, g0]; rfl, yCv_t (t := t0) ⟨rfl, g1, yL_more t0 hL, zF2_c (yVG_ml g2) (yS_more t0 hV), yHG_more t0 hH⟩, by exact yFr_rf⟩
  · cases hz
theorem yi_isub (hG : yG T N1 N2 ρ (pc, env, lo, sk, h) st) (hz : yst T md scA mi (.isub) len pc env lo sk h = some (.inl sts)) : yRs T md N1 N2 ρ sc mi (.isub) len sts st := by
  simp only [yst, Option.bind_eq_some_iff] at hz
  obtain ⟨_, h1, hz⟩ := hz
  have hb := ygb_some h1
  simp only [nbq] at hb
  subst hb
  split at hz
  · rename_i y x r
    simp only [yN, Option.bind_eq_some_iff, Option.some.injEq, Sum.inl.injEq] at hz
    obtain ⟨v, hv, rfl⟩ := hz
    obtain ⟨pc0, lo0, sk0, hh⟩ := st
    obtain ⟨hpc, hE, hL, hS, hH⟩ := hG
    dsimp only at hpc hE hL hS hH
    subst hpc
    obtain ⟨Y, t, hst, hY, hU⟩ := ySi hS
    subst hst
    obtain ⟨X, t, hst, hX, hV⟩ := ySi hU
    subst hst
    obtain ⟨V, g0, t0, g1, g2⟩ := yb2_ok hE hX hY hv
    exact Or.inl ⟨_, by simp only [zst, zg_self, Option.bind_some, g0]; rfl, yCv_t (t := t0) ⟨rfl, g1, yL_more t0 hL, zF2_c (yVG_mi g2) (yS_more t0 hV), yHG_more t0 hH⟩, by exact yFr_rf⟩
  · rename_i y x r
    simp only [yN, Option.bind_eq_some_iff, Option.some.injEq, Sum.inl.injEq] at hz
    obtain ⟨v, hv, rfl⟩ := hz
    obtain ⟨pc0, lo0, sk0, hh⟩ := st
    obtain ⟨hpc, hE, hL, hS, hH⟩ := hG
    dsimp only at hpc hE hL hS hH
    subst hpc
    obtain ⟨Y, t, hst, hY, hU⟩ := ySl hS
    subst hst
    obtain ⟨X, t, hst, hX, hV⟩ := ySl hU
    subst hst
    obtain ⟨V, g0, t0, g1, g2⟩ := yl2_ok hE hX hY hv
    exact Or.inl ⟨_, by simp only [zst, zg_self, Option.bind_some, g0]; rfl, yCv_t (t := t0) ⟨rfl, g1, yL_more t0 hL, zF2_c (yVG_ml g2) (yS_more t0 hV), yHG_more t0 hH⟩, by exact yFr_rf⟩
  · cases hz
theorem yi_imul (hG : yG T N1 N2 ρ (pc, env, lo, sk, h) st) (hz : yst T md scA mi (.imul) len pc env lo sk h = some (.inl sts)) : yRs T md N1 N2 ρ sc mi (.imul) len sts st := by
  simp only [yst, Option.bind_eq_some_iff] at hz
  obtain ⟨_, h1, hz⟩ := hz
  have hb := ygb_some h1
  simp only [nbq] at hb
  subst hb
  split at hz
  · rename_i y x r
    simp only [yN, Option.bind_eq_some_iff, Option.some.injEq, Sum.inl.injEq] at hz
    obtain ⟨v, hv, rfl⟩ := hz
    obtain ⟨pc0, lo0, sk0, hh⟩ := st
    obtain ⟨hpc, hE, hL, hS, hH⟩ := hG
    dsimp only at hpc hE hL hS hH
    subst hpc
    obtain ⟨Y, t, hst, hY, hU⟩ := ySi hS
    subst hst
    obtain ⟨X, t, hst, hX, hV⟩ := ySi hU
    subst hst
    obtain ⟨V, g0, t0, g1, g2⟩ := yb2_ok hE hX hY hv
    exact Or.inl ⟨_, by simp only [zst, zg_self, Option.bind_some, g0]; rfl, yCv_t (t := t0) ⟨rfl, g1, yL_more t0 hL, zF2_c (yVG_mi g2) (yS_more t0 hV), yHG_more t0 hH⟩, by exact yFr_rf⟩
  · rename_i y x r
    simp only [yN, Option.bind_eq_some_iff, Option.some.injEq, Sum.inl.injEq] at hz
    obtain ⟨v, hv, rfl⟩ := hz
    obtain ⟨pc0, lo0, sk0, hh⟩ := st
    obtain ⟨hpc, hE, hL, hS, hH⟩ := hG
    dsimp only at hpc hE hL hS hH
    subst hpc
    obtain ⟨Y, t, hst, hY, hU⟩ := ySl hS
    subst hst
    obtain ⟨X, t, hst, hX, hV⟩ := ySl hU
    subst hst
    obtain ⟨V, g0, t0, g1, g2⟩ := yl2_ok hE hX hY hv
    exact Or.inl ⟨_, by simp only [zst, zg_self, Option.bind_some, g0]; rfl, yCv_t (t := t0) ⟨rfl, g1, yL_more t0 hL, zF2_c (yVG_ml g2) (yS_more t0 hV), yHG_more t0 hH⟩, by exact yFr_rf⟩
  · cases hz
theorem yi_iand (hG : yG T N1 N2 ρ (pc, env, lo, sk, h) st) (hz : yst T md scA mi (.iand) len pc env lo sk h = some (.inl sts)) : yRs T md N1 N2 ρ sc mi (.iand) len sts st := by
  simp only [yst, Option.bind_eq_some_iff] at hz
  obtain ⟨_, h1, hz⟩ := hz
  have hb := ygb_some h1
  simp only [nbq] at hb
  subst hb
  split at hz
  · rename_i y x r
    simp only [yN, Option.bind_eq_some_iff, Option.some.injEq, Sum.inl.injEq] at hz
    obtain ⟨v, hv, rfl⟩ := hz
    obtain ⟨pc0, lo0, sk0, hh⟩ := st
    obtain ⟨hpc, hE, hL, hS, hH⟩ := hG
    dsimp only at hpc hE hL hS hH
    subst hpc
    obtain ⟨Y, t, hst, hY, hU⟩ := ySi hS
    subst hst
    obtain ⟨X, t, hst, hX, hV⟩ := ySi hU
    subst hst
    obtain ⟨V, g0, t0, g1, g2⟩ := yb2_ok hE hX hY hv
    exact Or.inl ⟨_, by simp only [zst, zg_self, Option.bind_some, g0]; rfl, yCv_t (t := t0) ⟨rfl, g1, yL_more t0 hL, zF2_c (yVG_mi g2) (yS_more t0 hV), yHG_more t0 hH⟩, by exact yFr_rf⟩
  · rename_i y x r
    simp only [yN, Option.bind_eq_some_iff, Option.some.injEq, Sum.inl.injEq] at hz
    obtain ⟨v, hv, rfl⟩ := hz
    obtain ⟨pc0, lo0, sk0, hh⟩ := st
    obtain ⟨hpc, hE, hL, hS, hH⟩ := hG
    dsimp only at hpc hE hL hS hH
    subst hpc
    obtain ⟨Y, t, hst, hY, hU⟩ := ySl hS
    subst hst
    obtain ⟨X, t, hst, hX, hV⟩ := ySl hU
    subst hst
    obtain ⟨V, g0, t0, g1, g2⟩ := yl2_ok hE hX hY hv
    exact Or.inl ⟨_, by simp only [zst, zg_self, Option.bind_some, g0]; rfl, yCv_t (t := t0) ⟨rfl, g1, yL_more t0 hL, zF2_c (yVG_ml g2) (yS_more t0 hV), yHG_more t0 hH⟩, by exact yFr_rf⟩
  · cases hz
theorem yi_ior (hG : yG T N1 N2 ρ (pc, env, lo, sk, h) st) (hz : yst T md scA mi (.ior) len pc env lo sk h = some (.inl sts)) : yRs T md N1 N2 ρ sc mi (.ior) len sts st := by
  simp only [yst, Option.bind_eq_some_iff] at hz
  obtain ⟨_, h1, hz⟩ := hz
  have hb := ygb_some h1
  simp only [nbq] at hb
  subst hb
  split at hz
  · rename_i y x r
    simp only [yN, Option.bind_eq_some_iff, Option.some.injEq, Sum.inl.injEq] at hz
    obtain ⟨v, hv, rfl⟩ := hz
    obtain ⟨pc0, lo0, sk0, hh⟩ := st
    obtain ⟨hpc, hE, hL, hS, hH⟩ := hG
    dsimp only at hpc hE hL hS hH
    subst hpc
    obtain ⟨Y, t, hst, hY, hU⟩ := ySi hS
    subst hst
    obtain ⟨X, t, hst, hX, hV⟩ := ySi hU
    subst hst
    obtain ⟨V, g0, t0, g1, g2⟩ := yb2_ok hE hX hY hv
    exact Or.inl ⟨_, by simp only [zst, zg_self, Option.bind_some, g0]; rfl, yCv_t (t := t0) ⟨rfl, g1, yL_more t0 hL, zF2_c (yVG_mi g2) (yS_more t0 hV), yHG_more t0 hH⟩, by exact yFr_rf⟩
  · rename_i y x r
    simp only [yN, Option.bind_eq_some_iff, Option.some.injEq, Sum.inl.injEq] at hz
    obtain ⟨v, hv, rfl⟩ := hz
    obtain ⟨pc0, lo0, sk0, hh⟩ := st
    obtain ⟨hpc, hE, hL, hS, hH⟩ := hG
    dsimp only at hpc hE hL hS hH
    subst hpc
    obtain ⟨Y, t, hst, hY, hU⟩ := ySl hS
    subst hst
    obtain ⟨X, t, hst, hX, hV⟩ := ySl hU
    subst hst
    obtain ⟨V, g0, t0, g1, g2⟩ := yl2_ok hE hX hY hv
    exact Or.inl ⟨_, by simp only [zst, zg_self, Option.bind_some, g0]; rfl, yCv_t (t := t0) ⟨rfl, g1, yL_more t0 hL, zF2_c (yVG_ml g2) (yS_more t0 hV), yHG_more t0 hH⟩, by exact yFr_rf⟩
  · cases hz
theorem yi_ixor (hG : yG T N1 N2 ρ (pc, env, lo, sk, h) st) (hz : yst T md scA mi (.ixor) len pc env lo sk h = some (.inl sts)) : yRs T md N1 N2 ρ sc mi (.ixor) len sts st := by
  simp only [yst, Option.bind_eq_some_iff] at hz
  obtain ⟨_, h1, hz⟩ := hz
  have hb := ygb_some h1
  simp only [nbq] at hb
  subst hb
  split at hz
  · rename_i y x r
    simp only [yN, Option.bind_eq_some_iff, Option.some.injEq, Sum.inl.injEq] at hz
    obtain ⟨v, hv, rfl⟩ := hz
    obtain ⟨pc0, lo0, sk0, hh⟩ := st
    obtain ⟨hpc, hE, hL, hS, hH⟩ := hG
    dsimp only at hpc hE hL hS hH
    subst hpc
    obtain ⟨Y, t, hst, hY, hU⟩ := ySi hS
    subst hst
    obtain ⟨X, t, hst, hX, hV⟩ := ySi hU
    subst hst
    obtain ⟨V, g0, t0, g1, g2⟩ := yb2_ok hE hX hY hv
    exact Or.inl ⟨_, by simp only [zst, zg_self, Option.bind_some, g0]; rfl, yCv_t (t := t0) ⟨rfl, g1, yL_more t0 hL, zF2_c (yVG_mi g2) (yS_more t0 hV), yHG_more t0 hH⟩, by exact yFr_rf⟩
  · rename_i y x r
    simp only [yN, Option.bind_eq_some_iff, Option.some.injEq, Sum.inl.injEq] at hz
    obtain ⟨v, hv, rfl⟩ := hz
    obtain ⟨pc0, lo0, sk0, hh⟩ := st
    obtain ⟨hpc, hE, hL, hS, hH⟩ := hG
    dsimp only at hpc hE hL hS hH
    subst hpc
    obtain ⟨Y, t, hst, hY, hU⟩ := ySl hS
    subst hst
    obtain ⟨X, t, hst, hX, hV⟩ := ySl hU
    subst hst
    obtain ⟨V, g0, t0, g1, g2⟩ := yl2_ok hE hX hY hv
    exact Or.inl ⟨_, by simp only [zst, zg_self, Option.bind_some, g0]; rfl, yCv_t (t := t0) ⟨rfl, g1, yL_more t0 hL, zF2_c (yVG_ml g2) (yS_more t0 hV), yHG_more t0 hH⟩, by exact yFr_rf⟩
  · cases hz
theorem yi_ishl (hG : yG T N1 N2 ρ (pc, env, lo, sk, h) st) (hz : yst T md scA mi (.ishl) len pc env lo sk h = some (.inl sts)) : yRs T md N1 N2 ρ sc mi (.ishl) len sts st := by
  simp only [yst, Option.bind_eq_some_iff] at hz
  obtain ⟨_, h1, hz⟩ := hz
  have hb := ygb_some h1
  simp only [nbq] at hb
  subst hb
  split at hz
  · rename_i y x r
    simp only [yN, Option.bind_eq_some_iff, Option.some.injEq, Sum.inl.injEq] at hz
    obtain ⟨v, hv, rfl⟩ := hz
    obtain ⟨pc0, lo0, sk0, hh⟩ := st
    obtain ⟨hpc, hE, hL, hS, hH⟩ := hG
    dsimp only at hpc hE hL hS hH
    subst hpc
    obtain ⟨Y, t, hst, hY, hU⟩ := ySi hS
    subst hst
    obtain ⟨X, t, hst, hX, hV⟩ := ySi hU
    subst hst
    obtain ⟨V, g0, t0, g1, g2⟩ := yb2_ok hE hX hY hv
    exact Or.inl ⟨_, by simp only [zst, zg_self, Option.bind_some, g0]; rfl, yCv_t (t := t0) ⟨rfl, g1, yL_more t0 hL, zF2_c (yVG_mi g2) (yS_more t0 hV), yHG_more t0 hH⟩, by exact yFr_rf⟩
  · rename_i y x r
    simp only [yN, Option.bind_eq_some_iff, Option.some.injEq, Sum.inl.injEq] at hz
    obtain ⟨v, hv, rfl⟩ := hz
    obtain ⟨pc0, lo0, sk0, hh⟩ := st
    obtain ⟨hpc, hE, hL, hS, hH⟩ := hG
    dsimp only at hpc hE hL hS hH
    subst hpc
    obtain ⟨Y, t, hst, hY, hU⟩ := ySl hS
    subst hst
    obtain ⟨X, t, hst, hX, hV⟩ := ySl hU
    subst hst
    obtain ⟨V, g0, t0, g1, g2⟩ := yl2_ok hE hX hY hv
    exact Or.inl ⟨_, by simp only [zst, zg_self, Option.bind_some, g0]; rfl, yCv_t (t := t0) ⟨rfl, g1, yL_more t0 hL, zF2_c (yVG_ml g2) (yS_more t0 hV), yHG_more t0 hH⟩, by exact yFr_rf⟩
  · cases hz
theorem yi_ishr (hG : yG T N1 N2 ρ (pc, env, lo, sk, h) st) (hz : yst T md scA mi (.ishr) len pc env lo sk h = some (.inl sts)) : yRs T md N1 N2 ρ sc mi (.ishr) len sts st := by
  simp only [yst, Option.bind_eq_some_iff] at hz
  obtain ⟨_, h1, hz⟩ := hz
  have hb := ygb_some h1
  simp only [nbq] at hb
  subst hb
  split at hz
  · rename_i y x r
    simp only [yN, Option.bind_eq_some_iff, Option.some.injEq, Sum.inl.injEq] at hz
    obtain ⟨v, hv, rfl⟩ := hz
    obtain ⟨pc0, lo0, sk0, hh⟩ := st
    obtain ⟨hpc, hE, hL, hS, hH⟩ := hG
    dsimp only at hpc hE hL hS hH
    subst hpc
    obtain ⟨Y, t, hst, hY, hU⟩ := ySi hS
    subst hst
    obtain ⟨X, t, hst, hX, hV⟩ := ySi hU
    subst hst
    obtain ⟨V, g0, t0, g1, g2⟩ := yb2_ok hE hX hY hv
    exact Or.inl ⟨_, by simp only [zst, zg_self, Option.bind_some, g0]; rfl, yCv_t (t := t0) ⟨rfl, g1, yL_more t0 hL, zF2_c (yVG_mi g2) (yS_more t0 hV), yHG_more t0 hH⟩, by exact yFr_rf⟩
  · rename_i y x r
    simp only [yN, Option.bind_eq_some_iff, Option.some.injEq, Sum.inl.injEq] at hz
    obtain ⟨v, hv, rfl⟩ := hz
    obtain ⟨pc0, lo0, sk0, hh⟩ := st
    obtain ⟨hpc, hE, hL, hS, hH⟩ := hG
    dsimp only at hpc hE hL hS hH
    subst hpc
    obtain ⟨Y, t, hst, hY, hU⟩ := ySl hS
    subst hst
    obtain ⟨X, t, hst, hX, hV⟩ := ySl hU
    subst hst
    obtain ⟨V, g0, t0, g1, g2⟩ := yl2_ok hE hX hY hv
    exact Or.inl ⟨_, by simp only [zst, zg_self, Option.bind_some, g0]; rfl, yCv_t (t := t0) ⟨rfl, g1, yL_more t0 hL, zF2_c (yVG_ml g2) (yS_more t0 hV), yHG_more t0 hH⟩, by exact yFr_rf⟩
  · cases hz
theorem yi_iushr (hG : yG T N1 N2 ρ (pc, env, lo, sk, h) st) (hz : yst T md scA mi (.iushr) len pc env lo sk h = some (.inl sts)) : yRs T md N1 N2 ρ sc mi (.iushr) len sts st := by
  simp only [yst, Option.bind_eq_some_iff] at hz
  obtain ⟨_, h1, hz⟩ := hz
  have hb := ygb_some h1
  simp only [nbq] at hb
  subst hb
  split at hz
  · rename_i y x r
    simp only [yN, Option.bind_eq_some_iff, Option.some.injEq, Sum.inl.injEq] at hz
    obtain ⟨v, hv, rfl⟩ := hz
    obtain ⟨pc0, lo0, sk0, hh⟩ := st
    obtain ⟨hpc, hE, hL, hS, hH⟩ := hG
    dsimp only at hpc hE hL hS hH
    subst hpc
    obtain ⟨Y, t, hst, hY, hU⟩ := ySi hS
    subst hst
    obtain ⟨X, t, hst, hX, hV⟩ := ySi hU
    subst hst
    obtain ⟨V, g0, t0, g1, g2⟩ := yb2_ok hE hX hY hv
    exact Or.inl ⟨_, by simp only [zst, zg_self, Option.bind_some, g0]; rfl, yCv_t (t := t0) ⟨rfl, g1, yL_more t0 hL, zF2_c (yVG_mi g2) (yS_more t0 hV), yHG_more t0 hH⟩, by exact yFr_rf⟩
  · rename_i y x r
    simp only [yN, Option.bind_eq_some_iff, Option.some.injEq, Sum.inl.injEq] at hz
    obtain ⟨v, hv, rfl⟩ := hz
    obtain ⟨pc0, lo0, sk0, hh⟩ := st
    obtain ⟨hpc, hE, hL, hS, hH⟩ := hG
    dsimp only at hpc hE hL hS hH
    subst hpc
    obtain ⟨Y, t, hst, hY, hU⟩ := ySl hS
    subst hst
    obtain ⟨X, t, hst, hX, hV⟩ := ySl hU
    subst hst
    obtain ⟨V, g0, t0, g1, g2⟩ := yl2_ok hE hX hY hv
    exact Or.inl ⟨_, by simp only [zst, zg_self, Option.bind_some, g0]; rfl, yCv_t (t := t0) ⟨rfl, g1, yL_more t0 hL, zF2_c (yVG_ml g2) (yS_more t0 hV), yHG_more t0 hH⟩, by exact yFr_rf⟩
  · cases hz
theorem yi_idiv (hG : yG T N1 N2 ρ (pc, env, lo, sk, h) st) (hz : yst T md scA mi (.idiv) len pc env lo sk h = some (.inl sts)) : yRs T md N1 N2 ρ sc mi (.idiv) len sts st := by
  simp only [yst, Option.bind_eq_some_iff] at hz
  obtain ⟨_, h1, hz⟩ := hz
  have hb := ygb_some h1
  simp only [nbq] at hb
  subst hb
  split at hz
  · rename_i y x r
    simp only [yN, Option.bind_eq_some_iff, Option.some.injEq, Sum.inl.injEq] at hz
    obtain ⟨v, hv, rfl⟩ := hz
    obtain ⟨pc0, lo0, sk0, hh⟩ := st
    obtain ⟨hpc, hE, hL, hS, hH⟩ := hG
    dsimp only at hpc hE hL hS hH
    subst hpc
    obtain ⟨Y, t, hst, hY, hU⟩ := ySi hS
    subst hst
    obtain ⟨X, t, hst, hX, hV⟩ := ySi hU
    subst hst
    obtain ⟨V, g0, t0, g1, g2⟩ := yb2_ok hE hX hY hv
    exact Or.inl ⟨_, by simp only [zst, zg_self, Option.bind_some, g0]; rfl, yCv_t (t := t0) ⟨rfl, g1, yL_more t0 hL, zF2_c (yVG_mi g2) (yS_more t0 hV), yHG_more t0 hH⟩, by exact yFr_rf⟩
  · rename_i y x r
    simp only [yN, Option.bind_eq_some_iff, Option.some.injEq, Sum.inl.injEq] at hz
    obtain ⟨v, hv, rfl⟩ := hz
    obtain ⟨pc0, lo0, sk0, hh⟩ := st
    obtain ⟨hpc, hE, hL, hS, hH⟩ := hG
    dsimp only at hpc hE hL hS hH
    subst hpc
    obtain ⟨Y, t, hst, hY, hU⟩ := ySl hS
    subst hst
    obtain ⟨X, t, hst, hX, hV⟩ := ySl hU
    subst hst
    obtain ⟨V, g0, t0, g1, g2⟩ := yl2_ok hE hX hY hv
    exact Or.inl ⟨_, by simp only [zst, zg_self, Option.bind_some, g0]; rfl, yCv_t (t := t0) ⟨rfl, g1, yL_more t0 hL, zF2_c (yVG_ml g2) (yS_more t0 hV), yHG_more t0 hH⟩, by exact yFr_rf⟩
  · cases hz
theorem yi_irem (hG : yG T N1 N2 ρ (pc, env, lo, sk, h) st) (hz : yst T md scA mi (.irem) len pc env lo sk h = some (.inl sts)) : yRs T md N1 N2 ρ sc mi (.irem) len sts st := by
  simp only [yst, Option.bind_eq_some_iff] at hz
  obtain ⟨_, h1, hz⟩ := hz
  have hb := ygb_some h1
  simp only [nbq] at hb
  subst hb
  split at hz
  · rename_i y x r
    simp only [yN, Option.bind_eq_some_iff, Option.some.injEq, Sum.inl.injEq] at hz
    obtain ⟨v, hv, rfl⟩ := hz
    obtain ⟨pc0, lo0, sk0, hh⟩ := st
    obtain ⟨hpc, hE, hL, hS, hH⟩ := hG
    dsimp only at hpc hE hL hS hH
    subst hpc
    obtain ⟨Y, t, hst, hY, hU⟩ := ySi hS
    subst hst
    obtain ⟨X, t, hst, hX, hV⟩ := ySi hU
    subst hst
    obtain ⟨V, g0, t0, g1, g2⟩ := yb2_ok hE hX hY hv
    exact Or.inl ⟨_, by simp only [zst, zg_self, Option.bind_some, g0]; rfl, yCv_t (t := t0) ⟨rfl, g1, yL_more t0 hL, zF2_c (yVG_mi g2) (yS_more t0 hV), yHG_more t0 hH⟩, by exact yFr_rf⟩
  · rename_i y x r
    simp only [yN, Option.bind_eq_some_iff, Option.some.injEq, Sum.inl.injEq] at hz
    obtain ⟨v, hv, rfl⟩ := hz
    obtain ⟨pc0, lo0, sk0, hh⟩ := st
    obtain ⟨hpc, hE, hL, hS, hH⟩ := hG
    dsimp only at hpc hE hL hS hH
    subst hpc
    obtain ⟨Y, t, hst, hY, hU⟩ := ySl hS
    subst hst
    obtain ⟨X, t, hst, hX, hV⟩ := ySl hU
    subst hst
    obtain ⟨V, g0, t0, g1, g2⟩ := yl2_ok hE hX hY hv
    exact Or.inl ⟨_, by simp only [zst, zg_self, Option.bind_some, g0]; rfl, yCv_t (t := t0) ⟨rfl, g1, yL_more t0 hL, zF2_c (yVG_ml g2) (yS_more t0 hV), yHG_more t0 hH⟩, by exact yFr_rf⟩
  · cases hz
theorem yi_ladd (hG : yG T N1 N2 ρ (pc, env, lo, sk, h) st) (hz : yst T md scA mi (.ladd) len pc env lo sk h = some (.inl sts)) : yRs T md N1 N2 ρ sc mi (.ladd) len sts st := by
  simp only [yst, Option.bind_eq_some_iff] at hz
  obtain ⟨_, h1, hz⟩ := hz
  have hb := ygb_some h1
  simp only [nbq] at hb
  subst hb
  split at hz
  · rename_i y x r
    simp only [yN, Option.bind_eq_some_iff, Option.some.injEq, Sum.inl.injEq] at hz
    obtain ⟨v, hv, rfl⟩ := hz
    obtain ⟨pc0, lo0, sk0, hh⟩ := st
    obtain ⟨hpc, hE, hL, hS, hH⟩ := hG
    dsimp only at hpc hE hL hS hH
    subst hpc
    obtain ⟨Y, t, hst, hY, hU⟩ := ySi hS
    subst hst
    obtain ⟨X, t, hst, hX, hV⟩ := ySi hU
    subst hst
    obtain ⟨V, g0, t0, g1, g2⟩ := yb2_ok hE hX hY hv
    exact Or.inl ⟨_, by simp only [zst, zg_self, Option.bind_some, g0]; rfl, yCv_t (t := t0) ⟨rfl, g1, yL_more t0 hL, zF2_c (yVG_mi g2) (yS_more t0 hV), yHG_more t0 hH⟩, by exact yFr_rf⟩
  · rename_i y x r
    simp only [yN, Option.bind_eq_some_iff, Option.some.injEq, Sum.inl.injEq] at hz
    obtain ⟨v, hv, rfl⟩ := hz
    obtain ⟨pc0, lo0, sk0, hh⟩ := st
    obtain ⟨hpc, hE, hL, hS, hH⟩ := hG
    dsimp only at hpc hE hL hS hH
    subst hpc
    obtain ⟨Y, t, hst, hY, hU⟩ := ySl hS
    subst hst
    obtain ⟨X, t, hst, hX, hV⟩ := ySl hU
    subst hst
    obtain ⟨V, g0, t0, g1, g2⟩ := yl2_ok hE hX hY hv
    exact Or.inl ⟨_, by simp only [zst, zg_self, Option.bind_some, g0]; rfl, yCv_t (t := t0) ⟨rfl, g1, yL_more t0 hL, zF2_c (yVG_ml g2) (yS_more t0 hV), yHG_more t0 hH⟩, by exact yFr_rf⟩
  · cases hz
theorem yi_lsub (hG : yG T N1 N2 ρ (pc, env, lo, sk, h) st) (hz : yst T md scA mi (.lsub) len pc env lo sk h = some (.inl sts)) : yRs T md N1 N2 ρ sc mi (.lsub) len sts st := by
  simp only [yst, Option.bind_eq_some_iff] at hz
  obtain ⟨_, h1, hz⟩ := hz
  have hb := ygb_some h1
  simp only [nbq] at hb
  subst hb
  split at hz
  · rename_i y x r
    simp only [yN, Option.bind_eq_some_iff, Option.some.injEq, Sum.inl.injEq] at hz
    obtain ⟨v, hv, rfl⟩ := hz
    obtain ⟨pc0, lo0, sk0, hh⟩ := st
    obtain ⟨hpc, hE, hL, hS, hH⟩ := hG
    dsimp only at hpc hE hL hS hH
    subst hpc
    obtain ⟨Y, t, hst, hY, hU⟩ := ySi hS
    subst hst
    obtain ⟨X, t, hst, hX, hV⟩ := ySi hU
    subst hst
    obtain ⟨V, g0, t0, g1, g2⟩ := yb2_ok hE hX hY hv
    exact Or.inl ⟨_, by simp only [zst, zg_self, Option.bind_some, g0]; rfl, yCv_t (t := t0) ⟨rfl, g1, yL_more t0 hL, zF2_c (yVG_mi g2) (yS_more t0 hV), yHG_more t0 hH⟩, by exact yFr_rf⟩
  · rename_i y x r
    simp only [yN, Option.bind_eq_some_iff, Option.some.injEq, Sum.inl.injEq] at hz
    obtain ⟨v, hv, rfl⟩ := hz
    obtain ⟨pc0, lo0, sk0, hh⟩ := st
    obtain ⟨hpc, hE, hL, hS, hH⟩ := hG
    dsimp only at hpc hE hL hS hH
    subst hpc
    obtain ⟨Y, t, hst, hY, hU⟩ := ySl hS
    subst hst
    obtain ⟨X, t, hst, hX, hV⟩ := ySl hU
    subst hst
    obtain ⟨V, g0, t0, g1, g2⟩ := yl2_ok hE hX hY hv
    exact Or.inl ⟨_, by simp only [zst, zg_self, Option.bind_some, g0]; rfl, yCv_t (t := t0) ⟨rfl, g1, yL_more t0 hL, zF2_c (yVG_ml g2) (yS_more t0 hV), yHG_more t0 hH⟩, by exact yFr_rf⟩
  · cases hz
theorem yi_lmul (hG : yG T N1 N2 ρ (pc, env, lo, sk, h) st) (hz : yst T md scA mi (.lmul) len pc env lo sk h = some (.inl sts)) : yRs T md N1 N2 ρ sc mi (.lmul) len sts st := by
  simp only [yst, Option.bind_eq_some_iff] at hz
  obtain ⟨_, h1, hz⟩ := hz
  have hb := ygb_some h1
  simp only [nbq] at hb
  subst hb
  split at hz
  · rename_i y x r
    simp only [yN, Option.bind_eq_some_iff, Option.some.injEq, Sum.inl.injEq] at hz
    obtain ⟨v, hv, rfl⟩ := hz
    obtain ⟨pc0, lo0, sk0, hh⟩ := st
    obtain ⟨hpc, hE, hL, hS, hH⟩ := hG
    dsimp only at hpc hE hL hS hH
    subst hpc
    obtain ⟨Y, t, hst, hY, hU⟩ := ySi hS
    subst hst
    obtain ⟨X, t, hst, hX, hV⟩ := ySi hU
    subst hst
    obtain ⟨V, g0, t0, g1, g2⟩ := yb2_ok hE hX hY hv
    exact Or.inl ⟨_, by simp only [zst, zg_self, Option.bind_some, g0]; rfl, yCv_t (t := t0) ⟨rfl, g1, yL_more t0 hL, zF2_c (yVG_mi g2) (yS_more t0 hV), yHG_more t0 hH⟩, by exact yFr_rf⟩
  · rename_i y x r
    simp only [yN, Option.bind_eq_some_iff, Option.some.injEq, Sum.inl.injEq] at hz
    obtain ⟨v, hv, rfl⟩ := hz
    obtain ⟨pc0, lo0, sk0, hh⟩ := st
    obtain ⟨hpc, hE, hL, hS, hH⟩ := hG
    dsimp only at hpc hE hL hS hH
    subst hpc
    obtain ⟨Y, t, hst, hY, hU⟩ := ySl hS
    subst hst
    obtain ⟨X, t, hst, hX, hV⟩ := ySl hU
    subst hst
    obtain ⟨V, g0, t0, g1, g2⟩ := yl2_ok hE hX hY hv
    exact Or.inl ⟨_, by simp only [zst, zg_self, Option.bind_some, g0]; rfl, yCv_t (t := t0) ⟨rfl, g1, yL_more t0 hL, zF2_c (yVG_ml g2) (yS_more t0 hV), yHG_more t0 hH⟩, by exact yFr_rf⟩
  · cases hz
theorem yi_ldiv (hG : yG T N1 N2 ρ (pc, env, lo, sk, h) st) (hz : yst T md scA mi (.ldiv) len pc env lo sk h = some (.inl sts)) : yRs T md N1 N2 ρ sc mi (.ldiv) len sts st := by
  simp only [yst, Option.bind_eq_some_iff] at hz
  obtain ⟨_, h1, hz⟩ := hz
  have hb := ygb_some h1
  simp only [nbq] at hb
  subst hb
  split at hz
  · rename_i y x r
    simp only [yN, Option.bind_eq_some_iff, Option.some.injEq, Sum.inl.injEq] at hz
    obtain ⟨v, hv, rfl⟩ := hz
    obtain ⟨pc0, lo0, sk0, hh⟩ := st
    obtain ⟨hpc, hE, hL, hS, hH⟩ := hG
    dsimp only at hpc hE hL hS hH
    subst hpc
    obtain ⟨Y, t, hst, hY, hU⟩ := ySi hS
    subst hst
    obtain ⟨X, t, hst, hX, hV⟩ := ySi hU
    subst hst
    obtain ⟨V, g0, t0, g1, g2⟩ := yb2_ok hE hX hY hv
    exact Or.inl ⟨_, by simp only [zst, zg_self, Option.bind_some, g0]; rfl, yCv_t (t := t0) ⟨rfl, g1, yL_more t0 hL, zF2_c (yVG_mi g2) (yS_more t0 hV), yHG_more t0 hH⟩, by exact yFr_rf⟩
  · rename_i y x r
    simp only [yN, Option.bind_eq_some_iff, Option.some.injEq, Sum.inl.injEq] at hz
    obtain ⟨v, hv, rfl⟩ := hz
    obtain ⟨pc0, lo0, sk0, hh⟩ := st
    obtain ⟨hpc, hE, hL, hS, hH⟩ := hG
    dsimp only at hpc hE hL hS hH
    subst hpc
    obtain ⟨Y, t, hst, hY, hU⟩ := ySl hS
    subst hst
    obtain ⟨X, t, hst, hX, hV⟩ := ySl hU
    subst hst
    obtain ⟨V, g0, t0, g1, g2⟩ := yl2_ok hE hX hY hv
    exact Or.inl ⟨_, by simp only [zst, zg_self, Option.bind_some, g0]; rfl, yCv_t (t := t0) ⟨rfl, g1, yL_more t0 hL, zF2_c (yVG_ml g2) (yS_more t0 hV), yHG_more t0 hH⟩, by exact yFr_rf⟩
  · cases hz
theorem yi_lrem (hG : yG T N1 N2 ρ (pc, env, lo, sk, h) st) (hz : yst T md scA mi (.lrem) len pc env lo sk h = some (.inl sts)) : yRs T md N1 N2 ρ sc mi (.lrem) len sts st := by
  simp only [yst, Option.bind_eq_some_iff] at hz
  obtain ⟨_, h1, hz⟩ := hz
  have hb := ygb_some h1
  simp only [nbq] at hb
  subst hb
  split at hz
  · rename_i y x r
    simp only [yN, Option.bind_eq_some_iff, Option.some.injEq, Sum.inl.injEq] at hz
    obtain ⟨v, hv, rfl⟩ := hz
    obtain ⟨pc0, lo0, sk0, hh⟩ := st
    obtain ⟨hpc, hE, hL, hS, hH⟩ := hG
    dsimp only at hpc hE hL hS hH
    subst hpc
    obtain ⟨Y, t, hst, hY, hU⟩ := ySi hS
    subst hst
    obtain ⟨X, t, hst, hX, hV⟩ := ySi hU
    subst hst
    obtain ⟨V, g0, t0, g1, g2⟩ := yb2_ok hE hX hY hv
    exact Or.inl ⟨_, by simp only [zst, zg_self, Option.bind_some, g0]; rfl, yCv_t (t := t0) ⟨rfl, g1, yL_more t0 hL, zF2_c (yVG_mi g2) (yS_more t0 hV), yHG_more t0 hH⟩, by exact yFr_rf⟩
  · rename_i y x r
    simp only [yN, Option.bind_eq_some_iff, Option.some.injEq, Sum.inl.injEq] at hz
    obtain ⟨v, hv, rfl⟩ := hz
    obtain ⟨pc0, lo0, sk0, hh⟩ := st
    obtain ⟨hpc, hE, hL, hS, hH⟩ := hG
    dsimp only at hpc hE hL hS hH
    subst hpc
    obtain ⟨Y, t, hst, hY, hU⟩ := ySl hS
    subst hst
    obtain ⟨X, t, hst, hX, hV⟩ := ySl hU
    subst hst
    obtain ⟨V, g0, t0, g1, g2⟩ := yl2_ok hE hX hY hv
    exact Or.inl ⟨_, by simp only [zst, zg_self, Option.bind_some, g0]; rfl, yCv_t (t := t0) ⟨rfl, g1, yL_more t0 hL, zF2_c (yVG_ml g2) (yS_more t0 hV), yHG_more t0 hH⟩, by exact yFr_rf⟩
  · cases hz
end YST
