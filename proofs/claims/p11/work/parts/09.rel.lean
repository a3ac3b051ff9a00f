/-! how a state of the small machine stands in the real one -/
def zF2 {α β : Type} (R : α → β → Prop) : List α → List β → Prop
  | [], [] => True
  | a :: as, b :: bs => R a b ∧ zF2 R as bs
  | _, _ => False
theorem zF2_c {α β : Type} {R : α → β → Prop} {a : α} {b : β} {as : List α} {bs : List β} (h : R a b) (t : zF2 R as bs) : zF2 R (a :: as) (b :: bs) := And.intro h t
theorem zF2_u {α β : Type} {R : α → β → Prop} {a : α} {as : List α} {l : List β} (h : zF2 R (a :: as) l) : ∃ b bs, l = b :: bs ∧ R a b ∧ zF2 R as bs := by
  cases l with
  | nil => exact absurd h (fun h => h)
  | cons b bs => exact ⟨b, bs, rfl, h.1, h.2⟩
theorem zF2_n {α β : Type} {R : α → β → Prop} {l : List β} (h : zF2 R [] l) : l = [] := by
  cases l with
  | nil => rfl
  | cons b bs => exact absurd h (fun h => h)
theorem zF2_len {α β : Type} {R : α → β → Prop} : ∀ {as : List α} {bs : List β}, zF2 R as bs → as.length = bs.length
  | [], [], _ => rfl
  | _ :: _, _ :: _, h => congrArg (· + 1) (zF2_len h.2)
theorem zF2_mono {α β : Type} {R S : α → β → Prop} (hRS : ∀ a b, R a b → S a b) : ∀ {as : List α} {bs : List β}, zF2 R as bs → zF2 S as bs
  | [], [], _ => True.intro
  | _ :: _, _ :: _, h => ⟨hRS _ _ h.1, zF2_mono hRS h.2⟩
theorem zF2_app {α β : Type} {R : α → β → Prop} : ∀ {as : List α} {bs : List β} {cs : List α} {ds : List β}, zF2 R as bs → zF2 R cs ds → zF2 R (as ++ cs) (bs ++ ds)
  | [], [], _, _, _, h => h
  | _ :: _, _ :: _, _, _, h, k => ⟨h.1, zF2_app h.2 k⟩
theorem zF2_rev {α β : Type} {R : α → β → Prop} : ∀ {as : List α} {bs : List β}, zF2 R as bs → zF2 R as.reverse bs.reverse
  | [], [], _ => True.intro
  | a :: as, b :: bs, h => by
    rw [List.reverse_cons, List.reverse_cons]
    exact zF2_app (zF2_rev h.2) ⟨h.1, True.intro⟩
theorem zF2_cut {α β : Type} {R : α → β → Prop} (n : Nat) : ∀ {as : List α} {bs : List β}, zF2 R as bs → zF2 R (as.take n) (bs.take n) ∧ zF2 R (as.drop n) (bs.drop n) := by
  induction n with
  | zero => intro as bs h; exact ⟨by simp [zF2], by simpa using h⟩
  | succ n ih =>
    intro as bs h
    match as, bs, h with
    | [], [], _ => exact ⟨by simp [zF2], by simp [zF2]⟩
    | a :: as, b :: bs, h => exact ⟨by simpa using zF2_c h.1 (ih h.2).1, by simpa using (ih h.2).2⟩
theorem zF2_get {α β : Type} {R : α → β → Prop} : ∀ {as : List α} {bs : List β} (_ : zF2 R as bs) (k : Nat) (a : α), as[k]? = some a → ∃ b, bs[k]? = some b ∧ R a b
  | [], [], _, k, a, h => by simp at h
  | a0 :: as, b0 :: bs, hh, k, a, h => by
    cases k with
    | zero => simp at h; subst h; exact ⟨b0, by simp, hh.1⟩
    | succ k => simp at h; obtain ⟨b, h1, h2⟩ := zF2_get hh.2 k a h; exact ⟨b, by simpa using h1, h2⟩
theorem zF2_set {α β : Type} {R : α → β → Prop} {x : α} {y : β} (hxy : R x y) : ∀ {as : List α} {bs : List β} (_ : zF2 R as bs) (k : Nat), zF2 R (as.set k x) (bs.set k y)
  | [], [], _, k => by simp [zF2]
  | a0 :: as, b0 :: bs, hh, k => by
    cases k with
    | zero => exact ⟨hxy, hh.2⟩
    | succ k => exact ⟨hh.1, zF2_set hxy hh.2 k⟩
theorem zF2_flt {α β : Type} {R : α → β → Prop} {f : α → Bool} {g : β → Bool} (hfg : ∀ a b, R a b → f a = g b) : ∀ {as : List α} {bs : List β}, zF2 R as bs → zF2 R (as.filter f) (bs.filter g)
  | [], [], _ => True.intro
  | a :: as, b :: bs, h => by
    have e := hfg a b h.1
    have t := zF2_flt hfg h.2
    rw [List.filter_cons, List.filter_cons, e]
    cases g b with
    | true => exact ⟨h.1, t⟩
    | false => exact t
theorem zF2_mem {α β : Type} {R : α → β → Prop} : ∀ {as : List α} {bs : List β} (_ : zF2 R as bs) (a : α), a ∈ as → ∃ b, b ∈ bs ∧ R a b
  | [], [], _, a, h => by simp at h
  | a0 :: as, b0 :: bs, hh, a, h => by
    rcases List.mem_cons.mp h with rfl | h
    · exact ⟨b0, List.mem_cons_self, hh.1⟩
    · obtain ⟨b, h1, h2⟩ := zF2_mem hh.2 a h
      exact ⟨b, List.mem_cons_of_mem _ h1, h2⟩
def zVR (ad : List Nat) (b : Nat → Value) (v w : Value) : Prop := match v with
  | .ref k => ∃ a, ad[k]? = some a ∧ w = .ref a
  | .retAddr k => w = b k ∧ ((∃ a, w = .ref a) ∨ w = .null)
  | .int x => w = .int x
  | .long x => w = .long x
  | .null => w = .null
  | _ => False
theorem zVR_i {ad : List Nat} {b : Nat → Value} (x : Int32) : zVR ad b (.int x) (.int x) := by simp [zVR]
theorem zVR_l {ad : List Nat} {b : Nat → Value} (x : Int64) : zVR ad b (.long x) (.long x) := by simp [zVR]
theorem zVR_r {ad : List Nat} {b : Nat → Value} {k a : Nat} (h : ad[k]? = some a) : zVR ad b (.ref k) (.ref a) := by simp [zVR, h]
theorem zVR_ui {ad : List Nat} {b : Nat → Value} {x : Int32} {w : Value} (h : zVR ad b (.int x) w) : w = .int x := h
theorem zVR_ul {ad : List Nat} {b : Nat → Value} {x : Int64} {w : Value} (h : zVR ad b (.long x) w) : w = .long x := h
theorem zVR_ur {ad : List Nat} {b : Nat → Value} {k : Nat} {w : Value} (h : zVR ad b (.ref k) w) : ∃ a, ad[k]? = some a ∧ w = .ref a := h
theorem zVR_us {ad : List Nat} {b : Nat → Value} {k : Nat} {w : Value} (h : zVR ad b (.retAddr k) w) : w = b k ∧ ((∃ a, w = .ref a) ∨ w = .null) := h
theorem zVR_cat {ad : List Nat} {b : Nat → Value} {v w : Value} (h : zVR ad b v w) : w.category = v.category := by
  cases v with
  | ref k => obtain ⟨a, -, rfl⟩ := zVR_ur h; rfl
  | retAddr k =>
    rcases (zVR_us h).2 with ⟨a, q⟩ | q
    · rw [q]; rfl
    · rw [q]; rfl
  | int x => rw [zVR_ui h]
  | long x => rw [zVR_ul h]
  | null => have : w = .null := h; rw [this]
  | float x => exact absurd h (fun h => h)
  | double x => exact absurd h (fun h => h)
theorem zVR_more {ad : List Nat} {b : Nat → Value} {v w : Value} (t : List Nat) (h : zVR ad b v w) : zVR (ad ++ t) b v w := by
  cases v with
  | ref k =>
    obtain ⟨a, h1, rfl⟩ := zVR_ur h
    refine zVR_r ?_
    rw [List.getElem?_append_left (List.getElem?_eq_some_iff.mp h1).1]
    exact h1
  | retAddr k => exact h
  | int x => exact h
  | long x => exact h
  | null => exact h
  | float x => exact absurd h (fun h => h)
  | double x => exact absurd h (fun h => h)
abbrev zSR (ad : List Nat) (b : Nat → Value) : List Value → List Value → Prop := zF2 (zVR ad b)
theorem zSR_i {ad : List Nat} {b : Nat → Value} {x : Int32} {r l : List Value} (h : zSR ad b (.int x :: r) l) : ∃ t, l = .int x :: t ∧ zSR ad b r t := by
  obtain ⟨w, t, rfl, h1, h2⟩ := zF2_u h
  exact ⟨t, by rw [zVR_ui h1], h2⟩
theorem zSR_l {ad : List Nat} {b : Nat → Value} {x : Int64} {r l : List Value} (h : zSR ad b (.long x :: r) l) : ∃ t, l = .long x :: t ∧ zSR ad b r t := by
  obtain ⟨w, t, rfl, h1, h2⟩ := zF2_u h
  exact ⟨t, by rw [zVR_ul h1], h2⟩
theorem zSR_r {ad : List Nat} {b : Nat → Value} {k : Nat} {r l : List Value} (h : zSR ad b (.ref k :: r) l) : ∃ a t, l = .ref a :: t ∧ ad[k]? = some a ∧ zSR ad b r t := by
  obtain ⟨w, t, rfl, h1, h2⟩ := zF2_u h
  obtain ⟨a, h3, rfl⟩ := zVR_ur h1
  exact ⟨a, t, rfl, h3, h2⟩
theorem zSR_cats {ad : List Nat} {b : Nat → Value} : ∀ {r l : List Value}, zSR ad b r l → l.map (fun v => v.category) = r.map (fun v => v.category)
  | [], [], _ => rfl
  | v :: r, w :: l, h => by
    rw [List.map_cons, List.map_cons, zVR_cat h.1, zSR_cats h.2]
abbrev zLq (ad : List Nat) (b : Nat → Value) (q r : Nat × Value) : Prop := q.1 = r.1 ∧ zVR ad b q.2 r.2
def zLR (ad : List Nat) (b : Nat → Value) (nL : Nat) (lo : zLo) (ls : Array Slot) : Prop := ∃ l, lv_has ls nL l ∧ zF2 (zLq ad b) lo l
theorem zLR_get {ad : List Nat} {b : Nat → Value} {nL : Nat} {lo : zLo} {ls : Array Slot} (h : zLR ad b nL lo ls) {k : Nat} {v : Value} (hk : zas2 lo k = some v) : ∃ w, ls[k]? = some (.val w) ∧ zVR ad b v w := by
  obtain ⟨l, hl, hf⟩ := h
  obtain ⟨⟨k', w⟩, h1, h2, h3⟩ := zF2_mem hf _ (zas2_mem hk)
  dsimp only at h2 h3
  subst h2
  exact ⟨w, hl.2.2 _ h1, h3⟩
theorem zL_s1 {ad : List Nat} {b : Nat → Value} {lo : zLo} {l : List (Nat × Value)} (i : Nat) {v w : Value} (hv : zVR ad b v w) (h : zF2 (zLq ad b) lo l) : zF2 (zLq ad b) (zs1 lo i v) ((i, w) :: l.filter (fun q => !(q.1 == i) && !(q.1 + 1 == i && q.2.category == 2))) := by
  refine zF2_c ⟨rfl, hv⟩ (zF2_flt (fun a c hac => ?_) h)
  rw [hac.1, zVR_cat hac.2]
theorem zL_s2 {ad : List Nat} {b : Nat → Value} {lo : zLo} {l : List (Nat × Value)} (i : Nat) {v w : Value} (hv : zVR ad b v w) (h : zF2 (zLq ad b) lo l) : zF2 (zLq ad b) (zs2 lo i v) ((i, w) :: l.filter (fun q => !(q.1 == i) && (!(q.1 == i + 1) && !(q.1 + 1 == i && q.2.category == 2)))) := by
  refine zF2_c ⟨rfl, hv⟩ (zF2_flt (fun a c hac => ?_) h)
  rw [hac.1, zVR_cat hac.2]
theorem zLR_more {ad : List Nat} {b : Nat → Value} {nL : Nat} {lo : zLo} {ls : Array Slot} (t : List Nat) (h : zLR ad b nL lo ls) : zLR (ad ++ t) b nL lo ls := by
  obtain ⟨l, hl, hf⟩ := h
  exact ⟨l, hl, zF2_mono (fun a c hac => ⟨hac.1, zVR_more t hac.2⟩) hf⟩
theorem zSR_more {ad : List Nat} {b : Nat → Value} {r l : List Value} (t : List Nat) (h : zSR ad b r l) : zSR (ad ++ t) b r l := zF2_mono (fun _ _ hac => zVR_more t hac) h
theorem zL_args {ad : List Nat} {b : Nat → Value} : ∀ {as vs : List Value} (i : Nat), zSR ad b as vs → zF2 (zLq ad b) (lv_args i as) (lv_args i vs)
  | [], [], _, _ => True.intro
  | v :: as, w :: vs, i, h => by
    simp only [lv_args]
    rw [zVR_cat h.1]
    exact zF2_c ⟨rfl, h.1⟩ (zL_args _ h.2)
theorem zL_sl {ad : List Nat} {b : Nat → Value} : ∀ {as vs : List Value}, zSR ad b as vs → (lg_sl vs).length = (lg_sl as).length
  | [], [], _ => rfl
  | v :: as, w :: vs, h => by
    have ih := zL_sl h.2
    have hc := zVR_cat h.1
    unfold lg_sl at ih ⊢
    rw [List.flatMap_cons, List.flatMap_cons, List.length_append, List.length_append, ih]
    by_cases h2 : v.category = 2
    · rw [if_pos h2, if_pos (hc.trans h2)]; rfl
    · rw [if_neg h2, if_neg (fun q => h2 (hc.symm.trans q))]; rfl
def zty (t : Nat) : FieldType := match t with
  | 0 => .int
  | 1 => .byte
  | 2 => .boolean
  | t + 3 => .object (match vwCl[t]? with
    | some r => r.1
    | none => "")
def zCR (ad : List Nat) (b : Nat → Value) (tys : List (ClassId × FieldType)) (c : zC) (e : va_E) : Prop := match c.1 with
  | .inr ci => ∃ fs, e = .inr (ci, fs) ∧ zSR ad b c.2 fs
  | .inl (t + 3) => ∃ cA f, e = .inl (cA, c.2.length, .inr (.inr (.inr (.inr f)))) ∧ (cA, zty (t + 3)) ∈ tys ∧ ∀ (j : Nat) (v : Value), c.2[j]? = some v → zVR ad b v (va_rf (f j))
  | .inl t => ∃ cA f, e = .inl (cA, c.2.length, .inl f) ∧ (cA, zty t) ∈ tys ∧ ∀ (j : Nat) (v : Value), c.2[j]? = some v → v = Value.int (f j)
theorem zCR_o {ad : List Nat} {b : Nat → Value} {ci : Nat} {tys : List (ClassId × FieldType)} {vs : List Value} {e : va_E} (h : zCR ad b tys (.inr ci, vs) e) : ∃ fs, e = .inr (ci, fs) ∧ zSR ad b vs fs := h
theorem zCR_q {ad : List Nat} {b : Nat → Value} {t : Nat} {tys : List (ClassId × FieldType)} {vs : List Value} {e : va_E} (h : zCR ad b tys (.inl (t + 3), vs) e) : ∃ cA f, e = .inl (cA, vs.length, .inr (.inr (.inr (.inr f)))) ∧ (cA, zty (t + 3)) ∈ tys ∧ ∀ (j : Nat) (v : Value), vs[j]? = some v → zVR ad b v (va_rf (f j)) := h
theorem zCR_p {ad : List Nat} {b : Nat → Value} {t : Nat} {tys : List (ClassId × FieldType)} {vs : List Value} {e : va_E} (ht : t < 3) (h : zCR ad b tys (.inl t, vs) e) : ∃ cA f, e = .inl (cA, vs.length, .inl f) ∧ (cA, zty t) ∈ tys ∧ ∀ (j : Nat) (v : Value), vs[j]? = some v → v = Value.int (f j) := by
  match t, ht, h with
  | 0, _, h => exact h
  | 1, _, h => exact h
  | 2, _, h => exact h
theorem zCR_more {ad : List Nat} {b : Nat → Value} {tys : List (ClassId × FieldType)} {c : zC} {e : va_E} (t : List Nat) (u : List (ClassId × FieldType)) (h : zCR ad b tys c e) : zCR (ad ++ t) b (tys ++ u) c e := by
  obtain ⟨k, vs⟩ := c
  match k, h with
  | .inr ci, h => obtain ⟨fs, h1, h2⟩ := zCR_o h; exact ⟨fs, h1, zSR_more t h2⟩
  | .inl 0, h => obtain ⟨cA, f, h1, h2, h3⟩ := zCR_p (t := 0) (by decide) h; exact ⟨cA, f, h1, List.mem_append_left _ h2, h3⟩
  | .inl 1, h => obtain ⟨cA, f, h1, h2, h3⟩ := zCR_p (t := 1) (by decide) h; exact ⟨cA, f, h1, List.mem_append_left _ h2, h3⟩
  | .inl 2, h => obtain ⟨cA, f, h1, h2, h3⟩ := zCR_p (t := 2) (by decide) h; exact ⟨cA, f, h1, List.mem_append_left _ h2, h3⟩
  | .inl (k + 3), h => obtain ⟨cA, f, h1, h2, h3⟩ := zCR_q h; exact ⟨cA, f, h1, List.mem_append_left _ h2, fun j v hj => zVR_more t (h3 j v hj)⟩
def zWR (ad : List Nat) (b : Nat → Value) (tys : List (ClassId × FieldType)) (h : zHp) (ws : va_W) : Prop := ws.map (fun q => q.1) = ad ∧ ws.length = h.length ∧ ∀ (k : Nat) (c : zC), h[k]? = some c → ∃ q, ws[k]? = some q ∧ zCR ad b tys c q.2
theorem zWR_at {ad : List Nat} {b : Nat → Value} {tys : List (ClassId × FieldType)} {h : zHp} {ws : va_W} (H : zWR ad b tys h ws) {k a : Nat} {c : zC} (hk : h[k]? = some c) (ha : ad[k]? = some a) : ∃ e, ws[k]? = some (a, e) ∧ zCR ad b tys c e := by
  obtain ⟨q, h1, h2⟩ := H.2.2 k c hk
  have h3 : (ws.map (fun q => q.1))[k]? = some a := by rw [H.1]; exact ha
  rw [List.getElem?_map, h1] at h3
  have h4 : q.1 = a := by simpa using h3
  subst h4
  exact ⟨q.2, h1, h2⟩
theorem zWR_put {ad : List Nat} {b : Nat → Value} {tys : List (ClassId × FieldType)} {h : zHp} {ws : va_W} (H : zWR ad b tys h ws) {k a : Nat} {e e' : va_E} {c' : zC} (hk : ws[k]? = some (a, e)) (hc : zCR ad b tys c' e') : zWR ad b tys (h.set k c') (ws.set k (a, e')) := by
  have hlt : k < ws.length := (List.getElem?_eq_some_iff.mp hk).1
  refine ⟨?_, by rw [List.length_set, List.length_set]; exact H.2.1, fun j c hj => ?_⟩
  · rw [List.map_set, H.1]
    refine List.ext_getElem? fun j => ?_
    by_cases hjk : k = j
    · subst hjk
      have h3 : (ws.map (fun q => q.1))[k]? = some a := by rw [List.getElem?_map, hk]; rfl
      rw [H.1] at h3
      rw [List.getElem?_set_self (List.getElem?_eq_some_iff.mp h3).1, h3]
    · rw [List.getElem?_set_ne hjk]
  · by_cases hjk : k = j
    · subst hjk
      have hl2 : k < h.length := by rw [← H.2.1]; exact hlt
      rw [List.getElem?_set_self hl2] at hj
      cases hj
      exact ⟨(a, e'), List.getElem?_set_self hlt, hc⟩
    · rw [List.getElem?_set_ne hjk] at hj
      obtain ⟨q, h1, h2⟩ := H.2.2 j c hj
      exact ⟨q, by rw [List.getElem?_set_ne hjk]; exact h1, h2⟩
theorem zWR_push {ad : List Nat} {b : Nat → Value} {tys : List (ClassId × FieldType)} {h : zHp} {ws : va_W} (H : zWR ad b tys h ws) {q : Nat} {e : va_E} {c : zC} (u : List (ClassId × FieldType)) (hc : zCR (ad ++ [q]) b (tys ++ u) c e) : zWR (ad ++ [q]) b (tys ++ u) (h ++ [c]) (ws ++ [(q, e)]) := by
  refine ⟨by rw [List.map_append, H.1]; rfl, by rw [List.length_append, List.length_append, H.2.1]; rfl, fun j c' hj => ?_⟩
  by_cases hl : j < h.length
  · rw [List.getElem?_append_left hl] at hj
    obtain ⟨q', h1, h2⟩ := H.2.2 j c' hj
    exact ⟨q', by rw [List.getElem?_append_left (by rw [H.2.1]; exact hl)]; exact h1, zCR_more _ _ h2⟩
  · rw [List.getElem?_append_right (by omega)] at hj
    have hz : j - h.length < 1 := (List.getElem?_eq_some_iff.mp hj).1
    have hj0 : j = h.length := by omega
    subst hj0
    rw [Nat.sub_self] at hj
    cases hj
    exact ⟨(q, e), by rw [List.getElem?_append_right (by rw [H.2.1]; exact Nat.le_refl _), H.2.1, Nat.sub_self]; rfl, hc⟩
theorem zWR_adl {ad : List Nat} {b : Nat → Value} {tys : List (ClassId × FieldType)} {h : zHp} {ws : va_W} (H : zWR ad b tys h ws) : ad.length = h.length := by rw [← H.1, List.length_map]; exact H.2.1
def zNs : List Cond := [.methodLinkNest "HandLock" 11 ⟨"HandLock$Reader", "<init>", "()V"⟩ "HandLock", .methodLinkNest "HandLock$Lock" 25 ⟨"HandLock$Person", "<init>", "()V"⟩ "HandLock", .methodLinkNest "HandLock" 25 ⟨"HandLock$Rehearsal", "<init>", "()V"⟩ "HandLock", .methodLinkNest "HandLock" 32 ⟨"HandLock$Search", "<init>", "()V"⟩ "HandLock", .methodLinkNest "HandLock" 39 ⟨"HandLock$Sightings", "<init>", "()V"⟩ "HandLock", .methodLinkNest "HandLock" 58 ⟨"HandLock$Sheet", "<init>", "()V"⟩ "HandLock"]
/-- what stands outside of the cells: the script, the literals and their bytes, one static of the JDK's -/
def zTx (i : Nat) : Nat × String := match i with
  | 0 => (143, "plain")
  | 1 => (145, "gloved")
  | 2 => (147, "child")
  | 3 => (149, "master")
  | 4 => (151, "left")
  | 5 => (153, "slack")
  | _ => (154, "plan")
def zXt (b : Nat → Value) (A : Nat → Prop) (U : State) (H : Heap) : Prop := ∃ adK adV : Nat → Nat, vk_S 7 zlen zbyt adK adV A U H ∧ (∀ i : Nat, i < 7 → b (2 * i + 1) = .ref (adK i) ∧ b (2 * i + 2) = .ref (adV i) ∧ vk_R "HandLock$Reader" (zTx i).1 (zTx i).2 (adK i) U) ∧ va_Z "java/lang/String" "COMPACT_STRINGS" "Z" (.int 1) A U H ∧ va_Z "jdk/internal/util/Preconditions" "SIOOBE_FORMATTER" "Ljava/util/function/BiFunction;" (b 20) A U H ∧ ((∃ a, b 20 = .ref a) ∨ b 20 = .null)
theorem zXt_go {b : Nat → Value} {A A1 : Nat → Prop} {s U : State} {H : Heap} (hX : zXt b A s s.heap) (hk : ∀ q : Nat, q < s.heap.size → ¬ A q → H[q]? = s.heap[q]?) (hA : ∀ q, A1 q → A q) (hw : s.WarmedH U.vm) : zXt b A1 U H := by
  obtain ⟨adK, adV, h1, h2, h3, h4, h5⟩ := hX
  exact ⟨adK, adV, ((h1.kept hk).narrow hA).moved hw.alike, fun i hi => ⟨(h2 i hi).1, (h2 i hi).2.1, (h2 i hi).2.2.warm hw⟩, ((h3.kept hk).narrow hA).moved hw.alike, ((h4.kept hk).narrow hA).moved hw.alike, h5⟩
theorem zXt_same {b : Nat → Value} {A : Nat → Prop} {u U : State} {H : Heap} (hv : U.vm = u.vm) (hX : zXt b A u H) : zXt b A U H := by
  obtain ⟨adK, adV, h1, h2, h3, h4, h5⟩ := hX
  have hal : u.vm.Alike U.vm := by rw [hv]; exact Vm.Alike.refl u.vm
  exact ⟨adK, adV, h1.moved hal, fun i hi => ⟨(h2 i hi).1, (h2 i hi).2.1, (h2 i hi).2.2.same hv⟩, h3.moved hal, h4.moved hal, h5⟩
