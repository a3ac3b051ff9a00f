/-! the steps, read backwards -/
section
variable {sc : Option (List Int32)} {d : Nat} {mi : zMi} {pc q : Nat} {L sk : List Value} {m : zM} {r : Option Value} {h' : zHp}
/-- a step that looks at neither locals nor places -/
theorem i_p {ins : Instr} {len : Nat} {sk1 : List Value} (H : zE sc d mi pc L sk m r h') (hi : zin mi.2.2.2.2.2 pc = some (ins, len)) (hz : ∀ lo, zst sc mi ins len pc lo sk (zhp m) = some (.inl (q, lo, sk1, zhp m))) : zE sc d mi q L sk1 m r h' := by
  obtain ⟨lo, h1, h2⟩ := H
  exact ⟨lo, h1, zEv_i1 h2 ((zstep_of hi).trans (hz lo))⟩
theorem i_w (bs : List Bool) (H : zE sc d mi pc L sk m r h') : zE sc d mi pc (List.zipWith (fun v b => bif b then v else .null) L bs) sk m r h' := by
  obtain ⟨lo, h1, h2⟩ := H
  refine ⟨lo, fun k v hk hn => ?_, h2⟩
  rw [List.getElem?_zipWith] at hk
  cases ha : L[k]? with
  | none => rw [ha] at hk; simp at hk
  | some a =>
    cases hb : bs[k]? with
    | none => rw [ha, hb] at hk; simp at hk
    | some b =>
      rw [ha, hb] at hk
      cases b with
      | false => simp only [cond_false, Option.some.injEq] at hk; exact absurd hk.symm hn
      | true => simp only [cond_true, Option.some.injEq] at hk; subst hk; exact h1 k _ ha hn
theorem i_iln {k : Fin 4} {x : Int32} (H : zE sc d mi pc L sk m r h') (hi : zin mi.2.2.2.2.2 pc = some (.iload_n k, 1)) (hl : L[k.val]? = some (.int x)) (hq : pc + 1 = q) : zE sc d mi q L (.int x :: sk) m r h' := by
  obtain ⟨lo, h1, h2⟩ := H
  refine ⟨lo, h1, zEv_i1 h2 ((zstep_of hi).trans ?_)⟩
  have e := h1 _ _ hl (by simp)
  subst hq
  simp [zst, zg, e, zpi]
theorem i_il {k : Nat} {x : Int32} (H : zE sc d mi pc L sk m r h') (hi : zin mi.2.2.2.2.2 pc = some (.iload k, 2)) (hl : L[k]? = some (.int x)) (hq : pc + 2 = q) : zE sc d mi q L (.int x :: sk) m r h' := by
  obtain ⟨lo, h1, h2⟩ := H
  refine ⟨lo, h1, zEv_i1 h2 ((zstep_of hi).trans ?_)⟩
  have e := h1 _ _ hl (by simp)
  subst hq
  simp [zst, zg, e, zpi]
theorem i_lln {k : Fin 4} {x : Int64} (H : zE sc d mi pc L sk m r h') (hi : zin mi.2.2.2.2.2 pc = some (.lload_n k, 1)) (hl : L[k.val]? = some (.long x)) (hq : pc + 1 = q) : zE sc d mi q L (.long x :: sk) m r h' := by
  obtain ⟨lo, h1, h2⟩ := H
  refine ⟨lo, h1, zEv_i1 h2 ((zstep_of hi).trans ?_)⟩
  have e := h1 _ _ hl (by simp)
  subst hq
  simp [zst, zg, e, zpl]
theorem i_ll {k : Nat} {x : Int64} (H : zE sc d mi pc L sk m r h') (hi : zin mi.2.2.2.2.2 pc = some (.lload k, 2)) (hl : L[k]? = some (.long x)) (hq : pc + 2 = q) : zE sc d mi q L (.long x :: sk) m r h' := by
  obtain ⟨lo, h1, h2⟩ := H
  refine ⟨lo, h1, zEv_i1 h2 ((zstep_of hi).trans ?_)⟩
  have e := h1 _ _ hl (by simp)
  subst hq
  simp [zst, zg, e, zpl]
theorem i_aln {k : Fin 4} {x : Nat} (H : zE sc d mi pc L sk m r h') (hi : zin mi.2.2.2.2.2 pc = some (.aload_n k, 1)) (hl : L[k.val]? = some (.ref x)) (hq : pc + 1 = q) : zE sc d mi q L (.ref x :: sk) m r h' := by
  obtain ⟨lo, h1, h2⟩ := H
  refine ⟨lo, h1, zEv_i1 h2 ((zstep_of hi).trans ?_)⟩
  have e := h1 _ _ hl (by simp)
  subst hq
  simp [zst, zg, e, zisr, zgb]
theorem i_al {k : Nat} {x : Nat} (H : zE sc d mi pc L sk m r h') (hi : zin mi.2.2.2.2.2 pc = some (.aload k, 2)) (hl : L[k]? = some (.ref x)) (hq : pc + 2 = q) : zE sc d mi q L (.ref x :: sk) m r h' := by
  obtain ⟨lo, h1, h2⟩ := H
  refine ⟨lo, h1, zEv_i1 h2 ((zstep_of hi).trans ?_)⟩
  have e := h1 _ _ hl (by simp)
  subst hq
  simp [zst, zg, e, zisr, zgb]
theorem i_xln {k : Fin 4} {x : Nat} (H : zE sc d mi pc L sk m r h') (hi : zin mi.2.2.2.2.2 pc = some (.aload_n k, 1)) (hl : L[k.val]? = some (.retAddr x)) (hq : pc + 1 = q) : zE sc d mi q L (.retAddr x :: sk) m r h' := by
  obtain ⟨lo, h1, h2⟩ := H
  refine ⟨lo, h1, zEv_i1 h2 ((zstep_of hi).trans ?_)⟩
  have e := h1 _ _ hl (by simp)
  subst hq
  simp [zst, zg, e, zisr, zgb]
theorem i_isn {k : Fin 4} {x : Int32} (H : zE sc d mi pc L (.int x :: sk) m r h') (hi : zin mi.2.2.2.2.2 pc = some (.istore_n k, 1)) (hk : zok1 L k.val = true) (hq : pc + 1 = q) : zE sc d mi q (L.set k.val (.int x)) sk m r h' := by
  obtain ⟨lo, h1, h2⟩ := H
  obtain ⟨y, hy⟩ := zEv_is h2
  rw [zstep_of hi] at hy
  refine ⟨_, zcp_s1 h1 hk, zEv_i1 h2 ((zstep_of hi).trans ?_)⟩
  subst hq
  simp only [zst, zg, if_true, Option.bind_some, zpi, Option.bind_eq_some_iff] at hy ⊢
  obtain ⟨u, hu, _⟩ := hy
  exact ⟨u, hu, by trivial⟩
theorem i_is {k : Nat} {x : Int32} (H : zE sc d mi pc L (.int x :: sk) m r h') (hi : zin mi.2.2.2.2.2 pc = some (.istore k, 2)) (hk : zok1 L k = true) (hq : pc + 2 = q) : zE sc d mi q (L.set k (.int x)) sk m r h' := by
  obtain ⟨lo, h1, h2⟩ := H
  obtain ⟨y, hy⟩ := zEv_is h2
  rw [zstep_of hi] at hy
  refine ⟨_, zcp_s1 h1 hk, zEv_i1 h2 ((zstep_of hi).trans ?_)⟩
  subst hq
  simp only [zst, zg, if_true, Option.bind_some, zpi, Option.bind_eq_some_iff] at hy ⊢
  obtain ⟨u, hu, _⟩ := hy
  exact ⟨u, hu, by trivial⟩
theorem i_asn {k : Fin 4} {x : Nat} (H : zE sc d mi pc L (.ref x :: sk) m r h') (hi : zin mi.2.2.2.2.2 pc = some (.astore_n k, 1)) (hk : zok1 L k.val = true) (hq : pc + 1 = q) : zE sc d mi q (L.set k.val (.ref x)) sk m r h' := by
  obtain ⟨lo, h1, h2⟩ := H
  obtain ⟨y, hy⟩ := zEv_is h2
  rw [zstep_of hi] at hy
  refine ⟨_, zcp_s1 h1 hk, zEv_i1 h2 ((zstep_of hi).trans ?_)⟩
  subst hq
  simp only [zst, zg, if_true, Option.bind_some, zpr, Option.bind_eq_some_iff] at hy ⊢
  obtain ⟨u, hu, _⟩ := hy
  exact ⟨u, hu, by trivial⟩
theorem i_as {k : Nat} {x : Nat} (H : zE sc d mi pc L (.ref x :: sk) m r h') (hi : zin mi.2.2.2.2.2 pc = some (.astore k, 2)) (hk : zok1 L k = true) (hq : pc + 2 = q) : zE sc d mi q (L.set k (.ref x)) sk m r h' := by
  obtain ⟨lo, h1, h2⟩ := H
  obtain ⟨y, hy⟩ := zEv_is h2
  rw [zstep_of hi] at hy
  refine ⟨_, zcp_s1 h1 hk, zEv_i1 h2 ((zstep_of hi).trans ?_)⟩
  subst hq
  simp only [zst, zg, if_true, Option.bind_some, zpr, Option.bind_eq_some_iff] at hy ⊢
  obtain ⟨u, hu, _⟩ := hy
  exact ⟨u, hu, by trivial⟩
theorem i_lsn {k : Fin 4} {x : Int64} (H : zE sc d mi pc L (.long x :: sk) m r h') (hi : zin mi.2.2.2.2.2 pc = some (.lstore_n k, 1)) (hk : zok1 L k.val = true) (hq : pc + 1 = q) : zE sc d mi q ((L.set k.val (.long x)).set (k.val + 1) .null) sk m r h' := by
  obtain ⟨lo, h1, h2⟩ := H
  obtain ⟨y, hy⟩ := zEv_is h2
  rw [zstep_of hi] at hy
  refine ⟨_, zcp_s2 h1 hk, zEv_i1 h2 ((zstep_of hi).trans ?_)⟩
  subst hq
  simp only [zst, zg, if_true, Option.bind_some, zpl, Option.bind_eq_some_iff] at hy ⊢
  obtain ⟨u, hu, _⟩ := hy
  exact ⟨u, hu, by trivial⟩
theorem i_ls {k : Nat} {x : Int64} (H : zE sc d mi pc L (.long x :: sk) m r h') (hi : zin mi.2.2.2.2.2 pc = some (.lstore k, 2)) (hk : zok1 L k = true) (hq : pc + 2 = q) : zE sc d mi q ((L.set k (.long x)).set (k + 1) .null) sk m r h' := by
  obtain ⟨lo, h1, h2⟩ := H
  obtain ⟨y, hy⟩ := zEv_is h2
  rw [zstep_of hi] at hy
  refine ⟨_, zcp_s2 h1 hk, zEv_i1 h2 ((zstep_of hi).trans ?_)⟩
  subst hq
  simp only [zst, zg, if_true, Option.bind_some, zpl, Option.bind_eq_some_iff] at hy ⊢
  obtain ⟨u, hu, _⟩ := hy
  exact ⟨u, hu, by trivial⟩
theorem i_inc {k : Nat} {n : Int} {x : Int32} (H : zE sc d mi pc L sk m r h') (hi : zin mi.2.2.2.2.2 pc = some (.iinc k n, 3)) (hl : L[k]? = some (.int x)) (hk : zok1 L k = true) (hq : pc + 3 = q) : zE sc d mi q (L.set k (.int (x + Int32.ofInt n))) sk m r h' := by
  obtain ⟨lo, h1, h2⟩ := H
  obtain ⟨y, hy⟩ := zEv_is h2
  rw [zstep_of hi] at hy
  have e := h1 _ _ hl (by simp)
  refine ⟨_, zcp_s1 h1 hk, zEv_i1 h2 ((zstep_of hi).trans ?_)⟩
  subst hq
  simp only [zst, zg, if_true, Option.bind_some, e, zpi, Option.bind_eq_some_iff] at hy ⊢
  obtain ⟨u, hu, _⟩ := hy
  exact ⟨u, hu, by trivial⟩
theorem i_goto {off : Int} (H : zE sc d mi pc L sk m r h') (hi : zin mi.2.2.2.2.2 pc = some (.goto off, 3)) (ht : zjp pc off = some q) : zE sc d mi q L sk m r h' := by
  obtain ⟨lo, h1, h2⟩ := H
  refine ⟨lo, h1, zEv_i1 h2 ((zstep_of hi).trans ?_)⟩
  simp [zst, zg, ht]
theorem i_if0 {cd : Jvm.ClassFile.Cond} {off : Int} {x : Int32} {t : Nat} (H : zE sc d mi pc L (.int x :: sk) m r h') (hi : zin mi.2.2.2.2.2 pc = some (.ifCond cd off, 3)) (ht : zjp pc off = some t) (hq : pc + 3 = q) : (zcd cd x 0 = true ∧ zE sc d mi t L sk m r h') ∨ (zcd cd x 0 = false ∧ zE sc d mi q L sk m r h') := by
  obtain ⟨lo, h1, h2⟩ := H
  subst hq
  cases hc : zcd cd x 0 with
  | true =>
    refine Or.inl ⟨rfl, lo, h1, zEv_i1 h2 ((zstep_of hi).trans ?_)⟩
    simp [zst, zg, ht, zpi, hc]
  | false =>
    refine Or.inr ⟨rfl, lo, h1, zEv_i1 h2 ((zstep_of hi).trans ?_)⟩
    simp [zst, zg, ht, zpi, hc]
theorem i_ic0 {cd : Jvm.ClassFile.Cond} {off : Int} {x y : Int32} {t : Nat} (H : zE sc d mi pc L (.int y :: .int x :: sk) m r h') (hi : zin mi.2.2.2.2.2 pc = some (.if_icmp cd off, 3)) (ht : zjp pc off = some t) (hq : pc + 3 = q) : (zcd cd x y = true ∧ zE sc d mi t L sk m r h') ∨ (zcd cd x y = false ∧ zE sc d mi q L sk m r h') := by
  obtain ⟨lo, h1, h2⟩ := H
  subst hq
  cases hc : zcd cd x y with
  | true =>
    refine Or.inl ⟨rfl, lo, h1, zEv_i1 h2 ((zstep_of hi).trans ?_)⟩
    simp [zst, zg, ht, zpi, hc]
  | false =>
    refine Or.inr ⟨rfl, lo, h1, zEv_i1 h2 ((zstep_of hi).trans ?_)⟩
    simp [zst, zg, ht, zpi, hc]
theorem zcd_eq {x y : Int32} : (zcd .eq x y = true → x = y) ∧ (zcd .eq x y = false → ¬ x = y) := by
  constructor <;> (intro h; simp [zcd] at h ⊢; first | exact h | simpa using h)
theorem i_if_eq {off : Int} {x : Int32} {t : Nat} (H : zE sc d mi pc L (.int x :: sk) m r h') (hi : zin mi.2.2.2.2.2 pc = some (.ifCond .eq off, 3)) (ht : zjp pc off = some t) (hq : pc + 3 = q) : (x = 0 ∧ zE sc d mi t L sk m r h') ∨ (¬ x = 0 ∧ zE sc d mi q L sk m r h') := by
  rcases i_if0 H hi ht hq with ⟨c, H⟩ | ⟨c, H⟩
  · exact Or.inl ⟨zcd_eq.1 c, H⟩
  · exact Or.inr ⟨zcd_eq.2 c, H⟩
theorem i_ic_eq {off : Int} {x y : Int32} {t : Nat} (H : zE sc d mi pc L (.int y :: .int x :: sk) m r h') (hi : zin mi.2.2.2.2.2 pc = some (.if_icmp .eq off, 3)) (ht : zjp pc off = some t) (hq : pc + 3 = q) : (x = y ∧ zE sc d mi t L sk m r h') ∨ (¬ x = y ∧ zE sc d mi q L sk m r h') := by
  rcases i_ic0 H hi ht hq with ⟨c, H⟩ | ⟨c, H⟩
  · exact Or.inl ⟨zcd_eq.1 c, H⟩
  · exact Or.inr ⟨zcd_eq.2 c, H⟩
theorem zcd_ne {x y : Int32} : (zcd .ne x y = true → ¬ x = y) ∧ (zcd .ne x y = false → x = y) := by
  constructor <;> (intro h; simp [zcd] at h ⊢; first | exact h | simpa using h)
theorem i_if_ne {off : Int} {x : Int32} {t : Nat} (H : zE sc d mi pc L (.int x :: sk) m r h') (hi : zin mi.2.2.2.2.2 pc = some (.ifCond .ne off, 3)) (ht : zjp pc off = some t) (hq : pc + 3 = q) : (¬ x = 0 ∧ zE sc d mi t L sk m r h') ∨ (x = 0 ∧ zE sc d mi q L sk m r h') := by
  rcases i_if0 H hi ht hq with ⟨c, H⟩ | ⟨c, H⟩
  · exact Or.inl ⟨zcd_ne.1 c, H⟩
  · exact Or.inr ⟨zcd_ne.2 c, H⟩
theorem i_ic_ne {off : Int} {x y : Int32} {t : Nat} (H : zE sc d mi pc L (.int y :: .int x :: sk) m r h') (hi : zin mi.2.2.2.2.2 pc = some (.if_icmp .ne off, 3)) (ht : zjp pc off = some t) (hq : pc + 3 = q) : (¬ x = y ∧ zE sc d mi t L sk m r h') ∨ (x = y ∧ zE sc d mi q L sk m r h') := by
  rcases i_ic0 H hi ht hq with ⟨c, H⟩ | ⟨c, H⟩
  · exact Or.inl ⟨zcd_ne.1 c, H⟩
  · exact Or.inr ⟨zcd_ne.2 c, H⟩
theorem zcd_lt {x y : Int32} : (zcd .lt x y = true → x < y) ∧ (zcd .lt x y = false → ¬ x < y) := by
  constructor <;> (intro h; simp [zcd] at h ⊢; first | exact h | simpa using h)
theorem i_if_lt {off : Int} {x : Int32} {t : Nat} (H : zE sc d mi pc L (.int x :: sk) m r h') (hi : zin mi.2.2.2.2.2 pc = some (.ifCond .lt off, 3)) (ht : zjp pc off = some t) (hq : pc + 3 = q) : (x < 0 ∧ zE sc d mi t L sk m r h') ∨ (¬ x < 0 ∧ zE sc d mi q L sk m r h') := by
  rcases i_if0 H hi ht hq with ⟨c, H⟩ | ⟨c, H⟩
  · exact Or.inl ⟨zcd_lt.1 c, H⟩
  · exact Or.inr ⟨zcd_lt.2 c, H⟩
theorem i_ic_lt {off : Int} {x y : Int32} {t : Nat} (H : zE sc d mi pc L (.int y :: .int x :: sk) m r h') (hi : zin mi.2.2.2.2.2 pc = some (.if_icmp .lt off, 3)) (ht : zjp pc off = some t) (hq : pc + 3 = q) : (x < y ∧ zE sc d mi t L sk m r h') ∨ (¬ x < y ∧ zE sc d mi q L sk m r h') := by
  rcases i_ic0 H hi ht hq with ⟨c, H⟩ | ⟨c, H⟩
  · exact Or.inl ⟨zcd_lt.1 c, H⟩
  · exact Or.inr ⟨zcd_lt.2 c, H⟩
theorem zcd_ge {x y : Int32} : (zcd .ge x y = true → ¬ x < y) ∧ (zcd .ge x y = false → x < y) := by
  constructor <;> (intro h; simp [zcd] at h ⊢; first | exact h | simpa using h)
theorem i_if_ge {off : Int} {x : Int32} {t : Nat} (H : zE sc d mi pc L (.int x :: sk) m r h') (hi : zin mi.2.2.2.2.2 pc = some (.ifCond .ge off, 3)) (ht : zjp pc off = some t) (hq : pc + 3 = q) : (¬ x < 0 ∧ zE sc d mi t L sk m r h') ∨ (x < 0 ∧ zE sc d mi q L sk m r h') := by
  rcases i_if0 H hi ht hq with ⟨c, H⟩ | ⟨c, H⟩
  · exact Or.inl ⟨zcd_ge.1 c, H⟩
  · exact Or.inr ⟨zcd_ge.2 c, H⟩
theorem i_ic_ge {off : Int} {x y : Int32} {t : Nat} (H : zE sc d mi pc L (.int y :: .int x :: sk) m r h') (hi : zin mi.2.2.2.2.2 pc = some (.if_icmp .ge off, 3)) (ht : zjp pc off = some t) (hq : pc + 3 = q) : (¬ x < y ∧ zE sc d mi t L sk m r h') ∨ (x < y ∧ zE sc d mi q L sk m r h') := by
  rcases i_ic0 H hi ht hq with ⟨c, H⟩ | ⟨c, H⟩
  · exact Or.inl ⟨zcd_ge.1 c, H⟩
  · exact Or.inr ⟨zcd_ge.2 c, H⟩
theorem zcd_gt {x y : Int32} : (zcd .gt x y = true → y < x) ∧ (zcd .gt x y = false → ¬ y < x) := by
  constructor <;> (intro h; simp [zcd] at h ⊢; first | exact h | simpa using h)
theorem i_if_gt {off : Int} {x : Int32} {t : Nat} (H : zE sc d mi pc L (.int x :: sk) m r h') (hi : zin mi.2.2.2.2.2 pc = some (.ifCond .gt off, 3)) (ht : zjp pc off = some t) (hq : pc + 3 = q) : (0 < x ∧ zE sc d mi t L sk m r h') ∨ (¬ 0 < x ∧ zE sc d mi q L sk m r h') := by
  rcases i_if0 H hi ht hq with ⟨c, H⟩ | ⟨c, H⟩
  · exact Or.inl ⟨zcd_gt.1 c, H⟩
  · exact Or.inr ⟨zcd_gt.2 c, H⟩
theorem i_ic_gt {off : Int} {x y : Int32} {t : Nat} (H : zE sc d mi pc L (.int y :: .int x :: sk) m r h') (hi : zin mi.2.2.2.2.2 pc = some (.if_icmp .gt off, 3)) (ht : zjp pc off = some t) (hq : pc + 3 = q) : (y < x ∧ zE sc d mi t L sk m r h') ∨ (¬ y < x ∧ zE sc d mi q L sk m r h') := by
  rcases i_ic0 H hi ht hq with ⟨c, H⟩ | ⟨c, H⟩
  · exact Or.inl ⟨zcd_gt.1 c, H⟩
  · exact Or.inr ⟨zcd_gt.2 c, H⟩
theorem zcd_le {x y : Int32} : (zcd .le x y = true → ¬ y < x) ∧ (zcd .le x y = false → y < x) := by
  constructor <;> (intro h; simp [zcd] at h ⊢; first | exact h | simpa using h)
theorem i_if_le {off : Int} {x : Int32} {t : Nat} (H : zE sc d mi pc L (.int x :: sk) m r h') (hi : zin mi.2.2.2.2.2 pc = some (.ifCond .le off, 3)) (ht : zjp pc off = some t) (hq : pc + 3 = q) : (¬ 0 < x ∧ zE sc d mi t L sk m r h') ∨ (0 < x ∧ zE sc d mi q L sk m r h') := by
  rcases i_if0 H hi ht hq with ⟨c, H⟩ | ⟨c, H⟩
  · exact Or.inl ⟨zcd_le.1 c, H⟩
  · exact Or.inr ⟨zcd_le.2 c, H⟩
theorem i_ic_le {off : Int} {x y : Int32} {t : Nat} (H : zE sc d mi pc L (.int y :: .int x :: sk) m r h') (hi : zin mi.2.2.2.2.2 pc = some (.if_icmp .le off, 3)) (ht : zjp pc off = some t) (hq : pc + 3 = q) : (¬ y < x ∧ zE sc d mi t L sk m r h') ∨ (y < x ∧ zE sc d mi q L sk m r h') := by
  rcases i_ic0 H hi ht hq with ⟨c, H⟩ | ⟨c, H⟩
  · exact Or.inl ⟨zcd_le.1 c, H⟩
  · exact Or.inr ⟨zcd_le.2 c, H⟩
theorem i_tsd {df lw hg : Int} {offs : Array Int} {x : Int32} (H : zE sc d mi pc L (.int x :: sk) m r h') {len : Nat} (hi : zin mi.2.2.2.2.2 pc = some (.tableswitch df lw hg offs, len)) (hx : x.toInt < lw ∨ hg < x.toInt) (ht : zjp pc df = some q) : zE sc d mi q L sk m r h' := by
  obtain ⟨lo, h1, h2⟩ := H
  refine ⟨lo, h1, zEv_i1 h2 ((zstep_of hi).trans ?_)⟩
  simp [zst, zpi, hx, ht]
theorem i_tsj {df lw hg : Int} {offs : Array Int} {x : Int32} {len : Nat} {o : Int} (H : zE sc d mi pc L (.int x :: sk) m r h') (hi : zin mi.2.2.2.2.2 pc = some (.tableswitch df lw hg offs, len)) (hx : ¬ (x.toInt < lw ∨ hg < x.toInt)) (ho : offs[(x.toInt - lw).toNat]? = some o) (ht : zjp pc o = some q) : zE sc d mi q L sk m r h' := by
  obtain ⟨lo, h1, h2⟩ := H
  refine ⟨lo, h1, zEv_i1 h2 ((zstep_of hi).trans ?_)⟩
  simp only [zst, zpi, Option.bind_some]
  rw [if_neg hx, ho, Option.bind_some, ht, Option.bind_some]
theorem i_lks {df : Int} {ps : Array (Int × Int)} {x : Int32} {len : Nat} (H : zE sc d mi pc L (.int x :: sk) m r h') (hi : zin mi.2.2.2.2.2 pc = some (.lookupswitch df ps, len)) (ht : zjp pc (Op.lookupswitch.offset ps.toList df x.toInt) = some q) : zE sc d mi q L sk m r h' := by
  obtain ⟨lo, h1, h2⟩ := H
  obtain ⟨y, hy⟩ := zEv_is h2
  rw [zstep_of hi] at hy
  refine ⟨lo, h1, zEv_i1 h2 ((zstep_of hi).trans ?_)⟩
  simp only [zst, zpi, Option.bind_some, ht, Option.bind_eq_some_iff] at hy ⊢
  obtain ⟨u, hu, _⟩ := hy
  exact ⟨u, hu, by trivial⟩
theorem i_gf {i a : Nat} {ci fi ei : Nat} {c : zLc} {o : Option Value} (H : zE sc d mi pc L (.ref a :: sk) m r h') (hi : zin mi.2.2.2.2.2 pc = some (.getfield i, 3)) (hf : zlk zfls mi.2.2.2.2.1 i = some (ci, fi, ei)) (hn : mi.2.2.2.2.1 ≠ 12) (hc : zLY[a]? = some c) (ho : c.2[fi]? = some o) (hq : pc + 3 = q) : zE sc d mi q L (o.getD (.int (m a fi)) :: sk) m r h' := by
  obtain ⟨lo, h1, h2⟩ := H
  obtain ⟨y, hy⟩ := zEv_is h2
  rw [zstep_of hi] at hy
  refine ⟨lo, h1, zEv_i1 h2 ((zstep_of hi).trans ?_)⟩
  subst hq
  have e2 : (zhpc (m a) 0 c.2)[fi]? = some (o.getD (.int (m a fi))) := by
    rw [zhpc_get, ho, Nat.zero_add]
    rfl
  simp only [zst, zg, if_true, Option.bind_some, if_neg hn, zpr, hf, zhp_get hc, Option.bind_eq_some_iff, e2] at hy ⊢
  obtain ⟨u, hu, _⟩ := hy
  exact ⟨u, hu, by trivial⟩
theorem i_gfi {i a : Nat} {ci fi ei : Nat} {c : zLc} (H : zE sc d mi pc L (.ref a :: sk) m r h') (hi : zin mi.2.2.2.2.2 pc = some (.getfield i, 3)) (hf : zlk zfls mi.2.2.2.2.1 i = some (ci, fi, ei)) (hn : mi.2.2.2.2.1 ≠ 12) (hc : zLY[a]? = some c) (ho : c.2[fi]? = some none) (hq : pc + 3 = q) : zE sc d mi q L (.int (m a fi) :: sk) m r h' := i_gf H hi hf hn hc ho hq
theorem i_gfr {i a : Nat} {ci fi ei : Nat} {c : zLc} {v : Value} (H : zE sc d mi pc L (.ref a :: sk) m r h') (hi : zin mi.2.2.2.2.2 pc = some (.getfield i, 3)) (hf : zlk zfls mi.2.2.2.2.1 i = some (ci, fi, ei)) (hn : mi.2.2.2.2.1 ≠ 12) (hc : zLY[a]? = some c) (ho : c.2[fi]? = some (some v)) (hq : pc + 3 = q) : zE sc d mi q L (v :: sk) m r h' := i_gf H hi hf hn hc ho hq
theorem i_pf {i a : Nat} {ci fi ei : Nat} {c : zLc} {v : Int32} (H : zE sc d mi pc L (.int v :: .ref a :: sk) m r h') (hi : zin mi.2.2.2.2.2 pc = some (.putfield i, 3)) (hf : zlk zfls mi.2.2.2.2.1 i = some (ci, fi, ei)) (hn : mi.2.2.2.2.1 ≠ 12) (hc : zLY[a]? = some c) (ho : c.2[fi]? = some none) (hq : pc + 3 = q) : zE sc d mi q L sk (zup m a fi v) r h' := by
  obtain ⟨lo, h1, h2⟩ := H
  obtain ⟨y, hy⟩ := zEv_is h2
  rw [zstep_of hi] at hy
  refine ⟨lo, h1, zEv_i1 h2 ((zstep_of hi).trans ?_)⟩
  subst hq
  simp only [zst, zg, if_true, Option.bind_some, zp1, Value.category, zpr, hf, zhp_get hc, Option.bind_eq_some_iff] at hy ⊢
  obtain ⟨u, hu, ty, hty, u2, hu2, _⟩ := hy
  exact ⟨u, hu, ty, hty, u2, hu2, by rw [zhp_set hc ho]⟩
theorem zix_n {x : Int32} {n : Nat} (h : zix x n = true) : x = Int32.ofNat x.toNatClampNeg ∧ x.toNatClampNeg < n := by
  simp only [zix, Bool.and_eq_true, Bool.not_eq_true', decide_eq_false_iff_not, decide_eq_true_eq, Int32.not_lt] at h
  exact ⟨(Int32.ofNat_toNatClampNeg x h.1).symm, h.2⟩
theorem zrp_get {n i : Nat} (h : i < n) : (List.replicate n (none : Option Value))[i]? = some none := by
  rw [List.getElem?_replicate, if_pos h]
theorem zrw_get {f : Nat → Int32} {n i : Nat} (h : i < n) : (zhpc f 0 (List.replicate n none))[i]? = some (.int (f i)) := by
  rw [zhpc_get, zrp_get h, Nat.zero_add]
  rfl
theorem i_ia {a n : Nat} {x : Int32} (H : zE sc d mi pc L (.int x :: .ref a :: sk) m r h') (hi : zin mi.2.2.2.2.2 pc = some (.iaload, 1)) {t : Nat ⊕ Nat} (hc : zLY[a]? = some (t, List.replicate n none)) (hq : pc + 1 = q) : ∃ i, i < n ∧ x = Int32.ofNat i ∧ zE sc d mi q L (.int (m a i) :: sk) m r h' := by
  obtain ⟨lo, h1, h2⟩ := H
  obtain ⟨y, hy⟩ := zEv_is h2
  rw [zstep_of hi] at hy
  have hy0 := hy
  simp only [zst, zg, if_true, Option.bind_some, zpi, zhp_get hc, Option.bind_eq_some_iff] at hy
  obtain ⟨u, hu, v, hv, hz⟩ := hy
  have e := zgb_some hu
  rw [Bool.and_eq_true, zhpc_len, List.length_replicate] at e
  obtain ⟨e1, e2⟩ := zix_n e.2
  refine ⟨x.toNatClampNeg, e2, e1, lo, h1, zEv_i1 h2 ((zstep_of hi).trans ?_)⟩
  rw [zrw_get e2] at hv
  cases hv
  rw [hy0, ← hz, ← hq]
theorem i_ba {a n : Nat} {x : Int32} (H : zE sc d mi pc L (.int x :: .ref a :: sk) m r h') (hi : zin mi.2.2.2.2.2 pc = some (.baload, 1)) {t : Nat ⊕ Nat} (hc : zLY[a]? = some (t, List.replicate n none)) (hq : pc + 1 = q) : ∃ i, i < n ∧ x = Int32.ofNat i ∧ zE sc d mi q L (.int (m a i) :: sk) m r h' := by
  obtain ⟨lo, h1, h2⟩ := H
  obtain ⟨y, hy⟩ := zEv_is h2
  rw [zstep_of hi] at hy
  have hy0 := hy
  simp only [zst, zg, if_true, Option.bind_some, zpi, zhp_get hc, Option.bind_eq_some_iff] at hy
  obtain ⟨u, hu, v, hv, hz⟩ := hy
  have e := zgb_some hu
  rw [Bool.and_eq_true, zhpc_len, List.length_replicate] at e
  obtain ⟨e1, e2⟩ := zix_n e.2
  refine ⟨x.toNatClampNeg, e2, e1, lo, h1, zEv_i1 h2 ((zstep_of hi).trans ?_)⟩
  rw [zrw_get e2] at hv
  cases hv
  rw [hy0, ← hz, ← hq]
theorem i_iast {a n : Nat} {x v : Int32} (H : zE sc d mi pc L (.int v :: .int x :: .ref a :: sk) m r h') (hi : zin mi.2.2.2.2.2 pc = some (.iastore, 1)) {t : Nat ⊕ Nat} (hc : zLY[a]? = some (t, List.replicate n none)) (hq : pc + 1 = q) : ∃ i, i < n ∧ x = Int32.ofNat i ∧ zE sc d mi q L sk (zup m a i v) r h' := by
  obtain ⟨lo, h1, h2⟩ := H
  obtain ⟨y, hy⟩ := zEv_is h2
  rw [zstep_of hi] at hy
  have hy0 := hy
  simp only [zst, zg, if_true, Option.bind_some, zpi, zpr, zhp_get hc, Option.bind_eq_some_iff] at hy
  obtain ⟨u, hu, hz⟩ := hy
  have e := zgb_some hu
  rw [Bool.and_eq_true, zhpc_len, List.length_replicate] at e
  obtain ⟨e1, e2⟩ := zix_n e.2
  refine ⟨x.toNatClampNeg, e2, e1, lo, h1, zEv_i1 h2 ((zstep_of hi).trans ?_)⟩
  rw [hy0, ← hz, ← hq, ← zhp_set hc (zrp_get e2)]
theorem i_bast {a n : Nat} {x v : Int32} (H : zE sc d mi pc L (.int v :: .int x :: .ref a :: sk) m r h') (hi : zin mi.2.2.2.2.2 pc = some (.bastore, 1)) {t : Nat ⊕ Nat} (hc : zLY[a]? = some (t, List.replicate n none)) (hq : pc + 1 = q) : ∃ i, i < n ∧ x = Int32.ofNat i ∧ zE sc d mi q L sk (zup m a i (vp_nar (if t = Sum.inl 1 then .byte else .boolean) v)) r h' := by
  obtain ⟨lo, h1, h2⟩ := H
  obtain ⟨y, hy⟩ := zEv_is h2
  rw [zstep_of hi] at hy
  have hy0 := hy
  simp only [zst, zg, if_true, Option.bind_some, zpi, zpr, zhp_get hc, Option.bind_eq_some_iff] at hy
  obtain ⟨u, hu, hz⟩ := hy
  have e := zgb_some hu
  rw [Bool.and_eq_true, zhpc_len, List.length_replicate] at e
  obtain ⟨e1, e2⟩ := zix_n e.2
  refine ⟨x.toNatClampNeg, e2, e1, lo, h1, zEv_i1 h2 ((zstep_of hi).trans ?_)⟩
  rw [hy0, ← hz, ← hq, ← zhp_set hc (zrp_get e2)]
theorem i_aa {a : Nat} {x : Int32} (H : zE sc d mi pc L (.int x :: .ref a :: sk) m r h') (hi : zin mi.2.2.2.2.2 pc = some (.aaload, 1)) {c : zLc} (hc : zLY[a]? = some c) (hq : pc + 1 = q) : ∃ i, i < c.2.length ∧ x = Int32.ofNat i ∧ ∀ v, c.2[i]? = some (some v) → zE sc d mi q L (v :: sk) m r h' := by
  obtain ⟨lo, h1, h2⟩ := H
  obtain ⟨y, hy⟩ := zEv_is h2
  rw [zstep_of hi] at hy
  have hy0 := hy
  simp only [zst, zg, if_true, Option.bind_some, zpi, zpr, zhp_get hc, Option.bind_eq_some_iff] at hy
  obtain ⟨u, hu, v, hv, hz⟩ := hy
  have e := zgb_some hu
  rw [Bool.and_eq_true, zhpc_len] at e
  obtain ⟨e1, e2⟩ := zix_n e.2
  refine ⟨x.toNatClampNeg, e2, e1, fun w hw => ⟨lo, h1, zEv_i1 h2 ((zstep_of hi).trans ?_)⟩⟩
  rw [zhpc_get, hw] at hv
  cases hv
  rw [hy0, ← hz, ← hq]
  rfl
theorem i_len {a : Nat} {c : zLc} (H : zE sc d mi pc L (.ref a :: sk) m r h') (hi : zin mi.2.2.2.2.2 pc = some (.arraylength, 1)) (hc : zLY[a]? = some c) (hq : pc + 1 = q) : zE sc d mi q L (.int (Int32.ofNat c.2.length) :: sk) m r h' := by
  obtain ⟨lo, h1, h2⟩ := H
  obtain ⟨y, hy⟩ := zEv_is h2
  rw [zstep_of hi] at hy
  refine ⟨lo, h1, zEv_i1 h2 ((zstep_of hi).trans ?_)⟩
  subst hq
  simp only [zst, zg, if_true, Option.bind_some, zhp_get hc, Option.bind_eq_some_iff, zhpc_len] at hy ⊢
  obtain ⟨u, hu, _⟩ := hy
  exact ⟨u, hu, by trivial⟩
theorem i_ir {x : Int32} (H : zE sc d mi pc L (.int x :: sk) m r h') (hi : zin mi.2.2.2.2.2 pc = some (.ireturn, 1)) : r = some (.int x) ∧ h' = zhp m := by
  obtain ⟨lo, h1, h2⟩ := H
  obtain ⟨y, hy⟩ := zEv_is h2
  rw [zstep_of hi] at hy
  have hy0 := hy
  simp only [zst, zg, if_true, Option.bind_some, zpi, Option.bind_eq_some_iff] at hy
  obtain ⟨u, hu, hz⟩ := hy
  exact zEv_ir h2 ((zstep_of hi).trans (by rw [hy0, ← hz]))
theorem i_lr {x : Int64} (H : zE sc d mi pc L (.long x :: sk) m r h') (hi : zin mi.2.2.2.2.2 pc = some (.lreturn, 1)) : r = some (.long x) ∧ h' = zhp m := by
  obtain ⟨lo, h1, h2⟩ := H
  obtain ⟨y, hy⟩ := zEv_is h2
  rw [zstep_of hi] at hy
  have hy0 := hy
  simp only [zst, zg, if_true, Option.bind_some, zpl, Option.bind_eq_some_iff] at hy
  obtain ⟨u, hu, hz⟩ := hy
  exact zEv_ir h2 ((zstep_of hi).trans (by rw [hy0, ← hz]))
theorem i_xr {x : Nat} (H : zE sc d mi pc L (.retAddr x :: sk) m r h') (hi : zin mi.2.2.2.2.2 pc = some (.areturn, 1)) : r = some (.retAddr x) ∧ h' = zhp m := by
  obtain ⟨lo, h1, h2⟩ := H
  obtain ⟨y, hy⟩ := zEv_is h2
  rw [zstep_of hi] at hy
  have hy0 := hy
  simp only [zst, zg, if_true, Option.bind_some, zpx, Option.bind_eq_some_iff] at hy
  obtain ⟨u, hu, hz⟩ := hy
  exact zEv_ir h2 ((zstep_of hi).trans (by rw [hy0, ← hz]))
theorem i_rt (H : zE sc d mi pc L sk m r h') (hi : zin mi.2.2.2.2.2 pc = some (.return_, 1)) : r = none ∧ h' = zhp m := by
  obtain ⟨lo, h1, h2⟩ := H
  obtain ⟨y, hy⟩ := zEv_is h2
  rw [zstep_of hi] at hy
  have hy0 := hy
  simp only [zst, zg, if_true, Option.bind_some, Option.bind_eq_some_iff] at hy
  obtain ⟨u, hu, hz⟩ := hy
  exact zEv_ir h2 ((zstep_of hi).trans (by rw [hy0, ← hz]))
theorem i_max {i : Nat} {e : Nat × Nat × Nat} {x y : Int32} (H : zE sc d mi pc L (.int y :: .int x :: sk) m r h') (hi : zin mi.2.2.2.2.2 pc = some (.invokestatic i, 3)) (hm : zlk zmls mi.2.2.2.2.1 i = some (5, e)) (hq : pc + 3 = q) : zE sc d mi q L (.int (if x < y then y else x) :: sk) m r h' := by
  obtain ⟨lo, h1, h2⟩ := H
  obtain ⟨w, hy⟩ := zEv_is h2
  rw [zstep_of hi] at hy
  refine ⟨lo, h1, zEv_i1 h2 ((zstep_of hi).trans ?_)⟩
  subst hq
  simp [zst, zg, zpi, hm, Option.bind_eq_some_iff] at hy ⊢
  obtain ⟨⟨u, hu⟩, _⟩ := hy
  exact ⟨u, hu⟩
theorem i_min {i : Nat} {e : Nat × Nat × Nat} {x y : Int32} (H : zE sc d mi pc L (.int y :: .int x :: sk) m r h') (hi : zin mi.2.2.2.2.2 pc = some (.invokestatic i, 3)) (hm : zlk zmls mi.2.2.2.2.1 i = some (6, e)) (hq : pc + 3 = q) : zE sc d mi q L (.int (if y < x then y else x) :: sk) m r h' := by
  obtain ⟨lo, h1, h2⟩ := H
  obtain ⟨w, hy⟩ := zEv_is h2
  rw [zstep_of hi] at hy
  refine ⟨lo, h1, zEv_i1 h2 ((zstep_of hi).trans ?_)⟩
  subst hq
  simp [zst, zg, zpi, hm, Option.bind_eq_some_iff] at hy ⊢
  obtain ⟨⟨u, hu⟩, _⟩ := hy
  exact ⟨u, hu⟩
theorem i_rem {x y : Int32} (H : zE sc d mi pc L (.int y :: .int x :: sk) m r h') (hi : zin mi.2.2.2.2.2 pc = some (.irem, 1)) (hq : pc + 1 = q) : y ≠ 0 ∧ zE sc d mi q L (.int (x - x / y * y) :: sk) m r h' := by
  obtain ⟨lo, h1, h2⟩ := H
  obtain ⟨w, hy⟩ := zEv_is h2
  rw [zstep_of hi] at hy
  by_cases h0 : y = 0
  · subst h0
    simp [zst, zg, zb2] at hy
  · refine ⟨h0, lo, h1, zEv_i1 h2 ((zstep_of hi).trans ?_)⟩
    subst hq
    simp [zst, zg, zb2, h0]
theorem i_div {x y : Int32} (H : zE sc d mi pc L (.int y :: .int x :: sk) m r h') (hi : zin mi.2.2.2.2.2 pc = some (.idiv, 1)) (hq : pc + 1 = q) : y ≠ 0 ∧ zE sc d mi q L (.int (x / y) :: sk) m r h' := by
  obtain ⟨lo, h1, h2⟩ := H
  obtain ⟨w, hy⟩ := zEv_is h2
  rw [zstep_of hi] at hy
  by_cases h0 : y = 0
  · subst h0
    simp [zst, zg, zb2] at hy
  · refine ⟨h0, lo, h1, zEv_i1 h2 ((zstep_of hi).trans ?_)⟩
    subst hq
    simp [zst, zg, zb2, h0]
theorem i_lrem {x y : Int64} (H : zE sc d mi pc L (.long y :: .long x :: sk) m r h') (hi : zin mi.2.2.2.2.2 pc = some (.lrem, 1)) (hq : pc + 1 = q) : y ≠ 0 ∧ zE sc d mi q L (.long (x - x / y * y) :: sk) m r h' := by
  obtain ⟨lo, h1, h2⟩ := H
  obtain ⟨w, hy⟩ := zEv_is h2
  rw [zstep_of hi] at hy
  by_cases h0 : y = 0
  · subst h0
    simp [zst, zg, zl2] at hy
  · refine ⟨h0, lo, h1, zEv_i1 h2 ((zstep_of hi).trans ?_)⟩
    subst hq
    simp [zst, zg, zl2, h0]
theorem i_ldiv {x y : Int64} (H : zE sc d mi pc L (.long y :: .long x :: sk) m r h') (hi : zin mi.2.2.2.2.2 pc = some (.ldiv, 1)) (hq : pc + 1 = q) : y ≠ 0 ∧ zE sc d mi q L (.long (x / y) :: sk) m r h' := by
  obtain ⟨lo, h1, h2⟩ := H
  obtain ⟨w, hy⟩ := zEv_is h2
  rw [zstep_of hi] at hy
  by_cases h0 : y = 0
  · subst h0
    simp [zst, zg, zl2] at hy
  · refine ⟨h0, lo, h1, zEv_i1 h2 ((zstep_of hi).trans ?_)⟩
    subst hq
    simp [zst, zg, zl2, h0]
theorem i_call {kd id : Nat} {as : List Value} {ins : Instr} {sk0 : List Value} {mi1 : zMi} (p : Nat) (H : zE sc d mi pc L sk0 m r h') (hi : zin mi.2.2.2.2.2 pc = some (ins, 3)) (hz : ∀ lo w, zst sc mi ins 3 pc lo sk0 (zhp m) = some w → w = .inr (.inl (kd, id, as, sk))) (hm : zms[id]? = some mi1) (hc : as.all (fun v => v.category == 1) = true) (hq : pc + 3 = q) : ∃ r1 h1, zE none (d - 1) mi1 0 (as ++ List.replicate p .null) [] m r1 h1 ∧ (∀ v m1, r1 = some v → h1 = zhp m1 → zE sc d mi q L (v :: sk) m1 r h') ∧ (∀ m1, r1 = none → h1 = zhp m1 → zE sc d mi q L sk m1 r h') := by
  obtain ⟨lo, h1, h2⟩ := H
  obtain ⟨y, hy⟩ := zEv_is h2
  have hy0 := hy
  rw [zstep_of hi] at hy
  rw [hz lo y hy] at hy0
  subst hq
  obtain ⟨r1, g1, x1, x2⟩ := zEv_ic h2 hy0 hm
  refine ⟨r1, g1, ⟨_, zcp_args p hc, x1⟩, fun v m1 hr hg => ?_, fun m1 hr hg => ?_⟩
  · subst hr; subst hg
    exact ⟨lo, h1, x2⟩
  · subst hr; subst hg
    exact ⟨lo, h1, x2⟩
theorem i_cv0 {i id : Nat} {e : Nat} {a0 : Value} {mi1 : zMi} (p : Nat) (H : zE sc d mi pc L (a0 :: sk) m r h') (hi : zin mi.2.2.2.2.2 pc = some (.invokevirtual i, 3)) (hf : zlk zmls mi.2.2.2.2.1 i = some (0, id, 0, e)) (hm : zms[id]? = some mi1) (hc : [a0].all (fun v => v.category == 1) = true) (hq : pc + 3 = q) : ∃ r1 h1, zE none (d - 1) mi1 0 ([a0] ++ List.replicate p .null) [] m r1 h1 ∧ (∀ v m1, r1 = some v → h1 = zhp m1 → zE sc d mi q L (v :: sk) m1 r h') ∧ (∀ m1, r1 = none → h1 = zhp m1 → zE sc d mi q L sk m1 r h') := by
  refine i_call (kd := 0) (id := id) p H hi (fun lo w hw => ?_) hm hc hq
  simp only [zst, zg, if_true, Option.bind_some, hf, Option.bind_eq_some_iff] at hw
  obtain ⟨u, hu, hw⟩ := hw
  cases hw
  rfl
theorem i_cv1 {i id : Nat} {e : Nat} {a0 a1 : Value} {mi1 : zMi} (p : Nat) (H : zE sc d mi pc L (a1 :: a0 :: sk) m r h') (hi : zin mi.2.2.2.2.2 pc = some (.invokevirtual i, 3)) (hf : zlk zmls mi.2.2.2.2.1 i = some (0, id, 1, e)) (hm : zms[id]? = some mi1) (hc : [a0, a1].all (fun v => v.category == 1) = true) (hq : pc + 3 = q) : ∃ r1 h1, zE none (d - 1) mi1 0 ([a0, a1] ++ List.replicate p .null) [] m r1 h1 ∧ (∀ v m1, r1 = some v → h1 = zhp m1 → zE sc d mi q L (v :: sk) m1 r h') ∧ (∀ m1, r1 = none → h1 = zhp m1 → zE sc d mi q L sk m1 r h') := by
  refine i_call (kd := 0) (id := id) p H hi (fun lo w hw => ?_) hm hc hq
  simp only [zst, zg, if_true, Option.bind_some, hf, Option.bind_eq_some_iff] at hw
  obtain ⟨u, hu, hw⟩ := hw
  cases hw
  rfl
theorem i_cv2 {i id : Nat} {e : Nat} {a0 a1 a2 : Value} {mi1 : zMi} (p : Nat) (H : zE sc d mi pc L (a2 :: a1 :: a0 :: sk) m r h') (hi : zin mi.2.2.2.2.2 pc = some (.invokevirtual i, 3)) (hf : zlk zmls mi.2.2.2.2.1 i = some (0, id, 2, e)) (hm : zms[id]? = some mi1) (hc : [a0, a1, a2].all (fun v => v.category == 1) = true) (hq : pc + 3 = q) : ∃ r1 h1, zE none (d - 1) mi1 0 ([a0, a1, a2] ++ List.replicate p .null) [] m r1 h1 ∧ (∀ v m1, r1 = some v → h1 = zhp m1 → zE sc d mi q L (v :: sk) m1 r h') ∧ (∀ m1, r1 = none → h1 = zhp m1 → zE sc d mi q L sk m1 r h') := by
  refine i_call (kd := 0) (id := id) p H hi (fun lo w hw => ?_) hm hc hq
  simp only [zst, zg, if_true, Option.bind_some, hf, Option.bind_eq_some_iff] at hw
  obtain ⟨u, hu, hw⟩ := hw
  cases hw
  rfl
theorem i_cv3 {i id : Nat} {e : Nat} {a0 a1 a2 a3 : Value} {mi1 : zMi} (p : Nat) (H : zE sc d mi pc L (a3 :: a2 :: a1 :: a0 :: sk) m r h') (hi : zin mi.2.2.2.2.2 pc = some (.invokevirtual i, 3)) (hf : zlk zmls mi.2.2.2.2.1 i = some (0, id, 3, e)) (hm : zms[id]? = some mi1) (hc : [a0, a1, a2, a3].all (fun v => v.category == 1) = true) (hq : pc + 3 = q) : ∃ r1 h1, zE none (d - 1) mi1 0 ([a0, a1, a2, a3] ++ List.replicate p .null) [] m r1 h1 ∧ (∀ v m1, r1 = some v → h1 = zhp m1 → zE sc d mi q L (v :: sk) m1 r h') ∧ (∀ m1, r1 = none → h1 = zhp m1 → zE sc d mi q L sk m1 r h') := by
  refine i_call (kd := 0) (id := id) p H hi (fun lo w hw => ?_) hm hc hq
  simp only [zst, zg, if_true, Option.bind_some, hf, Option.bind_eq_some_iff] at hw
  obtain ⟨u, hu, hw⟩ := hw
  cases hw
  rfl
theorem i_cv4 {i id : Nat} {e : Nat} {a0 a1 a2 a3 a4 : Value} {mi1 : zMi} (p : Nat) (H : zE sc d mi pc L (a4 :: a3 :: a2 :: a1 :: a0 :: sk) m r h') (hi : zin mi.2.2.2.2.2 pc = some (.invokevirtual i, 3)) (hf : zlk zmls mi.2.2.2.2.1 i = some (0, id, 4, e)) (hm : zms[id]? = some mi1) (hc : [a0, a1, a2, a3, a4].all (fun v => v.category == 1) = true) (hq : pc + 3 = q) : ∃ r1 h1, zE none (d - 1) mi1 0 ([a0, a1, a2, a3, a4] ++ List.replicate p .null) [] m r1 h1 ∧ (∀ v m1, r1 = some v → h1 = zhp m1 → zE sc d mi q L (v :: sk) m1 r h') ∧ (∀ m1, r1 = none → h1 = zhp m1 → zE sc d mi q L sk m1 r h') := by
  refine i_call (kd := 0) (id := id) p H hi (fun lo w hw => ?_) hm hc hq
  simp only [zst, zg, if_true, Option.bind_some, hf, Option.bind_eq_some_iff] at hw
  obtain ⟨u, hu, hw⟩ := hw
  cases hw
  rfl
theorem i_cs1 {i id : Nat} {e : Nat} {a0 : Value} {mi1 : zMi} (p : Nat) (H : zE sc d mi pc L (a0 :: sk) m r h') (hi : zin mi.2.2.2.2.2 pc = some (.invokestatic i, 3)) (hf : zlk zmls mi.2.2.2.2.1 i = some (1, id, 1, e)) (hm : zms[id]? = some mi1) (hc : [a0].all (fun v => v.category == 1) = true) (hq : pc + 3 = q) : ∃ r1 h1, zE none (d - 1) mi1 0 ([a0] ++ List.replicate p .null) [] m r1 h1 ∧ (∀ v m1, r1 = some v → h1 = zhp m1 → zE sc d mi q L (v :: sk) m1 r h') ∧ (∀ m1, r1 = none → h1 = zhp m1 → zE sc d mi q L sk m1 r h') := by
  refine i_call (kd := 1) (id := id) p H hi (fun lo w hw => ?_) hm hc hq
  simp [zst, zg, hf, Option.bind_eq_some_iff] at hw
  obtain ⟨_, hw⟩ := hw
  exact hw.symm
theorem i_cs2 {i id : Nat} {e : Nat} {a0 a1 : Value} {mi1 : zMi} (p : Nat) (H : zE sc d mi pc L (a1 :: a0 :: sk) m r h') (hi : zin mi.2.2.2.2.2 pc = some (.invokestatic i, 3)) (hf : zlk zmls mi.2.2.2.2.1 i = some (1, id, 2, e)) (hm : zms[id]? = some mi1) (hc : [a0, a1].all (fun v => v.category == 1) = true) (hq : pc + 3 = q) : ∃ r1 h1, zE none (d - 1) mi1 0 ([a0, a1] ++ List.replicate p .null) [] m r1 h1 ∧ (∀ v m1, r1 = some v → h1 = zhp m1 → zE sc d mi q L (v :: sk) m1 r h') ∧ (∀ m1, r1 = none → h1 = zhp m1 → zE sc d mi q L sk m1 r h') := by
  refine i_call (kd := 1) (id := id) p H hi (fun lo w hw => ?_) hm hc hq
  simp [zst, zg, hf, Option.bind_eq_some_iff] at hw
  obtain ⟨_, hw⟩ := hw
  exact hw.symm
theorem i_cs3 {i id : Nat} {e : Nat} {a0 a1 a2 : Value} {mi1 : zMi} (p : Nat) (H : zE sc d mi pc L (a2 :: a1 :: a0 :: sk) m r h') (hi : zin mi.2.2.2.2.2 pc = some (.invokestatic i, 3)) (hf : zlk zmls mi.2.2.2.2.1 i = some (1, id, 3, e)) (hm : zms[id]? = some mi1) (hc : [a0, a1, a2].all (fun v => v.category == 1) = true) (hq : pc + 3 = q) : ∃ r1 h1, zE none (d - 1) mi1 0 ([a0, a1, a2] ++ List.replicate p .null) [] m r1 h1 ∧ (∀ v m1, r1 = some v → h1 = zhp m1 → zE sc d mi q L (v :: sk) m1 r h') ∧ (∀ m1, r1 = none → h1 = zhp m1 → zE sc d mi q L sk m1 r h') := by
  refine i_call (kd := 1) (id := id) p H hi (fun lo w hw => ?_) hm hc hq
  simp [zst, zg, hf, Option.bind_eq_some_iff] at hw
  obtain ⟨_, hw⟩ := hw
  exact hw.symm
end
