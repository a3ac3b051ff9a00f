/-! a step of the small machine is a step of the real one: fields, arrays, what is made -/
def zty0 (ci : Nat) : Nat → FieldType := match ci with
  | 0 => tyX0
  | 1 => tyX1
  | 2 => tyX2
  | 3 => tyX3
  | 4 => tyX4
  | 5 => tyX5
  | 6 => tyX6
  | 7 => tyX7
  | _ => tyX8
theorem zvw {P : Nat → vw_C → Prop} (h0 : P 0 (RX0, TX0, 6)) (h1 : P 1 (RX1, TX1, 4)) (h2 : P 2 (RX2, TX2, 13)) (h3 : P 3 (RX3, TX3, 5)) (h4 : P 4 (RX4, TX4, 5)) (h5 : P 5 (RX5, TX5, 4)) (h6 : P 6 (RX6, TX6, 4)) (h7 : P 7 (RX7, TX7, 9)) (h8 : P 8 (RX8, TX8, 31)) {ci : Nat} {r : vw_C} (h : vwCl[ci]? = some r) : P ci r := by
  match ci, h with
  | 0, h => cases h; exact h0
  | 1, h => cases h; exact h1
  | 2, h => cases h; exact h2
  | 3, h => cases h; exact h3
  | 4, h => cases h; exact h4
  | 5, h => cases h; exact h5
  | 6, h => cases h; exact h6
  | 7, h => cases h; exact h7
  | 8, h => cases h; exact h8
  | k + 9, h => simp [vwCl] at h
theorem zvw_ty {ci : Nat} {r : vw_C} (h : vwCl[ci]? = some r) : ∀ k, k < r.2.2 → parseFieldDescriptor (r.2.1 k).2.2.1 = some (zty0 ci k) := zvw (P := fun ci r => ∀ k, k < r.2.2 → parseFieldDescriptor (r.2.1 k).2.2.1 = some (zty0 ci k)) tyX0_ok tyX1_ok tyX2_ok tyX3_ok tyX4_ok tyX5_ok tyX6_ok tyX7_ok tyX8_ok h
theorem zvw_nm {ci : Nat} {r : vw_C} (h : vwCl[ci]? = some r) : ∀ a, a < r.2.2 → ∀ b, b < r.2.2 → a ≠ b → (r.2.1 a).2.1 ≠ (r.2.1 b).2.1 := zvw (P := fun _ r => ∀ a, a < r.2.2 → ∀ b, b < r.2.2 → a ≠ b → (r.2.1 a).2.1 ≠ (r.2.1 b).2.1) nmX0 nmX1 nmX2 nmX3 nmX4 nmX5 nmX6 nmX7 nmX8 h
def zuck (ws : List Cond) : Bool := ws.all fun w => decide (w ∈ lw_tbl) && goodWord w
theorem zuck_in {ws : List Cond} (h : zuck ws = true) : ∀ w ∈ ws, w ∈ zgd := fun w hw => by
  have h1 := List.all_eq_true.mp h w hw
  simp only [Bool.and_eq_true, decide_eq_true_eq] at h1
  exact List.mem_filter.mpr ⟨h1.1, h1.2⟩
theorem zuw0 : zuck (u_ws RX0 TX0 6) = true := by decide +kernel
theorem zuw1 : zuck (u_ws RX1 TX1 4) = true := by decide +kernel
theorem zuw2 : zuck (u_ws RX2 TX2 13) = true := by decide +kernel
theorem zuw3 : zuck (u_ws RX3 TX3 5) = true := by decide +kernel
theorem zuw4 : zuck (u_ws RX4 TX4 5) = true := by decide +kernel
theorem zuw5 : zuck (u_ws RX5 TX5 4) = true := by decide +kernel
theorem zuw6 : zuck (u_ws RX6 TX6 4) = true := by decide +kernel
theorem zuw7 : zuck (u_ws RX7 TX7 9) = true := by decide +kernel
theorem zuw8 : zuck (u_ws RX8 TX8 31) = true := by decide +kernel
theorem zvw_ws {ci : Nat} {r : vw_C} (h : vwCl[ci]? = some r) : ∀ w ∈ u_ws r.1 r.2.1 r.2.2, w ∈ zgd := zvw (P := fun _ r => ∀ w ∈ u_ws r.1 r.2.1 r.2.2, w ∈ zgd) (zuck_in zuw0) (zuck_in zuw1) (zuck_in zuw2) (zuck_in zuw3) (zuck_in zuw4) (zuck_in zuw5) (zuck_in zuw6) (zuck_in zuw7) (zuck_in zuw8) h
def ztck (t : Nat) (ty : FieldType) : Bool := match t, ty with
  | 0, .int => true
  | 1, .boolean => true
  | 2, .object _ => true
  | 2, .array _ => true
  | _, _ => false
def zftck (ci : Nat) (r : List (Nat × Bool)) : Bool := match vwCl[ci]? with
  | some q => zall (fun k e => ztck e.1 (zty0 ci k) && decide ((q.2.1 k).2.2.2 = e.2) && decide ((q.2.1 k).1 = q.1)) 0 r && decide (r.length = q.2.2)
  | none => false
theorem zfts_ok : zall zftck 0 zfts = true := by decide +kernel
theorem zft_get {ci k : Nat} {r : List (Nat × Bool)} {ty : Nat × Bool} {q : vw_C} (hq : vwCl[ci]? = some q) (h : zfts[ci]? = some r) (hk : r[k]? = some ty) : ztck ty.1 (zty0 ci k) = true ∧ (q.2.1 k).2.2.2 = ty.2 ∧ (q.2.1 k).1 = q.1 := by
  have h1 := zall_get zfts_ok ci r h
  rw [Nat.zero_add] at h1
  unfold zftck at h1
  rw [hq] at h1
  simp only [Bool.and_eq_true] at h1
  have h2 := zall_get h1.1 k ty hk
  rw [Nat.zero_add] at h2
  simp only [Bool.and_eq_true, decide_eq_true_eq] at h2
  exact ⟨h2.1.1, h2.1.2, h2.2⟩
theorem zft_len {ci : Nat} {r : List (Nat × Bool)} {q : vw_C} (hq : vwCl[ci]? = some q) (h : zfts[ci]? = some r) : r.length = q.2.2 := by
  have h1 := zall_get zfts_ok ci r h
  rw [Nat.zero_add] at h1
  unfold zftck at h1
  rw [hq] at h1
  simp only [Bool.and_eq_true, decide_eq_true_eq] at h1
  exact h1.2
theorem zfit_ok {t : Nat} {ty : FieldType} {v w : Value} {ad : List Nat} {b : Nat → Value} (h1 : ztck t ty = true) (h2 : zfit t v = true) (h3 : zVR ad b v w) : narrow ty w = w ∧ fits ty w = true := by
  unfold ztck at h1
  unfold zfit at h2
  split at h1
  · split at h2
    · rw [zVR_ui h3]; exact ⟨rfl, rfl⟩
    · rename_i q; cases q
    · rename_i q; cases q
    · rename_i q; cases q
    · cases h2
  · split at h2
    · rename_i q; cases q
    · rename_i x _
      rw [zVR_ui h3]
      simp only [Bool.or_eq_true, decide_eq_true_eq] at h2
      rcases h2 with rfl | rfl
      · exact ⟨rfl, rfl⟩
      · exact ⟨rfl, rfl⟩
    · rename_i q; cases q
    · rename_i q; cases q
    · cases h2
  · split at h2
    · rename_i q; cases q
    · rename_i q; cases q
    · obtain ⟨a, -, rfl⟩ := zVR_ur h3; exact ⟨rfl, rfl⟩
    · have h4 : w = .null := h3; rw [h4]; exact ⟨rfl, rfl⟩
    · cases h2
  · split at h2
    · rename_i q; cases q
    · rename_i q; cases q
    · obtain ⟨a, -, rfl⟩ := zVR_ur h3; exact ⟨rfl, rfl⟩
    · have h4 : w = .null := h3; rw [h4]; exact ⟨rfl, rfl⟩
    · cases h2
  · cases h1
theorem zix_in {i : Int32} {n : Nat} (h : zix i n = true) : vp_in i n := by
  simp only [zix, Bool.and_eq_true, Bool.not_eq_true', decide_eq_false_iff_not, decide_eq_true_eq] at h
  intro q
  rcases q with q | q
  · exact h.1 q
  · exact absurd h.2 (Nat.not_lt.mpr q)
theorem zix_lt {i : Int32} {n : Nat} (h : zix i n = true) : ¬ i < 0 ∧ i.toNatClampNeg < n := by
  simp only [zix, Bool.and_eq_true, Bool.not_eq_true', decide_eq_false_iff_not, decide_eq_true_eq] at h
  exact h
theorem zsf_v : Cond.fieldLink "java/lang/String" 9 "java/lang/String" "value" "[B" ∈ zgd := zpos_mem (i := 1220) (by decide +kernel)
theorem zsf_c : Cond.fieldLink "java/lang/String" 15 "java/lang/String" "coder" "B" ∈ zgd := zpos_mem (i := 1221) (by decide +kernel)
theorem zsf_k : Cond.fieldLink "java/lang/String" 38 "java/lang/String" "COMPACT_STRINGS" "Z" ∈ zgd := zpos_mem (i := 403) (by decide +kernel)
theorem zsf_f : Cond.fieldLink "java/lang/String" 1053 "jdk/internal/util/Preconditions" "SIOOBE_FORMATTER" "Ljava/util/function/BiFunction;" ∈ zgd := zpos_mem (i := 419) (by decide +kernel)
section ZHP
variable {p : Program} {l : Launch} {e : Env} {R : Room} {s : State} {m : MethodId} {args : Array Value} {below : List Frame} {meth : Method} {c : Code} {Q : State → Prop} {D : va_G} {A : Nat → Prop} {b : Nat → Value} {cells slots d : Nat} {sc : Option (List Int32)} {mi : zMi} {Ts : List Cond} {ad : List Nat} {pc len : Nat} {lo : zLo} {sk : List Value} {h : zHp} {st' : zSt}
theorem zown (hc : zCx p R s m args meth c Ts A b sc d mi) {own : String} (ho : zcn[mi.2.2.2.2.1]? = some own) : own = mi.1.cls := Option.some.inj (ho.symm.trans hc.2.2.2.2.2.2.2.2.2.1)
theorem zi_getfield (hc : zCx p R s m args meth c Ts A b sc d mi) {i : Nat} (hd : decode mi.2.1 pc = .ok (.getfield i, len)) (hz : zst sc mi (.getfield i) len pc lo sk h = some (.inl st')) (kk : zGo p l e R s m args below meth c Q D A b mi.2.2.1 cells slots st' ad) : zGo p l e R s m args below meth c Q D A b mi.2.2.1 cells slots (pc, lo, sk, h) ad := by
  simp only [zst, zN, Option.bind_eq_some_iff, Option.some.injEq, Sum.inl.injEq] at hz
  obtain ⟨_, h1, hz⟩ := hz
  obtain rfl := zg_some h1
  by_cases ho : mi.2.2.2.2.1 = 12
  · rw [if_pos ho] at hz
    simp only [Option.bind_eq_some_iff, Option.some.injEq, Sum.inl.injEq] at hz
    obtain ⟨a, h2, _, h3, hz⟩ := hz
    obtain rfl := zpx_some h2
    have h4 := zgb_some h3
    simp only [Bool.and_eq_true, decide_eq_true_eq] at h4
    have hcls : mi.1.cls = "java/lang/String" := by have h9 := hc.2.2.2.2.2.2.2.2.2.1; rw [ho] at h9; exact (Option.some.inj h9).symm
    have hown := hc.2.2.2.1
    rw [hcls] at hown
    obtain ⟨adK, adV, x1, x2, x3⟩ := hc.2.2.2.2.2.2.2.2.2.2.2.2.2.2
    have hk7 : a.1 / 2 < 7 := by omega
    obtain ⟨y1, y2, y3⟩ := x2 (a.1 / 2) hk7
    rw [show 2 * (a.1 / 2) + 1 = a.1 by omega] at y1
    rw [show 2 * (a.1 / 2) + 2 = a.1 + 1 by omega] at y2
    obtain ⟨z1, z2, z3, z4⟩ := x1.1 (a.1 / 2) hk7
    intro tys ws H locs ls stk hK hP hD hS hW hL hT
    obtain ⟨w, t0, hst, hw, hU⟩ := zF2_u hT
    subst hst
    have hw1 := (zVR_us hw).1
    rw [y1] at hw1
    subst hw1
    split at hz
    · rename_i h9
      cases hz
      subst h9
      exact vk_getf (ref := "java/lang/String") hc.1 hc.2.1 z3 hS hown (zCx_w hc zsf_v) (fun _ h9 => h9) hd (kk tys ws H locs ls _ hK hP hD hS hW hL (zF2_c (zVR_x y2) hU))
    · simp only [Option.bind_eq_some_iff, Option.some.injEq, Sum.inl.injEq] at hz
      obtain ⟨_, h9, rfl⟩ := hz
      obtain rfl := zg_some h9
      exact vk_getf (ref := "java/lang/String") hc.1 hc.2.1 z2 hS hown (zCx_w hc zsf_c) (fun _ h9 => h9) hd (kk tys ws H locs ls _ hK hP hD hS hW hL (zF2_c (zVR_i _) hU))
  · rw [if_neg ho] at hz
    simp only [Option.bind_eq_some_iff, Option.some.injEq, Sum.inl.injEq] at hz
    obtain ⟨a, h2, f, h3, ⟨kd, vs⟩, h4, _, h5, v, h6, rfl⟩ := hz
    obtain rfl := zpr_some h2
    have h7 := of_decide_eq_true (zgb_some h5)
    dsimp only at h6 h7
    subst h7
    intro tys ws H locs ls stk hK hP hD hS hW hL hT
    obtain ⟨a0, t0, hst, ha, hU⟩ := zSR_r hT
    subst hst
    clear hT
    have hT := hU
    clear hU
    obtain ⟨own, r, ho2, hr, hw, hk⟩ := zfl_get (ci := f.1) (k := f.2.1) (ps := f.2.2) h3
    obtain rfl := zown hc ho2
    obtain ⟨e0, hw1, hw2⟩ := zWR_at hW h4 ha
    obtain ⟨fs, rfl, hfs⟩ := zCR_o hw2
    obtain ⟨w, hv, hvw⟩ := zF2_get hfs _ _ h6
    exact va_get (D := D) (C := r.1) (T := r.2.1) (N := r.2.2) hc.1 hc.2.1 hc.2.2.2.2.1 (fun w1 hw1 => hc.2.2.2.2.2.1 w1 (zvw_ws hr w1 hw1)) hc.2.2.2.1 hK hP a.1 hw1 hr f.2.1 hk (zCx_w hc hw) (fun _ h9 => h9) hv hd (kk tys ws H locs ls _ hK hP hD hS hW hL (zF2_c hvw hT))
theorem zi_getstatic (hc : zCx p R s m args meth c Ts A b sc d mi) {i : Nat} (hd : decode mi.2.1 pc = .ok (.getstatic i, len)) (hz : zst sc mi (.getstatic i) len pc lo sk h = some (.inl st')) (kk : zGo p l e R s m args below meth c Q D A b mi.2.2.1 cells slots st' ad) : zGo p l e R s m args below meth c Q D A b mi.2.2.1 cells slots (pc, lo, sk, h) ad := by
  simp only [zst, zN, Option.bind_eq_some_iff, Option.some.injEq, Sum.inl.injEq] at hz
  obtain ⟨_, h1, _, ho, hz⟩ := hz
  obtain rfl := zg_some h1
  have ho := zg_some ho
  have hcls : mi.1.cls = "java/lang/String" := by have h9 := hc.2.2.2.2.2.2.2.2.2.1; rw [ho] at h9; exact (Option.some.inj h9).symm
  have hown := hc.2.2.2.1
  rw [hcls] at hown
  obtain ⟨adK, adV, x1, x2, x3, x4, x5⟩ := hc.2.2.2.2.2.2.2.2.2.2.2.2.2.2
  intro tys ws H locs ls stk hK hP hD hS hW hL hT
  split at hz
  · rename_i h9
    cases hz
    subst h9
    exact va_gets (ref := "java/lang/String") hc.1 hc.2.1 x3 hS hown (zCx_w hc zsf_k) (fun _ h9 => h9) hd (kk tys ws H locs ls _ hK hP hD hS hW hL (zF2_c (zVR_i _) hT))
  · simp only [Option.bind_eq_some_iff, Option.some.injEq, Sum.inl.injEq] at hz
    obtain ⟨_, h9, rfl⟩ := hz
    obtain rfl := zg_some h9
    exact va_gets (ref := "jdk/internal/util/Preconditions") hc.1 hc.2.1 x4 hS hown (zCx_w hc zsf_f) (fun _ h9 => h9) hd (kk tys ws H locs ls _ hK hP hD hS hW hL (zF2_c (show zVR ad b (.retAddr 20) (b 20) from ⟨rfl, x5⟩) hT))
theorem zi_putfield (hc : zCx p R s m args meth c Ts A b sc d mi) {i : Nat} (hd : decode mi.2.1 pc = .ok (.putfield i, len)) (hz : zst sc mi (.putfield i) len pc lo sk h = some (.inl st')) (kk : zGo p l e R s m args below meth c Q D A b mi.2.2.1 cells slots st' ad) : zGo p l e R s m args below meth c Q D A b mi.2.2.1 cells slots (pc, lo, sk, h) ad := by
  simp only [zst, zN, Option.bind_eq_some_iff, Option.some.injEq, Sum.inl.injEq] at hz
  obtain ⟨_, h1, v, h1b, a, h2, f, h3, ⟨kd, vs⟩, h4, _, h5, ty, ⟨rw0, hr0, hr1⟩, _, h6, rfl⟩ := hz
  obtain rfl := zg_some h1
  obtain ⟨rfl, hv1⟩ := zp1_some h1b
  have h2b := zpr_some h2
  have h7 := of_decide_eq_true (zgb_some h5)
  dsimp only at h6 h7
  subst h7
  have h8 := zgb_some h6
  simp only [Bool.and_eq_true, Bool.or_eq_true, Bool.not_eq_true', decide_eq_true_eq] at h8
  obtain ⟨⟨h8, h9⟩, h10⟩ := h8
  intro tys ws H locs ls stk hK hP hD hS hW hL hT
  obtain ⟨w, t1, hst, hvw, hU⟩ := zF2_u hT
  subst hst
  clear hT
  have hT := hU
  clear hU
  rw [h2b] at hT
  obtain ⟨a0, t0, hst, ha, hU⟩ := zSR_r hT
  subst hst
  clear hT
  have hT := hU
  clear hU
  obtain ⟨own, r, ho, hr, hw, hk⟩ := zfl_get (ci := f.1) (k := f.2.1) (ps := f.2.2) h3
  obtain rfl := zown hc ho
  obtain ⟨e0, hw1, hw2⟩ := zWR_at hW h4 ha
  obtain ⟨fs, rfl, hfs⟩ := zCR_o hw2
  obtain ⟨g1, g2, g3⟩ := zft_get hr hr0 hr1
  obtain ⟨n1, n2⟩ := zfit_ok g1 h8 hvw
  have hl : f.2.1 < fs.length := by rw [← zF2_len hfs]; exact h10
  have hcr : zCR ad b tys (.inr f.1, vs.set f.2.1 v.1) (.inr (f.1, fs.set f.2.1 w)) := ⟨_, rfl, zF2_set hvw hfs _⟩
  cases hfin : ty.2 with
  | false =>
    exact va_put (D := D) (C := r.1) (T := r.2.1) (N := r.2.2) hc.1 hc.2.1 hc.2.2.2.2.1 (fun w1 hw1 => hc.2.2.2.2.2.1 w1 (zvw_ws hr w1 hw1)) (zty0 f.1) (zvw_ty hr) (zvw_nm hr) hc.2.2.2.1 hK hP hD hS a.1 hw1 hr f.2.1 hk (zCx_w hc hw) (fun _ h9 => h9) (g2.trans hfin) (zvw_ty hr _ hk) n1 n2 hl hd (fun H1 locs1 hP1 hD1 hS1 => kk tys _ H1 locs1 ls _ hK hP1 hD1 hS1 (zWR_put hW hw1 hcr) hL hT)
  | true =>
    rw [hfin] at h9
    obtain ⟨i1, i2⟩ := h9.resolve_left (fun q => by cases q)
    have hdecl : (r.2.1 f.2.1).1 = mi.1.cls := by
      rw [g3]
      have hzc : zcn[f.1]? = some r.1 := zvw (P := fun ci r => zcn[ci]? = some r.1) rfl rfl rfl rfl rfl rfl rfl rfl rfl hr
      rw [i2] at ho
      exact Option.some.inj (hzc.symm.trans ho)
    exact va_putF (D := D) (C := r.1) (T := r.2.1) (N := r.2.2) hc.1 hc.2.1 hc.2.2.2.2.1 (fun w1 hw1 => hc.2.2.2.2.2.1 w1 (zvw_ws hr w1 hw1)) (zty0 f.1) (zvw_ty hr) (zvw_nm hr) hc.2.2.2.1 hK hP hD hS a.1 hw1 hr f.2.1 hk (zCx_w hc hw) (fun _ h9 => h9) (g2.trans hfin) (hc.2.2.2.2.2.2.2.2.2.2.1 i1) hdecl (zvw_ty hr _ hk) n1 n2 hl hd (fun H1 locs1 hP1 hD1 hS1 => kk tys _ H1 locs1 ls _ hK hP1 hD1 hS1 (zWR_put hW hw1 hcr) hL hT)
theorem zi_iaload (hc : zCx p R s m args meth c Ts A b sc d mi)  (hd : decode mi.2.1 pc = .ok (.iaload, len)) (hz : zst sc mi (.iaload) len pc lo sk h = some (.inl st')) (kk : zGo p l e R s m args below meth c Q D A b mi.2.2.1 cells slots st' ad) : zGo p l e R s m args below meth c Q D A b mi.2.2.1 cells slots (pc, lo, sk, h) ad := by
  simp only [zst, zN, Option.bind_eq_some_iff, Option.some.injEq, Sum.inl.injEq] at hz
  obtain ⟨_, h1, i, h2, hz⟩ := hz
  obtain rfl := zg_some h1
  obtain rfl := zpi_some h2
  intro tys ws H locs ls stk hK hP hD hS hW hL hT
  obtain ⟨t1, hst, hU⟩ := zSR_i hT
  subst hst
  clear hT
  have hT := hU
  clear hU
  split at hz
  · rename_i a r hi
    simp only [Option.bind_eq_some_iff, Option.some.injEq, Sum.inl.injEq] at hz
    obtain ⟨⟨kd, vs⟩, h4, _, h5, v, h6, rfl⟩ := hz
    have h7 := zgb_some h5
    simp only [Bool.and_eq_true, decide_eq_true_eq] at h7
    obtain ⟨rfl, h8⟩ := h7
    dsimp only at h6 h8
    rw [hi] at hT
    obtain ⟨a0, t0, hst, ha, hU⟩ := zSR_r hT
    subst hst
    clear hT
    have hT := hU
    clear hU
    obtain ⟨e0, hw1, hw2⟩ := zWR_at hW h4 ha
    obtain ⟨cA, f, rfl, hty, hf⟩ := zCR_p (t := 0) (by decide) hw2
    obtain ⟨j0, hj0⟩ := List.getElem?_of_mem hty
    have h9 := hf _ _ h6
    subst h9
    exact va_iald hc.1 hc.2.1 hK hP a j0 hw1 hj0 (zix_in h8) hd (kk tys ws H locs ls _ hK hP hD hS hW hL (zF2_c (zVR_i _) hT))
  · rename_i r hi
    simp only [Option.bind_eq_some_iff, Option.some.injEq, Sum.inl.injEq] at hz
    obtain ⟨xs, hsc, _, h5, v, h6, rfl⟩ := hz
    have h7 := zgb_some h5
    rw [hi] at hT
    obtain ⟨w, t2, hst, hw, hU⟩ := zF2_u hT
    subst hst
    obtain ⟨b0, hb0, hX, hbl, hbA⟩ := hc.2.2.2.2.2.2.2.2.2.2.2.2.2.1 xs hsc
    have hw1 := (zVR_us hw).1
    rw [hb0] at hw1
    subst hw1
    have h9 : v = xs.getD i.1.toNatClampNeg 0 := by rw [List.getD_eq_getElem?_getD, h6]; rfl
    subst h9
    exact va_sld hc.1 hc.2.1 hX hbl hbA hS (zix_in h7) hd (kk tys ws H locs ls _ hK hP hD hS hW hL (zF2_c (zVR_i _) hU))
  · cases hz
theorem zi_baload (hc : zCx p R s m args meth c Ts A b sc d mi)  (hd : decode mi.2.1 pc = .ok (.baload, len)) (hz : zst sc mi (.baload) len pc lo sk h = some (.inl st')) (kk : zGo p l e R s m args below meth c Q D A b mi.2.2.1 cells slots st' ad) : zGo p l e R s m args below meth c Q D A b mi.2.2.1 cells slots (pc, lo, sk, h) ad := by
  simp only [zst, zN, Option.bind_eq_some_iff, Option.some.injEq, Sum.inl.injEq] at hz
  obtain ⟨_, h1, i, h2, hz⟩ := hz
  obtain rfl := zg_some h1
  obtain rfl := zpi_some h2
  intro tys ws H locs ls stk hK hP hD hS hW hL hT
  obtain ⟨t1, hst, hU⟩ := zSR_i hT
  subst hst
  clear hT
  have hT := hU
  clear hU
  split at hz
  · rename_i a r hi
    simp only [Option.bind_eq_some_iff, Option.some.injEq, Sum.inl.injEq] at hz
    obtain ⟨⟨kd, vs⟩, h4, _, h5, v, h6, rfl⟩ := hz
    have h7 := zgb_some h5
    simp only [Bool.and_eq_true, Bool.or_eq_true, decide_eq_true_eq] at h7
    obtain ⟨h7, h8⟩ := h7
    try dsimp only at h6 h7 h8
    rw [hi] at hT
    obtain ⟨a0, t0, hst, ha, hU⟩ := zSR_r hT
    subst hst
    clear hT
    have hT := hU
    clear hU
    obtain ⟨e0, hw1, hw2⟩ := zWR_at hW h4 ha
    rcases h7 with rfl | rfl
    · obtain ⟨cA, f, rfl, hty, hf⟩ := zCR_p (t := 1) (by decide) hw2
      obtain ⟨j0, hj0⟩ := List.getElem?_of_mem hty
      have h9 := hf _ _ h6
      subst h9
      exact va_bald hc.1 hc.2.1 hK hP a j0 hw1 hj0 (zix_in h8) hd (kk tys ws H locs ls _ hK hP hD hS hW hL (zF2_c (zVR_i _) hT))
    · obtain ⟨cA, f, rfl, hty, hf⟩ := zCR_p (t := 2) (by decide) hw2
      obtain ⟨j0, hj0⟩ := List.getElem?_of_mem hty
      have h9 := hf _ _ h6
      subst h9
      exact va_zald hc.1 hc.2.1 hK hP a j0 hw1 hj0 (zix_in h8) hd (kk tys ws H locs ls _ hK hP hD hS hW hL (zF2_c (zVR_i _) hT))
  · rename_i n r hi
    simp only [Option.bind_eq_some_iff, Option.some.injEq, Sum.inl.injEq] at hz
    obtain ⟨_, h5, rfl⟩ := hz
    have h7 := zgb_some h5
    simp only [Bool.and_eq_true, decide_eq_true_eq] at h7
    obtain ⟨⟨h7, h8⟩, h9⟩ := h7
    rw [hi] at hT
    obtain ⟨w, t2, hst, hw, hU⟩ := zF2_u hT
    subst hst
    obtain ⟨adK, adV, x1, x2, x3⟩ := hc.2.2.2.2.2.2.2.2.2.2.2.2.2.2
    have hk7 : n / 2 < 7 := by omega
    obtain ⟨y1, y2, y3⟩ := x2 (n / 2) hk7
    rw [show 2 * (n / 2) + 2 = n + 1 by omega] at y2
    have hw1 := (zVR_us hw).1
    rw [y2] at hw1
    subst hw1
    exact va_tb hc.1 hc.2.1 (x1.1 (n / 2) hk7).2.2.2 hS (zix_in h9) rfl hd (kk tys ws H locs ls _ hK hP hD hS hW hL (zF2_c (zVR_i _) hU))
  · cases hz
theorem zi_aaload (hc : zCx p R s m args meth c Ts A b sc d mi)  (hd : decode mi.2.1 pc = .ok (.aaload, len)) (hz : zst sc mi (.aaload) len pc lo sk h = some (.inl st')) (kk : zGo p l e R s m args below meth c Q D A b mi.2.2.1 cells slots st' ad) : zGo p l e R s m args below meth c Q D A b mi.2.2.1 cells slots (pc, lo, sk, h) ad := by
  simp only [zst, zN, Option.bind_eq_some_iff, Option.some.injEq, Sum.inl.injEq] at hz
  obtain ⟨_, h1, i, h2, a, h2b, ⟨kd, vs⟩, h4, _, h5, v, h6, rfl⟩ := hz
  obtain rfl := zg_some h1
  obtain rfl := zpi_some h2
  have h3 := zpr_some h2b
  have h7 := zgb_some h5
  simp only [Bool.and_eq_true] at h7
  obtain ⟨h7, h8⟩ := h7
  try dsimp only at h6 h7 h8
  obtain ⟨t9, rfl⟩ : ∃ t9, kd = .inl (t9 + 3) := by
    unfold zisq at h7
    split at h7
    · exact ⟨_, rfl⟩
    · cases h7
  intro tys ws H locs ls stk hK hP hD hS hW hL hT
  obtain ⟨t1, hst, hU⟩ := zSR_i hT
  subst hst
  clear hT
  have hT := hU
  clear hU
  rw [h3] at hT
  obtain ⟨a0, t0, hst, ha, hU⟩ := zSR_r hT
  subst hst
  clear hT
  have hT := hU
  clear hU
  obtain ⟨e0, hw1, hw2⟩ := zWR_at hW h4 ha
  obtain ⟨cA, f, rfl, hty, hf⟩ := zCR_q hw2
  obtain ⟨j0, hj0⟩ := List.getElem?_of_mem hty
  exact va_aldq hc.1 hc.2.1 hK hP a.1 j0 hw1 hj0 (zix_in h8) hd (kk tys ws H locs ls _ hK hP hD hS hW hL (zF2_c (hf _ _ h6) hT))
theorem zset_p {ad : List Nat} {b : Nat → Value} {t n : Nat} {tys : List (ClassId × FieldType)} {vs : List Value} {cA : ClassId} {f : Nat → Int32} (ht : t < 3) (i : Nat) (x : Int32) (hn : n = vs.length) (h1 : (cA, zty t) ∈ tys) (h2 : ∀ (j : Nat) (v : Value), vs[j]? = some v → v = Value.int (f j)) : zCR ad b tys (.inl t, vs.set i (.int x)) (.inl (cA, n, .inl (upd f i x))) := by
  have key : ∃ (cA' : ClassId) (f' : Nat → Int32), (Sum.inl (cA, n, Sum.inl (upd f i x)) : va_E) = .inl (cA', (vs.set i (.int x)).length, .inl f') ∧ (cA', zty t) ∈ tys ∧ ∀ (j : Nat) (v : Value), (vs.set i (.int x))[j]? = some v → v = Value.int (f' j) := by
    refine ⟨cA, upd f i x, by rw [List.length_set, hn], h1, fun j v hj => ?_⟩
    by_cases hji : i = j
    · subst hji
      by_cases hl : i < vs.length
      · rw [List.getElem?_set_self hl] at hj
        cases hj
        simp [upd]
      · rw [List.getElem?_eq_none (by rw [List.length_set]; omega)] at hj
        cases hj
    · rw [List.getElem?_set_ne hji] at hj
      have hne : ¬ j = i := fun q => hji q.symm
      rw [h2 j v hj]
      simp [upd, hne]
  match t, ht, key with
  | 0, _, key => exact key
  | 1, _, key => exact key
  | 2, _, key => exact key
theorem zset_q {ad : List Nat} {b : Nat → Value} {t n x q : Nat} {tys : List (ClassId × FieldType)} {vs : List Value} {cA : ClassId} {f : Nat → Option Nat} (i : Nat) (hn : n = vs.length) (h1 : (cA, zty (t + 3)) ∈ tys) (hx : ad[x]? = some q) (h2 : ∀ (j : Nat) (v : Value), vs[j]? = some v → zVR ad b v (va_rf (f j))) : zCR ad b tys (.inl (t + 3), vs.set i (.ref x)) (.inl (cA, n, .inr (.inr (.inr (.inr (va_up f i (some q))))))) := by
  refine ⟨cA, va_up f i (some q), by rw [List.length_set, hn], h1, fun j v hj => ?_⟩
  by_cases hji : i = j
  · subst hji
    by_cases hl : i < vs.length
    · rw [List.getElem?_set_self hl] at hj
      cases hj
      simp only [va_up, if_true]
      exact zVR_r hx
    · rw [List.getElem?_eq_none (by rw [List.length_set]; omega)] at hj
      cases hj
  · rw [List.getElem?_set_ne hji] at hj
    have hne : ¬ j = i := fun q => hji q.symm
    simp only [va_up, if_neg hne]
    exact h2 j v hj
theorem zi_iastore (hc : zCx p R s m args meth c Ts A b sc d mi)  (hd : decode mi.2.1 pc = .ok (.iastore, len)) (hz : zst sc mi (.iastore) len pc lo sk h = some (.inl st')) (kk : zGo p l e R s m args below meth c Q D A b mi.2.2.1 cells slots st' ad) : zGo p l e R s m args below meth c Q D A b mi.2.2.1 cells slots (pc, lo, sk, h) ad := by
  simp only [zst, zN, Option.bind_eq_some_iff, Option.some.injEq, Sum.inl.injEq] at hz
  obtain ⟨_, h1, x, h2, i, h2b, a, h2c, ⟨kd, vs⟩, h4, _, h5, rfl⟩ := hz
  obtain rfl := zg_some h1
  obtain rfl := zpi_some h2
  have h3 := zpi_some h2b
  have h3b := zpr_some h2c
  have h7 := zgb_some h5
  simp only [Bool.and_eq_true, decide_eq_true_eq] at h7
  obtain ⟨h7, h8⟩ := h7
  try dsimp only at h7 h8
  subst h7
  intro tys ws H locs ls stk hK hP hD hS hW hL hT
  obtain ⟨t1, hst, hU⟩ := zSR_i hT
  subst hst
  clear hT
  have hT := hU
  clear hU
  rw [h3] at hT
  obtain ⟨t2, hst, hU⟩ := zSR_i hT
  subst hst
  clear hT
  have hT := hU
  clear hU
  rw [h3b] at hT
  obtain ⟨a0, t0, hst, ha, hU⟩ := zSR_r hT
  subst hst
  clear hT
  have hT := hU
  clear hU
  obtain ⟨e0, hw1, hw2⟩ := zWR_at hW h4 ha
  obtain ⟨cA, f, rfl, hty, hf⟩ := zCR_p (t := 0) (by decide) hw2
  obtain ⟨j0, hj0⟩ := List.getElem?_of_mem hty
  exact va_iast hc.1 hc.2.1 hK hP hD hS a.1 j0 hw1 hj0 (zix_in h8) hd (fun H1 locs1 hP1 hD1 hS1 => kk tys _ H1 locs1 ls _ hK hP1 hD1 hS1 (zWR_put hW hw1 (zset_p (t := 0) (by decide) _ _ rfl hty hf)) hL hT)
theorem zi_bastore (hc : zCx p R s m args meth c Ts A b sc d mi)  (hd : decode mi.2.1 pc = .ok (.bastore, len)) (hz : zst sc mi (.bastore) len pc lo sk h = some (.inl st')) (kk : zGo p l e R s m args below meth c Q D A b mi.2.2.1 cells slots st' ad) : zGo p l e R s m args below meth c Q D A b mi.2.2.1 cells slots (pc, lo, sk, h) ad := by
  simp only [zst, zN, Option.bind_eq_some_iff, Option.some.injEq, Sum.inl.injEq] at hz
  obtain ⟨_, h1, x, h2, i, h2b, a, h2c, ⟨kd, vs⟩, h4, _, h5, rfl⟩ := hz
  obtain rfl := zg_some h1
  obtain rfl := zpi_some h2
  have h3 := zpi_some h2b
  have h3b := zpr_some h2c
  have h7 := zgb_some h5
  simp only [Bool.and_eq_true, Bool.or_eq_true, decide_eq_true_eq] at h7
  obtain ⟨h7, h8⟩ := h7
  try dsimp only at h7 h8
  intro tys ws H locs ls stk hK hP hD hS hW hL hT
  obtain ⟨t1, hst, hU⟩ := zSR_i hT
  subst hst
  clear hT
  have hT := hU
  clear hU
  rw [h3] at hT
  obtain ⟨t2, hst, hU⟩ := zSR_i hT
  subst hst
  clear hT
  have hT := hU
  clear hU
  rw [h3b] at hT
  obtain ⟨a0, t0, hst, ha, hU⟩ := zSR_r hT
  subst hst
  clear hT
  have hT := hU
  clear hU
  obtain ⟨e0, hw1, hw2⟩ := zWR_at hW h4 ha
  rcases h7 with rfl | rfl
  · obtain ⟨cA, f, rfl, hty, hf⟩ := zCR_p (t := 1) (by decide) hw2
    obtain ⟨j0, hj0⟩ := List.getElem?_of_mem hty
    have hk1 : zGo p l e R s m args below meth c Q D A b mi.2.2.1 cells slots (pc + 1, lo, a.2, h.set a.1 (Sum.inl 1, vs.set i.1.toNatClampNeg (.int (vp_nar .byte x.1)))) ad := kk
    exact va_bast hc.1 hc.2.1 hK hP hD hS a.1 j0 hw1 hj0 (zix_in h8) hd (fun H1 locs1 hP1 hD1 hS1 => hk1 tys _ H1 locs1 ls _ hK hP1 hD1 hS1 (zWR_put hW hw1 (zset_p (t := 1) (by decide) _ _ rfl hty hf)) hL hT)
  · obtain ⟨cA, f, rfl, hty, hf⟩ := zCR_p (t := 2) (by decide) hw2
    obtain ⟨j0, hj0⟩ := List.getElem?_of_mem hty
    have hk1 : zGo p l e R s m args below meth c Q D A b mi.2.2.1 cells slots (pc + 1, lo, a.2, h.set a.1 (Sum.inl 2, vs.set i.1.toNatClampNeg (.int (vp_nar .boolean x.1)))) ad := kk
    exact va_zast hc.1 hc.2.1 hK hP hD hS a.1 j0 hw1 hj0 (zix_in h8) hd (fun H1 locs1 hP1 hD1 hS1 => hk1 tys _ H1 locs1 ls _ hK hP1 hD1 hS1 (zWR_put hW hw1 (zset_p (t := 2) (by decide) _ _ rfl hty hf)) hL hT)
theorem zi_aastore (hc : zCx p R s m args meth c Ts A b sc d mi)  (hd : decode mi.2.1 pc = .ok (.aastore, len)) (hz : zst sc mi (.aastore) len pc lo sk h = some (.inl st')) (kk : zGo p l e R s m args below meth c Q D A b mi.2.2.1 cells slots st' ad) : zGo p l e R s m args below meth c Q D A b mi.2.2.1 cells slots (pc, lo, sk, h) ad := by
  simp only [zst, zN, Option.bind_eq_some_iff, Option.some.injEq, Sum.inl.injEq] at hz
  obtain ⟨_, h1, x, h2, i, h2b, a, h2c, ⟨kd, vs⟩, h4, ⟨kx, us⟩, h4b, _, h5, rfl⟩ := hz
  obtain rfl := zg_some h1
  obtain rfl := zpr_some h2
  have h3 := zpi_some h2b
  have h3b := zpr_some h2c
  have h7 := zgb_some h5
  simp only [Bool.and_eq_true] at h7
  obtain ⟨h7, h8⟩ := h7
  try dsimp only at h7 h8
  obtain ⟨ci, rfl, rfl⟩ : ∃ ci, kd = .inl (ci + 3) ∧ kx = .inr ci := by
    unfold zqof at h7
    split at h7
    · exact ⟨_, rfl, by rw [of_decide_eq_true h7]⟩
    · cases h7
  intro tys ws H locs ls stk hK hP hD hS hW hL hT
  obtain ⟨ax, t1, hst, hax, hU⟩ := zSR_r hT
  subst hst
  clear hT
  have hT := hU
  clear hU
  rw [h3] at hT
  obtain ⟨t2, hst, hU⟩ := zSR_i hT
  subst hst
  clear hT
  have hT := hU
  clear hU
  rw [h3b] at hT
  obtain ⟨a0, t0, hst, ha, hU⟩ := zSR_r hT
  subst hst
  clear hT
  have hT := hU
  clear hU
  obtain ⟨e0, hw1, hw2⟩ := zWR_at hW h4 ha
  obtain ⟨e1, hx1, hx2⟩ := zWR_at hW h4b hax
  obtain ⟨cA, f, rfl, hty, hf⟩ := zCR_q hw2
  obtain ⟨us1, rfl, -⟩ := zCR_o hx2
  obtain ⟨j0, hj0⟩ := List.getElem?_of_mem hty
  obtain ⟨r, hr, -⟩ := hP x.1 _ hx1
  have hj1 : tys[j0]? = some (cA, .object r.1) := by
    rw [hj0]
    show some (cA, FieldType.object (match vwCl[ci]? with | some r => r.1 | none => "")) = _
    rw [hr]
  exact va_astq hc.1 hc.2.1 hK hP hD hS a.1 j0 x.1 ci hw1 hj1 hx1 hr (zix_in h8) hd (fun H1 locs1 hP1 hD1 hS1 => kk tys _ H1 locs1 ls _ hK hP1 hD1 hS1 (zWR_put hW hw1 (zset_q _ rfl hty hax hf)) hL hT)
theorem zi_arraylength (hc : zCx p R s m args meth c Ts A b sc d mi)  (hd : decode mi.2.1 pc = .ok (.arraylength, len)) (hz : zst sc mi (.arraylength) len pc lo sk h = some (.inl st')) (kk : zGo p l e R s m args below meth c Q D A b mi.2.2.1 cells slots st' ad) : zGo p l e R s m args below meth c Q D A b mi.2.2.1 cells slots (pc, lo, sk, h) ad := by
  simp only [zst, zN, Option.bind_eq_some_iff, Option.some.injEq, Sum.inl.injEq] at hz
  obtain ⟨_, h1, hz⟩ := hz
  obtain rfl := zg_some h1
  intro tys ws H locs ls stk hK hP hD hS hW hL hT
  split at hz
  · rename_i a r
    simp only [Option.bind_eq_some_iff, Option.some.injEq, Sum.inl.injEq] at hz
    obtain ⟨⟨kd, vs⟩, h4, _, h5, rfl⟩ := hz
    obtain ⟨a0, t0, hst, ha, hU⟩ := zSR_r hT
    subst hst
    clear hT
    have hT := hU
    clear hU
    obtain ⟨e0, hw1, hw2⟩ := zWR_at hW h4 ha
    have h7 := zgb_some h5
    dsimp only at h7
    match kd, h7, hw2 with
    | .inr _, h7, _ => cases h7
    | .inl (t9 + 3), _, hw2 =>
      obtain ⟨cA, f, rfl, hty, hf⟩ := zCR_q hw2
      obtain ⟨j0, hj0⟩ := List.getElem?_of_mem hty
      exact va_alen hc.1 hc.2.1 hK hP a j0 hw1 hj0 rfl hd (kk tys ws H locs ls _ hK hP hD hS hW hL (zF2_c (zVR_i _) hT))
    | .inl 0, _, hw2 =>
      obtain ⟨cA, f, rfl, hty, hf⟩ := zCR_p (t := 0) (by decide) hw2
      obtain ⟨j0, hj0⟩ := List.getElem?_of_mem hty
      exact va_alen hc.1 hc.2.1 hK hP a j0 hw1 hj0 rfl hd (kk tys ws H locs ls _ hK hP hD hS hW hL (zF2_c (zVR_i _) hT))
    | .inl 1, _, hw2 =>
      obtain ⟨cA, f, rfl, hty, hf⟩ := zCR_p (t := 1) (by decide) hw2
      obtain ⟨j0, hj0⟩ := List.getElem?_of_mem hty
      exact va_alen hc.1 hc.2.1 hK hP a j0 hw1 hj0 rfl hd (kk tys ws H locs ls _ hK hP hD hS hW hL (zF2_c (zVR_i _) hT))
    | .inl 2, _, hw2 =>
      obtain ⟨cA, f, rfl, hty, hf⟩ := zCR_p (t := 2) (by decide) hw2
      obtain ⟨j0, hj0⟩ := List.getElem?_of_mem hty
      exact va_alen hc.1 hc.2.1 hK hP a j0 hw1 hj0 rfl hd (kk tys ws H locs ls _ hK hP hD hS hW hL (zF2_c (zVR_i _) hT))
  · rename_i r
    simp only [Option.bind_eq_some_iff, Option.some.injEq, Sum.inl.injEq] at hz
    obtain ⟨xs, hsc, rfl⟩ := hz
    obtain ⟨w, t2, hst, hw, hU⟩ := zF2_u hT
    subst hst
    obtain ⟨b0, hb0, hX, hbl, hbA⟩ := hc.2.2.2.2.2.2.2.2.2.2.2.2.2.1 xs hsc
    have hw1 := (zVR_us hw).1
    rw [hb0] at hw1
    subst hw1
    exact va_slen hc.1 hc.2.1 hX hbl hbA hS hd (kk tys ws H locs ls _ hK hP hD hS hW hL (zF2_c (zVR_i _) hU))
  · rename_i n r
    simp only [Option.bind_eq_some_iff, Option.some.injEq, Sum.inl.injEq] at hz
    obtain ⟨_, h5, rfl⟩ := hz
    have h7 := zgb_some h5
    simp only [Bool.and_eq_true, decide_eq_true_eq] at h7
    obtain ⟨w, t2, hst, hw, hU⟩ := zF2_u hT
    subst hst
    obtain ⟨adK, adV, x1, x2, x3⟩ := hc.2.2.2.2.2.2.2.2.2.2.2.2.2.2
    have hk7 : n / 2 < 7 := by omega
    obtain ⟨y1, y2, y3⟩ := x2 (n / 2) hk7
    rw [show 2 * (n / 2) + 2 = n + 1 by omega] at y2
    have hw1 := (zVR_us hw).1
    rw [y2] at hw1
    subst hw1
    exact va_tlen hc.1 hc.2.1 (x1.1 (n / 2) hk7).2.2.2 hS rfl hd (kk tys ws H locs ls _ hK hP hD hS hW hL (zF2_c (zVR_i _) hU))
  · cases hz
end ZHP
