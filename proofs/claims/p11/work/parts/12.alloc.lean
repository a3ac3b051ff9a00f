/-! a step of the small machine is a step of the real one: what is made, Object's constructor, Math's two -/
theorem zml_get {o i : Nat} {own : String} {q : Nat × Nat × Nat × Nat} (ho : zcn[o]? = some own) (h : zlk zmls o i = some q) : zlck o [(i, q)] = true := by
  obtain ⟨rows, h1, h2⟩ := zlk_mem h
  have h3 := zall_get zmls_ok o rows h1
  rw [Nat.zero_add] at h3
  unfold zlck at h3 ⊢
  have h4 := List.all_eq_true.mp h3 _ h2
  rw [List.all_cons, h4]
  rfl
theorem zcl_get {o i : Nat} {own : String} {q : Nat × Nat} (ho : zcn[o]? = some own) (h : zlk zcls o i = some q) : ∃ r, vwCl[q.1]? = some r ∧ Cond.classLink own i r.1 ∈ zgd ∧ Cond.instantiable r.1 r.2.2 ∈ zgd ∧ Cond.initialized r.1 ∈ zgd := by
  obtain ⟨rows, h1, h2⟩ := zlk_mem h
  have h3 := zall_get zcls_ok o rows h1
  rw [Nat.zero_add] at h3
  unfold zcck at h3
  have h4 := List.all_eq_true.mp h3 _ h2
  dsimp only at h4
  rw [ho] at h4
  split at h4
  · rename_i own' r i1 i2 e1 e2 e3 e4
    cases e1
    simp only [Bool.and_eq_true] at h4
    exact ⟨r, e2, zpos_mem h4.1.1, zpos_mem h4.1.2, zpos_mem h4.2⟩
  · cases h4
theorem zac_i : Cond.arrayClass .int ∈ zgd := zpos_mem (i := 117) (by decide +kernel)
theorem zac_b : Cond.arrayClass .byte ∈ zgd := zpos_mem (i := 116) (by decide +kernel)
theorem zac_z : Cond.arrayClass .boolean ∈ zgd := zpos_mem (i := 298) (by decide +kernel)
theorem zoi_1 : Cond.instanceMethod objectInit ∈ zgd := zpos_mem (i := 74) (by decide +kernel)
theorem zoi_2 : Cond.code objectInit ⟨#[0xb1]⟩ 1 none ∈ zgd := zpos_mem (i := 75) (by decide +kernel)
theorem zmx_1 : Cond.static Lib.Math.max.name ∈ zgd := zpos_mem (i := 588) (by decide +kernel)
theorem zmx_2 : Cond.code Lib.Math.max.name Lib.Math.max.code 2 (some .int) ∈ zgd := zpos_mem (i := 589) (by decide +kernel)
theorem zmn_1 : Cond.static Lib.Math.min.name ∈ zgd := zpos_mem (i := 500) (by decide +kernel)
theorem zmn_2 : Cond.code Lib.Math.min.name Lib.Math.min.code 2 (some .int) ∈ zgd := zpos_mem (i := 501) (by decide +kernel)
theorem zmm_3 : Cond.initialized "java/lang/Math" ∈ zgd := zpos_mem (i := 65) (by decide +kernel)
theorem zdf_vr {ad : List Nat} {b : Nat → Value} : ∀ (r : List (Nat × Bool)), zSR ad b (r.map fun t => zdf t.1) (r.map fun t => zdf t.1)
  | [] => True.intro
  | t :: r => by
    refine zF2_c ?_ (zdf_vr r)
    show zVR ad b (zdf t.1) (zdf t.1)
    unfold zdf
    by_cases h : t.1 = 2
    · rw [if_pos h]; exact (rfl : Value.null = .null)
    · rw [if_neg h]; exact zVR_i 0
def zdfk (ci : Nat) (r : List (Nat × Bool)) : Bool := zall (fun k e => decide (defaultValue (zty0 ci k) = zdf e.1)) 0 r
theorem zdfk_ok : zall zdfk 0 zfts = true := by decide +kernel
theorem zdf_get {ci : Nat} {r : List (Nat × Bool)} (h : zfts[ci]? = some r) : ∀ j, j < r.length → defaultValue (zty0 ci j) = vp_V (r.map fun t => zdf t.1) j := by
  intro j hj
  have h1 := zall_get zdfk_ok ci r h
  rw [Nat.zero_add] at h1
  unfold zdfk at h1
  have h2 := zall_get h1 j r[j] (List.getElem?_eq_getElem hj)
  rw [Nat.zero_add] at h2
  rw [of_decide_eq_true h2]
  unfold vp_V
  rw [List.getD_eq_getElem?_getD, List.getElem?_map, List.getElem?_eq_getElem hj]
  rfl
section ZAL
variable {p : Program} {l : Launch} {e : Env} {R : Room} {s : State} {m : MethodId} {args : Array Value} {below : List Frame} {meth : Method} {c : Code} {Q : State → Prop} {D : va_G} {A : Nat → Prop} {b : Nat → Value} {cells slots d : Nat} {sc : Option (List Int32)} {mi : zMi} {Ts : List Cond} {ad : List Nat} {pc len : Nat} {lo : zLo} {sk : List Value} {h : zHp} {st' : zSt}
theorem zi_new (hc : zCx p R s m args meth c Ts A b sc d mi) {i : Nat} (hd : decode mi.2.1 pc = .ok (.new i, len)) (hz : zst sc mi (.new i) len pc lo sk h = some (.inl st')) : ∃ cl : zC, st'.2.2.2 = h ++ [cl] ∧ (cells + 1 ≤ R.cells → slots + cl.2.length ≤ R.slots → (∀ q, zGo p l e R s m args below meth c Q D A b mi.2.2.1 (cells + 1) (slots + cl.2.length) st' (ad ++ [q])) → zGo p l e R s m args below meth c Q D A b mi.2.2.1 cells slots (pc, lo, sk, h) ad) := by
  simp only [zst, zN, Option.bind_eq_some_iff, Option.some.injEq, Sum.inl.injEq] at hz
  obtain ⟨_, h1, q0, h2, r0, h3, rfl⟩ := hz
  obtain rfl := zg_some h1
  refine ⟨(Sum.inr q0.1, r0.map fun t => zdf t.1), rfl, fun hcl hsl kk => ?_⟩
  intro tys ws H locs ls stk hK hP hD hS hW hL hT
  obtain ⟨r, hr, w1, w2, w3⟩ := zcl_get hc.2.2.2.2.2.2.2.2.2.1 h2
  have hlen := zft_len hr h3
  have hN : (r0.map fun t => zdf t.1).length = r.2.2 := by rw [List.length_map, hlen]
  dsimp only at hsl kk
  rw [hN] at hsl kk
  refine va_new (ci := q0.1) (fs := r0.map fun t => zdf t.1) (C := r.1) (T := r.2.1) (N := r.2.2) hc.1 hc.2.1 hc.2.2.2.2.1 (fun w1 hw1 => hc.2.2.2.2.2.1 w1 (zvw_ws hr w1 hw1)) (zty0 q0.1) (zvw_ty hr) hc.2.2.2.1 (zCx_w hc w1) (zCx_w hc w2) (zCx_w hc w3) hK hP hD hS hc.2.2.2.2.2.2.2.1 hr (fun j hj => zdf_get h3 j (by rw [hlen]; exact hj)) hcl hsl hd (fun q H1 hP1 hD1 hS1 => ?_)
  have hnew : (ad ++ [q])[h.length]? = some q := by rw [List.getElem?_append_right (by rw [zWR_adl hW]; exact Nat.le_refl _), zWR_adl hW, Nat.sub_self]; rfl
  have hW1 := zWR_push (q := q) (e := .inr (q0.1, r0.map fun t => zdf t.1)) (c := (Sum.inr q0.1, r0.map fun t => zdf t.1)) hW [] ⟨_, rfl, zdf_vr r0⟩
  rw [List.append_nil] at hW1
  exact kk q tys _ H1 locs ls _ hK hP1 hD1 hS1 hW1 (zLR_more [q] hL) (zF2_c (zVR_r hnew) (zSR_more [q] hT))
theorem zi_newarray (hc : zCx p R s m args meth c Ts A b sc d mi) {ty : ArrayType} (hd : decode mi.2.1 pc = .ok (.newarray ty, len)) (hz : zst sc mi (.newarray ty) len pc lo sk h = some (.inl st')) : ∃ cl : zC, st'.2.2.2 = h ++ [cl] ∧ (cells + 1 ≤ R.cells → slots + cl.2.length ≤ R.slots → (∀ q, zGo p l e R s m args below meth c Q D A b mi.2.2.1 (cells + 1) (slots + cl.2.length) st' (ad ++ [q])) → zGo p l e R s m args below meth c Q D A b mi.2.2.1 cells slots (pc, lo, sk, h) ad) := by
  simp only [zst, zN, Option.bind_eq_some_iff, Option.some.injEq, Sum.inl.injEq] at hz
  obtain ⟨_, h1, n, h2, _, h3, t, h4, rfl⟩ := hz
  obtain rfl := zg_some h1
  obtain rfl := zpi_some h2
  have h5 := zix_lt (zgb_some h3)
  refine ⟨(Sum.inl t, List.replicate n.1.toNatClampNeg (Value.int 0)), rfl, fun hcl hsl kk => ?_⟩
  intro tys ws H locs ls stk hK hP hD hS hW hL hT
  obtain ⟨t1, hst, hU⟩ := zSR_i hT
  subst hst
  clear hT
  have hT := hU
  clear hU
  dsimp only at hsl kk
  rw [List.length_replicate] at hsl kk
  cases ty with
  | int =>
    cases h4
    refine va_newa (atype := .int) (ty := .int) (a0 := (n.1.toNatClampNeg, .inl (fun _ => 0))) hc.1 hc.2.1 (zCx_w hc zac_i) rfl hK hP hD hS hc.2.2.2.2.2.2.2.1 (fun _ => rfl) h5.1 rfl (by show n.1.toNatClampNeg * 4 ≤ _; omega) hcl hsl hd (fun q cA H1 hK1 hP1 hD1 hS1 => ?_)
    have hnew : (ad ++ [q])[h.length]? = some q := by rw [List.getElem?_append_right (by rw [zWR_adl hW]; exact Nat.le_refl _), zWR_adl hW, Nat.sub_self]; rfl
    have hW1 := zWR_push (q := q) (e := .inl (cA, n.1.toNatClampNeg, .inl (fun _ => 0))) (c := (Sum.inl 0, List.replicate n.1.toNatClampNeg (Value.int 0))) hW [(cA, .int)] ⟨cA, fun _ => 0, by rw [List.length_replicate], List.mem_append_right _ List.mem_cons_self, fun j v hj => (by obtain ⟨h8, h9⟩ := List.getElem?_eq_some_iff.mp hj; rw [List.getElem_replicate] at h9; exact h9.symm)⟩
    exact kk q _ _ H1 locs ls _ hK1 hP1 hD1 hS1 hW1 (zLR_more [q] hL) (zF2_c (zVR_r hnew) (zSR_more [q] hT))
  | byte =>
    cases h4
    refine va_newa (atype := .byte) (ty := .byte) (a0 := (n.1.toNatClampNeg, .inl (fun _ => 0))) hc.1 hc.2.1 (zCx_w hc zac_b) rfl hK hP hD hS hc.2.2.2.2.2.2.2.1 (fun _ => rfl) h5.1 rfl (by show n.1.toNatClampNeg * 1 ≤ _; omega) hcl hsl hd (fun q cA H1 hK1 hP1 hD1 hS1 => ?_)
    have hnew : (ad ++ [q])[h.length]? = some q := by rw [List.getElem?_append_right (by rw [zWR_adl hW]; exact Nat.le_refl _), zWR_adl hW, Nat.sub_self]; rfl
    have hW1 := zWR_push (q := q) (e := .inl (cA, n.1.toNatClampNeg, .inl (fun _ => 0))) (c := (Sum.inl 1, List.replicate n.1.toNatClampNeg (Value.int 0))) hW [(cA, .byte)] ⟨cA, fun _ => 0, by rw [List.length_replicate], List.mem_append_right _ List.mem_cons_self, fun j v hj => (by obtain ⟨h8, h9⟩ := List.getElem?_eq_some_iff.mp hj; rw [List.getElem_replicate] at h9; exact h9.symm)⟩
    exact kk q _ _ H1 locs ls _ hK1 hP1 hD1 hS1 hW1 (zLR_more [q] hL) (zF2_c (zVR_r hnew) (zSR_more [q] hT))
  | boolean =>
    cases h4
    refine va_newa (atype := .boolean) (ty := .boolean) (a0 := (n.1.toNatClampNeg, .inl (fun _ => 0))) hc.1 hc.2.1 (zCx_w hc zac_z) rfl hK hP hD hS hc.2.2.2.2.2.2.2.1 (fun _ => rfl) h5.1 rfl (by show n.1.toNatClampNeg * 1 ≤ _; omega) hcl hsl hd (fun q cA H1 hK1 hP1 hD1 hS1 => ?_)
    have hnew : (ad ++ [q])[h.length]? = some q := by rw [List.getElem?_append_right (by rw [zWR_adl hW]; exact Nat.le_refl _), zWR_adl hW, Nat.sub_self]; rfl
    have hW1 := zWR_push (q := q) (e := .inl (cA, n.1.toNatClampNeg, .inl (fun _ => 0))) (c := (Sum.inl 2, List.replicate n.1.toNatClampNeg (Value.int 0))) hW [(cA, .boolean)] ⟨cA, fun _ => 0, by rw [List.length_replicate], List.mem_append_right _ List.mem_cons_self, fun j v hj => (by obtain ⟨h8, h9⟩ := List.getElem?_eq_some_iff.mp hj; rw [List.getElem_replicate] at h9; exact h9.symm)⟩
    exact kk q _ _ H1 locs ls _ hK1 hP1 hD1 hS1 hW1 (zLR_more [q] hL) (zF2_c (zVR_r hnew) (zSR_more [q] hT))
  | char => cases h4
  | float => cases h4
  | double => cases h4
  | short => cases h4
  | long => cases h4
theorem zi_anewarray (hc : zCx p R s m args meth c Ts A b sc d mi) {i : Nat} (hd : decode mi.2.1 pc = .ok (.anewarray i, len)) (hz : zst sc mi (.anewarray i) len pc lo sk h = some (.inl st')) : ∃ cl : zC, st'.2.2.2 = h ++ [cl] ∧ (cells + 1 ≤ R.cells → slots + cl.2.length ≤ R.slots → (∀ q, zGo p l e R s m args below meth c Q D A b mi.2.2.1 (cells + 1) (slots + cl.2.length) st' (ad ++ [q])) → zGo p l e R s m args below meth c Q D A b mi.2.2.1 cells slots (pc, lo, sk, h) ad) := by
  simp only [zst, zN, Option.bind_eq_some_iff, Option.some.injEq, Sum.inl.injEq] at hz
  obtain ⟨_, h1, n, h2, _, h3, q0, h4, _, h4b, rfl⟩ := hz
  obtain rfl := zg_some h1
  obtain rfl := zpi_some h2
  have h5 := zix_lt (zgb_some h3)
  have h6 := zgb_some h4b
  simp only [Bool.or_eq_true, decide_eq_true_eq] at h6
  refine ⟨(Sum.inl (q0.1 + 3), List.replicate n.1.toNatClampNeg Value.null), rfl, fun hcl hsl kk => ?_⟩
  intro tys ws H locs ls stk hK hP hD hS hW hL hT
  obtain ⟨t1, hst, hU⟩ := zSR_i hT
  subst hst
  clear hT
  have hT := hU
  clear hU
  dsimp only at hsl kk
  rw [List.length_replicate] at hsl kk
  obtain ⟨r, hr, w1, w2, w3⟩ := zcl_get hc.2.2.2.2.2.2.2.2.2.1 h4
  have hAO : va_AO r.1 s := by
    have hN := hc.2.2.2.2.2.2.1
    rcases h6 with (h6 | h6) | h6
    · rw [h6] at hr; cases hr; exact hN.2.2.1
    · rw [h6] at hr; cases hr; exact hN.2.1
    · rw [h6] at hr; cases hr; exact hN.2.2.2
  have hty : zty (q0.1 + 3) = .object r.1 := by
    show FieldType.object (match vwCl[q0.1]? with | some r => r.1 | none => "") = _
    rw [hr]
  refine va_newq (C := r.1) hc.1 hc.2.1 hc.2.2.2.1 (zCx_w hc w1) hAO hK hP hD hS hc.2.2.2.2.2.2.2.1 h5.1 rfl (by omega) hcl hsl hd (fun q cA H1 hK1 hP1 hD1 hS1 => ?_)
  have hnew : (ad ++ [q])[h.length]? = some q := by rw [List.getElem?_append_right (by rw [zWR_adl hW]; exact Nat.le_refl _), zWR_adl hW, Nat.sub_self]; rfl
  have hW1 := zWR_push (q := q) (e := .inl (cA, n.1.toNatClampNeg, .inr (.inr (.inr (.inr (fun _ => none)))))) (c := (Sum.inl (q0.1 + 3), List.replicate n.1.toNatClampNeg Value.null)) hW [(cA, .object r.1)] ⟨cA, fun _ => none, by rw [List.length_replicate], by rw [hty]; exact List.mem_append_right _ List.mem_cons_self, fun j v hj => (by obtain ⟨h8, h9⟩ := List.getElem?_eq_some_iff.mp hj; rw [List.getElem_replicate] at h9; rw [← h9]; exact (rfl : Value.null = .null))⟩
  exact kk q _ _ H1 locs ls _ hK1 hP1 hD1 hS1 hW1 (zLR_more [q] hL) (zF2_c (zVR_r hnew) (zSR_more [q] hT))
theorem zi_objInit (hc : zCx p R s m args meth c Ts A b sc d mi) {i k ps n : Nat} {sk0 : List Value} (hl : zlk zmls mi.2.2.2.2.1 i = some (4, k, n, ps)) {a : Nat} (hs : ((sk0.map fun v => v.category)).sum ≤ 8) (hd : decode mi.2.1 pc = .ok (.invokespecial i, 3)) (kk : zGo p l e R s m args below meth c Q D A b mi.2.2.1 cells slots (pc + 3, lo, sk0, h) ad) : zGo p l e R s m args below meth c Q D A b mi.2.2.1 cells slots (pc, lo, .ref a :: sk0, h) ad := by
  intro tys ws H locs ls stk hK hP hD hS hW hL hT
  obtain ⟨a0, t0, hst, ha, hU⟩ := zSR_r hT
  subst hst
  have h1 := zml_get hc.2.2.2.2.2.2.2.2.2.1 hl
  unfold zlck at h1
  rw [List.all_cons, hc.2.2.2.2.2.2.2.2.2.1] at h1
  simp only [Bool.and_eq_true] at h1
  have hsz : ls.size = mi.2.2.1 := by obtain ⟨lv, hlv, -⟩ := hL; exact hlv.1
  have hcat := zSR_cats hU
  refine W.objInit hc.1 hc.2.1 hc.2.2.2.1 (zCx_w hc (zpos_mem h1.1)) (zCx_w hc zoi_1) (zCx_w hc zoi_2) rfl (by rw [hc.2.2.1]; exact hsz) rfl hd ?_ ?_ ?_
  · have := hc.2.2.2.2.2.2.2.2.2.2.2.1.1; have := hc.2.2.2.2.2.2.2.2.2.2.2.2.1; omega
  · show 2 * 0 + _ + 12 ≤ _
    rw [hcat]
    have := hc.2.2.2.2.2.2.2.2.2.2.2.1.2; have := hc.2.2.2.2.2.2.2.2.2.2.2.2.1; omega
  · exact kk tys ws H locs ls t0 hK hP hD hS hW hL hU
theorem zi_mmax (hc : zCx p R s m args meth c Ts A b sc d mi) (hcc : cells ≤ R.cells) (hss : slots ≤ R.slots) {i k ps n : Nat} {x y : Int32} {sk0 : List Value} (hl : zlk zmls mi.2.2.2.2.1 i = some (5, k, n, ps)) (hs : ((sk0.map fun v => v.category)).sum ≤ 8) (hd : decode mi.2.1 pc = .ok (.invokestatic i, 3)) (kk : zGo p l e R s m args below meth c Q D A b mi.2.2.1 cells slots (pc + 3, lo, .int (if x < y then y else x) :: sk0, h) ad) : zGo p l e R s m args below meth c Q D A b mi.2.2.1 cells slots (pc, lo, .int y :: .int x :: sk0, h) ad := by
  intro tys ws H locs ls stk hK hP hD hS hW hL hT
  obtain ⟨t0, hst, hU⟩ := zSR_i hT
  subst hst
  obtain ⟨t1, hst, hV⟩ := zSR_i hU
  subst hst
  have h1 := zml_get hc.2.2.2.2.2.2.2.2.2.1 hl
  unfold zlck at h1
  rw [List.all_cons, hc.2.2.2.2.2.2.2.2.2.1] at h1
  simp only [Bool.and_eq_true] at h1
  have hsz : ls.size = mi.2.2.1 := by obtain ⟨lv, hlv, -⟩ := hL; exact hlv.1
  have hcat := zSR_cats hV
  refine va_mmax hc.1 hc.2.1 (by rw [hc.2.2.1]; exact hsz.symm) hc.2.2.2.1 (zCx_w hc (zpos_mem h1.1)) (zCx_w hc zmx_1) (zCx_w hc zmm_3) (zCx_w hc zmx_2) ?_ ?_ hcc hss hd ?_
  · have := hc.2.2.2.2.2.2.2.2.2.2.2.1.1; have := hc.2.2.2.2.2.2.2.2.2.2.2.2.1; omega
  · rw [hcat]
    have := hc.2.2.2.2.2.2.2.2.2.2.2.1.2; have := hc.2.2.2.2.2.2.2.2.2.2.2.2.1; omega
  · exact kk tys ws H locs ls _ hK hP hD hS hW hL (zF2_c (zVR_i _) hV)
theorem zi_mmin (hc : zCx p R s m args meth c Ts A b sc d mi) (hcc : cells ≤ R.cells) (hss : slots ≤ R.slots) {i k ps n : Nat} {x y : Int32} {sk0 : List Value} (hl : zlk zmls mi.2.2.2.2.1 i = some (6, k, n, ps)) (hs : ((sk0.map fun v => v.category)).sum ≤ 8) (hd : decode mi.2.1 pc = .ok (.invokestatic i, 3)) (kk : zGo p l e R s m args below meth c Q D A b mi.2.2.1 cells slots (pc + 3, lo, .int (if y < x then y else x) :: sk0, h) ad) : zGo p l e R s m args below meth c Q D A b mi.2.2.1 cells slots (pc, lo, .int y :: .int x :: sk0, h) ad := by
  intro tys ws H locs ls stk hK hP hD hS hW hL hT
  obtain ⟨t0, hst, hU⟩ := zSR_i hT
  subst hst
  obtain ⟨t1, hst, hV⟩ := zSR_i hU
  subst hst
  have h1 := zml_get hc.2.2.2.2.2.2.2.2.2.1 hl
  unfold zlck at h1
  rw [List.all_cons, hc.2.2.2.2.2.2.2.2.2.1] at h1
  simp only [Bool.and_eq_true] at h1
  have hsz : ls.size = mi.2.2.1 := by obtain ⟨lv, hlv, -⟩ := hL; exact hlv.1
  have hcat := zSR_cats hV
  refine va_mmin hc.1 hc.2.1 (by rw [hc.2.2.1]; exact hsz.symm) hc.2.2.2.1 (zCx_w hc (zpos_mem h1.1)) (zCx_w hc zmn_1) (zCx_w hc zmm_3) (zCx_w hc zmn_2) ?_ ?_ hcc hss hd ?_
  · have := hc.2.2.2.2.2.2.2.2.2.2.2.1.1; have := hc.2.2.2.2.2.2.2.2.2.2.2.2.1; omega
  · rw [hcat]
    have := hc.2.2.2.2.2.2.2.2.2.2.2.1.2; have := hc.2.2.2.2.2.2.2.2.2.2.2.2.1; omega
  · exact kk tys ws H locs ls _ hK hP hD hS hW hL (zF2_c (zVR_i _) hV)
end ZAL
