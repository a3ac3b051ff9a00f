/-! a step of the small machine is a step of the real one: loads, stores, numbers, jumps -/
def zNW (U : State) : Prop := (∀ w ∈ zNs, va_Nw w U) ∧ va_AO "HandLock$Person" U ∧ va_AO "HandLock$Lock" U ∧ va_AO "HandLock$Sheet" U
theorem zNW_warm {s U : State} (hW : s.WarmedH U.vm) (h : zNW s) : zNW U := by
  refine ⟨fun w hw => ?_, va_AO.moved hW.alike h.2.1, va_AO.moved hW.alike h.2.2.1, va_AO.moved hW.alike h.2.2.2⟩
  have hz := h.1 w hw
  simp only [zNs, List.mem_cons, List.not_mem_nil, or_false] at hw
  rcases hw with rfl | rfl | rfl | rfl | rfl | rfl <;> exact va_Nw.warmM hW hz
theorem zNW_same {s U : State} (hv : s.vm = U.vm) (h : zNW s) : zNW U := by
  have hal : s.vm.Alike U.vm := by rw [hv]; exact Vm.Alike.refl U.vm
  refine ⟨fun w hw => ?_, va_AO.moved hal h.2.1, va_AO.moved hal h.2.2.1, va_AO.moved hal h.2.2.2⟩
  have hz := h.1 w hw
  simp only [zNs, List.mem_cons, List.not_mem_nil, or_false] at hw
  rcases hw with rfl | rfl | rfl | rfl | rfl | rfl <;> exact va_Nw.same rfl hv hz
def zCx (p : Program) (R : Room) (s : State) (m : MethodId) (args : Array Value) (meth : Method) (c : Code) (Ts : List Cond) (A : Nat → Prop) (b : Nat → Value) (sc : Option (List Int32)) (d : Nat) (mi : zMi) : Prop :=
  p.tables.exec = Jvm.exec ∧ c.code = mi.2.1 ∧ c.maxLocals = mi.2.2.1 ∧ s.vm.findClass mi.1.cls = some m.cls ∧ (∀ w ∈ Ts, w.before args s = true) ∧ (∀ w ∈ zgd, w ∈ Ts) ∧ zNW s ∧ (∀ q, s.heap.size ≤ q → A q) ∧ zOK mi ∧ zcn[mi.2.2.2.2.1]? = some mi.1.cls ∧ (mi.1.name = "<init>" → meth.name = "<init>") ∧ (d ≤ R.frames ∧ 60 * d ≤ R.locals) ∧ 1 ≤ d ∧ (∀ xs, sc = some xs → ∃ b0, b 0 = .ref b0 ∧ va_X b0 xs.length (fun j => xs.getD j 0) s s.heap ∧ b0 < s.heap.size ∧ ¬ A b0) ∧ zXt b A s s.heap
theorem zCx_w {p : Program} {R : Room} {s : State} {m : MethodId} {args : Array Value} {meth : Method} {c : Code} {Ts : List Cond} {A : Nat → Prop} {b : Nat → Value} {sc : Option (List Int32)} {d : Nat} {mi : zMi} (h : zCx p R s m args meth c Ts A b sc d mi) {w : Cond} (hw : w ∈ zgd) : w.before args s = true := h.2.2.2.2.1 w (h.2.2.2.2.2.1 w hw)
def zGo (p : Program) (l : Launch) (e : Env) (R : Room) (s : State) (m : MethodId) (args : Array Value) (below : List Frame) (meth : Method) (c : Code) (Q : State → Prop) (D : va_G) (A : Nat → Prop) (b : Nat → Value) (nL cells slots : Nat) (st : zSt) (ad : List Nat) : Prop :=
  ∀ (tys : List (ClassId × FieldType)) (ws : va_W) (H : Heap) (locs : List Loc) (ls : Array Slot) (stk : List Value), va_K D vwCl tys s → va_P D vwCl ws H → va_D A ws → va_S A s.heap H locs → zWR ad b tys st.2.2.2 ws → zLR ad b nL st.2.1 ls → zSR ad b st.2.2.1 stk → W p l e R s m args below meth c H locs cells slots Q (F0 m st.1 ls stk)
theorem zv_pop2 {p : Program} {l : Launch} {e : Env} {R : Room} {s : State} {m : MethodId} {args : Array Value} {below : List Frame} {meth : Method} {c : Code} {Q : State → Prop} {H : Heap} {locs : List Loc} {cells slots pc : Nat} {cc : ByteArray} {ls : Array Slot} {rest : List Value} (hexec : p.tables.exec = Jvm.exec) (hb : c.code = cc) {va : Int64} (hdg : decode cc pc = .ok (.pop2, 1))
    (k : W p l e R s m args below meth c H locs cells slots Q (F0 m (pc + 1) ls (rest))) : W p l e R s m args below meth c H locs cells slots Q (F0 m pc ls (.long va :: rest)) := by
  intro T hT X
  obtain ⟨t, a, b⟩ := k T hT X
  refine ⟨t, ?_, b⟩
  have hva : (Value.long va).category = 2 := rfl
  jvm_step X.here [X.here.top, hexec, hb, hdg, Jvm.Op.pop2.wp_sem, hva]
  exact a
theorem zsts_ok {i k : Nat} (h : zas2 zsts i = some k) : k < 7 ∧ (zTx k).1 = i := by
  have hm := zas2_mem h
  simp only [zsts, List.mem_cons, Prod.mk.injEq, List.not_mem_nil, or_false] at hm
  rcases hm with ⟨rfl, rfl⟩ | ⟨rfl, rfl⟩ | ⟨rfl, rfl⟩ | ⟨rfl, rfl⟩ | ⟨rfl, rfl⟩ | ⟨rfl, rfl⟩ | ⟨rfl, rfl⟩ <;> exact ⟨by decide, rfl⟩
theorem zVR_x {ad : List Nat} {b : Nat → Value} {k a : Nat} (h : b k = .ref a) : zVR ad b (.retAddr k) (.ref a) := ⟨h.symm, Or.inl ⟨a, rfl⟩⟩
theorem zci_get {o i : Nat} {own : String} {q : Int × Nat} (ho : zcn[o]? = some own) (h : zlk zcis o i = some q) : Cond.constant own i (Int32.ofInt q.1) ∈ zgd := by
  obtain ⟨rows, h1, h2⟩ := zlk_mem h
  have h3 := zall_get zcis_ok o rows h1
  rw [Nat.zero_add] at h3
  unfold zick at h3
  have h4 := List.all_eq_true.mp h3 _ h2
  rw [ho] at h4
  exact zpos_mem h4
theorem zcJ_get {o i : Nat} {own : String} {q : Int × Nat} (ho : zcn[o]? = some own) (h : zlk zcJs o i = some q) : Cond.constantLong own i (Int64.ofInt q.1) ∈ zgd := by
  obtain ⟨rows, h1, h2⟩ := zlk_mem h
  have h3 := zall_get zcJs_ok o rows h1
  rw [Nat.zero_add] at h3
  unfold zJck at h3
  have h4 := List.all_eq_true.mp h3 _ h2
  rw [ho] at h4
  exact zpos_mem h4
section ZST
variable {p : Program} {l : Launch} {e : Env} {R : Room} {s : State} {m : MethodId} {args : Array Value} {below : List Frame} {meth : Method} {c : Code} {Q : State → Prop} {D : va_G} {A : Nat → Prop} {b : Nat → Value} {cells slots d : Nat} {sc : Option (List Int32)} {mi : zMi} {Ts : List Cond} {ad : List Nat} {pc len : Nat} {lo : zLo} {sk : List Value} {h : zHp} {st' : zSt}

theorem zi_iconst (hc : zCx p R s m args meth c Ts A b sc d mi) {n : Int} (hd : decode mi.2.1 pc = .ok (.iconst n, len)) (hz : zst sc mi (.iconst n) len pc lo sk h = some (.inl st')) (kk : zGo p l e R s m args below meth c Q D A b mi.2.2.1 cells slots st' ad) : zGo p l e R s m args below meth c Q D A b mi.2.2.1 cells slots (pc, lo, sk, h) ad := by
  simp only [zst, zN, Option.bind_eq_some_iff, Option.some.injEq, Sum.inl.injEq] at hz
  obtain ⟨_, h1, rfl⟩ := hz
  obtain rfl := zg_some h1
  intro tys ws H locs ls stk hK hP hD hS hW hL hT
  exact lv_iconst hc.1 hc.2.1 hd rfl (kk tys ws H locs ls _ hK hP hD hS hW hL (zF2_c (zVR_i _) hT))
theorem zi_bipush (hc : zCx p R s m args meth c Ts A b sc d mi) {n : Int} (hd : decode mi.2.1 pc = .ok (.bipush n, len)) (hz : zst sc mi (.bipush n) len pc lo sk h = some (.inl st')) (kk : zGo p l e R s m args below meth c Q D A b mi.2.2.1 cells slots st' ad) : zGo p l e R s m args below meth c Q D A b mi.2.2.1 cells slots (pc, lo, sk, h) ad := by
  simp only [zst, zN, Option.bind_eq_some_iff, Option.some.injEq, Sum.inl.injEq] at hz
  obtain ⟨_, h1, rfl⟩ := hz
  obtain rfl := zg_some h1
  intro tys ws H locs ls stk hK hP hD hS hW hL hT
  exact lv_bipush hc.1 hc.2.1 hd rfl (kk tys ws H locs ls _ hK hP hD hS hW hL (zF2_c (zVR_i _) hT))
theorem zi_sipush (hc : zCx p R s m args meth c Ts A b sc d mi) {n : Int} (hd : decode mi.2.1 pc = .ok (.sipush n, len)) (hz : zst sc mi (.sipush n) len pc lo sk h = some (.inl st')) (kk : zGo p l e R s m args below meth c Q D A b mi.2.2.1 cells slots st' ad) : zGo p l e R s m args below meth c Q D A b mi.2.2.1 cells slots (pc, lo, sk, h) ad := by
  simp only [zst, zN, Option.bind_eq_some_iff, Option.some.injEq, Sum.inl.injEq] at hz
  obtain ⟨_, h1, rfl⟩ := hz
  obtain rfl := zg_some h1
  intro tys ws H locs ls stk hK hP hD hS hW hL hT
  exact lv_sipush hc.1 hc.2.1 hd rfl (kk tys ws H locs ls _ hK hP hD hS hW hL (zF2_c (zVR_i _) hT))
theorem zi_lconst (hc : zCx p R s m args meth c Ts A b sc d mi) {n : Fin 2} (hd : decode mi.2.1 pc = .ok (.lconst n, len)) (hz : zst sc mi (.lconst n) len pc lo sk h = some (.inl st')) (kk : zGo p l e R s m args below meth c Q D A b mi.2.2.1 cells slots st' ad) : zGo p l e R s m args below meth c Q D A b mi.2.2.1 cells slots (pc, lo, sk, h) ad := by
  simp only [zst, zN, Option.bind_eq_some_iff, Option.some.injEq, Sum.inl.injEq] at hz
  obtain ⟨_, h1, rfl⟩ := hz
  obtain rfl := zg_some h1
  intro tys ws H locs ls stk hK hP hD hS hW hL hT
  exact lv_lconst hc.1 hc.2.1 hd rfl (kk tys ws H locs ls _ hK hP hD hS hW hL (zF2_c (zVR_l _) hT))
theorem zi_iload_n (hc : zCx p R s m args meth c Ts A b sc d mi) {k : Fin 4} (hd : decode mi.2.1 pc = .ok (.iload_n k, len)) (hz : zst sc mi (.iload_n k) len pc lo sk h = some (.inl st')) (kk : zGo p l e R s m args below meth c Q D A b mi.2.2.1 cells slots st' ad) : zGo p l e R s m args below meth c Q D A b mi.2.2.1 cells slots (pc, lo, sk, h) ad := by
  simp only [zst, zN, Option.bind_eq_some_iff, Option.some.injEq, Sum.inl.injEq] at hz
  obtain ⟨_, h1, v, h2, q, h3, rfl⟩ := hz
  obtain rfl := zg_some h1
  have h4 := zpi_some h3
  obtain ⟨rfl, -⟩ := List.cons.inj h4
  intro tys ws H locs ls stk hK hP hD hS hW hL hT
  obtain ⟨w, h5, h6⟩ := zLR_get hL h2
  obtain rfl := zVR_ui h6
  exact lv_iload_n hc.1 hc.2.1 hd rfl h5 (kk tys ws H locs ls _ hK hP hD hS hW hL (zF2_c (zVR_i _) hT))
theorem zi_iload (hc : zCx p R s m args meth c Ts A b sc d mi) {k : Nat} (hd : decode mi.2.1 pc = .ok (.iload k, len)) (hz : zst sc mi (.iload k) len pc lo sk h = some (.inl st')) (kk : zGo p l e R s m args below meth c Q D A b mi.2.2.1 cells slots st' ad) : zGo p l e R s m args below meth c Q D A b mi.2.2.1 cells slots (pc, lo, sk, h) ad := by
  simp only [zst, zN, Option.bind_eq_some_iff, Option.some.injEq, Sum.inl.injEq] at hz
  obtain ⟨_, h1, v, h2, q, h3, rfl⟩ := hz
  obtain rfl := zg_some h1
  have h4 := zpi_some h3
  obtain ⟨rfl, -⟩ := List.cons.inj h4
  intro tys ws H locs ls stk hK hP hD hS hW hL hT
  obtain ⟨w, h5, h6⟩ := zLR_get hL h2
  obtain rfl := zVR_ui h6
  exact lv_iload hc.1 hc.2.1 hd h5 (kk tys ws H locs ls _ hK hP hD hS hW hL (zF2_c (zVR_i _) hT))
theorem zi_lload_n (hc : zCx p R s m args meth c Ts A b sc d mi) {k : Fin 4} (hd : decode mi.2.1 pc = .ok (.lload_n k, len)) (hz : zst sc mi (.lload_n k) len pc lo sk h = some (.inl st')) (kk : zGo p l e R s m args below meth c Q D A b mi.2.2.1 cells slots st' ad) : zGo p l e R s m args below meth c Q D A b mi.2.2.1 cells slots (pc, lo, sk, h) ad := by
  simp only [zst, zN, Option.bind_eq_some_iff, Option.some.injEq, Sum.inl.injEq] at hz
  obtain ⟨_, h1, v, h2, q, h3, rfl⟩ := hz
  obtain rfl := zg_some h1
  have h4 := zpl_some h3
  obtain ⟨rfl, -⟩ := List.cons.inj h4
  intro tys ws H locs ls stk hK hP hD hS hW hL hT
  obtain ⟨w, h5, h6⟩ := zLR_get hL h2
  obtain rfl := zVR_ul h6
  exact lv_lload_n hc.1 hc.2.1 hd rfl h5 (kk tys ws H locs ls _ hK hP hD hS hW hL (zF2_c (zVR_l _) hT))
theorem zi_lload (hc : zCx p R s m args meth c Ts A b sc d mi) {k : Nat} (hd : decode mi.2.1 pc = .ok (.lload k, len)) (hz : zst sc mi (.lload k) len pc lo sk h = some (.inl st')) (kk : zGo p l e R s m args below meth c Q D A b mi.2.2.1 cells slots st' ad) : zGo p l e R s m args below meth c Q D A b mi.2.2.1 cells slots (pc, lo, sk, h) ad := by
  simp only [zst, zN, Option.bind_eq_some_iff, Option.some.injEq, Sum.inl.injEq] at hz
  obtain ⟨_, h1, v, h2, q, h3, rfl⟩ := hz
  obtain rfl := zg_some h1
  have h4 := zpl_some h3
  obtain ⟨rfl, -⟩ := List.cons.inj h4
  intro tys ws H locs ls stk hK hP hD hS hW hL hT
  obtain ⟨w, h5, h6⟩ := zLR_get hL h2
  obtain rfl := zVR_ul h6
  exact lv_lload hc.1 hc.2.1 hd h5 (kk tys ws H locs ls _ hK hP hD hS hW hL (zF2_c (zVR_l _) hT))
theorem zi_aload_n (hc : zCx p R s m args meth c Ts A b sc d mi) {k : Fin 4} (hd : decode mi.2.1 pc = .ok (.aload_n k, len)) (hz : zst sc mi (.aload_n k) len pc lo sk h = some (.inl st')) (kk : zGo p l e R s m args below meth c Q D A b mi.2.2.1 cells slots st' ad) : zGo p l e R s m args below meth c Q D A b mi.2.2.1 cells slots (pc, lo, sk, h) ad := by
  simp only [zst, zN, Option.bind_eq_some_iff, Option.some.injEq, Sum.inl.injEq] at hz
  obtain ⟨_, h1, v, h2, _, h3, rfl⟩ := hz
  obtain rfl := zg_some h1
  have h4 := zgb_some h3
  intro tys ws H locs ls stk hK hP hD hS hW hL hT
  obtain ⟨w, h5, h6⟩ := zLR_get hL h2
  cases v with
  | ref k0 =>
    obtain ⟨a, h7, rfl⟩ := zVR_ur h6
    exact lv_aload_n hc.1 hc.2.1 hd rfl h5 (kk tys ws H locs ls _ hK hP hD hS hW hL (zF2_c (zVR_r h7) hT))
  | retAddr k0 =>
    have h6b := h6
    obtain ⟨hw0, ⟨a, rfl⟩ | rfl⟩ := zVR_us h6
    · exact lv_aload_n hc.1 hc.2.1 hd rfl h5 (kk tys ws H locs ls _ hK hP hD hS hW hL (zF2_c h6b hT))
    · exact lv_aload_nN hc.1 hc.2.1 hd rfl h5 (kk tys ws H locs ls _ hK hP hD hS hW hL (zF2_c h6b hT))
  | int x => cases h4
  | long x => cases h4
  | null => cases h4
  | float x => cases h4
  | double x => cases h4
theorem zi_aload (hc : zCx p R s m args meth c Ts A b sc d mi) {k : Nat} (hd : decode mi.2.1 pc = .ok (.aload k, len)) (hz : zst sc mi (.aload k) len pc lo sk h = some (.inl st')) (kk : zGo p l e R s m args below meth c Q D A b mi.2.2.1 cells slots st' ad) : zGo p l e R s m args below meth c Q D A b mi.2.2.1 cells slots (pc, lo, sk, h) ad := by
  simp only [zst, zN, Option.bind_eq_some_iff, Option.some.injEq, Sum.inl.injEq] at hz
  obtain ⟨_, h1, v, h2, _, h3, rfl⟩ := hz
  obtain rfl := zg_some h1
  have h4 := zgb_some h3
  intro tys ws H locs ls stk hK hP hD hS hW hL hT
  obtain ⟨w, h5, h6⟩ := zLR_get hL h2
  cases v with
  | ref k0 =>
    obtain ⟨a, h7, rfl⟩ := zVR_ur h6
    exact lv_aload hc.1 hc.2.1 hd h5 (kk tys ws H locs ls _ hK hP hD hS hW hL (zF2_c (zVR_r h7) hT))
  | retAddr k0 =>
    have h6b := h6
    obtain ⟨hw0, ⟨a, rfl⟩ | rfl⟩ := zVR_us h6
    · exact lv_aload hc.1 hc.2.1 hd h5 (kk tys ws H locs ls _ hK hP hD hS hW hL (zF2_c h6b hT))
    · exact lv_aloadN hc.1 hc.2.1 hd h5 (kk tys ws H locs ls _ hK hP hD hS hW hL (zF2_c h6b hT))
  | int x => cases h4
  | long x => cases h4
  | null => cases h4
  | float x => cases h4
  | double x => cases h4
theorem zi_istore_n (hc : zCx p R s m args meth c Ts A b sc d mi) {k : Fin 4} (hd : decode mi.2.1 pc = .ok (.istore_n k, len)) (hz : zst sc mi (.istore_n k) len pc lo sk h = some (.inl st')) (kk : zGo p l e R s m args below meth c Q D A b mi.2.2.1 cells slots st' ad) : zGo p l e R s m args below meth c Q D A b mi.2.2.1 cells slots (pc, lo, sk, h) ad := by
  simp only [zst, zN, Option.bind_eq_some_iff, Option.some.injEq, Sum.inl.injEq] at hz
  obtain ⟨_, h1, q, h2, _, h3, rfl⟩ := hz
  obtain rfl := zg_some h1
  obtain rfl := zpi_some h2
  have h4 := of_decide_eq_true (zgb_some h3)
  intro tys ws H locs ls stk hK hP hD hS hW hL hT
  obtain ⟨t, hst, hU⟩ := zSR_i hT
  subst hst
  clear hT
  have hT := hU
  clear hU
  obtain ⟨lv, hl, hf⟩ := hL
  exact lv_istore_n hc.1 hc.2.1 hd rfl hl h4 rfl (fun ls2 hl2 => kk tys ws H locs ls2 _ hK hP hD hS hW ⟨_, hl2, zL_s1 _ (zVR_i _) hf⟩ hT)
theorem zi_istore (hc : zCx p R s m args meth c Ts A b sc d mi) {k : Nat} (hd : decode mi.2.1 pc = .ok (.istore k, len)) (hz : zst sc mi (.istore k) len pc lo sk h = some (.inl st')) (kk : zGo p l e R s m args below meth c Q D A b mi.2.2.1 cells slots st' ad) : zGo p l e R s m args below meth c Q D A b mi.2.2.1 cells slots (pc, lo, sk, h) ad := by
  simp only [zst, zN, Option.bind_eq_some_iff, Option.some.injEq, Sum.inl.injEq] at hz
  obtain ⟨_, h1, q, h2, _, h3, rfl⟩ := hz
  obtain rfl := zg_some h1
  obtain rfl := zpi_some h2
  have h4 := of_decide_eq_true (zgb_some h3)
  intro tys ws H locs ls stk hK hP hD hS hW hL hT
  obtain ⟨t, hst, hU⟩ := zSR_i hT
  subst hst
  clear hT
  have hT := hU
  clear hU
  obtain ⟨lv, hl, hf⟩ := hL
  exact lv_istore hc.1 hc.2.1 hd hl h4 rfl (fun ls2 hl2 => kk tys ws H locs ls2 _ hK hP hD hS hW ⟨_, hl2, zL_s1 _ (zVR_i _) hf⟩ hT)
theorem zi_lstore_n (hc : zCx p R s m args meth c Ts A b sc d mi) {k : Fin 4} (hd : decode mi.2.1 pc = .ok (.lstore_n k, len)) (hz : zst sc mi (.lstore_n k) len pc lo sk h = some (.inl st')) (kk : zGo p l e R s m args below meth c Q D A b mi.2.2.1 cells slots st' ad) : zGo p l e R s m args below meth c Q D A b mi.2.2.1 cells slots (pc, lo, sk, h) ad := by
  simp only [zst, zN, Option.bind_eq_some_iff, Option.some.injEq, Sum.inl.injEq] at hz
  obtain ⟨_, h1, q, h2, _, h3, rfl⟩ := hz
  obtain rfl := zg_some h1
  obtain rfl := zpl_some h2
  have h4 := of_decide_eq_true (zgb_some h3)
  intro tys ws H locs ls stk hK hP hD hS hW hL hT
  obtain ⟨t, hst, hU⟩ := zSR_l hT
  subst hst
  clear hT
  have hT := hU
  clear hU
  obtain ⟨lv, hl, hf⟩ := hL
  exact lv_lstore_n hc.1 hc.2.1 hd rfl hl h4 rfl (fun ls2 hl2 => kk tys ws H locs ls2 _ hK hP hD hS hW ⟨_, hl2, zL_s2 _ (zVR_l _) hf⟩ hT)
theorem zi_lstore (hc : zCx p R s m args meth c Ts A b sc d mi) {k : Nat} (hd : decode mi.2.1 pc = .ok (.lstore k, len)) (hz : zst sc mi (.lstore k) len pc lo sk h = some (.inl st')) (kk : zGo p l e R s m args below meth c Q D A b mi.2.2.1 cells slots st' ad) : zGo p l e R s m args below meth c Q D A b mi.2.2.1 cells slots (pc, lo, sk, h) ad := by
  simp only [zst, zN, Option.bind_eq_some_iff, Option.some.injEq, Sum.inl.injEq] at hz
  obtain ⟨_, h1, q, h2, _, h3, rfl⟩ := hz
  obtain rfl := zg_some h1
  obtain rfl := zpl_some h2
  have h4 := of_decide_eq_true (zgb_some h3)
  intro tys ws H locs ls stk hK hP hD hS hW hL hT
  obtain ⟨t, hst, hU⟩ := zSR_l hT
  subst hst
  clear hT
  have hT := hU
  clear hU
  obtain ⟨lv, hl, hf⟩ := hL
  exact lv_lstore hc.1 hc.2.1 hd hl h4 rfl (fun ls2 hl2 => kk tys ws H locs ls2 _ hK hP hD hS hW ⟨_, hl2, zL_s2 _ (zVR_l _) hf⟩ hT)
theorem zi_astore_n (hc : zCx p R s m args meth c Ts A b sc d mi) {k : Fin 4} (hd : decode mi.2.1 pc = .ok (.astore_n k, len)) (hz : zst sc mi (.astore_n k) len pc lo sk h = some (.inl st')) (kk : zGo p l e R s m args below meth c Q D A b mi.2.2.1 cells slots st' ad) : zGo p l e R s m args below meth c Q D A b mi.2.2.1 cells slots (pc, lo, sk, h) ad := by
  simp only [zst, zN, Option.bind_eq_some_iff, Option.some.injEq, Sum.inl.injEq] at hz
  obtain ⟨_, h1, q, h2, _, h3, rfl⟩ := hz
  obtain rfl := zg_some h1
  obtain rfl := zpr_some h2
  have h4 := of_decide_eq_true (zgb_some h3)
  intro tys ws H locs ls stk hK hP hD hS hW hL hT
  obtain ⟨a, t, hst, ha, hU⟩ := zSR_r hT
  subst hst
  clear hT
  have hT := hU
  clear hU
  obtain ⟨lv, hl, hf⟩ := hL
  exact lv_astore_n hc.1 hc.2.1 hd rfl hl h4 rfl (fun ls2 hl2 => kk tys ws H locs ls2 _ hK hP hD hS hW ⟨_, hl2, zL_s1 _ (zVR_r ha) hf⟩ hT)
theorem zi_astore (hc : zCx p R s m args meth c Ts A b sc d mi) {k : Nat} (hd : decode mi.2.1 pc = .ok (.astore k, len)) (hz : zst sc mi (.astore k) len pc lo sk h = some (.inl st')) (kk : zGo p l e R s m args below meth c Q D A b mi.2.2.1 cells slots st' ad) : zGo p l e R s m args below meth c Q D A b mi.2.2.1 cells slots (pc, lo, sk, h) ad := by
  simp only [zst, zN, Option.bind_eq_some_iff, Option.some.injEq, Sum.inl.injEq] at hz
  obtain ⟨_, h1, q, h2, _, h3, rfl⟩ := hz
  obtain rfl := zg_some h1
  obtain rfl := zpr_some h2
  have h4 := of_decide_eq_true (zgb_some h3)
  intro tys ws H locs ls stk hK hP hD hS hW hL hT
  obtain ⟨a, t, hst, ha, hU⟩ := zSR_r hT
  subst hst
  clear hT
  have hT := hU
  clear hU
  obtain ⟨lv, hl, hf⟩ := hL
  exact lv_astore hc.1 hc.2.1 hd hl h4 rfl (fun ls2 hl2 => kk tys ws H locs ls2 _ hK hP hD hS hW ⟨_, hl2, zL_s1 _ (zVR_r ha) hf⟩ hT)
theorem zi_iinc (hc : zCx p R s m args meth c Ts A b sc d mi) {i : Nat} {n : Int} (hd : decode mi.2.1 pc = .ok (.iinc i n, len)) (hz : zst sc mi (.iinc i n) len pc lo sk h = some (.inl st')) (kk : zGo p l e R s m args below meth c Q D A b mi.2.2.1 cells slots st' ad) : zGo p l e R s m args below meth c Q D A b mi.2.2.1 cells slots (pc, lo, sk, h) ad := by
  simp only [zst, zN, Option.bind_eq_some_iff, Option.some.injEq, Sum.inl.injEq] at hz
  obtain ⟨_, h1, v, h2, q, h3, _, h3b, rfl⟩ := hz
  obtain rfl := zg_some h1
  have h4 := zpi_some h3
  obtain ⟨rfl, -⟩ := List.cons.inj h4
  have h4 := of_decide_eq_true (zgb_some h3b)
  intro tys ws H locs ls stk hK hP hD hS hW hL hT
  obtain ⟨lv, hl, hf⟩ := hL
  obtain ⟨⟨k1, w⟩, h5, h6, h7⟩ := zF2_mem hf _ (zas2_mem h2)
  dsimp only at h6 h7
  subst h6
  obtain rfl := zVR_ui h7
  obtain ⟨j, h8⟩ := List.getElem?_of_mem h5
  exact lv_iinc hc.1 hc.2.1 hd hl h8 rfl h4 rfl (fun ls2 hl2 => kk tys ws H locs ls2 _ hK hP hD hS hW ⟨_, hl2, zL_s1 _ (zVR_i _) hf⟩ hT)
theorem zi_i2l (hc : zCx p R s m args meth c Ts A b sc d mi)  (hd : decode mi.2.1 pc = .ok (.i2l, len)) (hz : zst sc mi (.i2l) len pc lo sk h = some (.inl st')) (kk : zGo p l e R s m args below meth c Q D A b mi.2.2.1 cells slots st' ad) : zGo p l e R s m args below meth c Q D A b mi.2.2.1 cells slots (pc, lo, sk, h) ad := by
  simp only [zst, zN, Option.bind_eq_some_iff, Option.some.injEq, Sum.inl.injEq] at hz
  obtain ⟨_, h1, q, h2, rfl⟩ := hz
  obtain rfl := zg_some h1
  obtain rfl := zpi_some h2
  intro tys ws H locs ls stk hK hP hD hS hW hL hT
  obtain ⟨t, hst, hU⟩ := zSR_i hT
  subst hst
  clear hT
  have hT := hU
  clear hU
  exact lv_i2l hc.1 hc.2.1 hd rfl (kk tys ws H locs ls _ hK hP hD hS hW hL (zF2_c (zVR_l _) hT))
theorem zi_i2b (hc : zCx p R s m args meth c Ts A b sc d mi)  (hd : decode mi.2.1 pc = .ok (.i2b, len)) (hz : zst sc mi (.i2b) len pc lo sk h = some (.inl st')) (kk : zGo p l e R s m args below meth c Q D A b mi.2.2.1 cells slots st' ad) : zGo p l e R s m args below meth c Q D A b mi.2.2.1 cells slots (pc, lo, sk, h) ad := by
  simp only [zst, zN, Option.bind_eq_some_iff, Option.some.injEq, Sum.inl.injEq] at hz
  obtain ⟨_, h1, q, h2, rfl⟩ := hz
  obtain rfl := zg_some h1
  obtain rfl := zpi_some h2
  intro tys ws H locs ls stk hK hP hD hS hW hL hT
  obtain ⟨t, hst, hU⟩ := zSR_i hT
  subst hst
  clear hT
  have hT := hU
  clear hU
  exact lv_i2b hc.1 hc.2.1 hd rfl (kk tys ws H locs ls _ hK hP hD hS hW hL (zF2_c (zVR_i _) hT))
theorem zi_i2s (hc : zCx p R s m args meth c Ts A b sc d mi)  (hd : decode mi.2.1 pc = .ok (.i2s, len)) (hz : zst sc mi (.i2s) len pc lo sk h = some (.inl st')) (kk : zGo p l e R s m args below meth c Q D A b mi.2.2.1 cells slots st' ad) : zGo p l e R s m args below meth c Q D A b mi.2.2.1 cells slots (pc, lo, sk, h) ad := by
  simp only [zst, zN, Option.bind_eq_some_iff, Option.some.injEq, Sum.inl.injEq] at hz
  obtain ⟨_, h1, q, h2, rfl⟩ := hz
  obtain rfl := zg_some h1
  obtain rfl := zpi_some h2
  intro tys ws H locs ls stk hK hP hD hS hW hL hT
  obtain ⟨t, hst, hU⟩ := zSR_i hT
  subst hst
  clear hT
  have hT := hU
  clear hU
  exact lv_i2s hc.1 hc.2.1 hd rfl (kk tys ws H locs ls _ hK hP hD hS hW hL (zF2_c (zVR_i _) hT))
theorem zi_i2c (hc : zCx p R s m args meth c Ts A b sc d mi)  (hd : decode mi.2.1 pc = .ok (.i2c, len)) (hz : zst sc mi (.i2c) len pc lo sk h = some (.inl st')) (kk : zGo p l e R s m args below meth c Q D A b mi.2.2.1 cells slots st' ad) : zGo p l e R s m args below meth c Q D A b mi.2.2.1 cells slots (pc, lo, sk, h) ad := by
  simp only [zst, zN, Option.bind_eq_some_iff, Option.some.injEq, Sum.inl.injEq] at hz
  obtain ⟨_, h1, q, h2, rfl⟩ := hz
  obtain rfl := zg_some h1
  obtain rfl := zpi_some h2
  intro tys ws H locs ls stk hK hP hD hS hW hL hT
  obtain ⟨t, hst, hU⟩ := zSR_i hT
  subst hst
  clear hT
  have hT := hU
  clear hU
  exact lv_i2c hc.1 hc.2.1 hd rfl (kk tys ws H locs ls _ hK hP hD hS hW hL (zF2_c (zVR_i _) hT))
theorem zi_lcmp (hc : zCx p R s m args meth c Ts A b sc d mi)  (hd : decode mi.2.1 pc = .ok (.lcmp, len)) (hz : zst sc mi (.lcmp) len pc lo sk h = some (.inl st')) (kk : zGo p l e R s m args below meth c Q D A b mi.2.2.1 cells slots st' ad) : zGo p l e R s m args below meth c Q D A b mi.2.2.1 cells slots (pc, lo, sk, h) ad := by
  simp only [zst, zN, Option.bind_eq_some_iff, Option.some.injEq, Sum.inl.injEq] at hz
  obtain ⟨_, h1, y, h2, x, h3, rfl⟩ := hz
  obtain rfl := zg_some h1
  obtain rfl := zpl_some h2
  have h4 := zpl_some h3
  intro tys ws H locs ls stk hK hP hD hS hW hL hT
  obtain ⟨t, hst, hU⟩ := zSR_l hT
  subst hst
  clear hT
  have hT := hU
  clear hU
  rw [h4] at hT
  obtain ⟨t, hst, hU⟩ := zSR_l hT
  subst hst
  clear hT
  have hT := hU
  clear hU
  exact W.lcmp hc.1 hc.2.1 hd (kk tys ws H locs ls _ hK hP hD hS hW hL (zF2_c (zVR_i _) hT))
theorem zi_dup (hc : zCx p R s m args meth c Ts A b sc d mi)  (hd : decode mi.2.1 pc = .ok (.dup, len)) (hz : zst sc mi (.dup) len pc lo sk h = some (.inl st')) (kk : zGo p l e R s m args below meth c Q D A b mi.2.2.1 cells slots st' ad) : zGo p l e R s m args below meth c Q D A b mi.2.2.1 cells slots (pc, lo, sk, h) ad := by
  simp only [zst, zN, Option.bind_eq_some_iff, Option.some.injEq, Sum.inl.injEq] at hz
  obtain ⟨_, h1, q, h2, rfl⟩ := hz
  obtain rfl := zg_some h1
  obtain ⟨rfl, h3⟩ := zp1_some h2
  intro tys ws H locs ls stk hK hP hD hS hW hL hT
  obtain ⟨w, t, hst, hw, hU⟩ := zF2_u hT
  subst hst
  clear hT
  have hT := hU
  clear hU
  exact lv_dup hc.1 hc.2.1 hd ((zVR_cat hw).trans h3) (kk tys ws H locs ls _ hK hP hD hS hW hL (zF2_c hw (zF2_c hw hT)))
theorem zi_pop (hc : zCx p R s m args meth c Ts A b sc d mi)  (hd : decode mi.2.1 pc = .ok (.pop, len)) (hz : zst sc mi (.pop) len pc lo sk h = some (.inl st')) (kk : zGo p l e R s m args below meth c Q D A b mi.2.2.1 cells slots st' ad) : zGo p l e R s m args below meth c Q D A b mi.2.2.1 cells slots (pc, lo, sk, h) ad := by
  simp only [zst, zN, Option.bind_eq_some_iff, Option.some.injEq, Sum.inl.injEq] at hz
  obtain ⟨_, h1, q, h2, rfl⟩ := hz
  obtain rfl := zg_some h1
  obtain ⟨rfl, h3⟩ := zp1_some h2
  intro tys ws H locs ls stk hK hP hD hS hW hL hT
  obtain ⟨w, t, hst, hw, hU⟩ := zF2_u hT
  subst hst
  clear hT
  have hT := hU
  clear hU
  exact lv_pop hc.1 hc.2.1 hd ((zVR_cat hw).trans h3) (kk tys ws H locs ls _ hK hP hD hS hW hL hT)
theorem zi_pop2 (hc : zCx p R s m args meth c Ts A b sc d mi)  (hd : decode mi.2.1 pc = .ok (.pop2, len)) (hz : zst sc mi (.pop2) len pc lo sk h = some (.inl st')) (kk : zGo p l e R s m args below meth c Q D A b mi.2.2.1 cells slots st' ad) : zGo p l e R s m args below meth c Q D A b mi.2.2.1 cells slots (pc, lo, sk, h) ad := by
  simp only [zst, zN, Option.bind_eq_some_iff, Option.some.injEq, Sum.inl.injEq] at hz
  obtain ⟨_, h1, q, h2, rfl⟩ := hz
  obtain rfl := zg_some h1
  obtain rfl := zpl_some h2
  intro tys ws H locs ls stk hK hP hD hS hW hL hT
  obtain ⟨t, hst, hU⟩ := zSR_l hT
  subst hst
  clear hT
  have hT := hU
  clear hU
  exact zv_pop2 hc.1 hc.2.1 hd (kk tys ws H locs ls _ hK hP hD hS hW hL hT)
theorem zi_dup2 (hc : zCx p R s m args meth c Ts A b sc d mi)  (hd : decode mi.2.1 pc = .ok (.dup2, len)) (hz : zst sc mi (.dup2) len pc lo sk h = some (.inl st')) (kk : zGo p l e R s m args below meth c Q D A b mi.2.2.1 cells slots st' ad) : zGo p l e R s m args below meth c Q D A b mi.2.2.1 cells slots (pc, lo, sk, h) ad := by
  simp only [zst, zN, Option.bind_eq_some_iff, Option.some.injEq, Sum.inl.injEq] at hz
  obtain ⟨_, h1, q, h2, q2, h2b, rfl⟩ := hz
  obtain rfl := zg_some h1
  obtain ⟨rfl, h3⟩ := zp1_some h2
  obtain ⟨h4, h5⟩ := zp1_some h2b
  intro tys ws H locs ls stk hK hP hD hS hW hL hT
  obtain ⟨w, t, hst, hw, hU⟩ := zF2_u hT
  subst hst
  clear hT
  have hT := hU
  clear hU
  rw [h4] at hT
  obtain ⟨w2, t2, hst, hw2, hU⟩ := zF2_u hT
  subst hst
  clear hT
  have hT := hU
  clear hU
  exact lv_dup2_11 hc.1 hc.2.1 hd ((zVR_cat hw).trans h3) ((zVR_cat hw2).trans h5) (kk tys ws H locs ls _ hK hP hD hS hW hL (zF2_c hw (zF2_c hw2 (zF2_c hw (zF2_c hw2 hT)))))
theorem zi_goto (hc : zCx p R s m args meth c Ts A b sc d mi) {off : Int} (hd : decode mi.2.1 pc = .ok (.goto off, len)) (hz : zst sc mi (.goto off) len pc lo sk h = some (.inl st')) (kk : zGo p l e R s m args below meth c Q D A b mi.2.2.1 cells slots st' ad) : zGo p l e R s m args below meth c Q D A b mi.2.2.1 cells slots (pc, lo, sk, h) ad := by
  simp only [zst, zN, Option.bind_eq_some_iff, Option.some.injEq, Sum.inl.injEq] at hz
  obtain ⟨_, h1, t, h2, rfl⟩ := hz
  obtain rfl := zg_some h1
  intro tys ws H locs ls stk hK hP hD hS hW hL hT
  exact lv_goto hc.1 hc.2.1 hd (zjp_some h2) (kk tys ws H locs ls _ hK hP hD hS hW hL hT)
theorem zi_ldc (hc : zCx p R s m args meth c Ts A b sc d mi) {i : Nat} (hd : decode mi.2.1 pc = .ok (.ldc i, len)) (hz : zst sc mi (.ldc i) len pc lo sk h = some (.inl st')) (kk : zGo p l e R s m args below meth c Q D A b mi.2.2.1 cells slots st' ad) : zGo p l e R s m args below meth c Q D A b mi.2.2.1 cells slots (pc, lo, sk, h) ad := by
  simp only [zst, zN, Option.bind_eq_some_iff, Option.some.injEq, Sum.inl.injEq] at hz
  obtain ⟨_, h1, hz⟩ := hz
  obtain rfl := zg_some h1
  by_cases ho : mi.2.2.2.2.1 = 2
  · rw [if_pos ho] at hz
    simp only [Option.bind_eq_some_iff, Option.some.injEq, Sum.inl.injEq] at hz
    obtain ⟨k, h2, _, h3, rfl⟩ := hz
    obtain ⟨hk7, hki⟩ := zsts_ok h2
    have hcls : mi.1.cls = "HandLock$Reader" := by have h9 := hc.2.2.2.2.2.2.2.2.2.1; rw [ho] at h9; exact (Option.some.inj h9).symm
    obtain ⟨adK, adV, x1, x2, x3⟩ := hc.2.2.2.2.2.2.2.2.2.2.2.2.2.2
    obtain ⟨y1, y2, y3⟩ := x2 k hk7
    rw [hki] at y3
    have hown := hc.2.2.2.1
    rw [hcls] at hown
    intro tys ws H locs ls stk hK hP hD hS hW hL hT
    exact va_ldcS hc.1 hc.2.1 hown y3 hd (kk tys ws H locs ls _ hK hP hD hS hW hL (zF2_c (zVR_x y1) hT))
  · rw [if_neg ho] at hz
    simp only [Option.bind_eq_some_iff, Option.some.injEq, Sum.inl.injEq] at hz
    obtain ⟨q, h2, rfl⟩ := hz
    intro tys ws H locs ls stk hK hP hD hS hW hL hT
    exact lv_ldc hc.1 hc.2.1 hc.2.2.2.1 (zCx_w hc (zci_get hc.2.2.2.2.2.2.2.2.2.1 h2)) hd (kk tys ws H locs ls _ hK hP hD hS hW hL (zF2_c (zVR_i _) hT))
theorem zi_ldc_w (hc : zCx p R s m args meth c Ts A b sc d mi) {i : Nat} (hd : decode mi.2.1 pc = .ok (.ldc_w i, len)) (hz : zst sc mi (.ldc_w i) len pc lo sk h = some (.inl st')) (kk : zGo p l e R s m args below meth c Q D A b mi.2.2.1 cells slots st' ad) : zGo p l e R s m args below meth c Q D A b mi.2.2.1 cells slots (pc, lo, sk, h) ad := by
  simp only [zst, zN, Option.bind_eq_some_iff, Option.some.injEq, Sum.inl.injEq] at hz
  obtain ⟨_, h1, q, h2, rfl⟩ := hz
  obtain rfl := zg_some h1
  intro tys ws H locs ls stk hK hP hD hS hW hL hT
  exact lv_ldcw hc.1 hc.2.1 hc.2.2.2.1 (zCx_w hc (zci_get hc.2.2.2.2.2.2.2.2.2.1 h2)) hd (kk tys ws H locs ls _ hK hP hD hS hW hL (zF2_c (zVR_i _) hT))
theorem zi_ldc2_w (hc : zCx p R s m args meth c Ts A b sc d mi) {i : Nat} (hd : decode mi.2.1 pc = .ok (.ldc2_w i, len)) (hz : zst sc mi (.ldc2_w i) len pc lo sk h = some (.inl st')) (kk : zGo p l e R s m args below meth c Q D A b mi.2.2.1 cells slots st' ad) : zGo p l e R s m args below meth c Q D A b mi.2.2.1 cells slots (pc, lo, sk, h) ad := by
  simp only [zst, zN, Option.bind_eq_some_iff, Option.some.injEq, Sum.inl.injEq] at hz
  obtain ⟨_, h1, q, h2, rfl⟩ := hz
  obtain rfl := zg_some h1
  intro tys ws H locs ls stk hK hP hD hS hW hL hT
  exact lv_ldc2 hc.1 hc.2.1 hc.2.2.2.1 (zCx_w hc (zcJ_get hc.2.2.2.2.2.2.2.2.2.1 h2)) hd (kk tys ws H locs ls _ hK hP hD hS hW hL (zF2_c (zVR_l _) hT))
theorem zi_ifCond (hc : zCx p R s m args meth c Ts A b sc d mi) {cd : Jvm.ClassFile.Cond} {off : Int} (hd : decode mi.2.1 pc = .ok (.ifCond cd off, len)) (hz : zst sc mi (.ifCond cd off) len pc lo sk h = some (.inl st')) (kk : zGo p l e R s m args below meth c Q D A b mi.2.2.1 cells slots st' ad) : zGo p l e R s m args below meth c Q D A b mi.2.2.1 cells slots (pc, lo, sk, h) ad := by
  simp only [zst, zN, Option.bind_eq_some_iff, Option.some.injEq, Sum.inl.injEq] at hz
  obtain ⟨_, h1, x, h2, t, h3, hz⟩ := hz
  obtain rfl := zg_some h1
  obtain rfl := zpi_some h2
  intro tys ws H locs ls stk hK hP hD hS hW hL hT
  obtain ⟨tt, hst, hU⟩ := zSR_i hT
  subst hst
  clear hT
  have hT := hU
  clear hU
  have k1 : zcd cd x.1 0 = true → W p l e R s m args below meth c H locs cells slots Q (F0 m t ls tt) := fun hq => by
    rw [if_pos hq] at hz; cases hz
    exact kk tys ws H locs ls _ hK hP hD hS hW hL hT
  have k2 : ¬ zcd cd x.1 0 = true → W p l e R s m args below meth c H locs cells slots Q (F0 m (pc + 3) ls tt) := fun hq => by
    rw [if_neg hq] at hz; cases hz
    exact kk tys ws H locs ls _ hK hP hD hS hW hL hT
  cases cd with
  | eq => exact lv_if_eq hc.1 hc.2.1 hd (zjp_some h3) (fun hq => k1 (by simp [zcd]; first | exact hq | simpa using hq)) (fun hq => k2 (by simp [zcd]; first | exact hq | simpa using hq))
  | ne => exact lv_if_ne hc.1 hc.2.1 hd (zjp_some h3) (fun hq => k1 (by simp [zcd]; first | exact hq | simpa using hq)) (fun hq => k2 (by simp [zcd]; first | exact hq | simpa using hq))
  | lt => exact lv_if_lt hc.1 hc.2.1 hd (zjp_some h3) (fun hq => k1 (by simp [zcd]; first | exact hq | simpa using hq)) (fun hq => k2 (by simp [zcd]; first | exact hq | simpa using hq))
  | ge => exact lv_if_ge hc.1 hc.2.1 hd (zjp_some h3) (fun hq => k1 (by simp [zcd]; first | exact hq | simpa using hq)) (fun hq => k2 (by simp [zcd]; first | exact hq | simpa using hq))
  | gt => exact lv_if_gt hc.1 hc.2.1 hd (zjp_some h3) (fun hq => k1 (by simp [zcd]; first | exact hq | simpa using hq)) (fun hq => k2 (by simp [zcd]; first | exact hq | simpa using hq))
  | le => exact lv_if_le hc.1 hc.2.1 hd (zjp_some h3) (fun hq => k1 (by simp [zcd]; first | exact hq | simpa using hq)) (fun hq => k2 (by simp [zcd]; first | exact hq | simpa using hq))
theorem zi_if_icmp (hc : zCx p R s m args meth c Ts A b sc d mi) {cd : Jvm.ClassFile.Cond} {off : Int} (hd : decode mi.2.1 pc = .ok (.if_icmp cd off, len)) (hz : zst sc mi (.if_icmp cd off) len pc lo sk h = some (.inl st')) (kk : zGo p l e R s m args below meth c Q D A b mi.2.2.1 cells slots st' ad) : zGo p l e R s m args below meth c Q D A b mi.2.2.1 cells slots (pc, lo, sk, h) ad := by
  simp only [zst, zN, Option.bind_eq_some_iff, Option.some.injEq, Sum.inl.injEq] at hz
  obtain ⟨_, h1, y, h2, x, h2b, t, h3, hz⟩ := hz
  obtain rfl := zg_some h1
  obtain rfl := zpi_some h2
  have h4 := zpi_some h2b
  intro tys ws H locs ls stk hK hP hD hS hW hL hT
  obtain ⟨tt, hst, hU⟩ := zSR_i hT
  subst hst
  clear hT
  have hT := hU
  clear hU
  rw [h4] at hT
  obtain ⟨tt, hst, hU⟩ := zSR_i hT
  subst hst
  clear hT
  have hT := hU
  clear hU
  have k1 : zcd cd x.1 y.1 = true → W p l e R s m args below meth c H locs cells slots Q (F0 m t ls tt) := fun hq => by
    rw [if_pos hq] at hz; cases hz
    exact kk tys ws H locs ls _ hK hP hD hS hW hL hT
  have k2 : ¬ zcd cd x.1 y.1 = true → W p l e R s m args below meth c H locs cells slots Q (F0 m (pc + 3) ls tt) := fun hq => by
    rw [if_neg hq] at hz; cases hz
    exact kk tys ws H locs ls _ hK hP hD hS hW hL hT
  cases cd with
  | eq => exact lv_icmp_eq hc.1 hc.2.1 hd (zjp_some h3) (fun hq => k1 (by simp [zcd]; first | exact hq | simpa using hq)) (fun hq => k2 (by simp [zcd]; first | exact hq | simpa using hq))
  | ne => exact lv_icmp_ne hc.1 hc.2.1 hd (zjp_some h3) (fun hq => k1 (by simp [zcd]; first | exact hq | simpa using hq)) (fun hq => k2 (by simp [zcd]; first | exact hq | simpa using hq))
  | lt => exact lv_icmp_lt hc.1 hc.2.1 hd (zjp_some h3) (fun hq => k1 (by simp [zcd]; first | exact hq | simpa using hq)) (fun hq => k2 (by simp [zcd]; first | exact hq | simpa using hq))
  | ge => exact lv_icmp_ge hc.1 hc.2.1 hd (zjp_some h3) (fun hq => k1 (by simp [zcd]; first | exact hq | simpa using hq)) (fun hq => k2 (by simp [zcd]; first | exact hq | simpa using hq))
  | gt => exact lv_icmp_gt hc.1 hc.2.1 hd (zjp_some h3) (fun hq => k1 (by simp [zcd]; first | exact hq | simpa using hq)) (fun hq => k2 (by simp [zcd]; first | exact hq | simpa using hq))
  | le => exact lv_icmp_le hc.1 hc.2.1 hd (zjp_some h3) (fun hq => k1 (by simp [zcd]; first | exact hq | simpa using hq)) (fun hq => k2 (by simp [zcd]; first | exact hq | simpa using hq))
theorem zi_tsw (hc : zCx p R s m args meth c Ts A b sc d mi) {df lw hg : Int} {offs : Array Int} (hd : decode mi.2.1 pc = .ok (.tableswitch df lw hg offs, len)) (hz : zst sc mi (.tableswitch df lw hg offs) len pc lo sk h = some (.inl st')) (kk : zGo p l e R s m args below meth c Q D A b mi.2.2.1 cells slots st' ad) : zGo p l e R s m args below meth c Q D A b mi.2.2.1 cells slots (pc, lo, sk, h) ad := by
  simp only [zst, zN, Option.bind_eq_some_iff, Option.some.injEq, Sum.inl.injEq] at hz
  obtain ⟨x, h2, hz⟩ := hz
  obtain rfl := zpi_some h2
  intro tys ws H locs ls stk hK hP hD hS hW hL hT
  obtain ⟨tt, hst, hU⟩ := zSR_i hT
  subst hst
  clear hT
  have hT := hU
  clear hU
  by_cases hq : x.1.toInt < lw ∨ hg < x.1.toInt
  · rw [if_pos hq] at hz
    simp only [Option.bind_eq_some_iff, Option.some.injEq, Sum.inl.injEq] at hz
    obtain ⟨t, h3, rfl⟩ := hz
    exact lv_tableOut hc.1 hc.2.1 hd hq (zjp_some h3) (kk tys ws H locs ls _ hK hP hD hS hW hL hT)
  · rw [if_neg hq] at hz
    simp only [Option.bind_eq_some_iff, Option.some.injEq, Sum.inl.injEq] at hz
    obtain ⟨off, h4, t, h3, rfl⟩ := hz
    exact lv_tableIn hc.1 hc.2.1 hd (fun q => hq (Or.inl q)) (fun q => hq (Or.inr q)) h4 (zjp_some h3) (kk tys ws H locs ls _ hK hP hD hS hW hL hT)
theorem zi_lsw (hc : zCx p R s m args meth c Ts A b sc d mi) {df : Int} {ps : Array (Int × Int)} (hd : decode mi.2.1 pc = .ok (.lookupswitch df ps, len)) (hz : zst sc mi (.lookupswitch df ps) len pc lo sk h = some (.inl st')) (kk : zGo p l e R s m args below meth c Q D A b mi.2.2.1 cells slots st' ad) : zGo p l e R s m args below meth c Q D A b mi.2.2.1 cells slots (pc, lo, sk, h) ad := by
  simp only [zst, zN, Option.bind_eq_some_iff, Option.some.injEq, Sum.inl.injEq] at hz
  obtain ⟨x, h2, _, h4, t, h3, rfl⟩ := hz
  obtain rfl := zpi_some h2
  intro tys ws H locs ls stk hK hP hD hS hW hL hT
  obtain ⟨tt, hst, hU⟩ := zSR_i hT
  subst hst
  clear hT
  have hT := hU
  clear hU
  exact lv_lookup hc.1 hc.2.1 hd (zgb_some h4) rfl (zjp_some h3) (kk tys ws H locs ls _ hK hP hD hS hW hL hT)
theorem zi_iadd (hc : zCx p R s m args meth c Ts A b sc d mi) (hd : decode mi.2.1 pc = .ok (.iadd, len)) (hz : zst sc mi (.iadd) len pc lo sk h = some (.inl st')) (kk : zGo p l e R s m args below meth c Q D A b mi.2.2.1 cells slots st' ad) : zGo p l e R s m args below meth c Q D A b mi.2.2.1 cells slots (pc, lo, sk, h) ad := by
  simp only [zst, Option.bind_eq_some_iff] at hz
  obtain ⟨_, h1, hz⟩ := hz
  obtain rfl := zg_some h1
  obtain ⟨x, y, r, v, rfl, hv, rfl⟩ : ∃ (x y : Int32) (r : List Value) (v : Int32), sk = .int y :: .int x :: r ∧ zb2 .iadd x y = some v ∧ st' = (pc + 1, lo, .int v :: r, h) := by
    split at hz
    · rename_i y x r
      simp only [zN, Option.bind_eq_some_iff, Option.some.injEq, Sum.inl.injEq] at hz
      obtain ⟨v, hv, rfl⟩ := hz
      exact ⟨x, y, r, v, rfl, hv, rfl⟩
    · simp [zl2] at hz
    · simp at hz
  intro tys ws H locs ls stk hK hP hD hS hW hL hT
  obtain ⟨tt, hst, hU⟩ := zSR_i hT
  subst hst
  clear hT
  have hT := hU
  clear hU
  obtain ⟨tt, hst, hU⟩ := zSR_i hT
  subst hst
  clear hT
  have hT := hU
  clear hU
  simp only [zb2, Option.some.injEq] at hv
  subst hv
  exact lv_iadd hc.1 hc.2.1 hd (kk tys ws H locs ls _ hK hP hD hS hW hL (zF2_c (zVR_i _) hT))
theorem zi_isub (hc : zCx p R s m args meth c Ts A b sc d mi) (hd : decode mi.2.1 pc = .ok (.isub, len)) (hz : zst sc mi (.isub) len pc lo sk h = some (.inl st')) (kk : zGo p l e R s m args below meth c Q D A b mi.2.2.1 cells slots st' ad) : zGo p l e R s m args below meth c Q D A b mi.2.2.1 cells slots (pc, lo, sk, h) ad := by
  simp only [zst, Option.bind_eq_some_iff] at hz
  obtain ⟨_, h1, hz⟩ := hz
  obtain rfl := zg_some h1
  obtain ⟨x, y, r, v, rfl, hv, rfl⟩ : ∃ (x y : Int32) (r : List Value) (v : Int32), sk = .int y :: .int x :: r ∧ zb2 .isub x y = some v ∧ st' = (pc + 1, lo, .int v :: r, h) := by
    split at hz
    · rename_i y x r
      simp only [zN, Option.bind_eq_some_iff, Option.some.injEq, Sum.inl.injEq] at hz
      obtain ⟨v, hv, rfl⟩ := hz
      exact ⟨x, y, r, v, rfl, hv, rfl⟩
    · simp [zl2] at hz
    · simp at hz
  intro tys ws H locs ls stk hK hP hD hS hW hL hT
  obtain ⟨tt, hst, hU⟩ := zSR_i hT
  subst hst
  clear hT
  have hT := hU
  clear hU
  obtain ⟨tt, hst, hU⟩ := zSR_i hT
  subst hst
  clear hT
  have hT := hU
  clear hU
  simp only [zb2, Option.some.injEq] at hv
  subst hv
  exact lv_isub hc.1 hc.2.1 hd (kk tys ws H locs ls _ hK hP hD hS hW hL (zF2_c (zVR_i _) hT))
theorem zi_imul (hc : zCx p R s m args meth c Ts A b sc d mi) (hd : decode mi.2.1 pc = .ok (.imul, len)) (hz : zst sc mi (.imul) len pc lo sk h = some (.inl st')) (kk : zGo p l e R s m args below meth c Q D A b mi.2.2.1 cells slots st' ad) : zGo p l e R s m args below meth c Q D A b mi.2.2.1 cells slots (pc, lo, sk, h) ad := by
  simp only [zst, Option.bind_eq_some_iff] at hz
  obtain ⟨_, h1, hz⟩ := hz
  obtain rfl := zg_some h1
  obtain ⟨x, y, r, v, rfl, hv, rfl⟩ : ∃ (x y : Int32) (r : List Value) (v : Int32), sk = .int y :: .int x :: r ∧ zb2 .imul x y = some v ∧ st' = (pc + 1, lo, .int v :: r, h) := by
    split at hz
    · rename_i y x r
      simp only [zN, Option.bind_eq_some_iff, Option.some.injEq, Sum.inl.injEq] at hz
      obtain ⟨v, hv, rfl⟩ := hz
      exact ⟨x, y, r, v, rfl, hv, rfl⟩
    · simp [zl2] at hz
    · simp at hz
  intro tys ws H locs ls stk hK hP hD hS hW hL hT
  obtain ⟨tt, hst, hU⟩ := zSR_i hT
  subst hst
  clear hT
  have hT := hU
  clear hU
  obtain ⟨tt, hst, hU⟩ := zSR_i hT
  subst hst
  clear hT
  have hT := hU
  clear hU
  simp only [zb2, Option.some.injEq] at hv
  subst hv
  exact lv_imul hc.1 hc.2.1 hd (kk tys ws H locs ls _ hK hP hD hS hW hL (zF2_c (zVR_i _) hT))
theorem zi_iand (hc : zCx p R s m args meth c Ts A b sc d mi) (hd : decode mi.2.1 pc = .ok (.iand, len)) (hz : zst sc mi (.iand) len pc lo sk h = some (.inl st')) (kk : zGo p l e R s m args below meth c Q D A b mi.2.2.1 cells slots st' ad) : zGo p l e R s m args below meth c Q D A b mi.2.2.1 cells slots (pc, lo, sk, h) ad := by
  simp only [zst, Option.bind_eq_some_iff] at hz
  obtain ⟨_, h1, hz⟩ := hz
  obtain rfl := zg_some h1
  obtain ⟨x, y, r, v, rfl, hv, rfl⟩ : ∃ (x y : Int32) (r : List Value) (v : Int32), sk = .int y :: .int x :: r ∧ zb2 .iand x y = some v ∧ st' = (pc + 1, lo, .int v :: r, h) := by
    split at hz
    · rename_i y x r
      simp only [zN, Option.bind_eq_some_iff, Option.some.injEq, Sum.inl.injEq] at hz
      obtain ⟨v, hv, rfl⟩ := hz
      exact ⟨x, y, r, v, rfl, hv, rfl⟩
    · simp [zl2] at hz
    · simp at hz
  intro tys ws H locs ls stk hK hP hD hS hW hL hT
  obtain ⟨tt, hst, hU⟩ := zSR_i hT
  subst hst
  clear hT
  have hT := hU
  clear hU
  obtain ⟨tt, hst, hU⟩ := zSR_i hT
  subst hst
  clear hT
  have hT := hU
  clear hU
  simp only [zb2, Option.some.injEq] at hv
  subst hv
  exact lv_iand hc.1 hc.2.1 hd (kk tys ws H locs ls _ hK hP hD hS hW hL (zF2_c (zVR_i _) hT))
theorem zi_ior (hc : zCx p R s m args meth c Ts A b sc d mi) (hd : decode mi.2.1 pc = .ok (.ior, len)) (hz : zst sc mi (.ior) len pc lo sk h = some (.inl st')) (kk : zGo p l e R s m args below meth c Q D A b mi.2.2.1 cells slots st' ad) : zGo p l e R s m args below meth c Q D A b mi.2.2.1 cells slots (pc, lo, sk, h) ad := by
  simp only [zst, Option.bind_eq_some_iff] at hz
  obtain ⟨_, h1, hz⟩ := hz
  obtain rfl := zg_some h1
  obtain ⟨x, y, r, v, rfl, hv, rfl⟩ : ∃ (x y : Int32) (r : List Value) (v : Int32), sk = .int y :: .int x :: r ∧ zb2 .ior x y = some v ∧ st' = (pc + 1, lo, .int v :: r, h) := by
    split at hz
    · rename_i y x r
      simp only [zN, Option.bind_eq_some_iff, Option.some.injEq, Sum.inl.injEq] at hz
      obtain ⟨v, hv, rfl⟩ := hz
      exact ⟨x, y, r, v, rfl, hv, rfl⟩
    · simp [zl2] at hz
    · simp at hz
  intro tys ws H locs ls stk hK hP hD hS hW hL hT
  obtain ⟨tt, hst, hU⟩ := zSR_i hT
  subst hst
  clear hT
  have hT := hU
  clear hU
  obtain ⟨tt, hst, hU⟩ := zSR_i hT
  subst hst
  clear hT
  have hT := hU
  clear hU
  simp only [zb2, Option.some.injEq] at hv
  subst hv
  exact lv_ior hc.1 hc.2.1 hd (kk tys ws H locs ls _ hK hP hD hS hW hL (zF2_c (zVR_i _) hT))
theorem zi_ixor (hc : zCx p R s m args meth c Ts A b sc d mi) (hd : decode mi.2.1 pc = .ok (.ixor, len)) (hz : zst sc mi (.ixor) len pc lo sk h = some (.inl st')) (kk : zGo p l e R s m args below meth c Q D A b mi.2.2.1 cells slots st' ad) : zGo p l e R s m args below meth c Q D A b mi.2.2.1 cells slots (pc, lo, sk, h) ad := by
  simp only [zst, Option.bind_eq_some_iff] at hz
  obtain ⟨_, h1, hz⟩ := hz
  obtain rfl := zg_some h1
  obtain ⟨x, y, r, v, rfl, hv, rfl⟩ : ∃ (x y : Int32) (r : List Value) (v : Int32), sk = .int y :: .int x :: r ∧ zb2 .ixor x y = some v ∧ st' = (pc + 1, lo, .int v :: r, h) := by
    split at hz
    · rename_i y x r
      simp only [zN, Option.bind_eq_some_iff, Option.some.injEq, Sum.inl.injEq] at hz
      obtain ⟨v, hv, rfl⟩ := hz
      exact ⟨x, y, r, v, rfl, hv, rfl⟩
    · simp [zl2] at hz
    · simp at hz
  intro tys ws H locs ls stk hK hP hD hS hW hL hT
  obtain ⟨tt, hst, hU⟩ := zSR_i hT
  subst hst
  clear hT
  have hT := hU
  clear hU
  obtain ⟨tt, hst, hU⟩ := zSR_i hT
  subst hst
  clear hT
  have hT := hU
  clear hU
  simp only [zb2, Option.some.injEq] at hv
  subst hv
  exact lv_ixor hc.1 hc.2.1 hd (kk tys ws H locs ls _ hK hP hD hS hW hL (zF2_c (zVR_i _) hT))
theorem zi_ishl (hc : zCx p R s m args meth c Ts A b sc d mi) (hd : decode mi.2.1 pc = .ok (.ishl, len)) (hz : zst sc mi (.ishl) len pc lo sk h = some (.inl st')) (kk : zGo p l e R s m args below meth c Q D A b mi.2.2.1 cells slots st' ad) : zGo p l e R s m args below meth c Q D A b mi.2.2.1 cells slots (pc, lo, sk, h) ad := by
  simp only [zst, Option.bind_eq_some_iff] at hz
  obtain ⟨_, h1, hz⟩ := hz
  obtain rfl := zg_some h1
  obtain ⟨x, y, r, v, rfl, hv, rfl⟩ : ∃ (x y : Int32) (r : List Value) (v : Int32), sk = .int y :: .int x :: r ∧ zb2 .ishl x y = some v ∧ st' = (pc + 1, lo, .int v :: r, h) := by
    split at hz
    · rename_i y x r
      simp only [zN, Option.bind_eq_some_iff, Option.some.injEq, Sum.inl.injEq] at hz
      obtain ⟨v, hv, rfl⟩ := hz
      exact ⟨x, y, r, v, rfl, hv, rfl⟩
    · simp [zl2] at hz
    · simp at hz
  intro tys ws H locs ls stk hK hP hD hS hW hL hT
  obtain ⟨tt, hst, hU⟩ := zSR_i hT
  subst hst
  clear hT
  have hT := hU
  clear hU
  obtain ⟨tt, hst, hU⟩ := zSR_i hT
  subst hst
  clear hT
  have hT := hU
  clear hU
  simp only [zb2, Option.some.injEq] at hv
  subst hv
  exact lv_ishl hc.1 hc.2.1 hd (kk tys ws H locs ls _ hK hP hD hS hW hL (zF2_c (zVR_i _) hT))
theorem zi_ishr (hc : zCx p R s m args meth c Ts A b sc d mi) (hd : decode mi.2.1 pc = .ok (.ishr, len)) (hz : zst sc mi (.ishr) len pc lo sk h = some (.inl st')) (kk : zGo p l e R s m args below meth c Q D A b mi.2.2.1 cells slots st' ad) : zGo p l e R s m args below meth c Q D A b mi.2.2.1 cells slots (pc, lo, sk, h) ad := by
  simp only [zst, Option.bind_eq_some_iff] at hz
  obtain ⟨_, h1, hz⟩ := hz
  obtain rfl := zg_some h1
  obtain ⟨x, y, r, v, rfl, hv, rfl⟩ : ∃ (x y : Int32) (r : List Value) (v : Int32), sk = .int y :: .int x :: r ∧ zb2 .ishr x y = some v ∧ st' = (pc + 1, lo, .int v :: r, h) := by
    split at hz
    · rename_i y x r
      simp only [zN, Option.bind_eq_some_iff, Option.some.injEq, Sum.inl.injEq] at hz
      obtain ⟨v, hv, rfl⟩ := hz
      exact ⟨x, y, r, v, rfl, hv, rfl⟩
    · simp [zl2] at hz
    · simp at hz
  intro tys ws H locs ls stk hK hP hD hS hW hL hT
  obtain ⟨tt, hst, hU⟩ := zSR_i hT
  subst hst
  clear hT
  have hT := hU
  clear hU
  obtain ⟨tt, hst, hU⟩ := zSR_i hT
  subst hst
  clear hT
  have hT := hU
  clear hU
  simp only [zb2, Option.some.injEq] at hv
  subst hv
  exact lv_ishr hc.1 hc.2.1 hd (kk tys ws H locs ls _ hK hP hD hS hW hL (zF2_c (zVR_i _) hT))
theorem zi_iushr (hc : zCx p R s m args meth c Ts A b sc d mi) (hd : decode mi.2.1 pc = .ok (.iushr, len)) (hz : zst sc mi (.iushr) len pc lo sk h = some (.inl st')) (kk : zGo p l e R s m args below meth c Q D A b mi.2.2.1 cells slots st' ad) : zGo p l e R s m args below meth c Q D A b mi.2.2.1 cells slots (pc, lo, sk, h) ad := by
  simp only [zst, Option.bind_eq_some_iff] at hz
  obtain ⟨_, h1, hz⟩ := hz
  obtain rfl := zg_some h1
  obtain ⟨x, y, r, v, rfl, hv, rfl⟩ : ∃ (x y : Int32) (r : List Value) (v : Int32), sk = .int y :: .int x :: r ∧ zb2 .iushr x y = some v ∧ st' = (pc + 1, lo, .int v :: r, h) := by
    split at hz
    · rename_i y x r
      simp only [zN, Option.bind_eq_some_iff, Option.some.injEq, Sum.inl.injEq] at hz
      obtain ⟨v, hv, rfl⟩ := hz
      exact ⟨x, y, r, v, rfl, hv, rfl⟩
    · simp [zl2] at hz
    · simp at hz
  intro tys ws H locs ls stk hK hP hD hS hW hL hT
  obtain ⟨tt, hst, hU⟩ := zSR_i hT
  subst hst
  clear hT
  have hT := hU
  clear hU
  obtain ⟨tt, hst, hU⟩ := zSR_i hT
  subst hst
  clear hT
  have hT := hU
  clear hU
  simp only [zb2, Option.some.injEq] at hv
  exact lv_iushr hc.1 hc.2.1 hd hv (kk tys ws H locs ls _ hK hP hD hS hW hL (zF2_c (zVR_i _) hT))
theorem zi_idiv (hc : zCx p R s m args meth c Ts A b sc d mi) (hd : decode mi.2.1 pc = .ok (.idiv, len)) (hz : zst sc mi (.idiv) len pc lo sk h = some (.inl st')) (kk : zGo p l e R s m args below meth c Q D A b mi.2.2.1 cells slots st' ad) : zGo p l e R s m args below meth c Q D A b mi.2.2.1 cells slots (pc, lo, sk, h) ad := by
  simp only [zst, Option.bind_eq_some_iff] at hz
  obtain ⟨_, h1, hz⟩ := hz
  obtain rfl := zg_some h1
  obtain ⟨x, y, r, v, rfl, hv, rfl⟩ : ∃ (x y : Int32) (r : List Value) (v : Int32), sk = .int y :: .int x :: r ∧ zb2 .idiv x y = some v ∧ st' = (pc + 1, lo, .int v :: r, h) := by
    split at hz
    · rename_i y x r
      simp only [zN, Option.bind_eq_some_iff, Option.some.injEq, Sum.inl.injEq] at hz
      obtain ⟨v, hv, rfl⟩ := hz
      exact ⟨x, y, r, v, rfl, hv, rfl⟩
    · simp [zl2] at hz
    · simp at hz
  intro tys ws H locs ls stk hK hP hD hS hW hL hT
  obtain ⟨tt, hst, hU⟩ := zSR_i hT
  subst hst
  clear hT
  have hT := hU
  clear hU
  obtain ⟨tt, hst, hU⟩ := zSR_i hT
  subst hst
  clear hT
  have hT := hU
  clear hU
  simp only [zb2] at hv
  by_cases hy : y = 0
  · rw [if_pos hy] at hv; cases hv
  · rw [if_neg hy] at hv; cases hv
    exact lv_idiv hc.1 hc.2.1 hd hy (kk tys ws H locs ls _ hK hP hD hS hW hL (zF2_c (zVR_i _) hT))
theorem zi_irem (hc : zCx p R s m args meth c Ts A b sc d mi) (hd : decode mi.2.1 pc = .ok (.irem, len)) (hz : zst sc mi (.irem) len pc lo sk h = some (.inl st')) (kk : zGo p l e R s m args below meth c Q D A b mi.2.2.1 cells slots st' ad) : zGo p l e R s m args below meth c Q D A b mi.2.2.1 cells slots (pc, lo, sk, h) ad := by
  simp only [zst, Option.bind_eq_some_iff] at hz
  obtain ⟨_, h1, hz⟩ := hz
  obtain rfl := zg_some h1
  obtain ⟨x, y, r, v, rfl, hv, rfl⟩ : ∃ (x y : Int32) (r : List Value) (v : Int32), sk = .int y :: .int x :: r ∧ zb2 .irem x y = some v ∧ st' = (pc + 1, lo, .int v :: r, h) := by
    split at hz
    · rename_i y x r
      simp only [zN, Option.bind_eq_some_iff, Option.some.injEq, Sum.inl.injEq] at hz
      obtain ⟨v, hv, rfl⟩ := hz
      exact ⟨x, y, r, v, rfl, hv, rfl⟩
    · simp [zl2] at hz
    · simp at hz
  intro tys ws H locs ls stk hK hP hD hS hW hL hT
  obtain ⟨tt, hst, hU⟩ := zSR_i hT
  subst hst
  clear hT
  have hT := hU
  clear hU
  obtain ⟨tt, hst, hU⟩ := zSR_i hT
  subst hst
  clear hT
  have hT := hU
  clear hU
  simp only [zb2] at hv
  by_cases hy : y = 0
  · rw [if_pos hy] at hv; cases hv
  · rw [if_neg hy] at hv; cases hv
    exact lv_irem hc.1 hc.2.1 hd hy (kk tys ws H locs ls _ hK hP hD hS hW hL (zF2_c (zVR_i _) hT))
theorem zi_ladd (hc : zCx p R s m args meth c Ts A b sc d mi) (hd : decode mi.2.1 pc = .ok (.ladd, len)) (hz : zst sc mi (.ladd) len pc lo sk h = some (.inl st')) (kk : zGo p l e R s m args below meth c Q D A b mi.2.2.1 cells slots st' ad) : zGo p l e R s m args below meth c Q D A b mi.2.2.1 cells slots (pc, lo, sk, h) ad := by
  simp only [zst, Option.bind_eq_some_iff] at hz
  obtain ⟨_, h1, hz⟩ := hz
  obtain rfl := zg_some h1
  obtain ⟨x, y, r, v, rfl, hv, rfl⟩ : ∃ (x y : Int64) (r : List Value) (v : Int64), sk = .long y :: .long x :: r ∧ zl2 .ladd x y = some v ∧ st' = (pc + 1, lo, .long v :: r, h) := by
    split at hz
    · simp [zb2] at hz
    · rename_i y x r
      simp only [zN, Option.bind_eq_some_iff, Option.some.injEq, Sum.inl.injEq] at hz
      obtain ⟨v, hv, rfl⟩ := hz
      exact ⟨x, y, r, v, rfl, hv, rfl⟩
    · simp at hz
  intro tys ws H locs ls stk hK hP hD hS hW hL hT
  obtain ⟨tt, hst, hU⟩ := zSR_l hT
  subst hst
  clear hT
  have hT := hU
  clear hU
  obtain ⟨tt, hst, hU⟩ := zSR_l hT
  subst hst
  clear hT
  have hT := hU
  clear hU
  simp only [zl2, Option.some.injEq] at hv
  subst hv
  exact lv_ladd hc.1 hc.2.1 hd (kk tys ws H locs ls _ hK hP hD hS hW hL (zF2_c (zVR_l _) hT))
theorem zi_lsub (hc : zCx p R s m args meth c Ts A b sc d mi) (hd : decode mi.2.1 pc = .ok (.lsub, len)) (hz : zst sc mi (.lsub) len pc lo sk h = some (.inl st')) (kk : zGo p l e R s m args below meth c Q D A b mi.2.2.1 cells slots st' ad) : zGo p l e R s m args below meth c Q D A b mi.2.2.1 cells slots (pc, lo, sk, h) ad := by
  simp only [zst, Option.bind_eq_some_iff] at hz
  obtain ⟨_, h1, hz⟩ := hz
  obtain rfl := zg_some h1
  obtain ⟨x, y, r, v, rfl, hv, rfl⟩ : ∃ (x y : Int64) (r : List Value) (v : Int64), sk = .long y :: .long x :: r ∧ zl2 .lsub x y = some v ∧ st' = (pc + 1, lo, .long v :: r, h) := by
    split at hz
    · simp [zb2] at hz
    · rename_i y x r
      simp only [zN, Option.bind_eq_some_iff, Option.some.injEq, Sum.inl.injEq] at hz
      obtain ⟨v, hv, rfl⟩ := hz
      exact ⟨x, y, r, v, rfl, hv, rfl⟩
    · simp at hz
  intro tys ws H locs ls stk hK hP hD hS hW hL hT
  obtain ⟨tt, hst, hU⟩ := zSR_l hT
  subst hst
  clear hT
  have hT := hU
  clear hU
  obtain ⟨tt, hst, hU⟩ := zSR_l hT
  subst hst
  clear hT
  have hT := hU
  clear hU
  simp only [zl2, Option.some.injEq] at hv
  subst hv
  exact lv_lsub hc.1 hc.2.1 hd (kk tys ws H locs ls _ hK hP hD hS hW hL (zF2_c (zVR_l _) hT))
theorem zi_lmul (hc : zCx p R s m args meth c Ts A b sc d mi) (hd : decode mi.2.1 pc = .ok (.lmul, len)) (hz : zst sc mi (.lmul) len pc lo sk h = some (.inl st')) (kk : zGo p l e R s m args below meth c Q D A b mi.2.2.1 cells slots st' ad) : zGo p l e R s m args below meth c Q D A b mi.2.2.1 cells slots (pc, lo, sk, h) ad := by
  simp only [zst, Option.bind_eq_some_iff] at hz
  obtain ⟨_, h1, hz⟩ := hz
  obtain rfl := zg_some h1
  obtain ⟨x, y, r, v, rfl, hv, rfl⟩ : ∃ (x y : Int64) (r : List Value) (v : Int64), sk = .long y :: .long x :: r ∧ zl2 .lmul x y = some v ∧ st' = (pc + 1, lo, .long v :: r, h) := by
    split at hz
    · simp [zb2] at hz
    · rename_i y x r
      simp only [zN, Option.bind_eq_some_iff, Option.some.injEq, Sum.inl.injEq] at hz
      obtain ⟨v, hv, rfl⟩ := hz
      exact ⟨x, y, r, v, rfl, hv, rfl⟩
    · simp at hz
  intro tys ws H locs ls stk hK hP hD hS hW hL hT
  obtain ⟨tt, hst, hU⟩ := zSR_l hT
  subst hst
  clear hT
  have hT := hU
  clear hU
  obtain ⟨tt, hst, hU⟩ := zSR_l hT
  subst hst
  clear hT
  have hT := hU
  clear hU
  simp only [zl2, Option.some.injEq] at hv
  subst hv
  exact lv_lmul hc.1 hc.2.1 hd (kk tys ws H locs ls _ hK hP hD hS hW hL (zF2_c (zVR_l _) hT))
theorem zi_ldiv (hc : zCx p R s m args meth c Ts A b sc d mi) (hd : decode mi.2.1 pc = .ok (.ldiv, len)) (hz : zst sc mi (.ldiv) len pc lo sk h = some (.inl st')) (kk : zGo p l e R s m args below meth c Q D A b mi.2.2.1 cells slots st' ad) : zGo p l e R s m args below meth c Q D A b mi.2.2.1 cells slots (pc, lo, sk, h) ad := by
  simp only [zst, Option.bind_eq_some_iff] at hz
  obtain ⟨_, h1, hz⟩ := hz
  obtain rfl := zg_some h1
  obtain ⟨x, y, r, v, rfl, hv, rfl⟩ : ∃ (x y : Int64) (r : List Value) (v : Int64), sk = .long y :: .long x :: r ∧ zl2 .ldiv x y = some v ∧ st' = (pc + 1, lo, .long v :: r, h) := by
    split at hz
    · simp [zb2] at hz
    · rename_i y x r
      simp only [zN, Option.bind_eq_some_iff, Option.some.injEq, Sum.inl.injEq] at hz
      obtain ⟨v, hv, rfl⟩ := hz
      exact ⟨x, y, r, v, rfl, hv, rfl⟩
    · simp at hz
  intro tys ws H locs ls stk hK hP hD hS hW hL hT
  obtain ⟨tt, hst, hU⟩ := zSR_l hT
  subst hst
  clear hT
  have hT := hU
  clear hU
  obtain ⟨tt, hst, hU⟩ := zSR_l hT
  subst hst
  clear hT
  have hT := hU
  clear hU
  simp only [zl2] at hv
  by_cases hy : y = 0
  · rw [if_pos hy] at hv; cases hv
  · rw [if_neg hy] at hv; cases hv
    exact lv_ldiv hc.1 hc.2.1 hd hy (kk tys ws H locs ls _ hK hP hD hS hW hL (zF2_c (zVR_l _) hT))
theorem zi_lrem (hc : zCx p R s m args meth c Ts A b sc d mi) (hd : decode mi.2.1 pc = .ok (.lrem, len)) (hz : zst sc mi (.lrem) len pc lo sk h = some (.inl st')) (kk : zGo p l e R s m args below meth c Q D A b mi.2.2.1 cells slots st' ad) : zGo p l e R s m args below meth c Q D A b mi.2.2.1 cells slots (pc, lo, sk, h) ad := by
  simp only [zst, Option.bind_eq_some_iff] at hz
  obtain ⟨_, h1, hz⟩ := hz
  obtain rfl := zg_some h1
  obtain ⟨x, y, r, v, rfl, hv, rfl⟩ : ∃ (x y : Int64) (r : List Value) (v : Int64), sk = .long y :: .long x :: r ∧ zl2 .lrem x y = some v ∧ st' = (pc + 1, lo, .long v :: r, h) := by
    split at hz
    · simp [zb2] at hz
    · rename_i y x r
      simp only [zN, Option.bind_eq_some_iff, Option.some.injEq, Sum.inl.injEq] at hz
      obtain ⟨v, hv, rfl⟩ := hz
      exact ⟨x, y, r, v, rfl, hv, rfl⟩
    · simp at hz
  intro tys ws H locs ls stk hK hP hD hS hW hL hT
  obtain ⟨tt, hst, hU⟩ := zSR_l hT
  subst hst
  clear hT
  have hT := hU
  clear hU
  obtain ⟨tt, hst, hU⟩ := zSR_l hT
  subst hst
  clear hT
  have hT := hU
  clear hU
  simp only [zl2] at hv
  by_cases hy : y = 0
  · rw [if_pos hy] at hv; cases hv
  · rw [if_neg hy] at hv; cases hv
    exact lv_lrem hc.1 hc.2.1 hd hy (kk tys ws H locs ls _ hK hP hD hS hW hL (zF2_c (zVR_l _) hT))
end ZST
