/-! calls: a run of the small machine gives the contract of the method -/
def zOR (ad : List Nat) (b : Nat → Value) (r v : Option Value) : Prop := match r, v with
  | none, none => True
  | some a, some w => zVR ad b a w
  | _, _ => False
theorem zOR_sr {ad : List Nat} {b : Nat → Value} {r v : Option Value} (h : zOR ad b r v) : zSR ad b r.toList v.toList := by
  match r, v, h with
  | none, none, _ => exact True.intro
  | some a, some w, h => exact zF2_c h True.intro
theorem zOR_i {ad : List Nat} {b : Nat → Value} (x : Int32) : zOR ad b (some (.int x)) (some (.int x)) := (zVR_i (ad := ad) (b := b) x)
theorem zOR_l {ad : List Nat} {b : Nat → Value} (x : Int64) : zOR ad b (some (.long x)) (some (.long x)) := (zVR_l (ad := ad) (b := b) x)
def zQ (D : va_G) (b : Nat → Value) (ad : List Nat) (h1 : zHp) (r : Option Value) (ws : va_W) (sz : Nat) : Array Value → State → Outcome → State → Prop := fun _ st oc t =>
  (∃ (v : Option Value) (ws1 : va_W) (tys1 : List (ClassId × FieldType)) (t1 : List Nat), oc = .returned v ∧ va_P D vwCl ws1 t.heap ∧ va_K D vwCl tys1 t ∧ va_D (va_A ws sz) ws1 ∧ zWR (ad ++ t1) b tys1 h1 ws1 ∧ zOR (ad ++ t1) b r v) ∧ va_F (va_A ws sz) st t
def zB (D : va_G) (b : Nat → Value) (ws : va_W) (tys : List (ClassId × FieldType)) (sz : Nat) : State → Prop := fun U => U.heap.size = sz ∧ va_P D vwCl ws U.heap ∧ va_K D vwCl tys U ∧ va_D (fun _ => True) ws ∧ zNW U ∧ zXt b (va_A ws sz) U U.heap
def zws (mi : zMi) : List Cond := Cond.code mi.1 mi.2.1 mi.2.2.1 mi.2.2.2.1 :: zgd
def zrm (d mc ms : Nat) : Room := { frames := d, cells := mc, slots := ms, locals := 60 * d }
theorem zgood {Ts ws : List Cond} (h : ∀ w ∈ ws, w ∈ zgd) (hG : ∀ w ∈ zgd, w ∈ Ts) : GoodIn Ts ws := fun w hw => ⟨hG w (h w hw), good_of_word (List.mem_filter.mp (h w hw)).2⟩
theorem zcn_ok : zcn.all (fun x => decide (x ≠ "java/lang/invoke/MethodHandle" ∧ x ≠ "java/lang/invoke/VarHandle") && plainName x) = true := by decide +kernel
theorem zcn_get {o : Nat} {x : String} (h : zcn[o]? = some x) : (x ≠ "java/lang/invoke/MethodHandle" ∧ x ≠ "java/lang/invoke/VarHandle") ∧ plainName x = true := by
  have h1 := List.all_eq_true.mp zcn_ok x (List.mem_of_getElem? h)
  simp only [Bool.and_eq_true, decide_eq_true_eq] at h1
  exact h1
def znck (o : Nat) (rows : List (Nat × Nat × Nat × Nat × Nat)) : Bool := rows.all fun q => if q.2.1 = 3 then (match zcn[o]?, zms[q.2.2.1]? with
  | some own, some mi => decide (Cond.methodLinkNest own q.1 mi.1 "HandLock" ∈ zNs)
  | _, _ => false) else true
set_option maxRecDepth 100000 in
theorem znck_ok : zall znck 0 zmls = true := by decide +kernel
theorem zn_get {o i id n ps : Nat} {own : String} {mi : zMi} (ho : zcn[o]? = some own) (hm : zms[id]? = some mi) (h : zlk zmls o i = some (3, id, n, ps)) : Cond.methodLinkNest own i mi.1 "HandLock" ∈ zNs := by
  obtain ⟨rows, h1, h2⟩ := zlk_mem h
  have h3 := zall_get znck_ok o rows h1
  rw [Nat.zero_add] at h3
  unfold znck at h3
  have h4 := List.all_eq_true.mp h3 _ h2
  rw [if_pos rfl, ho, hm] at h4
  exact of_decide_eq_true h4
theorem zch_n {x : Int32} (h1 : 0 ≤ x) (h2 : x ≤ 65535) : narrow .char (.int x) = .int x := by
  obtain ⟨j, hj, rfl⟩ := nI_of2 (M := 65535) (n := 65535) rfl (Int32.not_lt.mpr h1) h2
  exact (pk_charN (by omega)).1
section ZCL
variable {p : Program} {l : Launch} {e : Env} {R : Room} {s : State} {m : MethodId} {args : Array Value} {below : List Frame} {meth : Method} {c : Code} {Q : State → Prop} {D : va_G} {A : Nat → Prop} {b : Nat → Value} {cells slots d : Nat} {sc : Option (List Int32)} {mi : zMi} {Ts : List Cond} {ad : List Nat}
theorem z_call {H : Heap} {locs : List Loc} {mc ms pc : Nat} {ls : Array Slot} {rest st0 : List Value} {Qa : State → Outcome → State → Prop} {free A1 : Nat → Prop} {P : Option Value → State → Prop} (hr : va_Run p l e R s m args below meth c H locs cells slots mc ms (F0 m pc ls st0) rest Qa free) (hS : va_S A s.heap H locs) (hA : ∀ q, q < H.size → A1 q → A q) (hf : ∀ q, free q → A q) (hQ : ∀ st₀ v t, Qa st₀ (.returned v) t → P v t ∧ va_F A1 st₀ t)
    (kk : ∀ (v : Option Value) (t : State) (H1 : Heap) (locs1 : List Loc), t.heap = H1 → s.vm.Alike t.vm → P v t → va_S A s.heap H1 locs1 → W p l e R s m args below meth c H1 locs1 (cells + mc) (slots + ms) Q (F0 m (pc + 3) ls (v.toList ++ rest))) : W p l e R s m args below meth c H locs cells slots Q (F0 m pc ls st0) := by
  intro T hT X
  obtain ⟨v, st₀, t, T', L, h0, X', hL, e1, e2, hq, st⟩ := hr T hT X
  obtain ⟨hp, hz, hk⟩ := hQ _ _ _ hq
  rw [h0] at hz hk
  obtain ⟨t2, a1, b1⟩ := kk v t T'.heap (locs ++ L) e1.symm (by rw [← e2]; exact X'.warmed.alike) hp
    ⟨Nat.le_trans hS.1 (by rw [e1]; exact hz), fun q h1 h2 => by rw [e1, hk q (Nat.lt_of_lt_of_le h1 hS.1) (fun z => h2 (hA q (Nat.lt_of_lt_of_le h1 hS.1) z))]; exact hS.2.1 q h1 h2, fun q hq => by
      rcases List.mem_append.mp hq with h | h
      · exact hS.2.2 q h
      · exact hf _ (hL q h)⟩ T' rfl X'
  exact ⟨t2, st t2 a1, b1⟩
/-- the end of a method: what a return answers -/
theorem z_ret {Qc : Array Value → State → Outcome → State → Prop} {free : Nat → Prop} {st : zSt} {r : Option Value} (hc : zCx p R s m args meth c Ts A b sc d mi) (hr : meth.sig.returnType = mi.2.2.2.1) (hlocks : meth.locks = false) (hz : zstep sc mi st = some (.inr (.inr r))) (hAf : ∀ q, A q → free q)
    (hq : ∀ (tys : List (ClassId × FieldType)) (ws : va_W) (H : Heap) (locs : List Loc) (v : Option Value) (t : State), va_K D vwCl tys s → va_P D vwCl ws H → va_D A ws → va_S A s.heap H locs → zWR ad b tys st.2.2.2 ws → zOR ad b r v → t.heap = H → s.WarmedH t.vm → Qc args s (.returned v) t) : zGo p l e R s m args below meth c (MQ below Qc args s cells slots free) D A b mi.2.2.1 cells slots st ad := by
  unfold zstep at hz
  rw [Option.bind_eq_some_iff] at hz
  obtain ⟨⟨ins, len⟩, h1, hz⟩ := hz
  obtain ⟨pc, lo, sk, h⟩ := st
  have hd := zin_ok hc.2.2.2.2.2.2.2.2.1 h1
  dsimp only at hz hd hq
  intro tys ws H locs ls stk hK hP hD hS hW hL hT
  have hfl : ∀ q ∈ locs, free q.base := fun q hq => hAf _ (hS.2.2 q hq)
  cases ins with
  | ireturn =>
    simp only [zst, Option.bind_eq_some_iff, Option.some.injEq, Sum.inr.injEq] at hz
    obtain ⟨_, h2, x, h3, _, h4, rfl⟩ := hz
    obtain rfl := zg_some h2
    obtain rfl := zpi_some h3
    have h5 := zgb_some h4
    simp only [Bool.and_eq_true, List.isEmpty_iff] at h5
    obtain ⟨t0, hst, hU⟩ := zSR_i hT
    subst hst
    rw [h5.1] at hU
    obtain rfl := zF2_n hU
    have h6 := h5.2
    unfold zrok at h6
    split at h6
    · rename_i h7
      exact W.iret hc.1 hc.2.1 (hr.trans h7) (fun t ht hw => hq tys ws H locs _ t hK hP hD hS hW (zOR_i x.1) ht hw) hfl hd hlocks
    · rename_i h7
      simp only [Bool.or_eq_true, decide_eq_true_eq] at h6
      refine W.zret hc.1 hc.2.1 (hr.trans h7) ?_ (fun t ht hw => hq tys ws H locs _ t hK hP hD hS hW (zOR_i x.1) ht hw) hfl hd hlocks
      rcases h6 with h6 | h6
      · rw [h6]; rfl
      · rw [h6]; rfl
    · rename_i h7
      simp only [Bool.and_eq_true, decide_eq_true_eq] at h6
      refine W.zret hc.1 hc.2.1 (hr.trans h7) ?_ (fun t ht hw => hq tys ws H locs _ t hK hP hD hS hW (zOR_i x.1) ht hw) hfl hd hlocks
      exact zch_n h6.1 h6.2
    · rename_i h7
      simp only [Bool.or_eq_true, decide_eq_true_eq] at h6
      refine W.zret hc.1 hc.2.1 (hr.trans h7) ?_ (fun t ht hw => hq tys ws H locs _ t hK hP hD hS hW (zOR_i x.1) ht hw) hfl hd hlocks
      rcases h6 with h6 | h6
      · rw [h6]; rfl
      · rw [h6]; rfl
    · cases h6
  | lreturn =>
    simp only [zst, Option.bind_eq_some_iff, Option.some.injEq, Sum.inr.injEq] at hz
    obtain ⟨_, h2, x, h3, _, h4, rfl⟩ := hz
    obtain rfl := zg_some h2
    obtain rfl := zpl_some h3
    have h5 := zgb_some h4
    simp only [Bool.and_eq_true, List.isEmpty_iff, decide_eq_true_eq] at h5
    obtain ⟨t0, hst, hU⟩ := zSR_l hT
    subst hst
    rw [h5.1] at hU
    obtain rfl := zF2_n hU
    exact W.lret hc.1 hc.2.1 (hr.trans h5.2) (fun t ht hw => hq tys ws H locs _ t hK hP hD hS hW (zOR_l x.1) ht hw) hfl hd hlocks
  | areturn =>
    simp only [zst, Option.bind_eq_some_iff, Option.some.injEq, Sum.inr.injEq] at hz
    obtain ⟨_, h2, x, h3, _, h4, rfl⟩ := hz
    obtain rfl := zg_some h2
    obtain rfl := zpx_some h3
    have h5 := zgb_some h4
    simp only [Bool.and_eq_true, List.isEmpty_iff] at h5
    obtain ⟨w, t0, hst, hw, hU⟩ := zF2_u hT
    subst hst
    rw [h5.1] at hU
    obtain rfl := zF2_n hU
    obtain ⟨nm, h6⟩ : ∃ nm, mi.2.2.2.1 = some (.object nm) := by
      have h7 := h5.2
      unfold zrob at h7
      split at h7
      · rename_i nm h8; exact ⟨nm, h8⟩
      · cases h7
    exact W.aret hc.1 hc.2.1 (hr.trans h6) (Or.inl ⟨nm, rfl⟩) ((zVR_us hw).2.elim (fun q => Or.inr q) (fun q => Or.inl q)) (fun t ht hq1 => hq tys ws H locs _ t hK hP hD hS hW (show zOR ad b (some (.retAddr x.1)) (some w) from hw) ht hq1) hfl hd hlocks
  | return_ =>
    simp only [zst, Option.bind_eq_some_iff, Option.some.injEq, Sum.inr.injEq] at hz
    obtain ⟨_, h2, _, h4, rfl⟩ := hz
    obtain rfl := zg_some h2
    have h5 := zgb_some h4
    simp only [Bool.and_eq_true, List.isEmpty_iff, decide_eq_true_eq] at h5
    obtain ⟨h5, h6⟩ := h5
    subst h5
    obtain rfl := zF2_n hT
    exact W.vret hc.1 hc.2.1 (hr.trans h6) (fun t ht hw => hq tys ws H locs none t hK hP hD hS hW True.intro ht hw) hfl hd hlocks
  | invokevirtual i => simp only [zst, Option.bind_eq_some_iff, Option.some.injEq, Sum.inr.injEq, reduceCtorEq, and_false, exists_const] at hz
  | invokestatic i =>
    simp only [zst, zN, Option.bind_eq_some_iff] at hz
    obtain ⟨_, h1, q, h2, hz⟩ := hz
    split at hz
    · simp only [Option.bind_eq_some_iff, Option.some.injEq, reduceCtorEq, and_false, exists_const] at hz
    · split at hz
      · simp only [Option.bind_eq_some_iff, Option.some.injEq, reduceCtorEq, and_false, exists_const] at hz
      · simp only [Option.bind_eq_some_iff, Option.some.injEq, Sum.inr.injEq, reduceCtorEq, and_false, exists_const] at hz
  | invokespecial i =>
    simp only [zst, zN, Option.bind_eq_some_iff] at hz
    obtain ⟨_, h1, q, h2, hz⟩ := hz
    split at hz
    · simp only [Option.bind_eq_some_iff, Option.some.injEq, reduceCtorEq, and_false, exists_const] at hz
    · simp only [Option.bind_eq_some_iff, Option.some.injEq, Sum.inr.injEq, reduceCtorEq, and_false, exists_const] at hz
  | ifCond x0 x1 =>
    simp only [zst, zN, Option.bind_eq_some_iff] at hz
    obtain ⟨_, h1, x, h2, t, h3, hz⟩ := hz
    split at hz <;> cases hz
  | if_icmp x0 x1 =>
    simp only [zst, zN, Option.bind_eq_some_iff] at hz
    obtain ⟨_, h1, y, h2, x, h2b, t, h3, hz⟩ := hz
    split at hz <;> cases hz
  | tableswitch x0 x1 x2 x3 =>
    simp only [zst, zN, Option.bind_eq_some_iff] at hz
    obtain ⟨x, h2, hz⟩ := hz
    split at hz <;> simp only [Option.bind_eq_some_iff, Option.some.injEq, reduceCtorEq, and_false, exists_const] at hz
  | iaload =>
    simp only [zst, zN, Option.bind_eq_some_iff] at hz
    obtain ⟨_, h1, i, h2, hz⟩ := hz
    split at hz
    · simp only [Option.bind_eq_some_iff, Option.some.injEq, reduceCtorEq, and_false, exists_const] at hz
    · simp only [Option.bind_eq_some_iff, Option.some.injEq, reduceCtorEq, and_false, exists_const] at hz
    · cases hz
  | ldc x0 =>
    simp only [zst, zN, Option.bind_eq_some_iff] at hz
    obtain ⟨_, h1, hz⟩ := hz
    split at hz
    · simp only [Option.bind_eq_some_iff, Option.some.injEq, reduceCtorEq, and_false, exists_const] at hz
    · simp only [Option.bind_eq_some_iff, Option.some.injEq, reduceCtorEq, and_false, exists_const] at hz
  | getfield x0 =>
    simp only [zst, zN, Option.bind_eq_some_iff] at hz
    obtain ⟨_, h1, hz⟩ := hz
    split at hz
    · simp only [Option.bind_eq_some_iff] at hz
      obtain ⟨a, h2, _, h3, hz⟩ := hz
      split at hz
      · cases hz
      · simp only [Option.bind_eq_some_iff, Option.some.injEq, reduceCtorEq, and_false, exists_const] at hz
    · simp only [Option.bind_eq_some_iff, Option.some.injEq, reduceCtorEq, and_false, exists_const] at hz
  | getstatic x0 =>
    simp only [zst, zN, Option.bind_eq_some_iff] at hz
    obtain ⟨_, h1, _, h2, hz⟩ := hz
    split at hz
    · cases hz
    · simp only [Option.bind_eq_some_iff, Option.some.injEq, reduceCtorEq, and_false, exists_const] at hz
  | baload =>
    simp only [zst, zN, Option.bind_eq_some_iff] at hz
    obtain ⟨_, h1, i, h2, hz⟩ := hz
    split at hz
    · simp only [Option.bind_eq_some_iff, Option.some.injEq, reduceCtorEq, and_false, exists_const] at hz
    · simp only [Option.bind_eq_some_iff, Option.some.injEq, reduceCtorEq, and_false, exists_const] at hz
    · cases hz
  | arraylength =>
    simp only [zst, zN, Option.bind_eq_some_iff] at hz
    obtain ⟨_, h1, hz⟩ := hz
    split at hz
    · simp only [Option.bind_eq_some_iff, Option.some.injEq, reduceCtorEq, and_false, exists_const] at hz
    · simp only [Option.bind_eq_some_iff, Option.some.injEq, reduceCtorEq, and_false, exists_const] at hz
    · simp only [Option.bind_eq_some_iff, Option.some.injEq, reduceCtorEq, and_false, exists_const] at hz
    · cases hz
  | _ =>
    exfalso
    first
    | (simp only [zst, zN, Option.bind_eq_some_iff, Option.some.injEq, Sum.inr.injEq, reduceCtorEq, and_false, exists_const] at hz; done)
    | (simp only [zst, Option.bind_eq_some_iff] at hz
       obtain ⟨_, h1, hz⟩ := hz
       split at hz
       · simp only [zN, Option.bind_eq_some_iff, Option.some.injEq, reduceCtorEq, and_false, exists_const] at hz
       · simp only [zN, Option.bind_eq_some_iff, Option.some.injEq, reduceCtorEq, and_false, exists_const] at hz
       · cases hz)
end ZCL
/-- what a run says of the real machine -/
def zRn (l : Launch) (sc : Option (List Int32)) (d : Nat) (mi : zMi) (st : zSt) (r : Option Value) (h' : zHp) : Prop :=
  ∀ (p : Program) (e : Env) (R : Room) (s : State) (m : MethodId) (args : Array Value) (below : List Frame) (meth : Method) (c : Code) (Q : State → Prop) (D : va_G) (A : Nat → Prop) (b : Nat → Value) (cells slots : Nat) (Ts : List Cond) (ad : List Nat), zCx p R s m args meth c Ts A b sc d mi → cells + (h'.length - st.2.2.2.length) ≤ R.cells → slots + (zsz h' - zsz st.2.2.2) ≤ R.slots →
    (∀ (st1 : zSt) (t : List Nat), zstep sc mi st1 = some (.inr (.inr r)) → st1.2.2.2 = h' → zGo p l e R s m args below meth c Q D A b mi.2.2.1 (cells + (h'.length - st.2.2.2.length)) (slots + (zsz h' - zsz st.2.2.2)) st1 (ad ++ t)) → zGo p l e R s m args below meth c Q D A b mi.2.2.1 cells slots st ad
theorem z_met {l : Launch} {d id : Nat} {mi : zMi} {as vs : List Value} {h h1 : zHp} {r : Option Value} {D : va_G} {ws : va_W} {tys : List (ClassId × FieldType)} {b : Nat → Value} {sz : Nat} {ad : List Nat} (hid : zms[id]? = some mi) (hlt : Nat.blt id 195 = true) (hd1 : 1 ≤ d) (hmx : (lg_sl as).length ≤ mi.2.2.1) (IH : zRn l none d mi (0, lv_args 0 as, [], h) r h1) (hW : zWR ad b tys h ws) (hvs : zSR ad b as vs) :
    Met l mi.1 (zws mi) (zrm d (h1.length - h.length) (zsz h1 - zsz h)) (va_Pc vs (zB D b ws tys sz)) (zQ D b ad h1 r ws sz) (h1.length - h.length) (zsz h1 - zsz h) (va_A ws sz) := by
  obtain ⟨w1, w2, w3, w4⟩ := zm_get hlt hid
  refine Met.ofW (cc := mi.2.1) (maxL := mi.2.2.1) (ret := mi.2.2.2.1) (zcn_get w4).2 rfl ?_
  intro p e s m args below meth c s₁ B hml hv
  obtain ⟨rfl, hsz, hP, hK, hD0, hN, hXt⟩ := hv
  have hts := atoms_spec (ws := zws mi) B.pre
  have hown : s.vm.findClass mi.1.cls = some m.cls := findClass_of_methodNamed B.named
  have hnm : meth.name = mi.1.name := (name_of_methodNamed B.named B.method).1
  have hlocks := B.notSynchronized
  subst hsz
  have hD := hD0.self (sz := s.heap.size)
  have hA : ∀ q : Nat, s.heap.size ≤ q → va_A ws s.heap.size q := fun q h => Or.inr h
  have hc : zCx p (zrm d (h1.length - h.length) (zsz h1 - zsz h)) s m vs.toArray meth c (zws mi) (va_A ws s.heap.size) b none d mi :=
    ⟨B.exec, B.bytes, hml, hown, hts, fun w hw => List.mem_cons_of_mem _ hw, hN, hA, zms_ok mi (List.mem_of_getElem? hid), w4, fun q => hnm.trans q, ⟨Nat.le_refl _, Nat.le_refl _⟩, hd1, (fun xs q => by cases q), hXt⟩
  have hl := lv_entry vs (n := mi.2.2.1) (by rw [zL_sl hvs]; exact hmx)
  rw [lg_entry_eq]
  have hgo := IH p e (zrm d (h1.length - h.length) (zsz h1 - zsz h)) s m vs.toArray below meth c (MQ below (zQ D b ad h1 r ws s.heap.size) vs.toArray s (h1.length - h.length) (zsz h1 - zsz h) (va_A ws s.heap.size)) D (va_A ws s.heap.size) b 0 0 (zws mi) ad hc (by show 0 + _ ≤ _; rw [Nat.zero_add]; exact Nat.le_refl _) (by show 0 + _ ≤ _; rw [Nat.zero_add]; exact Nat.le_refl _) (fun st1 t hz1 hz2 => by
    dsimp only
    rw [Nat.zero_add, Nat.zero_add]
    refine z_ret hc B.returns hlocks hz1 (fun q hq => hq) (fun tys1 ws1 H locs v t1 hK1 hP1 hD1 hS1 hW1 hv1 ht hw => ?_)
    rw [hz2] at hW1
    exact ⟨⟨v, ws1, tys1, t, rfl, by rw [ht]; exact hP1, va_K.moved hw.alike hK1, hD1, hW1, hv1⟩, hS1.F ht⟩)
  exact hgo tys ws s.heap [] _ [] hK hP hD va_S.rf hW ⟨_, hl, zL_args 0 hvs⟩ True.intro
