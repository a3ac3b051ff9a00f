-- ===== end of PART A; then your names; then what follows =====
/-! THE CLAIM OUT OF ONE WALK OF THE LAW'S BODY. Your part is whole_start (and what it stands on); all else here is the same for every law, but numbers. -/
def R_law : String := "HandLockLaw"
def lw_P (b : Addr) (xs : List Int32) (args : Array Value) (s : State) : Prop := args = #[.ref b] ∧ s.IntsAt b xs ∧ xs.length ≤ 2560 ∧ (Jvm.Cond.and given_1 narrow_1).before args s = true
def lw_Q (_ : Array Value) (s : State) (o : Outcome) (t : State) : Prop := o = .returned (some (.int 1)) ∧ Framed s o t [] 600000 7302250
def lw_Z (below : List Frame) (a : Array Value) (s : State) : State → Prop := fun t => ∃ o, t.status = .running ∧ Ended t below o ∧ lw_Q a s o t
/-- the law's own end, with 1 on the stack, nothing written that was there before, its room as the claim has it -/
theorem lw_ret {p : Program} {l : Launch} {e : Env} {s : State} {m : MethodId} {below : List Frame} {meth : Method} {c : Code} {b : Nat} (hx : p.tables.exec = Jvm.exec) (hb : c.code = code) (hr : meth.sig.returnType = ret) (hlocks : meth.locks = false) {pc : Nat} {H : Heap} {ls : Array Slot} (hdg : decode code pc = .ok (.ireturn, 1)) : W p l e room_1 s m #[Value.ref b] below meth c H [] 600000 7302250 (lw_Z below #[Value.ref b] s) (F0 m pc ls [.int 1]) := by
  intro T hT X
  obtain ⟨fs, hret, hrun, hended, hW, hframe⟩ := X.leave (v := some (.int 1)) (hlocks := hlocks) (fun h => by rw [hr] at h; cases h)
  have hmeth' : T.vm.method? m = some meth := X.method'
  refine ⟨T.setFrames fs, ?_, .returned (some (.int 1)), hrun, hended, rfl, ⟨_, rfl⟩, hW, hframe⟩
  jvm_step X.here [X.here.top, hx, hb, hdg, hmeth', hr, ret, narrow_b1]
  (try refine ⟨rfl, ?_⟩); (try refine ⟨rfl, ?_⟩)
  first | (intro acts; rw [hret _ acts rfl rfl rfl]) | rw [hret _ _ rfl rfl rfl]
  exact Steps.refl _
/-- what holds at the law's entry: the machine, the code, the tables' words (any of lw_tbl by 'hts w (by decide +kernel)'), the script of L ints xs at the cell b, what the Statement gives of the start (any of its parts by flat_of_before) -/
def lw_At (p : Program) (s : State) (m : MethodId) (meth : Method) (c : Code) (b L : Nat) (xs : Nat → Int32) : Prop :=
  p.tables.exec = Jvm.exec ∧ c.code = code ∧ meth.sig.returnType = ret ∧ c.maxLocals = 4 ∧ s.vm.findClass R_law = some m.cls ∧ (∀ w ∈ lw_tbl, w.before #[Value.ref b] s = true) ∧ va_X b L xs s s.heap ∧ b < s.heap.size ∧ meth.locks = false ∧ (Jvm.Cond.and given_1 narrow_1).before #[Value.ref b] s = true
-- ===== YOUR PART BEGINS =====
theorem zNs_ok : zNs.all (fun w => decide (w ∈ lw_tbl)) = true := by decide +kernel
theorem zNs_in : ∀ w ∈ zNs, w ∈ lw_tbl := fun w hw => of_decide_eq_true (List.all_eq_true.mp zNs_ok w hw)
theorem zao_1 : Cond.arrayOver (.object "HandLock$Person") ∈ lw_tbl := List.mem_of_getElem? (i := 89) (by decide +kernel)
theorem zao_2 : Cond.arrayOver (.object "HandLock$Lock") ∈ lw_tbl := List.mem_of_getElem? (i := 274) (by decide +kernel)
theorem zao_3 : Cond.arrayOver (.object "HandLock$Sheet") ∈ lw_tbl := List.mem_of_getElem? (i := 276) (by decide +kernel)
theorem zNW_law {args : Array Value} {s : State} (hts : ∀ w ∈ lw_tbl, w.before args s = true) : zNW s := by
  refine ⟨fun w hw => ?_, va_AO.of (hts _ zao_1), va_AO.of (hts _ zao_2), va_AO.of (hts _ zao_3)⟩
  have h1 := hts w (zNs_in w hw)
  simp only [zNs, List.mem_cons, List.not_mem_nil, or_false] at hw
  rcases hw with rfl | rfl | rfl | rfl | rfl | rfl <;> exact va_Nw.of rfl h1
def zTm (i : Nat) : Term := .string "HandLock$Reader" (zTx i).1
def zfc (c : Cond) : Bool := decide (c ∈ flatC (Jvm.Cond.and given_1 narrow_1))
theorem zx_1 : (List.range 7).all (fun i => zfc (.exactly (zTm i) "java/lang/String")) = true := by decide +kernel
theorem zx_2 : (List.range 7).all (fun i => zfc (.eq (.field (zTm i) "java/lang/String" "coder" "B") (.int 0))) = true := by decide +kernel
theorem zx_3 : (List.range 7).all (fun i => zfc (.arrayOf (.field (zTm i) "java/lang/String" "value" "[B") .byte)) = true := by decide +kernel
theorem zx_4 : (List.range 7).all (fun i => zfc (.eq (.length (.field (zTm i) "java/lang/String" "value" "[B")) (.int (Int32.ofNat (zlen.getD i 0))))) = true := by decide +kernel
theorem zx_5 : (List.range 7).all (fun i => (List.range (zlen.getD i 0)).all (fun j => zfc (.eq (.elem (.field (zTm i) "java/lang/String" "value" "[B") (.int (Int32.ofNat j))) (.int ((zbyt.getD i []).getD j 0))))) = true := by decide +kernel
theorem zx_6 : (List.range 7).all (fun i => (List.range 7).all (fun j => decide (i = j) || (zfc (.not (.eq (zTm i) (zTm j))) || zfc (.not (.eq (zTm j) (zTm i)))))) = true := by decide +kernel
theorem zx_7 : zfc (.eq (.static "java/lang/String" "COMPACT_STRINGS" "Z") (.int 1)) = true := by decide +kernel
theorem zx_8 : zfc (.isRef (.static "jdk/internal/util/Preconditions" "SIOOBE_FORMATTER" "Ljava/util/function/BiFunction;")) = true := by decide +kernel
theorem zx_9 : (List.range 7).all (fun i => decide (lw_tbl[384 + i]? = some (.stringRef "HandLock$Reader" (zTx i).1 (zTx i).2))) = true := by decide +kernel
theorem zx_l1 : Cond.laysStatic "java/lang/String" "COMPACT_STRINGS" "Z" ∈ lw_tbl := List.mem_of_getElem? (i := 404) (by decide +kernel)
theorem zx_l2 : Cond.laysStatic "jdk/internal/util/Preconditions" "SIOOBE_FORMATTER" "Ljava/util/function/BiFunction;" ∈ lw_tbl := List.mem_of_getElem? (i := 420) (by decide +kernel)
theorem zx_l3 : Cond.initialized "java/lang/String" ∈ lw_tbl := List.mem_of_getElem? (i := 61) (by decide +kernel)
theorem zx_l4 : Cond.initialized "jdk/internal/util/Preconditions" ∈ lw_tbl := List.mem_of_getElem? (i := 63) (by decide +kernel)
theorem zxa {f : Nat → Bool} (h : (List.range 7).all f = true) {i : Nat} (hi : i < 7) : f i = true := List.all_eq_true.mp h i (List.mem_range.mpr hi)
theorem zXt_law {args : Array Value} {s : State} (hgv : (Jvm.Cond.and given_1 narrow_1).before args s = true) (hts : ∀ w ∈ lw_tbl, w.before args s = true) (b0 : Nat) : ∃ b : Nat → Value, b 0 = .ref b0 ∧ zXt b (fun q : Nat => s.heap.size ≤ q) s s.heap := by
  have hs := flat_of_before _ hgv
  have hA : ∀ a : Nat, a < s.heap.size → ¬ (fun q : Nat => s.heap.size ≤ q) a := fun a h => Nat.not_le.mpr h
  obtain ⟨adK, adV, h1, h2⟩ := vk_Sof (args := args) (s := s) (N := 7) (tm := zTm) (len := zlen) (byt := zbyt) (A := fun q : Nat => s.heap.size ≤ q) (by decide) (fun i hi => hs _ (of_decide_eq_true (zxa zx_1 hi))) (fun i hi => hs _ (of_decide_eq_true (zxa zx_2 hi))) (fun i hi => hs _ (of_decide_eq_true (zxa zx_3 hi))) (fun i hi => hs _ (of_decide_eq_true (zxa zx_4 hi))) (fun i hi j hj => hs _ (of_decide_eq_true (List.all_eq_true.mp (zxa zx_5 hi) j (List.mem_range.mpr hj)))) (fun i j hi hj hij => by
    have h9 := zxa (zxa zx_6 hi) hj
    simp only [Bool.or_eq_true, decide_eq_true_eq] at h9
    rcases h9 with h9 | h9 | h9
    · exact absurd h9 hij
    · exact Or.inl (hs _ (of_decide_eq_true h9))
    · exact Or.inr (hs _ (of_decide_eq_true h9))) hA
  have hz1 := va_Zof (A := fun q : Nat => s.heap.size ≤ q) (hts _ zx_l1) (hts _ zx_l3) (va_eqt (hs _ (of_decide_eq_true zx_7))) hA
  have hz2 := va_Zqof (A := fun q : Nat => s.heap.size ≤ q) (hts _ zx_l2) (hts _ zx_l4) (hs _ (of_decide_eq_true zx_8)) hA
  obtain ⟨fv, hfv, hfk⟩ : ∃ fv, va_Z "jdk/internal/util/Preconditions" "SIOOBE_FORMATTER" "Ljava/util/function/BiFunction;" fv (fun q : Nat => s.heap.size ≤ q) s s.heap ∧ ((∃ a, fv = .ref a) ∨ fv = .null) := by
    rcases hz2 with q | ⟨t, q⟩
    · exact ⟨_, q, Or.inr rfl⟩
    · exact ⟨_, q, Or.inl ⟨t, rfl⟩⟩
  refine ⟨fun n => if n = 0 then .ref b0 else if n = 20 then fv else if n % 2 = 1 then .ref (adK (n / 2)) else .ref (adV (n / 2 - 1)), rfl, adK, adV, h1, fun i hi => ⟨?_, ?_, vk_R.of (A := args) (hts _ (List.mem_of_getElem? (of_decide_eq_true (zxa zx_9 hi)))) (h2 i hi)⟩, hz1, hfv, hfk⟩
  · show (if 2 * i + 1 = 0 then _ else _) = _
    rw [if_neg (by omega), if_neg (by omega), if_pos (by omega), show (2 * i + 1) / 2 = i by omega]
  · show (if 2 * i + 2 = 0 then _ else _) = _
    rw [if_neg (by omega), if_neg (by omega), if_neg (by omega), show (2 * i + 2) / 2 - 1 = i by omega]
theorem zret_i {sc : Option (List Int32)} {mi : zMi} {ins : Instr} {len pc : Nat} {lo : zLo} {sk : List Value} {h : zHp} {x : Int32} (hz : zst sc mi ins len pc lo sk h = some (.inr (.inr (some (.int x))))) : ins = .ireturn ∧ len = 1 ∧ sk = [.int x] := by
  cases ins with
  | ireturn =>
    simp only [zst, Option.bind_eq_some_iff, Option.some.injEq, Sum.inr.injEq] at hz
    obtain ⟨_, h2, y, h3, _, h4, h5⟩ := hz
    have h6 := zgb_some h4
    simp only [Bool.and_eq_true, List.isEmpty_iff] at h6
    have h7 := zpi_some h3
    rw [h6.1] at h7
    cases h5
    exact ⟨rfl, zg_some h2, h7⟩
  | lreturn =>
    simp only [zst, Option.bind_eq_some_iff, Option.some.injEq, Sum.inr.injEq] at hz
    obtain ⟨_, h2, y, h3, _, h4, h5⟩ := hz
    cases h5
  | return_ =>
    simp only [zst, Option.bind_eq_some_iff, Option.some.injEq, Sum.inr.injEq] at hz
    obtain ⟨_, h2, _, h4, h5⟩ := hz
    cases h5
  | invokevirtual i => simp only [zst, Option.bind_eq_some_iff, Option.some.injEq, Sum.inr.injEq, reduceCtorEq, and_false, exists_const] at hz
  | invokestatic i =>
    simp only [zst, zN, Option.bind_eq_some_iff] at hz
    obtain ⟨_, h1, q, h2, hz⟩ := hz
    split at hz
    · simp only [Option.bind_eq_some_iff, Option.some.injEq, reduceCtorEq, and_false, exists_const] at hz
    · split at hz
      · simp only [Option.bind_eq_some_iff, Option.some.injEq, reduceCtorEq, and_false, exists_const] at hz
      · simp only [Option.bind_eq_some_iff, Option.some.injEq, Sum.inr.injEq, reduceCtorEq, and_false, exists_const] at hz
  | invokespecial i =>
    simp only [zst, zN, Option.bind_eq_some_iff] at hz
    obtain ⟨_, h1, q, h2, hz⟩ := hz
    split at hz
    · simp only [Option.bind_eq_some_iff, Option.some.injEq, reduceCtorEq, and_false, exists_const] at hz
    · simp only [Option.bind_eq_some_iff, Option.some.injEq, Sum.inr.injEq, reduceCtorEq, and_false, exists_const] at hz
  | ifCond x0 x1 =>
    simp only [zst, zN, Option.bind_eq_some_iff] at hz
    obtain ⟨_, h1, x, h2, t, h3, hz⟩ := hz
    split at hz <;> cases hz
  | if_icmp x0 x1 =>
    simp only [zst, zN, Option.bind_eq_some_iff] at hz
    obtain ⟨_, h1, y, h2, x, h2b, t, h3, hz⟩ := hz
    split at hz <;> cases hz
  | tableswitch x0 x1 x2 x3 =>
    simp only [zst, zN, Option.bind_eq_some_iff] at hz
    obtain ⟨x, h2, hz⟩ := hz
    split at hz <;> simp only [Option.bind_eq_some_iff, Option.some.injEq, reduceCtorEq, and_false, exists_const] at hz
  | iaload =>
    simp only [zst, zN, Option.bind_eq_some_iff] at hz
    obtain ⟨_, h1, i, h2, hz⟩ := hz
    split at hz
    · simp only [Option.bind_eq_some_iff, Option.some.injEq, reduceCtorEq, and_false, exists_const] at hz
    · simp only [Option.bind_eq_some_iff, Option.some.injEq, reduceCtorEq, and_false, exists_const] at hz
    · cases hz
  | ldc x0 =>
    simp only [zst, zN, Option.bind_eq_some_iff] at hz
    obtain ⟨_, h1, hz⟩ := hz
    split at hz
    · simp only [Option.bind_eq_some_iff, Option.some.injEq, reduceCtorEq, and_false, exists_const] at hz
    · simp only [Option.bind_eq_some_iff, Option.some.injEq, reduceCtorEq, and_false, exists_const] at hz
  | getfield x0 =>
    simp only [zst, zN, Option.bind_eq_some_iff] at hz
    obtain ⟨_, h1, hz⟩ := hz
    split at hz
    · simp only [Option.bind_eq_some_iff] at hz
      obtain ⟨a, h2, _, h3, hz⟩ := hz
      split at hz
      · cases hz
      · simp only [Option.bind_eq_some_iff, Option.some.injEq, reduceCtorEq, and_false, exists_const] at hz
    · simp only [Option.bind_eq_some_iff, Option.some.injEq, reduceCtorEq, and_false, exists_const] at hz
  | getstatic x0 =>
    simp only [zst, zN, Option.bind_eq_some_iff] at hz
    obtain ⟨_, h1, _, h2, hz⟩ := hz
    split at hz
    · cases hz
    · simp only [Option.bind_eq_some_iff, Option.some.injEq, reduceCtorEq, and_false, exists_const] at hz
  | baload =>
    simp only [zst, zN, Option.bind_eq_some_iff] at hz
    obtain ⟨_, h1, i, h2, hz⟩ := hz
    split at hz
    · simp only [Option.bind_eq_some_iff, Option.some.injEq, reduceCtorEq, and_false, exists_const] at hz
    · simp only [Option.bind_eq_some_iff, Option.some.injEq, reduceCtorEq, and_false, exists_const] at hz
    · cases hz
  | areturn =>
    simp only [zst, Option.bind_eq_some_iff, Option.some.injEq, Sum.inr.injEq] at hz
    obtain ⟨_, h2, y, h3, _, h4, h5⟩ := hz
    cases h5
  | arraylength =>
    simp only [zst, zN, Option.bind_eq_some_iff] at hz
    obtain ⟨_, h1, hz⟩ := hz
    split at hz
    · simp only [Option.bind_eq_some_iff, Option.some.injEq, reduceCtorEq, and_false, exists_const] at hz
    · simp only [Option.bind_eq_some_iff, Option.some.injEq, reduceCtorEq, and_false, exists_const] at hz
    · simp only [Option.bind_eq_some_iff, Option.some.injEq, reduceCtorEq, and_false, exists_const] at hz
    · cases hz
  | _ =>
    exfalso
    first
    | (simp only [zst, zN, Option.bind_eq_some_iff, Option.some.injEq, Sum.inr.injEq, reduceCtorEq, and_false, exists_const] at hz; done)
    | (simp only [zst, Option.bind_eq_some_iff] at hz
       obtain ⟨_, h1, hz⟩ := hz
       split at hz
       · simp only [zN, Option.bind_eq_some_iff, Option.some.injEq, reduceCtorEq, and_false, exists_const] at hz
       · simp only [zN, Option.bind_eq_some_iff, Option.some.injEq, reduceCtorEq, and_false, exists_const] at hz
       · cases hz)
theorem zins_0 : Cond.instantiable RX0 6 ∈ zgd := zpos_mem (i := 83) (by decide +kernel)
theorem zins_1 : Cond.instantiable RX1 4 ∈ zgd := zpos_mem (i := 90) (by decide +kernel)
theorem zins_2 : Cond.instantiable RX2 13 ∈ zgd := zpos_mem (i := 77) (by decide +kernel)
theorem zins_3 : Cond.instantiable RX3 5 ∈ zgd := zpos_mem (i := 200) (by decide +kernel)
theorem zins_4 : Cond.instantiable RX4 5 ∈ zgd := zpos_mem (i := 229) (by decide +kernel)
theorem zins_5 : Cond.instantiable RX5 4 ∈ zgd := zpos_mem (i := 277) (by decide +kernel)
theorem zins_6 : Cond.instantiable RX6 4 ∈ zgd := zpos_mem (i := 255) (by decide +kernel)
theorem zins_7 : Cond.instantiable RX7 9 ∈ zgd := zpos_mem (i := 69) (by decide +kernel)
theorem zins_8 : Cond.instantiable RX8 31 ∈ zgd := zpos_mem (i := 836) (by decide +kernel)
set_option maxHeartbeats 4000000 in
set_option maxRecDepth 100000 in
theorem whole_of {p : Program} {e : Env} {s : State} {m : MethodId} {below : List Frame} {meth : Method} {c : Code} (l : Launch) {b L : Nat} {xs : Nat → Int32} (C0 : lw_At p s m meth c b L xs) {n : Nat} {h' : zHp} (hrun : zex n (some ((List.range L).map xs)) 20 zm_L_law (0, [(0, .retAddr 0)], [], []) = some (some (.int 1), h')) (hl1 : h'.length ≤ 600000) (hl2 : zsz h' ≤ 7302250) : W p l e room_1 s m #[Value.ref b] below meth c s.heap [] 0 0 (lw_Z below #[Value.ref b] s) (entryFrame m ([Value.ref b] : List Value).toArray 4) := by
  obtain ⟨hx, hb, hr, hml, hown, hts, hX, hbl, hlocks, hgv⟩ := id C0
  obtain ⟨c0, iS0, hKn0⟩ := u_known (C := RX0) (T := TX0) (N := 6) (n := 6) hts (fun w hw => (List.mem_filter.mp (zuck_in zuw0 w hw)).1) (hts (.instantiable RX0 6) (List.mem_filter.mp (zins_0)).1)
  obtain ⟨c1, iS1, hKn1⟩ := u_known (C := RX1) (T := TX1) (N := 4) (n := 4) hts (fun w hw => (List.mem_filter.mp (zuck_in zuw1 w hw)).1) (hts (.instantiable RX1 4) (List.mem_filter.mp (zins_1)).1)
  obtain ⟨c2, iS2, hKn2⟩ := u_known (C := RX2) (T := TX2) (N := 13) (n := 13) hts (fun w hw => (List.mem_filter.mp (zuck_in zuw2 w hw)).1) (hts (.instantiable RX2 13) (List.mem_filter.mp (zins_2)).1)
  obtain ⟨c3, iS3, hKn3⟩ := u_known (C := RX3) (T := TX3) (N := 5) (n := 5) hts (fun w hw => (List.mem_filter.mp (zuck_in zuw3 w hw)).1) (hts (.instantiable RX3 5) (List.mem_filter.mp (zins_3)).1)
  obtain ⟨c4, iS4, hKn4⟩ := u_known (C := RX4) (T := TX4) (N := 5) (n := 5) hts (fun w hw => (List.mem_filter.mp (zuck_in zuw4 w hw)).1) (hts (.instantiable RX4 5) (List.mem_filter.mp (zins_4)).1)
  obtain ⟨c5, iS5, hKn5⟩ := u_known (C := RX5) (T := TX5) (N := 4) (n := 4) hts (fun w hw => (List.mem_filter.mp (zuck_in zuw5 w hw)).1) (hts (.instantiable RX5 4) (List.mem_filter.mp (zins_5)).1)
  obtain ⟨c6, iS6, hKn6⟩ := u_known (C := RX6) (T := TX6) (N := 4) (n := 4) hts (fun w hw => (List.mem_filter.mp (zuck_in zuw6 w hw)).1) (hts (.instantiable RX6 4) (List.mem_filter.mp (zins_6)).1)
  obtain ⟨c7, iS7, hKn7⟩ := u_known (C := RX7) (T := TX7) (N := 9) (n := 9) hts (fun w hw => (List.mem_filter.mp (zuck_in zuw7 w hw)).1) (hts (.instantiable RX7 9) (List.mem_filter.mp (zins_7)).1)
  obtain ⟨c8, iS8, hKn8⟩ := u_known (C := RX8) (T := TX8) (N := 31) (n := 31) hts (fun w hw => (List.mem_filter.mp (zuck_in zuw8 w hw)).1) (hts (.instantiable RX8 31) (List.mem_filter.mp (zins_8)).1)
  obtain ⟨dC, dI, hKc⟩ : ∃ (dC : Nat → ClassId) (dI : Nat → Nat → Nat), ∀ (k : Nat) (q : vw_C), vwCl[k]? = some q → u_Kn s q.1 q.2.1 q.2.2 (dC k) (dI k) := by
    refine ⟨fun k => match k with | 0 => c0 | 1 => c1 | 2 => c2 | 3 => c3 | 4 => c4 | 5 => c5 | 6 => c6 | 7 => c7 | _ => c8, fun k => match k with | 0 => iS0 | 1 => iS1 | 2 => iS2 | 3 => iS3 | 4 => iS4 | 5 => iS5 | 6 => iS6 | 7 => iS7 | _ => iS8, ?_⟩
    intro k q hq
    match k, hq with
    | 0, hq => cases hq; exact hKn0
    | 1, hq => cases hq; exact hKn1
    | 2, hq => cases hq; exact hKn2
    | 3, hq => cases hq; exact hKn3
    | 4, hq => cases hq; exact hKn4
    | 5, hq => cases hq; exact hKn5
    | 6, hq => cases hq; exact hKn6
    | 7, hq => cases hq; exact hKn7
    | 8, hq => cases hq; exact hKn8
    | k + 9, hq => simp [vwCl] at hq
  have hK : va_K (dC, dI) vwCl [] s := ⟨hKc, fun k q h => by simp at h⟩
  have hP : va_P (dC, dI) vwCl [] s.heap := fun k q h => by simp at h
  have hD : va_D (fun q : Nat => s.heap.size ≤ q) [] := ⟨fun i j p q h => by simp at h, fun k q h => by simp at h⟩
  have hlen : ((List.range L).map xs).length = L := by simp
  obtain ⟨bx, hbx, hXt⟩ := zXt_law hgv hts b
  have hc : zCx p room_1 s m #[Value.ref b] meth c lw_tbl (fun q : Nat => s.heap.size ≤ q) bx (some ((List.range L).map xs)) 20 zm_L_law := by
    refine ⟨hx, hb, hml, hown, hts, fun w hw => (List.mem_filter.mp hw).1, zNW_law hts, fun _ h => h, zms_ok zm_L_law (List.mem_of_getElem? (i := 195) rfl), rfl, fun q => absurd q (by decide), ⟨by decide, by decide⟩, by decide, fun ys hy => ?_, hXt⟩
    cases hy
    refine ⟨b, hbx, ?_, hbl, Nat.not_le.mpr hbl⟩
    obtain ⟨scr, x1, x2, x3, x4, x5⟩ := hX
    refine ⟨scr, x1, x2, x3, by rw [hlen]; exact x4, fun j hj => ?_⟩
    rw [hlen] at hj
    rw [x5 j hj]
    congr 2
    show xs j = ((List.range L).map xs).getD j 0
    rw [List.getD_eq_getElem?_getD, List.getElem?_map, List.getElem?_range hj]
    rfl
  have hlv := lv_entry ([.ref b]) (n := 4) (Nat.le_of_ble_eq_true rfl)
  rw [lg_entry_eq]
  have hgo := z_run l n _ _ _ _ _ _ hrun p e room_1 s m #[Value.ref b] below meth c (lw_Z below #[Value.ref b] s) (dC, dI) (fun q : Nat => s.heap.size ≤ q) bx 0 0 lw_tbl [] hc (by show 0 + (h'.length - 0) ≤ 600000; omega) (by show 0 + (zsz h' - 0) ≤ 7302250; omega) (fun st1 t hz1 hz2 => by
    unfold zstep at hz1
    rw [Option.bind_eq_some_iff] at hz1
    obtain ⟨⟨ins, len⟩, q1, q2⟩ := hz1
    obtain ⟨pc, lo, sk, hh⟩ := st1
    have hdd := zin_ok (zms_ok zm_L_law (List.mem_of_getElem? (i := 195) rfl)) q1
    dsimp only at q2 hdd
    obtain ⟨rfl, rfl, rfl⟩ := zret_i q2
    intro tys ws H locs ls stk hK1 hP1 hD1 hS1 hW1 hL1 hT1
    obtain ⟨t0, hst, hU⟩ := zSR_i hT1
    subst hst
    obtain rfl := zF2_n hU
    refine va_forget (fun q hq => hS1.2.2 q hq) ?_
    refine W.widen (k := 600000) (n := 7302250) (by show 0 + (h'.length - 0) ≤ 600000; omega) (by show 0 + (zsz h' - 0) ≤ 7302250; omega) ?_
    exact lw_ret hx hb hr hlocks hdd)
  exact hgo [] [] s.heap [] _ [] hK hP hD va_S.rf ⟨rfl, rfl, fun k c h => by simp at h⟩ ⟨_, hlv, zF2_c ⟨rfl, zVR_x hbx⟩ True.intro⟩ True.intro
