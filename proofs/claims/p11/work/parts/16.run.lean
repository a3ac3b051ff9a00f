/-! THE RUN: what the small machine answers the real one answers -/
def zvck (_ : Nat) (rows : List (Nat × Nat × Nat × Nat × Nat)) : Bool := rows.all fun q => if q.2.1 = 2 ∨ q.2.1 = 3 then decide ((zms[q.2.2.1]?).map (fun mi => mi.2.2.2.1) = some none) && decide ((zmp[q.2.2.1]?).map (fun q => q.2.2.2.2) = some false) else true
set_option maxRecDepth 100000 in
theorem zvck_ok : zall zvck 0 zmls = true := by decide +kernel
theorem zv_get {o i kd id n ps : Nat} {mi : zMi} (hk : kd = 2 ∨ kd = 3) (hm : zms[id]? = some mi) (h : zlk zmls o i = some (kd, id, n, ps)) : mi.2.2.2.1 = none ∧ (zmp[id]?).map (fun q => q.2.2.2.2) = some false := by
  obtain ⟨rows, h1, h2⟩ := zlk_mem h
  have h3 := zall_get zvck_ok o rows h1
  unfold zvck at h3
  have h4 := List.all_eq_true.mp h3 _ h2
  rw [if_pos hk, hm] at h4
  simp only [Bool.and_eq_true, decide_eq_true_eq, Option.map_some, Option.some.injEq] at h4
  exact h4
section ZRUN
variable {p : Program} {l : Launch} {e : Env} {R : Room} {s : State} {m : MethodId} {args : Array Value} {below : List Frame} {meth : Method} {c : Code} {Q : State → Prop} {D : va_G} {A : Nat → Prop} {b : Nat → Value} {cells slots d : Nat} {sc : Option (List Int32)} {mi : zMi} {Ts : List Cond} {ad : List Nat}
theorem z_docall {pc len kd id : Nat} {ins : Instr} {lo : zLo} {sk as rest : List Value} {h h1 : zHp} {mi' : zMi} {r1 : Option Value} (hc : zCx p R s m args meth c Ts A b sc d mi) (hd : decode mi.2.1 pc = .ok (ins, len)) (hz : zst sc mi ins len pc lo sk h = some (.inr (.inl (kd, id, as, rest)))) (hid : zms[id]? = some mi') (hrc : zrcv kd mi' as rest h = true) (hd2 : 1 < d)
    (IH : zRn l none (d - 1) mi' (0, lv_args 0 as, [], h) r1 h1) (hcc : cells + (h1.length - h.length) ≤ R.cells) (hss : slots + (zsz h1 - zsz h) ≤ R.slots)
    (kk : ∀ t, zGo p l e R s m args below meth c Q D A b mi.2.2.1 (cells + (h1.length - h.length)) (slots + (zsz h1 - zsz h)) (pc + 3, lo, r1.toList ++ rest, h1) (ad ++ t)) : zGo p l e R s m args below meth c Q D A b mi.2.2.1 cells slots (pc, lo, sk, h) ad := by
  obtain ⟨i, n, ps, rfl, rfl, hlk, hcase⟩ := z_call1 hz
  have hzl := zml_get hc.2.2.2.2.2.2.2.2.2.1 hlk
  unfold zlck at hzl
  rw [List.all_cons, hc.2.2.2.2.2.2.2.2.2.1] at hzl
  simp only [zrcv, Bool.and_eq_true, decide_eq_true_eq] at hrc
  obtain ⟨⟨⟨hr1, hr2⟩, hr3⟩, hr4⟩ := hrc
  intro tys ws H locs ls stk hK hP hD hS hW hL hT
  obtain ⟨hT1, hT2⟩ := zF2_cut as.reverse.length hT
  rw [List.take_left] at hT1
  rw [List.drop_left] at hT2
  generalize htk : stk.take as.reverse.length = tk at hT1
  generalize hrs : stk.drop as.reverse.length = rs at hT2
  have hstk : stk = tk ++ rs := by rw [← htk, ← hrs, List.take_append_drop]
  subst hstk
  have hvs := zF2_rev hT1
  rw [List.reverse_reverse] at hvs
  have htk2 : tk = tk.reverse.reverse := by rw [List.reverse_reverse]
  generalize hve : tk.reverse = vs at hvs htk2
  subst htk2
  have hsz : ls.size = mi.2.2.1 := by obtain ⟨lv, hlv, -⟩ := hL; exact hlv.1
  have hcat := zSR_cats hT2
  have hmrr : 2 * (F0 m pc ls (vs.reverse ++ rs)).monitorRoom + (rs.map fun v => v.category).sum ≤ 8 := by
    show 2 * 0 + _ ≤ 8
    rw [hcat]
    omega
  have hF : ∀ q, va_A ws H.size q → A q := fun q hq => hq.elim (fun ⟨k, e0, hk⟩ => hD.2 k _ hk) (fun h9 => hc.2.2.2.2.2.2.2.1 q (Nat.le_trans hS.1 h9))
  have hBl : FrameBlind (va_Pc vs (zB D b ws tys H.size)) := fun a U g mk ⟨q0, q1, q2, q3, q4, q5, q6⟩ => ⟨q0, q1, q2, va_K.moved (u := U) (U := U.calling g mk a) (Vm.Alike.refl U.vm) q3, q4, zNW_same (s := U) (U := U.calling g mk a) rfl q5, zXt_same (u := U) (U := U.calling g mk a) rfl q6⟩
  have hPre : ∀ U : State, U.heap = H → s.WarmedH U.vm → va_Pc vs (zB D b ws tys H.size) vs.toArray U := fun U hU hw => ⟨rfl, by rw [hU], by rw [hU]; exact hP, va_K.moved hw.alike hK, hD.weaken (fun _ _ _ _ => trivial), zNW_warm hw hc.2.2.2.2.2.2.1, by rw [hU]; exact zXt_go hc.2.2.2.2.2.2.2.2.2.2.2.2.2.2 hS.2.1 hF hw⟩
  have hkk : ∀ (v : Option Value) (t : State) (H1 : Heap) (locs1 : List Loc), t.heap = H1 → s.vm.Alike t.vm → (∃ (ws1 : va_W) (tys1 : List (ClassId × FieldType)) (t1 : List Nat), va_P D vwCl ws1 t.heap ∧ va_K D vwCl tys1 t ∧ va_D (va_A ws H.size) ws1 ∧ zWR (ad ++ t1) b tys1 h1 ws1 ∧ zOR (ad ++ t1) b r1 v) → va_S A s.heap H1 locs1 → W p l e R s m args below meth c H1 locs1 (cells + (h1.length - h.length)) (slots + (zsz h1 - zsz h)) Q (F0 m (pc + 3) ls (v.toList ++ rs)) := by
    intro v t H1 locs1 ht hvm ⟨ws1, tys1, t1, hP1, hK1, hD1, hW1, hv1⟩ hS1
    rw [ht] at hP1
    exact kk t1 tys1 ws1 H1 locs1 ls _ (va_K.moved hvm.symm hK1) hP1 (hD1.weaken (fun _ q _ hq => hF _ hq)) hS1 hW1 (zLR_more t1 hL) (zF2_app (zOR_sr hv1) (zSR_more t1 hT2))
  have hQ : ∀ (a : Array Value) (st₀ : State) (v : Option Value) (t : State), zQ D b ad h1 r1 ws H.size a st₀ (.returned v) t → (∃ (ws1 : va_W) (tys1 : List (ClassId × FieldType)) (t1 : List Nat), va_P D vwCl ws1 t.heap ∧ va_K D vwCl tys1 t ∧ va_D (va_A ws H.size) ws1 ∧ zWR (ad ++ t1) b tys1 h1 ws1 ∧ zOR (ad ++ t1) b r1 v) ∧ va_F (va_A ws H.size) st₀ t := by
    intro a st₀ v t ⟨⟨v', ws1, tys1, t1, hv, x1, x2, x3, x4, x5⟩, hf⟩
    cases hv
    exact ⟨⟨ws1, tys1, t1, x1, x2, x3, x4, x5⟩, hf⟩
  have hroom : (d - 1) + 1 ≤ R.frames ∧ 8 + (mi'.2.2.1 + 11) + 60 * (d - 1) ≤ R.locals := by
    have q1 := hc.2.2.2.2.2.2.2.2.2.2.2.1
    omega
  have hfix : CallFix p m c mi.2.1 mi.2.2.1 s args Ts mi.1.cls := ⟨hc.1, hc.2.1, hc.2.2.1, hc.2.2.2.1, hc.2.2.2.2.1⟩
  have hlen := zF2_len hvs
  have hmet : Nat.blt id 195 = true → Met l mi'.1 (zws mi') (zrm (d - 1) (h1.length - h.length) (zsz h1 - zsz h)) (va_Pc vs (zB D b ws tys H.size)) (zQ D b ad h1 r1 ws H.size) (h1.length - h.length) (zsz h1 - zsz h) (va_A ws H.size) := fun q => z_met hid q (by omega) hr2 IH hW hvs
  have hzcl : zcn[mi'.2.2.2.2.1]? = some mi'.1.cls := by
    have hlt : Nat.blt id 195 = true := by
      rcases hcase with ⟨rfl, -, -⟩ | ⟨rfl, -, -⟩ | ⟨rfl | rfl, -, -⟩
      · simp only [Bool.and_eq_true] at hzl; rw [hid] at hzl; simp only [Bool.and_eq_true] at hzl; exact hzl.1.1.2
      · simp only [Bool.and_eq_true] at hzl; rw [hid] at hzl; simp only [Bool.and_eq_true] at hzl; exact hzl.1.1.2
      · simp only [Bool.and_eq_true] at hzl; rw [hid] at hzl; simp only [Bool.and_eq_true] at hzl; exact hzl.1.1.2
      · simp only [Bool.and_eq_true] at hzl; rw [hid] at hzl; simp only [Bool.and_eq_true] at hzl; exact hzl.1.1.2
    exact (zm_get hlt hid).2.2.2
  have hrcv : kd ≠ 1 → ∃ a0 as0 vs0, as = a0 :: as0 ∧ ∃ a1, vs = .ref a1 :: vs0 ∧ as0.length = vs0.length ∧ ∃ cellB : Cell, H[a1]? = some cellB ∧ cellB.vm.isStatics = false ∧ s.vm.findClass mi'.1.cls = some cellB.cls := by
    intro hk1
    have hb : Nat.beq kd 1 = false := by
      cases hq : Nat.beq kd 1 with
      | false => rfl
      | true => exact absurd (Nat.eq_of_beq_eq_true hq) hk1
    rw [hb] at hr4
    simp only [cond_false] at hr4
    split at hr4
    · rename_i a0 as0
      split at hr4
      · rename_i cc hcc0
        obtain ⟨kc, vc⟩ := cc
        have hkc := of_decide_eq_true hr4
        dsimp only at hkc
        subst hkc
        obtain ⟨a1, vs0, hvs1, ha1, hvs2⟩ := zSR_r hvs
        obtain ⟨e0, hw1, hw2⟩ := zWR_at hW hcc0 ha1
        obtain ⟨fs, rfl, -⟩ := zCR_o hw2
        obtain ⟨r, hr, -⟩ := hP a0 _ hw1
        have hzc : zcn[mi'.2.2.2.2.1]? = some r.1 := zvw (P := fun ci r => zcn[ci]? = some r.1) rfl rfl rfl rfl rfl rfl rfl rfl rfl hr
        refine ⟨_, as0, vs0, rfl, a1, hvs1, zF2_len hvs2, ?_⟩
        have hrv := va_recv hK hP hr hw1
        have hlt : Nat.blt id 195 = true := by
          rcases hcase with ⟨rfl, -, -⟩ | ⟨rfl, -, -⟩ | ⟨rfl | rfl, -, -⟩
          · simp only [Bool.and_eq_true] at hzl; rw [hid] at hzl; simp only [Bool.and_eq_true] at hzl; exact hzl.1.1.2
          · exact absurd rfl hk1
          · simp only [Bool.and_eq_true] at hzl; rw [hid] at hzl; simp only [Bool.and_eq_true] at hzl; exact hzl.1.1.2
          · simp only [Bool.and_eq_true] at hzl; rw [hid] at hzl; simp only [Bool.and_eq_true] at hzl; exact hzl.1.1.2
        obtain ⟨-, -, -, w4⟩ := zm_get hlt hid
        have : r.1 = mi'.1.cls := Option.some.inj (hzc.symm.trans w4)
        rw [this] at hrv
        exact hrv
      · cases hr4
    · rename_i n0 as0
      simp only [Bool.and_eq_true, decide_eq_true_eq] at hr4
      obtain ⟨⟨m1, m2⟩, m3⟩ := hr4
      obtain ⟨w, vs0, hvs1, hw, hvs2⟩ := zF2_u hvs
      obtain ⟨adK, adV, x1, x2, x3⟩ := hc.2.2.2.2.2.2.2.2.2.2.2.2.2.2
      have hk7 : n0 / 2 < 7 := by omega
      obtain ⟨y1, y2, y3⟩ := x2 (n0 / 2) hk7
      rw [show 2 * (n0 / 2) + 1 = n0 by omega] at y1
      have hw1 := (zVR_us hw).1
      rw [y1] at hw1
      rw [hw1] at hvs1
      refine ⟨_, as0, vs0, rfl, adK (n0 / 2), hvs1, zF2_len hvs2, ?_⟩
      have hcl : mi'.1.cls = "java/lang/String" := by
        have w4 := hzcl
        rw [m1] at w4
        exact (Option.some.inj w4).symm
      rw [hcl]
      exact vk_recv x1 hk7 hS
    · cases hr4
  have hGm : zms[id]? = some mi' → Nat.blt id 195 = true → GoodIn Ts (zws mi') := fun q1 q2 => zgood (fun w hw => (List.mem_cons.mp hw).elim (fun q => q ▸ (zm_get q2 q1).1) (fun q => q)) hc.2.2.2.2.2.1
  rcases hcase with ⟨rfl, rfl, hn⟩ | ⟨rfl, rfl, hn⟩ | ⟨hk23, rfl, hn⟩
  · simp only [Bool.and_eq_true] at hzl
    rw [hid] at hzl
    simp only [Bool.and_eq_true, decide_eq_true_eq, Bool.not_eq_true', decide_eq_false_iff_not] at hzl
    obtain ⟨⟨⟨⟨z1, z2⟩, z3⟩, z4, z5⟩, -⟩ := hzl
    obtain ⟨w1, w2, w3, w4⟩ := zm_get z3 hid
    have w2 := w2.resolve_left (fun q => by rw [q.2] at z4; cases z4)
    obtain ⟨a0, as0, vs0, rfl, a1, rfl, hl0, hcell⟩ := hrcv (by decide)
    have hcn := (zcn_get w4).1
    have hcw : CallW R s args mi.1.cls mi'.1.cls i mi'.1 mi'.2.1 mi'.2.2.1 mi'.2.2.2.1 (zws mi') (zrm (d - 1) (h1.length - h.length) (zsz h1 - zsz h)) (h1.length - h.length) (zsz h1 - zsz h) n :=
      ⟨callB_of n hc.2.2.2.2.1 (hGm hid z3) rfl rfl rfl (zCx_w hc w3) (zCx_w hc (zpos_mem z1)) ⟨hcn.1, hcn.2, z2⟩ hroom, zCx_w hc w2.1, zCx_w hc (w2.2.1.resolve_right z5)⟩
    have hlen0 : vs0.length = n := by rw [← hl0]; simpa using hn
    exact z_call (P := fun v t => ∃ (ws1 : va_W) (tys1 : List (ClassId × FieldType)) (t1 : List Nat), va_P D vwCl ws1 t.heap ∧ va_K D vwCl tys1 t ∧ va_D (va_A ws H.size) ws1 ∧ zWR (ad ++ t1) b tys1 h1 ws1 ∧ zOR (ad ++ t1) b r1 v) (va_runV (As := vs0) (rest := rs) hfix (hmet z3) hcw ⟨hBl, hcell, hPre⟩ rfl hlen0 hsz (by simp) hmrr hd ⟨hcc, hss⟩) hS (fun q _ hq => hF q hq) hF (fun st₀ v t hq => hQ _ st₀ v t hq) hkk
  · simp only [Bool.and_eq_true] at hzl
    rw [hid] at hzl
    simp only [Bool.and_eq_true, decide_eq_true_eq] at hzl
    obtain ⟨⟨⟨⟨z1, z2⟩, z3⟩, z4⟩, -⟩ := hzl
    obtain ⟨w1, w2, w3, w4⟩ := zm_get z3 hid
    have w2 := w2.resolve_right (fun q => by rw [q.2.2] at z4; cases z4)
    have hcn := (zcn_get w4).1
    have hcw : CallB R s args mi.1.cls i mi'.1 mi'.2.1 mi'.2.2.1 mi'.2.2.2.1 (zws mi') (zrm (d - 1) (h1.length - h.length) (zsz h1 - zsz h)) (h1.length - h.length) (zsz h1 - zsz h) n ∧ (Cond.static mi'.1).before args s = true :=
      ⟨callB_of n hc.2.2.2.2.1 (hGm hid z3) rfl rfl rfl (zCx_w hc w3) (zCx_w hc (zpos_mem z1)) ⟨hcn.1, hcn.2, z2⟩ hroom, zCx_w hc w2.1⟩
    exact z_call (P := fun v t => ∃ (ws1 : va_W) (tys1 : List (ClassId × FieldType)) (t1 : List Nat), va_P D vwCl ws1 t.heap ∧ va_K D vwCl tys1 t ∧ va_D (va_A ws H.size) ws1 ∧ zWR (ad ++ t1) b tys1 h1 ws1 ∧ zOR (ad ++ t1) b r1 v) (va_runS (As := vs) (rest := rs) hfix (hmet z3) hcw ⟨hBl, hPre⟩ rfl (by rw [← hlen]; exact hn) hsz rfl hmrr hd ⟨hcc, hss⟩) hS (fun q _ hq => hF q hq) hF (fun st₀ v t hq => hQ _ st₀ v t hq) hkk
  · obtain ⟨a0, as0, vs0, rfl, a1, rfl, hl0, hcell⟩ := hrcv (by rcases hk23 with rfl | rfl <;> decide)
    have hlen0 : vs0.length = n := by rw [← hl0]; simpa using hn
    rcases hk23 with rfl | rfl
    · simp only [Bool.and_eq_true] at hzl
      rw [hid] at hzl
      simp only [Bool.and_eq_true, decide_eq_true_eq] at hzl
      obtain ⟨⟨⟨⟨z1, z2⟩, z3⟩, z4, z5⟩, -⟩ := hzl
      obtain ⟨w1, w2, w3, w4⟩ := zm_get z3 hid
      have w2 := w2.resolve_left (fun q => by rw [q.2] at z4; cases z4)
      have hcn := (zcn_get w4).1
      have hinit : mi'.2.2.2.1 = none := (zv_get (Or.inl rfl) hid hlk).1
      have hcw : CallB R s args mi.1.cls i mi'.1 mi'.2.1 mi'.2.2.1 none (zws mi') (zrm (d - 1) (h1.length - h.length) (zsz h1 - zsz h)) (h1.length - h.length) (zsz h1 - zsz h) n ∧ mi'.1.name = "<init>" ∧ (Cond.instanceMethod mi'.1).before args s = true :=
        ⟨callB_of n hc.2.2.2.2.1 (hGm hid z3) (by unfold zws; rw [hinit]) rfl rfl (zCx_w hc w3) (zCx_w hc (zpos_mem z1)) ⟨hcn.1, hcn.2, z2⟩ hroom, z5, zCx_w hc w2.1⟩
      exact z_call (P := fun v t => ∃ (ws1 : va_W) (tys1 : List (ClassId × FieldType)) (t1 : List Nat), va_P D vwCl ws1 t.heap ∧ va_K D vwCl tys1 t ∧ va_D (va_A ws H.size) ws1 ∧ zWR (ad ++ t1) b tys1 h1 ws1 ∧ zOR (ad ++ t1) b r1 v) (va_runI (As := vs0) (rest := rs) hfix (hmet z3) hcw ⟨hBl, hPre⟩ rfl hlen0 hsz (by simp) hmrr hd ⟨hcc, hss⟩) hS (fun q _ hq => hF q hq) hF (fun st₀ v t hq => hQ _ st₀ v t hq) hkk
    · simp only [Bool.and_eq_true] at hzl
      rw [hid] at hzl
      simp only [Bool.and_eq_true, decide_eq_true_eq] at hzl
      obtain ⟨⟨⟨⟨z1, z2⟩, z3⟩, z5⟩, -⟩ := hzl
      obtain ⟨w1, w2, w3, w4⟩ := zm_get z3 hid
      have hcn := (zcn_get w4).1
      have hinit : mi'.2.2.2.1 = none := (zv_get (Or.inr rfl) hid hlk).1
      have hinst : Cond.instanceMethod mi'.1 ∈ zgd := (w2.resolve_left (fun q => by rw [(zv_get (Or.inr rfl) hid hlk).2] at q; cases q.2)).1
      have hcw : va_CN R s args mi.1.cls i mi'.1 "HandLock" mi'.2.1 mi'.2.2.1 none (zws mi') (zrm (d - 1) (h1.length - h.length) (zsz h1 - zsz h)) (h1.length - h.length) (zsz h1 - zsz h) n ∧ mi'.1.name = "<init>" ∧ (Cond.instanceMethod mi'.1).before args s = true :=
        ⟨va_cnB n hc.2.2.2.2.1 (hGm hid z3) (by unfold zws; rw [hinit]) rfl rfl (hc.2.2.2.2.2.2.1.1 _ (zn_get hc.2.2.2.2.2.2.2.2.2.1 hid hlk)) (zCx_w hc w3) ⟨hcn.1, hcn.2, z2⟩ hroom, z5, zCx_w hc hinst⟩
      exact z_call (P := fun v t => ∃ (ws1 : va_W) (tys1 : List (ClassId × FieldType)) (t1 : List Nat), va_P D vwCl ws1 t.heap ∧ va_K D vwCl tys1 t ∧ va_D (va_A ws H.size) ws1 ∧ zWR (ad ++ t1) b tys1 h1 ws1 ∧ zOR (ad ++ t1) b r1 v) (va_runIN (As := vs0) (rest := rs) hfix (hmet z3) hcw ⟨hBl, hPre⟩ rfl hlen0 hsz (by simp) hmrr hd ⟨hcc, hss⟩) hS (fun q _ hq => hF q hq) hF (fun st₀ v t hq => hQ _ st₀ v t hq) hkk
end ZRUN
theorem z_run (l : Launch) (n : Nat) : ∀ (sc : Option (List Int32)) (d : Nat) (mi : zMi) (st : zSt) (r : Option Value) (h' : zHp), zex n sc d mi st = some (r, h') → zRn l sc d mi st r h' := by
  induction n with
  | zero => intro sc d mi st r h' h; simp [zex] at h
  | succ n ih =>
    intro sc d mi st r h' h
    have hlen := zex_len _ _ _ _ _ _ _ h
    simp only [zex] at h
    intro p e R s m args below meth c Q D A b cells slots Ts ad hc hcc hss hret
    split at h
    · cases h
    · rename_i st' hs
      have hl2 := zex_len _ _ _ _ _ _ _ h
      have hgo := ih _ _ _ _ _ _ h
      rcases z_step (l := l) (e := e) (below := below) (Q := Q) (D := D) (cells := cells) (slots := slots) (ad := ad) hc hs with ⟨e1, e2, k⟩ | ⟨cl, e1, k⟩
      · refine k (by omega) (by omega) (hgo p e R s m args below meth c Q D A b cells slots Ts ad hc (by rw [e1]; exact hcc) (by rw [e2]; exact hss) (fun st1 t q1 q2 => ?_))
        rw [e1, e2]
        exact hret st1 t q1 q2
      · have e3 : st'.2.2.2.length = st.2.2.2.length + 1 := by rw [e1, List.length_append]; rfl
        have e4 : zsz st'.2.2.2 = zsz st.2.2.2 + cl.2.length := by rw [e1]; exact zsz_app
        have c1 : cells + 1 + (h'.length - st'.2.2.2.length) = cells + (h'.length - st.2.2.2.length) := by omega
        have c2 : slots + cl.2.length + (zsz h' - zsz st'.2.2.2) = slots + (zsz h' - zsz st.2.2.2) := by omega
        refine k (by omega) (by omega) (fun q => hgo p e R s m args below meth c Q D A b (cells + 1) (slots + cl.2.length) Ts (ad ++ [q]) hc (by rw [c1]; exact hcc) (by rw [c2]; exact hss) (fun st1 t q1 q2 => ?_))
        rw [c1, c2, List.append_assoc]
        exact hret st1 ([q] ++ t) q1 q2
    · rename_i r' hs
      cases h
      have h9 := hret st [] hs rfl
      rw [Nat.sub_self, Nat.sub_self, Nat.add_zero, Nat.add_zero, List.append_nil] at h9
      exact h9
    · rename_i kd id as rest hs
      simp only [Option.bind_eq_some_iff] at h
      obtain ⟨mi', h1, _, h2, q, h3, h4⟩ := h
      have h5 := zgb_some h2
      simp only [Bool.and_eq_true] at h5
      have hl3 := zex_len _ _ _ _ _ q.1 q.2 h3
      have hl4 := zex_len _ _ _ _ _ _ _ h4
      dsimp only at hl3 hl4
      unfold zstep at hs
      rw [Option.bind_eq_some_iff] at hs
      obtain ⟨⟨ins, len⟩, hs1, hs2⟩ := hs
      obtain ⟨pc, lo, sk, hh⟩ := st
      dsimp only at hs1 hs2 hl3 hl4 hcc hss hret hlen h3 h4 h5
      have c1 : cells + (q.2.length - hh.length) + (h'.length - q.2.length) = cells + (h'.length - hh.length) := by omega
      have c2 : slots + (zsz q.2 - zsz hh) + (zsz h' - zsz q.2) = slots + (zsz h' - zsz hh) := by omega
      refine z_docall hc (zin_ok hc.2.2.2.2.2.2.2.2.1 hs1) hs2 h1 h5.1 (by have := h5.2; simpa [Nat.blt_eq] using this) (ih _ _ _ _ q.1 q.2 h3) (by omega) (by omega) (fun t => ?_)
      refine ih _ _ _ _ _ _ h4 p e R s m args below meth c Q D A b _ _ Ts (ad ++ t) hc (by show cells + (q.2.length - hh.length) + (h'.length - q.2.length) ≤ _; rw [c1]; exact hcc) (by show slots + (zsz q.2 - zsz hh) + (zsz h' - zsz q.2) ≤ _; rw [c2]; exact hss) (fun st1 t1 q1 q2 => ?_)
      show zGo p l e R s m args below meth c Q D A b mi.2.2.1 (cells + (q.2.length - hh.length) + (h'.length - q.2.length)) (slots + (zsz q.2 - zsz hh) + (zsz h' - zsz q.2)) st1 (ad ++ t ++ t1)
      rw [c1, c2, List.append_assoc]
      exact hret st1 (t ++ t1) q1 q2
