/-! the methods' own words -/
def zmq : List (zMi × (Nat × Nat × Nat × Nat × Bool)) := (zms.zip zmp).take 195
set_option maxRecDepth 100000 in
theorem zmq_ok : zall zmck 0 zmq = true := by decide +kernel
set_option maxRecDepth 100000 in
theorem zmq_len : zmp.length = zms.length := by decide +kernel
theorem zm_get {id : Nat} {mi : zMi} (hid : Nat.blt id 195 = true) (h : zms[id]? = some mi) : Cond.code mi.1 mi.2.1 mi.2.2.1 mi.2.2.2.1 ∈ zgd ∧ ((Cond.static mi.1 ∈ zgd ∧ (zmp[id]?).map (fun q => q.2.2.2.2) = some true) ∨ (Cond.instanceMethod mi.1 ∈ zgd ∧ (Cond.selects mi.1.cls mi.1 mi.1 ∈ zgd ∨ mi.1.name = "<init>") ∧ (zmp[id]?).map (fun q => q.2.2.2.2) = some false)) ∧ Cond.initialized mi.1.cls ∈ zgd ∧ zcn[mi.2.2.2.2.1]? = some mi.1.cls := by
  have hl : id < zms.length := (List.getElem?_eq_some_iff.mp h).1
  obtain ⟨q, hq⟩ : ∃ q, zmp[id]? = some q := ⟨_, List.getElem?_eq_getElem (by rw [zmq_len]; exact hl)⟩
  have hid' : id < 195 := by simpa [Nat.blt_eq] using hid
  have hz : zmq[id]? = some (mi, q) := by
    unfold zmq
    rw [List.getElem?_take_of_lt hid', List.getElem?_zip_eq_some]
    exact ⟨h, hq⟩
  have h1 := zall_get zmq_ok id _ hz
  simp only [zmck, Bool.and_eq_true, decide_eq_true_eq] at h1
  obtain ⟨⟨h2, h3⟩, h4⟩ := h1
  have hcw : zCW mi := zms_cw mi (by
    have h5 : (zms.take 195)[id]? = some mi := by rw [List.getElem?_take_of_lt hid']; exact h
    exact List.mem_of_getElem? h5)
  refine ⟨hcw, ?_, zpos_mem h3, h4⟩
  rw [hq]
  cases hb : q.2.2.2.2 with
  | true => rw [hb] at h2; exact Or.inl ⟨zpos_mem h2, by simp [hb]⟩
  | false =>
    rw [hb] at h2
    simp only [cond_false, Bool.and_eq_true, Bool.or_eq_true, decide_eq_true_eq] at h2
    exact Or.inr ⟨zpos_mem h2.1, h2.2.elim (fun h => Or.inl (zpos_mem h)) Or.inr, by simp [hb]⟩
def zlck (o : Nat) (rows : List (Nat × Nat × Nat × Nat × Nat)) : Bool := rows.all fun q => match zcn[o]? with
  | none => false
  | some own => (match q.2.1 with
    | 4 => zpos q.2.2.2.2 (.methodLink own q.1 objectInit)
    | 5 => zpos q.2.2.2.2 (.methodLink own q.1 Lib.Math.max.name)
    | 6 => zpos q.2.2.2.2 (.methodLink own q.1 Lib.Math.min.name)
    | 3 => (match zms[q.2.2.1]? with
      | some mi => decide (lw_tbl[q.2.2.2.2]? = some (.methodLinkNest own q.1 mi.1 "HandLock")) && decide ((parseMethodDescriptor mi.1.desc).map (fun d => d.parameters.length) = some q.2.2.2.1) && Nat.blt q.2.2.1 195 && decide (mi.1.name = "<init>")
      | none => false)
    | kd => (match zms[q.2.2.1]? with
      | some mi => zpos q.2.2.2.2 (.methodLink own q.1 mi.1) && decide ((parseMethodDescriptor mi.1.desc).map (fun d => d.parameters.length) = some q.2.2.2.1) && Nat.blt q.2.2.1 195 && (match kd with
        | 0 => decide ((zmp[q.2.2.1]?).map (fun q => q.2.2.2.2) = some false) && !decide (mi.1.name = "<init>")
        | 1 => decide ((zmp[q.2.2.1]?).map (fun q => q.2.2.2.2) = some true)
        | 2 => decide ((zmp[q.2.2.1]?).map (fun q => q.2.2.2.2) = some false) && decide (mi.1.name = "<init>")
        | _ => false)
      | none => false))
set_option maxRecDepth 100000 in
theorem zmls_ok : zall zlck 0 zmls = true := by decide +kernel
def zcck (o : Nat) (rows : List (Nat × Nat × Nat)) : Bool := rows.all fun q => match zcn[o]?, vwCl[q.2.1]?, zins[q.2.1]?, zinp[q.2.1]? with
  | some own, some r, some i1, some i2 => zpos q.2.2 (.classLink own q.1 r.1) && zpos i1 (.instantiable r.1 r.2.2) && zpos i2 (.initialized r.1)
  | _, _, _, _ => false
set_option maxRecDepth 100000 in
theorem zcls_ok : zall zcck 0 zcls = true := by decide +kernel
def zick (o : Nat) (rows : List (Nat × Int × Nat)) : Bool := rows.all fun q => match zcn[o]? with
  | some own => zpos q.2.2 (.constant own q.1 (Int32.ofInt q.2.1))
  | none => false
def zJck (o : Nat) (rows : List (Nat × Int × Nat)) : Bool := rows.all fun q => match zcn[o]? with
  | some own => zpos q.2.2 (.constantLong own q.1 (Int64.ofInt q.2.1))
  | none => false
set_option maxRecDepth 100000 in
theorem zcis_ok : zall zick 0 zcis = true := by decide +kernel
set_option maxRecDepth 100000 in
theorem zcJs_ok : zall zJck 0 zcJs = true := by decide +kernel
