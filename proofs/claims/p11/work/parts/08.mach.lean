/-! the machine over numbered cells: one step, and a run -/
def zg (a b : Nat) : Option Unit := if a = b then some () else none
theorem zg_some {a b : Nat} {u : Unit} (h : zg a b = some u) : a = b := by
  unfold zg at h
  by_cases hh : a = b
  · exact hh
  · rw [if_neg hh] at h; simp at h
def zgb (c : Bool) : Option Unit := if c = true then some () else none
theorem zgb_some {c : Bool} {u : Unit} (h : zgb c = some u) : c = true := by
  unfold zgb at h
  by_cases hh : c = true
  · exact hh
  · rw [if_neg hh] at h; simp at h
def zpi : List Value → Option (Int32 × List Value)
  | .int x :: r => some (x, r)
  | _ => none
def zpl : List Value → Option (Int64 × List Value)
  | .long x :: r => some (x, r)
  | _ => none
def zpr : List Value → Option (Nat × List Value)
  | .ref x :: r => some (x, r)
  | _ => none
def zpx : List Value → Option (Nat × List Value)
  | .retAddr x :: r => some (x, r)
  | _ => none
def zp1 : List Value → Option (Value × List Value)
  | v :: r => if v.category = 1 then some (v, r) else none
  | _ => none
theorem zpi_some {l : List Value} {q : Int32 × List Value} (h : zpi l = some q) : l = .int q.1 :: q.2 := by
  unfold zpi at h
  split at h
  · cases h; rfl
  · cases h
theorem zpl_some {l : List Value} {q : Int64 × List Value} (h : zpl l = some q) : l = .long q.1 :: q.2 := by
  unfold zpl at h
  split at h
  · cases h; rfl
  · cases h
theorem zpr_some {l : List Value} {q : Nat × List Value} (h : zpr l = some q) : l = .ref q.1 :: q.2 := by
  unfold zpr at h
  split at h
  · cases h; rfl
  · cases h
theorem zpx_some {l : List Value} {q : Nat × List Value} (h : zpx l = some q) : l = .retAddr q.1 :: q.2 := by
  unfold zpx at h
  split at h
  · cases h; rfl
  · cases h
theorem zp1_some {l : List Value} {q : Value × List Value} (h : zp1 l = some q) : l = q.1 :: q.2 ∧ q.1.category = 1 := by
  unfold zp1 at h
  split at h
  · rename_i v r
    by_cases hc : v.category = 1
    · rw [if_pos hc] at h; cases h; exact ⟨rfl, hc⟩
    · rw [if_neg hc] at h; cases h
  · cases h
def zs1 (l : zLo) (i : Nat) (v : Value) : zLo := (i, v) :: l.filter (fun q => !(q.1 == i) && !(q.1 + 1 == i && q.2.category == 2))
def zs2 (l : zLo) (i : Nat) (v : Value) : zLo := (i, v) :: l.filter (fun q => !(q.1 == i) && (!(q.1 == i + 1) && !(q.1 + 1 == i && q.2.category == 2)))
def zb2 (i : Instr) (x y : Int32) : Option Int32 := match i with
  | .iadd => some (x + y)
  | .isub => some (x - y)
  | .imul => some (x * y)
  | .iand => some (x &&& y)
  | .ior => some (x ||| y)
  | .ixor => some (x ^^^ y)
  | .ishl => some (x <<< (y &&& 31))
  | .ishr => some (x >>> (y &&& 31))
  | .iushr => some ((x.toUInt32 >>> (y.toUInt32 &&& Int32.toUInt32 31)).toInt32)
  | .idiv => if y = 0 then none else some (x / y)
  | .irem => if y = 0 then none else some (x - x / y * y)
  | _ => none
def zl2 (i : Instr) (x y : Int64) : Option Int64 := match i with
  | .ladd => some (x + y)
  | .lsub => some (x - y)
  | .lmul => some (x * y)
  | .ldiv => if y = 0 then none else some (x / y)
  | .lrem => if y = 0 then none else some (x - x / y * y)
  | _ => none
def zcd (c : Jvm.ClassFile.Cond) (x y : Int32) : Bool := match c with
  | .eq => decide (x = y)
  | .ne => !decide (x = y)
  | .lt => decide (x < y)
  | .ge => decide (y ≤ x)
  | .gt => decide (y < x)
  | .le => decide (x ≤ y)
def zjp (pc : Nat) (off : Int) : Option Nat := match (pc : Int) + off with
  | .ofNat t => some t
  | .negSucc _ => none
theorem zjp_some {pc : Nat} {off : Int} {t : Nat} (h : zjp pc off = some t) : (pc : Int) + off = (t : Int) := by
  unfold zjp at h
  split at h
  · rename_i a hh; cases h; exact hh
  · cases h
def zix (i : Int32) (n : Nat) : Bool := !(decide (i < 0)) && decide (i.toNatClampNeg < n)
/-- what may be put into a field of this kind: 0 an int, 1 a boolean, 2 a reference -/
def zfit (t : Nat) (v : Value) : Bool := match t, v with
  | 0, .int _ => true
  | 1, .int x => decide (x = 0) || decide (x = 1)
  | 2, .ref _ => true
  | 2, .null => true
  | _, _ => false
def zdf (t : Nat) : Value := if t = 2 then .null else .int 0
def zaty (ty : ArrayType) : Option Nat := match ty with
  | .int => some 0
  | .byte => some 1
  | .boolean => some 2
  | _ => none
def zisq (k : Nat ⊕ Nat) : Bool := match k with
  | .inl (_ + 3) => true
  | _ => false
def zisa (k : Nat ⊕ Nat) : Bool := match k with
  | .inl _ => true
  | _ => false
def zqof (k d : Nat ⊕ Nat) : Bool := match k, d with
  | .inl (k + 3), .inr ci => decide (k = ci)
  | _, _ => false
def zisr (v : Value) : Bool := match v with
  | .ref _ => true
  | .retAddr _ => true
  | _ => false
def zrok (r : Option FieldType) (x : Int32) : Bool := match r with
  | some .int => true
  | some .boolean => decide (x = 0) || decide (x = 1)
  | some .char => decide (0 ≤ x) && decide (x ≤ 65535)
  | some .byte => decide (x = 0) || decide (x = 1)
  | _ => false
def zrob (r : Option FieldType) : Bool := match r with
  | some (.object _) => true
  | _ => false
abbrev zN (pc : Nat) (lo : zLo) (sk : List Value) (h : zHp) : Option zR := some (.inl (pc, lo, sk, h))
/-- the literals: their entries in the Reader's pool, their bytes -/
def zsts : List (Nat × Nat) := [(143, 0), (145, 1), (147, 2), (149, 3), (151, 4), (153, 5), (154, 6)]
def zbyt : List (List Int32) := [[112, 108, 97, 105, 110], [103, 108, 111, 118, 101, 100], [99, 104, 105, 108, 100], [109, 97, 115, 116, 101, 114], [108, 101, 102, 116], [115, 108, 97, 99, 107], [112, 108, 97, 110]]
def zlen : List Nat := [5, 6, 5, 6, 4, 5, 4]
def zst (sc : Option (List Int32)) (mi : zMi) (ins : Instr) (len pc : Nat) (lo : zLo) (sk : List Value) (h : zHp) : Option zR :=
  match ins with
  | .iconst n => (zg len 1).bind fun _ => zN (pc + 1) lo (.int (Int32.ofInt n) :: sk) h
  | .bipush n => (zg len 2).bind fun _ => zN (pc + 2) lo (.int (Int8.ofInt n).toInt32 :: sk) h
  | .sipush n => (zg len 3).bind fun _ => zN (pc + 3) lo (.int (Int16.ofInt n).toInt32 :: sk) h
  | .lconst n => (zg len 1).bind fun _ => zN (pc + 1) lo (.long (Int64.ofNat n) :: sk) h
  | .ldc i => (zg len 2).bind fun _ => if mi.2.2.2.2.1 = 2 then (zas2 zsts i).bind fun k => (zgb (decide (k < 7))).bind fun _ => zN (pc + 2) lo (.retAddr (2 * k + 1) :: sk) h else (zlk zcis mi.2.2.2.2.1 i).bind fun q => zN (pc + 2) lo (.int (Int32.ofInt q.1) :: sk) h
  | .ldc_w i => (zg len 3).bind fun _ => (zlk zcis mi.2.2.2.2.1 i).bind fun q => zN (pc + 3) lo (.int (Int32.ofInt q.1) :: sk) h
  | .ldc2_w i => (zg len 3).bind fun _ => (zlk zcJs mi.2.2.2.2.1 i).bind fun q => zN (pc + 3) lo (.long (Int64.ofInt q.1) :: sk) h
  | .iload_n k => (zg len 1).bind fun _ => (zas2 lo k).bind fun v => (zpi [v]).bind fun q => zN (pc + 1) lo (.int q.1 :: sk) h
  | .iload i => (zg len 2).bind fun _ => (zas2 lo i).bind fun v => (zpi [v]).bind fun q => zN (pc + 2) lo (.int q.1 :: sk) h
  | .lload_n k => (zg len 1).bind fun _ => (zas2 lo k).bind fun v => (zpl [v]).bind fun q => zN (pc + 1) lo (.long q.1 :: sk) h
  | .lload i => (zg len 2).bind fun _ => (zas2 lo i).bind fun v => (zpl [v]).bind fun q => zN (pc + 2) lo (.long q.1 :: sk) h
  | .aload_n k => (zg len 1).bind fun _ => (zas2 lo k).bind fun v => (zgb (zisr v)).bind fun _ => zN (pc + 1) lo (v :: sk) h
  | .aload i => (zg len 2).bind fun _ => (zas2 lo i).bind fun v => (zgb (zisr v)).bind fun _ => zN (pc + 2) lo (v :: sk) h
  | .istore_n k => (zg len 1).bind fun _ => (zpi sk).bind fun q => (zgb (decide ((k : Nat) < mi.2.2.1))).bind fun _ => zN (pc + 1) (zs1 lo k (.int q.1)) q.2 h
  | .istore i => (zg len 2).bind fun _ => (zpi sk).bind fun q => (zgb (decide (i < mi.2.2.1))).bind fun _ => zN (pc + 2) (zs1 lo i (.int q.1)) q.2 h
  | .lstore_n k => (zg len 1).bind fun _ => (zpl sk).bind fun q => (zgb (decide ((k : Nat) + 1 < mi.2.2.1))).bind fun _ => zN (pc + 1) (zs2 lo k (.long q.1)) q.2 h
  | .lstore i => (zg len 2).bind fun _ => (zpl sk).bind fun q => (zgb (decide (i + 1 < mi.2.2.1))).bind fun _ => zN (pc + 2) (zs2 lo i (.long q.1)) q.2 h
  | .astore_n k => (zg len 1).bind fun _ => (zpr sk).bind fun q => (zgb (decide ((k : Nat) < mi.2.2.1))).bind fun _ => zN (pc + 1) (zs1 lo k (.ref q.1)) q.2 h
  | .astore i => (zg len 2).bind fun _ => (zpr sk).bind fun q => (zgb (decide (i < mi.2.2.1))).bind fun _ => zN (pc + 2) (zs1 lo i (.ref q.1)) q.2 h
  | .iinc i n => (zg len 3).bind fun _ => (zas2 lo i).bind fun v => (zpi [v]).bind fun q => (zgb (decide (i < mi.2.2.1))).bind fun _ => zN (pc + 3) (zs1 lo i (.int (q.1 + Int32.ofInt n))) sk h
  | .i2l => (zg len 1).bind fun _ => (zpi sk).bind fun q => zN (pc + 1) lo (.long q.1.toInt64 :: q.2) h
  | .i2b => (zg len 1).bind fun _ => (zpi sk).bind fun q => zN (pc + 1) lo (.int q.1.toInt8.toInt32 :: q.2) h
  | .i2s => (zg len 1).bind fun _ => (zpi sk).bind fun q => zN (pc + 1) lo (.int q.1.toInt16.toInt32 :: q.2) h
  | .lcmp => (zg len 1).bind fun _ => (zpl sk).bind fun y => (zpl y.2).bind fun x => zN (pc + 1) lo (.int (lg_cmp x.1 y.1) :: x.2) h
  | .dup => (zg len 1).bind fun _ => (zp1 sk).bind fun q => zN (pc + 1) lo (q.1 :: q.1 :: q.2) h
  | .pop => (zg len 1).bind fun _ => (zp1 sk).bind fun q => zN (pc + 1) lo q.2 h
  | .pop2 => (zg len 1).bind fun _ => (zpl sk).bind fun q => zN (pc + 1) lo q.2 h
  | .dup2 => (zg len 1).bind fun _ => (zp1 sk).bind fun a => (zp1 a.2).bind fun b => zN (pc + 1) lo (a.1 :: b.1 :: a.1 :: b.1 :: b.2) h
  | .goto off => (zg len 3).bind fun _ => (zjp pc off).bind fun t => zN t lo sk h
  | .ifCond cd off => (zg len 3).bind fun _ => (zpi sk).bind fun x => (zjp pc off).bind fun t => if zcd cd x.1 0 = true then zN t lo x.2 h else zN (pc + 3) lo x.2 h
  | .if_icmp cd off => (zg len 3).bind fun _ => (zpi sk).bind fun y => (zpi y.2).bind fun x => (zjp pc off).bind fun t => if zcd cd x.1 y.1 = true then zN t lo x.2 h else zN (pc + 3) lo x.2 h
  | .tableswitch df lw hg offs => (zpi sk).bind fun x => if x.1.toInt < lw ∨ hg < x.1.toInt then (zjp pc df).bind fun t => zN t lo x.2 h else (offs[(x.1.toInt - lw).toNat]?).bind fun off => (zjp pc off).bind fun t => zN t lo x.2 h
  | .lookupswitch df ps => (zpi sk).bind fun x => (zgb ((ps.toList.zip (ps.toList.drop 1)).all (fun (a, next) => a.1 < next.1))).bind fun _ => (zjp pc (Op.lookupswitch.offset ps.toList df x.1.toInt)).bind fun t => zN t lo x.2 h
  | .getfield i => (zg len 3).bind fun _ => if mi.2.2.2.2.1 = 12 then (zpx sk).bind fun a => (zgb (decide (a.1 % 2 = 1) && decide (a.1 < 15))).bind fun _ => if i = 9 then zN (pc + 3) lo (.retAddr (a.1 + 1) :: a.2) h else (zg i 15).bind fun _ => zN (pc + 3) lo (.int 0 :: a.2) h else (zpr sk).bind fun a => (zlk zfls mi.2.2.2.2.1 i).bind fun f => (h[a.1]?).bind fun c => (zgb (decide (c.1 = Sum.inr f.1))).bind fun _ => (c.2[f.2.1]?).bind fun v => zN (pc + 3) lo (v :: a.2) h
  | .putfield i => (zg len 3).bind fun _ => (zp1 sk).bind fun v => (zpr v.2).bind fun a => (zlk zfls mi.2.2.2.2.1 i).bind fun f => (h[a.1]?).bind fun c => (zgb (decide (c.1 = Sum.inr f.1))).bind fun _ => ((zfts[f.1]?).bind fun r => r[f.2.1]?).bind fun ty => (zgb (zfit ty.1 v.1 && (!ty.2 || (decide (mi.1.name = "<init>") && decide (mi.2.2.2.2.1 = f.1))) && decide (f.2.1 < c.2.length))).bind fun _ => zN (pc + 3) lo a.2 (h.set a.1 (c.1, c.2.set f.2.1 v.1))
  | .iaload => (zg len 1).bind fun _ => (zpi sk).bind fun i => (match i.2 with
    | .ref a :: r => (h[a]?).bind fun c => (zgb (decide (c.1 = Sum.inl 0) && zix i.1 c.2.length)).bind fun _ => (c.2[i.1.toNatClampNeg]?).bind fun v => zN (pc + 1) lo (v :: r) h
    | .retAddr 0 :: r => sc.bind fun xs => (zgb (zix i.1 xs.length)).bind fun _ => (xs[i.1.toNatClampNeg]?).bind fun v => zN (pc + 1) lo (.int v :: r) h
    | _ => none)
  | .baload => (zg len 1).bind fun _ => (zpi sk).bind fun i => (match i.2 with
    | .ref a :: r => (h[a]?).bind fun c => (zgb ((decide (c.1 = Sum.inl 1) || decide (c.1 = Sum.inl 2)) && zix i.1 c.2.length)).bind fun _ => (c.2[i.1.toNatClampNeg]?).bind fun v => zN (pc + 1) lo (v :: r) h
    | .retAddr (n + 1) :: r => (zgb (decide (n % 2 = 1) && decide (n < 14) && zix i.1 (zlen.getD (n / 2) 0))).bind fun _ => zN (pc + 1) lo (.int ((zbyt.getD (n / 2) []).getD i.1.toNatClampNeg 0) :: r) h
    | _ => none)
  | .aaload => (zg len 1).bind fun _ => (zpi sk).bind fun i => (zpr i.2).bind fun a => (h[a.1]?).bind fun c => (zgb (zisq c.1 && zix i.1 c.2.length)).bind fun _ => (c.2[i.1.toNatClampNeg]?).bind fun v => zN (pc + 1) lo (v :: a.2) h
  | .iastore => (zg len 1).bind fun _ => (zpi sk).bind fun x => (zpi x.2).bind fun i => (zpr i.2).bind fun a => (h[a.1]?).bind fun c => (zgb (decide (c.1 = Sum.inl 0) && zix i.1 c.2.length)).bind fun _ => zN (pc + 1) lo a.2 (h.set a.1 (c.1, c.2.set i.1.toNatClampNeg (.int x.1)))
  | .bastore => (zg len 1).bind fun _ => (zpi sk).bind fun x => (zpi x.2).bind fun i => (zpr i.2).bind fun a => (h[a.1]?).bind fun c => (zgb ((decide (c.1 = Sum.inl 1) || decide (c.1 = Sum.inl 2)) && zix i.1 c.2.length)).bind fun _ => zN (pc + 1) lo a.2 (h.set a.1 (c.1, c.2.set i.1.toNatClampNeg (.int (vp_nar (if c.1 = Sum.inl 1 then .byte else .boolean) x.1))))
  | .aastore => (zg len 1).bind fun _ => (zpr sk).bind fun x => (zpi x.2).bind fun i => (zpr i.2).bind fun a => (h[a.1]?).bind fun c => (h[x.1]?).bind fun d => (zgb (zqof c.1 d.1 && zix i.1 c.2.length)).bind fun _ => zN (pc + 1) lo a.2 (h.set a.1 (c.1, c.2.set i.1.toNatClampNeg (.ref x.1)))
  | .getstatic i => (zg len 3).bind fun _ => (zg mi.2.2.2.2.1 12).bind fun _ => if i = 38 then zN (pc + 3) lo (.int 1 :: sk) h else (zg i 1053).bind fun _ => zN (pc + 3) lo (.retAddr 20 :: sk) h
  | .i2c => (zg len 1).bind fun _ => (zpi sk).bind fun q => zN (pc + 1) lo (.int (q.1.toUInt32 % 65536).toInt32 :: q.2) h
  | .areturn => (zg len 1).bind fun _ => (zpx sk).bind fun x => (zgb (x.2.isEmpty && zrob mi.2.2.2.1)).bind fun _ => some (.inr (.inr (some (.retAddr x.1))))
  | .arraylength => (zg len 1).bind fun _ => (match sk with
    | .ref a :: r => (h[a]?).bind fun c => (zgb (zisa c.1)).bind fun _ => zN (pc + 1) lo (.int (Int32.ofNat c.2.length) :: r) h
    | .retAddr 0 :: r => sc.bind fun xs => zN (pc + 1) lo (.int (Int32.ofNat xs.length) :: r) h
    | .retAddr (n + 1) :: r => (zgb (decide (n % 2 = 1) && decide (n < 14))).bind fun _ => zN (pc + 1) lo (.int (Int32.ofNat (zlen.getD (n / 2) 0)) :: r) h
    | _ => none)
  | .new i => (zg len 3).bind fun _ => (zlk zcls mi.2.2.2.2.1 i).bind fun q => (zfts[q.1]?).bind fun r => zN (pc + 3) lo (.ref h.length :: sk) (h ++ [(Sum.inr q.1, r.map fun t => zdf t.1)])
  | .newarray ty => (zg len 2).bind fun _ => (zpi sk).bind fun n => (zgb (zix n.1 1000)).bind fun _ => (zaty ty).bind fun t => zN (pc + 2) lo (.ref h.length :: n.2) (h ++ [(Sum.inl t, List.replicate n.1.toNatClampNeg (Value.int 0))])
  | .anewarray i => (zg len 3).bind fun _ => (zpi sk).bind fun n => (zgb (zix n.1 1000)).bind fun _ => (zlk zcls mi.2.2.2.2.1 i).bind fun q => (zgb (decide (q.1 = 0) || decide (q.1 = 1) || decide (q.1 = 5))).bind fun _ => zN (pc + 3) lo (.ref h.length :: n.2) (h ++ [(Sum.inl (q.1 + 3), List.replicate n.1.toNatClampNeg Value.null)])
  | .ireturn => (zg len 1).bind fun _ => (zpi sk).bind fun x => (zgb (x.2.isEmpty && zrok mi.2.2.2.1 x.1)).bind fun _ => some (.inr (.inr (some (.int x.1))))
  | .lreturn => (zg len 1).bind fun _ => (zpl sk).bind fun x => (zgb (x.2.isEmpty && decide (mi.2.2.2.1 = some .long))).bind fun _ => some (.inr (.inr (some (.long x.1))))
  | .return_ => (zg len 1).bind fun _ => (zgb (sk.isEmpty && decide (mi.2.2.2.1 = none))).bind fun _ => some (.inr (.inr none))
  | .invokevirtual i => (zg len 3).bind fun _ => (zlk zmls mi.2.2.2.2.1 i).bind fun q => (zgb (decide (q.1 = 0) && decide (q.2.2.1 < sk.length))).bind fun _ => some (.inr (.inl (0, q.2.1, (sk.take (q.2.2.1 + 1)).reverse, sk.drop (q.2.2.1 + 1))))
  | .invokestatic i => (zg len 3).bind fun _ => (zlk zmls mi.2.2.2.2.1 i).bind fun q => if q.1 = 5 then (zpi sk).bind fun y => (zpi y.2).bind fun x => (zgb (decide ((x.2.map fun v => v.category).sum ≤ 8))).bind fun _ => zN (pc + 3) lo (.int (if x.1 < y.1 then y.1 else x.1) :: x.2) h else if q.1 = 6 then (zpi sk).bind fun y => (zpi y.2).bind fun x => (zgb (decide ((x.2.map fun v => v.category).sum ≤ 8))).bind fun _ => zN (pc + 3) lo (.int (if y.1 < x.1 then y.1 else x.1) :: x.2) h else (zgb (decide (q.1 = 1) && decide (q.2.2.1 ≤ sk.length))).bind fun _ => some (.inr (.inl (1, q.2.1, (sk.take q.2.2.1).reverse, sk.drop q.2.2.1)))
  | .invokespecial i => (zg len 3).bind fun _ => (zlk zmls mi.2.2.2.2.1 i).bind fun q => if q.1 = 4 then (zpr sk).bind fun a => (zgb (decide ((a.2.map fun v => v.category).sum ≤ 8))).bind fun _ => zN (pc + 3) lo a.2 h else (zgb ((decide (q.1 = 2) || decide (q.1 = 3)) && decide (q.2.2.1 < sk.length))).bind fun _ => some (.inr (.inl (q.1, q.2.1, (sk.take (q.2.2.1 + 1)).reverse, sk.drop (q.2.2.1 + 1))))
  | i => (zg len 1).bind fun _ => match sk with
    | .int y :: .int x :: r => (zb2 i x y).bind fun v => zN (pc + 1) lo (.int v :: r) h
    | .long y :: .long x :: r => (zl2 i x y).bind fun v => zN (pc + 1) lo (.long v :: r) h
    | _ => none
def zstep (sc : Option (List Int32)) (mi : zMi) (st : zSt) : Option zR := (zin mi.2.2.2.2.2 st.1).bind fun q => zst sc mi q.1 q.2 st.1 st.2.1 st.2.2.1 st.2.2.2
/-- a call's receiver is an object of the callee's own class; the stack left behind is small; the arguments fit the locals -/
def zrcv (kd : Nat) (mi : zMi) (as rest : List Value) (h : zHp) : Bool := decide ((rest.map fun v => v.category).sum ≤ 8) && decide ((lg_sl as).length ≤ mi.2.2.1) && decide (mi.2.2.1 ≤ 40) && (bif Nat.beq kd 1 then true else match as with
  | .ref a :: _ => (match h[a]? with
    | some c => decide (c.1 = Sum.inr mi.2.2.2.2.1)
    | none => false)
  | .retAddr n :: _ => decide (mi.2.2.2.2.1 = 12) && decide (n % 2 = 1) && decide (n < 15)
  | _ => false)
def zex : Nat → Option (List Int32) → Nat → zMi → zSt → Option (Option Value × zHp)
  | 0, _, _, _, _ => none
  | n + 1, sc, d, mi, st => match zstep sc mi st with
    | none => none
    | some (.inl st') => zex n sc d mi st'
    | some (.inr (.inr r)) => some (r, st.2.2.2)
    | some (.inr (.inl (kd, id, as, rest))) => (zms[id]?).bind fun mi' => (zgb (zrcv kd mi' as rest st.2.2.2 && Nat.blt 1 d)).bind fun _ => (zex n none (d - 1) mi' (0, lv_args 0 as, [], st.2.2.2)).bind fun q => zex n sc d mi (st.1 + 3, st.2.1, q.1.toList ++ rest, q.2)
