/-! the abstract run, second version: numbers as a symbol and an offset, places within an invariant, cuts, summaries -/
abbrev yI : Type := List (Int × Int)
abbrev yV : Type := (Nat × Int) ⊕ ((Nat × Int) ⊕ Value)
abbrev yH : Type := List ((Nat × Nat) × yV)
abbrev yLo : Type := List (Nat × yV)
abbrev yS : Type := Nat × List yI × yLo × List yV × yH
/-- what the cells hold at all times (runs of places), their kinds and lengths -/
abbrev yT : Type := List (List (List (Nat × (yI ⊕ Value)))) × List (List ((Nat ⊕ Nat) × Nat))
abbrev yR : Type := List yS ⊕ ((Nat × Nat × List yV × List yV) ⊕ Option yV)
/-- places that may be written: a cell, from, to -/
abbrev yMd : Type := List (Nat × Nat × Nat)
/-- the script: the symbols of the index and of the length, the window's ints -/
abbrev ySc : Type := Option (Nat × Nat × List yV)
def yle : Int → Int → Bool
  | .ofNat a, .ofNat b => Nat.ble a b
  | .ofNat _, .negSucc _ => false
  | .negSucc _, .ofNat _ => true
  | .negSucc a, .negSucc b => Nat.ble b a
def yeq (a b : Int) : Bool := yle a b && yle b a
def ymn (a b : Int) : Int := bif yle a b then a else b
def ymx (a b : Int) : Int := bif yle a b then b else a
def ylo : yI → Int
  | [] => 0
  | [(a, _)] => a
  | (a, _) :: r => ymn a (ylo r)
def yhi : yI → Int
  | [] => 0
  | [(_, b)] => b
  | (_, b) :: r => ymx b (yhi r)
def yge (c : Int) : yI → yI
  | [] => []
  | (a, b) :: r => bif yle c b then (ymx a c, b) :: yge c r else yge c r
def yls (c : Int) : yI → yI
  | [] => []
  | (a, b) :: r => bif yle a c then (a, ymn b c) :: yls c r else yls c r
def yne (c : Int) : yI → yI
  | [] => []
  | (a, b) :: r => bif yle a c && yle c b then (bif yle a (c - 1) then [(a, c - 1)] else []) ++ ((bif yle (c + 1) b then [(c + 1, b)] else []) ++ yne c r) else (a, b) :: yne c r
def ysg : yI → Option Int
  | [(a, b)] => bif yeq a b then some a else none
  | _ => none
def ylk {α : Type} : List α → Nat → Option α
  | [], _ => none
  | a :: _, 0 => some a
  | _ :: r, n + 1 => ylk r n
def yrf (env : List yI) (s : Nat) (f : yI → yI) : Option (List yI) := match ylk env s with
  | none => none
  | some iv => (match f iv with
    | [] => none
    | a :: r => some (env.set s (a :: r)))
def yLE (env : List yI) (x y : Nat × Int) : Option (List yI) := bif Nat.beq x.1 y.1 then (bif yle x.2 y.2 then some env else none) else
  match ylk env x.1, ylk env y.1 with
  | some ix, some iy => (yrf env x.1 (yls (yhi iy + y.2 - x.2))).bind fun e1 => yrf e1 y.1 (yge (ylo ix + x.2 - y.2))
  | _, _ => some env
def yLT (env : List yI) (x y : Nat × Int) : Option (List yI) := yLE env (x.1, x.2 + 1) y
def yEQ (env : List yI) (x y : Nat × Int) : Option (List yI) := (yLE env x y).bind fun e1 => yLE e1 y x
def yNE (env : List yI) (x y : Nat × Int) : Option (List yI) := bif Nat.beq x.1 y.1 then (bif yeq x.2 y.2 then none else some env) else
  match (ylk env y.1).bind ysg with
  | some c => yrf env x.1 (yne (c + y.2 - x.2))
  | none => (match (ylk env x.1).bind ysg with
    | some c => yrf env y.1 (yne (c + x.2 - y.2))
    | none => some env)
def ycd (c : Jvm.ClassFile.Cond) (env : List yI) (x y : Nat × Int) : Option (List yI) := match c with
  | .eq => yEQ env x y
  | .ne => yNE env x y
  | .lt => yLT env x y
  | .ge => yLE env y x
  | .gt => yLT env y x
  | .le => yLE env x y
def yng (c : Jvm.ClassFile.Cond) : Jvm.ClassFile.Cond := match c with
  | .eq => .ne
  | .ne => .eq
  | .lt => .ge
  | .ge => .lt
  | .gt => .le
  | .le => .gt
def yas (h : yH) (k i : Nat) : Option yV := match h with
  | [] => none
  | ((a, b), v) :: r => bif Nat.beq a k && Nat.beq b i then some v else yas r k i
def yrm (h : yH) (k i : Nat) : yH := match h with
  | [] => []
  | ((a, b), v) :: r => bif Nat.beq a k && Nat.beq b i then yrm r k i else ((a, b), v) :: yrm r k i
def ysm {α : Type} : List (Nat × α) → Nat → Option α
  | [], _ => none
  | (n, a) :: r, i => bif Nat.blt i n then some a else ysm r (i - n)
def yl3 {α : Type} (t : List (List α)) (k : Nat) : Option α := match ylk t (k / 10) with
  | some r => ylk r (k % 10)
  | none => none
def ydf (T : yT) (k i : Nat) : Option (yI ⊕ Value) := match yl3 T.1 k with
  | some r => ysm r i
  | none => none
def yfin (t : List (List (Option (Instr × Nat)))) (pc : Nat) : Option (Instr × Nat) := match ylk t (pc / 16) with
  | some r => (match ylk r (pc % 16) with
    | some x => x
    | none => none)
  | none => none
def yzk {α : Type} (t : List (List (Nat × α))) (o i : Nat) : Option α := match ylk t o with
  | some r => zas2 r i
  | none => none
def ymd : yMd → Nat → Nat → Bool
  | [], _, _ => false
  | (a, b, c) :: r, k, i => bif Nat.beq a k && Nat.ble b i && Nat.ble i c then true else ymd r k i
def ymr : yMd → Nat → Nat → Nat → Bool
  | [], _, _, _ => false
  | (a, b, c) :: r, k, i, j => bif Nat.beq a k && Nat.ble b i && Nat.ble j c then true else ymr r k i j
def ysb1 (p : Int × Int) (o : Int) : yI → Bool
  | [] => false
  | q :: r => bif yle q.1 (p.1 + o) && yle (p.2 + o) q.2 then true else ysb1 p o r
def ysub : yI → Int → yI → Bool
  | [], _, _ => true
  | p :: r, o, iv => ysb1 p o iv && ysub r o iv
def yvin (env : List yI) (x : Nat × Int) (iv : yI) : Bool := match ylk env x.1 with
  | some jv => ysub jv x.2 iv
  | none => false
def yc1 (env : List yI) (x : Nat × Int) : Option Int := ((ylk env x.1).bind ysg).map fun c => c + x.2
def ysw {α : Type} : List (Nat × α) → Nat → Nat → Option α
  | [], _, _ => none
  | (n, a) :: r, i, j => bif Nat.blt i n then (bif Nat.blt j n then some a else none) else ysw r (i - n) (j - n)
def ydw (T : yT) (k i j : Nat) : Option (yI ⊕ Value) := match yl3 T.1 k with
  | some r => ysw r i j
  | none => none
/-- what a place holds: a value, and the symbols and places then -/
def yrd (T : yT) (env : List yI) (h : yH) (k i : Nat) : Option (yV × List yI × yH) := match yas h k i with
  | some v => some (v, env, h)
  | none => (match ydf T k i with
    | none => none
    | some (.inr w) => some (.inr (.inr w), env, h)
    | some (.inl iv) => (match ysg iv with
      | some c => some (.inl (0, c), env, h)
      | none => some (.inl (env.length, 0), env ++ [iv], ((k, i), .inl (env.length, 0)) :: h)))
/-- a number written to a place, within its bounds -/
def ywr (T : yT) (md : yMd) (env : List yI) (h : yH) (k i : Nat) (x : Nat × Int) : Option yH := match ydf T k i with
  | some (.inl iv) => bif ymd md k i && yvin env x iv then some (((k, i), .inl x) :: yrm h k i) else none
  | _ => none
def yrr : yH → Nat → Nat → Nat → yH
  | [], _, _, _ => []
  | ((a, b), v) :: r, k, i, j => bif Nat.beq a k && Nat.ble i b && Nat.ble b j then yrr r k i j else ((a, b), v) :: yrr r k i j
/-- a number written to one place of several -/
def yww (T : yT) (md : yMd) (env : List yI) (h : yH) (k i j : Nat) (x : Nat × Int) : Option yH := match ydw T k i j with
  | some (.inl iv) => bif ymr md k i j && yvin env x iv then some (yrr h k i j) else none
  | _ => none
def yI32 : yI := [(-2147483648, 2147483647)]
def yI64 : yI := [(-9223372036854775808, 9223372036854775807)]
def yin (env : List yI) (x : Nat × Int) (lw hg : Int) : Bool := match ylk env x.1 with
  | some iv => yle lw (ylo iv + x.2) && yle (yhi iv + x.2) hg
  | none => false
def yad (env : List yI) (x y : Nat × Int) : Option ((Nat × Int) × List yI) := match ylk env x.1, ylk env y.1 with
  | some ix, some iy => bif yle (-2147483648) (ylo ix + x.2 + (ylo iy + y.2)) && yle (yhi ix + x.2 + (yhi iy + y.2)) 2147483647 then (match ysg iy with
    | some b => some ((x.1, x.2 + (b + y.2)), env)
    | none => (match ysg ix with
      | some a => some ((y.1, y.2 + (a + x.2)), env)
      | none => some ((env.length, 0), env ++ [[(ylo ix + x.2 + (ylo iy + y.2), yhi ix + x.2 + (yhi iy + y.2))]]))) else some ((env.length, 0), env ++ [yI32])
  | _, _ => none
def ysu (env : List yI) (x y : Nat × Int) : Option ((Nat × Int) × List yI) := bif Nat.beq x.1 y.1 then (bif yle (-2147483648) (x.2 - y.2) && yle (x.2 - y.2) 2147483647 then some ((0, x.2 - y.2), env) else none) else match ylk env x.1, ylk env y.1 with
  | some ix, some iy => bif yle (-2147483648) (ylo ix + x.2 - (yhi iy + y.2)) && yle (yhi ix + x.2 - (ylo iy + y.2)) 2147483647 then (match ysg iy with
    | some b => some ((x.1, x.2 - (b + y.2)), env)
    | none => some ((env.length, 0), env ++ [[(ylo ix + x.2 - (yhi iy + y.2), yhi ix + x.2 - (ylo iy + y.2))]])) else some ((env.length, 0), env ++ [yI32])
  | _, _ => none
def ybl (n : Int) : Nat → Nat → Nat
  | 0, k => k
  | f + 1, k => bif yle ((2 ^ k : Nat) : Int) n then ybl n f (k + 1) else k
/-- no number of these is 0 -/
def ynz (o : Int) : yI → Bool
  | [] => true
  | (a, b) :: r => (yle 1 (a + o) || yle (b + o) (-1)) && ynz o r
/-- the bounds of an answer: x and y with their bounds -/
def yiv (i : Instr) (a b c d : Int) (z : Bool) : Option yI := match i with
  | .imul => bif yle 0 a && yle 0 c && yle (b * d) 2147483647 then some [(a * c, b * d)] else some yI32
  | .iand => bif yle 0 c then some [(0, d)] else bif yle 0 a then some [(0, b)] else some yI32
  | .ior => bif yle 0 a && yle 0 c && Nat.ble (ybl (ymx b d) 32 0) 31 then some [(0, ((2 ^ (ybl (ymx b d) 32 0) : Nat) : Int) - 1)] else some yI32
  | .ixor => some yI32
  | .ishl => bif yle 0 a && yle 0 c && yle d 30 && yle (b * ((2 ^ d.toNat : Nat) : Int)) 2147483647 then some [(a * ((2 ^ c.toNat : Nat) : Int), b * ((2 ^ d.toNat : Nat) : Int))] else some yI32
  | .ishr => some yI32
  | .iushr => some yI32
  | .idiv => bif z then (bif yle 0 a && yle 1 c then some [(0, b)] else some yI32) else none
  | .irem => bif z then (bif yle 0 a && yle 1 c then some [(0, ymn b (d - 1))] else some yI32) else none
  | _ => none
/-- the answer of two ints -/
def yb2 (i : Instr) (env : List yI) (x y : Nat × Int) : Option ((Nat × Int) × List yI) := match i with
  | .iadd => yad env x y
  | .isub => ysu env x y
  | i => (match yc1 env x, yc1 env y with
    | some a, some b => (match zb2 i (Int32.ofInt a) (Int32.ofInt b) with
      | some v => some ((0, v.toInt), env)
      | none => none)
    | _, _ => (match ylk env x.1, ylk env y.1 with
      | some ix, some iy => (match yiv i (ylo ix + x.2) (yhi ix + x.2) (ylo iy + y.2) (yhi iy + y.2) (ynz y.2 iy) with
        | some iv => some ((env.length, 0), env ++ [iv])
        | none => none)
      | _, _ => none))
def yl2 (i : Instr) (env : List yI) (x y : Nat × Int) : Option ((Nat × Int) × List yI) := match yc1 env x, yc1 env y with
  | some a, some b => (match zl2 i (Int64.ofInt a) (Int64.ofInt b) with
    | some v => some ((0, v.toInt), env)
    | none => none)
  | cx, cy => (match i with
    | .ladd => (match cx, cy with
      | _, some b => bif yin env x (-9223372036854775808 - b) (9223372036854775807 - b) then some ((x.1, x.2 + b), env) else some ((env.length, 0), env ++ [yI64])
      | some a, none => bif yin env y (-9223372036854775808 - a) (9223372036854775807 - a) then some ((y.1, y.2 + a), env) else some ((env.length, 0), env ++ [yI64])
      | _, _ => some ((env.length, 0), env ++ [yI64]))
    | .lsub => some ((env.length, 0), env ++ [yI64])
    | .lmul => some ((env.length, 0), env ++ [yI64])
    | .ldiv => (match ylk env y.1 with
      | some iy => bif ynz y.2 iy then some ((env.length, 0), env ++ [yI64]) else none
      | none => none)
    | .lrem => (match ylk env y.1 with
      | some iy => bif ynz y.2 iy then some ((env.length, 0), env ++ [yI64]) else none
      | none => none)
    | _ => none)
def ypi : List yV → Option ((Nat × Int) × List yV)
  | .inl x :: r => some (x, r)
  | _ => none
def ypl : List yV → Option ((Nat × Int) × List yV)
  | .inr (.inl x) :: r => some (x, r)
  | _ => none
def ypr : List yV → Option (Nat × List yV)
  | .inr (.inr (.ref k)) :: r => some (k, r)
  | _ => none
def yct (v : yV) : Nat := match v with
  | .inl _ => 1
  | .inr (.inl _) => 2
  | .inr (.inr w) => w.category
def yp1 : List yV → Option (yV × List yV)
  | v :: r => bif Nat.beq (yct v) 1 then some (v, r) else none
  | _ => none
def ypx : List yV → Option (Nat × List yV)
  | .inr (.inr (.retAddr k)) :: r => some (k, r)
  | _ => none
/-- is the number before this one a long -/
def yl1 (l : yLo) (i : Nat) : Bool := match i with
  | 0 => false
  | j + 1 => (match zas2 l j with
    | some v => Nat.beq (yct v) 2
    | none => false)
def ydr (l : yLo) (i : Nat) : yLo := l.filter (fun q => !(Nat.beq q.1 i))
def ys1 (l : yLo) (i : Nat) (v : yV) : yLo := (i, v) :: (bif yl1 l i then ydr (ydr l i) (i - 1) else ydr l i)
def ys2 (l : yLo) (i : Nat) (v : yV) : yLo := (i, v) :: (bif yl1 l i then ydr (ydr (ydr l i) (i + 1)) (i - 1) else ydr (ydr l i) (i + 1))
def ygb (c : Bool) : Option Unit := bif c then some () else none
def yki (T : yT) (k : Nat) : Option ((Nat ⊕ Nat) × Nat) := yl3 T.2 k
def yisi (k : Nat ⊕ Nat) (t : Nat) : Bool := match k with
  | .inl a => Nat.beq a t
  | _ => false
def yiso (k : Nat ⊕ Nat) (t : Nat) : Bool := match k with
  | .inr a => Nat.beq a t
  | _ => false
def yfit (t : Nat) (env : List yI) (x : Nat × Int) : Bool := match t with
  | 0 => true
  | 1 => yin env x 0 1
  | _ => false
abbrev yN (pc : Nat) (env : List yI) (lo : yLo) (sk : List yV) (h : yH) : Option yR := some (.inl [(pc, env, lo, sk, h)])
def yop (o : Option (List yI)) (pc : Nat) (lo : yLo) (sk : List yV) (h : yH) : List yS := match o with
  | some e => [(pc, e, lo, sk, h)]
  | none => []
/-- the cases of a table of jumps -/
def ytb (pc : Nat) (env : List yI) (lo : yLo) (sk : List yV) (h : yH) (x : Nat × Int) : Int → List Int → Option (List yS)
  | _, [] => some []
  | c, o :: r => (zjp pc o).bind fun t => (ytb pc env lo sk h x (c + 1) r).bind fun q => some (yop (yEQ env x (0, c)) t lo sk h ++ q)
def ylb (pc : Nat) (lo : yLo) (sk : List yV) (h : yH) (x : Nat × Int) (df : Int) : List yI → List (Int × Int) → Option (List yS)
  | env, [] => (zjp pc df).bind fun t => some [(t, env, lo, sk, h)]
  | env, (c, o) :: r => (zjp pc o).bind fun t => match yNE env x (0, c) with
    | none => some (yop (yEQ env x (0, c)) t lo sk h)
    | some e => (ylb pc lo sk h x df e r).bind fun q => some (yop (yEQ env x (0, c)) t lo sk h ++ q)
/-- a number in each of its few cases -/
def yspl (pc : Nat) (env : List yI) (lo : yLo) (sk : List yV) (h : yH) (x : Nat × Int) : Nat → Int → List yS
  | 0, _ => []
  | n + 1, c => yop (yEQ env x (0, c)) pc lo sk h ++ yspl pc env lo sk h x n (c + 1)
def yidx (pc : Nat) (env : List yI) (lo : yLo) (sk : List yV) (h : yH) (x : Nat × Int) (f : Int → Option yR) : Option yR := match yc1 env x with
  | some c => f c
  | none => (match ylk env x.1 with
    | some iv => (ygb (yle (yhi iv - ylo iv) 8)).bind fun _ => some (.inl (yspl pc env lo sk h x (yhi iv - ylo iv + 1).toNat (ylo iv + x.2)))
    | none => none)
def yrok (r : Option FieldType) (env : List yI) (x : Nat × Int) : Bool := match r with
  | some .int => true
  | some .boolean => yin env x 0 1
  | some .char => yin env x 0 65535
  | some .byte => yin env x 0 1
  | _ => false
/-- a number read from a row: at one place, or at one of several -/
def yrw (T : yT) (n pc : Nat) (env : List yI) (lo : yLo) (h : yH) (a : Nat) (r : List yV) (x : Nat × Int) : Option yR := match yc1 env x with
  | some c => (ygb (yle 0 c && Nat.blt c.toNat n)).bind fun _ => (yrd T env h a c.toNat).bind fun v => yN (pc + 1) v.2.1 lo (v.1 :: r) v.2.2
  | none => (match ylk env x.1 with
    | some iv => (ygb (yle 0 (ylo iv + x.2) && Nat.blt (yhi iv + x.2).toNat n)).bind fun _ => (match ydw T a (ylo iv + x.2).toNat (yhi iv + x.2).toNat with
      | some (.inl jv) => yN (pc + 1) (env ++ [jv]) lo (.inl (env.length, 0) :: r) h
      | _ => none)
    | none => none)
def ywx (T : yT) (md : yMd) (n pc : Nat) (env : List yI) (lo : yLo) (h : yH) (a : Nat) (r : List yV) (x v : Nat × Int) : Option yR := match yc1 env x with
  | some c => (ygb (yle 0 c && Nat.blt c.toNat n)).bind fun _ => (ywr T md env h a c.toNat v).bind fun h' => yN (pc + 1) env lo r h'
  | none => (match ylk env x.1 with
    | some iv => (ygb (yle 0 (ylo iv + x.2) && Nat.blt (yhi iv + x.2).toNat n)).bind fun _ => (yww T md env h a (ylo iv + x.2).toNat (yhi iv + x.2).toNat v).bind fun h' => yN (pc + 1) env lo r h'
    | none => none)
def yst (T : yT) (md : yMd) (sc : ySc) (mi : zMi) (ins : Instr) (len pc : Nat) (env : List yI) (lo : yLo) (sk : List yV) (h : yH) : Option yR :=
  match ins with
  | .iconst n => (ygb (Nat.beq len 1 && yle (-1000) n && yle n 1000)).bind fun _ => yN (pc + 1) env lo (.inl (0, n) :: sk) h
  | .bipush n => (ygb (Nat.beq len 2 && yle (-128) n && yle n 127)).bind fun _ => yN (pc + 2) env lo (.inl (0, n) :: sk) h
  | .sipush n => (ygb (Nat.beq len 3 && yle (-32768) n && yle n 32767)).bind fun _ => yN (pc + 3) env lo (.inl (0, n) :: sk) h
  | .lconst n => (ygb (Nat.beq len 1)).bind fun _ => yN (pc + 1) env lo (.inr (.inl (0, (Int64.ofNat n).toInt)) :: sk) h
  | .ldc i => (ygb (Nat.beq len 2)).bind fun _ => bif Nat.beq mi.2.2.2.2.1 2 then (zas2 zsts i).bind fun k => (ygb (Nat.blt k 7)).bind fun _ => yN (pc + 2) env lo (.inr (.inr (.retAddr (2 * k + 1))) :: sk) h else (yzk zcis mi.2.2.2.2.1 i).bind fun q => yN (pc + 2) env lo (.inl (0, (Int32.ofInt q.1).toInt) :: sk) h
  | .ldc_w i => (ygb (Nat.beq len 3)).bind fun _ => (yzk zcis mi.2.2.2.2.1 i).bind fun q => yN (pc + 3) env lo (.inl (0, (Int32.ofInt q.1).toInt) :: sk) h
  | .ldc2_w i => (ygb (Nat.beq len 3)).bind fun _ => (yzk zcJs mi.2.2.2.2.1 i).bind fun q => yN (pc + 3) env lo (.inr (.inl (0, (Int64.ofInt q.1).toInt)) :: sk) h
  | .iload_n k => (ygb (Nat.beq len 1)).bind fun _ => (zas2 lo k).bind fun v => (ypi [v]).bind fun q => yN (pc + 1) env lo (.inl q.1 :: sk) h
  | .iload i => (ygb (Nat.beq len 2)).bind fun _ => (zas2 lo i).bind fun v => (ypi [v]).bind fun q => yN (pc + 2) env lo (.inl q.1 :: sk) h
  | .lload_n k => (ygb (Nat.beq len 1)).bind fun _ => (zas2 lo k).bind fun v => (ypl [v]).bind fun q => yN (pc + 1) env lo (.inr (.inl q.1) :: sk) h
  | .lload i => (ygb (Nat.beq len 2)).bind fun _ => (zas2 lo i).bind fun v => (ypl [v]).bind fun q => yN (pc + 2) env lo (.inr (.inl q.1) :: sk) h
  | .aload_n k => (ygb (Nat.beq len 1)).bind fun _ => (zas2 lo k).bind fun v => (match v with
    | .inr (.inr w) => (ygb (zisr w)).bind fun _ => yN (pc + 1) env lo (.inr (.inr w) :: sk) h
    | _ => none)
  | .aload i => (ygb (Nat.beq len 2)).bind fun _ => (zas2 lo i).bind fun v => (match v with
    | .inr (.inr w) => (ygb (zisr w)).bind fun _ => yN (pc + 2) env lo (.inr (.inr w) :: sk) h
    | _ => none)
  | .istore_n k => (ygb (Nat.beq len 1 && Nat.blt k mi.2.2.1)).bind fun _ => (ypi sk).bind fun q => yN (pc + 1) env (ys1 lo k (.inl q.1)) q.2 h
  | .istore i => (ygb (Nat.beq len 2 && Nat.blt i mi.2.2.1)).bind fun _ => (ypi sk).bind fun q => yN (pc + 2) env (ys1 lo i (.inl q.1)) q.2 h
  | .lstore_n k => (ygb (Nat.beq len 1 && Nat.blt (k + 1) mi.2.2.1)).bind fun _ => (ypl sk).bind fun q => yN (pc + 1) env (ys2 lo k (.inr (.inl q.1))) q.2 h
  | .lstore i => (ygb (Nat.beq len 2 && Nat.blt (i + 1) mi.2.2.1)).bind fun _ => (ypl sk).bind fun q => yN (pc + 2) env (ys2 lo i (.inr (.inl q.1))) q.2 h
  | .astore_n k => (ygb (Nat.beq len 1 && Nat.blt k mi.2.2.1)).bind fun _ => (ypr sk).bind fun q => yN (pc + 1) env (ys1 lo k (.inr (.inr (.ref q.1)))) q.2 h
  | .astore i => (ygb (Nat.beq len 2 && Nat.blt i mi.2.2.1)).bind fun _ => (ypr sk).bind fun q => yN (pc + 2) env (ys1 lo i (.inr (.inr (.ref q.1)))) q.2 h
  | .iinc i n => (ygb (Nat.beq len 3 && Nat.blt i mi.2.2.1)).bind fun _ => (zas2 lo i).bind fun v => (ypi [v]).bind fun q => (ygb (yle (-1000) n && yle n 1000)).bind fun _ => (yad env q.1 (0, n)).bind fun r => yN (pc + 3) r.2 (ys1 lo i (.inl r.1)) sk h
  | .i2l => (ygb (Nat.beq len 1)).bind fun _ => (ypi sk).bind fun q => yN (pc + 1) env lo (.inr (.inl q.1) :: q.2) h
  | .i2b => (ygb (Nat.beq len 1)).bind fun _ => (ypi sk).bind fun q => bif yin env q.1 (-128) 127 then yN (pc + 1) env lo (.inl q.1 :: q.2) h else yN (pc + 1) (env ++ [[(-128, 127)]]) lo (.inl (env.length, 0) :: q.2) h
  | .i2s => (ygb (Nat.beq len 1)).bind fun _ => (ypi sk).bind fun q => yN (pc + 1) (env ++ [[(-32768, 32767)]]) lo (.inl (env.length, 0) :: q.2) h
  | .i2c => (ygb (Nat.beq len 1)).bind fun _ => (ypi sk).bind fun q => (ygb (yin env q.1 0 65535)).bind fun _ => yN (pc + 1) env lo (.inl q.1 :: q.2) h
  | .lcmp => (ygb (Nat.beq len 1)).bind fun _ => (ypl sk).bind fun y => (ypl y.2).bind fun x => some (.inl (yop (yLT env x.1 y.1) (pc + 1) lo (.inl (0, -1) :: x.2) h ++ (yop (yEQ env x.1 y.1) (pc + 1) lo (.inl (0, 0) :: x.2) h ++ yop (yLT env y.1 x.1) (pc + 1) lo (.inl (0, 1) :: x.2) h)))
  | .dup => (ygb (Nat.beq len 1)).bind fun _ => (yp1 sk).bind fun q => yN (pc + 1) env lo (q.1 :: q.1 :: q.2) h
  | .pop => (ygb (Nat.beq len 1)).bind fun _ => (yp1 sk).bind fun q => yN (pc + 1) env lo q.2 h
  | .pop2 => (ygb (Nat.beq len 1)).bind fun _ => (ypl sk).bind fun q => yN (pc + 1) env lo q.2 h
  | .dup2 => (ygb (Nat.beq len 1)).bind fun _ => (yp1 sk).bind fun a => (yp1 a.2).bind fun b => yN (pc + 1) env lo (a.1 :: b.1 :: a.1 :: b.1 :: b.2) h
  | .goto off => (ygb (Nat.beq len 3)).bind fun _ => (zjp pc off).bind fun t => yN t env lo sk h
  | .ifCond cd off => (ygb (Nat.beq len 3)).bind fun _ => (ypi sk).bind fun x => (zjp pc off).bind fun t => some (.inl (yop (ycd cd env x.1 (0, 0)) t lo x.2 h ++ yop (ycd (yng cd) env x.1 (0, 0)) (pc + 3) lo x.2 h))
  | .if_icmp cd off => (ygb (Nat.beq len 3)).bind fun _ => (ypi sk).bind fun y => (ypi y.2).bind fun x => (zjp pc off).bind fun t => some (.inl (yop (ycd cd env x.1 y.1) t lo x.2 h ++ yop (ycd (yng cd) env x.1 y.1) (pc + 3) lo x.2 h))
  | .tableswitch df lw hg offs => (ypi sk).bind fun x => (zjp pc df).bind fun t => (ygb (yeq (lw + offs.toList.length) (hg + 1))).bind fun _ => (ytb pc env lo x.2 h x.1 lw offs.toList).bind fun q => some (.inl (yop (yLT env x.1 (0, lw)) t lo x.2 h ++ (yop (yLT env (0, hg) x.1) t lo x.2 h ++ q)))
  | .lookupswitch df ps => (ypi sk).bind fun x => (ygb ((ps.toList.zip (ps.toList.drop 1)).all (fun (a, next) => a.1 < next.1))).bind fun _ => (ylb pc lo x.2 h x.1 df env ps.toList).bind fun q => some (.inl q)
  | .getfield i => (ygb (Nat.beq len 3)).bind fun _ => bif Nat.beq mi.2.2.2.2.1 12 then (ypx sk).bind fun a => (ygb (Nat.beq (a.1 % 2) 1 && Nat.blt a.1 15)).bind fun _ => bif Nat.beq i 9 then yN (pc + 3) env lo (.inr (.inr (.retAddr (a.1 + 1))) :: a.2) h else (ygb (Nat.beq i 15)).bind fun _ => yN (pc + 3) env lo (.inl (0, 0) :: a.2) h else (ypr sk).bind fun a => (yzk zfls mi.2.2.2.2.1 i).bind fun f => (yki T a.1).bind fun c => (ygb (yiso c.1 f.1 && Nat.blt f.2.1 c.2)).bind fun _ => (yrd T env h a.1 f.2.1).bind fun v => yN (pc + 3) v.2.1 lo (v.1 :: a.2) v.2.2
  | .putfield i => (ygb (Nat.beq len 3)).bind fun _ => (ypi sk).bind fun v => (ypr v.2).bind fun a => (yzk zfls mi.2.2.2.2.1 i).bind fun f => (yki T a.1).bind fun c => ((ylk zfts f.1).bind fun r => ylk r f.2.1).bind fun ty => (ygb (yiso c.1 f.1 && Nat.blt f.2.1 c.2 && yfit ty.1 env v.1 && !ty.2)).bind fun _ => (ywr T md env h a.1 f.2.1 v.1).bind fun h' => yN (pc + 3) env lo a.2 h'
  | .iaload => (ygb (Nat.beq len 1)).bind fun _ => (ypi sk).bind fun i => (match i.2 with
    | .inr (.inr (.ref a)) :: r => (yki T a).bind fun c => (ygb (yisi c.1 0)).bind fun _ => yrw T c.2 pc env lo h a r i.1
    | .inr (.inr (.retAddr 0)) :: r => sc.bind fun xs => (ygb (Nat.beq i.1.1 xs.1 && yle 0 i.1.2)).bind fun _ => (ylk xs.2.2 i.1.2.toNat).bind fun v => yN (pc + 1) env lo (v :: r) h
    | _ => none)
  | .baload => (ygb (Nat.beq len 1)).bind fun _ => (ypi sk).bind fun i => (match i.2 with
    | .inr (.inr (.ref a)) :: r => (yki T a).bind fun c => (ygb (yisi c.1 1 || yisi c.1 2)).bind fun _ => yrw T c.2 pc env lo h a r i.1
    | .inr (.inr (.retAddr (n + 1))) :: r => (yc1 env i.1).bind fun c => (ygb (Nat.beq (n % 2) 1 && Nat.blt n 14 && yle 0 c && Nat.blt c.toNat (zlen.getD (n / 2) 0))).bind fun _ => yN (pc + 1) env lo (.inl (0, ((zbyt.getD (n / 2) []).getD c.toNat 0).toInt) :: r) h
    | _ => none)
  | .aaload => (ygb (Nat.beq len 1)).bind fun _ => (ypi sk).bind fun i => yidx pc env lo sk h i.1 fun ix => (ypr i.2).bind fun a => (yki T a.1).bind fun c => (ygb (zisq c.1 && yle 0 ix && Nat.blt ix.toNat c.2)).bind fun _ => (yrd T env h a.1 ix.toNat).bind fun v => yN (pc + 1) v.2.1 lo (v.1 :: a.2) v.2.2
  | .iastore => (ygb (Nat.beq len 1)).bind fun _ => (ypi sk).bind fun x => (ypi x.2).bind fun i => (ypr i.2).bind fun a => (yki T a.1).bind fun c => (ygb (yisi c.1 0)).bind fun _ => ywx T md c.2 pc env lo h a.1 a.2 i.1 x.1
  | .bastore => (ygb (Nat.beq len 1)).bind fun _ => (ypi sk).bind fun x => (ypi x.2).bind fun i => (ypr i.2).bind fun a => (yki T a.1).bind fun c => (ygb ((yisi c.1 1 && yin env x.1 (-128) 127) || (yisi c.1 2 && yin env x.1 0 1))).bind fun _ => ywx T md c.2 pc env lo h a.1 a.2 i.1 x.1
  | .getstatic i => (ygb (Nat.beq len 3 && Nat.beq mi.2.2.2.2.1 12)).bind fun _ => bif Nat.beq i 38 then yN (pc + 3) env lo (.inl (0, 1) :: sk) h else (ygb (Nat.beq i 1053)).bind fun _ => yN (pc + 3) env lo (.inr (.inr (.retAddr 20)) :: sk) h
  | .arraylength => (ygb (Nat.beq len 1)).bind fun _ => (match sk with
    | .inr (.inr (.ref a)) :: r => (yki T a).bind fun c => (ygb (zisa c.1 && Nat.blt c.2 1000)).bind fun _ => yN (pc + 1) env lo (.inl (0, c.2) :: r) h
    | .inr (.inr (.retAddr 0)) :: r => sc.bind fun xs => yN (pc + 1) env lo (.inl (xs.2.1, 0) :: r) h
    | .inr (.inr (.retAddr (n + 1))) :: r => (ygb (Nat.beq (n % 2) 1 && Nat.blt n 14 && Nat.blt (zlen.getD (n / 2) 0) 1000)).bind fun _ => yN (pc + 1) env lo (.inl (0, zlen.getD (n / 2) 0) :: r) h
    | _ => none)
  | .ireturn => (ygb (Nat.beq len 1)).bind fun _ => (ypi sk).bind fun x => (ygb (x.2.isEmpty && yrok mi.2.2.2.1 env x.1)).bind fun _ => some (.inr (.inr (some (.inl x.1))))
  | .lreturn => (ygb (Nat.beq len 1)).bind fun _ => (ypl sk).bind fun x => (ygb (x.2.isEmpty && decide (mi.2.2.2.1 = some .long))).bind fun _ => some (.inr (.inr (some (.inr (.inl x.1)))))
  | .areturn => (ygb (Nat.beq len 1)).bind fun _ => (ypx sk).bind fun x => (ygb (x.2.isEmpty && zrob mi.2.2.2.1)).bind fun _ => some (.inr (.inr (some (.inr (.inr (.retAddr x.1))))))
  | .return_ => (ygb (Nat.beq len 1 && sk.isEmpty && decide (mi.2.2.2.1 = none))).bind fun _ => some (.inr (.inr none))
  | .invokevirtual i => (ygb (Nat.beq len 3)).bind fun _ => (yzk zmls mi.2.2.2.2.1 i).bind fun q => (ygb (Nat.beq q.1 0 && Nat.blt q.2.2.1 sk.length)).bind fun _ => some (.inr (.inl (0, q.2.1, (sk.take (q.2.2.1 + 1)).reverse, sk.drop (q.2.2.1 + 1))))
  | .invokestatic i => (ygb (Nat.beq len 3)).bind fun _ => (yzk zmls mi.2.2.2.2.1 i).bind fun q => bif Nat.beq q.1 5 then (ypi sk).bind fun y => (ypi y.2).bind fun x => (ygb (Nat.ble ((x.2.map yct).sum) 8)).bind fun _ => (match ylk env x.1.1, ylk env y.1.1 with
      | some ix, some iy => yN (pc + 3) (env ++ [[(ymx (ylo ix + x.1.2) (ylo iy + y.1.2), ymx (yhi ix + x.1.2) (yhi iy + y.1.2))]]) lo (.inl (env.length, 0) :: x.2) h
      | _, _ => none) else bif Nat.beq q.1 6 then (ypi sk).bind fun y => (ypi y.2).bind fun x => (ygb (Nat.ble ((x.2.map yct).sum) 8)).bind fun _ => (match ylk env x.1.1, ylk env y.1.1 with
      | some ix, some iy => yN (pc + 3) (env ++ [[(ymn (ylo ix + x.1.2) (ylo iy + y.1.2), ymn (yhi ix + x.1.2) (yhi iy + y.1.2))]]) lo (.inl (env.length, 0) :: x.2) h
      | _, _ => none) else (ygb (Nat.beq q.1 1 && Nat.ble q.2.2.1 sk.length)).bind fun _ => some (.inr (.inl (1, q.2.1, (sk.take q.2.2.1).reverse, sk.drop q.2.2.1)))
  | i => (ygb (Nat.beq len 1)).bind fun _ => match sk with
    | .inl y :: .inl x :: r => (yb2 i env x y).bind fun v => yN (pc + 1) v.2 lo (.inl v.1 :: r) h
    | .inr (.inl y) :: .inr (.inl x) :: r => (yl2 i env x y).bind fun v => yN (pc + 1) v.2 lo (.inr (.inl v.1) :: r) h
    | _ => none
def yrcv (T : yT) (kd : Nat) (mi : zMi) (as rest : List yV) : Bool := Nat.ble ((rest.map yct).sum) 8 && Nat.ble ((as.map yct).sum) mi.2.2.1 && Nat.ble mi.2.2.1 40 && (bif Nat.beq kd 1 then true else match as with
  | .inr (.inr (.ref a)) :: _ => (match yki T a with
    | some c => yiso c.1 mi.2.2.2.2.1
    | none => false)
  | .inr (.inr (.retAddr n)) :: _ => Nat.beq mi.2.2.2.2.1 12 && Nat.beq (n % 2) 1 && Nat.blt n 15
  | _ => false)
def yags : Nat → List yV → yLo
  | _, [] => []
  | i, v :: vs => (i, v) :: yags (bif Nat.beq (yct v) 2 then i + 2 else i + 1) vs
def yun (a b : yI) : yI := match a, b with
  | [(a1, a2)], [(b1, b2)] => bif yle b1 (a2 + 1) && yle a1 (b2 + 1) then [(ymn a1 b1, ymx a2 b2)] else [(a1, a2), (b1, b2)]
  | a, b => a ++ b
def yune : List yI → List yI → List yI
  | a :: r, b :: t => (bif decide (a = b) then a else yun a b) :: yune r t
  | _, _ => []
def ynd : List yI → List yI → Nat
  | a :: r, b :: t => (bif decide (a = b) then 0 else 1) + ynd r t
  | _, _ => 0
def yisr (i : Instr) : Bool := match i with
  | .ireturn => true
  | .lreturn => true
  | .areturn => true
  | .return_ => true
  | _ => false
def yisc (i : Instr) : Bool := match i with
  | .invokevirtual _ => true
  | .invokestatic _ => true
  | _ => false
