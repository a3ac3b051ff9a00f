/-! the engine: matching, summaries, runs to cuts -/
/-- what is known of numbers: one is at least another and c; one is a difference; one was read from a row that stays as it is -/
abbrev yK : Type := (Nat × Nat × Int) ⊕ ((Nat × (Nat × Int) × (Nat × Int)) ⊕ (Nat × (Nat × Int) × Nat))
abbrev yF : Type := List yK
abbrev qS : Type := yS × yF
/-- an end: the answer, symbols, places, facts -/
abbrev qQ : Type := Option yV × List yI × yH × yF
/-- a method's summary: its number, its depth, what it may write, its arguments, symbols and places before, its ends -/
abbrev qSm : Type := Nat × Nat × yMd × (List yV × List yI × yH) × List qQ
abbrev qSg : Type := List (Option (Nat × Int))
def qsm (env : List yI) (a b : Nat × Int) : Bool := (Nat.beq a.1 b.1 && yeq a.2 b.2) || (match yc1 env a, yc1 env b with
  | some c, some d => yeq c d
  | _, _ => false)
def qb1 (env : List yI) (sg : qSg) (p x : Nat × Int) : Option qSg := bif Nat.beq p.1 0 then (match yc1 env x with
    | some c => bif yeq c p.2 then some sg else none
    | none => none) else (match ylk sg p.1 with
    | some (some y) => bif qsm env (y.1, y.2 + p.2) x then some sg else none
    | some none => some (sg.set p.1 (some (x.1, x.2 - p.2)))
    | none => none)
def qve : Value → Value → Bool
  | .ref a, .ref b => Nat.beq a b
  | .retAddr a, .retAddr b => Nat.beq a b
  | .null, .null => true
  | _, _ => false
def qbv (env : List yI) (sg : qSg) : yV → yV → Option qSg
  | .inl p, .inl x => qb1 env sg p x
  | .inr (.inl p), .inr (.inl x) => qb1 env sg p x
  | .inr (.inr w), .inr (.inr u) => bif qve w u then some sg else none
  | _, _ => none
def qbl (env : List yI) : qSg → List (yV × yV) → Option qSg
  | sg, [] => some sg
  | sg, (p, v) :: r => (qbv env sg p v).bind fun g => qbl env g r
def qpl1 (T : yT) (k i : Nat) : Bool := match yki T k with
  | some c => Nat.blt i c.2
  | none => false
def qbh (T : yT) : List yI → yH → qSg → yH → Option (qSg × List yI × yH)
  | env, h, sg, [] => some (sg, env, h)
  | env, h, sg, ((k, i), p) :: r => (ygb (qpl1 T k i)).bind fun _ => (yrd T env h k i).bind fun v => (qbv v.2.1 sg p v.1).bind fun g => qbh T v.2.1 v.2.2 g r
def qcl : qSg → Option (List (Nat × Int))
  | [] => some []
  | none :: _ => none
  | some x :: r => (qcl r).bind fun s => some (x :: s)
def qivs (env : List yI) : List (Nat × Int) → List yI → Bool
  | [], [] => true
  | x :: r, iv :: t => yvin env x iv && qivs env r t
  | _, _ => false
/-- a number is at least another and c -/
def qge (env : List yI) (F : yF) : Nat → Nat × Int → Nat × Int → Int → Bool
  | 0, _, _, _ => false
  | n + 1, x, y, c => bif Nat.beq x.1 y.1 then yle (y.2 + c) x.2 else (match ylk env x.1, ylk env y.1 with
      | some ix, some iy => yle (yhi iy + y.2 + c) (ylo ix + x.2)
      | _, _ => false) || F.any (fun f => match f with
        | .inl g => Nat.beq g.1 x.1 && qge env F n (g.2.1, x.2 + g.2.2) y c
        | _ => false)
def qfa (env : List yI) (F : yF) (s : List (Nat × Int)) : yF → Bool
  | [] => true
  | .inl (a, b, c) :: r => (match ylk s a, ylk s b with
      | some x, some y => qge env F 6 x y c
      | _, _ => false) && qfa env F s r
  | .inr _ :: _ => false
def qid (n0 m : Nat) : qSg := (List.range n0).map (fun j => some (j, 0)) ++ List.replicate (m - n0) none
def qmt (T : yT) (env : List yI) (h : yH) (F : yF) (n0 : Nat) (envb : List yI) (Fb : yF) (prs : List (yV × yV)) (hb : yH) : Option (List (Nat × Int) × List yI) := (qbl env (qid n0 envb.length) prs).bind fun sg => (qbh T env h sg hb).bind fun r => (qcl r.1).bind fun s => (ygb (qivs r.2.1 s envb && qfa r.2.1 F s Fb)).bind fun _ => some (s, r.2.1)
def qzp : List yV → List yV → Option (List (yV × yV))
  | [], [] => some []
  | a :: r, b :: t => (qzp r t).bind fun s => some ((a, b) :: s)
  | _, _ => none
def qzl (lo : yLo) : yLo → Option (List (yV × yV))
  | [] => some []
  | (k, p) :: r => (zas2 lo k).bind fun v => (qzl lo r).bind fun s => some ((p, v) :: s)
def qzo : Option yV → Option yV → Option (List (yV × yV))
  | none, none => some []
  | some a, some b => some [(a, b)]
  | _, _ => none
def yit1 (p : Int × Int) (o : Int) : yI → yI
  | [] => []
  | q :: r => bif yle (ymx p.1 (q.1 - o)) (ymn p.2 (q.2 - o)) then (ymx p.1 (q.1 - o), ymn p.2 (q.2 - o)) :: yit1 p o r else yit1 p o r
def yit : yI → Int → yI → yI
  | [], _, _ => []
  | p :: r, o, iv => yit1 p o iv ++ yit r o iv
def yie : yI → yI → Bool
  | [], [] => true
  | a :: r, b :: t => yeq a.1 b.1 && yeq a.2 b.2 && yie r t
  | _, _ => false
/-- the caller's symbols, as an end of the callee narrows them -/
def qnw : List yI → List (Nat × Int) → List yI → List yI → Option (List yI)
  | env, x :: s, a :: ps, b :: os => bif yie a b then qnw env s ps os else (yrf env x.1 (fun jv => yit jv x.2 b)).bind fun e => qnw e s ps os
  | env, _, _, _ => some env
def qml (s : List (Nat × Int)) : yV → Option yV
  | .inl p => (ylk s p.1).bind fun x => some (.inl (x.1, x.2 + p.2))
  | .inr (.inl p) => (ylk s p.1).bind fun x => some (.inr (.inl (x.1, x.2 + p.2)))
  | .inr (.inr w) => some (.inr (.inr w))
def qmo (s : List (Nat × Int)) : Option yV → Option (Option yV)
  | none => some none
  | some v => (qml s v).bind fun w => some (some w)
def qmh (s : List (Nat × Int)) : yH → Option yH
  | [] => some []
  | (k, v) :: r => (qml s v).bind fun w => (qmh s r).bind fun t => some ((k, w) :: t)
def qmf (s : List (Nat × Int)) : yF → Option yF
  | [] => some []
  | .inl (a, b, c) :: r => (ylk s a).bind fun x => (ylk s b).bind fun y => (qmf s r).bind fun t => some (.inl (x.1, y.1, c + y.2 - x.2) :: t)
  | .inr _ :: _ => none
def yfl (md : yMd) (h : yH) : yH := h.filter (fun e => !(ymd md e.1.1 e.1.2))
def yov (h : yH) : yH → yH
  | [] => h
  | e :: r => e :: yrm (yov h r) e.1.1 e.1.2
def qou1 (s : List (Nat × Int)) (env : List yI) (h : yH) (F : yF) (envp : List yI) (o : qQ) : Option (List qQ) := match qnw env s envp o.2.1 with
  | none => some []
  | some e => let s' := s ++ (List.range (o.2.1.length - envp.length)).map (fun j => (env.length + j, (0 : Int)))
    (qmo s' o.1).bind fun r => (qmh s' o.2.2.1).bind fun ho => (qmf s' o.2.2.2).bind fun Fo => some [(r, e ++ o.2.1.drop envp.length, yov h ho, Fo ++ F)]
def qous (s : List (Nat × Int)) (env : List yI) (h : yH) (F : yF) (envp : List yI) : List qQ → Option (List qQ)
  | [] => some []
  | o :: r => (qou1 s env h F envp o).bind fun a => (qous s env h F envp r).bind fun b => some (a ++ b)
def ymc (md : yMd) : yMd → Bool
  | [] => true
  | (a, b, c) :: r => ymr md a b c && ymc md r
def qap (T : yT) (md : yMd) (d : Nat) (sm : qSm) (as : List yV) (env : List yI) (h : yH) (F : yF) : Option (List qQ) := (qzp sm.2.2.2.1.1 as).bind fun prs => (qbl env (qid 1 sm.2.2.2.1.2.1.length) prs).bind fun sg => (qbh T env h sg sm.2.2.2.1.2.2).bind fun r => (qcl r.1).bind fun s => (ygb (qivs r.2.1 s sm.2.2.2.1.2.1 && Nat.blt sm.2.1 d && ymc md sm.2.2.1)).bind fun _ => qous s r.2.1 (yfl sm.2.2.1 r.2.2) F sm.2.2.2.1.2.1 sm.2.2.2.2
def qfd (T : yT) (md : yMd) (d id : Nat) (as : List yV) (env : List yI) (h : yH) (F : yF) : List qSm → Option (List qQ)
  | [] => none
  | sm :: r => bif Nat.beq sm.1 id then (match qap T md d sm as env h F with
      | some x => some x
      | none => qfd T md d id as env h F r) else qfd T md d id as env h F r
def ymem (n : Nat) : List Nat → Bool
  | [] => false
  | a :: r => bif Nat.beq a n then true else ymem n r
def qdl (x y : Nat × Int) : yF → Option Nat
  | [] => none
  | .inr (.inl (d, a, b)) :: r => bif Nat.beq a.1 x.1 && yeq a.2 x.2 && Nat.beq b.1 y.1 && yeq b.2 y.2 then some d else qdl x y r
  | _ :: r => qdl x y r
def qgl (x y : Nat) : yF → Option Int
  | [] => none
  | .inl (a, b, c) :: r => bif Nat.beq a x && Nat.beq b y then some c else qgl x y r
  | _ :: r => qgl x y r
def qtg (e : List yI) (n : Nat) : Option Int → List yI
  | none => e
  | some g => (match yrf e n (yge g) with
    | some e' => e'
    | none => e)
def qrg (env : List yI) (x y : Nat × Int) : Bool := match ylk env x.1, ylk env y.1 with
  | some ix, some iy => yle (-2147483648) (ylo ix + x.2 - (yhi iy + y.2)) && yle (yhi ix + x.2 - (ylo iy + y.2)) 2147483647
  | _, _ => false
/-- a difference, remembered -/
def qsb (env : List yI) (F : yF) (x y : Nat × Int) : Option ((Nat × Int) × List yI × yF) := match qdl x y F with
  | some d => some ((d, 0), env, F)
  | none => (ysu env x y).bind fun v => bif Nat.beq v.1.1 env.length && yeq v.1.2 0 && !(Nat.beq x.1 y.1) && qrg env x y then some (v.1, qtg v.2 env.length ((qgl x.1 y.1 F).map (fun c => c + x.2 - y.2)), .inr (.inl (v.1.1, x, y)) :: F) else some (v.1, v.2, F)
/-- what a known difference says of what was taken away -/
def qnr : yF → List yI → Option (List yI)
  | [], env => some env
  | .inr (.inl (d, x, y)) :: r, env => (match ylk env d, ylk env x.1 with
    | some iv, some ix => (yrf env y.1 (fun jv => yge (ylo ix + x.2 - yhi iv - y.2) (yls (yhi ix + x.2 - ylo iv - y.2) jv))).bind fun e => qnr r e
    | _, _ => qnr r env)
  | _ :: r, env => qnr r env
def qst1 (F : yF) (a : yS) : List (Bool × qS) := match qnr F a.2.1 with
  | none => []
  | some e => [(false, (a.1, e, a.2.2.1, a.2.2.2.1, a.2.2.2.2), F)]
def qsts (F : yF) : List yS → List (Bool × qS)
  | [] => []
  | a :: r => qst1 F a ++ qsts F r
def ymk (md : yMd) (k : Nat) : Bool := match md with
  | [] => true
  | (a, _, _) :: r => !(Nat.beq a k) && ymk r k
def qrl (a : Nat) (x : Nat × Int) : yF → Option Nat
  | [] => none
  | .inr (.inr (k, y, s)) :: r => bif Nat.beq k a && Nat.beq y.1 x.1 && yeq y.2 x.2 then some s else qrl a x r
  | _ :: r => qrl a x r
def qrh (md : yMd) (len pc : Nat) (env : List yI) (lo : yLo) (h : yH) (F : yF) (x : Nat × Int) (a : Nat) (r : List yV) (ok : Bool) : Option (List (Bool × qS)) := bif Nat.beq len 1 && ymk md a && ok then (match qrl a x F with
  | some s => some [(false, (pc + 1, env, lo, .inl (s, 0) :: r, h), F)]
  | none => none) else none
def qcf (cd : Jvm.ClassFile.Cond) (x y : Nat × Int) : Option ((Nat × Int) × (Nat × Int) × Int) := match cd with
  | .lt => some (y, x, 1)
  | .le => some (y, x, 0)
  | .gt => some (x, y, 1)
  | .ge => some (x, y, 0)
  | _ => none
def qic1 (env : List yI) (F : yF) (cd : Jvm.ClassFile.Cond) (x y : Nat × Int) (t : Nat) (lo : yLo) (r : List yV) (h : yH) : List (Bool × qS) := match (ycd cd env x y).bind fun e => qnr F e with
  | none => []
  | some e => (match qcf cd x y with
    | none => [(false, (t, e, lo, r, h), F)]
    | some g => bif qge env F 6 g.2.1 g.1 (1 - g.2.2) then [] else [(false, (t, e, lo, r, h), .inl (g.1.1, g.2.1.1, g.2.2 + g.2.1.2 - g.1.2) :: F)])
/-- a case of lcmp: what it says, and whether it can be -/
def qlp (env : List yI) (F : yF) (o : Option (List yI)) (no : Bool) (g : yF) (t : Nat) (lo : yLo) (v : Int) (r : List yV) (h : yH) : List (Bool × qS) := bif no then [] else (match o.bind fun e => qnr F e with
  | none => []
  | some e => [(false, (t, e, lo, .inl (0, v) :: r, h), g ++ F)])
def qkd (T : yT) (a : Nat) (f : (Nat ⊕ Nat) → Bool) : Bool := match yki T a with
  | some c => f c.1
  | none => false
/-- steps that look at what is known -/
def qhk (T : yT) (md : yMd) (ins : Instr) (len pc : Nat) (env : List yI) (lo : yLo) (sk : List yV) (h : yH) (F : yF) : Option (List (Bool × qS)) := match ins, sk with
  | .isub, .inl y :: .inl x :: r => bif Nat.beq len 1 then (qsb env F x y).bind fun v => some [(false, (pc + 1, v.2.1, lo, .inl v.1 :: r, h), v.2.2)] else none
  | .if_icmp cd off, .inl y :: .inl x :: r => bif Nat.beq len 3 && !(Nat.beq x.1 y.1) && !(Nat.beq x.1 0) && !(Nat.beq y.1 0) then (zjp pc off).bind fun t => some (qic1 env F cd x y t lo r h ++ qic1 env F (yng cd) x y (pc + 3) lo r h) else none
  | .lcmp, .inr (.inl y) :: .inr (.inl x) :: r => bif Nat.beq len 1 && !(Nat.beq x.1 y.1) && !(Nat.beq x.1 0) && !(Nat.beq y.1 0) then some (qlp env F (yLT env x y) (qge env F 6 x y 0) [.inl (y.1, x.1, 1 + x.2 - y.2)] (pc + 1) lo (-1) r h ++ (qlp env F (yEQ env x y) (qge env F 6 x y 1 || qge env F 6 y x 1) [.inl (x.1, y.1, y.2 - x.2), .inl (y.1, x.1, x.2 - y.2)] (pc + 1) lo 0 r h ++ qlp env F (yLT env y x) (qge env F 6 y x 0) [.inl (x.1, y.1, 1 + y.2 - x.2)] (pc + 1) lo 1 r h)) else none
  | .iaload, .inl x :: .inr (.inr (.ref a)) :: r => qrh md len pc env lo h F x a r (qkd T a (fun c => yisi c 0))
  | .baload, .inl x :: .inr (.inr (.ref a)) :: r => qrh md len pc env lo h F x a r (qkd T a (fun c => yisi c 1 || yisi c 2))
  | _, _ => none
/-- what is known after a step: what was read -/
def qmm (md : yMd) (ins : Instr) (env : List yI) (sk : List yV) (F : yF) : yF := match ins, sk with
  | .iaload, .inl x :: .inr (.inr (.ref a)) :: _ => bif (yc1 env x).isNone && ymk md a then .inr (.inr (a, x, env.length)) :: F else F
  | .baload, .inl x :: .inr (.inr (.ref a)) :: _ => bif (yc1 env x).isNone && ymk md a then .inr (.inr (a, x, env.length)) :: F else F
  | _, _ => F
/-- the topmost number, in its cases -/
def qspl (pc : Nat) (env : List yI) (lo : yLo) (sk : List yV) (h : yH) : Option (List yS) := match sk with
  | .inl x :: _ => (match yc1 env x with
    | some _ => none
    | none => (match ylk env x.1 with
      | some iv => bif yle (yhi iv - ylo iv) 63 then some (yspl pc env lo sk h x (yhi iv - ylo iv + 1).toNat (ylo iv + x.2)) else none
      | none => none))
  | _ => none
def qke : yK → yK → Bool
  | .inl a, .inl b => Nat.beq a.1 b.1 && Nat.beq a.2.1 b.2.1 && yeq a.2.2 b.2.2
  | .inr (.inl a), .inr (.inl b) => Nat.beq a.1 b.1 && Nat.beq a.2.1.1 b.2.1.1 && yeq a.2.1.2 b.2.1.2 && Nat.beq a.2.2.1 b.2.2.1 && yeq a.2.2.2 b.2.2.2
  | .inr (.inr a), .inr (.inr b) => Nat.beq a.1 b.1 && Nat.beq a.2.1.1 b.2.1.1 && yeq a.2.1.2 b.2.1.2 && Nat.beq a.2.2 b.2.2
  | _, _ => false
def qfe : yF → yF → Bool
  | [], [] => true
  | a :: r, b :: t => qke a b && qfe r t
  | _, _ => false
def qadd (o : qQ) : List (qQ ⊕ qS) → List (qQ ⊕ qS)
  | [] => [.inl o]
  | .inr a :: r => .inr a :: qadd o r
  | .inl a :: r => bif decide (a.1 = o.1) && decide (a.2.2.1 = o.2.2.1) && qfe a.2.2.2 o.2.2.2 && Nat.beq a.2.1.length o.2.1.length && Nat.ble (ynd a.2.1 o.2.1) 1 then .inl (a.1, yune a.2.1 o.2.1, a.2.2) :: r else .inl a :: qadd o r
def qret : List (qQ ⊕ qS) → Option (List qQ)
  | [] => some []
  | .inl a :: r => (qret r).bind fun t => some (a :: t)
  | .inr _ :: _ => none
def qpr (lw hg : Int) : List qQ → Bool
  | [] => true
  | o :: r => (match o.1 with
    | some (.inl x) => yin o.2.1 x lw hg
    | _ => false) && qpr lw hg r
def qrun (T : yT) (Sg : List qSm) (P : List (Nat × Int × Int)) : Nat → yMd → List Nat → List Nat → ySc → Nat → zMi → List (Bool × qS) → List (qQ ⊕ qS) → Option (List (qQ ⊕ qS))
  | 0, _, _, _, _, _, _, _, _ => none
  | _ + 1, _, _, _, _, _, _, [], outs => some outs
  | n + 1, md, ct, sp, sc, d, mi, (fr, (pc, env, lo, sk, h), F) :: ss, outs => bif (!fr) && ymem pc ct then qrun T Sg P n md ct sp sc d mi ss (.inr ((pc, env, lo, sk, h), F) :: outs) else match (bif ymem pc sp then qspl pc env lo sk h else none) with
    | some l => qrun T Sg P n md ct sp sc d mi (l.map (fun a => (true, a, F)) ++ ss) outs
    | none => (yfin mi.2.2.2.2.2 pc).bind fun q => match qhk T md q.1 q.2 pc env lo sk h F with
      | some l => qrun T Sg P n md ct sp sc d mi (l ++ ss) outs
      | none => match yst T md sc mi q.1 q.2 pc env lo sk h with
        | none => none
        | some (.inl sts) => qrun T Sg P n md ct sp sc d mi (qsts (qmm md q.1 env sk F) sts ++ ss) outs
        | some (.inr (.inr r)) => (ygb (yisr q.1)).bind fun _ => qrun T Sg P n md ct sp sc d mi ss (qadd (r, env, h, F) outs)
        | some (.inr (.inl c)) => (ylk zms c.2.1).bind fun mi' => (ygb (yisc q.1 && yrcv T c.1 mi' c.2.2.1 c.2.2.2 && Nat.blt 1 d)).bind fun _ => match qfd T md d c.2.1 c.2.2.1 env h F Sg with
          | some os => qrun T Sg P n md ct sp sc d mi (os.map (fun o => (false, (pc + 3, o.2.1, lo, o.1.toList ++ c.2.2.2, o.2.2.1), o.2.2.2)) ++ ss) outs
          | none => match zas2 P c.2.1 with
            | some b => (qrun T Sg P n [] [] [] none (d - 1) mi' [(true, (0, env, yags 0 c.2.2.1, [], h), [])] []).bind fun os => (qret os).bind fun rs => (ygb (qpr b.1 b.2 rs)).bind fun _ => qrun T Sg P n md ct sp sc d mi ((false, (pc + 3, env ++ [[b]], lo, .inl (env.length, 0) :: c.2.2.2, h), F) :: ss) outs
            | none => (qrun T Sg P n md [] [] none (d - 1) mi' [(true, (0, env, yags 0 c.2.2.1, [], h), F)] []).bind fun os => (qret os).bind fun rs => qrun T Sg P n md ct sp sc d mi (rs.map (fun o => (false, (pc + 3, o.2.1, lo, o.1.toList ++ c.2.2.2, o.2.2.1), o.2.2.2)) ++ ss) outs
/-- what falls: up to K (false) or down to K (true) -/
abbrev yRk : Type := List (Bool × Int × (Nat × Int))
/-- a cut: a state, facts, what falls -/
abbrev qCt : Type := yS × yF × yRk
def qrk (env : List yI) (F : yF) (s : List (Nat × Int)) : yRk → yRk → Bool
  | (n', K', y) :: r, (n, K, x) :: t => (match ylk s y.1, ylk env x.1 with
      | some g, some ix => bif n then n' && ((yle (K + 1) (ylo ix + x.2) && qge env F 6 x (g.1, g.2 + y.2) (K - K' + 1)) || (Nat.beq g.1 x.1 && yeq (g.2 + y.2 - K') (x.2 - K) && qrk env F s r t)) else !n' && ((yle (yhi ix + x.2 + 1) K && qge env F 6 (g.1, g.2 + y.2) x (K' - K + 1)) || (Nat.beq g.1 x.1 && yeq (K' - (g.2 + y.2)) (K - x.2) && qrk env F s r t))
      | _, _ => false)
  | _, _ => false
def qrk0 (env : List yI) (F : yF) (s : List (Nat × Int)) (b : yRk) : Option yRk → Bool
  | none => true
  | some a => qrk env F s b a
def qtoc (T : yT) (n0 : Nat) (a : qS) (rk : Option yRk) (c : qCt) : Bool := Nat.beq a.1.1 c.1.1 && (match (qzl a.1.2.2.1 c.1.2.2.1).bind fun p1 => (qzp c.1.2.2.2.1 a.1.2.2.2.1).bind fun p2 => qmt T a.1.2.1 a.1.2.2.2.2 a.2 n0 c.1.2.1 c.2.1 (p1 ++ p2) c.1.2.2.2.2 with
  | some r => qrk0 r.2 a.2 r.1 c.2.2 rk
  | none => false)
def qtoo (T : yT) (n0 : Nat) (a o : qQ) : Bool := match (qzo o.1 a.1).bind fun p1 => qmt T a.2.1 a.2.2.1 a.2.2.2 n0 o.2.1 o.2.2.2 p1 o.2.2.1 with
  | some _ => true
  | none => false
def qto (T : yT) (n0 : Nat) (cuts : List qCt) (ends : List qQ) (rk : Option yRk) : qQ ⊕ qS → Bool
  | .inl a => ends.any (qtoo T n0 a)
  | .inr a => cuts.any (qtoc T n0 a rk)
/-- the run from a method's entry, or from a cut of it, comes to its cuts and ends alone -/
def qck0 (T : yT) (Sg : List qSm) (P : List (Nat × Int × Int)) (n : Nat) (sp : List Nat) (cuts : List qCt) (sm : qSm) : Bool := match (ylk zms sm.1).bind fun mi => qrun T Sg P n sm.2.2.1 (cuts.map (fun c => c.1.1)) sp none sm.2.1 mi [(true, (0, sm.2.2.2.1.2.1, yags 0 sm.2.2.2.1.1, [], sm.2.2.2.1.2.2), [])] [] with
  | some os => os.all (qto T sm.2.2.2.1.2.1.length cuts sm.2.2.2.2 none)
  | none => false
def qck1 (T : yT) (Sg : List qSm) (P : List (Nat × Int × Int)) (n : Nat) (sp : List Nat) (cuts : List qCt) (sm : qSm) (c : qCt) : Bool := match (ylk zms sm.1).bind fun mi => qrun T Sg P n sm.2.2.1 (cuts.map (fun c => c.1.1)) sp none sm.2.1 mi [(true, c.1, c.2.1)] [] with
  | some os => os.all (qto T sm.2.2.2.1.2.1.length cuts sm.2.2.2.2 (some c.2.2))
  | none => false
