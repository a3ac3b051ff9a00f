/-! the engine: matching, summaries, runs to cuts -/
abbrev yF : Type := List (Nat × Nat × Int)
abbrev yD : Type := List (Nat × (Nat × Int) × (Nat × Int))
abbrev qS : Type := yS × yF × yD
/-- an end: the answer, symbols, places, facts -/
abbrev qQ : Type := Option yV × List yI × yH × yF
/-- a method's summary: its number, its depth, what it may write, its arguments, symbols and places before, its ends -/
abbrev qSm : Type := Nat × Nat × yMd × (List yV × List yI × yH) × List qQ
abbrev qSg : Type := List (Option (Nat × Int))
def qsm (env : List yI) (a b : Nat × Int) : Bool := (Nat.beq a.1 b.1 && yeq a.2 b.2) || (match yc1 env a, yc1 env b with
  | some c, some d => yeq c d
  | _, _ => false)
def qb1 (env : List yI) (sg : qSg) (p x : Nat × Int) : Option qSg := bif Nat.beq p.1 0 then (match yc1 env x with
    | some c => bif yeq c p.2 then some sg else none
    | none => none) else (match ylk sg p.1 with
    | some (some y) => bif qsm env (y.1, y.2 + p.2) x then some sg else none
    | some none => some (sg.set p.1 (some (x.1, x.2 - p.2)))
    | none => none)
def qve : Value → Value → Bool
  | .ref a, .ref b => Nat.beq a b
  | .retAddr a, .retAddr b => Nat.beq a b
  | .null, .null => true
  | _, _ => false
def qbv (env : List yI) (sg : qSg) : yV → yV → Option qSg
  | .inl p, .inl x => qb1 env sg p x
  | .inr (.inl p), .inr (.inl x) => qb1 env sg p x
  | .inr (.inr w), .inr (.inr u) => bif qve w u then some sg else none
  | _, _ => none
def qbl (env : List yI) : qSg → List (yV × yV) → Option qSg
  | sg, [] => some sg
  | sg, (p, v) :: r => (qbv env sg p v).bind fun g => qbl env g r
def qpl1 (T : yT) (k i : Nat) : Bool := match yki T k with
  | some c => Nat.blt i c.2
  | none => false
def qbh (T : yT) : List yI → yH → qSg → yH → Option (qSg × List yI × yH)
  | env, h, sg, [] => some (sg, env, h)
  | env, h, sg, ((k, i), p) :: r => (ygb (qpl1 T k i)).bind fun _ => (yrd T env h k i).bind fun v => (qbv v.2.1 sg p v.1).bind fun g => qbh T v.2.1 v.2.2 g r
def qcl : qSg → Option (List (Nat × Int))
  | [] => some []
  | none :: _ => none
  | some x :: r => (qcl r).bind fun s => some (x :: s)
def qivs (env : List yI) : List (Nat × Int) → List yI → Bool
  | [], [] => true
  | x :: r, iv :: t => yvin env x iv && qivs env r t
  | _, _ => false
/-- a number is at least another and c -/
def qge (env : List yI) (F : yF) : Nat → Nat × Int → Nat × Int → Int → Bool
  | 0, _, _, _ => false
  | n + 1, x, y, c => bif Nat.beq x.1 y.1 then yle (y.2 + c) x.2 else (match ylk env x.1, ylk env y.1 with
      | some ix, some iy => yle (yhi iy + y.2 + c) (ylo ix + x.2)
      | _, _ => false) || F.any (fun f => Nat.beq f.1 x.1 && qge env F n (f.2.1, x.2 + f.2.2) y c)
def qfa (env : List yI) (F : yF) (s : List (Nat × Int)) : yF → Bool
  | [] => true
  | (a, b, c) :: r => (match ylk s a, ylk s b with
      | some x, some y => qge env F 6 x y c
      | _, _ => false) && qfa env F s r
def qid (n0 m : Nat) : qSg := (List.range n0).map (fun j => some (j, 0)) ++ List.replicate (m - n0) none
def qmt (T : yT) (env : List yI) (h : yH) (F : yF) (n0 : Nat) (envb : List yI) (Fb : yF) (prs : List (yV × yV)) (hb : yH) : Option (List (Nat × Int) × List yI) := (qbl env (qid n0 envb.length) prs).bind fun sg => (qbh T env h sg hb).bind fun r => (qcl r.1).bind fun s => (ygb (qivs r.2.1 s envb && qfa r.2.1 F s Fb)).bind fun _ => some (s, r.2.1)
def qzp : List yV → List yV → Option (List (yV × yV))
  | [], [] => some []
  | a :: r, b :: t => (qzp r t).bind fun s => some ((a, b) :: s)
  | _, _ => none
def qzl (lo : yLo) : yLo → Option (List (yV × yV))
  | [] => some []
  | (k, p) :: r => (zas2 lo k).bind fun v => (qzl lo r).bind fun s => some ((p, v) :: s)
def qzo : Option yV → Option yV → Option (List (yV × yV))
  | none, none => some []
  | some a, some b => some [(a, b)]
  | _, _ => none
def yit1 (p : Int × Int) (o : Int) : yI → yI
  | [] => []
  | q :: r => bif yle (ymx p.1 (q.1 - o)) (ymn p.2 (q.2 - o)) then (ymx p.1 (q.1 - o), ymn p.2 (q.2 - o)) :: yit1 p o r else yit1 p o r
def yit : yI → Int → yI → yI
  | [], _, _ => []
  | p :: r, o, iv => yit1 p o iv ++ yit r o iv
def yie : yI → yI → Bool
  | [], [] => true
  | a :: r, b :: t => yeq a.1 b.1 && yeq a.2 b.2 && yie r t
  | _, _ => false
/-- the caller's symbols, as an end of the callee narrows them -/
def qnw : List yI → List (Nat × Int) → List yI → List yI → Option (List yI)
  | env, x :: s, a :: ps, b :: os => bif yie a b then qnw env s ps os else (yrf env x.1 (fun jv => yit jv x.2 b)).bind fun e => qnw e s ps os
  | env, _, _, _ => some env
def qml (s : List (Nat × Int)) : yV → Option yV
  | .inl p => (ylk s p.1).bind fun x => some (.inl (x.1, x.2 + p.2))
  | .inr (.inl p) => (ylk s p.1).bind fun x => some (.inr (.inl (x.1, x.2 + p.2)))
  | .inr (.inr w) => some (.inr (.inr w))
def qmo (s : List (Nat × Int)) : Option yV → Option (Option yV)
  | none => some none
  | some v => (qml s v).bind fun w => some (some w)
def qmh (s : List (Nat × Int)) : yH → Option yH
  | [] => some []
  | (k, v) :: r => (qml s v).bind fun w => (qmh s r).bind fun t => some ((k, w) :: t)
def qmf (s : List (Nat × Int)) : yF → Option yF
  | [] => some []
  | (a, b, c) :: r => (ylk s a).bind fun x => (ylk s b).bind fun y => (qmf s r).bind fun t => some ((x.1, y.1, c + y.2 - x.2) :: t)
def yfl (md : yMd) (h : yH) : yH := h.filter (fun e => !(ymd md e.1.1 e.1.2))
def yov (h : yH) : yH → yH
  | [] => h
  | e :: r => e :: yrm (yov h r) e.1.1 e.1.2
def qou1 (s : List (Nat × Int)) (env : List yI) (h : yH) (F : yF) (envp : List yI) (o : qQ) : Option (List qQ) := match qnw env s envp o.2.1 with
  | none => some []
  | some e => let s' := s ++ (List.range (o.2.1.length - envp.length)).map (fun j => (env.length + j, (0 : Int)))
    (qmo s' o.1).bind fun r => (qmh s' o.2.2.1).bind fun ho => (qmf s' o.2.2.2).bind fun Fo => some [(r, e ++ o.2.1.drop envp.length, yov h ho, Fo ++ F)]
def qous (s : List (Nat × Int)) (env : List yI) (h : yH) (F : yF) (envp : List yI) : List qQ → Option (List qQ)
  | [] => some []
  | o :: r => (qou1 s env h F envp o).bind fun a => (qous s env h F envp r).bind fun b => some (a ++ b)
def ymc (md : yMd) : yMd → Bool
  | [] => true
  | (a, b, c) :: r => ymr md a b c && ymc md r
def qap (T : yT) (md : yMd) (d : Nat) (sm : qSm) (as : List yV) (env : List yI) (h : yH) (F : yF) : Option (List qQ) := (qzp sm.2.2.2.1.1 as).bind fun prs => (qbl env (qid 1 sm.2.2.2.1.2.1.length) prs).bind fun sg => (qbh T env h sg sm.2.2.2.1.2.2).bind fun r => (qcl r.1).bind fun s => (ygb (qivs r.2.1 s sm.2.2.2.1.2.1 && Nat.blt sm.2.1 d && ymc md sm.2.2.1)).bind fun _ => qous s r.2.1 (yfl sm.2.2.1 r.2.2) F sm.2.2.2.1.2.1 sm.2.2.2.2
def qfd (T : yT) (md : yMd) (d id : Nat) (as : List yV) (env : List yI) (h : yH) (F : yF) : List qSm → Option (List qQ)
  | [] => none
  | sm :: r => bif Nat.beq sm.1 id then (match qap T md d sm as env h F with
      | some x => some x
      | none => qfd T md d id as env h F r) else qfd T md d id as env h F r
def ymem (n : Nat) : List Nat → Bool
  | [] => false
  | a :: r => bif Nat.beq a n then true else ymem n r
def qdl (x y : Nat × Int) : yD → Option Nat
  | [] => none
  | (d, a, b) :: r => bif Nat.beq a.1 x.1 && yeq a.2 x.2 && Nat.beq b.1 y.1 && yeq b.2 y.2 then some d else qdl x y r
/-- a difference, remembered -/
def qsb (env : List yI) (D : yD) (x y : Nat × Int) : Option ((Nat × Int) × List yI × yD) := match qdl x y D with
  | some d => some ((d, 0), env, D)
  | none => (ysu env x y).bind fun v => some (v.1, v.2, bif Nat.beq v.1.1 env.length && yeq v.1.2 0 && (match ylk env x.1, ylk env y.1 with
    | some ix, some iy => yle (-2147483648) (ylo ix + x.2 - (yhi iy + y.2)) && yle (yhi ix + x.2 - (ylo iy + y.2)) 2147483647
    | _, _ => false) then (v.1.1, x, y) :: D else D)
def qnr : yD → List yI → Option (List yI)
  | [], env => some env
  | (d, x, y) :: r, env => (match ylk env d, ylk env x.1 with
    | some iv, some ix => (yrf env y.1 (fun jv => yge (ylo ix + x.2 - yhi iv - y.2) (yls (yhi ix + x.2 - ylo iv - y.2) jv))).bind fun e => qnr r e
    | _, _ => some env)
def qst1 (F : yF) (D : yD) (a : yS) : List (Bool × qS) := match D with
  | [] => [(false, a, F, [])]
  | q :: r => (match qnr (q :: r) a.2.1 with
    | none => []
    | some e => [(false, (a.1, e, a.2.2.1, a.2.2.2.1, a.2.2.2.2), F, q :: r)])
def qsts (F : yF) (D : yD) : List yS → List (Bool × qS)
  | [] => []
  | a :: r => qst1 F D a ++ qsts F D r
def qsbc (i : Instr) (sk : List yV) : Option ((Nat × Int) × (Nat × Int) × List yV) := match i, sk with
  | .isub, .inl y :: .inl x :: r => some (x, y, r)
  | _, _ => none
/-- the topmost number, in its cases -/
def qspl (pc : Nat) (env : List yI) (lo : yLo) (sk : List yV) (h : yH) : Option (List yS) := match sk with
  | .inl x :: _ => (match yc1 env x with
    | some _ => none
    | none => (match ylk env x.1 with
      | some iv => bif yle (yhi iv - ylo iv) 63 then some (yspl pc env lo sk h x (yhi iv - ylo iv + 1).toNat (ylo iv + x.2)) else none
      | none => none))
  | _ => none
def qadd (o : qQ) : List (qQ ⊕ qS) → List (qQ ⊕ qS)
  | [] => [.inl o]
  | .inr a :: r => .inr a :: qadd o r
  | .inl a :: r => bif decide (a.1 = o.1) && decide (a.2.2 = o.2.2) && Nat.beq a.2.1.length o.2.1.length && Nat.ble (ynd a.2.1 o.2.1) 1 then .inl (a.1, yune a.2.1 o.2.1, a.2.2) :: r else .inl a :: qadd o r
def qret : List (qQ ⊕ qS) → Option (List qQ)
  | [] => some []
  | .inl a :: r => (qret r).bind fun t => some (a :: t)
  | .inr _ :: _ => none
def qpr (lw hg : Int) : List qQ → Bool
  | [] => true
  | o :: r => (match o.1 with
    | some (.inl x) => yin o.2.1 x lw hg
    | _ => false) && qpr lw hg r
def qrun (T : yT) (Sg : List qSm) (P : List (Nat × Int × Int)) : Nat → yMd → List Nat → List Nat → ySc → Nat → zMi → List (Bool × qS) → List (qQ ⊕ qS) → Option (List (qQ ⊕ qS))
  | 0, _, _, _, _, _, _, _, _ => none
  | _ + 1, _, _, _, _, _, _, [], outs => some outs
  | n + 1, md, ct, sp, sc, d, mi, (fr, (pc, env, lo, sk, h), F, D) :: ss, outs => bif (!fr) && ymem pc ct then qrun T Sg P n md ct sp sc d mi ss (.inr ((pc, env, lo, sk, h), F, D) :: outs) else match (bif ymem pc sp then qspl pc env lo sk h else none) with
    | some l => qrun T Sg P n md ct sp sc d mi (l.map (fun a => (true, a, F, D)) ++ ss) outs
    | none => (yfin mi.2.2.2.2.2 pc).bind fun q => match qsbc q.1 sk with
      | some w => (ygb (Nat.beq q.2 1)).bind fun _ => (qsb env D w.1 w.2.1).bind fun v => qrun T Sg P n md ct sp sc d mi ((false, (pc + 1, v.2.1, lo, .inl v.1 :: w.2.2, h), F, v.2.2) :: ss) outs
      | none => match yst T md sc mi q.1 q.2 pc env lo sk h with
        | none => none
        | some (.inl sts) => qrun T Sg P n md ct sp sc d mi (qsts F D sts ++ ss) outs
        | some (.inr (.inr r)) => (ygb (yisr q.1)).bind fun _ => qrun T Sg P n md ct sp sc d mi ss (qadd (r, env, h, F) outs)
        | some (.inr (.inl c)) => (ylk zms c.2.1).bind fun mi' => (ygb (yisc q.1 && yrcv T c.1 mi' c.2.2.1 c.2.2.2 && Nat.blt 1 d)).bind fun _ => match qfd T md d c.2.1 c.2.2.1 env h F Sg with
          | some os => qrun T Sg P n md ct sp sc d mi (os.map (fun o => (false, (pc + 3, o.2.1, lo, o.1.toList ++ c.2.2.2, o.2.2.1), o.2.2.2, D)) ++ ss) outs
          | none => match zas2 P c.2.1 with
            | some b => (qrun T Sg P n [] [] [] none (d - 1) mi' [(true, (0, env, yags 0 c.2.2.1, [], h), F, [])] []).bind fun os => (qret os).bind fun rs => (ygb (qpr b.1 b.2 rs)).bind fun _ => qrun T Sg P n md ct sp sc d mi ((false, (pc + 3, env ++ [[b]], lo, .inl (env.length, 0) :: c.2.2.2, h), F, D) :: ss) outs
            | none => (qrun T Sg P n md [] [] none (d - 1) mi' [(true, (0, env, yags 0 c.2.2.1, [], h), F, [])] []).bind fun os => (qret os).bind fun rs => qrun T Sg P n md ct sp sc d mi (rs.map (fun o => (false, (pc + 3, o.2.1, lo, o.1.toList ++ c.2.2.2, o.2.2.1), o.2.2.2, D)) ++ ss) outs
/-- a cut: a state, facts, what falls -/
abbrev qCt : Type := yS × yF × List (Int × (Nat × Int))
def qrk (env : List yI) (F : yF) (s : List (Nat × Int)) : List (Int × (Nat × Int)) → List (Int × (Nat × Int)) → Bool
  | (K', y) :: r, (K, x) :: t => (match ylk s y.1, ylk env x.1 with
      | some g, some ix => (yle (yhi ix + x.2 + 1) K && qge env F 6 (g.1, g.2 + y.2) x (K' - K + 1)) || (Nat.beq g.1 x.1 && yeq (K' - (g.2 + y.2)) (K - x.2) && qrk env F s r t)
      | _, _ => false)
  | _, _ => false
def qrk0 (env : List yI) (F : yF) (s : List (Nat × Int)) (b : List (Int × (Nat × Int))) : Option (List (Int × (Nat × Int))) → Bool
  | none => true
  | some a => qrk env F s b a
def qtoc (T : yT) (n0 : Nat) (a : qS) (rk : Option (List (Int × (Nat × Int)))) (c : qCt) : Bool := Nat.beq a.1.1 c.1.1 && (match (qzl a.1.2.2.1 c.1.2.2.1).bind fun p1 => (qzp c.1.2.2.2.1 a.1.2.2.2.1).bind fun p2 => qmt T a.1.2.1 a.1.2.2.2.2 a.2.1 n0 c.1.2.1 c.2.1 (p1 ++ p2) c.1.2.2.2.2 with
  | some r => qrk0 r.2 a.2.1 r.1 c.2.2 rk
  | none => false)
def qtoo (T : yT) (n0 : Nat) (a o : qQ) : Bool := match (qzo o.1 a.1).bind fun p1 => qmt T a.2.1 a.2.2.1 a.2.2.2 n0 o.2.1 o.2.2.2 p1 o.2.2.1 with
  | some _ => true
  | none => false
def qto (T : yT) (n0 : Nat) (cuts : List qCt) (ends : List qQ) (rk : Option (List (Int × (Nat × Int)))) : qQ ⊕ qS → Bool
  | .inl a => ends.any (qtoo T n0 a)
  | .inr a => cuts.any (qtoc T n0 a rk)
/-- the run from a method's entry, or from a cut of it, comes to its cuts and ends alone -/
def qck0 (T : yT) (Sg : List qSm) (P : List (Nat × Int × Int)) (n : Nat) (sp : List Nat) (cuts : List qCt) (sm : qSm) : Bool := match (ylk zms sm.1).bind fun mi => qrun T Sg P n sm.2.2.1 (cuts.map (fun c => c.1.1)) sp none sm.2.1 mi [(true, (0, sm.2.2.2.1.2.1, yags 0 sm.2.2.2.1.1, [], sm.2.2.2.1.2.2), [], [])] [] with
  | some os => os.all (qto T sm.2.2.2.1.2.1.length cuts sm.2.2.2.2 none)
  | none => false
def qck1 (T : yT) (Sg : List qSm) (P : List (Nat × Int × Int)) (n : Nat) (sp : List Nat) (cuts : List qCt) (sm : qSm) (c : qCt) : Bool := match (ylk zms sm.1).bind fun mi => qrun T Sg P n sm.2.2.1 (cuts.map (fun c => c.1.1)) sp none sm.2.1 mi [(true, c.1, c.2.1, [])] [] with
  | some os => os.all (qto T sm.2.2.2.1.2.1.length cuts sm.2.2.2.2 (some c.2.2))
  | none => false
