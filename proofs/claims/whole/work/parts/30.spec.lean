/-! What the calls answer and do, as functions of plain values: the class and the reference are both held against these. -/
/-- how long a subsequence two texts share -/
def sp_lcg (x : Nat) (f : List Nat → Nat) : List Nat → Nat
  | [] => 0
  | y :: ys => if x = y then f ys + 1 else if f (y :: ys) ≥ sp_lcg x f ys then f (y :: ys) else sp_lcg x f ys
def sp_lcs : List Nat → List Nat → Nat
  | [] => fun _ => 0
  | x :: xs => sp_lcg x (sp_lcs xs)
/-- the line that each line of the first text is matched with; j: the number of the second text's first line here -/
def sp_mtg (x : Nat) (xs : List Nat) (f : List Nat → Nat → List (Option Nat)) : List Nat → Nat → List (Option Nat)
  | [], j => none :: f [] j
  | y :: ys, j => if x = y then some j :: f ys (j + 1) else if sp_lcs xs (y :: ys) ≥ sp_lcs (x :: xs) ys then none :: f (y :: ys) j else sp_mtg x xs f ys (j + 1)
def sp_mt : List Nat → List Nat → Nat → List (Option Nat)
  | [] => fun _ _ => []
  | x :: xs => sp_mtg x xs (sp_mt xs)
/-- the side that changed -/
def sp_take (o a b : List Nat) : Option (List Nat) := if a = o then some b else if b = o ∨ b = a then some a else none
def sp_sl (l : List Nat) (i k : Nat) : List Nat := (l.drop i).take (k - i)
/-- the pieces from line k of o on: r lines are left; i, p, q: where the piece begins in o, a, b -/
def sp_go (o a b : List Nat) (ma mb : List (Option Nat)) : Nat → Nat → Nat → Nat → Nat → List Nat → Option (List Nat)
  | 0, k, i, p, q, acc => (sp_take (sp_sl o i k) (sp_sl a p a.length) (sp_sl b q b.length)).map (acc ++ ·)
  | r + 1, k, i, p, q, acc => match ma.getD k none, mb.getD k none with
    | some x, some y => (sp_take (sp_sl o i k) (sp_sl a p x) (sp_sl b q y)).bind fun t => sp_go o a b ma mb r (k + 1) (k + 1) (x + 1) (y + 1) (acc ++ t ++ [o.getD k 0])
    | _, _ => sp_go o a b ma mb r (k + 1) i p q acc
def sp_unite (o a b : List Nat) : Option (List Nat) := (sp_go o a b (sp_mt o a 0) (sp_mt o b 0) o.length 0 0 0 0 []).bind fun t => if t.length ≤ 8 then some t else none
/-- a file's text, or none; none outside: a clash -/
def sp_file (o a b : Option (List Nat)) : Option (Option (List Nat)) := if a = o then some b else if b = o ∨ b = a then some a else match o, a, b with
  | some o, some a, some b => (sp_unite o a b).map some
  | _, _, _ => none
abbrev sp_T : Type := Nat → Option (List Nat)
/-- four files -/
def sp_snap (o a b : sp_T) : Option sp_T := match sp_file (o 0) (a 0) (b 0), sp_file (o 1) (a 1) (b 1), sp_file (o 2) (a 2) (b 2), sp_file (o 3) (a 3) (b 3) with
  | some x0, some x1, some x2, some x3 => some (fun f => if f = 0 then x0 else if f = 1 then x1 else if f = 2 then x2 else x3)
  | _, _, _, _ => none
/-- the commits: how many, their texts (4 c + file), first and second parents, what each reaches (a set of bits) -/
abbrev sp_H : Type := Nat × sp_T × (Nat → Option Nat) × (Nat → Option Nat) × (Nat → Nat)
/-- a repository: tips, current branch, held commits, working and staged texts -/
abbrev sp_R : Type := (Nat → Option Nat) × Nat × Nat × sp_T × sp_T
abbrev sp_S : Type := sp_H × (Nat → sp_R)
abbrev sp_n (H : sp_H) : Nat := H.1
abbrev sp_tx (H : sp_H) : sp_T := H.2.1
abbrev sp_p1 (H : sp_H) : Nat → Option Nat := H.2.2.1
abbrev sp_p2 (H : sp_H) : Nat → Option Nat := H.2.2.2.1
abbrev sp_rr (H : sp_H) : Nat → Nat := H.2.2.2.2
abbrev sp_tip (R : sp_R) : Nat → Option Nat := R.1
abbrev sp_cur (R : sp_R) : Nat := R.2.1
abbrev sp_held (R : sp_R) : Nat := R.2.2.1
abbrev sp_wk (R : sp_R) : sp_T := R.2.2.2.1
abbrev sp_ix (R : sp_R) : sp_T := R.2.2.2.2
def sp_up {α : Type} (f : Nat → α) (k : Nat) (v : α) : Nat → α := fun j => if j = k then v else f j
def sp_of (H : sp_H) (c : Option Nat) (f : Nat) : Option (List Nat) := match c with
  | none => none
  | some k => sp_tx H (4 * k + f)
def sp_ro (H : sp_H) (c : Option Nat) : Nat := match c with
  | none => 0
  | some k => sp_rr H k
def sp_head (R : sp_R) : Option Nat := sp_tip R (sp_cur R)
def sp_eq4 (a b : sp_T) : Bool := decide (a 0 = b 0 ∧ a 1 = b 1 ∧ a 2 = b 2 ∧ a 3 = b 3)
def sp_clean (H : sp_H) (R : sp_R) : Bool := sp_eq4 (sp_of H (sp_head R)) (sp_wk R) && sp_eq4 (sp_of H (sp_head R)) (sp_ix R)
def sp_add (H : sp_H) (t : sp_T) (p1 p2 : Option Nat) : sp_H := (sp_n H + 1, (fun j => if 4 * sp_n H ≤ j ∧ j < 4 * sp_n H + 4 then t (j - 4 * sp_n H) else sp_tx H j), sp_up (sp_p1 H) (sp_n H) p1, sp_up (sp_p2 H) (sp_n H) p2, sp_up (sp_rr H) (sp_n H) (2 ^ sp_n H ||| sp_ro H p1 ||| sp_ro H p2))
def sp_mv (H : sp_H) (R : sp_R) (c : Nat) : sp_R := (sp_up (sp_tip R) (sp_cur R) (some c), sp_cur R, sp_held R ||| sp_rr H c, sp_of H (some c), sp_of H (some c))
def sp_set (S : sp_S) (r : Nat) (R : sp_R) : sp_S := (S.1, sp_up S.2 r R)
/-- an index below N -/
def sp_in (N : Nat) (x : Int32) : Option Nat := if 0 ≤ x.toInt ∧ x.toInt < (N : Int) then some x.toInt.toNat else none
def sp_vi (c : Option Nat) : Int32 := match c with
  | none => -2
  | some k => nI k
def sp_bi (b : Bool) : Int32 := if b then 1 else 0
/-- a text's number: its lines, four bits each, below its length at bit 32 -/
def sp_dig : List Nat → Nat
  | [] => 0
  | d :: ds => d + 16 * sp_dig ds
def sp_enc (t : List Nat) : Nat := t.length * 4294967296 + sp_dig t
def sp_tv (t : Option (List Nat)) : Int64 := match t with
  | none => -2
  | some t => lN (sp_enc t)
/-- the lines of a number, k of them -/
def sp_dec (m : Nat) : Nat → List Nat
  | 0 => []
  | k + 1 => m % 16 :: sp_dec (m / 16) k
def sp_write (S : sp_S) (x y : Int32) (m : Nat) (z : Int32) : Int32 × sp_S := match sp_in 2 x, sp_in 4 y, sp_in 9 z with
  | some r, some f, some k => (1, sp_set S r (sp_tip (S.2 r), sp_cur (S.2 r), sp_held (S.2 r), sp_up (sp_wk (S.2 r)) f (some (sp_dec m k)), sp_ix (S.2 r)))
  | _, _, _ => (0, S)
def sp_remove (S : sp_S) (x y : Int32) : Int32 × sp_S := match sp_in 2 x, sp_in 4 y with
  | some r, some f => (1, sp_set S r (sp_tip (S.2 r), sp_cur (S.2 r), sp_held (S.2 r), sp_up (sp_wk (S.2 r)) f none, sp_ix (S.2 r)))
  | _, _ => (0, S)
def sp_stage (S : sp_S) (x y : Int32) : Int32 × sp_S := match sp_in 2 x, sp_in 4 y with
  | some r, some f => (1, sp_set S r (sp_tip (S.2 r), sp_cur (S.2 r), sp_held (S.2 r), sp_wk (S.2 r), sp_up (sp_ix (S.2 r)) f (sp_wk (S.2 r) f)))
  | _, _ => (0, S)
def sp_commit (S : sp_S) (x : Int32) : Int32 × sp_S := match sp_in 2 x with
  | some r => if sp_eq4 (sp_of S.1 (sp_head (S.2 r))) (sp_ix (S.2 r)) then (-4, S) else if 40 ≤ sp_n S.1 then (-6, S) else
    (nI (sp_n S.1), sp_add S.1 (sp_ix (S.2 r)) (sp_head (S.2 r)) none, sp_up S.2 r (sp_up (sp_tip (S.2 r)) (sp_cur (S.2 r)) (some (sp_n S.1)), sp_cur (S.2 r), sp_held (S.2 r) ||| 2 ^ sp_n S.1, sp_wk (S.2 r), sp_ix (S.2 r)))
  | none => (-1, S)
def sp_branch (S : sp_S) (x y : Int32) : Int32 × sp_S := match sp_in 2 x, sp_in 4 y with
  | some r, some b => if sp_tip (S.2 r) b ≠ none ∨ sp_head (S.2 r) = none then (0, S) else (1, sp_set S r (sp_up (sp_tip (S.2 r)) b (sp_head (S.2 r)), sp_cur (S.2 r), sp_held (S.2 r), sp_wk (S.2 r), sp_ix (S.2 r)))
  | _, _ => (0, S)
def sp_drop (S : sp_S) (x y : Int32) : Int32 × sp_S := match sp_in 2 x, sp_in 4 y with
  | some r, some b => if sp_tip (S.2 r) b = none ∨ sp_cur (S.2 r) = b then (0, S) else (1, sp_set S r (sp_up (sp_tip (S.2 r)) b none, sp_cur (S.2 r), sp_held (S.2 r), sp_wk (S.2 r), sp_ix (S.2 r)))
  | _, _ => (0, S)
def sp_checkout (S : sp_S) (x y : Int32) : Int32 × sp_S := match sp_in 2 x, sp_in 4 y with
  | some r, some b => match sp_tip (S.2 r) b with
    | none => (-2, S)
    | some c => if sp_clean S.1 (S.2 r) then (nI c, sp_set S r (sp_mv S.1 (sp_tip (S.2 r), b, sp_held (S.2 r), sp_wk (S.2 r), sp_ix (S.2 r)) c)) else (-3, S)
  | _, _ => (-1, S)
/-- the lowest commit that both reach and that no other such reaches -/
def sp_best (H : sp_H) (both c : Nat) : Bool := both.testBit c && (List.range (sp_n H)).all (fun d => d == c || !both.testBit d || !(sp_rr H d).testBit c)
def sp_base (H : sp_H) (a b : Option Nat) : Option Nat := (List.range (sp_n H)).find? (sp_best H (sp_ro H a &&& sp_ro H b))
def sp_merge (S : sp_S) (x y : Int32) : Int32 × sp_S := match sp_in 2 x, sp_in 4 y with
  | some r, some b => match sp_tip (S.2 r) b, sp_head (S.2 r) with
    | some o, some h => if !sp_clean S.1 (S.2 r) then (-3, S) else if (sp_rr S.1 h).testBit o then (-4, S) else if (sp_rr S.1 o).testBit h then (nI o, sp_set S r (sp_mv S.1 (S.2 r) o)) else
      match sp_snap (sp_of S.1 (sp_base S.1 (some h) (some o))) (sp_of S.1 (some h)) (sp_of S.1 (some o)) with
      | none => (-5, S)
      | some t => if 40 ≤ sp_n S.1 then (-6, S) else (nI (sp_n S.1), sp_add S.1 t (some h) (some o), sp_up S.2 r (sp_mv (sp_add S.1 t (some h) (some o)) (S.2 r) (sp_n S.1)))
    | _, _ => (-2, S)
  | _, _ => (-1, S)
/-- what doing commit c again on the texts t gives: none: a clash; some none: nothing; some (some u): the texts u -/
def sp_again (H : sp_H) (c : Nat) (t : sp_T) : Option (Option sp_T) := match sp_snap (sp_of H (sp_p1 H c)) t (sp_of H (some c)) with
  | none => none
  | some u => if sp_eq4 u t then some none else some (some u)
def sp_pick (S : sp_S) (x y : Int32) : Int32 × sp_S := match sp_in 2 x with
  | none => (-1, S)
  | some r => match sp_in (sp_n S.1) y, sp_head (S.2 r) with
    | some c, some h => if !(sp_held (S.2 r)).testBit c then (-2, S) else if !sp_clean S.1 (S.2 r) then (-3, S) else if sp_p2 S.1 c ≠ none then (-4, S) else
      match sp_again S.1 c (sp_of S.1 (some h)) with
      | none => (-5, S)
      | some none => (-4, S)
      | some (some t) => if 40 ≤ sp_n S.1 then (-6, S) else (nI (sp_n S.1), sp_add S.1 t (some h) none, sp_up S.2 r (sp_mv (sp_add S.1 t (some h) none) (S.2 r) (sp_n S.1)))
    | _, _ => (-2, S)
/-- the commits of a set from c on are done again, k commits are looked at: an answer below 0, or the texts of the new commits in their order -/
def sp_replay (H : sp_H) (todo : Nat) : Nat → Nat → sp_T → List sp_T → Int32 ⊕ List sp_T
  | 0, _, _, acc => .inr acc
  | k + 1, c, t, acc => if todo.testBit c ∧ sp_p2 H c = none then
      match sp_again H c t with
      | none => .inl (-5)
      | some none => sp_replay H todo k (c + 1) t acc
      | some (some u) => if 40 ≤ sp_n H + acc.length then .inl (-6) else sp_replay H todo k (c + 1) u (acc ++ [u])
    else sp_replay H todo k (c + 1) t acc
/-- new commits, one behind the other -/
def sp_adds (H : sp_H) (onto : Option Nat) : List sp_T → sp_H × Option Nat
  | [] => (H, onto)
  | t :: ts => sp_adds (sp_add H t onto none) (some (sp_n H)) ts
def sp_rebase (S : sp_S) (x y : Int32) : Int32 × sp_S := match sp_in 2 x, sp_in 4 y with
  | some r, some b => match sp_tip (S.2 r) b, sp_head (S.2 r) with
    | some o, some h => if !sp_clean S.1 (S.2 r) then (-3, S) else
      match sp_replay S.1 (sp_rr S.1 h &&& (sp_rr S.1 h ^^^ sp_rr S.1 o)) (sp_n S.1) 0 (sp_of S.1 (some o)) [] with
      | .inl e => (e, S)
      | .inr ts => (nI ts.length, (sp_adds S.1 (some o) ts).1, sp_up S.2 r (sp_mv (sp_adds S.1 (some o) ts).1 (S.2 r) (if ts.length = 0 then o else sp_n S.1 + ts.length - 1)))
    | _, _ => (-2, S)
  | _, _ => (-1, S)
def sp_all (H : sp_H) (R : sp_R) : Nat := sp_ro H (sp_tip R 0) ||| sp_ro H (sp_tip R 1) ||| sp_ro H (sp_tip R 2) ||| sp_ro H (sp_tip R 3)
def sp_collect (S : sp_S) (x : Int32) : Int32 × sp_S := match sp_in 2 x with
  | some r => (nI (xp_cnt (sp_held (S.2 r)) 64 - xp_cnt (sp_held (S.2 r) &&& sp_all S.1 (S.2 r)) 64), sp_set S r (sp_tip (S.2 r), sp_cur (S.2 r), sp_held (S.2 r) &&& sp_all S.1 (S.2 r), sp_wk (S.2 r), sp_ix (S.2 r)))
  | none => (-1, S)
def sp_send (S : sp_S) (x y : Int32) : Int32 × sp_S := match sp_in 2 x, sp_in 4 y with
  | some r, some b => match sp_tip (S.2 r) b with
    | none => (-2, S)
    | some c => if sp_cur (S.2 (1 - r)) = b then (-3, S) else if sp_tip (S.2 (1 - r)) b ≠ none ∧ ¬ (sp_rr S.1 c).testBit ((sp_tip (S.2 (1 - r)) b).getD 0) then (-7, S) else
      (nI (xp_cnt (sp_held (S.2 (1 - r)) ||| sp_rr S.1 c) 64 - xp_cnt (sp_held (S.2 (1 - r))) 64), sp_set S (1 - r) (sp_up (sp_tip (S.2 (1 - r))) b (some c), sp_cur (S.2 (1 - r)), sp_held (S.2 (1 - r)) ||| sp_rr S.1 c, sp_wk (S.2 (1 - r)), sp_ix (S.2 (1 - r))))
  | _, _ => (-1, S)
def sp_current (S : sp_S) (x : Int32) : Int32 := match sp_in 2 x with
  | some r => nI (sp_cur (S.2 r))
  | none => -1
def sp_tipq (S : sp_S) (x y : Int32) : Int32 := match sp_in 2 x, sp_in 4 y with
  | some r, some b => sp_vi (sp_tip (S.2 r) b)
  | _, _ => -1
def sp_holds (S : sp_S) (x y : Int32) : Int32 := match sp_in 2 x, sp_in (sp_n S.1) y with
  | some r, some c => sp_bi ((sp_held (S.2 r)).testBit c)
  | _, _ => 0
def sp_parent (S : sp_S) (x y : Int32) : Int32 := match sp_in (sp_n S.1) x, sp_in 2 y with
  | some c, some k => sp_vi (if k = 0 then sp_p1 S.1 c else sp_p2 S.1 c)
  | _, _ => -1
def sp_text (S : sp_S) (x y : Int32) : Int64 := match sp_in (sp_n S.1) x, sp_in 4 y with
  | some c, some f => sp_tv (sp_tx S.1 (4 * c + f))
  | _, _ => -1
def sp_working (S : sp_S) (x y : Int32) : Int64 := match sp_in 2 x, sp_in 4 y with
  | some r, some f => sp_tv (sp_wk (S.2 r) f)
  | _, _ => -1
def sp_staged (S : sp_S) (x y : Int32) : Int64 := match sp_in 2 x, sp_in 4 y with
  | some r, some f => sp_tv (sp_ix (S.2 r) f)
  | _, _ => -1
def sp_baseq (S : sp_S) (x y : Int32) : Int32 := match sp_in (sp_n S.1) x, sp_in (sp_n S.1) y with
  | some a, some b => sp_vi (sp_base S.1 (some a) (some b))
  | _, _ => -1
