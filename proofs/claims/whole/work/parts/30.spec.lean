/-! what the document asks, over lists: the tape, the registers, the pad -/
abbrev XSt : Type := List Int32 × (Nat → List Int32) × Int32
def isR (r : Int32) : Bool := decide (0 ≤ r.toInt ∧ r.toInt < 10)
def sR (S : XSt) (r : Int32) : List Int32 := S.2.1 r.toInt.toNat
def sPut (S : XSt) (r : Int32) (M : List Int32) : XSt := (S.1, va_up S.2.1 r.toInt.toNat M, S.2.2)
def sMk (S : XSt) (to : Int32) (M : List Int32) : Int32 × XSt := if 200 < M.length then (-4, S) else (nI M.length, sPut S to M)
def sp_feed (S : XSt) (a b c d e : Int32) : Int32 × XSt := if 240 < S.1.length + 20 then (-4, S) else (nI (S.1.length + 20), (S.1 ++ fb a ++ fb b ++ fb c ++ fb d ++ fb e, S.2))
def sp_end (S : XSt) (n : Int32) : Int32 × XSt := if n.toInt < 0 ∨ S.1.length < n.toInt then (-1, S) else (n, (S.1.take n.toInt.toNat, S.2))
def sp_put (S : XSt) (r : Int32) : Int32 × XSt := if isR r = false then (-1, S) else if 200 < S.1.length then (-4, S) else (nI S.1.length, ([], va_up S.2.1 r.toInt.toNat S.1, S.2.2))
def sp_at (S : XSt) (r i : Int32) : Int32 := if isR r then rg (sR S r) i (-1) else -1
def sp_size (S : XSt) (r : Int32) : Int32 := if isR r then nI (sR S r).length else -1
def sp_pad (S : XSt) (p : Int32) : Int32 × XSt := if 0 ≤ p.toInt ∧ p.toInt < 256 then (S.2.2, (S.1, S.2.1, p)) else (-1, S)
def m_fill (p : Int32) (L : List Int32) (way : Int32) (n : Nat) : List Int32 :=
  let less := L.length - n
  let more := n - L.length
  let cut := if way = 0 then 0 else if way = 1 then less else less / 2
  let ah := if way = 0 then 0 else if way = 1 then more else more / 2
  List.replicate ah p ++ (L.drop cut).take n ++ List.replicate (more - ah) p
def sp_fill (S : XSt) (way a n to : Int32) : Int32 × XSt := if isR a && isR to && decide (0 ≤ way.toInt ∧ way.toInt ≤ 2 ∧ 0 ≤ n.toInt) then sMk S to (m_fill S.2.2 (sR S a) way n.toInt.toNat) else (-1, S)
def m_part (p : Int32) (L : List Int32) (k : Nat) (n : Int) : List Int32 := if n = -1 then L.drop k else (L.drop k).take n.toNat ++ List.replicate (n.toNat - ((L.drop k).take n.toNat).length) p
def sp_part (S : XSt) (a k n to : Int32) : Int32 × XSt := if isR a && isR to && decide (1 ≤ k.toInt ∧ -1 ≤ n.toInt) then sMk S to (m_part S.2.2 (sR S a) (k.toInt.toNat - 1) n.toInt) else (-1, S)
def m_cut (L : List Int32) (k : Nat) (n : Int) : List Int32 := L.take k ++ (if n = -1 then [] else L.drop (k + n.toNat))
def sp_cut (S : XSt) (a k n to : Int32) : Int32 × XSt := if isR a && isR to && decide (1 ≤ k.toInt ∧ -1 ≤ n.toInt) then sMk S to (m_cut (sR S a) (k.toInt.toNat - 1) n.toInt) else (-1, S)
def sp_join (S : XSt) (a b w to : Int32) : Int32 × XSt := if isR a && isR b && isR to && decide (0 ≤ w.toInt) then sMk S to (sR S a ++ List.replicate w.toInt.toNat S.2.2 ++ sR S b) else (-1, S)
def sp_copies (S : XSt) (a n to : Int32) : Int32 × XSt := if isR a && isR to && decide (0 ≤ n.toInt) then sMk S to (List.replicate n.toInt.toNat (sR S a)).flatten else (-1, S)
def m_set (p : Int32) (A B : List Int32) (n : Nat) (over : Int32) : List Int32 := B.take n ++ List.replicate (n - B.length) p ++ A ++ B.drop (if over = 0 then n else n + A.length)
def sp_set (S : XSt) (a b n over to : Int32) : Int32 × XSt := if isR a && isR b && isR to && decide (0 ≤ n.toInt) then sMk S to (m_set S.2.2 (sR S a) (sR S b) n.toInt.toNat over) else (-1, S)
/-- the first place (from 1) from k on among n, the last below n; 0 if none -/
def ff (P : Nat → Bool) : Nat → Nat → Nat
  | 0, _ => 0
  | n + 1, k => if P k then k + 1 else ff P n (k + 1)
def fl (P : Nat → Bool) : Nat → Nat
  | 0 => 0
  | n + 1 => if P n then n + 1 else fl P n
def stands (A B : List Int32) (q : Nat) : Bool := !A.isEmpty && A.isPrefixOf (B.drop q)
def sp_find (S : XSt) (a b k last : Int32) : Int32 :=
  if isR a && isR b && (decide (1 ≤ k.toInt) || (decide (k.toInt = -1) && decide (last ≠ 0))) then
    let A := sR S a
    let B := sR S b
    let e := if k.toInt = -1 ∨ (B.length : Int) < k.toInt then B.length else k.toInt.toNat
    if last = 0 then nI (ff (stands A B) (B.length - (k.toInt.toNat - 1)) (k.toInt.toNat - 1)) else nI (fl (stands A B) (e + 1 - A.length))
  else -1
def chg (A C : List Int32) : Nat → List Int32 → List Int32
  | 0, _ => []
  | _ + 1, [] => []
  | n + 1, b :: t => if stands A (b :: t) 0 then C ++ chg A C n ((b :: t).drop A.length) else b :: chg A C n t
def cnt (A : List Int32) : Nat → List Int32 → Nat
  | 0, _ => 0
  | _ + 1, [] => 0
  | n + 1, b :: t => if stands A (b :: t) 0 then 1 + cnt A n ((b :: t).drop A.length) else cnt A n t
def sp_change (S : XSt) (a b c to : Int32) : Int32 × XSt := if isR a && isR b && isR c && isR to then sMk S to (chg (sR S a) (sR S c) (sR S b).length (sR S b)) else (-1, S)
def sp_often (S : XSt) (a b : Int32) : Int32 := if isR a && isR b then nI (cnt (sR S a) (sR S b).length (sR S b)) else -1
def sp_unlike (S : XSt) (a b : Int32) : Int32 := if isR a && isR b then nI (ff (fun q => decide (((sR S a)[q]?).getD S.2.2 ≠ ((sR S b)[q]?).getD S.2.2)) (max (sR S a).length (sR S b).length) 0) else -1
def m_strip (p : Int32) (L : List Int32) (ends : Int32) : List Int32 :=
  let L1 := if ends = 2 then L else L.dropWhile (fun b => b == p)
  if ends = 1 then L1 else (L1.reverse.dropWhile (fun b => b == p)).reverse
def sp_strip (S : XSt) (a ends to : Int32) : Int32 × XSt := if isR a && isR to && decide (0 ≤ ends.toInt ∧ ends.toInt ≤ 2) then sMk S to (m_strip S.2.2 (sR S a) ends) else (-1, S)
def up1 (c : Int32) : Int32 := if 97 ≤ c ∧ c ≤ 122 then c - 32 else c
def lo1 (c : Int32) : Int32 := if 65 ≤ c ∧ c ≤ 90 then c + 32 else c
def once : List Int32 → List Int32 → List Int32
  | _, [] => []
  | seen, b :: t => if b ∈ seen then once seen t else b :: once (b :: seen) t
def m_turn (L : List Int32) (how : Int32) : List Int32 :=
  if how = 0 then L.reverse else if how = 1 then L.map up1 else if how = 2 then L.map lo1 else if how = 3 then (List.range 256).flatMap (fun c => List.replicate (L.count (nI c)) (nI c)) else once [] L
def sp_turn (S : XSt) (how a to : Int32) : Int32 × XSt := if isR a && isR to && decide (0 ≤ how.toInt ∧ how.toInt ≤ 4) then sMk S to (m_turn (sR S a) how) else (-1, S)
def tr1 (p : Int32) (B C : List Int32) (b : Int32) : Int32 := match C.findIdx? (fun c => c == b) with
  | none => b
  | some q => (B[q]?).getD p
def sp_translate (S : XSt) (a b c to : Int32) : Int32 × XSt := if isR a && isR b && isR c && isR to then sMk S to ((sR S a).map (tr1 S.2.2 (sR S b) (sR S c))) else (-1, S)
def sp_verify (S : XSt) (a b k other : Int32) : Int32 := if isR a && isR b && decide (1 ≤ k.toInt) then nI (ff (fun q => decide ((sR S a).getD q 0 ∈ sR S b) != decide (other ≠ 0)) ((sR S a).length - (k.toInt.toNat - 1)) (k.toInt.toNat - 1)) else -1
/-- words: their begins, and the end of what begins at p -/
def wb (L : List Int32) (q : Nat) : Bool := decide (L.getD q 32 ≠ 32) && (q == 0 || decide (L.getD (q - 1) 32 = 32))
def wst (L : List Int32) : List Nat := (List.range L.length).filter (wb L)
def wen (L : List Int32) (p : Nat) : Nat := p + ((L.drop p).takeWhile (fun b => decide (b ≠ 32))).length
def wat (L : List Int32) (k : Nat) : List Int32 := (L.drop ((wst L).getD k L.length)).takeWhile (fun b => decide (b ≠ 32))
def m_space (p : Int32) (L : List Int32) (n : Nat) : List Int32 := (List.range (wst L).length).flatMap (fun k => (if k = 0 then [] else List.replicate n p) ++ wat L k)
def sp_space (S : XSt) (a n to : Int32) : Int32 × XSt := if isR a && isR to && decide (0 ≤ n.toInt) then sMk S to (m_space S.2.2 (sR S a) n.toInt.toNat) else (-1, S)
def sp_words (S : XSt) (a : Int32) : Int32 := if isR a then nI (wst (sR S a)).length else -1
def sp_word (S : XSt) (a k what : Int32) : Int32 := if isR a && decide (1 ≤ k.toInt ∧ 0 ≤ what.toInt ∧ what.toInt ≤ 1) then
    (if (wst (sR S a)).length < k.toInt.toNat then 0 else if what = 0 then nI ((wst (sR S a)).getD (k.toInt.toNat - 1) 0 + 1) else nI (wat (sR S a) (k.toInt.toNat - 1)).length) else -1
def m_some (L : List Int32) (k : Nat) (n : Int) (without : Int32) : List Int32 :=
  let w := (wst L).length
  let f := min k w
  let b := if n = -1 then w else min (f + n.toNat) w
  let s := fun i => (wst L).getD i L.length
  if without = 0 then (if f < b then (L.take (wen L (s (b - 1)))).drop (s f) else []) else L.take (s f) ++ L.drop (s b)
def sp_some (S : XSt) (a k n without to : Int32) : Int32 × XSt := if isR a && isR to && decide (1 ≤ k.toInt ∧ -1 ≤ n.toInt) then sMk S to (m_some (sR S a) (k.toInt.toNat - 1) n.toInt without) else (-1, S)
