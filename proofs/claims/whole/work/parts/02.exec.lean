/-! A small machine of my own over a plain memory: what a method does, step by step, as a function. 03.sound shows that the Java machine does the same. -/
abbrev AV : Type := Int ⊕ Int ⊕ Option Nat
abbrev hSh : Type := Option (Nat ⊕ (Nat × Nat))
/-- cells, slots made, what stands at an address, numbers, references -/
abbrev hM : Type := Nat × Nat × (Nat → hSh) × (Nat → Nat → Int) × (Nat → Nat → Option Nat)
abbrev hOp : Type := Nat × Nat × Int × List Int
abbrev hLs : Type := List (Option AV)
abbrev vI (z : Int) : AV := Sum.inl z
abbrev vL (z : Int) : AV := Sum.inr (Sum.inl z)
abbrev vR (r : Option Nat) : AV := Sum.inr (Sum.inr r)
def mT (σ : hM) : Nat → hSh := σ.2.2.1
def mI (σ : hM) : Nat → Nat → Int := σ.2.2.2.1
def mR (σ : hM) : Nat → Nat → Option Nat := σ.2.2.2.2
def up2 {α : Type} (f : Nat → Nat → α) (a k : Nat) (x : α) : Nat → Nat → α := fun b j => if b = a ∧ j = k then x else f b j
def sI (σ : hM) (a k : Nat) (x : Int) : hM := (σ.1, σ.2.1, σ.2.2.1, up2 σ.2.2.2.1 a k x, σ.2.2.2.2)
def sR (σ : hM) (a k : Nat) (x : Option Nat) : hM := (σ.1, σ.2.1, σ.2.2.1, σ.2.2.2.1, up2 σ.2.2.2.2 a k x)
def sN (σ : hM) (sh : Nat ⊕ (Nat × Nat)) (w : Nat) : hM := (σ.1 + 1, σ.2.1 + w, (fun b => if b = σ.1 then some sh else mT σ b), (fun b j => if b = σ.1 then 0 else mI σ b j), (fun b j => if b = σ.1 then none else mR σ b j))
/-! numbers -/
def w32 (z : Int) : Int := z.bmod 4294967296
def w64 (z : Int) : Int := z.bmod 18446744073709551616
def sb8 (z : Int) : Int := (Int32.ofInt z).toInt8.toInt32.toInt
def ch16 (z : Int) : Int := ((Int32.ofInt z).toUInt32 % 65536).toInt32.toInt
def div32 (x y : Int) : Int := (Int32.ofInt x / Int32.ofInt y).toInt
def rem32 (x y : Int) : Int := (Int32.ofInt x - Int32.ofInt x / Int32.ofInt y * Int32.ofInt y).toInt
def and32 (x y : Int) : Int := (Int32.ofInt x &&& Int32.ofInt y).toInt
def or32 (x y : Int) : Int := (Int32.ofInt x ||| Int32.ofInt y).toInt
def xor32 (x y : Int) : Int := (Int32.ofInt x ^^^ Int32.ofInt y).toInt
def shl32 (x y : Int) : Int := (Int32.ofInt x <<< (Int32.ofInt y &&& 31)).toInt
def shr32 (x y : Int) : Int := (Int32.ofInt x >>> (Int32.ofInt y &&& 31)).toInt
def div64 (x y : Int) : Int := (Int64.ofInt x / Int64.ofInt y).toInt
def rem64 (x y : Int) : Int := (Int64.ofInt x - Int64.ofInt x / Int64.ofInt y * Int64.ofInt y).toInt
def and64 (x y : Int) : Int := (Int64.ofInt x &&& Int64.ofInt y).toInt
def or64 (x y : Int) : Int := (Int64.ofInt x ||| Int64.ofInt y).toInt
def xor64 (x y : Int) : Int := (Int64.ofInt x ^^^ Int64.ofInt y).toInt
def shl64 (x y : Int) : Int := (Int64.ofInt x <<< ((Int32.ofInt y).toInt64 &&& 63)).toInt
def shr64 (x y : Int) : Int := (Int64.ofInt x >>> ((Int32.ofInt y).toInt64 &&& 63)).toInt
def cmp64 (x y : Int) : Int := if y < x then 1 else if x = y then 0 else -1
def hIB (k : Nat) (x y : Int) : Int := match k with
  | 0 => w32 (x + y) | 1 => w32 (x - y) | 2 => w32 (x * y) | 3 => div32 x y | 4 => rem32 x y | 5 => and32 x y | 6 => or32 x y | 7 => xor32 x y | 8 => shl32 x y | _ => shr32 x y
def hLB (k : Nat) (x y : Int) : Int := match k with
  | 0 => w64 (x + y) | 1 => w64 (x - y) | 2 => w64 (x * y) | 3 => div64 x y | 4 => rem64 x y | 5 => and64 x y | 6 => or64 x y | _ => xor64 x y
def hLH (k : Nat) (x y : Int) : Int := match k with
  | 0 => shl64 x y | _ => shr64 x y
def hcmp (k : Nat) (x y : Int) : Prop := match k with
  | 0 => x = y | 1 => ¬ x = y | 2 => x < y | 3 => y ≤ x | 4 => y < x | _ => x ≤ y
def hcmpB (k : Nat) (x y : Int) : Bool := match k with
  | 0 => decide (x = y) | 1 => decide (¬ x = y) | 2 => decide (x < y) | 3 => decide (y ≤ x) | 4 => decide (y < x) | _ => decide (x ≤ y)
theorem hcmpB_iff (k : Nat) (x y : Int) : hcmpB k x y = true ↔ hcmp k x y := by
  unfold hcmpB hcmp
  split <;> simp
/-! locals -/
def hkl (la : hLs) (i : Nat) : hLs := match i with
  | 0 => la
  | j + 1 => match la.getD j none with
    | some (Sum.inr (Sum.inl _)) => la.set j none
    | _ => la
def hsto (la : hLs) (i : Nat) (v : AV) : hLs := match v with
  | Sum.inr (Sum.inl _) => ((hkl la i).set i (some v)).set (i + 1) none
  | _ => (hkl la i).set i (some v)
def hwd (v : AV) : Nat := match v with
  | Sum.inr (Sum.inl _) => 2
  | _ => 1
def hent : List AV → hLs
  | [] => []
  | Sum.inr (Sum.inl z) :: l => some (vL z) :: none :: hent l
  | v :: l => some v :: hent l
def hpad (l : hLs) (n : Nat) : hLs := l ++ List.replicate (n - l.length) none
/-! memory checks -/
def hIsO (σ : hM) (r : Option Nat) (c : Nat) : Bool := match r with
  | none => false
  | some a => decide (mT σ a = some (Sum.inl c))
def hak (ty t : Nat) : Bool := if ty = 10 then decide (10 ≤ t) else decide (t = ty)
def hIsA (σ : hM) (r : Option Nat) (ty : Nat) (j : Int) : Bool := match r with
  | none => false
  | some a => match mT σ a with
    | some (Sum.inr (t, len)) => hak ty t && (decide (0 ≤ j) && decide (j < len))
    | _ => false
def hLen (σ : hM) (r : Option Nat) : Nat := match r with
  | none => 0
  | some a => match mT σ a with
    | some (Sum.inr (_, len)) => len
    | _ => 0
def hHas (σ : hM) (r : Option Nat) : Bool := match r with
  | none => false
  | some a => match mT σ a with
    | some (Sum.inr _) => true
    | _ => false
/-- whether a reference may be put into an array of references -/
def hFit (σ : hM) (r v : Option Nat) : Bool := match v with
  | none => true
  | some b => match mT σ (r.getD 0) with
    | some (Sum.inr (t, _)) => decide (mT σ b = some (Sum.inl (t - 10)))
    | _ => false
def hld (σ : hM) (k : Nat) (a j : Nat) : AV := if k = 4 then vR (mR σ a j) else if k = 3 then vL (mI σ a j) else vI (mI σ a j)
/-- a boolean is 0 or 1 -/
def h01 (z : Int) : Bool := decide (z = 0) || decide (z = 1)
abbrev hNx : Type := Nat × hLs × List AV × hM
abbrev hCl : Type := Nat × List AV × Nat × hLs × List AV
def hif {α : Type} (b : Bool) (x : Option α) : Option α := if b = true then x else none
/-- one step: where it goes on, or whom it calls, or what it answers -/
def hstep (N0 : Nat) (E : Nat → AV) (d y : Nat) (op : hOp) (nx : Nat) (ls : hLs) (st : List AV) (σ : hM) : Option (hNx ⊕ (hCl ⊕ Option AV)) :=
  match op with
  | (0, _, b, _) => some (.inl (nx, ls, vI b :: st, σ))
  | (1, _, b, _) => some (.inl (nx, ls, vL b :: st, σ))
  | (2, _, _, _) => some (.inl (nx, ls, vR none :: st, σ))
  | (3, i, k, _) => match ls.getD i none with
    | some (Sum.inl z) => hif (decide (k = 0)) (some (.inl (nx, ls, vI z :: st, σ)))
    | some (Sum.inr (Sum.inl z)) => hif (decide (k = 1)) (some (.inl (nx, ls, vL z :: st, σ)))
    | some (Sum.inr (Sum.inr r)) => hif (decide (k = 2)) (some (.inl (nx, ls, vR r :: st, σ)))
    | none => none
  | (4, i, k, _) => match st with
    | Sum.inl z :: r => hif (decide (k = 0)) (some (.inl (nx, hsto ls i (vI z), r, σ)))
    | Sum.inr (Sum.inl z) :: r => hif (decide (k = 1)) (some (.inl (nx, hsto ls i (vL z), r, σ)))
    | Sum.inr (Sum.inr q) :: r => hif (decide (k = 2)) (some (.inl (nx, hsto ls i (vR q), r, σ)))
    | [] => none
  | (5, i, b, _) => match ls.getD i none with
    | some (Sum.inl z) => some (.inl (nx, hsto ls i (vI (w32 (z + b))), st, σ))
    | _ => none
  | (6, _, _, _) => match st with
    | v :: r => hif (decide (hwd v = 1)) (some (.inl (nx, ls, v :: v :: r, σ)))
    | [] => none
  | (7, _, _, _) => match st with
    | v :: r => hif (decide (hwd v = 1)) (some (.inl (nx, ls, r, σ)))
    | [] => none
  | (8, _, _, _) => match st with
    | u :: v :: r => hif (decide (hwd u = 1) && decide (hwd v = 1)) (some (.inl (nx, ls, u :: v :: u :: v :: r, σ)))
    | _ => none
  | (9, _, _, _) => match st with
    | v :: r => hif (decide (hwd v = 2)) (some (.inl (nx, ls, r, σ)))
    | [] => none
  | (10, k, _, _) => match st with
    | Sum.inl v :: Sum.inl u :: r => hif (decide (¬ ((k = 3 ∨ k = 4) ∧ v = 0))) (some (.inl (nx, ls, vI (hIB k u v) :: r, σ)))
    | _ => none
  | (11, k, _, _) => match st with
    | Sum.inr (Sum.inl v) :: Sum.inr (Sum.inl u) :: r => hif (decide (¬ ((k = 3 ∨ k = 4) ∧ v = 0))) (some (.inl (nx, ls, vL (hLB k u v) :: r, σ)))
    | _ => none
  | (12, k, _, _) => match st with
    | Sum.inl v :: Sum.inr (Sum.inl u) :: r => some (.inl (nx, ls, vL (hLH k u v) :: r, σ))
    | _ => none
  | (13, _, _, _) => match st with
    | Sum.inl u :: r => some (.inl (nx, ls, vI (w32 (-u)) :: r, σ))
    | _ => none
  | (14, _, _, _) => match st with
    | Sum.inl u :: r => some (.inl (nx, ls, vL u :: r, σ))
    | _ => none
  | (15, _, _, _) => match st with
    | Sum.inr (Sum.inl u) :: r => some (.inl (nx, ls, vI (w32 u) :: r, σ))
    | _ => none
  | (16, _, _, _) => match st with
    | Sum.inl u :: r => some (.inl (nx, ls, vI (sb8 u) :: r, σ))
    | _ => none
  | (17, _, _, _) => match st with
    | Sum.inr (Sum.inl v) :: Sum.inr (Sum.inl u) :: r => some (.inl (nx, ls, vI (cmp64 u v) :: r, σ))
    | _ => none
  | (18, k, t, _) => match st with
    | Sum.inl u :: r => some (.inl (bif hcmpB k u 0 then t.toNat else nx, ls, r, σ))
    | _ => none
  | (19, k, t, _) => match st with
    | Sum.inl v :: Sum.inl u :: r => some (.inl (bif hcmpB k u v then t.toNat else nx, ls, r, σ))
    | _ => none
  | (20, k, t, _) => match st with
    | Sum.inr (Sum.inr q) :: r => some (.inl (bif (q.isNone == (k == 0)) then t.toNat else nx, ls, r, σ))
    | _ => none
  | (21, k, t, _) => match st with
    | Sum.inr (Sum.inr q) :: Sum.inr (Sum.inr p) :: r => hif (decide (N0 ≤ q.getD N0) && decide (N0 ≤ p.getD N0)) (some (.inl (bif (decide (p = q) == (k == 0)) then t.toNat else nx, ls, r, σ)))
    | _ => none
  | (22, _, t, _) => some (.inl (t.toNat, ls, st, σ))
  | (23, dflt, low, tg) => match st with
    | Sum.inl u :: r => some (.inl (if u < low ∨ low + tg.length ≤ u then dflt else (tg.getD (u - low).toNat 0).toNat, ls, r, σ))
    | _ => none
  | (24, c, k, _) => match st with
    | Sum.inr (Sum.inr r) :: rest => hif (hIsO σ r c) (some (.inl (nx, ls, hld σ (hFd c k.toNat).2.2.1 (r.getD 0) k.toNat :: rest, σ)))
    | _ => none
  | (25, c, k, _) => match st with
    | Sum.inl z :: Sum.inr (Sum.inr r) :: rest => hif (hIsO σ r c && decide (N0 ≤ r.getD 0) && (decide ((hFd c k.toNat).2.2.1 = 0) || decide ((hFd c k.toNat).2.2.1 = 2) && h01 z)) (some (.inl (nx, ls, rest, sI σ (r.getD 0) k.toNat z)))
    | Sum.inr (Sum.inl z) :: Sum.inr (Sum.inr r) :: rest => hif (hIsO σ r c && decide (N0 ≤ r.getD 0) && decide ((hFd c k.toNat).2.2.1 = 3)) (some (.inl (nx, ls, rest, sI σ (r.getD 0) k.toNat z)))
    | Sum.inr (Sum.inr v) :: Sum.inr (Sum.inr r) :: rest => hif (hIsO σ r c && decide (N0 ≤ r.getD 0) && decide ((hFd c k.toNat).2.2.1 = 4)) (some (.inl (nx, ls, rest, sR σ (r.getD 0) k.toNat v)))
    | _ => none
  | (26, ty, _, _) => match st with
    | Sum.inl j :: Sum.inr (Sum.inr r) :: rest => hif (hIsA σ r ty j) (some (.inl (nx, ls, hld σ (if ty = 10 then 4 else ty) (r.getD 0) j.toNat :: rest, σ)))
    | _ => none
  | (27, ty, _, _) => match st with
    | Sum.inl z :: Sum.inl j :: Sum.inr (Sum.inr r) :: rest => hif (hIsA σ r ty j && decide (N0 ≤ r.getD 0) && (decide (ty = 0) || decide (ty = 1) || decide (ty = 2) && h01 z)) (some (.inl (nx, ls, rest, sI σ (r.getD 0) j.toNat (if ty = 1 then sb8 z else z))))
    | Sum.inr (Sum.inl z) :: Sum.inl j :: Sum.inr (Sum.inr r) :: rest => hif (hIsA σ r ty j && decide (N0 ≤ r.getD 0) && decide (ty = 3)) (some (.inl (nx, ls, rest, sI σ (r.getD 0) j.toNat z)))
    | Sum.inr (Sum.inr v) :: Sum.inl j :: Sum.inr (Sum.inr r) :: rest => hif (hIsA σ r ty j && decide (N0 ≤ r.getD 0) && decide (ty = 10) && hFit σ r v) (some (.inl (nx, ls, rest, sR σ (r.getD 0) j.toNat v)))
    | _ => none
  | (28, _, _, _) => match st with
    | Sum.inr (Sum.inr r) :: rest => hif (hHas σ r) (some (.inl (nx, ls, vI (hLen σ r) :: rest, σ)))
    | _ => none
  | (29, c, w, _) => some (.inl (nx, ls, vR (some σ.1) :: st, sN σ (Sum.inl c) w.toNat))
  | (30, ty, _, _) => match st with
    | Sum.inl z :: r => hif (decide (0 ≤ z) && decide (z ≤ 1000000)) (some (.inl (nx, ls, vR (some σ.1) :: r, sN σ (Sum.inr (ty, z.toNat)) z.toNat)))
    | _ => none
  | (31, y1, _, _) => hif (decide (hmN y1 ≤ st.length) && (decide (((st.drop (hmN y1)).map hwd).sum ≤ 8) || (decide (hmK y1 = 1) && decide (((st.drop (hmN y1)).map hwd).sum ≤ 10))) && decide ((hent (st.take (hmN y1)).reverse).length ≤ hmL y1) && (decide (hmK y1 = 0) || (match (st.take (hmN y1)).reverse with
      | Sum.inr (Sum.inr r) :: _ => hIsO σ r (hmO y1)
      | _ => false))) (some (.inr (.inl (y1, (st.take (hmN y1)).reverse, nx, ls, st.drop (hmN y1)))))
  | (32, _, _, _) => match st with
    | Sum.inr (Sum.inr (some _)) :: r => hif (decide (1 ≤ d) && decide ((r.map hwd).sum ≤ 8)) (some (.inl (nx, ls, r, σ)))
    | _ => none
  | (33, k, _, _) => match st with
    | [] => hif (decide (k = 0)) (some (.inr (.inr none)))
    | [Sum.inl z] => hif (decide (k = 1) || decide (k = 2) && h01 z || decide (k = 5) && (decide (-128 ≤ z) && decide (z ≤ 127)) || decide (k = 6) && (decide (0 ≤ z) && decide (z ≤ 65535))) (some (.inr (.inr (some (vI z)))))
    | [Sum.inr (Sum.inl z)] => hif (decide (k = 3)) (some (.inr (.inr (some (vL z)))))
    | [Sum.inr (Sum.inr r)] => hif (decide (k = 4)) (some (.inr (.inr (some (vR r)))))
    | _ => none
  | (34, j, _, _) => some (.inl (nx, ls, E j :: st, σ))
  | (35, _, _, _) => match st with
    | Sum.inl u :: r => some (.inl (nx, ls, vI (ch16 u) :: r, σ))
    | _ => none
  | _ => none
/-- a method from one place on: what it answers, and the memory then -/
def hx (N0 : Nat) (E : Nat → AV) (T : Nat → Nat → Option (hOp × Nat)) : Nat → Nat → Nat → Nat → hLs → List AV → hM → Option (Option AV × hM)
  | 0, _, _, _, _, _, _ => none
  | n + 1, d, y, pc, ls, st, σ => match T y pc with
    | none => none
    | some (op, nx) => match hstep N0 E d y op nx ls st σ with
      | none => none
      | some (Sum.inl (pc1, ls1, st1, σ1)) => hx N0 E T n d y pc1 ls1 st1 σ1
      | some (Sum.inr (Sum.inl (y1, as, pc1, ls1, st1))) => match d with
        | 0 => none
        | d1 + 1 => match hx N0 E T n d1 y1 0 (hpad (hent as) (hmL y1)) [] σ with
          | none => none
          | some (r, σ1) => hx N0 E T n (d1 + 1) y pc1 ls1 (r.toList ++ st1) σ1
      | some (Sum.inr (Sum.inr r)) => some (r, σ)
