/-! Reading a pattern, as mathematics. A node: kind, weight, children, low, high, set. A state: place, fault, nodes, levels (the innermost first): finished branches, pieces -/
abbrev xNode : Type := Nat × Int32 × List Nat × Int32 × Int32 × (Nat → Bool)
abbrev xSg : Type := Nat × Int32 × List xNode × List (List Nat × List Nat)
def pch (fp : Nat → Int32) (pl k : Nat) : Int32 := if k < pl then fp k else 0
def pNo : Nat → Bool := fun _ => false
def pNd (A : List xNode) (i : Nat) : xNode := (A[i]?).getD (0, 0, [], 0, 0, pNo)
def pFau (σ : xSg) (x : Int32) : xSg := (σ.1, x, σ.2.2.1, σ.2.2.2)
def pAt (σ : xSg) (k : Nat) : xSg := (σ.1 + k, σ.2)
def pTop (σ : xSg) : List Nat × List Nat := (σ.2.2.2.head?).getD ([], [])
def pSum (A : List xNode) (l : List Nat) : Int32 := l.foldl (fun w p => w + (pNd A p).2.1) 0
def pSumG (A : List xNode) (l : List Nat) : Int32 := l.foldl (fun w p => w + 1 + (pNd A p).2.1) (-1)
/-- a node is made and stands as the newest piece -/
def pPiece (σ : xSg) (q : xNode) : xSg := (σ.1, σ.2.1, σ.2.2.1 ++ [q], ((pTop σ).1, (pTop σ).2 ++ [σ.2.2.1.length]) :: σ.2.2.2.tail)
/-- the pieces become a branch -/
def pEndB (σ : xSg) : xSg := (σ.1, σ.2.1, σ.2.2.1 ++ [(5, pSum σ.2.2.1 (pTop σ).2, (pTop σ).2, 0, 0, pNo)], ((pTop σ).1 ++ [σ.2.2.1.length], []) :: σ.2.2.2.tail)
/-- the branches become a group -/
def pGrp (σ : xSg) : xNode := (6, pSumG σ.2.2.1 (pTop σ).1, (pTop σ).1, 0, 0, pNo)
def pClose (σ : xSg) : xSg := if σ.2.2.2.length ≤ 1 then pFau σ 2 else if (pTop σ).2 = [] then pFau σ 1 else pPiece ((pEndB σ).1, (pEndB σ).2.1, (pEndB σ).2.2.1, (pEndB σ).2.2.2.tail) (pGrp (pEndB σ))
def pTim (m n : Int32) : Int32 := if 0 ≤ n then n else if m = 0 then 1 else m
def pLast (σ : xSg) : Nat := ((pTop σ).2.getLast?).getD 0
def pRep (σ : xSg) (m n : Int32) : xSg := (σ.1, σ.2.1, σ.2.2.1 ++ [(4, pTim m n * ((pNd σ.2.2.1 (pLast σ)).2.1 + 1), [pLast σ], m, n, pNo)], ((pTop σ).1, (pTop σ).2.dropLast ++ [σ.2.2.1.length]) :: σ.2.2.2.tail)
def pSet (a b : Int32) : Nat → Bool := fun k => decide (a ≤ nI (k + 32) ∧ nI (k + 32) ≤ b)
def pOr (cs : Nat → Bool) (a b : Int32) : Nat → Bool := fun k => cs k || pSet a b k
def pSetOf (σ : xSg) (a b : Int32) : xSg := pPiece σ (1, 1, [], 0, 0, pSet a b)
def pDig (c : Int32) : Prop := 48 ≤ c ∧ c ≤ 57
def pSpe (c : Int32) : Prop := c = 94 ∨ c = 46 ∨ c = 91 ∨ c = 36 ∨ c = 40 ∨ c = 41 ∨ c = 124 ∨ c = 42 ∨ c = 43 ∨ c = 63 ∨ c = 123 ∨ c = 92
section pRd
variable (fp : Nat → Int32) (pl : Nat)
noncomputable def pBraces (σ : xSg) : xSg :=
  @ite _ (¬ pDig (pch fp pl σ.1)) (Classical.propDecidable _) (pFau σ 4)
    (if pch fp pl (σ.1 + 1) = 125 then pAt (pRep σ (pch fp pl σ.1 - 48) (pch fp pl σ.1 - 48)) 2
    else if pch fp pl (σ.1 + 1) = 44 ∧ pch fp pl (σ.1 + 2) = 125 then pAt (pRep σ (pch fp pl σ.1 - 48) (-1)) 3
    else @ite _ (pch fp pl (σ.1 + 1) = 44 ∧ pDig (pch fp pl (σ.1 + 2)) ∧ pch fp pl σ.1 - 48 ≤ pch fp pl (σ.1 + 2) - 48 ∧ pch fp pl (σ.1 + 3) = 125) (Classical.propDecidable _) (pAt (pRep σ (pch fp pl σ.1 - 48) (pch fp pl (σ.1 + 2) - 48)) 4) (pFau σ 4))
noncomputable def pRepeat (c : Int32) (σ : xSg) : xSg :=
  if (pTop σ).2 = [] ∨ (pNd σ.2.2.1 (pLast σ)).1 = 2 ∨ (pNd σ.2.2.1 (pLast σ)).1 = 3 then pFau σ 3
  else if c = 42 then pRep σ 0 (-1) else if c = 43 then pRep σ 1 (-1) else if c = 63 then pRep σ 0 1 else pBraces fp pl σ
def pNam (k : Nat) (a b c d e : Int32) : Prop := pch fp pl k = a ∧ pch fp pl (k + 1) = b ∧ pch fp pl (k + 2) = c ∧ pch fp pl (k + 3) = d ∧ pch fp pl (k + 4) = e ∧ pch fp pl (k + 5) = 58 ∧ pch fp pl (k + 6) = 93
/-- a class's name at k: alpha, lower, upper, digit -/
def pAlp (k : Nat) : Prop := pNam fp pl k 97 108 112 104 97
def pLow (k : Nat) : Prop := pNam fp pl k 108 111 119 101 114
def pUpp (k : Nat) : Prop := pNam fp pl k 117 112 112 101 114
def pDgt (k : Nat) : Prop := pNam fp pl k 100 105 103 105 116
noncomputable def pCls (k : Nat) (cs : Nat → Bool) : Nat → Bool := fun j => cs j || @decide ((pAlp fp pl k ∨ pLow fp pl k) ∧ pSet 97 122 j = true) (Classical.propDecidable _) || @decide ((pAlp fp pl k ∨ pUpp fp pl k) ∧ pSet 65 90 j = true) (Classical.propDecidable _) || @decide (pDgt fp pl k ∧ pSet 48 57 j = true) (Classical.propDecidable _)
/-- an item of a bracket: place, fault, set -/
noncomputable def pItem (q : Nat × Int32 × (Nat → Bool)) : Nat × Int32 × (Nat → Bool) :=
  if pch fp pl q.1 = 91 ∧ pch fp pl (q.1 + 1) = 58 then
    @ite _ (pAlp fp pl (q.1 + 2) ∨ pLow fp pl (q.1 + 2) ∨ pUpp fp pl (q.1 + 2) ∨ pDgt fp pl (q.1 + 2)) (Classical.propDecidable _) (q.1 + 9, 0, pCls fp pl (q.1 + 2) q.2.2) (q.1 + 2, 5, q.2.2)
  else if pch fp pl q.1 = 91 ∧ (pch fp pl (q.1 + 1) = 46 ∨ pch fp pl (q.1 + 1) = 61) then (q.1, 6, q.2.2)
  else if pch fp pl (q.1 + 1) = 45 ∧ ¬ pch fp pl (q.1 + 2) = 0 ∧ ¬ pch fp pl (q.1 + 2) = 93 then
    (if pch fp pl (q.1 + 2) < pch fp pl q.1 then (q.1, 5, q.2.2) else (q.1 + 3, 0, pOr q.2.2 (pch fp pl q.1) (pch fp pl (q.1 + 2))))
  else (q.1 + 1, 0, pOr q.2.2 (pch fp pl q.1) (pch fp pl q.1))
noncomputable def pItems : Nat → Bool → Nat × Int32 × (Nat → Bool) → Nat × Int32 × (Nat → Bool)
  | 0, _, q => q
  | n + 1, b, q => if q.2.1 = 0 ∧ q.1 < pl ∧ (b = true ∨ ¬ pch fp pl q.1 = 93) then pItems n false (pItem fp pl q) else q
noncomputable def pBrk (a : Nat) : Nat × Int32 × (Nat → Bool) := pItems fp pl pl true (if pch fp pl a = 94 then a + 1 else a, 0, pNo)
noncomputable def pBracket (σ : xSg) : xSg :=
  if ¬ (pBrk fp pl σ.1).2.1 = 0 then pFau σ (pBrk fp pl σ.1).2.1
  else if pl ≤ (pBrk fp pl σ.1).1 then pFau σ 5
  else pPiece ((pBrk fp pl σ.1).1 + 1, σ.2) (1, 1, [], 0, 0, if pch fp pl σ.1 = 94 then fun k => !(pBrk fp pl σ.1).2.2 k else (pBrk fp pl σ.1).2.2)
noncomputable def pSimple (c : Int32) (σ : xSg) : xSg :=
  if c = 92 then @ite _ (pSpe (pch fp pl σ.1)) (Classical.propDecidable _) (pSetOf (pAt σ 1) (pch fp pl σ.1) (pch fp pl σ.1)) (pFau σ 7)
  else if c = 94 ∨ c = 36 then pPiece σ (if c = 94 then 2 else 3, 1, [], 0, 0, pNo)
  else if c = 91 then pBracket fp pl σ
  else if c = 46 then pSetOf σ 32 126
  else pSetOf σ c c
noncomputable def pOneC (c : Int32) (σ : xSg) : xSg :=
  if c = 40 then (if σ.2.2.2.length = 7 then pFau σ 8 else (σ.1, σ.2.1, σ.2.2.1, ([], []) :: σ.2.2.2))
  else if c = 41 then pClose σ
  else if c = 124 then (if (pTop σ).2 = [] then pFau σ 1 else pEndB σ)
  else if c = 42 ∨ c = 43 ∨ c = 63 ∨ c = 123 then pRepeat fp pl c σ
  else pSimple fp pl c σ
noncomputable def pOne (σ : xSg) : xSg := pOneC fp pl (pch fp pl σ.1) (pAt σ 1)
noncomputable def pRun : Nat → xSg → xSg
  | 0, σ => σ
  | n + 1, σ => if σ.1 < pl ∧ σ.2.1 = 0 then pRun n (pOne fp pl σ) else σ
noncomputable def pEnd (σ : xSg) : xSg :=
  if ¬ σ.2.1 = 0 then σ
  else if 1 < σ.2.2.2.length then pFau σ 2
  else if (pTop σ).2 = [] then pFau σ 1
  else ((pEndB σ).1, (if 60 < (pGrp (pEndB σ)).2.1 then 9 else 0), (pEndB σ).2.2.1 ++ [pGrp (pEndB σ)], (pEndB σ).2.2.2)
noncomputable def pRead : xSg := pEnd (pRun fp pl pl (0, 0, [], [([], [])]))
end pRd
