/-! kernel computing: the rows of the partition list -/
def fzN (l : List Nat) : Nat → Nat := fun k => l.getD k 0
def lpL : List Nat → Nat → Nat → Nat
  | [], _, r => r
  | x :: l, i, r => lpL l (i + 1) (bif Nat.ble 2 x then i + 1 else r)
def smL : List Nat → Nat
  | [] => 0
  | x :: l => x + smL l
def nxL (l : List Nat) (p M S : Nat) : Nat → List Nat → List Nat
  | _, [] => []
  | k, x :: t => (bif Nat.blt k p then x else min M (S - M * (k - p))) :: nxL l p M S (k + 1) t
def nxtL (l : List Nat) : List Nat := nxL l (lpL l 0 0 - 1) (l.getD (lpL l 0 0 - 1) 0 - 1) (smL (l.drop (lpL l 0 0 - 1))) 0 l
def okL : List Nat → Nat → Bool
  | [], _ => true
  | x :: l, p => Nat.ble x 16 && ((Nat.ble 1 x || Nat.beq (smL l) 0) && okL l p)
def chkL : Nat → List Nat → Bool
  | 0, l => okL l 0 && (Nat.ble (smL l) 16 && Nat.beq (lpL l 0 0) 0)
  | t + 1, l => okL l 0 && (Nat.ble (smL l) 16 && (Nat.blt 0 (lpL l 0 0) && chkL t (nxtL l)))
def rowL (m : Nat) : List Nat := [m, 0, 0, 0, 0, 0, 0, 0, 0, 0, 0, 0, 0, 0, 0, 0]
theorem chk_9 : chkL (pcN 9 - 1) (rowL 9) = true := by decide +kernel
theorem chk_16 : chkL (pcN 16 - 1) (rowL 16) = true := by decide +kernel
