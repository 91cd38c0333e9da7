/-! WHAT THE SYSTEM IS: a row of numbers A, and what each call makes of it -/
abbrev AA : Type := Nat → Int32
def iN (x : Int32) : Nat := x.toNatClampNeg
theorem iN_n {n : Nat} (h : n < 2 ^ 31) : iN (nI n) = n := nI_clamp h
noncomputable def cIf {α : Type} (c : Prop) (a b : α) : α := @ite α c (Classical.propDecidable c) a b
theorem cIf_t {α : Type} {c : Prop} {a b : α} (h : c) : cIf c a b = a := by rw [cIf, if_pos h]
theorem cIf_f {α : Type} {c : Prop} {a b : α} (h : ¬ c) : cIf c a b = b := by rw [cIf, if_neg h]
theorem upd_eq (f : Nat → Int32) (k : Nat) (v : Int32) : upd f k v k = v := by simp [upd]
theorem upd_ne {f : Nat → Int32} {k j : Nat} {v : Int32} (h : j ≠ k) : upd f k v j = f j := by simp [upd, h]
def nR (A : AA) : Nat := iN (A 2)
def nV (A : AA) : Nat := iN (A 3)
def nL (A : AA) : Nat := iN (A 4)
def bR (A : AA) (b : Nat) : Nat := iN (A (145 + 9 * b + 1))
def bS (A : AA) (b : Nat) : Nat := iN (A (145 + 9 * b + 3))
def bV (A : AA) (b : Nat) : Nat := iN (A (145 + 9 * b + 4))
def stg (A : AA) (r k w : Nat) : Int32 := A (31 + 18 * r + 2 + 4 * k + w)
def nS (A : AA) (r : Nat) : Nat := iN (A (31 + 18 * r + 1))
def ovF (A : AA) (b : Nat) : Int32 := A (145 + 9 * b + 5) + stg A (bR A b) (bS A b) 1
def rpF (A : AA) (b : Nat) : Int32 := ovF A b + stg A (bR A b) (bS A b) 2
def gdF (A : AA) (b : Nat) : Int32 := ovF A b + stg A (bR A b) (bS A b) 3
def prF (A : AA) (b : Nat) : Int32 := A (31 + 18 * bR A b)
noncomputable def clF (A : AA) (v : Nat) (p : Int32) : Int32 := cIf (A (103 + 5 * v + 3) < 0) 0 (A (15 + 4 * iN (A (103 + 5 * v + 3)) + iN p))
def tkF (A : AA) (v : Nat) (kind mass : Int32) : Prop := A (103 + 5 * v + 2) < 0 ∧ A (103 + 5 * v) = kind ∧ mass ≤ A (103 + 5 * v + 1)
def live (A : AA) (b : Nat) : Prop := A (145 + 9 * b) = 1
def isRec (A : AA) (x : Int32) : Prop := ∃ r, r < nR A ∧ x = nI r
def isVes (A : AA) (x : Int32) : Prop := ∃ v, v < nV A ∧ x = nI v
def isLin (A : AA) (x : Int32) : Prop := ∃ k, k < nL A ∧ x = nI k
def isBat (A : AA) (x : Int32) : Prop := ∃ b, b < 6 ∧ x = nI b ∧ live A b
def inR (x a b : Int32) : Prop := a ≤ x ∧ x ≤ b
def lnOk (A : AA) (k : Nat) (both : Int32) : Prop := A (133 + 4 * k) &&& both = both ∧ A (133 + 4 * k + 2) ≤ A 5
noncomputable def lnF (A : AA) (both : Int32) : Nat → Nat → Int32
  | _, 0 => -4
  | i, n + 1 => cIf (lnOk A i both) (nI i) (lnF A both (i + 1) n)
def ltC (A : AA) (b v : Nat) : Prop := rpF A b ≤ A 5 ∧ bS A b + 1 < nS A (bR A b) ∧ tkF A v (stg A (bR A b) (bS A b + 1) 0) (A (145 + 9 * b + 2))
/-- the line by which a batch could be moved to a vessel now, or -4 -/
noncomputable def ltF (A : AA) (b v : Nat) : Int32 := cIf (ltC A b v) (lnF A (jnM (nI v) (A (145 + 9 * b + 4))) 0 (nL A)) (-4)
noncomputable def mtF (A : AA) (b v k : Nat) : Int32 := clF A v (prF A b) + (A (145 + 9 * b + 2) + A (133 + 4 * k + 1) - 1) / A (133 + 4 * k + 1)
noncomputable def lowF (A : AA) : Nat → Nat → Nat
  | i, 0 => i
  | i, n + 1 => cIf (live A i) (lowF A (i + 1) n) i
abbrev RA : Type := Int32 × AA
noncomputable def fRecipe (A : AA) (p : Int32) : RA := cIf (¬ inR p 0 3) (-1, A) (cIf (A 2 = 4) (-3, A) (A 2, upd (upd (upd A (31 + 18 * nR A) p) (31 + 18 * nR A + 1) 0) 2 (A 2 + 1)))
def isMade (A : AA) (x : Int32) : Prop := ∃ b, b < 6 ∧ live A b ∧ A (145 + 9 * b + 1) = x
noncomputable def fStage (A : AA) (x kind work least most : Int32) : RA :=
  cIf (¬ (isRec A x ∧ inR kind 0 2 ∧ inR work 1 200 ∧ inR least 0 500 ∧ inR most least 500)) (-1, A)
    (cIf (isMade A x) (-2, A) (cIf (A (31 + 18 * iN x + 1) = 4) (-3, A)
      (A (31 + 18 * iN x + 1), upd (upd (upd (upd (upd A (31 + 18 * iN x + 2 + 4 * nS A (iN x)) kind) (31 + 18 * iN x + 2 + 4 * nS A (iN x) + 1) work) (31 + 18 * iN x + 2 + 4 * nS A (iN x) + 2) least) (31 + 18 * iN x + 2 + 4 * nS A (iN x) + 3) most) (31 + 18 * iN x + 1) (A (31 + 18 * iN x + 1) + 1))))
noncomputable def fVessel (A : AA) (kind size : Int32) : RA :=
  cIf (¬ (inR kind 0 2 ∧ inR size 1 999)) (-1, A) (cIf (A 3 = 6) (-3, A)
    (A 3, upd (upd (upd (upd (upd (upd A (103 + 5 * nV A) kind) (103 + 5 * nV A + 1) size) (103 + 5 * nV A + 2) (-1)) (103 + 5 * nV A + 3) (-1)) (103 + 5 * nV A + 4) 0) 3 (A 3 + 1)))
/-- a set of at least two of the vessels that there are -/
def setOk (A : AA) (x : Int32) : Prop := ∃ s : Nat, s < 2 ^ nV A ∧ x = nI s ∧ 2 ≤ (s % 2 + s / 2 % 2 + s / 4 % 2 + s / 8 % 2 + s / 16 % 2 + s / 32 % 2)
noncomputable def fLine (A : AA) (x speed : Int32) : RA :=
  cIf (¬ (setOk A x ∧ inR speed 1 99)) (-1, A) (cIf (A 4 = 3) (-3, A)
    (A 4, upd (upd (upd (upd (upd A (133 + 4 * nL A) x) (133 + 4 * nL A + 1) speed) (133 + 4 * nL A + 2) 0) (133 + 4 * nL A + 3) 0) 4 (A 4 + 1)))
noncomputable def fCleaning (A : AA) (x y m : Int32) : RA := cIf (¬ (inR x 0 3 ∧ inR y 0 3 ∧ inR m 0 99)) (-1, A) (A (15 + 4 * iN x + iN y), upd A (15 + 4 * iN x + iN y) m)
noncomputable def fStageOf (A : AA) (x k w : Int32) : Int32 :=
  cIf (¬ (isRec A x ∧ 0 ≤ k ∧ inR w 0 4)) (-1) (cIf (A (31 + 18 * iN x + 1) ≤ k) (-4) (cIf (w = 4) (A (31 + 18 * iN x)) (A (31 + 18 * iN x + 2 + 4 * iN k + iN w))))
/-- the batch b is put into the vessel v -/
noncomputable def beginA (A : AA) (r m v b : Nat) : AA :=
  let c := clF A v (A (31 + 18 * r))
  upd (upd (upd (upd (upd (upd (upd (upd (upd (upd (upd (upd (upd A (145 + 9 * b) 1) (145 + 9 * b + 1) (nI r)) (145 + 9 * b + 2) (nI m)) (145 + 9 * b + 3) 0) (145 + 9 * b + 6) 0) (145 + 9 * b + 7) 0) (145 + 9 * b + 8) (nI m)) (103 + 5 * v + 4) (A (103 + 5 * v + 4) + c)) (103 + 5 * v + 3) (A (31 + 18 * r))) (103 + 5 * v + 2) (nI b)) (145 + 9 * b + 4) (nI v)) (145 + 9 * b + 5) (A 5 + c)) 6 (A 6 + nI m)
noncomputable def fBegin (A : AA) (x m y : Int32) : RA :=
  cIf (¬ (isRec A x ∧ inR m 1 999 ∧ isVes A y)) (-1, A) (cIf (¬ (¬ A (31 + 18 * iN x + 1) = 0 ∧ tkF A (iN y) (stg A (iN x) 0 0) m)) (-2, A)
    (nI (lowF A 0 6), beginA A (iN x) (iN m) (iN y) (lowF A 0 6)))
/-- what a transfer takes of a mass -/
def lsF (A : AA) (m : Int32) : Int32 := m * A 0 / 1000
noncomputable def moveA (A : AA) (b v k : Nat) : AA :=
  let c := clF A v (prF A b)
  let till := A 5 + mtF A b v k
  let m := A (145 + 9 * b + 2)
  upd (upd (upd (upd (upd (upd (upd (upd (upd (upd (upd A (133 + 4 * k + 2) till) (133 + 4 * k + 3) (A (133 + 4 * k + 3) + m)) (103 + 5 * bV A b + 2) (-1)) (103 + 5 * v + 4) (A (103 + 5 * v + 4) + c)) (103 + 5 * v + 3) (prF A b)) (103 + 5 * v + 2) (nI b)) (145 + 9 * b + 4) (nI v)) (145 + 9 * b + 5) till) (145 + 9 * b + 3) (A (145 + 9 * b + 3) + 1)) 8 (A 8 + lsF A m)) (145 + 9 * b + 2) (m - lsF A m)
noncomputable def fMove (A : AA) (x y : Int32) : RA :=
  cIf (¬ (isBat A x ∧ isVes A y)) (-1, A) (cIf (ltF A (iN x) (iN y) < 0) (-2, A) (ltF A (iN x) (iN y), moveA A (iN x) (iN y) (iN (ltF A (iN x) (iN y)))))
/-- the batch is gone out of its vessel -/
def goneA (A : AA) (b : Nat) : AA := upd (upd A (103 + 5 * bV A b + 2) (-1)) (145 + 9 * b) 0
noncomputable def fEnd (A : AA) (x : Int32) : RA :=
  cIf (¬ isBat A x) (-1, A) (cIf (¬ (rpF A (iN x) ≤ A 5 ∧ ¬ bS A (iN x) + 1 < nS A (bR A (iN x)))) (-2, A)
    (A (145 + 9 * iN x + 2), cIf (A (145 + 9 * iN x + 6) = 1) (upd (goneA A (iN x)) (11 + iN (prF A (iN x))) (A (11 + iN (prF A (iN x))) + A (145 + 9 * iN x + 2)))
      (upd (upd (goneA A (iN x)) 7 (A 7 + A (145 + 9 * iN x + 2))) 9 (A 9 + 1))))
noncomputable def fDiscard (A : AA) (x : Int32) : RA :=
  cIf (¬ isBat A x) (-1, A) (A (145 + 9 * iN x + 2), upd (goneA A (iN x)) 8 (A 8 + A (145 + 9 * iN x + 2)))
def blOk (A : AA) (b : Nat) (m : Int32) : Prop :=
  A (145 + 9 * b + 3) = 0 ∧ A (145 + 9 * b + 6) = 0 ∧ m ≤ A (103 + 5 * bV A b + 1) - A (145 + 9 * b + 2) ∧ A (145 + 9 * b + 7) + m ≤ A 1 * A (145 + 9 * b + 8) / 100 ∧ m ≤ A (11 + iN (prF A b))
noncomputable def fBlend (A : AA) (x m : Int32) : RA :=
  cIf (¬ (isBat A x ∧ inR m 1 999)) (-1, A) (cIf (¬ blOk A (iN x) m) (-2, A)
    (A (145 + 9 * iN x + 2) + m, upd (upd (upd A (11 + iN (prF A (iN x))) (A (11 + iN (prF A (iN x))) - m)) (145 + 9 * iN x + 7) (A (145 + 9 * iN x + 7) + m)) (145 + 9 * iN x + 2) (A (145 + 9 * iN x + 2) + m)))
/-- does it spoil by now -/
def spC (A : AA) (b : Nat) : Prop := live A b ∧ A (145 + 9 * b + 6) = 0 ∧ gdF A b < A 5
noncomputable def psF (A : AA) : Nat → Nat → Nat → Int32 × AA
  | _, 0, c => (nI c, A)
  | i, n + 1, c => cIf (spC A i) (psF (upd A (145 + 9 * i + 6) 1) (i + 1) n (c + 1)) (psF A (i + 1) n c)
noncomputable def fPass (A : AA) (m : Int32) : RA :=
  cIf (¬ inR m 1 999) (-1, A) (cIf (30000 < A 5 + m) (-3, A)
    ((psF (upd A 5 (A 5 + m)) 0 6 0).1, upd (psF (upd A 5 (A 5 + m)) 0 6 0).2 10 ((psF (upd A 5 (A 5 + m)) 0 6 0).2 10 + (psF (upd A 5 (A 5 + m)) 0 6 0).1)))
noncomputable def fSet (A : AA) (w x : Int32) : RA := cIf (¬ (inR w 0 1 ∧ inR x 0 (cIf (w = 0) 100 50))) (-1, A) (A (iN w), upd A (iN w) x)
/-! what is told -/
noncomputable def bfF (A : AA) (b : Nat) (w : Nat) : Int32 := match w with
  | 0 => A (145 + 9 * b + 1) | 1 => A (145 + 9 * b + 2) | 2 => A (145 + 9 * b + 3) | 3 => A (145 + 9 * b + 4) | 4 => A (145 + 9 * b + 5)
  | 5 => cIf (ovF A b < A 5) (A 5 - ovF A b) 0 | 6 => bI (rpF A b ≤ A 5) | 7 => A (145 + 9 * b + 6) | 8 => A (145 + 9 * b + 7) | 9 => rpF A b | _ => gdF A b
noncomputable def fBatchOf (A : AA) (x w : Int32) : Int32 := cIf (¬ (isBat A x ∧ inR w 0 10)) (-1) (bfF A (iN x) (iN w))
noncomputable def fVesselOf (A : AA) (x w : Int32) : Int32 := cIf (¬ (isVes A x ∧ inR w 0 4)) (-1) (cIf (A (103 + 5 * iN x + iN w) < 0) (-4) (A (103 + 5 * iN x + iN w)))
noncomputable def fLineOf (A : AA) (x w : Int32) : Int32 := cIf (¬ (isLin A x ∧ inR w 0 3)) (-1) (cIf (w = 2) (cIf (A 5 < A (133 + 4 * iN x + 2)) (A (133 + 4 * iN x + 2) - A 5) 0) (A (133 + 4 * iN x + iN w)))
noncomputable def smF (A : AA) (f : Nat → Int32) : Nat → Nat → Int32 → Int32
  | _, 0, s => s
  | i, n + 1, s => smF A f (i + 1) n (s + cIf (live A i) (f i) 0)
noncomputable def tgF (A : AA) (b : Nat) : Nat → Nat → Int32 → Int32
  | _, 0, s => s
  | v, n + 1, s => tgF A b (v + 1) n (s ||| cIf (ltF A b v < 0) 0 ((1 : Int32) <<< (nI v &&& 31)))
noncomputable def fTargets (A : AA) (x : Int32) : Int32 := cIf (¬ isBat A x) (-1) (tgF A (iN x) 0 (nV A) 0)
noncomputable def qkF (A : AA) (b : Nat) : Nat → Nat → Option (Nat × Int32) → Option (Nat × Int32)
  | _, 0, s => s
  | v, n + 1, s => qkF A b (v + 1) n (cIf (¬ ltF A b v < 0 ∧ ∀ q, s = some q → mtF A b v (iN (ltF A b v)) < q.2) (some (v, mtF A b v (iN (ltF A b v)))) s)
noncomputable def fQuickest (A : AA) (x w : Int32) : Int32 := cIf (¬ (isBat A x ∧ inR w 0 1)) (-1) (match qkF A (iN x) 0 (nV A) none with
  | none => -4
  | some q => cIf (w = 0) (nI q.1) q.2)
def isRoom (A : AA) (kind mass : Int32) : Prop := ∃ v, v < nV A ∧ A (103 + 5 * v) = kind ∧ mass ≤ A (103 + 5 * v + 1)
noncomputable def snF (A : AA) (r : Nat) : Nat → Nat → Int32 → Int32 → Int32
  | _, 0, _, t => t
  | k, n + 1, m, t => cIf (¬ isRoom A (stg A r k 0) m) (-4) (snF A r (k + 1) n (m - lsF A m) (t + (stg A r k 1 + stg A r k 2)))
noncomputable def fSoonest (A : AA) (x : Int32) : Int32 := cIf (¬ isBat A x) (-1)
  (snF A (bR A (iN x)) (bS A (iN x) + 1) (nS A (bR A (iN x)) - (bS A (iN x) + 1)) (A (145 + 9 * iN x + 2)) (cIf (rpF A (iN x) ≤ A 5) (A 5) (rpF A (iN x))))
/-- may it spoil yet -/
def cnS (A : AA) (b : Nat) : Prop := live A b ∧ A (145 + 9 * b + 6) = 0
def bfr (A : AA) (k b : Nat) : Prop := cnS A k ∧ (gdF A k < gdF A b ∨ (gdF A k = gdF A b ∧ k < b))
noncomputable def ahF (A : AA) (b : Nat) : Nat → Nat → Nat → Nat
  | _, 0, s => s
  | k, n + 1, s => ahF A b (k + 1) n (cIf (bfr A k b) (s + 1) s)
noncomputable def ugF (A : AA) (place : Int32) : Nat → Nat → Int32
  | _, 0 => -4
  | b, n + 1 => cIf (cnS A b ∧ nI (ahF A b 0 6 0) = place) (nI b) (ugF A place (b + 1) n)
noncomputable def fUrgent (A : AA) (x : Int32) : Int32 := cIf (x < 0) (-1) (ugF A x 0 6)
