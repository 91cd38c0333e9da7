/-! WHAT THE CALLS MAKE OF THE ROW, CASE BY CASE -/
section FR
variable {N : Nat} {A : AA}
theorem cnt_lt {n m : Nat} (hn : n < 2 ^ 31) (hm : m < 2 ^ 31) (c : nI n < nI m) : n < m := (nI_ltI hn hm).mp c
theorem cnt_ge {n m : Nat} (hn : n ≤ m) (hm : m < 2 ^ 31) (c : ¬ nI n < nI m) : n = m := by
  rcases Nat.lt_or_ge n m with h | h
  · exact absurd (nI_lt h hm) c
  · omega
theorem nI_not {n m : Nat} (hn : n < m) (hm : m < 2 ^ 31) : ¬ nI n = nI m := fun z => by
  have := nI_in_r (by omega) hm z
  omega
theorem isRec_n {r : Nat} (h : r < nR A) : isRec A (nI r) := ⟨r, h, rfl⟩
theorem isVes_n {r : Nat} (h : r < nV A) : isVes A (nI r) := ⟨r, h, rfl⟩
theorem isBat_n {b : Nat} (h : b < 6) (hl : live A b) : isBat A (nI b) := ⟨b, h, rfl, hl⟩
theorem fRecipe_1 {p : Int32} (h : ¬ inR p 0 3) : fRecipe A p = (-1, A) := by rw [fRecipe, cIf_t h]
theorem fRecipe_3 {p : Int32} (h : inR p 0 3) (h2 : A 2 = 4) : fRecipe A p = (-3, A) := by rw [fRecipe, cIf_f (fun z => z h), cIf_t h2]
theorem fRecipe_y {p : Int32} (I : Inv N A) (h : inR p 0 3) (hn : nR A < 4) : fRecipe A p = (nI (nR A), upd (upd (upd A (31 + 18 * nR A) p) (31 + 18 * nR A + 1) 0) 2 (nI (nR A + 1))) := by
  rw [fRecipe, cIf_f (fun z => z h), cIf_f (c := A 2 = 4) (fun z => nI_not hn (by decide) (I.eR.symm.trans z))]
  rw [I.eR, nI_1]
theorem fStage_1 {x a b c d : Int32} (h : ¬ (isRec A x ∧ inR a 0 2 ∧ inR b 1 200 ∧ inR c 0 500 ∧ inR d c 500)) : fStage A x a b c d = (-1, A) := by rw [fStage, cIf_t h]
theorem fStage_2 {x a b c d : Int32} (h : (isRec A x ∧ inR a 0 2 ∧ inR b 1 200 ∧ inR c 0 500 ∧ inR d c 500)) (hm : isMade A x) : fStage A x a b c d = (-2, A) := by rw [fStage, cIf_f (fun z => z h), cIf_t hm]
theorem fStage_3 {x a b c d : Int32} (h : (isRec A x ∧ inR a 0 2 ∧ inR b 1 200 ∧ inR c 0 500 ∧ inR d c 500)) (hm : ¬ isMade A x) (h3 : A (31 + 18 * iN x + 1) = 4) : fStage A x a b c d = (-3, A) := by rw [fStage, cIf_f (fun z => z h), cIf_f hm, cIf_t h3]
theorem fStage_y {r : Nat} {a b c d : Int32} (I : Inv N A) (hr : r < nR A) (h : inR a 0 2 ∧ inR b 1 200 ∧ inR c 0 500 ∧ inR d c 500) (hm : ¬ isMade A (nI r)) (hn : nS A r < 4) : fStage A (nI r) a b c d = (nI (nS A r), upd (upd (upd (upd (upd A (31 + 18 * r + 2 + 4 * nS A r) a) (31 + 18 * r + 2 + 4 * nS A r + 1) b) (31 + 18 * r + 2 + 4 * nS A r + 2) c) (31 + 18 * r + 2 + 4 * nS A r + 3) d) (31 + 18 * r + 1) (nI (nS A r + 1))) := by
  have hr4 : r < 4 := Nat.lt_of_lt_of_le hr I.nR4
  have e := I.eS hr4
  rw [fStage, cIf_f (fun z => z ⟨isRec_n hr, h⟩), cIf_f hm, iN_n (by omega), cIf_f (c := A (31 + 18 * r + 1) = 4) (fun z => nI_not hn (by decide) (e.symm.trans z))]
  rw [e, nI_1]
theorem fVessel_1 {a b : Int32} (h : ¬ (inR a 0 2 ∧ inR b 1 999)) : fVessel A a b = (-1, A) := by rw [fVessel, cIf_t h]
theorem fVessel_3 {a b : Int32} (h : inR a 0 2 ∧ inR b 1 999) (h2 : A 3 = 6) : fVessel A a b = (-3, A) := by rw [fVessel, cIf_f (fun z => z h), cIf_t h2]
theorem fVessel_y {a b : Int32} (I : Inv N A) (h : inR a 0 2 ∧ inR b 1 999) (hn : nV A < 6) : fVessel A a b = (nI (nV A), upd (upd (upd (upd (upd (upd A (103 + 5 * nV A) a) (103 + 5 * nV A + 1) b) (103 + 5 * nV A + 2) (-1)) (103 + 5 * nV A + 3) (-1)) (103 + 5 * nV A + 4) 0) 3 (nI (nV A + 1))) := by
  rw [fVessel, cIf_f (fun z => z h), cIf_f (c := A 3 = 6) (fun z => nI_not hn (by decide) (I.eV.symm.trans z))]
  rw [I.eV, nI_1]
theorem fLine_1 {a b : Int32} (h : ¬ (setOk A a ∧ inR b 1 99)) : fLine A a b = (-1, A) := by rw [fLine, cIf_t h]
theorem fLine_3 {a b : Int32} (h : setOk A a ∧ inR b 1 99) (h2 : A 4 = 3) : fLine A a b = (-3, A) := by rw [fLine, cIf_f (fun z => z h), cIf_t h2]
theorem fLine_y {a b : Int32} (I : Inv N A) (h : setOk A a ∧ inR b 1 99) (hn : nL A < 3) : fLine A a b = (nI (nL A), upd (upd (upd (upd (upd A (133 + 4 * nL A) a) (133 + 4 * nL A + 1) b) (133 + 4 * nL A + 2) 0) (133 + 4 * nL A + 3) 0) 4 (nI (nL A + 1))) := by
  rw [fLine, cIf_f (fun z => z h), cIf_f (c := A 4 = 3) (fun z => nI_not hn (by decide) (I.eL.symm.trans z))]
  rw [I.eL, nI_1]
theorem fCleaning_1 {x y m : Int32} (h : ¬ (inR x 0 3 ∧ inR y 0 3 ∧ inR m 0 99)) : fCleaning A x y m = (-1, A) := by rw [fCleaning, cIf_t h]
theorem fCleaning_y {x y m : Int32} (h : inR x 0 3 ∧ inR y 0 3 ∧ inR m 0 99) : fCleaning A x y m = (A (15 + 4 * iN x + iN y), upd A (15 + 4 * iN x + iN y) m) := by rw [fCleaning, cIf_f (fun z => z h)]
theorem fSet_1 {x y : Int32} (h : ¬ (inR x 0 1 ∧ inR y 0 (cIf (x = 0) 100 50))) : fSet A x y = (-1, A) := by rw [fSet, cIf_t h]
theorem fSet_y {x y : Int32} (h : inR x 0 1 ∧ inR y 0 (cIf (x = 0) 100 50)) : fSet A x y = (A (iN x), upd A (iN x) y) := by rw [fSet, cIf_f (fun z => z h)]
theorem fBegin_1 {x m y : Int32} (h : ¬ (isRec A x ∧ inR m 1 999 ∧ isVes A y)) : fBegin A x m y = (-1, A) := by rw [fBegin, cIf_t h]
theorem fBegin_2 {x m y : Int32} (h : isRec A x ∧ inR m 1 999 ∧ isVes A y) (h2 : ¬ (¬ A (31 + 18 * iN x + 1) = 0 ∧ tkF A (iN y) (stg A (iN x) 0 0) m)) : fBegin A x m y = (-2, A) := by rw [fBegin, cIf_f (fun z => z h), cIf_t h2]
theorem fBegin_y {x m y : Int32} (h : isRec A x ∧ inR m 1 999 ∧ isVes A y) (h2 : ¬ A (31 + 18 * iN x + 1) = 0 ∧ tkF A (iN y) (stg A (iN x) 0 0) m) : fBegin A x m y = (nI (lowF A 0 6), beginA A (iN x) (iN m) (iN y) (lowF A 0 6)) := by rw [fBegin, cIf_f (fun z => z h), cIf_f (fun z => z h2)]
theorem fMove_1 {x y : Int32} (h : ¬ (isBat A x ∧ isVes A y)) : fMove A x y = (-1, A) := by rw [fMove, cIf_t h]
theorem fMove_2 {x y : Int32} (h : isBat A x ∧ isVes A y) (h2 : ltF A (iN x) (iN y) < 0) : fMove A x y = (-2, A) := by rw [fMove, cIf_f (fun z => z h), cIf_t h2]
theorem fMove_y {x y : Int32} (h : isBat A x ∧ isVes A y) (h2 : ¬ ltF A (iN x) (iN y) < 0) : fMove A x y = (ltF A (iN x) (iN y), moveA A (iN x) (iN y) (iN (ltF A (iN x) (iN y)))) := by rw [fMove, cIf_f (fun z => z h), cIf_f h2]
theorem fEnd_1 {x : Int32} (h : ¬ isBat A x) : fEnd A x = (-1, A) := by rw [fEnd, cIf_t h]
theorem fEnd_2 {x : Int32} (h : isBat A x) (h2 : ¬ (rpF A (iN x) ≤ A 5 ∧ ¬ bS A (iN x) + 1 < nS A (bR A (iN x)))) : fEnd A x = (-2, A) := by rw [fEnd, cIf_f (fun z => z h), cIf_t h2]
theorem fEnd_y {x : Int32} (h : isBat A x) (h2 : rpF A (iN x) ≤ A 5 ∧ ¬ bS A (iN x) + 1 < nS A (bR A (iN x))) : fEnd A x = (A (145 + 9 * iN x + 2), cIf (A (145 + 9 * iN x + 6) = 1) (upd (goneA A (iN x)) (11 + iN (prF A (iN x))) (A (11 + iN (prF A (iN x))) + A (145 + 9 * iN x + 2)))
      (upd (upd (goneA A (iN x)) 7 (A 7 + A (145 + 9 * iN x + 2))) 9 (A 9 + 1))) := by rw [fEnd, cIf_f (fun z => z h), cIf_f (fun z => z h2)]
theorem fDiscard_1 {x : Int32} (h : ¬ isBat A x) : fDiscard A x = (-1, A) := by rw [fDiscard, cIf_t h]
theorem fDiscard_y {x : Int32} (h : isBat A x) : fDiscard A x = (A (145 + 9 * iN x + 2), upd (goneA A (iN x)) 8 (A 8 + A (145 + 9 * iN x + 2))) := by rw [fDiscard, cIf_f (fun z => z h)]
theorem fBlend_1 {x m : Int32} (h : ¬ (isBat A x ∧ inR m 1 999)) : fBlend A x m = (-1, A) := by rw [fBlend, cIf_t h]
theorem fBlend_2 {x m : Int32} (h : isBat A x ∧ inR m 1 999) (h2 : ¬ blOk A (iN x) m) : fBlend A x m = (-2, A) := by rw [fBlend, cIf_f (fun z => z h), cIf_t h2]
theorem fBlend_y {x m : Int32} (h : isBat A x ∧ inR m 1 999) (h2 : blOk A (iN x) m) : fBlend A x m = (A (145 + 9 * iN x + 2) + m, upd (upd (upd A (11 + iN (prF A (iN x))) (A (11 + iN (prF A (iN x))) - m)) (145 + 9 * iN x + 7) (A (145 + 9 * iN x + 7) + m)) (145 + 9 * iN x + 2) (A (145 + 9 * iN x + 2) + m)) := by rw [fBlend, cIf_f (fun z => z h), cIf_f (fun z => z h2)]
theorem fPass_1 {m : Int32} (h : ¬ inR m 1 999) : fPass A m = (-1, A) := by rw [fPass, cIf_t h]
theorem fPass_3 {m : Int32} (h : inR m 1 999) (h2 : 30000 < A 5 + m) : fPass A m = (-3, A) := by rw [fPass, cIf_f (fun z => z h), cIf_t h2]
theorem fPass_y {m : Int32} (h : inR m 1 999) (h2 : ¬ 30000 < A 5 + m) : fPass A m = ((psF (upd A 5 (A 5 + m)) 0 6 0).1, upd (psF (upd A 5 (A 5 + m)) 0 6 0).2 10 ((psF (upd A 5 (A 5 + m)) 0 6 0).2 10 + (psF (upd A 5 (A 5 + m)) 0 6 0).1)) := by rw [fPass, cIf_f (fun z => z h), cIf_f h2]
end FR
/-- a plant's method does what R says: the answer, the row, and nothing outside -/
def pOp (P : Nat) (gi : GI) (R : RA) : Option Value → BcH → Prop := fun v h' => v = some (.int R.1) ∧ ∃ gi', h' = hp gi' ∧ Rel P R.2 gi' ∧ Out P gi gi'
theorem pOp_e {P : Nat} {gi : GI} {R : RA} {A : AA} {x : Int32} (hF : R = (x, A)) (h : Rel P A gi) : pOp P gi R (some (.int x)) (hp gi) := by
  subst hF
  exact ⟨rfl, gi, rfl, h, Out.rf _ _⟩
theorem pOp_m {P : Nat} {gi gi' : GI} {R : RA} {A' : AA} {x : Int32} (hF : R = (x, A')) (h : Rel P A' gi') (ho : Out P gi gi') : pOp P gi R (some (.int x)) (hp gi') := by
  subst hF
  exact ⟨rfl, gi', rfl, h, ho⟩
theorem bI_iff {c d : Prop} (h : c ↔ d) : bI c = bI d := by rw [propext h]
