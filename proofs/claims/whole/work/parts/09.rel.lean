/-! WHAT HOLDS OF THE ROW A, AND HOW A PLANT's CELLS TELL IT -/
/-- a number of at most c -/
def bd (x : Int32) (c : Nat) : Prop := x = nI (iN x) ∧ iN x ≤ c
theorem bd_n {n c : Nat} (h : n ≤ c) (hc : c < 2 ^ 31) : bd (nI n) c := by
  have e := iN_n (n := n) (by omega)
  exact ⟨by rw [e], by rw [e]; exact h⟩
theorem bd_mono {x : Int32} {c d : Nat} (h : bd x c) (hd : c ≤ d) : bd x d := ⟨h.1, Nat.le_trans h.2 hd⟩
theorem bd_0 (c : Nat) : bd 0 c := ⟨rfl, Nat.zero_le _⟩
theorem bd_ex {x : Int32} {c : Nat} (h : bd x c) : ∃ n, n ≤ c ∧ x = nI n := ⟨iN x, h.2, h.1⟩
theorem bd_nn {x : Int32} {c : Nat} (h : bd x c) (hc : c < 2 ^ 31) : ¬ x < 0 := by rw [h.1]; exact nI_pos (by have := h.2; omega)
def InvS (A : AA) : Prop := bd (A 2) 4 ∧ bd (A 3) 6 ∧ bd (A 4) 3 ∧ bd (A 5) 30000 ∧ bd (A 0) 100 ∧ bd (A 1) 50
def InvT (A : AA) : Prop := ∀ i, i < 16 → bd (A (15 + i)) 99
def InvR (A : AA) : Prop := ∀ r, r < 4 → bd (A (31 + 18 * r)) 3 ∧ bd (A (31 + 18 * r + 1)) 4 ∧ ∀ k, k < 4 → bd (stg A r k 0) 2 ∧ bd (stg A r k 1) 200 ∧ bd (stg A r k 2) 500 ∧ bd (stg A r k 3) 500
def InvV (N : Nat) (A : AA) : Prop := ∀ v, v < 6 → bd (A (103 + 5 * v)) 2 ∧ bd (A (103 + 5 * v + 1)) 999 ∧ (A (103 + 5 * v + 2) = -1 ∨ bd (A (103 + 5 * v + 2)) 5) ∧ (A (103 + 5 * v + 3) = -1 ∨ bd (A (103 + 5 * v + 3)) 3) ∧ bd (A (103 + 5 * v + 4)) N
def InvL (A : AA) : Prop := ∀ k, k < 3 → (k < nL A → bd (A (133 + 4 * k + 1)) 99 ∧ 1 ≤ iN (A (133 + 4 * k + 1))) ∧ bd (A (133 + 4 * k + 2)) 32000 ∧ (nL A ≤ k → A (133 + 4 * k + 2) = 0 ∧ A (133 + 4 * k + 3) = 0)
/-- what holds of a batch that is there -/
def InvB1 (A : AA) (b : Nat) : Prop :=
  (A (145 + 9 * b + 1) = nI (bR A b) ∧ bR A b < nR A) ∧ (A (145 + 9 * b + 3) = nI (bS A b) ∧ bS A b < nS A (bR A b)) ∧ (A (145 + 9 * b + 4) = nI (bV A b) ∧ bV A b < nV A ∧ A (103 + 5 * bV A b + 2) = nI b) ∧
  bd (A (145 + 9 * b + 2)) 999 ∧ bd (A (145 + 9 * b + 5)) 32000 ∧ bd (A (145 + 9 * b + 6)) 1 ∧ bd (A (145 + 9 * b + 7)) 999 ∧ bd (A (145 + 9 * b + 8)) 999
def InvB (A : AA) : Prop := ∀ b, b < 6 → (A (145 + 9 * b) = 0 ∨ A (145 + 9 * b) = 1) ∧ (live A b → InvB1 A b)
def Inv (N : Nat) (A : AA) : Prop := InvS A ∧ InvT A ∧ InvR A ∧ InvV N A ∧ InvL A ∧ InvB A ∧ (∀ j, 199 ≤ j → A j = 0) ∧ N < 100000000
/-! the plant at the cell P tells A -/
def RelS (P : Nat) (A : AA) (gi : GI) : Prop := gi P 1 = A 2 ∧ gi P 3 = A 3 ∧ gi P 5 = A 4 ∧ gi P 10 = A 5 ∧ gi P 11 = A 6 ∧ gi P 12 = A 7 ∧ gi P 13 = A 8 ∧ gi P 14 = A 9 ∧ gi P 15 = A 10
def RelR (P : Nat) (A : AA) (gi : GI) : Prop := ∀ r, r < 4 → gi (P + 8 + 6 * r) 0 = A (31 + 18 * r) ∧ gi (P + 8 + 6 * r) 1 = A (31 + 18 * r + 1) ∧ ∀ k, k < 4 → gi (P + 10 + 6 * r + k) 0 = stg A r k 0 ∧ gi (P + 10 + 6 * r + k) 1 = stg A r k 1 ∧ gi (P + 10 + 6 * r + k) 2 = stg A r k 2 ∧ gi (P + 10 + 6 * r + k) 3 = stg A r k 3
def RelV (P : Nat) (A : AA) (gi : GI) : Prop := ∀ v, v < 6 → (v < nV A → gi (P + 32 + v) 0 = A (103 + 5 * v) ∧ gi (P + 32 + v) 1 = A (103 + 5 * v + 1) ∧ gi (P + 32 + v) 2 = A (103 + 5 * v + 2) ∧ gi (P + 32 + v) 3 = A (103 + 5 * v + 3) ∧ gi (P + 32 + v) 4 = A (103 + 5 * v + 4)) ∧ (nV A ≤ v → gi (P + 32 + v) 2 = -1 ∧ gi (P + 32 + v) 3 = -1 ∧ gi (P + 32 + v) 4 = 0)
def RelL (P : Nat) (A : AA) (gi : GI) : Prop := ∀ k, k < 3 → gi (P + 38 + k) 0 = A (133 + 4 * k) ∧ gi (P + 38 + k) 1 = A (133 + 4 * k + 1) ∧ gi (P + 38 + k) 2 = A (133 + 4 * k + 2) ∧ gi (P + 38 + k) 3 = A (133 + 4 * k + 3)
def RelB1 (P : Nat) (A : AA) (gi : GI) (b : Nat) : Prop :=
  gi (P + 41 + b) 1 = A (145 + 9 * b + 1) ∧ gi (P + 41 + b) 2 = prF A b ∧ gi (P + 41 + b) 3 = A (145 + 9 * b + 8) ∧ gi (P + 41 + b) 4 = A (145 + 9 * b + 2) ∧ gi (P + 41 + b) 5 = A (145 + 9 * b + 7) ∧ gi (P + 41 + b) 6 = A (145 + 9 * b + 6) ∧ gi (P + 41 + b) 7 = A (145 + 9 * b + 3) ∧ gi (P + 41 + b) 8 = A (145 + 9 * b + 4) ∧ gi (P + 41 + b) 9 = A (145 + 9 * b + 5) ∧ gi (P + 41 + b) 10 = ovF A b ∧ gi (P + 41 + b) 11 = rpF A b ∧ gi (P + 41 + b) 12 = gdF A b
def RelB (P : Nat) (A : AA) (gi : GI) : Prop := ∀ b, b < 6 → gi (P + 41 + b) 0 = A (145 + 9 * b) ∧ (live A b → RelB1 P A gi b)
def RelT (P : Nat) (A : AA) (gi : GI) : Prop := (∀ i, i < 16 → gi (P + 5) i = A (15 + i)) ∧ gi (P + 6) 0 = A 0 ∧ gi (P + 6) 1 = A 1 ∧ (∀ i, i < 4 → gi (P + 7) i = A (11 + i))
def Rel (P : Nat) (A : AA) (gi : GI) : Prop := RelS P A gi ∧ RelR P A gi ∧ RelV P A gi ∧ RelL P A gi ∧ RelB P A gi ∧ RelT P A gi
/-- the batches' marks are 0 or 1 -/
def Zb (P : Nat) (gi : GI) : Prop := ∀ b, b < 6 → gi (P + 41 + b) 6 = 0 ∨ gi (P + 41 + b) 6 = 1
/-- outside the plant nothing has changed; the marks stay marks -/
def Out (P : Nat) (gi gi' : GI) : Prop := (∀ k, k < P ∨ P + 47 ≤ k → gi' k = gi k) ∧ (Zb P gi → Zb P gi')
theorem Out.rf (P : Nat) (gi : GI) : Out P gi gi := ⟨fun _ _ => rfl, fun z => z⟩
theorem Out.wI {P : Nat} {gi gi' : GI} {k j : Nat} {v : Int32} (h : Out P gi gi') (h1 : P ≤ k) (h2 : k < P + 47) (h3 : ∀ b, b < 6 → P + 41 + b = k → j = 6 → v = 0 ∨ v = 1 := by (intros; first | omega | exact Or.inl rfl | exact Or.inr rfl)) : Out P gi (wI gi' k j v) := by
  refine ⟨fun a ha => by rw [wI_row (by omega), h.1 a ha], fun z b hb => ?_⟩
  rw [wI_at]
  by_cases e : P + 41 + b = k ∧ 6 = j
  · rw [if_pos e]
    exact h3 b hb e.1 e.2.symm
  · rw [if_neg e]
    exact h.2 z b hb
theorem Out.trans {P : Nat} {g1 g2 g3 : GI} (h : Out P g1 g2) (h' : Out P g2 g3) : Out P g1 g3 := ⟨fun a ha => by rw [h'.1 a ha, h.1 a ha], fun z => h'.2 (h.2 z)⟩
section RC
variable {P : Nat} {A A' : AA} {gi gi' : GI}
theorem relS_c (h : RelS P A gi) (hg : gi' P = gi P) (ha : ∀ j, 2 ≤ j → j < 11 → A' j = A j) : RelS P A' gi' := by
  unfold RelS at h ⊢
  rw [hg, ha 2 (by omega) (by omega), ha 3 (by omega) (by omega), ha 4 (by omega) (by omega), ha 5 (by omega) (by omega), ha 6 (by omega) (by omega), ha 7 (by omega) (by omega), ha 8 (by omega) (by omega), ha 9 (by omega) (by omega), ha 10 (by omega) (by omega)]
  exact h
theorem stg_c (ha : ∀ j, 31 ≤ j → j < 103 → A' j = A j) {r k w : Nat} (hr : r < 4) (hk : k < 4) (hw : w < 4) : stg A' r k w = stg A r k w := ha _ (by omega) (by omega)
theorem relR_c (h : RelR P A gi) (hg : ∀ k, 8 ≤ k → k < 32 → gi' (P + k) = gi (P + k)) (ha : ∀ j, 31 ≤ j → j < 103 → A' j = A j) : RelR P A' gi' := by
  intro r hr
  obtain ⟨h1, h2, h3⟩ := h r hr
  have e1 : gi' (P + 8 + 6 * r) = gi (P + 8 + 6 * r) := by rw [show P + 8 + 6 * r = P + (8 + 6 * r) by omega]; exact hg _ (by omega) (by omega)
  refine ⟨by rw [e1, ha _ (by omega) (by omega)]; exact h1, by rw [e1, ha _ (by omega) (by omega)]; exact h2, fun k hk => ?_⟩
  have e2 : gi' (P + 10 + 6 * r + k) = gi (P + 10 + 6 * r + k) := by rw [show P + 10 + 6 * r + k = P + (10 + 6 * r + k) by omega]; exact hg _ (by omega) (by omega)
  rw [e2, stg_c ha hr hk (by omega), stg_c ha hr hk (by omega), stg_c ha hr hk (by omega), stg_c ha hr hk (by omega)]
  exact h3 k hk
theorem relV_c (h : RelV P A gi) (hg : ∀ k, 32 ≤ k → k < 38 → gi' (P + k) = gi (P + k)) (ha : ∀ j, 103 ≤ j → j < 133 → A' j = A j) (hn : A' 3 = A 3) : RelV P A' gi' := by
  intro v hv
  have e1 : gi' (P + 32 + v) = gi (P + 32 + v) := by rw [show P + 32 + v = P + (32 + v) by omega]; exact hg _ (by omega) (by omega)
  rw [e1, ha _ (by omega) (by omega), ha (103 + 5 * v + 1) (by omega) (by omega), ha (103 + 5 * v + 2) (by omega) (by omega), ha (103 + 5 * v + 3) (by omega) (by omega), ha (103 + 5 * v + 4) (by omega) (by omega), show nV A' = nV A by rw [nV, nV, hn]]
  exact h v hv
theorem relL_c (h : RelL P A gi) (hg : ∀ k, 38 ≤ k → k < 41 → gi' (P + k) = gi (P + k)) (ha : ∀ j, 133 ≤ j → j < 145 → A' j = A j) : RelL P A' gi' := by
  intro k hk
  have e1 : gi' (P + 38 + k) = gi (P + 38 + k) := by rw [show P + 38 + k = P + (38 + k) by omega]; exact hg _ (by omega) (by omega)
  rw [e1, ha _ (by omega) (by omega), ha (133 + 4 * k + 1) (by omega) (by omega), ha (133 + 4 * k + 2) (by omega) (by omega), ha (133 + 4 * k + 3) (by omega) (by omega)]
  exact h k hk
theorem relT_c (h : RelT P A gi) (hg : ∀ k, 5 ≤ k → k < 8 → gi' (P + k) = gi (P + k)) (h0 : A' 0 = A 0) (h1 : A' 1 = A 1) (ha : ∀ j, 11 ≤ j → j < 31 → A' j = A j) : RelT P A' gi' := by
  obtain ⟨a, b, c, d⟩ := h
  refine ⟨fun i hi => ?_, ?_, ?_, fun i hi => ?_⟩
  · rw [hg 5 (by omega) (by omega), ha _ (by omega) (by omega)]; exact a i hi
  · rw [hg 6 (by omega) (by omega), h0]; exact b
  · rw [hg 6 (by omega) (by omega), h1]; exact c
  · rw [hg 7 (by omega) (by omega), ha _ (by omega) (by omega)]; exact d i hi
/-- the derived times of a batch depend on its own numbers and its recipe's -/
theorem bat_c {b : Nat} (hb : b < 6) (hr : bR A b < 4) (hs : bS A b < 4) (ha : ∀ j, 31 ≤ j → j < 103 → A' j = A j) (h1 : A' (145 + 9 * b + 1) = A (145 + 9 * b + 1)) (h3 : A' (145 + 9 * b + 3) = A (145 + 9 * b + 3)) (h5 : A' (145 + 9 * b + 5) = A (145 + 9 * b + 5)) :
    bR A' b = bR A b ∧ bS A' b = bS A b ∧ prF A' b = prF A b ∧ ovF A' b = ovF A b ∧ rpF A' b = rpF A b ∧ gdF A' b = gdF A b := by
  have e1 : bR A' b = bR A b := by rw [bR, bR, h1]
  have e2 : bS A' b = bS A b := by rw [bS, bS, h3]
  have e3 : ovF A' b = ovF A b := by rw [ovF, ovF, e1, e2, h5, stg_c ha hr hs (by omega)]
  refine ⟨e1, e2, by rw [prF, prF, e1, ha _ (by omega) (by omega)], e3, ?_, ?_⟩
  · rw [rpF, rpF, e3, e1, e2, stg_c ha hr hs (by omega)]
  · rw [gdF, gdF, e3, e1, e2, stg_c ha hr hs (by omega)]
theorem relB_c (hI : InvB A) (hn : nR A ≤ 4) (hR : InvR A) (h : RelB P A gi) (hg : ∀ k, 41 ≤ k → k < 47 → gi' (P + k) = gi (P + k)) (ha : ∀ j, 31 ≤ j → j < 103 → A' j = A j) (hb : ∀ j, 145 ≤ j → j < 199 → A' j = A j) : RelB P A' gi' := by
  intro b hb6
  have e1 : gi' (P + 41 + b) = gi (P + 41 + b) := by rw [show P + 41 + b = P + (41 + b) by omega]; exact hg _ (by omega) (by omega)
  obtain ⟨h1, h2⟩ := h b hb6
  refine ⟨by rw [e1, hb _ (by omega) (by omega)]; exact h1, fun hl => ?_⟩
  have hl' : live A b := by unfold live at hl ⊢; rw [hb _ (by omega) (by omega)] at hl; exact hl
  have hi := (hI b hb6).2 hl'
  have hr4 : bR A b < 4 := Nat.lt_of_lt_of_le hi.1.2 hn
  have hs4 : bS A b < 4 := Nat.lt_of_lt_of_le hi.2.1.2 (hR _ hr4).2.1.2
  obtain ⟨c1, c2, c3, c4, c5, c6⟩ := bat_c (A' := A') hb6 hr4 hs4 ha (hb _ (by omega) (by omega)) (hb _ (by omega) (by omega)) (hb _ (by omega) (by omega))
  unfold RelB1
  rw [e1, c3, c4, c5, c6, hb _ (by omega) (by omega), hb (145 + 9 * b + 8) (by omega) (by omega), hb (145 + 9 * b + 2) (by omega) (by omega), hb (145 + 9 * b + 7) (by omega) (by omega), hb (145 + 9 * b + 6) (by omega) (by omega), hb (145 + 9 * b + 3) (by omega) (by omega), hb (145 + 9 * b + 4) (by omega) (by omega), hb (145 + 9 * b + 5) (by omega) (by omega)]
  exact h2 hl'
end RC
/-! what Inv gives -/
section IV
variable {N : Nat} {A : AA} (I : Inv N A)
theorem Inv.nR4 (I : Inv N A) : nR A ≤ 4 := I.1.1.2
theorem Inv.nV6 (I : Inv N A) : nV A ≤ 6 := I.1.2.1.2
theorem Inv.nL3 (I : Inv N A) : nL A ≤ 3 := I.1.2.2.1.2
theorem Inv.eR (I : Inv N A) : A 2 = nI (nR A) := I.1.1.1
theorem Inv.eV (I : Inv N A) : A 3 = nI (nV A) := I.1.2.1.1
theorem Inv.eL (I : Inv N A) : A 4 = nI (nL A) := I.1.2.2.1.1
theorem Inv.nS4 (I : Inv N A) {r : Nat} (hr : r < 4) : nS A r ≤ 4 := (I.2.2.1 r hr).2.1.2
theorem Inv.eS (I : Inv N A) {r : Nat} (hr : r < 4) : A (31 + 18 * r + 1) = nI (nS A r) := (I.2.2.1 r hr).2.1.1
theorem Inv.b1 (I : Inv N A) {b : Nat} (hb : b < 6) (hl : live A b) : InvB1 A b := (I.2.2.2.2.2.1 b hb).2 hl
theorem Inv.bR4 (I : Inv N A) {b : Nat} (hb : b < 6) (hl : live A b) : bR A b < 4 := Nat.lt_of_lt_of_le (I.b1 hb hl).1.2 I.nR4
theorem Inv.bS4 (I : Inv N A) {b : Nat} (hb : b < 6) (hl : live A b) : bS A b < 4 := Nat.lt_of_lt_of_le (I.b1 hb hl).2.1.2 (I.nS4 (I.bR4 hb hl))
theorem Inv.bV6 (I : Inv N A) {b : Nat} (hb : b < 6) (hl : live A b) : bV A b < 6 := Nat.lt_of_lt_of_le (I.b1 hb hl).2.2.1.2.1 I.nV6
end IV
