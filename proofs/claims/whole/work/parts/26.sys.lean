/-! THE WHOLE SYSTEM's STATE: the row, the earlier rows (newest first), the text and its length -/
abbrev SS : Type := AA × List AA × TX × Nat
noncomputable def push (S : SS) (R : RA) : Int32 × SS := if R.1 < 0 then (R.1, S) else (R.1, (R.2, (S.1 :: S.2.1).take 4, S.2.2))
def sUndo (S : SS) : Int32 × SS := match S.2.1 with
  | [] => (-2, S)
  | B :: H => (nI H.length, (B, H, S.2.2))
noncomputable def sType (S : SS) (x : Int32) : Int32 × SS := ((fType S.2.2.1 S.2.2.2 x).1, (S.1, S.2.1, (fType S.2.2.1 S.2.2.2 x).2.1, (fType S.2.2.1 S.2.2.2 x).2.2))
def sClear (S : SS) : Int32 × SS := (nI S.2.2.2, (S.1, S.2.1, S.2.2.1, 0))
/-- all commands of the text, from the present row on -/
noncomputable def plS (S : SS) : Option (Nat × Int32) × Nat × AA := plF S.2.2.1 S.2.2.2 80 0 S.1 0
noncomputable def fFault (S : SS) (w : Int32) : Int32 := cIf (¬ inR w 0 1) (-1) (match (plS S).1 with
  | none => -4
  | some q => cIf (w = 0) (nI q.1) q.2)
noncomputable def sPlay (S : SS) : Int32 × SS := match (plS S).1 with
  | none => push S (nI (plS S).2.1, (plS S).2.2)
  | some _ => (-2, S)
noncomputable def fCount (S : SS) (w : Int32) : Int32 := cIf (inR w 0 10) (ctF S.1 (iN w)) (if w = 11 then nI S.2.1.length else if w = 12 then nI S.2.2.2 else cIf (inR w 20 21) (S.1 (iN w - 20)) (cIf (inR w 30 33) (S.1 (iN w - 19)) (-1)))
/-- what holds of the state -/
def SOk (N : Nat) (S : SS) : Prop := Inv N S.1 ∧ (∀ (i : Nat) (B : AA), S.2.1[i]? = some B → Inv N B) ∧ S.2.1.length ≤ 4 ∧ TxI S.2.2.1 S.2.2.2
/-- the ring's place of the i-th newest row -/
def rg (o i : Nat) : Nat := (o + 4 - i) % 5
theorem rg_lt (o i : Nat) : rg o i < 5 := Nat.mod_lt _ (by omega)
theorem rg_0 {o : Nat} (h : o < 5) : rg o 0 = prO o := by unfold rg prO; split <;> omega
theorem rg_nx {o : Nat} (h : o < 5) : rg (nxO o) 0 = o := by unfold rg nxO; split <;> omega
theorem rg_nxS {o i : Nat} (h : o < 5) (hi : i < 4) : rg (nxO o) (i + 1) = rg o i := by unfold rg nxO; split <;> omega
theorem rg_prS {o i : Nat} (h : o < 5) (hi : i < 4) : rg (prO o) i = rg o (i + 1) := by unfold rg prO; split <;> omega
theorem rg_ne {o i : Nat} (h : o < 5) (hi : i < 4) : rg o i ≠ o := by unfold rg; omega
theorem need_lt {r j : Nat} (h : need r j) : r < 47 := by unfold need at h; omega
theorem rel_same {P : Nat} {A : AA} {gi g' : GI} (h : Rel P A gi) (e : ∀ k, P ≤ k → k < P + 47 → g' k = gi k) : Rel P A g' := rel_copy h (fun r j hn => by rw [e _ (by omega) (by have := need_lt hn; omega)])
theorem zb_same {P : Nat} {gi g' : GI} (h : Zb P gi) (e : ∀ k, P ≤ k → k < P + 47 → g' k = gi k) : Zb P g' := zb_copy h (fun r j hn => by rw [e _ (by omega) (by have := need_lt hn; omega)])
/-- the marks of what is there -/
theorem th01 {P N : Nat} {A : AA} {gi : GI} (h : Rel P A gi) (I : Inv N A) : ∀ b, b < 6 → gi (P + 41 + b) 0 = 0 ∨ gi (P + 41 + b) 0 = 1 := fun b hb => by rw [(h.2.2.2.2.1 b hb).1]; exact (I.2.2.2.2.2.1 b hb).1
/-- the class's cells tell the state; o: the ring's open place -/
def RelCo (o : Nat) (S : SS) (gi : GI) : Prop := o < 5 ∧ gi 95 1 = nI o ∧ gi 95 2 = nI S.2.1.length ∧ Rel 1 S.1 gi ∧ Zb 1 gi ∧ RelX S.2.2.1 S.2.2.2 gi ∧ ∀ (i : Nat) (B : AA), S.2.1[i]? = some B → Rel (97 + 47 * rg o i) B gi ∧ Zb (97 + 47 * rg o i) gi
def RelC (S : SS) (gi : GI) : Prop := ∃ o, RelCo o S gi
/-- a call of the class did what the state's step says -/
def pX (gi0 : GI) (R : Int32 × SS) : Option Value → BcH → Prop := fun v h' => v = some (.int R.1) ∧ ∃ gi, h' = hp gi ∧ RelC R.2 gi ∧ ∀ k, 335 ≤ k → gi k = gi0 k
theorem push_1 (S : SS) (R : RA) : (push S R).1 = R.1 := by unfold push; split <;> rfl
theorem take_get {A B : AA} {H : List AA} {i : Nat} (h : ((A :: H).take 4)[i]? = some B) : i < 4 ∧ ((i = 0 ∧ B = A) ∨ ∃ k, i = k + 1 ∧ H[k]? = some B) := by
  rw [List.getElem?_take] at h
  by_cases hi : i < 4
  · rw [if_pos hi] at h
    refine ⟨hi, ?_⟩
    cases i with
    | zero => exact Or.inl ⟨rfl, by simpa using h.symm⟩
    | succ k => exact Or.inr ⟨k, rfl, by simpa using h⟩
  · rw [if_neg hi] at h
    cases h
theorem take_len {A : AA} {H : List AA} (h : H.length ≤ 4) : ((A :: H).take 4).length = nxC H.length := by
  rw [List.length_take, List.length_cons, nxC]
  split <;> omega
section PU
variable {N o : Nat} {S : SS} {gi g1 g2 : GI} {R : RA}
theorem relC_push (c : RelCo o S gi) (hk : S.2.1.length ≤ 4) (e1 : ∀ r j, need r j → g1 (97 + 47 * o + r) j = gi (1 + r) j) (e2 : ∀ k, k < 97 + 47 * o ∨ 97 + 47 * o + 47 ≤ k → g1 k = gi k) (r2 : Rel 1 R.2 g2) (u2 : Out 1 g1 g2) (ok : R.1 < 0 → R.2 = S.1) : RelC (push S R).2 (stF g2 o S.2.1.length R.1) := by
  obtain ⟨ho, c1, c2, c3, c4, c5, c6⟩ := c
  have z1 : Zb 1 g2 := u2.2 (zb_same c4 (fun k h1 h2 => e2 k (by omega)))
  have out : ∀ k, (k < 97 + 47 * o ∨ 97 + 47 * o + 47 ≤ k) → 48 ≤ k → g2 k = gi k := fun k h1 h2 => (u2.1 k (by omega)).trans (e2 k h1)
  have ring : ∀ i, i < 4 → ∀ B, Rel (97 + 47 * rg o i) B gi ∧ Zb (97 + 47 * rg o i) gi → ∀ g3 : GI, (∀ k, k ≠ 95 → g3 k = g2 k) → Rel (97 + 47 * rg o i) B g3 ∧ Zb (97 + 47 * rg o i) g3 := by
    intro i hi B hB g3 h3
    have hne := rg_ne ho hi
    have e : ∀ k, 97 + 47 * rg o i ≤ k → k < 97 + 47 * rg o i + 47 → g3 k = gi k := fun k h1 h2 => (h3 k (by omega)).trans (out k (by omega) (by omega))
    exact ⟨rel_same hB.1 e, zb_same hB.2 e⟩
  have hx : ∀ g3 : GI, (∀ k, k ≠ 95 → g3 k = g2 k) → RelX S.2.2.1 S.2.2.2 g3 := fun g3 h3 => c5.same (by rw [h3 332 (by decide), out 332 (by omega) (by decide)]) (by rw [h3 333 (by decide), out 333 (by omega) (by decide)])
  unfold push stF
  by_cases h : R.1 < 0
  · rw [if_pos h, if_pos h]
    rw [ok h] at r2
    refine ⟨o, ho, ?_, ?_, r2, z1, hx g2 (fun _ _ => rfl), fun i B hB => ?_⟩
    · rw [out 95 (by omega) (by decide)]; exact c1
    · rw [out 95 (by omega) (by decide)]; exact c2
    · have hi : i < 4 := Nat.lt_of_lt_of_le (List.getElem?_eq_some_iff.mp hB).1 hk
      exact ring i hi B (c6 i B hB) g2 (fun _ _ => rfl)
  · rw [if_neg h, if_neg h]
    have h3 : ∀ k, k ≠ 95 → wI (wI g2 95 1 (nI (nxO o))) 95 2 (nI (nxC S.2.1.length)) k = g2 k := fun k hk => by rw [wI_row hk, wI_row hk]
    refine ⟨nxO o, nxO_lt o, ?_, ?_, rel_same r2 (fun k h1 h2 => h3 k (by omega)), zb_same z1 (fun k h1 h2 => h3 k (by omega)), hx _ h3, fun i B hB => ?_⟩
    · rw [wI_ne (by omega), wI_eq]
    · rw [wI_eq, take_len hk]
    · obtain ⟨hi, ⟨rfl, rfl⟩ | ⟨k, rfl, hk'⟩⟩ := take_get hB
      · rw [rg_nx ho]
        have e : ∀ r j, need r j → wI (wI g2 95 1 (nI (nxO o))) 95 2 (nI (nxC S.2.1.length)) (97 + 47 * o + r) j = gi (1 + r) j := fun r j hn => by
          have := need_lt hn
          rw [h3 _ (by omega), u2.1 _ (by omega)]
          exact e1 r j hn
        exact ⟨rel_copy c3 e, zb_copy c4 e⟩
      · rw [rg_nxS ho (by omega)]
        exact ring k (by omega) B (c6 k B hk') _ h3
theorem pX_push (c : RelCo o S gi) (hk : S.2.1.length ≤ 4) (e1 : ∀ r j, need r j → g1 (97 + 47 * o + r) j = gi (1 + r) j) (e2 : ∀ k, k < 97 + 47 * o ∨ 97 + 47 * o + 47 ≤ k → g1 k = gi k) (r2 : Rel 1 R.2 g2) (u2 : Out 1 g1 g2) (ok : R.1 < 0 → R.2 = S.1) : pX gi (push S R) (some (.int R.1)) (hp (stF g2 o S.2.1.length R.1)) := by
  refine ⟨by rw [push_1], _, rfl, relC_push c hk e1 e2 r2 u2 ok, fun k hk => ?_⟩
  have ho := c.1
  have : g2 k = gi k := (u2.1 k (by omega)).trans (e2 k (by omega))
  unfold stF
  split
  · exact this
  · rw [wI_row (by omega), wI_row (by omega)]; exact this
theorem pushOk (k : SOk N S) (h : okR N S.1 R) (hN : N + 99 < 100000000) : SOk (N + 99) (push S R).2 := by
  obtain ⟨k1, k2, k3, k4⟩ := k
  unfold push
  by_cases q : R.1 < 0
  · rw [if_pos q]
    exact ⟨k1.mono (by omega) hN, fun i B hB => (k2 i B hB).mono (by omega) hN, k3, k4⟩
  · rw [if_neg q]
    refine ⟨h.1, fun i B hB => ?_, ?_, k4⟩
    · obtain ⟨hi, ⟨-, rfl⟩ | ⟨k, -, hk'⟩⟩ := take_get hB
      · exact k1.mono (by omega) hN
      · exact (k2 k B hk').mono (by omega) hN
    · show ((S.1 :: S.2.1).take 4).length ≤ 4
      rw [take_len k3]
      exact nxC_le _
end PU
/-- undo -/
theorem relC_undo {o : Nat} {A B : AA} {H : List AA} {X : TX × Nat} {gi g2 : GI} (c : RelCo o (A, B :: H, X) gi) (hk : H.length < 4) (e1 : ∀ r j, need r j → g2 (1 + r) j = gi (97 + 47 * prO o + r) j) (e2 : ∀ k, k < 1 ∨ 48 ≤ k → k ≠ 95 → g2 k = gi k) (h1 : g2 95 1 = nI (prO o)) (h2 : g2 95 2 = nI H.length) : RelC (B, H, X) g2 := by
  obtain ⟨ho, c1, c2, c3, c4, c5, c6⟩ := c
  obtain ⟨q1, q2⟩ := c6 0 B rfl
  rw [rg_0 ho] at q1 q2
  refine ⟨prO o, prO_lt ho, h1, h2, rel_copy q1 e1, zb_copy q2 e1, c5.same (by rw [e2 332 (by omega) (by decide)]) (e2 333 (by omega) (by decide)), fun i C hC => ?_⟩
  have hi : i < H.length := (List.getElem?_eq_some_iff.mp hC).1
  rw [rg_prS ho (by omega)]
  obtain ⟨s1, s2⟩ := c6 (i + 1) C hC
  exact ⟨rel_same s1 (fun k h1 h2 => e2 k (by omega) (by omega)), zb_same s2 (fun k h1 h2 => e2 k (by omega) (by omega))⟩
