/-! WHAT THE CLASS WRITES TELLS WHAT THE ROW BECOMES: call by call -/
section RO
variable {N P : Nat} {A A' : AA} {gi gi' : GI}
theorem relB_d (h : RelB P A gi) (hg : ∀ k, 41 ≤ k → k < 47 → gi' (P + k) = gi (P + k)) (hb : ∀ j, 145 ≤ j → j < 199 → A' j = A j) (hr : ∀ b, b < 6 → live A b → prF A' b = prF A b ∧ ovF A' b = ovF A b ∧ rpF A' b = rpF A b ∧ gdF A' b = gdF A b) : RelB P A' gi' := by
  intro b hb6
  have e1 : gi' (P + 41 + b) = gi (P + 41 + b) := by rw [show P + 41 + b = P + (41 + b) by omega]; exact hg _ (by omega) (by omega)
  obtain ⟨h1, h2⟩ := h b hb6
  refine ⟨by rw [e1, hb _ (by omega) (by omega)]; exact h1, fun hl => ?_⟩
  have hl' : live A b := by unfold live at hl ⊢; rw [hb _ (by omega) (by omega)] at hl; exact hl
  obtain ⟨c3, c4, c5, c6⟩ := hr b hb6 hl'
  unfold RelB1
  rw [e1, c3, c4, c5, c6, hb _ (by omega) (by omega), hb (145 + 9 * b + 8) (by omega) (by omega), hb (145 + 9 * b + 2) (by omega) (by omega), hb (145 + 9 * b + 7) (by omega) (by omega), hb (145 + 9 * b + 6) (by omega) (by omega), hb (145 + 9 * b + 3) (by omega) (by omega), hb (145 + 9 * b + 4) (by omega) (by omega), hb (145 + 9 * b + 5) (by omega) (by omega)]
  exact h2 hl'
/-- the same recipe's numbers give the same times -/
theorem bat_d {b r : Nat} (hbr : bR A b = r) (h1 : A' (145 + 9 * b + 1) = A (145 + 9 * b + 1)) (h3 : A' (145 + 9 * b + 3) = A (145 + 9 * b + 3)) (h5 : A' (145 + 9 * b + 5) = A (145 + 9 * b + 5)) (hp : A' (31 + 18 * r) = A (31 + 18 * r)) (hs : ∀ w, w < 4 → stg A' r (bS A b) w = stg A r (bS A b) w) :
    prF A' b = prF A b ∧ ovF A' b = ovF A b ∧ rpF A' b = rpF A b ∧ gdF A' b = gdF A b := by
  subst hbr
  have e1 : bR A' b = bR A b := by rw [bR, bR, h1]
  have e2 : bS A' b = bS A b := by rw [bS, bS, h3]
  have e3 : ovF A' b = ovF A b := by rw [ovF, ovF, e1, e2, h5, hs 1 (by omega)]
  refine ⟨by rw [prF, prF, e1, hp], e3, ?_, ?_⟩
  · rw [rpF, rpF, e3, e1, e2, hs 2 (by omega)]
  · rw [gdF, gdF, e3, e1, e2, hs 3 (by omega)]
theorem rel_recipe (h : Rel P A gi) (I : Inv N A) (hn : nR A < 4) (p : Int32) : Rel P (upd (upd (upd A (31 + 18 * nR A) p) (31 + 18 * nR A + 1) 0) 2 (nI (nR A + 1))) (wI (wI (wI gi P 1 (nI (nR A + 1))) (P + 8 + 6 * nR A) 0 p) (P + 8 + 6 * nR A) 1 0) := by
  obtain ⟨hS, hR, hV, hL, hB, hT⟩ := h
  generalize hnn : nR A = n at hn ⊢
  refine ⟨?_, ?_, relV_c hV (fun k h1 h2 => ?_) (fun j h1 h2 => ?_) ?_, relL_c hL (fun k h1 h2 => ?_) (fun j h1 h2 => ?_), relB_d hB (fun k h1 h2 => ?_) (fun j h1 h2 => ?_) (fun b hb hl => ?_), relT_c hT (fun k h1 h2 => ?_) ?_ ?_ (fun j h1 h2 => ?_)⟩
  · obtain ⟨a1, a2, a3, a4, a5, a6, a7, a8, a9⟩ := hS
    refine ⟨?_, ?_, ?_, ?_, ?_, ?_, ?_, ?_, ?_⟩ <;> simp (disch := omega) only [wI_ne, wI_eq, upd_ne, upd_eq] <;> assumption
  · intro r hr
    obtain ⟨h1, h2, h3⟩ := hR r hr
    by_cases e : r = n
    · subst e
      refine ⟨?_, ?_, fun k hk => ?_⟩
      · simp (disch := omega) only [wI_ne, wI_eq, upd_ne, upd_eq]
      · simp (disch := omega) only [wI_ne, wI_eq, upd_ne, upd_eq]
      · obtain ⟨q0, q1, q2, q3⟩ := h3 k hk
        unfold stg at *
        simp (disch := omega) only [wI_ne, wI_eq, upd_ne, upd_eq]
        exact ⟨q0, q1, q2, q3⟩
    · refine ⟨?_, ?_, fun k hk => ?_⟩
      · simp (disch := omega) only [wI_ne, wI_eq, upd_ne, upd_eq]; exact h1
      · simp (disch := omega) only [wI_ne, wI_eq, upd_ne, upd_eq]; exact h2
      · obtain ⟨q0, q1, q2, q3⟩ := h3 k hk
        unfold stg at *
        simp (disch := omega) only [wI_ne, wI_eq, upd_ne, upd_eq]
        exact ⟨q0, q1, q2, q3⟩
  · simp (disch := omega) only [wI_row]
  · simp (disch := omega) only [upd_ne]
  · simp (disch := omega) only [upd_ne]
  · simp (disch := omega) only [wI_row]
  · simp (disch := omega) only [upd_ne]
  · simp (disch := omega) only [wI_row]
  · simp (disch := omega) only [upd_ne]
  · have i := (I.b1 hb hl)
    have hlt : bR A b < n := by rw [← hnn]; exact i.1.2
    have hs4 := I.bS4 hb hl
    refine bat_d rfl ?_ ?_ ?_ ?_ (fun w hw => ?_)
    · simp (disch := omega) only [upd_ne]
    · simp (disch := omega) only [upd_ne]
    · simp (disch := omega) only [upd_ne]
    · simp (disch := omega) only [upd_ne]
    · unfold stg; simp (disch := omega) only [upd_ne]
  · simp (disch := omega) only [wI_row]
  · simp (disch := omega) only [upd_ne]
  · simp (disch := omega) only [upd_ne]
  · simp (disch := omega) only [upd_ne]
theorem rel_stage (h : Rel P A gi) (I : Inv N A) {r : Nat} (hr0 : r < nR A) (hm : ¬ isMade A (nI r)) (hn : nS A r < 4) (a0 a1 a2 a3 : Int32) :
    Rel P (upd (upd (upd (upd (upd A (31 + 18 * r + 2 + 4 * nS A r) a0) (31 + 18 * r + 2 + 4 * nS A r + 1) a1) (31 + 18 * r + 2 + 4 * nS A r + 2) a2) (31 + 18 * r + 2 + 4 * nS A r + 3) a3) (31 + 18 * r + 1) (nI (nS A r + 1)))
      (wI (wI (wI (wI (wI gi (P + 8 + 6 * r) 1 (nI (nS A r + 1))) (P + 10 + 6 * r + nS A r) 0 a0) (P + 10 + 6 * r + nS A r) 1 a1) (P + 10 + 6 * r + nS A r) 2 a2) (P + 10 + 6 * r + nS A r) 3 a3) := by
  obtain ⟨hS, hR, hV, hL, hB, hT⟩ := h
  have hr4 : r < 4 := Nat.lt_of_lt_of_le hr0 I.nR4
  generalize hnn : nS A r = n at hn ⊢
  refine ⟨relS_c hS ?_ (fun j h1 h2 => ?_), ?_, relV_c hV (fun k h1 h2 => ?_) (fun j h1 h2 => ?_) ?_, relL_c hL (fun k h1 h2 => ?_) (fun j h1 h2 => ?_), relB_d hB (fun k h1 h2 => ?_) (fun j h1 h2 => ?_) (fun b hb hl => ?_), relT_c hT (fun k h1 h2 => ?_) ?_ ?_ (fun j h1 h2 => ?_)⟩
  · simp (disch := omega) only [wI_row]
  · simp (disch := omega) only [upd_ne]
  · intro q hq
    obtain ⟨h1, h2, h3⟩ := hR q hq
    by_cases e : q = r
    · subst e
      refine ⟨?_, ?_, fun k hk => ?_⟩
      · simp (disch := omega) only [wI_ne, wI_eq, upd_ne, upd_eq]; exact h1
      · simp (disch := omega) only [wI_ne, wI_eq, upd_ne, upd_eq]
      · obtain ⟨q0, q1, q2, q3⟩ := h3 k hk
        unfold stg at *
        by_cases e2 : k = n
        · subst e2
          simp (disch := omega) only [Nat.add_zero, wI_ne, wI_eq, upd_ne, upd_eq, and_self]
        · simp (disch := omega) only [Nat.add_zero, wI_ne, wI_eq, upd_ne, upd_eq] at *
          exact ⟨q0, q1, q2, q3⟩
    · refine ⟨?_, ?_, fun k hk => ?_⟩
      · simp (disch := omega) only [wI_ne, wI_eq, upd_ne, upd_eq]; exact h1
      · simp (disch := omega) only [wI_ne, wI_eq, upd_ne, upd_eq]; exact h2
      · obtain ⟨q0, q1, q2, q3⟩ := h3 k hk
        unfold stg at *
        simp (disch := omega) only [wI_ne, wI_eq, upd_ne, upd_eq]
        exact ⟨q0, q1, q2, q3⟩
  · simp (disch := omega) only [wI_row]
  · simp (disch := omega) only [upd_ne]
  · simp (disch := omega) only [upd_ne]
  · simp (disch := omega) only [wI_row]
  · simp (disch := omega) only [upd_ne]
  · simp (disch := omega) only [wI_row]
  · simp (disch := omega) only [upd_ne]
  · have i := (I.b1 hb hl)
    have hs4 := I.bS4 hb hl
    have hne : bR A b ≠ r := fun e => hm ⟨b, hb, hl, by rw [i.1.1, e]⟩
    have h4 := I.bR4 hb hl
    refine bat_d rfl ?_ ?_ ?_ ?_ (fun w hw => ?_)
    · simp (disch := omega) only [upd_ne]
    · simp (disch := omega) only [upd_ne]
    · simp (disch := omega) only [upd_ne]
    · simp (disch := omega) only [upd_ne]
    · unfold stg; simp (disch := omega) only [upd_ne]
  · simp (disch := omega) only [wI_row]
  · simp (disch := omega) only [upd_ne]
  · simp (disch := omega) only [upd_ne]
  · simp (disch := omega) only [upd_ne]
theorem rel_vessel (h : Rel P A gi) (I : Inv N A) (hn : nV A < 6) (a0 a1 : Int32) :
    Rel P (upd (upd (upd (upd (upd (upd A (103 + 5 * nV A) a0) (103 + 5 * nV A + 1) a1) (103 + 5 * nV A + 2) (-1)) (103 + 5 * nV A + 3) (-1)) (103 + 5 * nV A + 4) 0) 3 (nI (nV A + 1)))
      (wI (wI (wI gi P 3 (nI (nV A + 1))) (P + 32 + nV A) 0 a0) (P + 32 + nV A) 1 a1) := by
  obtain ⟨hS, hR, hV, hL, hB, hT⟩ := h
  generalize hnn : nV A = n at hn ⊢
  refine ⟨?_, relR_c hR (fun k h1 h2 => ?_) (fun j h1 h2 => ?_), ?_, relL_c hL (fun k h1 h2 => ?_) (fun j h1 h2 => ?_), relB_c I.2.2.2.2.2.1 I.nR4 I.2.2.1 hB (fun k h1 h2 => ?_) (fun j h1 h2 => ?_) (fun j h1 h2 => ?_), relT_c hT (fun k h1 h2 => ?_) ?_ ?_ (fun j h1 h2 => ?_)⟩
  · obtain ⟨a1, a2, a3, a4, a5, a6, a7, a8, a9⟩ := hS
    refine ⟨?_, ?_, ?_, ?_, ?_, ?_, ?_, ?_, ?_⟩ <;> simp (disch := omega) only [wI_ne, wI_eq, upd_ne, upd_eq] <;> assumption
  · simp (disch := omega) only [wI_row]
  · simp (disch := omega) only [upd_ne]
  · intro v hv
    have hnv : nV (upd (upd (upd (upd (upd (upd A (103 + 5 * n) a0) (103 + 5 * n + 1) a1) (103 + 5 * n + 2) (-1)) (103 + 5 * n + 3) (-1)) (103 + 5 * n + 4) 0) 3 (nI (n + 1))) = n + 1 := by rw [nV, upd_eq, iN_n (by omega)]
    rw [hnv]
    obtain ⟨h1, h2⟩ := hV v hv
    rw [hnn] at h1 h2
    by_cases e : v = n
    · subst e
      obtain ⟨b1, b2, b3⟩ := h2 (Nat.le_refl _)
      refine ⟨fun _ => ?_, fun z => by omega⟩
      simp (disch := omega) only [wI_ne, wI_eq, upd_ne, upd_eq]
      exact ⟨trivial, trivial, b1, b2, b3⟩
    · refine ⟨fun z => ?_, fun z => ?_⟩
      · simp (disch := omega) only [wI_ne, wI_eq, upd_ne, upd_eq]
        exact h1 (by omega)
      · simp (disch := omega) only [wI_ne, wI_eq, upd_ne, upd_eq]
        exact h2 (by omega)
  · simp (disch := omega) only [wI_row]
  · simp (disch := omega) only [upd_ne]
  · simp (disch := omega) only [wI_row]
  · simp (disch := omega) only [upd_ne]
  · simp (disch := omega) only [upd_ne]
  · simp (disch := omega) only [wI_row]
  · simp (disch := omega) only [upd_ne]
  · simp (disch := omega) only [upd_ne]
  · simp (disch := omega) only [upd_ne]
theorem rel_line (h : Rel P A gi) (I : Inv N A) (hn : nL A < 3) (a0 a1 : Int32) :
    Rel P (upd (upd (upd (upd (upd A (133 + 4 * nL A) a0) (133 + 4 * nL A + 1) a1) (133 + 4 * nL A + 2) 0) (133 + 4 * nL A + 3) 0) 4 (nI (nL A + 1)))
      (wI (wI (wI gi P 5 (nI (nL A + 1))) (P + 38 + nL A) 0 a0) (P + 38 + nL A) 1 a1) := by
  obtain ⟨hS, hR, hV, hL, hB, hT⟩ := h
  have hz := (I.2.2.2.2.1 (nL A) hn).2.2 (Nat.le_refl _)
  generalize hnn : nL A = n at hn hz ⊢
  refine ⟨?_, relR_c hR (fun k h1 h2 => ?_) (fun j h1 h2 => ?_), relV_c hV (fun k h1 h2 => ?_) (fun j h1 h2 => ?_) ?_, ?_, relB_c I.2.2.2.2.2.1 I.nR4 I.2.2.1 hB (fun k h1 h2 => ?_) (fun j h1 h2 => ?_) (fun j h1 h2 => ?_), relT_c hT (fun k h1 h2 => ?_) ?_ ?_ (fun j h1 h2 => ?_)⟩
  · obtain ⟨a1, a2, a3, a4, a5, a6, a7, a8, a9⟩ := hS
    refine ⟨?_, ?_, ?_, ?_, ?_, ?_, ?_, ?_, ?_⟩ <;> simp (disch := omega) only [wI_ne, wI_eq, upd_ne, upd_eq] <;> assumption
  · simp (disch := omega) only [wI_row]
  · simp (disch := omega) only [upd_ne]
  · simp (disch := omega) only [wI_row]
  · simp (disch := omega) only [upd_ne]
  · simp (disch := omega) only [upd_ne]
  · intro k hk
    have hk2 := hL k hk
    by_cases e : k = n
    · subst e
      rw [hz.1, hz.2] at hk2
      simp (disch := omega) only [wI_ne, wI_eq, upd_ne, upd_eq]
      exact ⟨trivial, trivial, hk2.2.2.1, hk2.2.2.2⟩
    · simp (disch := omega) only [wI_ne, wI_eq, upd_ne, upd_eq]
      exact hk2
  · simp (disch := omega) only [wI_row]
  · simp (disch := omega) only [upd_ne]
  · simp (disch := omega) only [upd_ne]
  · simp (disch := omega) only [wI_row]
  · simp (disch := omega) only [upd_ne]
  · simp (disch := omega) only [upd_ne]
  · simp (disch := omega) only [upd_ne]
/-- a number outside recipes, vessels, lines and batches -/
theorem rel_low (h : Rel P A gi) (I : Inv N A) (hs : RelS P A' gi') (ht : RelT P A' gi') (hg : ∀ k, 8 ≤ k → k < 47 → gi' (P + k) = gi (P + k)) (ha : ∀ j, 31 ≤ j → j < 199 → A' j = A j) (h3 : A' 3 = A 3) : Rel P A' gi' := by
  obtain ⟨hS, hR, hV, hL, hB, hT⟩ := h
  exact ⟨hs, relR_c hR (fun k h1 h2 => hg k (by omega) (by omega)) (fun j h1 h2 => ha j (by omega) (by omega)), relV_c hV (fun k h1 h2 => hg k (by omega) (by omega)) (fun j h1 h2 => ha j (by omega) (by omega)) h3, relL_c hL (fun k h1 h2 => hg k (by omega) (by omega)) (fun j h1 h2 => ha j (by omega) (by omega)),
    relB_c I.2.2.2.2.2.1 I.nR4 I.2.2.1 hB (fun k h1 h2 => hg k (by omega) (by omega)) (fun j h1 h2 => ha j (by omega) (by omega)) (fun j h1 h2 => ha j (by omega) (by omega)), ht⟩
theorem rel_table (h : Rel P A gi) (I : Inv N A) {i : Nat} (hi : i < 16) (x : Int32) : Rel P (upd A (15 + i) x) (wI gi (P + 5) i x) := by
  obtain ⟨t1, t2, t3, t4⟩ := h.2.2.2.2.2
  refine rel_low h I (relS_c h.1 ?_ (fun j h1 h2 => ?_)) ⟨fun q hq => ?_, ?_, ?_, fun q hq => ?_⟩ (fun k h1 h2 => ?_) (fun j h1 h2 => ?_) ?_
  · simp (disch := omega) only [wI_row]
  · simp (disch := omega) only [upd_ne]
  · by_cases e : q = i
    · subst e
      simp only [wI_eq, upd_eq]
    · simp (disch := omega) only [wI_ne, upd_ne]
      exact t1 q hq
  · simp (disch := omega) only [wI_ne, upd_ne]; exact t2
  · simp (disch := omega) only [wI_ne, upd_ne]; exact t3
  · simp (disch := omega) only [wI_ne, upd_ne]; exact t4 q hq
  · simp (disch := omega) only [wI_row]
  · simp (disch := omega) only [upd_ne]
  · simp (disch := omega) only [upd_ne]
theorem rel_set (h : Rel P A gi) (I : Inv N A) {i : Nat} (hi : i < 2) (x : Int32) : Rel P (upd A i x) (wI gi (P + 6) i x) := by
  obtain ⟨t1, t2, t3, t4⟩ := h.2.2.2.2.2
  refine rel_low h I (relS_c h.1 ?_ (fun j h1 h2 => ?_)) ⟨fun q hq => ?_, ?_, ?_, fun q hq => ?_⟩ (fun k h1 h2 => ?_) (fun j h1 h2 => ?_) ?_
  · simp (disch := omega) only [wI_row]
  · simp (disch := omega) only [upd_ne]
  · simp (disch := omega) only [wI_ne, upd_ne]; exact t1 q hq
  · by_cases e : i = 0
    · subst e; simp only [wI_eq, upd_eq]
    · simp (disch := omega) only [wI_ne, upd_ne]; exact t2
  · by_cases e : i = 1
    · subst e; simp only [wI_eq, upd_eq]
    · simp (disch := omega) only [wI_ne, upd_ne]; exact t3
  · simp (disch := omega) only [wI_ne, upd_ne]; exact t4 q hq
  · simp (disch := omega) only [wI_row]
  · simp (disch := omega) only [upd_ne]
  · simp (disch := omega) only [upd_ne]
theorem rel_off (h : Rel P A gi) (I : Inv N A) {i : Nat} (hi : i < 4) (x : Int32) : Rel P (upd A (11 + i) x) (wI gi (P + 7) i x) := by
  obtain ⟨t1, t2, t3, t4⟩ := h.2.2.2.2.2
  refine rel_low h I (relS_c h.1 ?_ (fun j h1 h2 => ?_)) ⟨fun q hq => ?_, ?_, ?_, fun q hq => ?_⟩ (fun k h1 h2 => ?_) (fun j h1 h2 => ?_) ?_
  · simp (disch := omega) only [wI_row]
  · simp (disch := omega) only [upd_ne]
  · simp (disch := omega) only [wI_ne, upd_ne]; exact t1 q hq
  · simp (disch := omega) only [wI_ne, upd_ne]; exact t2
  · simp (disch := omega) only [wI_ne, upd_ne]; exact t3
  · by_cases e : q = i
    · subst e
      simp only [wI_eq, upd_eq]
    · simp (disch := omega) only [wI_ne, upd_ne]
      exact t4 q hq
  · simp (disch := omega) only [wI_row]
  · simp (disch := omega) only [upd_ne]
  · simp (disch := omega) only [upd_ne]
end RO
