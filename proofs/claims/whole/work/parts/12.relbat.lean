/-! THE SAME, OF BATCHES -/
section RB
variable {N P : Nat} {A A' : AA} {gi gi' : GI}
/-- a batch that the call leaves as it was -/
theorem relB_o {b : Nat} (I : Inv N A) (h : RelB P A gi) (hb : b < 6) (hg : gi' (P + 41 + b) = gi (P + 41 + b)) (hw : ∀ w, w < 9 → A' (145 + 9 * b + w) = A (145 + 9 * b + w)) (ha : ∀ j, 31 ≤ j → j < 103 → A' j = A j) : gi' (P + 41 + b) 0 = A' (145 + 9 * b) ∧ (live A' b → RelB1 P A' gi' b) := by
  obtain ⟨h1, h2⟩ := h b hb
  have e0 := hw 0 (by omega)
  rw [Nat.add_zero] at e0
  refine ⟨by rw [hg, e0]; exact h1, fun hl => ?_⟩
  have hl' : live A b := by unfold live at hl ⊢; rw [e0] at hl; exact hl
  obtain ⟨-, -, c3, c4, c5, c6⟩ := bat_c (A' := A') hb (I.bR4 hb hl') (I.bS4 hb hl') ha (hw 1 (by omega)) (hw 3 (by omega)) (hw 5 (by omega))
  unfold RelB1
  rw [hg, c3, c4, c5, c6, hw 1 (by omega), hw 2 (by omega), hw 3 (by omega), hw 4 (by omega), hw 5 (by omega), hw 6 (by omega), hw 7 (by omega), hw 8 (by omega)]
  exact h2 hl'
theorem relV_o {v : Nat} (h : RelV P A gi) (hv : v < 6) (hg : gi' (P + 32 + v) = gi (P + 32 + v)) (hw : ∀ w, w < 5 → A' (103 + 5 * v + w) = A (103 + 5 * v + w)) (h3 : A' 3 = A 3) :
    (v < nV A' → gi' (P + 32 + v) 0 = A' (103 + 5 * v) ∧ gi' (P + 32 + v) 1 = A' (103 + 5 * v + 1) ∧ gi' (P + 32 + v) 2 = A' (103 + 5 * v + 2) ∧ gi' (P + 32 + v) 3 = A' (103 + 5 * v + 3) ∧ gi' (P + 32 + v) 4 = A' (103 + 5 * v + 4)) ∧ (nV A' ≤ v → gi' (P + 32 + v) 2 = -1 ∧ gi' (P + 32 + v) 3 = -1 ∧ gi' (P + 32 + v) 4 = 0) := by
  have e0 := hw 0 (by omega)
  rw [Nat.add_zero] at e0
  rw [hg, e0, hw 1 (by omega), hw 2 (by omega), hw 3 (by omega), hw 4 (by omega), show nV A' = nV A by rw [nV, nV, h3]]
  exact h v hv

theorem rel_end_s (h : Rel P A gi) (I : Inv N A) {b p : Nat} {x : Int32} (hl : live A b) (hb : b < 6) (hp : p < 4) : Rel P (upd (upd (upd A (103 + 5 * bV A b + 2) (-1)) (145 + 9 * b) 0) (11 + p) x) (wI (wI (wI gi (P + 7) p x) (P + 32 + bV A b) 2 (-1)) (P + 41 + b) 0 0) := by
  obtain ⟨hS, hR, hV, hL, hB, hT⟩ := h
  have i := I.b1 hb hl
  have hr4 := I.bR4 hb hl
  have hs4 := I.bS4 hb hl
  have hv6 := I.bV6 hb hl
  refine ⟨relS_c hS ?_ (fun j h1 h2 => ?_), relR_c hR (fun k h1 h2 => ?_) (fun j h1 h2 => ?_), fun q hq => ?_, relL_c hL (fun k h1 h2 => ?_) (fun j h1 h2 => ?_), fun q hq => ?_, ⟨fun q hq => ?_, ?_, ?_, fun q hq => ?_⟩⟩
  · simp (disch := omega) only [wI_row]
  · simp (disch := omega) only [upd_ne]
  · simp (disch := omega) only [wI_row]
  · simp (disch := omega) only [upd_ne]
  · by_cases e0 : q = (bV A b)
    · rw [e0]
      have hq2 := hV (bV A b) (Nat.lt_of_lt_of_le i.2.2.1.2.1 I.nV6)
      refine ⟨fun _ => ?_, fun z => absurd i.2.2.1.2.1 (Nat.not_lt.mpr (Nat.le_trans (Nat.le_of_eq (by unfold nV; simp (disch := omega) only [upd_ne])) z))⟩
      obtain ⟨b0, b1, b2, b3, b4⟩ := hq2.1 i.2.2.1.2.1
      refine ⟨?_, ?_, ?_, ?_, ?_⟩ <;> simp (disch := omega) only [wI_ne, wI_eq, upd_ne, upd_eq] <;> assumption
    · refine relV_o hV hq ?_ (fun w hw => ?_) ?_
      · simp (disch := omega) only [wI_row]
      · simp (disch := omega) only [upd_ne]
      · simp (disch := omega) only [upd_ne]
  · simp (disch := omega) only [wI_row]
  · simp (disch := omega) only [upd_ne]
  · by_cases e : q = b
    · rw [e]
      refine ⟨?_, fun hl2 => absurd hl2 ?_⟩
      · simp (disch := omega) only [wI_ne, wI_eq, upd_ne, upd_eq]
      · unfold live
        simp (disch := omega) only [wI_ne, wI_eq, upd_ne, upd_eq]
        decide
    · refine relB_o I hB hq ?_ (fun w hw => ?_) (fun j h1 h2 => ?_)
      · simp (disch := omega) only [wI_row]
      · simp (disch := omega) only [upd_ne]
      · simp (disch := omega) only [upd_ne]
  · obtain ⟨t1, t2, t3, t4⟩ := hT
    have t := t1 q hq
    simp (disch := omega) only [wI_ne, wI_eq, upd_ne, upd_eq]
    exact t
  · obtain ⟨t1, t2, t3, t4⟩ := hT
    simp (disch := omega) only [wI_ne, wI_eq, upd_ne, upd_eq]
    exact t2
  · obtain ⟨t1, t2, t3, t4⟩ := hT
    simp (disch := omega) only [wI_ne, wI_eq, upd_ne, upd_eq]
    exact t3
  · obtain ⟨t1, t2, t3, t4⟩ := hT
    have t := t4 q hq
    by_cases e : q = p
    · rw [e] at *
      simp (disch := omega) only [wI_ne, wI_eq, upd_ne, upd_eq]
    · simp (disch := omega) only [wI_ne, wI_eq, upd_ne, upd_eq]
      exact t

theorem rel_end_m (h : Rel P A gi) (I : Inv N A) {b : Nat} {x y : Int32} (hl : live A b) (hb : b < 6) : Rel P (upd (upd (upd (upd A (103 + 5 * bV A b + 2) (-1)) (145 + 9 * b) 0) 7 x) 9 y) (wI (wI (wI (wI gi P 12 x) P 14 y) (P + 32 + bV A b) 2 (-1)) (P + 41 + b) 0 0) := by
  obtain ⟨hS, hR, hV, hL, hB, hT⟩ := h
  have i := I.b1 hb hl
  have hr4 := I.bR4 hb hl
  have hs4 := I.bS4 hb hl
  have hv6 := I.bV6 hb hl
  refine ⟨?_, relR_c hR (fun k h1 h2 => ?_) (fun j h1 h2 => ?_), fun q hq => ?_, relL_c hL (fun k h1 h2 => ?_) (fun j h1 h2 => ?_), fun q hq => ?_, relT_c hT (fun k h1 h2 => ?_) ?_ ?_ (fun j h1 h2 => ?_)⟩
  · obtain ⟨a1, a2, a3, a4, a5, a6, a7, a8, a9⟩ := hS
    refine ⟨?_, ?_, ?_, ?_, ?_, ?_, ?_, ?_, ?_⟩ <;> simp (disch := omega) only [wI_ne, wI_eq, upd_ne, upd_eq] <;> assumption
  · simp (disch := omega) only [wI_row]
  · simp (disch := omega) only [upd_ne]
  · by_cases e0 : q = (bV A b)
    · rw [e0]
      have hq2 := hV (bV A b) (Nat.lt_of_lt_of_le i.2.2.1.2.1 I.nV6)
      refine ⟨fun _ => ?_, fun z => absurd i.2.2.1.2.1 (Nat.not_lt.mpr (Nat.le_trans (Nat.le_of_eq (by unfold nV; simp (disch := omega) only [upd_ne])) z))⟩
      obtain ⟨b0, b1, b2, b3, b4⟩ := hq2.1 i.2.2.1.2.1
      refine ⟨?_, ?_, ?_, ?_, ?_⟩ <;> simp (disch := omega) only [wI_ne, wI_eq, upd_ne, upd_eq] <;> assumption
    · refine relV_o hV hq ?_ (fun w hw => ?_) ?_
      · simp (disch := omega) only [wI_row]
      · simp (disch := omega) only [upd_ne]
      · simp (disch := omega) only [upd_ne]
  · simp (disch := omega) only [wI_row]
  · simp (disch := omega) only [upd_ne]
  · by_cases e : q = b
    · rw [e]
      refine ⟨?_, fun hl2 => absurd hl2 ?_⟩
      · simp (disch := omega) only [wI_ne, wI_eq, upd_ne, upd_eq]
      · unfold live
        simp (disch := omega) only [wI_ne, wI_eq, upd_ne, upd_eq]
        decide
    · refine relB_o I hB hq ?_ (fun w hw => ?_) (fun j h1 h2 => ?_)
      · simp (disch := omega) only [wI_row]
      · simp (disch := omega) only [upd_ne]
      · simp (disch := omega) only [upd_ne]
  · simp (disch := omega) only [wI_row]
  · simp (disch := omega) only [upd_ne]
  · simp (disch := omega) only [upd_ne]
  · simp (disch := omega) only [upd_ne]

theorem rel_discard (h : Rel P A gi) (I : Inv N A) {b : Nat} {x : Int32} (hl : live A b) (hb : b < 6) : Rel P (upd (upd (upd A (103 + 5 * bV A b + 2) (-1)) (145 + 9 * b) 0) 8 x) (wI (wI (wI gi P 13 x) (P + 32 + bV A b) 2 (-1)) (P + 41 + b) 0 0) := by
  obtain ⟨hS, hR, hV, hL, hB, hT⟩ := h
  have i := I.b1 hb hl
  have hr4 := I.bR4 hb hl
  have hs4 := I.bS4 hb hl
  have hv6 := I.bV6 hb hl
  refine ⟨?_, relR_c hR (fun k h1 h2 => ?_) (fun j h1 h2 => ?_), fun q hq => ?_, relL_c hL (fun k h1 h2 => ?_) (fun j h1 h2 => ?_), fun q hq => ?_, relT_c hT (fun k h1 h2 => ?_) ?_ ?_ (fun j h1 h2 => ?_)⟩
  · obtain ⟨a1, a2, a3, a4, a5, a6, a7, a8, a9⟩ := hS
    refine ⟨?_, ?_, ?_, ?_, ?_, ?_, ?_, ?_, ?_⟩ <;> simp (disch := omega) only [wI_ne, wI_eq, upd_ne, upd_eq] <;> assumption
  · simp (disch := omega) only [wI_row]
  · simp (disch := omega) only [upd_ne]
  · by_cases e0 : q = (bV A b)
    · rw [e0]
      have hq2 := hV (bV A b) (Nat.lt_of_lt_of_le i.2.2.1.2.1 I.nV6)
      refine ⟨fun _ => ?_, fun z => absurd i.2.2.1.2.1 (Nat.not_lt.mpr (Nat.le_trans (Nat.le_of_eq (by unfold nV; simp (disch := omega) only [upd_ne])) z))⟩
      obtain ⟨b0, b1, b2, b3, b4⟩ := hq2.1 i.2.2.1.2.1
      refine ⟨?_, ?_, ?_, ?_, ?_⟩ <;> simp (disch := omega) only [wI_ne, wI_eq, upd_ne, upd_eq] <;> assumption
    · refine relV_o hV hq ?_ (fun w hw => ?_) ?_
      · simp (disch := omega) only [wI_row]
      · simp (disch := omega) only [upd_ne]
      · simp (disch := omega) only [upd_ne]
  · simp (disch := omega) only [wI_row]
  · simp (disch := omega) only [upd_ne]
  · by_cases e : q = b
    · rw [e]
      refine ⟨?_, fun hl2 => absurd hl2 ?_⟩
      · simp (disch := omega) only [wI_ne, wI_eq, upd_ne, upd_eq]
      · unfold live
        simp (disch := omega) only [wI_ne, wI_eq, upd_ne, upd_eq]
        decide
    · refine relB_o I hB hq ?_ (fun w hw => ?_) (fun j h1 h2 => ?_)
      · simp (disch := omega) only [wI_row]
      · simp (disch := omega) only [upd_ne]
      · simp (disch := omega) only [upd_ne]
  · simp (disch := omega) only [wI_row]
  · simp (disch := omega) only [upd_ne]
  · simp (disch := omega) only [upd_ne]
  · simp (disch := omega) only [upd_ne]

theorem rel_blend (h : Rel P A gi) (I : Inv N A) {b p : Nat} {x y z : Int32} (hl : live A b) (hb : b < 6) (hp : p < 4) : Rel P (upd (upd (upd A (11 + p) x) (145 + 9 * b + 7) y) (145 + 9 * b + 2) z) (wI (wI (wI gi (P + 7) p x) (P + 41 + b) 5 y) (P + 41 + b) 4 z) := by
  obtain ⟨hS, hR, hV, hL, hB, hT⟩ := h
  have i := I.b1 hb hl
  have hr4 := I.bR4 hb hl
  have hs4 := I.bS4 hb hl
  have hv6 := I.bV6 hb hl
  refine ⟨relS_c hS ?_ (fun j h1 h2 => ?_), relR_c hR (fun k h1 h2 => ?_) (fun j h1 h2 => ?_), relV_c hV (fun k h1 h2 => ?_) (fun j h1 h2 => ?_) ?_, relL_c hL (fun k h1 h2 => ?_) (fun j h1 h2 => ?_), fun q hq => ?_, ⟨fun q hq => ?_, ?_, ?_, fun q hq => ?_⟩⟩
  · simp (disch := omega) only [wI_row]
  · simp (disch := omega) only [upd_ne]
  · simp (disch := omega) only [wI_row]
  · simp (disch := omega) only [upd_ne]
  · simp (disch := omega) only [wI_row]
  · simp (disch := omega) only [upd_ne]
  · simp (disch := omega) only [upd_ne]
  · simp (disch := omega) only [wI_row]
  · simp (disch := omega) only [upd_ne]
  · by_cases e : q = b
    · rw [e]
      obtain ⟨g0, g1⟩ := hB b hb
      obtain ⟨f1, f2, f3, f4, f5, f6, f7, f8, f9, f10, f11, f12⟩ := g1 hl
      have hd := bat_c (A' := (upd (upd (upd A (11 + p) x) (145 + 9 * b + 7) y) (145 + 9 * b + 2) z)) hb hr4 hs4 (fun j h1 h2 => by simp (disch := omega) only [upd_ne]) (by simp (disch := omega) only [upd_ne]) (by simp (disch := omega) only [upd_ne]) (by simp (disch := omega) only [upd_ne])
      refine ⟨?_, fun _ => ?_⟩
      · simp (disch := omega) only [wI_ne, wI_eq, upd_ne, upd_eq]; exact g0
      · unfold RelB1
        rw [hd.2.2.1, hd.2.2.2.1, hd.2.2.2.2.1, hd.2.2.2.2.2]
        refine ⟨?_, ?_, ?_, ?_, ?_, ?_, ?_, ?_, ?_, ?_, ?_, ?_⟩ <;> simp (disch := omega) only [wI_ne, wI_eq, upd_ne, upd_eq] <;> assumption
    · refine relB_o I hB hq ?_ (fun w hw => ?_) (fun j h1 h2 => ?_)
      · simp (disch := omega) only [wI_row]
      · simp (disch := omega) only [upd_ne]
      · simp (disch := omega) only [upd_ne]
  · obtain ⟨t1, t2, t3, t4⟩ := hT
    have t := t1 q hq
    simp (disch := omega) only [wI_ne, wI_eq, upd_ne, upd_eq]
    exact t
  · obtain ⟨t1, t2, t3, t4⟩ := hT
    simp (disch := omega) only [wI_ne, wI_eq, upd_ne, upd_eq]
    exact t2
  · obtain ⟨t1, t2, t3, t4⟩ := hT
    simp (disch := omega) only [wI_ne, wI_eq, upd_ne, upd_eq]
    exact t3
  · obtain ⟨t1, t2, t3, t4⟩ := hT
    have t := t4 q hq
    by_cases e : q = p
    · rw [e] at *
      simp (disch := omega) only [wI_ne, wI_eq, upd_ne, upd_eq]
    · simp (disch := omega) only [wI_ne, wI_eq, upd_ne, upd_eq]
      exact t

theorem rel_spoil (h : Rel P A gi) (I : Inv N A) {b : Nat} {x : Int32} (hl : live A b) (hb : b < 6) : Rel P (upd A (145 + 9 * b + 6) x) (wI gi (P + 41 + b) 6 x) := by
  obtain ⟨hS, hR, hV, hL, hB, hT⟩ := h
  have i := I.b1 hb hl
  have hr4 := I.bR4 hb hl
  have hs4 := I.bS4 hb hl
  have hv6 := I.bV6 hb hl
  refine ⟨relS_c hS ?_ (fun j h1 h2 => ?_), relR_c hR (fun k h1 h2 => ?_) (fun j h1 h2 => ?_), relV_c hV (fun k h1 h2 => ?_) (fun j h1 h2 => ?_) ?_, relL_c hL (fun k h1 h2 => ?_) (fun j h1 h2 => ?_), fun q hq => ?_, relT_c hT (fun k h1 h2 => ?_) ?_ ?_ (fun j h1 h2 => ?_)⟩
  · simp (disch := omega) only [wI_row]
  · simp (disch := omega) only [upd_ne]
  · simp (disch := omega) only [wI_row]
  · simp (disch := omega) only [upd_ne]
  · simp (disch := omega) only [wI_row]
  · simp (disch := omega) only [upd_ne]
  · simp (disch := omega) only [upd_ne]
  · simp (disch := omega) only [wI_row]
  · simp (disch := omega) only [upd_ne]
  · by_cases e : q = b
    · rw [e]
      obtain ⟨g0, g1⟩ := hB b hb
      obtain ⟨f1, f2, f3, f4, f5, f6, f7, f8, f9, f10, f11, f12⟩ := g1 hl
      have hd := bat_c (A' := (upd A (145 + 9 * b + 6) x)) hb hr4 hs4 (fun j h1 h2 => by simp (disch := omega) only [upd_ne]) (by simp (disch := omega) only [upd_ne]) (by simp (disch := omega) only [upd_ne]) (by simp (disch := omega) only [upd_ne])
      refine ⟨?_, fun _ => ?_⟩
      · simp (disch := omega) only [wI_ne, wI_eq, upd_ne, upd_eq]; exact g0
      · unfold RelB1
        rw [hd.2.2.1, hd.2.2.2.1, hd.2.2.2.2.1, hd.2.2.2.2.2]
        refine ⟨?_, ?_, ?_, ?_, ?_, ?_, ?_, ?_, ?_, ?_, ?_, ?_⟩ <;> simp (disch := omega) only [wI_ne, wI_eq, upd_ne, upd_eq] <;> assumption
    · refine relB_o I hB hq ?_ (fun w hw => ?_) (fun j h1 h2 => ?_)
      · simp (disch := omega) only [wI_row]
      · simp (disch := omega) only [upd_ne]
      · simp (disch := omega) only [upd_ne]
  · simp (disch := omega) only [wI_row]
  · simp (disch := omega) only [upd_ne]
  · simp (disch := omega) only [upd_ne]
  · simp (disch := omega) only [upd_ne]

theorem rel_time (h : Rel P A gi) (I : Inv N A) {x : Int32} : Rel P (upd A 5 x) (wI gi P 10 x) := by
  obtain ⟨hS, hR, hV, hL, hB, hT⟩ := h
  refine ⟨?_, relR_c hR (fun k h1 h2 => ?_) (fun j h1 h2 => ?_), relV_c hV (fun k h1 h2 => ?_) (fun j h1 h2 => ?_) ?_, relL_c hL (fun k h1 h2 => ?_) (fun j h1 h2 => ?_), relB_c I.2.2.2.2.2.1 I.nR4 I.2.2.1 hB (fun k h1 h2 => ?_) (fun j h1 h2 => ?_) (fun j h1 h2 => ?_), relT_c hT (fun k h1 h2 => ?_) ?_ ?_ (fun j h1 h2 => ?_)⟩
  · obtain ⟨a1, a2, a3, a4, a5, a6, a7, a8, a9⟩ := hS
    refine ⟨?_, ?_, ?_, ?_, ?_, ?_, ?_, ?_, ?_⟩ <;> simp (disch := omega) only [wI_ne, wI_eq, upd_ne, upd_eq] <;> assumption
  · simp (disch := omega) only [wI_row]
  · simp (disch := omega) only [upd_ne]
  · simp (disch := omega) only [wI_row]
  · simp (disch := omega) only [upd_ne]
  · simp (disch := omega) only [upd_ne]
  · simp (disch := omega) only [wI_row]
  · simp (disch := omega) only [upd_ne]
  · simp (disch := omega) only [wI_row]
  · simp (disch := omega) only [upd_ne]
  · simp (disch := omega) only [upd_ne]
  · simp (disch := omega) only [wI_row]
  · simp (disch := omega) only [upd_ne]
  · simp (disch := omega) only [upd_ne]
  · simp (disch := omega) only [upd_ne]

theorem rel_bad (h : Rel P A gi) (I : Inv N A) {x : Int32} : Rel P (upd A 10 x) (wI gi P 15 x) := by
  obtain ⟨hS, hR, hV, hL, hB, hT⟩ := h
  refine ⟨?_, relR_c hR (fun k h1 h2 => ?_) (fun j h1 h2 => ?_), relV_c hV (fun k h1 h2 => ?_) (fun j h1 h2 => ?_) ?_, relL_c hL (fun k h1 h2 => ?_) (fun j h1 h2 => ?_), relB_c I.2.2.2.2.2.1 I.nR4 I.2.2.1 hB (fun k h1 h2 => ?_) (fun j h1 h2 => ?_) (fun j h1 h2 => ?_), relT_c hT (fun k h1 h2 => ?_) ?_ ?_ (fun j h1 h2 => ?_)⟩
  · obtain ⟨a1, a2, a3, a4, a5, a6, a7, a8, a9⟩ := hS
    refine ⟨?_, ?_, ?_, ?_, ?_, ?_, ?_, ?_, ?_⟩ <;> simp (disch := omega) only [wI_ne, wI_eq, upd_ne, upd_eq] <;> assumption
  · simp (disch := omega) only [wI_row]
  · simp (disch := omega) only [upd_ne]
  · simp (disch := omega) only [wI_row]
  · simp (disch := omega) only [upd_ne]
  · simp (disch := omega) only [upd_ne]
  · simp (disch := omega) only [wI_row]
  · simp (disch := omega) only [upd_ne]
  · simp (disch := omega) only [wI_row]
  · simp (disch := omega) only [upd_ne]
  · simp (disch := omega) only [upd_ne]
  · simp (disch := omega) only [wI_row]
  · simp (disch := omega) only [upd_ne]
  · simp (disch := omega) only [upd_ne]
  · simp (disch := omega) only [upd_ne]

theorem rel_begin (h : Rel P A gi) (I : Inv N A) {r v b : Nat} {m cl t x : Int32} (hr : r < nR A) (hv : v < nV A) (hb : b < 6) : Rel P (upd (upd (upd (upd (upd (upd (upd (upd (upd (upd (upd (upd (upd A (145 + 9 * b) 1) (145 + 9 * b + 1) (nI r)) (145 + 9 * b + 2) m) (145 + 9 * b + 3) 0) (145 + 9 * b + 6) 0) (145 + 9 * b + 7) 0) (145 + 9 * b + 8) m) (103 + 5 * v + 4) cl) (103 + 5 * v + 3) (A (31 + 18 * r))) (103 + 5 * v + 2) (nI b)) (145 + 9 * b + 4) (nI v)) (145 + 9 * b + 5) t) 6 x) (wI (wI (wI (wI (wI (wI (wI (wI (wI (wI (wI (wI (wI (wI (wI (wI (wI gi (P + 32 + v) 4 cl) (P + 32 + v) 2 (nI b)) (P + 32 + v) 3 (A (31 + 18 * r))) (P + 41 + b) 0 1) (P + 41 + b) 1 (nI r)) (P + 41 + b) 2 (A (31 + 18 * r))) (P + 41 + b) 3 m) (P + 41 + b) 4 m) (P + 41 + b) 5 0) (P + 41 + b) 6 0) (P + 41 + b) 7 0) (P + 41 + b) 8 (nI v)) (P + 41 + b) 9 t) (P + 41 + b) 10 (t + stg A r 0 1)) (P + 41 + b) 11 (t + stg A r 0 1 + stg A r 0 2)) (P + 41 + b) 12 (t + stg A r 0 1 + stg A r 0 3)) P 11 x) := by
  obtain ⟨hS, hR, hV, hL, hB, hT⟩ := h
  have hr4 : r < 4 := Nat.lt_of_lt_of_le hr I.nR4
  have hv6 : v < 6 := Nat.lt_of_lt_of_le hv I.nV6
  refine ⟨?_, relR_c hR (fun k h1 h2 => ?_) (fun j h1 h2 => ?_), fun q hq => ?_, relL_c hL (fun k h1 h2 => ?_) (fun j h1 h2 => ?_), fun q hq => ?_, relT_c hT (fun k h1 h2 => ?_) ?_ ?_ (fun j h1 h2 => ?_)⟩
  · obtain ⟨a1, a2, a3, a4, a5, a6, a7, a8, a9⟩ := hS
    refine ⟨?_, ?_, ?_, ?_, ?_, ?_, ?_, ?_, ?_⟩ <;> simp (disch := omega) only [wI_ne, wI_eq, upd_ne, upd_eq] <;> assumption
  · simp (disch := omega) only [wI_row]
  · simp (disch := omega) only [upd_ne]
  · by_cases e0 : q = v
    · rw [e0]
      have hq2 := hV v (Nat.lt_of_lt_of_le hv I.nV6)
      refine ⟨fun _ => ?_, fun z => absurd hv (Nat.not_lt.mpr (Nat.le_trans (Nat.le_of_eq (by unfold nV; simp (disch := omega) only [upd_ne])) z))⟩
      obtain ⟨b0, b1, b2, b3, b4⟩ := hq2.1 hv
      refine ⟨?_, ?_, ?_, ?_, ?_⟩ <;> simp (disch := omega) only [wI_ne, wI_eq, upd_ne, upd_eq] <;> assumption
    · refine relV_o hV hq ?_ (fun w hw => ?_) ?_
      · simp (disch := omega) only [wI_row]
      · simp (disch := omega) only [upd_ne]
      · simp (disch := omega) only [upd_ne]
  · simp (disch := omega) only [wI_row]
  · simp (disch := omega) only [upd_ne]
  · by_cases e : q = b
    · rw [e]
      have hr4 : r < 4 := Nat.lt_of_lt_of_le hr I.nR4
      have q1 : bR (upd (upd (upd (upd (upd (upd (upd (upd (upd (upd (upd (upd (upd A (145 + 9 * b) 1) (145 + 9 * b + 1) (nI r)) (145 + 9 * b + 2) m) (145 + 9 * b + 3) 0) (145 + 9 * b + 6) 0) (145 + 9 * b + 7) 0) (145 + 9 * b + 8) m) (103 + 5 * v + 4) cl) (103 + 5 * v + 3) (A (31 + 18 * r))) (103 + 5 * v + 2) (nI b)) (145 + 9 * b + 4) (nI v)) (145 + 9 * b + 5) t) 6 x) b = r := by unfold bR; simp (disch := omega) only [wI_ne, wI_eq, upd_ne, upd_eq]; exact iN_n (by omega)
      have q3 : bS (upd (upd (upd (upd (upd (upd (upd (upd (upd (upd (upd (upd (upd A (145 + 9 * b) 1) (145 + 9 * b + 1) (nI r)) (145 + 9 * b + 2) m) (145 + 9 * b + 3) 0) (145 + 9 * b + 6) 0) (145 + 9 * b + 7) 0) (145 + 9 * b + 8) m) (103 + 5 * v + 4) cl) (103 + 5 * v + 3) (A (31 + 18 * r))) (103 + 5 * v + 2) (nI b)) (145 + 9 * b + 4) (nI v)) (145 + 9 * b + 5) t) 6 x) b = 0 := by unfold bS; simp (disch := omega) only [wI_ne, wI_eq, upd_ne, upd_eq]; rfl
      have q5 : ∀ w, w < 4 → stg (upd (upd (upd (upd (upd (upd (upd (upd (upd (upd (upd (upd (upd A (145 + 9 * b) 1) (145 + 9 * b + 1) (nI r)) (145 + 9 * b + 2) m) (145 + 9 * b + 3) 0) (145 + 9 * b + 6) 0) (145 + 9 * b + 7) 0) (145 + 9 * b + 8) m) (103 + 5 * v + 4) cl) (103 + 5 * v + 3) (A (31 + 18 * r))) (103 + 5 * v + 2) (nI b)) (145 + 9 * b + 4) (nI v)) (145 + 9 * b + 5) t) 6 x) r 0 w = stg A r 0 w := fun w hw => by unfold stg; simp (disch := omega) only [upd_ne]
      refine ⟨?_, fun _ => ?_⟩
      · simp (disch := omega) only [wI_ne, wI_eq, upd_ne, upd_eq]
      · unfold RelB1 rpF gdF ovF prF
        rw [q1, q3, q5 1 (by omega), q5 2 (by omega), q5 3 (by omega)]
        refine ⟨?_, ?_, ?_, ?_, ?_, ?_, ?_, ?_, ?_, ?_, ?_, ?_⟩ <;> simp (disch := omega) only [wI_ne, wI_eq, upd_ne, upd_eq]
    · refine relB_o I hB hq ?_ (fun w hw => ?_) (fun j h1 h2 => ?_)
      · simp (disch := omega) only [wI_row]
      · simp (disch := omega) only [upd_ne]
      · simp (disch := omega) only [upd_ne]
  · simp (disch := omega) only [wI_row]
  · simp (disch := omega) only [upd_ne]
  · simp (disch := omega) only [upd_ne]
  · simp (disch := omega) only [upd_ne]

theorem rel_move (h : Rel P A gi) (I : Inv N A) {u v b k : Nat} {m cl t x c s1 pr : Int32} (hl : live A b) (hb : b < 6) (hu : u < nV A) (hv : v < nV A) (huv : u ≠ v) (hk : k < 3) (hs1 : s1 = nI (bS A b + 1)) (hs2 : bS A b + 1 < 4) : Rel P (upd (upd (upd (upd (upd (upd (upd (upd (upd (upd (upd A (133 + 4 * k + 2) t) (133 + 4 * k + 3) c) (103 + 5 * u + 2) (-1)) (103 + 5 * v + 4) cl) (103 + 5 * v + 3) pr) (103 + 5 * v + 2) (nI b)) (145 + 9 * b + 4) (nI v)) (145 + 9 * b + 5) t) (145 + 9 * b + 3) s1) 8 x) (145 + 9 * b + 2) m) (wI (wI (wI (wI (wI (wI (wI (wI (wI (wI (wI (wI (wI (wI gi (P + 32 + u) 2 (-1)) (P + 32 + v) 4 cl) (P + 32 + v) 2 (nI b)) (P + 32 + v) 3 pr) (P + 38 + k) 2 t) (P + 38 + k) 3 c) P 13 x) (P + 41 + b) 4 m) (P + 41 + b) 7 s1) (P + 41 + b) 8 (nI v)) (P + 41 + b) 9 t) (P + 41 + b) 10 (t + stg A (bR A b) (bS A b + 1) 1)) (P + 41 + b) 11 (t + stg A (bR A b) (bS A b + 1) 1 + stg A (bR A b) (bS A b + 1) 2)) (P + 41 + b) 12 (t + stg A (bR A b) (bS A b + 1) 1 + stg A (bR A b) (bS A b + 1) 3)) := by
  obtain ⟨hS, hR, hV, hL, hB, hT⟩ := h
  have i := I.b1 hb hl
  have hr4 := I.bR4 hb hl
  have hs4 := I.bS4 hb hl
  have hv6 := I.bV6 hb hl
  have hv6 : v < 6 := Nat.lt_of_lt_of_le hv I.nV6
  have hu6 : u < 6 := Nat.lt_of_lt_of_le hu I.nV6
  refine ⟨?_, relR_c hR (fun k h1 h2 => ?_) (fun j h1 h2 => ?_), fun q hq => ?_, fun q hq => ?_, fun q hq => ?_, relT_c hT (fun k h1 h2 => ?_) ?_ ?_ (fun j h1 h2 => ?_)⟩
  · obtain ⟨a1, a2, a3, a4, a5, a6, a7, a8, a9⟩ := hS
    refine ⟨?_, ?_, ?_, ?_, ?_, ?_, ?_, ?_, ?_⟩ <;> simp (disch := omega) only [wI_ne, wI_eq, upd_ne, upd_eq] <;> assumption
  · simp (disch := omega) only [wI_row]
  · simp (disch := omega) only [upd_ne]
  · by_cases e0 : q = v
    · rw [e0]
      have hq2 := hV v (Nat.lt_of_lt_of_le hv I.nV6)
      refine ⟨fun _ => ?_, fun z => absurd hv (Nat.not_lt.mpr (Nat.le_trans (Nat.le_of_eq (by unfold nV; simp (disch := omega) only [upd_ne])) z))⟩
      obtain ⟨b0, b1, b2, b3, b4⟩ := hq2.1 hv
      refine ⟨?_, ?_, ?_, ?_, ?_⟩ <;> simp (disch := omega) only [wI_ne, wI_eq, upd_ne, upd_eq] <;> assumption
    · by_cases e1 : q = u
      · rw [e1]
        have hq2 := hV u (Nat.lt_of_lt_of_le hu I.nV6)
        refine ⟨fun _ => ?_, fun z => absurd hu (Nat.not_lt.mpr (Nat.le_trans (Nat.le_of_eq (by unfold nV; simp (disch := omega) only [upd_ne])) z))⟩
        obtain ⟨b0, b1, b2, b3, b4⟩ := hq2.1 hu
        refine ⟨?_, ?_, ?_, ?_, ?_⟩ <;> simp (disch := omega) only [wI_ne, wI_eq, upd_ne, upd_eq] <;> assumption
      · refine relV_o hV hq ?_ (fun w hw => ?_) ?_
        · simp (disch := omega) only [wI_row]
        · simp (disch := omega) only [upd_ne]
        · simp (disch := omega) only [upd_ne]
  · by_cases e : q = k
    · rw [e]
      obtain ⟨b0, b1, b2, b3⟩ := hL k hk
      refine ⟨?_, ?_, ?_, ?_⟩ <;> simp (disch := omega) only [wI_ne, wI_eq, upd_ne, upd_eq] <;> assumption
    · have hq2 := hL q hq
      simp (disch := omega) only [wI_ne, wI_eq, upd_ne, upd_eq]
      exact hq2
  · by_cases e : q = b
    · rw [e]
      obtain ⟨g0, g1⟩ := hB b hb
      obtain ⟨f1, f2, f3, f4, f5, f6, f7, f8, f9, f10, f11, f12⟩ := g1 hl
      have q1 : bR (upd (upd (upd (upd (upd (upd (upd (upd (upd (upd (upd A (133 + 4 * k + 2) t) (133 + 4 * k + 3) c) (103 + 5 * u + 2) (-1)) (103 + 5 * v + 4) cl) (103 + 5 * v + 3) pr) (103 + 5 * v + 2) (nI b)) (145 + 9 * b + 4) (nI v)) (145 + 9 * b + 5) t) (145 + 9 * b + 3) s1) 8 x) (145 + 9 * b + 2) m) b = bR A b := by unfold bR; simp (disch := omega) only [wI_ne, wI_eq, upd_ne, upd_eq]
      have q3 : bS (upd (upd (upd (upd (upd (upd (upd (upd (upd (upd (upd A (133 + 4 * k + 2) t) (133 + 4 * k + 3) c) (103 + 5 * u + 2) (-1)) (103 + 5 * v + 4) cl) (103 + 5 * v + 3) pr) (103 + 5 * v + 2) (nI b)) (145 + 9 * b + 4) (nI v)) (145 + 9 * b + 5) t) (145 + 9 * b + 3) s1) 8 x) (145 + 9 * b + 2) m) b = bS A b + 1 := by unfold bS; simp (disch := omega) only [wI_ne, wI_eq, upd_ne, upd_eq]; rw [hs1]; exact iN_n (by omega)
      have q5 : ∀ w, w < 4 → stg (upd (upd (upd (upd (upd (upd (upd (upd (upd (upd (upd A (133 + 4 * k + 2) t) (133 + 4 * k + 3) c) (103 + 5 * u + 2) (-1)) (103 + 5 * v + 4) cl) (103 + 5 * v + 3) pr) (103 + 5 * v + 2) (nI b)) (145 + 9 * b + 4) (nI v)) (145 + 9 * b + 5) t) (145 + 9 * b + 3) s1) 8 x) (145 + 9 * b + 2) m) (bR A b) (bS A b + 1) w = stg A (bR A b) (bS A b + 1) w := fun w hw => by unfold stg; simp (disch := omega) only [upd_ne]
      refine ⟨?_, fun _ => ?_⟩
      · simp (disch := omega) only [wI_ne, wI_eq, upd_ne, upd_eq]; exact g0
      · unfold RelB1 rpF gdF ovF prF
        rw [q1, q3, q5 1 (by omega), q5 2 (by omega), q5 3 (by omega)]
        unfold prF at f2
        refine ⟨?_, ?_, ?_, ?_, ?_, ?_, ?_, ?_, ?_, ?_, ?_, ?_⟩ <;> simp (disch := omega) only [wI_ne, wI_eq, upd_ne, upd_eq] <;> assumption
    · refine relB_o I hB hq ?_ (fun w hw => ?_) (fun j h1 h2 => ?_)
      · simp (disch := omega) only [wI_row]
      · simp (disch := omega) only [upd_ne]
      · simp (disch := omega) only [upd_ne]
  · simp (disch := omega) only [wI_row]
  · simp (disch := omega) only [upd_ne]
  · simp (disch := omega) only [upd_ne]
  · simp (disch := omega) only [upd_ne]

end RB
