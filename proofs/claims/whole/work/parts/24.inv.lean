/-! INV IS KEPT BY EVERY CALL; AND AN ERROR CHANGES NOTHING -/
section IK
variable {N M : Nat} {A A' : AA}
theorem invS_c (h : InvS A) (e : ∀ j, j < 6 → A' j = A j) : InvS A' := by
  unfold InvS at *
  rw [e 0 (by omega), e 1 (by omega), e 2 (by omega), e 3 (by omega), e 4 (by omega), e 5 (by omega)]
  exact h
theorem invT_c (h : InvT A) (e : ∀ j, 15 ≤ j → j < 31 → A' j = A j) : InvT A' := fun i hi => by rw [e _ (by omega) (by omega)]; exact h i hi
theorem invR_c (h : InvR A) (e : ∀ j, 31 ≤ j → j < 103 → A' j = A j) : InvR A' := fun r hr => by
  obtain ⟨a, b, c⟩ := h r hr
  refine ⟨by rw [e _ (by omega) (by omega)]; exact a, by rw [e _ (by omega) (by omega)]; exact b, fun k hk => ?_⟩
  rw [stg_c e hr hk (by omega), stg_c e hr hk (by omega), stg_c e hr hk (by omega), stg_c e hr hk (by omega)]
  exact c k hk
theorem invV_c (h : InvV N A) (hNM : N ≤ M) (e : ∀ j, 103 ≤ j → j < 133 → A' j = A j) : InvV M A' := fun v hv => by
  obtain ⟨a, b, c, d, f⟩ := h v hv
  rw [e _ (by omega) (by omega), e (103 + 5 * v + 1) (by omega) (by omega), e (103 + 5 * v + 2) (by omega) (by omega), e (103 + 5 * v + 3) (by omega) (by omega), e (103 + 5 * v + 4) (by omega) (by omega)]
  exact ⟨a, b, c, d, bd_mono f hNM⟩
theorem invL_c (h : InvL A) (e4 : A' 4 = A 4) (e : ∀ j, 133 ≤ j → j < 145 → A' j = A j) : InvL A' := fun k hk => by
  have := h k hk
  rw [show nL A' = nL A by rw [nL, nL, e4], e (133 + 4 * k + 1) (by omega) (by omega), e (133 + 4 * k + 2) (by omega) (by omega), e (133 + 4 * k + 3) (by omega) (by omega)]
  exact this
/-- the batches are as they were -/
theorem invB1_c (hS : InvS A) {b : Nat} (hb : b < 6) (h : InvB1 A b) (e : ∀ j, 145 + 9 * b ≤ j → j < 145 + 9 * b + 9 → A' j = A j) (hR : nR A ≤ nR A') (hV : nV A ≤ nV A') (hs : nS A (bR A b) ≤ nS A' (bR A b)) (hh : A' (103 + 5 * bV A b + 2) = A (103 + 5 * bV A b + 2)) : InvB1 A' b := by
  obtain ⟨⟨a1, a2⟩, ⟨b1, b2⟩, ⟨c1, c2, c3⟩, d⟩ := h
  have e1 : bR A' b = bR A b := by rw [bR, bR, e _ (by omega) (by omega)]
  have e2 : bS A' b = bS A b := by rw [bS, bS, e _ (by omega) (by omega)]
  have e3 : bV A' b = bV A b := by rw [bV, bV, e _ (by omega) (by omega)]
  unfold InvB1
  rw [e1, e2, e3, hh, e (145 + 9 * b + 1) (by omega) (by omega), e (145 + 9 * b + 3) (by omega) (by omega), e (145 + 9 * b + 4) (by omega) (by omega), e (145 + 9 * b + 2) (by omega) (by omega), e (145 + 9 * b + 5) (by omega) (by omega), e (145 + 9 * b + 6) (by omega) (by omega), e (145 + 9 * b + 7) (by omega) (by omega), e (145 + 9 * b + 8) (by omega) (by omega)]
  exact ⟨⟨a1, by omega⟩, ⟨b1, by omega⟩, ⟨c1, by omega, c3⟩, d⟩
theorem invB_c (hS : InvS A) (h : InvB A) (e : ∀ j, 145 ≤ j → j < 199 → A' j = A j) (hR : nR A ≤ nR A') (hV : nV A ≤ nV A') (hs : ∀ r, r < nR A → nS A r ≤ nS A' r) (hh : ∀ v, v < nV A → A' (103 + 5 * v + 2) = A (103 + 5 * v + 2)) : InvB A' := fun b hb => by
  obtain ⟨h1, h2⟩ := h b hb
  refine ⟨by rw [e _ (by omega) (by omega)]; exact h1, fun hl => ?_⟩
  have hl' : live A b := by unfold live at *; rw [e _ (by omega) (by omega)] at hl; exact hl
  have i := h2 hl'
  exact invB1_c hS hb i (fun j h1 h2 => e j (by omega) (by omega)) hR hV (hs _ i.1.2) (hh _ i.2.2.1.2.1)
/-- one batch is otherwise -/
theorem invB_d (hS : InvS A) (h : InvB A) {b : Nat} (hb : b < 6) (e : ∀ j, 145 ≤ j → j < 199 → (j < 145 + 9 * b ∨ 145 + 9 * b + 9 ≤ j) → A' j = A j) (e2 : A' 2 = A 2) (e3 : A' 3 = A 3) (er : ∀ j, 31 ≤ j → j < 103 → A' j = A j)
    (hh : ∀ c, c < 6 → c ≠ b → live A c → A' (103 + 5 * bV A c + 2) = A (103 + 5 * bV A c + 2)) (h01 : A' (145 + 9 * b) = 0 ∨ A' (145 + 9 * b) = 1) (hB : live A' b → InvB1 A' b) : InvB A' := fun c hc => by
  by_cases ec : c = b
  · subst ec
    exact ⟨h01, hB⟩
  · obtain ⟨h1, h2⟩ := h c hc
    refine ⟨by rw [e _ (by omega) (by omega) (by omega)]; exact h1, fun hl => ?_⟩
    have hl' : live A c := by unfold live at *; rw [e _ (by omega) (by omega) (by omega)] at hl; exact hl
    have i := h2 hl'
    have hr4 : bR A c < 4 := Nat.lt_of_lt_of_le i.1.2 hS.1.2
    exact invB1_c hS hc i (fun j q1 q2 => e j (by omega) (by omega) (by omega)) (by rw [nR, nR, e2]; exact Nat.le_refl _) (by rw [nV, nV, e3]; exact Nat.le_refl _) (by rw [nS, nS, er _ (by omega) (by omega)]; exact Nat.le_refl _) (hh c hc ec hl')
/-- two batches are not in one vessel -/
theorem Inv.apart (I : Inv N A) {b c : Nat} (hb : b < 6) (hc : c < 6) (lb : live A b) (lc : live A c) (h : c ≠ b) : bV A c ≠ bV A b := fun e => by
  have k := (I.b1 hb lb).2.2.1.2.2
  have l := (I.b1 hc lc).2.2.1.2.2
  rw [e, k] at l
  exact h (nI_in_r (by omega) (by omega) l).symm
theorem Inv.free (I : Inv N A) {v c : Nat} (h : A (103 + 5 * v + 2) < 0) (hc : c < 6) (lc : live A c) : bV A c ≠ v := fun e => by
  have l := (I.b1 hc lc).2.2.1.2.2
  rw [e] at l
  rw [l] at h
  exact nI_pos (by omega) h
theorem Inv.mono (I : Inv N A) (h : N ≤ M) (hM : M < 100000000) : Inv M A := by
  obtain ⟨h1, h2, h3, h4, h5, h6, h7, -⟩ := I
  exact ⟨h1, h2, h3, invV_c h4 h (fun _ _ _ => rfl), h5, h6, h7, hM⟩
end IK
/-- the row is in order, and as it was if the answer is an error -/
def okR (N : Nat) (A : AA) (R : RA) : Prop := Inv (N + 99) R.2 ∧ (R.1 < 0 → R.2 = A)
section OK
variable {N : Nat} {A : AA} (I : Inv N A) (hN : N + 99 < 100000000)
theorem okR_e {R : RA} {x : Int32} (I : Inv N A) (hN : N + 99 < 100000000) (h : R = (x, A)) : okR N A R := by
  subst h
  exact ⟨I.mono (by omega) hN, fun _ => rfl⟩
theorem okR_m {R : RA} {x : Int32} {A' : AA} (h : R = (x, A')) (hx : ¬ x < 0) (i : Inv (N + 99) A') : okR N A R := by
  subst h
  exact ⟨i, fun z => absurd z hx⟩
theorem inR_bd {x : Int32} {c : Nat} (hc : c + 1 < 2 ^ 31) (h : inR x 0 (nI c)) : bd x c := by
  obtain ⟨j, hj, rfl⟩ := idx_of (len := c + 1) hc (Int32.not_lt.mpr h.1) (fun z => absurd (Int32.le_trans z h.2) (fun q => nI_ge (Nat.lt_succ_self c) hc q))
  exact bd_n (by omega) (by omega)
theorem inR_b1 {x : Int32} {c : Nat} (hc : c + 1 < 2 ^ 31) (h : inR x 1 (nI c)) : bd x c ∧ 1 ≤ iN x := by
  have h0 := inR_bd hc ⟨Int32.le_trans (show (0 : Int32) ≤ 1 by decide) h.1, h.2⟩
  refine ⟨h0, ?_⟩
  have h1 : nI 1 ≤ nI (iN x) := by rw [← h0.1]; exact h.1
  exact (nI_leI (by decide) (by have := h0.2; omega)).mp h1
theorem lim_e {n c : Nat} {x : Int32} (hx : x = nI n) (h : n ≤ c) (hn : ¬ n < c) : x = nI c := by rw [hx, show n = c by omega]
theorem ok_recipe (p : Int32) (I : Inv N A) (hN : N + 99 < 100000000) : okR N A (fRecipe A p) := by
  by_cases h : inR p 0 3
  · by_cases hn : nR A < 4
    · refine okR_m (fRecipe_y I h hn) (nI_pos (by omega)) ?_
      obtain ⟨h1, h2, h3, h4, h5, h6, h7, h8⟩ := I
      generalize hnn : nR A = n at hn ⊢
      refine ⟨?_, invT_c h2 (fun j q1 q2 => ?_), fun r hr => ?_, invV_c h4 (by omega) (fun j q1 q2 => ?_), invL_c h5 ?_ (fun j q1 q2 => ?_), invB_c h1 h6 (fun j q1 q2 => ?_) ?_ ?_ (fun r hr => ?_) (fun v hv => ?_), fun j hj => ?_, hN⟩
      · unfold InvS at *
        simp (disch := omega) only [upd_ne, upd_eq]
        exact ⟨bd_n (by omega) (by decide), h1.2⟩
      · simp (disch := omega) only [upd_ne]
      · obtain ⟨a, b, c⟩ := h3 r hr
        unfold stg at *
        by_cases e : r = n
        · subst e
          refine ⟨?_, ?_, fun k hk => ?_⟩
          · simp (disch := omega) only [upd_ne, upd_eq]; exact inR_bd (c := 3) (by decide) h
          · simp (disch := omega) only [upd_ne, upd_eq]; exact bd_0 _
          · simp (disch := omega) only [upd_ne, upd_eq]; exact c k hk
        · refine ⟨?_, ?_, fun k hk => ?_⟩
          · simp (disch := omega) only [upd_ne, upd_eq]; exact a
          · simp (disch := omega) only [upd_ne, upd_eq]; exact b
          · simp (disch := omega) only [upd_ne, upd_eq]; exact c k hk
      · simp (disch := omega) only [upd_ne]
      · simp (disch := omega) only [upd_ne]
      · simp (disch := omega) only [upd_ne]
      · simp (disch := omega) only [upd_ne]
      · rw [nR, nR, upd_eq, iN_n (by omega)]; rw [nR] at hnn; omega
      · unfold nV; simp (disch := omega) only [upd_ne]; exact Nat.le_refl _
      · unfold nS; rw [hnn] at hr; simp (disch := omega) only [upd_ne]; exact Nat.le_refl _
      · have := h1.2.1.2; unfold nV at hv; simp (disch := omega) only [upd_ne]
      · simp (disch := omega) only [upd_ne]; exact h7 j hj
    · exact okR_e I hN (fRecipe_3 h (lim_e I.eR I.nR4 hn))
  · exact okR_e I hN (fRecipe_1 h)
theorem ok_stage (x a b c d : Int32) (I : Inv N A) (hN : N + 99 < 100000000) : okR N A (fStage A x a b c d) := by
  by_cases h : isRec A x ∧ inR a 0 2 ∧ inR b 1 200 ∧ inR c 0 500 ∧ inR d c 500
  · by_cases hm : isMade A x
    · exact okR_e I hN (fStage_2 h hm)
    · obtain ⟨⟨r, hr, rfl⟩, h'⟩ := h
      have hr4 : r < 4 := Nat.lt_of_lt_of_le hr I.nR4
      by_cases hn : nS A r < 4
      · refine okR_m (fStage_y I hr h' hm hn) (nI_pos (by omega)) ?_
        obtain ⟨h1, h2, h3, h4, h5, h6, h7, h8⟩ := I
        generalize hnn : nS A r = n at hn ⊢
        refine ⟨invS_c h1 (fun j q1 => ?_), invT_c h2 (fun j q1 q2 => ?_), fun q hq => ?_, invV_c h4 (by omega) (fun j q1 q2 => ?_), invL_c h5 ?_ (fun j q1 q2 => ?_), invB_c h1 h6 (fun j q1 q2 => ?_) ?_ ?_ (fun q hq => ?_) (fun v hv => ?_), fun j hj => ?_, hN⟩
        · simp (disch := omega) only [upd_ne]
        · simp (disch := omega) only [upd_ne]
        · obtain ⟨a', b', c'⟩ := h3 q hq
          unfold stg at *
          by_cases e : q = r
          · subst e
            refine ⟨?_, ?_, fun k hk => ?_⟩
            · simp (disch := omega) only [upd_ne, upd_eq]; exact a'
            · simp (disch := omega) only [upd_ne, upd_eq]; exact bd_n (by omega) (by decide)
            · by_cases e2 : k = n
              · subst e2
                simp (disch := omega) only [Nat.add_zero, upd_ne, upd_eq]
                exact ⟨inR_bd (c := 2) (by decide) h'.1, (inR_b1 (c := 200) (by decide) h'.2.1).1, inR_bd (c := 500) (by decide) h'.2.2.1, inR_bd (c := 500) (by decide) ⟨Int32.le_trans h'.2.2.1.1 h'.2.2.2.1, h'.2.2.2.2⟩⟩
              · have := c' k hk
                simp (disch := omega) only [Nat.add_zero, upd_ne, upd_eq] at this ⊢
                exact this
          · refine ⟨?_, ?_, fun k hk => ?_⟩
            · simp (disch := omega) only [upd_ne, upd_eq]; exact a'
            · simp (disch := omega) only [upd_ne, upd_eq]; exact b'
            · simp (disch := omega) only [upd_ne, upd_eq]; exact c' k hk
        · simp (disch := omega) only [upd_ne]
        · simp (disch := omega) only [upd_ne]
        · simp (disch := omega) only [upd_ne]
        · simp (disch := omega) only [upd_ne]
        · unfold nR; simp (disch := omega) only [upd_ne]; exact Nat.le_refl _
        · unfold nV; simp (disch := omega) only [upd_ne]; exact Nat.le_refl _
        · have hq4 : q < 4 := Nat.lt_of_lt_of_le hq h1.1.2
          by_cases e : q = r
          · subst e
            rw [hnn, nS, upd_eq, iN_n (by omega)]; omega
          · unfold nS; simp (disch := omega) only [upd_ne]; exact Nat.le_refl _
        · have := h1.2.1.2; unfold nV at hv; simp (disch := omega) only [upd_ne]
        · simp (disch := omega) only [upd_ne]; exact h7 j hj
      · refine okR_e I hN (fStage_3 ⟨isRec_n hr, h'⟩ hm ?_)
        rw [iN_n (by omega)]
        exact lim_e (I.eS hr4) (I.nS4 hr4) hn
  · exact okR_e I hN (fStage_1 h)
theorem ok_vessel (a b : Int32) (I : Inv N A) (hN : N + 99 < 100000000) : okR N A (fVessel A a b) := by
  by_cases h : inR a 0 2 ∧ inR b 1 999
  · by_cases hn : nV A < 6
    · refine okR_m (fVessel_y I h hn) (nI_pos (by omega)) ?_
      obtain ⟨h1, h2, h3, h4, h5, h6, h7, h8⟩ := I
      generalize hnn : nV A = n at hn ⊢
      refine ⟨?_, invT_c h2 (fun j q1 q2 => ?_), invR_c h3 (fun j q1 q2 => ?_), fun v hv => ?_, invL_c h5 ?_ (fun j q1 q2 => ?_), invB_c h1 h6 (fun j q1 q2 => ?_) ?_ ?_ (fun r hr => ?_) (fun v hv => ?_), fun j hj => ?_, hN⟩
      · unfold InvS at *
        simp (disch := omega) only [upd_ne, upd_eq]
        exact ⟨h1.1, bd_n (by omega) (by decide), h1.2.2⟩
      · simp (disch := omega) only [upd_ne]
      · simp (disch := omega) only [upd_ne]
      · by_cases e : v = n
        · subst e
          simp (disch := omega) only [upd_ne, upd_eq]
          exact ⟨inR_bd (c := 2) (by decide) h.1, (inR_b1 (c := 999) (by decide) h.2).1, Or.inl trivial, Or.inl trivial, bd_0 _⟩
        · obtain ⟨k1, k2, k3, k4, k5⟩ := h4 v hv
          simp (disch := omega) only [upd_ne, upd_eq]
          exact ⟨k1, k2, k3, k4, bd_mono k5 (by omega)⟩
      · simp (disch := omega) only [upd_ne]
      · simp (disch := omega) only [upd_ne]
      · simp (disch := omega) only [upd_ne]
      · unfold nR; simp (disch := omega) only [upd_ne]; exact Nat.le_refl _
      · rw [nV, nV, upd_eq, iN_n (by omega)]; rw [nV] at hnn; omega
      · have hr4 : r < 4 := Nat.lt_of_lt_of_le hr h1.1.2
        unfold nS; simp (disch := omega) only [upd_ne]; exact Nat.le_refl _
      · rw [hnn] at hv; simp (disch := omega) only [upd_ne]
      · simp (disch := omega) only [upd_ne]; exact h7 j hj
    · exact okR_e I hN (fVessel_3 h (lim_e I.eV I.nV6 hn))
  · exact okR_e I hN (fVessel_1 h)
theorem ok_line (a b : Int32) (I : Inv N A) (hN : N + 99 < 100000000) : okR N A (fLine A a b) := by
  by_cases h : setOk A a ∧ inR b 1 99
  · by_cases hn : nL A < 3
    · refine okR_m (fLine_y I h hn) (nI_pos (by omega)) ?_
      obtain ⟨h1, h2, h3, h4, h5, h6, h7, h8⟩ := I
      generalize hnn : nL A = n at hn ⊢
      refine ⟨?_, invT_c h2 (fun j q1 q2 => ?_), invR_c h3 (fun j q1 q2 => ?_), invV_c h4 (by omega) (fun j q1 q2 => ?_), fun k hk => ?_, invB_c h1 h6 (fun j q1 q2 => ?_) ?_ ?_ (fun r hr => ?_) (fun v hv => ?_), fun j hj => ?_, hN⟩
      · unfold InvS at *
        simp (disch := omega) only [upd_ne, upd_eq]
        exact ⟨h1.1, h1.2.1, bd_n (by omega) (by decide), h1.2.2.2⟩
      · simp (disch := omega) only [upd_ne]
      · simp (disch := omega) only [upd_ne]
      · simp (disch := omega) only [upd_ne]
      · have hk' := h5 k hk
        rw [hnn] at hk'
        have en : nL (upd (upd (upd (upd (upd A (133 + 4 * n) a) (133 + 4 * n + 1) b) (133 + 4 * n + 2) 0) (133 + 4 * n + 3) 0) 4 (nI (n + 1))) = n + 1 := by rw [nL, upd_eq, iN_n (by omega)]
        rw [en]
        by_cases e : k = n
        · subst e
          simp (disch := omega) only [upd_ne, upd_eq]
          exact ⟨fun _ => ⟨(inR_b1 (c := 99) (by decide) h.2).1, (inR_b1 (c := 99) (by decide) h.2).2⟩, bd_0 _, fun z => by omega⟩
        · simp (disch := omega) only [upd_ne, upd_eq]
          exact ⟨fun z => hk'.1 (by omega), hk'.2.1, fun z => hk'.2.2 (by omega)⟩
      · simp (disch := omega) only [upd_ne]
      · unfold nR; simp (disch := omega) only [upd_ne]; exact Nat.le_refl _
      · unfold nV; simp (disch := omega) only [upd_ne]; exact Nat.le_refl _
      · have hr4 : r < 4 := Nat.lt_of_lt_of_le hr h1.1.2
        unfold nS; simp (disch := omega) only [upd_ne]; exact Nat.le_refl _
      · have := h1.2.1.2; unfold nV at hv; simp (disch := omega) only [upd_ne]
      · simp (disch := omega) only [upd_ne]; exact h7 j hj
    · exact okR_e I hN (fLine_3 h (lim_e I.eL I.nL3 hn))
  · exact okR_e I hN (fLine_1 h)
/-- one low number is otherwise -/
theorem inv_low {i : Nat} {x : Int32} (I : Inv N A) (hi : i < 31) (h2 : i ≠ 2) (h3 : i ≠ 3) (h4 : i ≠ 4) (hS : InvS (upd A i x)) (hT : InvT (upd A i x)) : Inv N (upd A i x) := by
  obtain ⟨h1, -, h3', h4', h5, h6, h7, h8⟩ := I
  refine ⟨hS, hT, invR_c h3' (fun j q1 q2 => ?_), invV_c h4' (Nat.le_refl _) (fun j q1 q2 => ?_), invL_c h5 ?_ (fun j q1 q2 => ?_), invB_c h1 h6 (fun j q1 q2 => ?_) ?_ ?_ (fun r hr => ?_) (fun v hv => ?_), fun j hj => ?_, h8⟩
  · simp (disch := omega) only [upd_ne]
  · simp (disch := omega) only [upd_ne]
  · simp (disch := omega) only [upd_ne]
  · simp (disch := omega) only [upd_ne]
  · simp (disch := omega) only [upd_ne]
  · unfold nR; simp (disch := omega) only [upd_ne]; exact Nat.le_refl _
  · unfold nV; simp (disch := omega) only [upd_ne]; exact Nat.le_refl _
  · have hr4 : r < 4 := Nat.lt_of_lt_of_le hr h1.1.2
    unfold nS; simp (disch := omega) only [upd_ne]; exact Nat.le_refl _
  · have := h1.2.1.2; unfold nV at hv; simp (disch := omega) only [upd_ne]
  · simp (disch := omega) only [upd_ne]; exact h7 j hj
theorem inv_mid {i : Nat} {x : Int32} (I : Inv N A) (h5 : 6 ≤ i) (hi : i < 15) : Inv N (upd A i x) := inv_low I (by omega) (by omega) (by omega) (by omega) (invS_c I.1 (fun j q => by simp (disch := omega) only [upd_ne])) (invT_c I.2.1 (fun j q1 q2 => by simp (disch := omega) only [upd_ne]))
theorem ok_cleaning (x y m : Int32) (I : Inv N A) (hN : N + 99 < 100000000) : okR N A (fCleaning A x y m) := by
  by_cases h : inR x 0 3 ∧ inR y 0 3 ∧ inR m 0 99
  · obtain ⟨i, hi, rfl⟩ := in4 h.1
    obtain ⟨j, hj, rfl⟩ := in4 h.2.1
    have e : fCleaning A (nI i) (nI j) m = (A (15 + (4 * i + j)), upd A (15 + (4 * i + j)) m) := by
      rw [fCleaning_y h, iN_n (by omega), iN_n (by omega), ← Nat.add_assoc]
    refine okR_m e (bd_nn (I.2.1 _ (by omega)) (by decide)) (Inv.mono (inv_low I (by omega) (by omega) (by omega) (by omega) (invS_c I.1 (fun q hq => ?_)) (fun q hq => ?_)) (by omega) hN)
    · simp (disch := omega) only [upd_ne]
    · by_cases e2 : q = 4 * i + j
      · subst e2
        rw [upd_eq]
        exact inR_bd (c := 99) (by decide) h.2.2
      · simp (disch := omega) only [upd_ne]
        exact I.2.1 q hq
  · exact okR_e I hN (fCleaning_1 h)
theorem ok_set (x y : Int32) (I : Inv N A) (hN : N + 99 < 100000000) : okR N A (fSet A x y) := by
  by_cases h : inR x 0 1 ∧ inR y 0 (cIf (x = 0) 100 50)
  · have hw := h.2
    obtain ⟨i, hi, rfl⟩ := in2 h.1
    have e : fSet A (nI i) y = (A i, upd A i y) := by rw [fSet_y h, iN_n (by omega)]
    obtain ⟨s1, s2, s3, s4, s5, s6⟩ := I.1
    obtain rfl | rfl : i = 0 ∨ i = 1 := by omega
    · rw [cIf_t (show nI 0 = 0 from rfl)] at hw
      refine okR_m e (bd_nn s5 (by decide)) (Inv.mono (inv_low I (by omega) (by omega) (by omega) (by omega) ?_ (invT_c I.2.1 (fun q q1 q2 => ?_))) (by omega) hN)
      · unfold InvS
        simp (disch := omega) only [upd_ne, upd_eq]
        exact ⟨s1, s2, s3, s4, inR_bd (c := 100) (by decide) hw, s6⟩
      · simp (disch := omega) only [upd_ne]
    · rw [cIf_f (show ¬ nI 1 = 0 by decide)] at hw
      refine okR_m e (bd_nn s6 (by decide)) (Inv.mono (inv_low I (by omega) (by omega) (by omega) (by omega) ?_ (invT_c I.2.1 (fun q q1 q2 => ?_))) (by omega) hN)
      · unfold InvS
        simp (disch := omega) only [upd_ne, upd_eq]
        exact ⟨s1, s2, s3, s4, s5, inR_bd (c := 50) (by decide) hw⟩
      · simp (disch := omega) only [upd_ne]
  · exact okR_e I hN (fSet_1 h)
end OK
