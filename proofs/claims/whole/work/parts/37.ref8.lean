/-! THE REFERENCE's PUBLIC CALLS, over the state -/
theorem pM_pN {S : SS} {gi : GI} {R : RA} (m : RelM S gi) (ok : R.1 < 0 → R.2 = S.1) (v : Option Value) (h' : BcH) (p : pM gi S.2.1 R v h') : pN gi (push S R) v h' := by
  obtain ⟨rfl, g2, rfl, q1, q2, q3, q4⟩ := p
  obtain ⟨m1, m2, m3, m4, m5⟩ := m
  refine ⟨by rw [push_1], g2, rfl, ?_, fun k hk => q2 k (by omega) (by omega) (by omega)⟩
  have qP := q4.2 m2
  unfold push
  by_cases h : R.1 < 0
  · rw [if_pos h] at qP ⊢
    exact ⟨q1.trans (ok h), (q3 4 (by decide)).trans m2, qP, (q3 6 (by decide)).trans m4, fun j hj => by rw [q2 339 (by decide) (by decide) (by decide)]; exact m5 j hj⟩
  · rw [if_neg h] at qP ⊢
    rw [m1] at qP
    exact ⟨q1, (q3 4 (by decide)).trans m2, qP, (q3 6 (by decide)).trans m4, fun j hj => by rw [q2 339 (by decide) (by decide) (by decide)]; exact m5 j hj⟩
theorem mx_recipe (G : BcG) {gi : GI} {N : Nat} {S : SS} (k : SOk N S) (m : RelM S gi) (hN : N + 99 < 100000000) (x0 : Int32) : Ct G mX9_recipe [.ref (G.1 + 335), .int x0] (hp gi) (pN gi (push S (fRecipe S.1 x0))) := by
  obtain ⟨m1, m2, m3, m4, m5⟩ := id m
  have c := mo_recipe G (gi := gi) (by rw [m1]; exact k.1) k.2.2.1 (fun _ => m3) x0
  rw [m1] at c
  exact Ct.weak c (pM_pN m (ok_recipe x0 k.1 hN).2)
theorem mx_stage (G : BcG) {gi : GI} {N : Nat} {S : SS} (k : SOk N S) (m : RelM S gi) (hN : N + 99 < 100000000) (x0 x1 x2 x3 x4 : Int32) : Ct G mX9_stage [.ref (G.1 + 335), .int x0, .int x1, .int x2, .int x3, .int x4] (hp gi) (pN gi (push S (fStage S.1 x0 x1 x2 x3 x4))) := by
  obtain ⟨m1, m2, m3, m4, m5⟩ := id m
  have c := mo_stage G (gi := gi) (by rw [m1]; exact k.1) k.2.2.1 (fun _ => m3) x0 x1 x2 x3 x4
  rw [m1] at c
  exact Ct.weak c (pM_pN m (ok_stage x0 x1 x2 x3 x4 k.1 hN).2)
theorem mx_vessel (G : BcG) {gi : GI} {N : Nat} {S : SS} (k : SOk N S) (m : RelM S gi) (hN : N + 99 < 100000000) (x0 x1 : Int32) : Ct G mX9_vessel [.ref (G.1 + 335), .int x0, .int x1] (hp gi) (pN gi (push S (fVessel S.1 x0 x1))) := by
  obtain ⟨m1, m2, m3, m4, m5⟩ := id m
  have c := mo_vessel G (gi := gi) (by rw [m1]; exact k.1) k.2.2.1 (fun _ => m3) x0 x1
  rw [m1] at c
  exact Ct.weak c (pM_pN m (ok_vessel x0 x1 k.1 hN).2)
theorem mx_line (G : BcG) {gi : GI} {N : Nat} {S : SS} (k : SOk N S) (m : RelM S gi) (hN : N + 99 < 100000000) (x0 x1 : Int32) : Ct G mX9_line [.ref (G.1 + 335), .int x0, .int x1] (hp gi) (pN gi (push S (fLine S.1 x0 x1))) := by
  obtain ⟨m1, m2, m3, m4, m5⟩ := id m
  have c := mo_line G (gi := gi) (by rw [m1]; exact k.1) k.2.2.1 (fun _ => m3) x0 x1
  rw [m1] at c
  exact Ct.weak c (pM_pN m (ok_line x0 x1 k.1 hN).2)
theorem mx_cleaning (G : BcG) {gi : GI} {N : Nat} {S : SS} (k : SOk N S) (m : RelM S gi) (hN : N + 99 < 100000000) (x0 x1 x2 : Int32) : Ct G mX9_cleaning [.ref (G.1 + 335), .int x0, .int x1, .int x2] (hp gi) (pN gi (push S (fCleaning S.1 x0 x1 x2))) := by
  obtain ⟨m1, m2, m3, m4, m5⟩ := id m
  have c := mo_cleaning G (gi := gi) (by rw [m1]; exact k.1) k.2.2.1 (fun _ => m3) x0 x1 x2
  rw [m1] at c
  exact Ct.weak c (pM_pN m (ok_cleaning x0 x1 x2 k.1 hN).2)
theorem mx_begin (G : BcG) {gi : GI} {N : Nat} {S : SS} (k : SOk N S) (m : RelM S gi) (hN : N + 99 < 100000000) (x0 x1 x2 : Int32) : Ct G mX9_begin [.ref (G.1 + 335), .int x0, .int x1, .int x2] (hp gi) (pN gi (push S (fBegin S.1 x0 x1 x2))) := by
  obtain ⟨m1, m2, m3, m4, m5⟩ := id m
  have c := mo_begin G (gi := gi) (by rw [m1]; exact k.1) k.2.2.1 (fun _ => m3) x0 x1 x2
  rw [m1] at c
  exact Ct.weak c (pM_pN m (ok_begin x0 x1 x2 k.1 hN).2)
theorem mx_move (G : BcG) {gi : GI} {N : Nat} {S : SS} (k : SOk N S) (m : RelM S gi) (hN : N + 99 < 100000000) (x0 x1 : Int32) : Ct G mX9_move [.ref (G.1 + 335), .int x0, .int x1] (hp gi) (pN gi (push S (fMove S.1 x0 x1))) := by
  obtain ⟨m1, m2, m3, m4, m5⟩ := id m
  have c := mo_move G (gi := gi) (by rw [m1]; exact k.1) k.2.2.1 (fun _ => m3) x0 x1
  rw [m1] at c
  exact Ct.weak c (pM_pN m (ok_move x0 x1 k.1 hN).2)
theorem mx_end (G : BcG) {gi : GI} {N : Nat} {S : SS} (k : SOk N S) (m : RelM S gi) (hN : N + 99 < 100000000) (x0 : Int32) : Ct G mX9_end [.ref (G.1 + 335), .int x0] (hp gi) (pN gi (push S (fEnd S.1 x0))) := by
  obtain ⟨m1, m2, m3, m4, m5⟩ := id m
  have c := mo_end G (gi := gi) (by rw [m1]; exact k.1) k.2.2.1 (fun _ => m3) x0
  rw [m1] at c
  exact Ct.weak c (pM_pN m (ok_end x0 k.1 hN).2)
theorem mx_discard (G : BcG) {gi : GI} {N : Nat} {S : SS} (k : SOk N S) (m : RelM S gi) (hN : N + 99 < 100000000) (x0 : Int32) : Ct G mX9_discard [.ref (G.1 + 335), .int x0] (hp gi) (pN gi (push S (fDiscard S.1 x0))) := by
  obtain ⟨m1, m2, m3, m4, m5⟩ := id m
  have c := mo_discard G (gi := gi) (by rw [m1]; exact k.1) k.2.2.1 (fun _ => m3) x0
  rw [m1] at c
  exact Ct.weak c (pM_pN m (ok_discard x0 k.1 hN).2)
theorem mx_blend (G : BcG) {gi : GI} {N : Nat} {S : SS} (k : SOk N S) (m : RelM S gi) (hN : N + 99 < 100000000) (x0 x1 : Int32) : Ct G mX9_blend [.ref (G.1 + 335), .int x0, .int x1] (hp gi) (pN gi (push S (fBlend S.1 x0 x1))) := by
  obtain ⟨m1, m2, m3, m4, m5⟩ := id m
  have c := mo_blend G (gi := gi) (by rw [m1]; exact k.1) k.2.2.1 (fun _ => m3) x0 x1
  rw [m1] at c
  exact Ct.weak c (pM_pN m (ok_blend x0 x1 k.1 hN).2)
theorem mx_pass (G : BcG) {gi : GI} {N : Nat} {S : SS} (k : SOk N S) (m : RelM S gi) (hN : N + 99 < 100000000) (x0 : Int32) : Ct G mX9_pass [.ref (G.1 + 335), .int x0] (hp gi) (pN gi (push S (fPass S.1 x0))) := by
  obtain ⟨m1, m2, m3, m4, m5⟩ := id m
  have c := mo_pass G (gi := gi) (by rw [m1]; exact k.1) k.2.2.1 (fun _ => m3) x0
  rw [m1] at c
  exact Ct.weak c (pM_pN m (ok_pass x0 k.1 hN).2)
theorem mx_set (G : BcG) {gi : GI} {N : Nat} {S : SS} (k : SOk N S) (m : RelM S gi) (hN : N + 99 < 100000000) (x0 x1 : Int32) : Ct G mX9_set [.ref (G.1 + 335), .int x0, .int x1] (hp gi) (pN gi (push S (fSet S.1 x0 x1))) := by
  obtain ⟨m1, m2, m3, m4, m5⟩ := id m
  have c := mo_set G (gi := gi) (by rw [m1]; exact k.1) k.2.2.1 (fun _ => m3) x0 x1
  rw [m1] at c
  exact Ct.weak c (pM_pN m (ok_set x0 x1 k.1 hN).2)
theorem my_stageOf (G : BcG) {gi : GI} {N : Nat} {S : SS} (k : SOk N S) (m : RelM S gi) (x0 x1 x2 : Int32) : Ct G mX9_stageOf [.ref (G.1 + 335), .int x0, .int x1, .int x2] (hp gi) (pI (fStageOf S.1 x0 x1 x2) (hp gi)) := by
  have c := mx_stageOf G (gi := gi) (N := N) (by rw [m.1]; exact k.1) x0 x1 x2
  rw [m.1] at c
  exact c
theorem my_batchOf (G : BcG) {gi : GI} {N : Nat} {S : SS} (k : SOk N S) (m : RelM S gi) (x0 x1 : Int32) : Ct G mX9_batchOf [.ref (G.1 + 335), .int x0, .int x1] (hp gi) (pI (fBatchOf S.1 x0 x1) (hp gi)) := by
  have c := mx_batchOf G (gi := gi) (N := N) (by rw [m.1]; exact k.1) x0 x1
  rw [m.1] at c
  exact c
theorem my_vesselOf (G : BcG) {gi : GI} {N : Nat} {S : SS} (k : SOk N S) (m : RelM S gi) (x0 x1 : Int32) : Ct G mX9_vesselOf [.ref (G.1 + 335), .int x0, .int x1] (hp gi) (pI (fVesselOf S.1 x0 x1) (hp gi)) := by
  have c := mx_vesselOf G (gi := gi) (N := N) (by rw [m.1]; exact k.1) x0 x1
  rw [m.1] at c
  exact c
theorem my_lineOf (G : BcG) {gi : GI} {N : Nat} {S : SS} (k : SOk N S) (m : RelM S gi) (x0 x1 : Int32) : Ct G mX9_lineOf [.ref (G.1 + 335), .int x0, .int x1] (hp gi) (pI (fLineOf S.1 x0 x1) (hp gi)) := by
  have c := mx_lineOf G (gi := gi) (N := N) (by rw [m.1]; exact k.1) x0 x1
  rw [m.1] at c
  exact c
theorem my_targets (G : BcG) {gi : GI} {N : Nat} {S : SS} (k : SOk N S) (m : RelM S gi) (x0 : Int32) : Ct G mX9_targets [.ref (G.1 + 335), .int x0] (hp gi) (pI (fTargets S.1 x0) (hp gi)) := by
  have c := mx_targets G (gi := gi) (N := N) (by rw [m.1]; exact k.1) x0
  rw [m.1] at c
  exact c
theorem my_quickest (G : BcG) {gi : GI} {N : Nat} {S : SS} (k : SOk N S) (m : RelM S gi) (x0 x1 : Int32) : Ct G mX9_quickest [.ref (G.1 + 335), .int x0, .int x1] (hp gi) (pI (fQuickest S.1 x0 x1) (hp gi)) := by
  have c := mx_quickest G (gi := gi) (N := N) (by rw [m.1]; exact k.1) x0 x1
  rw [m.1] at c
  exact c
theorem my_soonest (G : BcG) {gi : GI} {N : Nat} {S : SS} (k : SOk N S) (m : RelM S gi) (x0 : Int32) : Ct G mX9_soonest [.ref (G.1 + 335), .int x0] (hp gi) (pI (fSoonest S.1 x0) (hp gi)) := by
  have c := mx_soonest G (gi := gi) (N := N) (by rw [m.1]; exact k.1) x0
  rw [m.1] at c
  exact c
theorem my_urgent (G : BcG) {gi : GI} {N : Nat} {S : SS} (k : SOk N S) (m : RelM S gi) (x0 : Int32) : Ct G mX9_urgent [.ref (G.1 + 335), .int x0] (hp gi) (pI (fUrgent S.1 x0) (hp gi)) := by
  have c := mx_urgent G (gi := gi) (N := N) (by rw [m.1]; exact k.1) x0
  rw [m.1] at c
  exact c
theorem tb_out {w : Int32} (h : ¬ inR w 0 21) : w.toInt < 0 ∨ 21 < w.toInt := by
  unfold inR at h
  rw [Int32.le_iff_toInt_le, Int32.le_iff_toInt_le] at h
  have e0 : (0 : Int32).toInt = 0 := by decide
  have e21 : (21 : Int32).toInt = 21 := by decide
  rw [e0, e21] at h
  omega
theorem ix30 (j : Nat) : (11 : Int32) + nI (30 + j) - 30 = nI (11 + j) := by
  rw [show (11 : Int32) = nI 11 from rfl, nI_add, show (30 : Int32) = nI 30 from rfl, pk_sub (by omega), show 11 + (30 + j) - 30 = 11 + j by omega]
theorem out21 {w : Int32} (h : ¬ inR w 0 21) : ¬ inR w 0 10 ∧ ¬ w = 11 ∧ ¬ w = 12 ∧ ¬ inR w 20 21 := by
  refine ⟨fun z => h ⟨z.1, Int32.le_trans z.2 (by decide)⟩, fun z => h (by rw [z]; exact ⟨by decide, by decide⟩), fun z => h (by rw [z]; exact ⟨by decide, by decide⟩), fun z => h ⟨Int32.le_trans (by decide) z.1, z.2⟩⟩
set_option maxHeartbeats 4000000 in
set_option maxRecDepth 100000 in
theorem mx_count (G : BcG) {gi : GI} {S : SS} (m : RelM S gi) (w : Int32) : Ct G mX9_count [.ref (G.1 + 335), .int w] (hp gi) (pI (fCount S w) (hp gi)) := by
  obtain ⟨m1, m2, m3, m4, m5⟩ := id m
  refine ct_of [some (.ref (G.1 + 335)), some (.int w)] w_10 (by decide) rfl (Nat.le_of_ble_eq_true rfl) rfl ?_
  refine go_iload_n 1 dX9_count_0 rfl rfl (ls_s ls_0) ?_
  by_cases h21 : inR w 0 21
  · obtain ⟨j, hj, rfl⟩ := inR_n (c := 21) (by decide) h21
    obtain rfl | rfl | rfl | rfl | rfl | rfl | rfl | rfl | rfl | rfl | rfl | rfl | rfl | rfl | rfl | rfl | rfl | rfl | rfl | rfl | rfl | rfl : j = 0 ∨ j = 1 ∨ j = 2 ∨ j = 3 ∨ j = 4 ∨ j = 5 ∨ j = 6 ∨ j = 7 ∨ j = 8 ∨ j = 9 ∨ j = 10 ∨ j = 11 ∨ j = 12 ∨ j = 13 ∨ j = 14 ∨ j = 15 ∨ j = 16 ∨ j = 17 ∨ j = 18 ∨ j = 19 ∨ j = 20 ∨ j = 21 := by omega
    · refine go_tabIn 104 dX9_count_1 (off := 103) (by decide +kernel) (by decide +kernel) (by decide +kernel) (by decide) ?_
      refine go_aload_n 105 dX9_count_104 rfl rfl ls_0 ?_
      refine gp_getR 108 dX9_count_105 rfl f_X9_7 rfl o335 rfl ?_
      refine go_iconst 109 (v := 2) dX9_count_108 rfl (by decide) ?_
      refine go_iload_n 110 dX9_count_109 rfl rfl (ls_s ls_0) ?_
      refine go_iadd 111 dX9_count_110 rfl ?_
      refine gp_ialdN 112 (i := 2) dX9_count_111 rfl a336 (by decide) (by decide) (by decide) ?_
      exact go_ret_i dX9_count_112 rfl rfl rfl (pI_of (by rw [cO_t (by decide) (by unfold inR; decide), ← m1]; rfl) rfl)
    · refine go_tabIn 104 dX9_count_1 (off := 103) (by decide +kernel) (by decide +kernel) (by decide +kernel) (by decide) ?_
      refine go_aload_n 105 dX9_count_104 rfl rfl ls_0 ?_
      refine gp_getR 108 dX9_count_105 rfl f_X9_7 rfl o335 rfl ?_
      refine go_iconst 109 (v := 2) dX9_count_108 rfl (by decide) ?_
      refine go_iload_n 110 dX9_count_109 rfl rfl (ls_s ls_0) ?_
      refine go_iadd 111 dX9_count_110 rfl ?_
      refine gp_ialdN 112 (i := 3) dX9_count_111 rfl a336 (by decide) (by decide) (by decide) ?_
      exact go_ret_i dX9_count_112 rfl rfl rfl (pI_of (by rw [cO_t (by decide) (by unfold inR; decide), ← m1]; rfl) rfl)
    · refine go_tabIn 104 dX9_count_1 (off := 103) (by decide +kernel) (by decide +kernel) (by decide +kernel) (by decide) ?_
      refine go_aload_n 105 dX9_count_104 rfl rfl ls_0 ?_
      refine gp_getR 108 dX9_count_105 rfl f_X9_7 rfl o335 rfl ?_
      refine go_iconst 109 (v := 2) dX9_count_108 rfl (by decide) ?_
      refine go_iload_n 110 dX9_count_109 rfl rfl (ls_s ls_0) ?_
      refine go_iadd 111 dX9_count_110 rfl ?_
      refine gp_ialdN 112 (i := 4) dX9_count_111 rfl a336 (by decide) (by decide) (by decide) ?_
      exact go_ret_i dX9_count_112 rfl rfl rfl (pI_of (by rw [cO_t (by decide) (by unfold inR; decide), ← m1]; rfl) rfl)
    · refine go_tabIn 113 dX9_count_1 (off := 112) (by decide +kernel) (by decide +kernel) (by decide +kernel) (by decide) ?_
      refine go_aload_n 114 dX9_count_113 rfl rfl ls_0 ?_
      refine go_iconst 115 (v := 0) dX9_count_114 rfl (by decide) ?_
      refine go_VI (M' := mX9_ofBatches) 118 dX9_count_115 rfl w_934 okX9_ofBatches ⟨Nat.le_of_ble_eq_true rfl, Nat.le_of_ble_eq_true rfl⟩ (m_batches G gi) rfl rfl o335 (by decide) rfl (kk := ?_)
      exact go_ret_i dX9_count_118 rfl rfl rfl (pI_of (by rw [cO_t (by decide) (by unfold inR; decide), ← m1]; rfl) rfl)
    · refine go_tabIn 119 dX9_count_1 (off := 118) (by decide +kernel) (by decide +kernel) (by decide +kernel) (by decide) ?_
      refine go_aload_n 120 dX9_count_119 rfl rfl ls_0 ?_
      refine gp_getR 123 dX9_count_120 rfl f_X9_7 rfl o335 rfl ?_
      refine go_iconst 124 (v := 5) dX9_count_123 rfl (by decide) ?_
      refine go_iload_n 125 dX9_count_124 rfl rfl (ls_s ls_0) ?_
      refine go_iadd 126 dX9_count_125 rfl ?_
      refine go_iconst 127 (v := 4) dX9_count_126 rfl (by decide) ?_
      refine go_isub 128 dX9_count_127 rfl ?_
      refine gp_ialdN 129 (i := 5) dX9_count_128 rfl a336 (by decide) (by decide) (by decide) ?_
      exact go_ret_i dX9_count_129 rfl rfl rfl (pI_of (by rw [cO_t (by decide) (by unfold inR; decide), ← m1]; rfl) rfl)
    · refine go_tabIn 119 dX9_count_1 (off := 118) (by decide +kernel) (by decide +kernel) (by decide +kernel) (by decide) ?_
      refine go_aload_n 120 dX9_count_119 rfl rfl ls_0 ?_
      refine gp_getR 123 dX9_count_120 rfl f_X9_7 rfl o335 rfl ?_
      refine go_iconst 124 (v := 5) dX9_count_123 rfl (by decide) ?_
      refine go_iload_n 125 dX9_count_124 rfl rfl (ls_s ls_0) ?_
      refine go_iadd 126 dX9_count_125 rfl ?_
      refine go_iconst 127 (v := 4) dX9_count_126 rfl (by decide) ?_
      refine go_isub 128 dX9_count_127 rfl ?_
      refine gp_ialdN 129 (i := 6) dX9_count_128 rfl a336 (by decide) (by decide) (by decide) ?_
      exact go_ret_i dX9_count_129 rfl rfl rfl (pI_of (by rw [cO_t (by decide) (by unfold inR; decide), ← m1]; rfl) rfl)
    · refine go_tabIn 119 dX9_count_1 (off := 118) (by decide +kernel) (by decide +kernel) (by decide +kernel) (by decide) ?_
      refine go_aload_n 120 dX9_count_119 rfl rfl ls_0 ?_
      refine gp_getR 123 dX9_count_120 rfl f_X9_7 rfl o335 rfl ?_
      refine go_iconst 124 (v := 5) dX9_count_123 rfl (by decide) ?_
      refine go_iload_n 125 dX9_count_124 rfl rfl (ls_s ls_0) ?_
      refine go_iadd 126 dX9_count_125 rfl ?_
      refine go_iconst 127 (v := 4) dX9_count_126 rfl (by decide) ?_
      refine go_isub 128 dX9_count_127 rfl ?_
      refine gp_ialdN 129 (i := 7) dX9_count_128 rfl a336 (by decide) (by decide) (by decide) ?_
      exact go_ret_i dX9_count_129 rfl rfl rfl (pI_of (by rw [cO_t (by decide) (by unfold inR; decide), ← m1]; rfl) rfl)
    · refine go_tabIn 119 dX9_count_1 (off := 118) (by decide +kernel) (by decide +kernel) (by decide +kernel) (by decide) ?_
      refine go_aload_n 120 dX9_count_119 rfl rfl ls_0 ?_
      refine gp_getR 123 dX9_count_120 rfl f_X9_7 rfl o335 rfl ?_
      refine go_iconst 124 (v := 5) dX9_count_123 rfl (by decide) ?_
      refine go_iload_n 125 dX9_count_124 rfl rfl (ls_s ls_0) ?_
      refine go_iadd 126 dX9_count_125 rfl ?_
      refine go_iconst 127 (v := 4) dX9_count_126 rfl (by decide) ?_
      refine go_isub 128 dX9_count_127 rfl ?_
      refine gp_ialdN 129 (i := 8) dX9_count_128 rfl a336 (by decide) (by decide) (by decide) ?_
      exact go_ret_i dX9_count_129 rfl rfl rfl (pI_of (by rw [cO_t (by decide) (by unfold inR; decide), ← m1]; rfl) rfl)
    · refine go_tabIn 130 dX9_count_1 (off := 129) (by decide +kernel) (by decide +kernel) (by decide +kernel) (by decide) ?_
      refine go_aload_n 131 dX9_count_130 rfl rfl ls_0 ?_
      refine go_iconst 132 (v := 1) dX9_count_131 rfl (by decide) ?_
      refine go_VI (M' := mX9_ofBatches) 135 dX9_count_132 rfl w_934 okX9_ofBatches ⟨Nat.le_of_ble_eq_true rfl, Nat.le_of_ble_eq_true rfl⟩ (m_masses G gi) rfl rfl o335 (by decide) rfl (kk := ?_)
      exact go_ret_i dX9_count_135 rfl rfl rfl (pI_of (by rw [cO_t (by decide) (by unfold inR; decide), ← m1]; rfl) rfl)
    · refine go_tabIn 136 dX9_count_1 (off := 135) (by decide +kernel) (by decide +kernel) (by decide +kernel) (by decide) ?_
      refine go_aload_n 137 dX9_count_136 rfl rfl ls_0 ?_
      refine gp_getR 140 dX9_count_137 rfl f_X9_7 rfl o335 rfl ?_
      refine go_bipush 142 (v := 9) dX9_count_140 rfl (by decide) ?_
      refine go_iload_n 143 dX9_count_142 rfl rfl (ls_s ls_0) ?_
      refine go_iadd 144 dX9_count_143 rfl ?_
      refine go_bipush 146 (v := 9) dX9_count_144 rfl (by decide) ?_
      refine go_isub 147 dX9_count_146 rfl ?_
      refine gp_ialdN 148 (i := 9) dX9_count_147 rfl a336 (by decide) (by decide) (by decide) ?_
      exact go_ret_i dX9_count_148 rfl rfl rfl (pI_of (by rw [cO_t (by decide) (by unfold inR; decide), ← m1]; rfl) rfl)
    · refine go_tabIn 136 dX9_count_1 (off := 135) (by decide +kernel) (by decide +kernel) (by decide +kernel) (by decide) ?_
      refine go_aload_n 137 dX9_count_136 rfl rfl ls_0 ?_
      refine gp_getR 140 dX9_count_137 rfl f_X9_7 rfl o335 rfl ?_
      refine go_bipush 142 (v := 9) dX9_count_140 rfl (by decide) ?_
      refine go_iload_n 143 dX9_count_142 rfl rfl (ls_s ls_0) ?_
      refine go_iadd 144 dX9_count_143 rfl ?_
      refine go_bipush 146 (v := 9) dX9_count_144 rfl (by decide) ?_
      refine go_isub 147 dX9_count_146 rfl ?_
      refine gp_ialdN 148 (i := 10) dX9_count_147 rfl a336 (by decide) (by decide) (by decide) ?_
      exact go_ret_i dX9_count_148 rfl rfl rfl (pI_of (by rw [cO_t (by decide) (by unfold inR; decide), ← m1]; rfl) rfl)
    · refine go_tabIn 149 dX9_count_1 (off := 148) (by decide +kernel) (by decide +kernel) (by decide +kernel) (by decide) ?_
      refine go_aload_n 150 dX9_count_149 rfl rfl ls_0 ?_
      refine gp_getI 153 dX9_count_150 rfl f_X9_29 rfl o335 ?_
      refine go_top (y := (nI S.2.1.length)) m3.1 ?_
      exact go_ret_i dX9_count_153 rfl rfl rfl (pI_of (cO_11 (S := S)).symm rfl)
    · refine go_tabIn 154 dX9_count_1 (off := 153) (by decide +kernel) (by decide +kernel) (by decide +kernel) (by decide) ?_
      refine go_aload_n 155 dX9_count_154 rfl rfl ls_0 ?_
      refine gp_getI 158 dX9_count_155 rfl f_X9_121 rfl o335 ?_
      refine go_top (y := (nI S.2.2.2)) m4 ?_
      exact go_ret_i dX9_count_158 rfl rfl rfl (pI_of (cO_12 (S := S)).symm rfl)
    · refine go_tabIn 169 dX9_count_1 (off := 168) (by decide +kernel) (by decide +kernel) (by decide +kernel) (by decide) ?_
      refine go_iload_n 170 dX9_count_169 rfl rfl (ls_s ls_0) ?_
      refine go_bipush 172 (v := 30) dX9_count_170 rfl (by decide) ?_
      refine go_bipush 174 (v := 33) dX9_count_172 rfl (by decide) ?_
      refine go_SI (M' := mX9_in) 177 dX9_count_174 rfl w_768 okX9_in ⟨Nat.le_of_ble_eq_true rfl, Nat.le_of_ble_eq_true rfl⟩ (m_in G gi _ _ _) rfl rfl (kk := ?_)
      refine go_ifeq_b 195 180 dX9_count_177 (by decide) rfl (fun c_177 => ?_) (fun c_177 => absurd c_177 (by decide))
      refine go_iconst 196 (v := (-1)) dX9_count_195 rfl (by decide) ?_
      exact go_ret_i dX9_count_196 rfl rfl rfl (pI_of (cO_n (S := S) (by unfold inR; decide) (by decide) (by decide) (by unfold inR; decide) (by unfold inR; decide)).symm rfl)
    · refine go_tabIn 169 dX9_count_1 (off := 168) (by decide +kernel) (by decide +kernel) (by decide +kernel) (by decide) ?_
      refine go_iload_n 170 dX9_count_169 rfl rfl (ls_s ls_0) ?_
      refine go_bipush 172 (v := 30) dX9_count_170 rfl (by decide) ?_
      refine go_bipush 174 (v := 33) dX9_count_172 rfl (by decide) ?_
      refine go_SI (M' := mX9_in) 177 dX9_count_174 rfl w_768 okX9_in ⟨Nat.le_of_ble_eq_true rfl, Nat.le_of_ble_eq_true rfl⟩ (m_in G gi _ _ _) rfl rfl (kk := ?_)
      refine go_ifeq_b 195 180 dX9_count_177 (by decide) rfl (fun c_177 => ?_) (fun c_177 => absurd c_177 (by decide))
      refine go_iconst 196 (v := (-1)) dX9_count_195 rfl (by decide) ?_
      exact go_ret_i dX9_count_196 rfl rfl rfl (pI_of (cO_n (S := S) (by unfold inR; decide) (by decide) (by decide) (by unfold inR; decide) (by unfold inR; decide)).symm rfl)
    · refine go_tabIn 169 dX9_count_1 (off := 168) (by decide +kernel) (by decide +kernel) (by decide +kernel) (by decide) ?_
      refine go_iload_n 170 dX9_count_169 rfl rfl (ls_s ls_0) ?_
      refine go_bipush 172 (v := 30) dX9_count_170 rfl (by decide) ?_
      refine go_bipush 174 (v := 33) dX9_count_172 rfl (by decide) ?_
      refine go_SI (M' := mX9_in) 177 dX9_count_174 rfl w_768 okX9_in ⟨Nat.le_of_ble_eq_true rfl, Nat.le_of_ble_eq_true rfl⟩ (m_in G gi _ _ _) rfl rfl (kk := ?_)
      refine go_ifeq_b 195 180 dX9_count_177 (by decide) rfl (fun c_177 => ?_) (fun c_177 => absurd c_177 (by decide))
      refine go_iconst 196 (v := (-1)) dX9_count_195 rfl (by decide) ?_
      exact go_ret_i dX9_count_196 rfl rfl rfl (pI_of (cO_n (S := S) (by unfold inR; decide) (by decide) (by decide) (by unfold inR; decide) (by unfold inR; decide)).symm rfl)
    · refine go_tabIn 169 dX9_count_1 (off := 168) (by decide +kernel) (by decide +kernel) (by decide +kernel) (by decide) ?_
      refine go_iload_n 170 dX9_count_169 rfl rfl (ls_s ls_0) ?_
      refine go_bipush 172 (v := 30) dX9_count_170 rfl (by decide) ?_
      refine go_bipush 174 (v := 33) dX9_count_172 rfl (by decide) ?_
      refine go_SI (M' := mX9_in) 177 dX9_count_174 rfl w_768 okX9_in ⟨Nat.le_of_ble_eq_true rfl, Nat.le_of_ble_eq_true rfl⟩ (m_in G gi _ _ _) rfl rfl (kk := ?_)
      refine go_ifeq_b 195 180 dX9_count_177 (by decide) rfl (fun c_177 => ?_) (fun c_177 => absurd c_177 (by decide))
      refine go_iconst 196 (v := (-1)) dX9_count_195 rfl (by decide) ?_
      exact go_ret_i dX9_count_196 rfl rfl rfl (pI_of (cO_n (S := S) (by unfold inR; decide) (by decide) (by decide) (by unfold inR; decide) (by unfold inR; decide)).symm rfl)
    · refine go_tabIn 169 dX9_count_1 (off := 168) (by decide +kernel) (by decide +kernel) (by decide +kernel) (by decide) ?_
      refine go_iload_n 170 dX9_count_169 rfl rfl (ls_s ls_0) ?_
      refine go_bipush 172 (v := 30) dX9_count_170 rfl (by decide) ?_
      refine go_bipush 174 (v := 33) dX9_count_172 rfl (by decide) ?_
      refine go_SI (M' := mX9_in) 177 dX9_count_174 rfl w_768 okX9_in ⟨Nat.le_of_ble_eq_true rfl, Nat.le_of_ble_eq_true rfl⟩ (m_in G gi _ _ _) rfl rfl (kk := ?_)
      refine go_ifeq_b 195 180 dX9_count_177 (by decide) rfl (fun c_177 => ?_) (fun c_177 => absurd c_177 (by decide))
      refine go_iconst 196 (v := (-1)) dX9_count_195 rfl (by decide) ?_
      exact go_ret_i dX9_count_196 rfl rfl rfl (pI_of (cO_n (S := S) (by unfold inR; decide) (by decide) (by decide) (by unfold inR; decide) (by unfold inR; decide)).symm rfl)
    · refine go_tabIn 169 dX9_count_1 (off := 168) (by decide +kernel) (by decide +kernel) (by decide +kernel) (by decide) ?_
      refine go_iload_n 170 dX9_count_169 rfl rfl (ls_s ls_0) ?_
      refine go_bipush 172 (v := 30) dX9_count_170 rfl (by decide) ?_
      refine go_bipush 174 (v := 33) dX9_count_172 rfl (by decide) ?_
      refine go_SI (M' := mX9_in) 177 dX9_count_174 rfl w_768 okX9_in ⟨Nat.le_of_ble_eq_true rfl, Nat.le_of_ble_eq_true rfl⟩ (m_in G gi _ _ _) rfl rfl (kk := ?_)
      refine go_ifeq_b 195 180 dX9_count_177 (by decide) rfl (fun c_177 => ?_) (fun c_177 => absurd c_177 (by decide))
      refine go_iconst 196 (v := (-1)) dX9_count_195 rfl (by decide) ?_
      exact go_ret_i dX9_count_196 rfl rfl rfl (pI_of (cO_n (S := S) (by unfold inR; decide) (by decide) (by decide) (by unfold inR; decide) (by unfold inR; decide)).symm rfl)
    · refine go_tabIn 169 dX9_count_1 (off := 168) (by decide +kernel) (by decide +kernel) (by decide +kernel) (by decide) ?_
      refine go_iload_n 170 dX9_count_169 rfl rfl (ls_s ls_0) ?_
      refine go_bipush 172 (v := 30) dX9_count_170 rfl (by decide) ?_
      refine go_bipush 174 (v := 33) dX9_count_172 rfl (by decide) ?_
      refine go_SI (M' := mX9_in) 177 dX9_count_174 rfl w_768 okX9_in ⟨Nat.le_of_ble_eq_true rfl, Nat.le_of_ble_eq_true rfl⟩ (m_in G gi _ _ _) rfl rfl (kk := ?_)
      refine go_ifeq_b 195 180 dX9_count_177 (by decide) rfl (fun c_177 => ?_) (fun c_177 => absurd c_177 (by decide))
      refine go_iconst 196 (v := (-1)) dX9_count_195 rfl (by decide) ?_
      exact go_ret_i dX9_count_196 rfl rfl rfl (pI_of (cO_n (S := S) (by unfold inR; decide) (by decide) (by decide) (by unfold inR; decide) (by unfold inR; decide)).symm rfl)
    · refine go_tabIn 159 dX9_count_1 (off := 158) (by decide +kernel) (by decide +kernel) (by decide +kernel) (by decide) ?_
      refine go_aload_n 160 dX9_count_159 rfl rfl ls_0 ?_
      refine gp_getR 163 dX9_count_160 rfl f_X9_7 rfl o335 rfl ?_
      refine go_iload_n 164 dX9_count_163 rfl rfl (ls_s ls_0) ?_
      refine go_bipush 166 (v := 20) dX9_count_164 rfl (by decide) ?_
      refine go_isub 167 dX9_count_166 rfl ?_
      refine gp_ialdN 168 (i := 0) dX9_count_167 rfl a336 (by decide) (by decide) (by decide) ?_
      exact go_ret_i dX9_count_168 rfl rfl rfl (pI_of (by rw [m1]; exact (cO_s (S := S) 0 (by decide)).symm) rfl)
    · refine go_tabIn 159 dX9_count_1 (off := 158) (by decide +kernel) (by decide +kernel) (by decide +kernel) (by decide) ?_
      refine go_aload_n 160 dX9_count_159 rfl rfl ls_0 ?_
      refine gp_getR 163 dX9_count_160 rfl f_X9_7 rfl o335 rfl ?_
      refine go_iload_n 164 dX9_count_163 rfl rfl (ls_s ls_0) ?_
      refine go_bipush 166 (v := 20) dX9_count_164 rfl (by decide) ?_
      refine go_isub 167 dX9_count_166 rfl ?_
      refine gp_ialdN 168 (i := 1) dX9_count_167 rfl a336 (by decide) (by decide) (by decide) ?_
      exact go_ret_i dX9_count_168 rfl rfl rfl (pI_of (by rw [m1]; exact (cO_s (S := S) 1 (by decide)).symm) rfl)
  · refine go_tabOut 169 dX9_count_1 (tb_out h21) (by decide) ?_
    refine go_iload_n 170 dX9_count_169 rfl rfl (ls_s ls_0) ?_
    refine go_bipush 172 (v := 30) dX9_count_170 rfl (by decide) ?_
    refine go_bipush 174 (v := 33) dX9_count_172 rfl (by decide) ?_
    refine go_SI (M' := mX9_in) 177 dX9_count_174 rfl w_768 okX9_in ⟨Nat.le_of_ble_eq_true rfl, Nat.le_of_ble_eq_true rfl⟩ (m_in G gi _ _ _) rfl rfl (kk := ?_)
    refine go_ifeq_b 195 180 dX9_count_177 (by decide) rfl (fun c_177 => ?_) (fun c_177 => ?_)
    · refine go_iconst 196 (v := (-1)) dX9_count_195 rfl (by decide) ?_
      exact go_ret_i dX9_count_196 rfl rfl rfl (pI_of (cO_n (out21 h21).1 (out21 h21).2.1 (out21 h21).2.2.1 (out21 h21).2.2.2 c_177).symm rfl)
    · obtain ⟨j, hj, e30, e30s⟩ := inR_30 c_177
      refine go_aload_n 181 dX9_count_180 rfl rfl ls_0 ?_
      refine gp_getR 184 dX9_count_181 rfl f_X9_7 rfl o335 rfl ?_
      refine go_bipush 186 (v := 11) dX9_count_184 rfl (by decide) ?_
      refine go_iload_n 187 dX9_count_186 rfl rfl (ls_s ls_0) ?_
      refine go_iadd 188 dX9_count_187 rfl ?_
      refine go_bipush 190 (v := 30) dX9_count_188 rfl (by decide) ?_
      refine go_isub 191 dX9_count_190 rfl ?_
      refine gp_ialdN 192 (i := (11 + j)) dX9_count_191 rfl a336 (by rw [e30]; exact ix30 j) (by omega) (by decide) ?_
      refine go_goto 196 dX9_count_192 (by decide) ?_
      exact go_ret_i dX9_count_196 rfl rfl rfl (pI_of (by rw [e30, cO_o j hj, m1]) rfl)
