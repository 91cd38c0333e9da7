/-! TEXTS ARE PLAYED -/
theorem plF_x {T : TX} {L f p c : Nat} {A : AA} (h : ¬ p < L) : plF T L (f + 1) p A c = (none, c, A) := by rw [plF, if_neg h]
theorem plF_n {T : TX} {L f p c : Nat} {A : AA} (h : p < L) (e : cdF T L p = none) : plF T L (f + 1) p A c = (some (p, 1), c, A) := by rw [plF, if_pos h, e]
theorem plF_e {T : TX} {L f p c : Nat} {A : AA} {q : Nat × (Nat → Int32)} (h : p < L) (e : cdF T L p = some q) (h2 : (exF A (sg T L p) q.2).1 < 0) : plF T L (f + 1) p A c = (some (p, cIf ((exF A (sg T L p) q.2).1 = -1) 2 3), c, A) := by rw [plF, if_pos h, e]; exact cIf_t h2
theorem plF_s {T : TX} {L f p c : Nat} {A : AA} {q : Nat × (Nat → Int32)} (h : p < L) (e : cdF T L p = some q) (h2 : ¬ (exF A (sg T L p) q.2).1 < 0) : plF T L (f + 1) p A c = plF T L f q.1 (exF A (sg T L p) q.2).2 (c + 1) := by rw [plF, if_pos h, e]; exact cIf_f h2
theorem ex_98 {A : AA} {E : Nat → Int32} : exF A 98 E = fBegin A (E 0) (E 1) (E 2) := by rw [exF, if_pos rfl]
theorem ex_109 {A : AA} {E : Nat → Int32} : exF A 109 E = fMove A (E 0) (E 1) := by rw [exF, if_neg (by decide), if_pos rfl]
theorem ex_101 {A : AA} {E : Nat → Int32} : exF A 101 E = fEnd A (E 0) := by rw [exF, if_neg (by decide), if_neg (by decide), if_pos rfl]
theorem ex_120 {A : AA} {E : Nat → Int32} : exF A 120 E = fDiscard A (E 0) := by rw [exF, if_neg (by decide), if_neg (by decide), if_neg (by decide), if_pos rfl]
theorem ex_111 {A : AA} {E : Nat → Int32} : exF A 111 E = fBlend A (E 0) (E 1) := by rw [exF, if_neg (by decide), if_neg (by decide), if_neg (by decide), if_neg (by decide), if_pos rfl]
theorem ex_116 {A : AA} {E : Nat → Int32} : exF A 116 E = fPass A (E 0) := by rw [exF, if_neg (by decide), if_neg (by decide), if_neg (by decide), if_neg (by decide), if_neg (by decide)]
theorem mny_c {l : Int32} (h : 0 < mny l) : l = 98 ∨ l = 109 ∨ l = 101 ∨ l = 120 ∨ l = 111 ∨ l = 116 := by
  unfold mny at h
  by_cases h1 : l = 98
  · exact Or.inl h1
  · rw [if_neg h1] at h
    by_cases h2 : l = 109 ∨ l = 111
    · rcases h2 with q | q
      · exact Or.inr (Or.inl q)
      · exact Or.inr (Or.inr (Or.inr (Or.inr (Or.inl q))))
    · rw [if_neg h2] at h
      by_cases h3 : l = 101 ∨ l = 116 ∨ l = 120
      · rcases h3 with q | q | q
        · exact Or.inr (Or.inr (Or.inl q))
        · exact Or.inr (Or.inr (Or.inr (Or.inr (Or.inr q))))
        · exact Or.inr (Or.inr (Or.inr (Or.inl q)))
      · rw [if_neg h3] at h; omega
set_option maxHeartbeats 4000000 in
set_option maxRecDepth 100000 in
theorem ct_perform98 (G : BcG) {gi : GI} {N : Nat} {A : AA} (h : Rel 48 A gi) (I : Inv N A) {E : Nat → Int32} (hl : gi 332 2 = 98) (hE : ∀ j, j < 3 → gi 334 j = E j) : Ct G mX8_perform [.ref (G.1 + 0)] (hp gi) (pOp 48 gi (exF A 98 E)) := by
  rw [ex_98]
  refine ct_of [some (.ref (G.1 + 0)), none, none] w_1 (by decide) rfl (Nat.le_of_ble_eq_true rfl) rfl ?_
  refine go_aload_n 1 dX8_perform_0 rfl rfl ls_0 ?_
  refine gp_getR 4 dX8_perform_1 rfl f_X8_29 rfl o0 rfl ?_
  refine gp_getR 7 dX8_perform_4 rfl f_X8_201 rfl o332 rfl ?_
  refine go_iconst 8 (v := 0) dX8_perform_7 rfl (by decide) ?_
  refine go_SI (M' := mX8_entryAt) 11 dX8_perform_8 rfl w_603 okX8_entryAt ⟨Nat.le_of_ble_eq_true rfl, Nat.le_of_ble_eq_true rfl⟩ (ct_entryAt G gi _ 3 _ a334 (by decide)) rfl rfl (kk := ?_)
  refine go_top (y := (E 0)) (by rw [show (0 : Int32) = nI 0 from rfl, entF_n (by decide) (by decide)]; exact hE 0 (by decide)) ?_
  refine go_istore_n 12 dX8_perform_11 rfl rfl (by decide) (st_s st_0) ?_
  refine go_aload_n 13 dX8_perform_12 rfl rfl ls_0 ?_
  refine gp_getR 16 dX8_perform_13 rfl f_X8_29 rfl o0 rfl ?_
  refine gp_getR 19 dX8_perform_16 rfl f_X8_201 rfl o332 rfl ?_
  refine go_iconst 20 (v := 1) dX8_perform_19 rfl (by decide) ?_
  refine go_SI (M' := mX8_entryAt) 23 dX8_perform_20 rfl w_603 okX8_entryAt ⟨Nat.le_of_ble_eq_true rfl, Nat.le_of_ble_eq_true rfl⟩ (ct_entryAt G gi _ 3 _ a334 (by decide)) rfl rfl (kk := ?_)
  refine go_top (y := (E 1)) (by rw [show (1 : Int32) = nI 1 from rfl, entF_n (by decide) (by decide)]; exact hE 1 (by decide)) ?_
  refine go_istore_n 24 dX8_perform_23 rfl rfl (by decide) (st_s (st_s st_0)) ?_
  refine go_aload_n 25 dX8_perform_24 rfl rfl ls_0 ?_
  refine gp_getR 28 dX8_perform_25 rfl f_X8_29 rfl o0 rfl ?_
  refine gp_getI 31 dX8_perform_28 rfl f_X8_204 rfl o332 ?_
  refine go_top (y := 98) hl ?_
  refine go_lookup 80 dX8_perform_31 (by decide +kernel) (off := 49) (by decide +kernel) (by decide) ?_
  refine go_aload_n 81 dX8_perform_80 rfl rfl ls_0 ?_
  refine gp_getR 84 dX8_perform_81 rfl f_X8_16 rfl o0 rfl ?_
  refine go_iload_n 85 dX8_perform_84 rfl rfl (ls_s ls_0) ?_
  refine go_iload_n 86 dX8_perform_85 rfl rfl (ls_s (ls_s ls_0)) ?_
  refine go_aload_n 87 dX8_perform_86 rfl rfl ls_0 ?_
  refine gp_getR 90 dX8_perform_87 rfl f_X8_29 rfl o0 rfl ?_
  refine gp_getR 93 dX8_perform_90 rfl f_X8_201 rfl o332 rfl ?_
  refine go_iconst 94 (v := 2) dX8_perform_93 rfl (by decide) ?_
  refine go_SI (M' := mX8_entryAt) 97 dX8_perform_94 rfl w_603 okX8_entryAt ⟨Nat.le_of_ble_eq_true rfl, Nat.le_of_ble_eq_true rfl⟩ (ct_entryAt G gi _ 3 _ a334 (by decide)) rfl rfl (kk := ?_)
  refine go_top (y := (E 2)) (by rw [show (2 : Int32) = nI 2 from rfl, entF_n (by decide) (by decide)]; exact hE 2 (by decide)) ?_
  refine go_V (M' := mX3_beginBatch) 100 dX8_perform_97 rfl w_443 okX3_beginBatch ⟨Nat.le_of_ble_eq_true rfl, Nat.le_of_ble_eq_true rfl⟩ rfl rfl (Nat.le_of_ble_eq_true rfl) (Nat.le_of_ble_eq_true rfl) (ct_beginBatch G gi is48 h I (E 0) (E 1) (E 2)) rfl rfl (Nat.le_of_ble_eq_true rfl) (tP is48) (by decide) rfl (fun v_97 h_97 p_97 => ?_)
  obtain ⟨rfl, g2, rfl, r2, u2⟩ := p_97
  exact go_ret_i dX8_perform_100 rfl rfl rfl ⟨rfl, g2, rfl, r2, u2⟩
set_option maxHeartbeats 4000000 in
set_option maxRecDepth 100000 in
theorem ct_perform109 (G : BcG) {gi : GI} {N : Nat} {A : AA} (h : Rel 48 A gi) (I : Inv N A) {E : Nat → Int32} (hl : gi 332 2 = 109) (hE : ∀ j, j < 2 → gi 334 j = E j) : Ct G mX8_perform [.ref (G.1 + 0)] (hp gi) (pOp 48 gi (exF A 109 E)) := by
  rw [ex_109]
  refine ct_of [some (.ref (G.1 + 0)), none, none] w_1 (by decide) rfl (Nat.le_of_ble_eq_true rfl) rfl ?_
  refine go_aload_n 1 dX8_perform_0 rfl rfl ls_0 ?_
  refine gp_getR 4 dX8_perform_1 rfl f_X8_29 rfl o0 rfl ?_
  refine gp_getR 7 dX8_perform_4 rfl f_X8_201 rfl o332 rfl ?_
  refine go_iconst 8 (v := 0) dX8_perform_7 rfl (by decide) ?_
  refine go_SI (M' := mX8_entryAt) 11 dX8_perform_8 rfl w_603 okX8_entryAt ⟨Nat.le_of_ble_eq_true rfl, Nat.le_of_ble_eq_true rfl⟩ (ct_entryAt G gi _ 3 _ a334 (by decide)) rfl rfl (kk := ?_)
  refine go_top (y := (E 0)) (by rw [show (0 : Int32) = nI 0 from rfl, entF_n (by decide) (by decide)]; exact hE 0 (by decide)) ?_
  refine go_istore_n 12 dX8_perform_11 rfl rfl (by decide) (st_s st_0) ?_
  refine go_aload_n 13 dX8_perform_12 rfl rfl ls_0 ?_
  refine gp_getR 16 dX8_perform_13 rfl f_X8_29 rfl o0 rfl ?_
  refine gp_getR 19 dX8_perform_16 rfl f_X8_201 rfl o332 rfl ?_
  refine go_iconst 20 (v := 1) dX8_perform_19 rfl (by decide) ?_
  refine go_SI (M' := mX8_entryAt) 23 dX8_perform_20 rfl w_603 okX8_entryAt ⟨Nat.le_of_ble_eq_true rfl, Nat.le_of_ble_eq_true rfl⟩ (ct_entryAt G gi _ 3 _ a334 (by decide)) rfl rfl (kk := ?_)
  refine go_top (y := (E 1)) (by rw [show (1 : Int32) = nI 1 from rfl, entF_n (by decide) (by decide)]; exact hE 1 (by decide)) ?_
  refine go_istore_n 24 dX8_perform_23 rfl rfl (by decide) (st_s (st_s st_0)) ?_
  refine go_aload_n 25 dX8_perform_24 rfl rfl ls_0 ?_
  refine gp_getR 28 dX8_perform_25 rfl f_X8_29 rfl o0 rfl ?_
  refine gp_getI 31 dX8_perform_28 rfl f_X8_204 rfl o332 ?_
  refine go_top (y := 109) hl ?_
  refine go_lookup 101 dX8_perform_31 (by decide +kernel) (off := 70) (by decide +kernel) (by decide) ?_
  refine go_aload_n 102 dX8_perform_101 rfl rfl ls_0 ?_
  refine gp_getR 105 dX8_perform_102 rfl f_X8_16 rfl o0 rfl ?_
  refine go_iload_n 106 dX8_perform_105 rfl rfl (ls_s ls_0) ?_
  refine go_iload_n 107 dX8_perform_106 rfl rfl (ls_s (ls_s ls_0)) ?_
  refine go_V (M' := mX3_moveBatch) 110 dX8_perform_107 rfl w_479 okX3_moveBatch ⟨Nat.le_of_ble_eq_true rfl, Nat.le_of_ble_eq_true rfl⟩ rfl rfl (Nat.le_of_ble_eq_true rfl) (Nat.le_of_ble_eq_true rfl) (ct_moveBatch G gi is48 h I (E 0) (E 1)) rfl rfl (Nat.le_of_ble_eq_true rfl) (tP is48) (by decide) rfl (fun v_107 h_107 p_107 => ?_)
  obtain ⟨rfl, g2, rfl, r2, u2⟩ := p_107
  exact go_ret_i dX8_perform_110 rfl rfl rfl ⟨rfl, g2, rfl, r2, u2⟩
set_option maxHeartbeats 4000000 in
set_option maxRecDepth 100000 in
theorem ct_perform101 (G : BcG) {gi : GI} {N : Nat} {A : AA} (h : Rel 48 A gi) (I : Inv N A) {E : Nat → Int32} (hl : gi 332 2 = 101) (hE : ∀ j, j < 1 → gi 334 j = E j) : Ct G mX8_perform [.ref (G.1 + 0)] (hp gi) (pOp 48 gi (exF A 101 E)) := by
  rw [ex_101]
  refine ct_of [some (.ref (G.1 + 0)), none, none] w_1 (by decide) rfl (Nat.le_of_ble_eq_true rfl) rfl ?_
  refine go_aload_n 1 dX8_perform_0 rfl rfl ls_0 ?_
  refine gp_getR 4 dX8_perform_1 rfl f_X8_29 rfl o0 rfl ?_
  refine gp_getR 7 dX8_perform_4 rfl f_X8_201 rfl o332 rfl ?_
  refine go_iconst 8 (v := 0) dX8_perform_7 rfl (by decide) ?_
  refine go_SI (M' := mX8_entryAt) 11 dX8_perform_8 rfl w_603 okX8_entryAt ⟨Nat.le_of_ble_eq_true rfl, Nat.le_of_ble_eq_true rfl⟩ (ct_entryAt G gi _ 3 _ a334 (by decide)) rfl rfl (kk := ?_)
  refine go_top (y := (E 0)) (by rw [show (0 : Int32) = nI 0 from rfl, entF_n (by decide) (by decide)]; exact hE 0 (by decide)) ?_
  refine go_istore_n 12 dX8_perform_11 rfl rfl (by decide) (st_s st_0) ?_
  refine go_aload_n 13 dX8_perform_12 rfl rfl ls_0 ?_
  refine gp_getR 16 dX8_perform_13 rfl f_X8_29 rfl o0 rfl ?_
  refine gp_getR 19 dX8_perform_16 rfl f_X8_201 rfl o332 rfl ?_
  refine go_iconst 20 (v := 1) dX8_perform_19 rfl (by decide) ?_
  refine go_SI (M' := mX8_entryAt) 23 dX8_perform_20 rfl w_603 okX8_entryAt ⟨Nat.le_of_ble_eq_true rfl, Nat.le_of_ble_eq_true rfl⟩ (ct_entryAt G gi _ 3 _ a334 (by decide)) rfl rfl (kk := ?_)
  refine go_top (y := (gi 334 1)) (by rw [show (1 : Int32) = nI 1 from rfl, entF_n (by decide) (by decide)]) ?_
  refine go_istore_n 24 dX8_perform_23 rfl rfl (by decide) (st_s (st_s st_0)) ?_
  refine go_aload_n 25 dX8_perform_24 rfl rfl ls_0 ?_
  refine gp_getR 28 dX8_perform_25 rfl f_X8_29 rfl o0 rfl ?_
  refine gp_getI 31 dX8_perform_28 rfl f_X8_204 rfl o332 ?_
  refine go_top (y := 101) hl ?_
  refine go_lookup 111 dX8_perform_31 (by decide +kernel) (off := 80) (by decide +kernel) (by decide) ?_
  refine go_aload_n 112 dX8_perform_111 rfl rfl ls_0 ?_
  refine gp_getR 115 dX8_perform_112 rfl f_X8_16 rfl o0 rfl ?_
  refine go_iload_n 116 dX8_perform_115 rfl rfl (ls_s ls_0) ?_
  refine go_V (M' := mX3_endBatch) 119 dX8_perform_116 rfl w_523 okX3_endBatch ⟨Nat.le_of_ble_eq_true rfl, Nat.le_of_ble_eq_true rfl⟩ rfl rfl (Nat.le_of_ble_eq_true rfl) (Nat.le_of_ble_eq_true rfl) (ct_endBatch G gi is48 h I (E 0)) rfl rfl (Nat.le_of_ble_eq_true rfl) (tP is48) (by decide) rfl (fun v_116 h_116 p_116 => ?_)
  obtain ⟨rfl, g2, rfl, r2, u2⟩ := p_116
  exact go_ret_i dX8_perform_119 rfl rfl rfl ⟨rfl, g2, rfl, r2, u2⟩
set_option maxHeartbeats 4000000 in
set_option maxRecDepth 100000 in
theorem ct_perform120 (G : BcG) {gi : GI} {N : Nat} {A : AA} (h : Rel 48 A gi) (I : Inv N A) {E : Nat → Int32} (hl : gi 332 2 = 120) (hE : ∀ j, j < 1 → gi 334 j = E j) : Ct G mX8_perform [.ref (G.1 + 0)] (hp gi) (pOp 48 gi (exF A 120 E)) := by
  rw [ex_120]
  refine ct_of [some (.ref (G.1 + 0)), none, none] w_1 (by decide) rfl (Nat.le_of_ble_eq_true rfl) rfl ?_
  refine go_aload_n 1 dX8_perform_0 rfl rfl ls_0 ?_
  refine gp_getR 4 dX8_perform_1 rfl f_X8_29 rfl o0 rfl ?_
  refine gp_getR 7 dX8_perform_4 rfl f_X8_201 rfl o332 rfl ?_
  refine go_iconst 8 (v := 0) dX8_perform_7 rfl (by decide) ?_
  refine go_SI (M' := mX8_entryAt) 11 dX8_perform_8 rfl w_603 okX8_entryAt ⟨Nat.le_of_ble_eq_true rfl, Nat.le_of_ble_eq_true rfl⟩ (ct_entryAt G gi _ 3 _ a334 (by decide)) rfl rfl (kk := ?_)
  refine go_top (y := (E 0)) (by rw [show (0 : Int32) = nI 0 from rfl, entF_n (by decide) (by decide)]; exact hE 0 (by decide)) ?_
  refine go_istore_n 12 dX8_perform_11 rfl rfl (by decide) (st_s st_0) ?_
  refine go_aload_n 13 dX8_perform_12 rfl rfl ls_0 ?_
  refine gp_getR 16 dX8_perform_13 rfl f_X8_29 rfl o0 rfl ?_
  refine gp_getR 19 dX8_perform_16 rfl f_X8_201 rfl o332 rfl ?_
  refine go_iconst 20 (v := 1) dX8_perform_19 rfl (by decide) ?_
  refine go_SI (M' := mX8_entryAt) 23 dX8_perform_20 rfl w_603 okX8_entryAt ⟨Nat.le_of_ble_eq_true rfl, Nat.le_of_ble_eq_true rfl⟩ (ct_entryAt G gi _ 3 _ a334 (by decide)) rfl rfl (kk := ?_)
  refine go_top (y := (gi 334 1)) (by rw [show (1 : Int32) = nI 1 from rfl, entF_n (by decide) (by decide)]) ?_
  refine go_istore_n 24 dX8_perform_23 rfl rfl (by decide) (st_s (st_s st_0)) ?_
  refine go_aload_n 25 dX8_perform_24 rfl rfl ls_0 ?_
  refine gp_getR 28 dX8_perform_25 rfl f_X8_29 rfl o0 rfl ?_
  refine gp_getI 31 dX8_perform_28 rfl f_X8_204 rfl o332 ?_
  refine go_top (y := 120) hl ?_
  refine go_lookup 120 dX8_perform_31 (by decide +kernel) (off := 89) (by decide +kernel) (by decide) ?_
  refine go_aload_n 121 dX8_perform_120 rfl rfl ls_0 ?_
  refine gp_getR 124 dX8_perform_121 rfl f_X8_16 rfl o0 rfl ?_
  refine go_iload_n 125 dX8_perform_124 rfl rfl (ls_s ls_0) ?_
  refine go_V (M' := mX3_throwAway) 128 dX8_perform_125 rfl w_539 okX3_throwAway ⟨Nat.le_of_ble_eq_true rfl, Nat.le_of_ble_eq_true rfl⟩ rfl rfl (Nat.le_of_ble_eq_true rfl) (Nat.le_of_ble_eq_true rfl) (ct_throwAway G gi is48 h I (E 0)) rfl rfl (Nat.le_of_ble_eq_true rfl) (tP is48) (by decide) rfl (fun v_125 h_125 p_125 => ?_)
  obtain ⟨rfl, g2, rfl, r2, u2⟩ := p_125
  exact go_ret_i dX8_perform_128 rfl rfl rfl ⟨rfl, g2, rfl, r2, u2⟩
set_option maxHeartbeats 4000000 in
set_option maxRecDepth 100000 in
theorem ct_perform111 (G : BcG) {gi : GI} {N : Nat} {A : AA} (h : Rel 48 A gi) (I : Inv N A) {E : Nat → Int32} (hl : gi 332 2 = 111) (hE : ∀ j, j < 2 → gi 334 j = E j) : Ct G mX8_perform [.ref (G.1 + 0)] (hp gi) (pOp 48 gi (exF A 111 E)) := by
  rw [ex_111]
  refine ct_of [some (.ref (G.1 + 0)), none, none] w_1 (by decide) rfl (Nat.le_of_ble_eq_true rfl) rfl ?_
  refine go_aload_n 1 dX8_perform_0 rfl rfl ls_0 ?_
  refine gp_getR 4 dX8_perform_1 rfl f_X8_29 rfl o0 rfl ?_
  refine gp_getR 7 dX8_perform_4 rfl f_X8_201 rfl o332 rfl ?_
  refine go_iconst 8 (v := 0) dX8_perform_7 rfl (by decide) ?_
  refine go_SI (M' := mX8_entryAt) 11 dX8_perform_8 rfl w_603 okX8_entryAt ⟨Nat.le_of_ble_eq_true rfl, Nat.le_of_ble_eq_true rfl⟩ (ct_entryAt G gi _ 3 _ a334 (by decide)) rfl rfl (kk := ?_)
  refine go_top (y := (E 0)) (by rw [show (0 : Int32) = nI 0 from rfl, entF_n (by decide) (by decide)]; exact hE 0 (by decide)) ?_
  refine go_istore_n 12 dX8_perform_11 rfl rfl (by decide) (st_s st_0) ?_
  refine go_aload_n 13 dX8_perform_12 rfl rfl ls_0 ?_
  refine gp_getR 16 dX8_perform_13 rfl f_X8_29 rfl o0 rfl ?_
  refine gp_getR 19 dX8_perform_16 rfl f_X8_201 rfl o332 rfl ?_
  refine go_iconst 20 (v := 1) dX8_perform_19 rfl (by decide) ?_
  refine go_SI (M' := mX8_entryAt) 23 dX8_perform_20 rfl w_603 okX8_entryAt ⟨Nat.le_of_ble_eq_true rfl, Nat.le_of_ble_eq_true rfl⟩ (ct_entryAt G gi _ 3 _ a334 (by decide)) rfl rfl (kk := ?_)
  refine go_top (y := (E 1)) (by rw [show (1 : Int32) = nI 1 from rfl, entF_n (by decide) (by decide)]; exact hE 1 (by decide)) ?_
  refine go_istore_n 24 dX8_perform_23 rfl rfl (by decide) (st_s (st_s st_0)) ?_
  refine go_aload_n 25 dX8_perform_24 rfl rfl ls_0 ?_
  refine gp_getR 28 dX8_perform_25 rfl f_X8_29 rfl o0 rfl ?_
  refine gp_getI 31 dX8_perform_28 rfl f_X8_204 rfl o332 ?_
  refine go_top (y := 111) hl ?_
  refine go_lookup 129 dX8_perform_31 (by decide +kernel) (off := 98) (by decide +kernel) (by decide) ?_
  refine go_aload_n 130 dX8_perform_129 rfl rfl ls_0 ?_
  refine gp_getR 133 dX8_perform_130 rfl f_X8_16 rfl o0 rfl ?_
  refine go_iload_n 134 dX8_perform_133 rfl rfl (ls_s ls_0) ?_
  refine go_iload_n 135 dX8_perform_134 rfl rfl (ls_s (ls_s ls_0)) ?_
  refine go_V (M' := mX3_blendIn) 138 dX8_perform_135 rfl w_547 okX3_blendIn ⟨Nat.le_of_ble_eq_true rfl, Nat.le_of_ble_eq_true rfl⟩ rfl rfl (Nat.le_of_ble_eq_true rfl) (Nat.le_of_ble_eq_true rfl) (ct_blendIn G gi is48 h I (E 0) (E 1)) rfl rfl (Nat.le_of_ble_eq_true rfl) (tP is48) (by decide) rfl (fun v_135 h_135 p_135 => ?_)
  obtain ⟨rfl, g2, rfl, r2, u2⟩ := p_135
  exact go_ret_i dX8_perform_138 rfl rfl rfl ⟨rfl, g2, rfl, r2, u2⟩
set_option maxHeartbeats 4000000 in
set_option maxRecDepth 100000 in
theorem ct_perform116 (G : BcG) {gi : GI} {N : Nat} {A : AA} (h : Rel 48 A gi) (I : Inv N A) {E : Nat → Int32} (hl : gi 332 2 = 116) (hE : ∀ j, j < 1 → gi 334 j = E j) : Ct G mX8_perform [.ref (G.1 + 0)] (hp gi) (pOp 48 gi (exF A 116 E)) := by
  rw [ex_116]
  refine ct_of [some (.ref (G.1 + 0)), none, none] w_1 (by decide) rfl (Nat.le_of_ble_eq_true rfl) rfl ?_
  refine go_aload_n 1 dX8_perform_0 rfl rfl ls_0 ?_
  refine gp_getR 4 dX8_perform_1 rfl f_X8_29 rfl o0 rfl ?_
  refine gp_getR 7 dX8_perform_4 rfl f_X8_201 rfl o332 rfl ?_
  refine go_iconst 8 (v := 0) dX8_perform_7 rfl (by decide) ?_
  refine go_SI (M' := mX8_entryAt) 11 dX8_perform_8 rfl w_603 okX8_entryAt ⟨Nat.le_of_ble_eq_true rfl, Nat.le_of_ble_eq_true rfl⟩ (ct_entryAt G gi _ 3 _ a334 (by decide)) rfl rfl (kk := ?_)
  refine go_top (y := (E 0)) (by rw [show (0 : Int32) = nI 0 from rfl, entF_n (by decide) (by decide)]; exact hE 0 (by decide)) ?_
  refine go_istore_n 12 dX8_perform_11 rfl rfl (by decide) (st_s st_0) ?_
  refine go_aload_n 13 dX8_perform_12 rfl rfl ls_0 ?_
  refine gp_getR 16 dX8_perform_13 rfl f_X8_29 rfl o0 rfl ?_
  refine gp_getR 19 dX8_perform_16 rfl f_X8_201 rfl o332 rfl ?_
  refine go_iconst 20 (v := 1) dX8_perform_19 rfl (by decide) ?_
  refine go_SI (M' := mX8_entryAt) 23 dX8_perform_20 rfl w_603 okX8_entryAt ⟨Nat.le_of_ble_eq_true rfl, Nat.le_of_ble_eq_true rfl⟩ (ct_entryAt G gi _ 3 _ a334 (by decide)) rfl rfl (kk := ?_)
  refine go_top (y := (gi 334 1)) (by rw [show (1 : Int32) = nI 1 from rfl, entF_n (by decide) (by decide)]) ?_
  refine go_istore_n 24 dX8_perform_23 rfl rfl (by decide) (st_s (st_s st_0)) ?_
  refine go_aload_n 25 dX8_perform_24 rfl rfl ls_0 ?_
  refine gp_getR 28 dX8_perform_25 rfl f_X8_29 rfl o0 rfl ?_
  refine gp_getI 31 dX8_perform_28 rfl f_X8_204 rfl o332 ?_
  refine go_top (y := 116) hl ?_
  refine go_lookup 139 dX8_perform_31 (by decide +kernel) (off := 108) (by decide +kernel) (by decide) ?_
  refine go_aload_n 140 dX8_perform_139 rfl rfl ls_0 ?_
  refine gp_getR 143 dX8_perform_140 rfl f_X8_16 rfl o0 rfl ?_
  refine go_iload_n 144 dX8_perform_143 rfl rfl (ls_s ls_0) ?_
  refine go_V (M' := mX3_letPass) 147 dX8_perform_144 rfl w_555 okX3_letPass ⟨Nat.le_of_ble_eq_true rfl, Nat.le_of_ble_eq_true rfl⟩ rfl rfl (Nat.le_of_ble_eq_true rfl) (Nat.le_of_ble_eq_true rfl) (ct_letPass G gi is48 h I (E 0)) rfl rfl (Nat.le_of_ble_eq_true rfl) (tP is48) (by decide) rfl (fun v_144 h_144 p_144 => ?_)
  obtain ⟨rfl, g2, rfl, r2, u2⟩ := p_144
  exact go_ret_i dX8_perform_147 rfl rfl rfl ⟨rfl, g2, rfl, r2, u2⟩
theorem ct_perform (G : BcG) {gi : GI} {N : Nat} {A : AA} (h : Rel 48 A gi) (I : Inv N A) {l : Int32} {E : Nat → Int32} (hm : 0 < mny l) (hl : gi 332 2 = l) (hE : ∀ j, j < mny l → gi 334 j = E j) : Ct G mX8_perform [.ref (G.1 + 0)] (hp gi) (pOp 48 gi (exF A l E)) := by
  rcases mny_c hm with rfl | rfl | rfl | rfl | rfl | rfl
  · exact ct_perform98 G h I hl (fun j hj => hE j hj)
  · exact ct_perform109 G h I hl (fun j hj => hE j hj)
  · exact ct_perform101 G h I hl (fun j hj => hE j hj)
  · exact ct_perform120 G h I hl (fun j hj => hE j hj)
  · exact ct_perform111 G h I hl (fun j hj => hE j hj)
  · exact ct_perform116 G h I hl (fun j hj => hE j hj)
/-- what a rehearsal leaves as it was -/
def OutP (g0 gi : GI) : Prop := ∀ k, k ≠ 0 → (k < 48 ∨ 95 ≤ k) → k ≠ 332 → k ≠ 334 → gi k = g0 k
def pRh (N : Nat) (T : TX) (L : Nat) (g0 : GI) (R : Option (Nat × Int32) × Nat × AA) : Option Value → BcH → Prop := fun v h' => v = none ∧ ∃ gi, h' = hp gi ∧ OutP g0 gi ∧ RelX T L gi ∧ ((R.1 = none ∧ gi 0 4 = 0 ∧ gi 0 6 = nI R.2.1 ∧ R.2.1 ≤ 80 ∧ Rel 48 R.2.2 gi ∧ Zb 48 gi ∧ Inv (N + 8000) R.2.2) ∨ ∃ q, R.1 = some q ∧ gi 0 4 = q.2 ∧ ¬ q.2 = 0 ∧ gi 0 5 = nI q.1)
theorem rs_0 {x : Int32} : rsF x = 0 ↔ ¬ x < 0 := by
  unfold rsF
  by_cases h : x = -1
  · rw [if_pos h, h]
    exact ⟨fun z => absurd z (by decide), fun z => absurd (by decide) z⟩
  · rw [if_neg h]
    by_cases h2 : x < 0
    · rw [if_neg (Int32.not_le.mpr h2)]
      exact ⟨fun z => absurd z (by decide), fun z => absurd h2 z⟩
    · rw [if_pos (Int32.not_lt.mp h2)]
      exact ⟨fun _ => h2, fun _ => rfl⟩
theorem rs_n {x : Int32} (h : x < 0) : rsF x = cIf (x = -1) 2 3 := by
  unfold rsF
  by_cases h1 : x = -1
  · rw [if_pos h1, cIf_t h1]
  · rw [if_neg h1, cIf_f h1, if_neg (Int32.not_le.mpr h)]
set_option maxHeartbeats 4000000 in
set_option maxRecDepth 100000 in
theorem lp_rehearse (G : BcG) {g0 : GI} {N : Nat} (hN : N + 8000 < 100000000) {T : TX} {L : Nat} (X : TxI T L) : ∀ (n t : Nat) (p : Nat) (A : AA) (gi : GI), t + n = 80 → (p ≤ L) → (gi 0 4 = 0) → (gi 0 5 = nI p) → (gi 0 6 = nI t) → (Rel 48 A gi) → (Zb 48 gi) → (Inv (N + 99 * t) A) → (RelX T L gi) → (OutP g0 gi) → BGo G mX8_rehearse (KM G mX8_rehearse 341 (pRh N T L g0 (plF T L n p A t))) (hp gi) 0 0 28 [some (.ref (G.1 + 0)), some (.int (nI t))] [] := by
  intro n
  induction n with
  | zero =>
    intro t p A gi hn hp5 h4 h5 h6 hR hZ hI hX ho
    obtain rfl : t = 80 := by omega
    refine go_iload_n 29 dX8_rehearse_28 rfl rfl (ls_s ls_0) ?_
    refine go_bipush 31 (v := 80) dX8_rehearse_29 rfl (by decide) ?_
    refine go_icmp_ge 112 34 dX8_rehearse_31 (by decide) rfl (fun c_31 => ?_) (fun c_31 => absurd c_31 (by decide))
    exact go_ret_v dX8_rehearse_112 rfl rfl rfl ⟨rfl, _, rfl, ho, hX, Or.inl ⟨rfl, h4, h6, Nat.le_refl _, hR, hZ, hI.mono (by omega) hN⟩⟩
  | succ n ih =>
    intro t p A gi hn hp5 h4 h5 h6 hR hZ hI hX ho
    have ht80 : t < 80 := by omega
    refine go_iload_n 29 dX8_rehearse_28 rfl rfl (ls_s ls_0) ?_
    refine go_bipush 31 (v := 80) dX8_rehearse_29 rfl (by decide) ?_
    refine go_icmp_ge 112 34 dX8_rehearse_31 (by decide) rfl (fun c_31 => absurd c_31 (nI_ge ht80 (by decide))) (fun c_31 => ?_)
    refine go_aload_n 35 dX8_rehearse_34 rfl rfl ls_0 ?_
    refine gp_getI 38 dX8_rehearse_35 rfl f_X8_178 rfl o0 ?_
    refine go_top (y := (nI p)) h5 ?_
    refine go_aload_n 39 dX8_rehearse_38 rfl rfl ls_0 ?_
    refine gp_getR 42 dX8_rehearse_39 rfl f_X8_29 rfl o0 rfl ?_
    refine gp_getI 45 dX8_rehearse_42 rfl f_X8_131 rfl o332 ?_
    refine go_top (y := (nI L)) hX.1 ?_
    refine go_icmp_ge 112 48 dX8_rehearse_45 (by decide) rfl (fun c_45 => ?_) (fun c_45 => ?_)
    · have c_nL : ¬ p < L := fun z => nI_ge z (by have := X.1; omega) c_45
      exact go_ret_v dX8_rehearse_112 rfl rfl rfl ⟨rfl, _, rfl, ho, hX, Or.inl ⟨by rw [plF_x c_nL], h4, by rw [plF_x c_nL]; exact h6, by rw [plF_x c_nL]; show t ≤ 80; omega, by rw [plF_x c_nL]; exact hR, hZ, by rw [plF_x c_nL]; exact hI.mono (by omega) hN⟩⟩
    · have c_pL : p < L := Nat.lt_of_not_le (fun z => c_45 (nI_le z (by have := X.1; omega)))
      refine go_aload_n 49 dX8_rehearse_48 rfl rfl ls_0 ?_
      refine go_aload_n 50 dX8_rehearse_49 rfl rfl ls_0 ?_
      refine gp_getR 53 dX8_rehearse_50 rfl f_X8_29 rfl o0 rfl ?_
      refine go_aload_n 54 dX8_rehearse_53 rfl rfl ls_0 ?_
      refine gp_getI 57 dX8_rehearse_54 rfl f_X8_178 rfl o0 ?_
      refine go_top (y := (nI p)) h5 ?_
      refine go_V (M' := mX5_readCommand) 60 dX8_rehearse_57 rfl w_697 okX5_readCommand ⟨Nat.le_of_ble_eq_true rfl, Nat.le_of_ble_eq_true rfl⟩ rfl rfl (Nat.le_of_ble_eq_true rfl) (Nat.le_of_ble_eq_true rfl) (ct_readCommand G X hX (p := p) (by have := X.1; omega)) rfl rfl (Nat.le_of_ble_eq_true rfl) o332 (by decide) rfl (fun v_57 h_57 p_57 => ?_)
      obtain ⟨g2, rfl, n1, n2, ⟨n3, rfl⟩ | ⟨q, n3, rfl, n4, n5, n6⟩⟩ := p_57
      · refine go_if_eq 73 63 dX8_rehearse_60 (by decide) rfl (fun c_60 => ?_) (fun c_60 => absurd c_60 (by decide))
        refine go_iconst 74 (v := 1) dX8_rehearse_73 rfl (by decide) ?_
        refine gp_putI 77 dX8_rehearse_74 rfl f_X8_175 rfl o0 rfl rfl ?_
        refine go_aload_n 78 dX8_rehearse_77 rfl rfl ls_0 ?_
        refine gp_getI 81 dX8_rehearse_78 rfl f_X8_175 rfl o0 ?_
        refine go_top (y := (1)) (by rw [wI_eq]) ?_
        refine go_if_eq 85 84 dX8_rehearse_81 (by decide) rfl (fun c_81 => absurd c_81 (by decide)) (fun c_81 => ?_)
        exact go_ret_v dX8_rehearse_84 rfl rfl rfl ⟨rfl, _, rfl, fun k h0 h1 h2 h3 => by rw [wI_row h0, n1 k h2 h3]; exact ho k h0 h1 h2 h3, hX.same (by rw [wI_ne (by omega), n2]) (by rw [wI_row (by decide), n1 333 (by decide) (by decide)]), Or.inr ⟨_, by rw [plF_n c_pL n3], by rw [wI_eq], by show ¬ (1 : Int32) = 0; decide, by rw [wI_ne (by omega), n1 0 (by decide) (by decide)]; exact h5⟩⟩
      · have hcd := cdF_in n3
        have hR2 : Rel 48 A g2 := rel_same hR (fun k h1 h2 => n1 k (by omega) (by omega))
        have hZ2 : Zb 48 g2 := zb_same hZ (fun k h1 h2 => n1 k (by omega) (by omega))
        have hok := ok_ex (sg T L p) q.2 hI (by omega)
        refine go_if_eq 73 63 dX8_rehearse_60 (by decide) rfl (fun c_60 => absurd c_60 (by decide)) (fun c_60 => ?_)
        refine go_aload_n 64 dX8_rehearse_63 rfl rfl ls_0 ?_
        refine go_V (M' := mX8_perform) 67 dX8_rehearse_64 rfl w_713 okX8_perform ⟨Nat.le_of_ble_eq_true rfl, Nat.le_of_ble_eq_true rfl⟩ rfl rfl (Nat.le_of_ble_eq_true rfl) (Nat.le_of_ble_eq_true rfl) (ct_perform G hR2 hI hcd.1 n4 n6) rfl rfl (Nat.le_of_ble_eq_true rfl) o0 (by decide) rfl (fun v_64 h_64 p_64 => ?_)
        obtain ⟨rfl, g3, rfl, r3, u3⟩ := p_64
        have w0 : ∀ k, (k < 48 ∨ 95 ≤ k) → k ≠ 332 → k ≠ 334 → g3 k = gi k := fun k h1 h2 h3 => by rw [u3.1 k (by omega), n1 k h2 h3]
        have w3 : g3 332 = g2 332 := u3.1 332 (by omega)
        refine go_SI (M' := mX8_reasonOf) 70 dX8_rehearse_67 rfl w_717 okX8_reasonOf ⟨Nat.le_of_ble_eq_true rfl, Nat.le_of_ble_eq_true rfl⟩ (ct_reasonOf G g3 _) rfl rfl (kk := ?_)
        refine go_goto 74 dX8_rehearse_70 (by decide) ?_
        refine gp_putI 77 dX8_rehearse_74 rfl f_X8_175 rfl o0 rfl rfl ?_
        refine go_aload_n 78 dX8_rehearse_77 rfl rfl ls_0 ?_
        refine gp_getI 81 dX8_rehearse_78 rfl f_X8_175 rfl o0 ?_
        refine go_top (y := (rsF (exF A (sg T L p) q.2).1)) (by rw [wI_eq]) ?_
        refine go_if_eq 85 84 dX8_rehearse_81 (by decide) rfl (fun c_81 => ?_) (fun c_81 => ?_)
        · refine go_aload_n 86 dX8_rehearse_85 rfl rfl ls_0 ?_
          refine go_dup 87 dX8_rehearse_86 rfl rfl ?_
          refine gp_getI 90 dX8_rehearse_87 rfl f_X8_184 rfl o0 ?_
          refine go_top (y := (nI t)) (by rw [wI_ne (by omega), w0 0 (by omega) (by decide) (by decide)]; exact h6) ?_
          refine go_iconst 91 (v := 1) dX8_rehearse_90 rfl (by decide) ?_
          refine go_iadd 92 dX8_rehearse_91 rfl ?_
          refine go_top (y := (nI (t + 1))) (nI_1 _) ?_
          refine gp_putI 95 dX8_rehearse_92 rfl f_X8_184 rfl o0 rfl rfl ?_
          refine go_aload_n 96 dX8_rehearse_95 rfl rfl ls_0 ?_
          refine go_aload_n 97 dX8_rehearse_96 rfl rfl ls_0 ?_
          refine gp_getR 100 dX8_rehearse_97 rfl f_X8_29 rfl o0 rfl ?_
          refine gp_getI 103 dX8_rehearse_100 rfl f_X8_198 rfl o332 ?_
          refine go_top (y := (nI q.1)) (by rw [wI_ne (by omega), wI_ne (by omega), w3]; exact n5) ?_
          refine gp_putI 106 dX8_rehearse_103 rfl f_X8_178 rfl o0 rfl rfl ?_
          refine go_iinc 109 (v := (nI (t + 1))) dX8_rehearse_106 rfl (ls_s ls_0) (by exact nI_1 t) (by decide) (st_s st_0) ?_
          refine go_goto 28 dX8_rehearse_109 (by decide) ?_
          have c_pos : ¬ (exF A (sg T L p) q.2).1 < 0 := rs_0.mp c_81
          rw [plF_s c_pL n3 c_pos]
          refine ih (t + 1) q.1 _ _ (by omega) hcd.2.1 (by rw [wI_ne (by omega), wI_ne (by omega), wI_eq]; exact c_81) (by rw [wI_eq]) (by rw [wI_ne (by omega), wI_eq]) (rel_same r3 (fun k h1 h2 => by rw [wI_row (by omega), wI_row (by omega), wI_row (by omega)])) (zb_same (u3.2 hZ2) (fun k h1 h2 => by rw [wI_row (by omega), wI_row (by omega), wI_row (by omega)])) (by rw [show N + 99 * (t + 1) = N + 99 * t + 99 by omega]; exact hok.1) (hX.same (by rw [wI_ne (by omega), wI_ne (by omega), wI_ne (by omega), w3, n2]) (by rw [wI_row (by decide), wI_row (by decide), wI_row (by decide), w0 333 (by omega) (by decide) (by decide)])) (fun k h0 h1 h2 h3 => by rw [wI_row h0, wI_row h0, wI_row h0, w0 k h1 h2 h3]; exact ho k h0 h1 h2 h3)
        · have c_neg : (exF A (sg T L p) q.2).1 < 0 := Classical.byContradiction (fun z => c_81 (rs_0.mpr z))
          exact go_ret_v dX8_rehearse_84 rfl rfl rfl ⟨rfl, _, rfl, fun k h0 h1 h2 h3 => by rw [wI_row h0, w0 k h1 h2 h3]; exact ho k h0 h1 h2 h3, hX.same (by rw [wI_ne (by omega), w3, n2]) (by rw [wI_row (by decide), w0 333 (by omega) (by decide) (by decide)]), Or.inr ⟨_, by rw [plF_e c_pL n3 c_neg], by rw [wI_eq]; exact rs_n c_neg, by show ¬ cIf _ (2 : Int32) 3 = 0; rw [← rs_n c_neg]; exact c_81, by rw [wI_ne (by omega), w0 0 (by omega) (by decide) (by decide)]; exact h5⟩⟩
set_option maxHeartbeats 4000000 in
set_option maxRecDepth 100000 in
theorem ct_rehearse (G : BcG) {gi : GI} {N : Nat} {S : SS} (k : SOk N S) (c : RelC S gi) (hN : N + 8000 < 100000000) : Ct G mX8_rehearse [.ref (G.1 + 0)] (hp gi) (pRh N S.2.2.1 S.2.2.2 gi (plS S)) := by
  obtain ⟨o, c⟩ := c
  obtain ⟨ho, c1, c2, c3, c4, c5, c6⟩ := id c
  obtain ⟨k1, k2, k3, k4⟩ := id k
  refine ct_of [some (.ref (G.1 + 0)), none] w_1 (by decide) rfl (Nat.le_of_ble_eq_true rfl) rfl ?_
  refine go_aload_n 1 dX8_rehearse_0 rfl rfl ls_0 ?_
  refine gp_getR 4 dX8_rehearse_1 rfl f_X8_16 rfl o0 rfl ?_
  refine go_aload_n 5 dX8_rehearse_4 rfl rfl ls_0 ?_
  refine gp_getR 8 dX8_rehearse_5 rfl f_X8_10 rfl o0 rfl ?_
  refine go_V (M' := mX3_copyFrom) 11 dX8_rehearse_8 rfl w_696 okX3_copyFrom ⟨Nat.le_of_ble_eq_true rfl, Nat.le_of_ble_eq_true rfl⟩ rfl rfl (Nat.le_of_ble_eq_true rfl) (Nat.le_of_ble_eq_true rfl) (ct_copyPlant G is48 is1 (by omega) gi (th01 c3 k1) c4) rfl rfl (Nat.le_of_ble_eq_true rfl) (tP is48) (by decide) rfl (fun v_8 h_8 p_8 => ?_)
  obtain ⟨rfl, g1, rfl, e1, e2⟩ := p_8
  refine go_aload_n 12 dX8_rehearse_11 rfl rfl ls_0 ?_
  refine go_iconst 13 (v := 0) dX8_rehearse_12 rfl (by decide) ?_
  refine gp_putI 16 dX8_rehearse_13 rfl f_X8_175 rfl o0 rfl rfl ?_
  refine go_aload_n 17 dX8_rehearse_16 rfl rfl ls_0 ?_
  refine go_iconst 18 (v := 0) dX8_rehearse_17 rfl (by decide) ?_
  refine gp_putI 21 dX8_rehearse_18 rfl f_X8_178 rfl o0 rfl rfl ?_
  refine go_aload_n 22 dX8_rehearse_21 rfl rfl ls_0 ?_
  refine go_iconst 23 (v := 0) dX8_rehearse_22 rfl (by decide) ?_
  refine gp_putI 26 dX8_rehearse_23 rfl f_X8_184 rfl o0 rfl rfl ?_
  refine go_iconst 27 (v := 0) dX8_rehearse_26 rfl (by decide) ?_
  refine go_istore_n 28 dX8_rehearse_27 rfl rfl (by decide) (st_s st_0) ?_
  refine lp_rehearse G (g0 := gi) hN k4 80 0 0 S.1 _ rfl (Nat.zero_le _) (by rw [wI_ne (by omega), wI_ne (by omega), wI_eq]) (by rw [wI_ne (by omega), wI_eq]; rfl) (by rw [wI_eq]; rfl) (rel_same (rel_copy c3 e1) (fun k h1 h2 => by rw [wI_row (by omega), wI_row (by omega), wI_row (by omega)])) (zb_same (zb_copy c4 e1) (fun k h1 h2 => by rw [wI_row (by omega), wI_row (by omega), wI_row (by omega)])) k1 (c5.same (by rw [wI_ne (by omega), wI_ne (by omega), wI_ne (by omega), e2 332 (by omega)]) (by rw [wI_row (by decide), wI_row (by decide), wI_row (by decide), e2 333 (by omega)])) (fun k h0 h1 h2 h3 => by rw [wI_row h0, wI_row h0, wI_row h0, e2 k (by omega)])
theorem relCo_out {o : Nat} {S : SS} {g0 gi : GI} (c : RelCo o S g0) (ho : OutP g0 gi) (hX : RelX S.2.2.1 S.2.2.2 gi) : RelCo o S gi := by
  obtain ⟨h0, c1, c2, c3, c4, c5, c6⟩ := c
  refine ⟨h0, by rw [ho 95 (by decide) (by omega) (by decide) (by decide)]; exact c1, by rw [ho 95 (by decide) (by omega) (by decide) (by decide)]; exact c2, rel_same c3 (fun k h1 h2 => ho k (by omega) (by omega) (by omega) (by omega)), zb_same c4 (fun k h1 h2 => ho k (by omega) (by omega) (by omega) (by omega)), hX, fun i B hB => ?_⟩
  have hr := rg_lt o i
  obtain ⟨s1, s2⟩ := c6 i B hB
  exact ⟨rel_same s1 (fun k h1 h2 => ho k (by omega) (by omega) (by omega) (by omega)), zb_same s2 (fun k h1 h2 => ho k (by omega) (by omega) (by omega) (by omega))⟩
theorem ff_1 {S : SS} {w : Int32} (h : ¬ inR w 0 1) : fFault S w = -1 := by rw [fFault, cIf_t h]
theorem ff_n {S : SS} {w : Int32} (h : inR w 0 1) (e : (plS S).1 = none) : fFault S w = -4 := by rw [fFault, cIf_f (fun z => z h), e]
theorem ff_s {S : SS} {w : Int32} (h : inR w 0 1) {q : Nat × Int32} (e : (plS S).1 = some q) : fFault S w = cIf (w = 0) (nI q.1) q.2 := by rw [fFault, cIf_f (fun z => z h), e]
theorem pX_s {S : SS} {o : Nat} {g0 gi : GI} {x y : Int32} (c : RelCo o S g0) (ho : OutP g0 gi) (hX : RelX S.2.2.1 S.2.2.2 gi) (e : x = y) : pX g0 (y, S) (some (.int x)) (hp gi) := ⟨by rw [e], gi, rfl, ⟨o, relCo_out c ho hX⟩, fun k hk => ho k (by omega) (by omega) (by omega) (by omega)⟩
set_option maxHeartbeats 4000000 in
set_option maxRecDepth 100000 in
theorem cx_fault (G : BcG) {gi : GI} {N : Nat} {S : SS} (k : SOk N S) (c : RelC S gi) (hN : N + 8000 < 100000000) (w : Int32) : Ct G mX8_fault [.ref (G.1 + 0), .int w] (hp gi) (pX gi (fFault S w, S)) := by
  obtain ⟨o, c⟩ := c
  obtain ⟨ho, c1, c2, c3, c4, c5, c6⟩ := id c
  obtain ⟨k1, k2, k3, k4⟩ := id k
  refine ct_of [some (.ref (G.1 + 0)), some (.int w)] w_1 (by decide) rfl (Nat.le_of_ble_eq_true rfl) rfl ?_
  refine go_iload_n 1 dX8_fault_0 rfl rfl (ls_s ls_0) ?_
  refine go_iconst 2 (v := 0) dX8_fault_1 rfl (by decide) ?_
  refine go_iconst 3 (v := 1) dX8_fault_2 rfl (by decide) ?_
  refine go_SI (M' := mX8_isWithin) 6 dX8_fault_3 rfl w_433 okX8_isWithin ⟨Nat.le_of_ble_eq_true rfl, Nat.le_of_ble_eq_true rfl⟩ (ct_isWithin G gi _ _ _) rfl rfl (kk := ?_)
  refine go_ifne_b 11 9 dX8_fault_6 (by decide) rfl (fun c_6 => ?_) (fun c_6 => ?_)
  · refine go_aload_n 12 dX8_fault_11 rfl rfl ls_0 ?_
    refine go_V (M' := mX8_rehearse) 15 dX8_fault_12 rfl w_692 okX8_rehearse ⟨Nat.le_of_ble_eq_true rfl, Nat.le_of_ble_eq_true rfl⟩ rfl rfl (Nat.le_of_ble_eq_true rfl) (Nat.le_of_ble_eq_true rfl) (ct_rehearse G k ⟨o, c⟩ hN) rfl rfl (Nat.le_of_ble_eq_true rfl) o0 (by decide) rfl (fun v_12 h_12 p_12 => ?_)
    obtain ⟨rfl, gr, rfl, oo, xx, ⟨m1, m2, m3, m4, m5, m6, m7⟩ | ⟨q, m1, m2, m3, m4⟩⟩ := p_12
    · have cr := relCo_out c oo xx
      refine go_aload_n 16 dX8_fault_15 rfl rfl ls_0 ?_
      refine gp_getI 19 dX8_fault_16 rfl f_X8_175 rfl o0 ?_
      refine go_top (y := (0)) m2 ?_
      refine go_if_ne 25 22 dX8_fault_19 (by decide) rfl (fun c_19 => absurd c_19 (by decide)) (fun c_19 => ?_)
      refine go_bipush 24 (v := (-4)) dX8_fault_22 rfl (by decide) ?_
      exact go_ret_i dX8_fault_24 rfl rfl rfl (pX_s c oo xx (ff_n c_6 m1).symm)
    · have cr := relCo_out c oo xx
      refine go_aload_n 16 dX8_fault_15 rfl rfl ls_0 ?_
      refine gp_getI 19 dX8_fault_16 rfl f_X8_175 rfl o0 ?_
      refine go_top (y := q.2) m2 ?_
      refine go_if_ne 25 22 dX8_fault_19 (by decide) rfl (fun c_19 => ?_) (fun c_19 => absurd c_19 m3)
      refine go_iload_n 26 dX8_fault_25 rfl rfl (ls_s ls_0) ?_
      refine go_if_ne 36 29 dX8_fault_26 (by decide) rfl (fun c_26 => ?_) (fun c_26 => ?_)
      · refine go_aload_n 37 dX8_fault_36 rfl rfl ls_0 ?_
        refine gp_getI 40 dX8_fault_37 rfl f_X8_175 rfl o0 ?_
        refine go_top (y := q.2) m2 ?_
        exact go_ret_i dX8_fault_40 rfl rfl rfl (pX_s c oo xx (by rw [ff_s c_6 m1, cIf_f c_26]))
      · refine go_aload_n 30 dX8_fault_29 rfl rfl ls_0 ?_
        refine gp_getI 33 dX8_fault_30 rfl f_X8_178 rfl o0 ?_
        refine go_top (y := (nI q.1)) m4 ?_
        refine go_goto 40 dX8_fault_33 (by decide) ?_
        exact go_ret_i dX8_fault_40 rfl rfl rfl (pX_s c oo xx (by rw [ff_s c_6 m1, cIf_t c_26]))
  · refine go_iconst 10 (v := (-1)) dX8_fault_9 rfl (by decide) ?_
    exact go_ret_i dX8_fault_10 rfl rfl rfl ⟨by rw [ff_1 c_6], gi, rfl, ⟨o, c⟩, fun _ _ => rfl⟩
theorem sp_n {S : SS} (e : (plS S).1 = none) : sPlay S = push S (nI (plS S).2.1, (plS S).2.2) := by rw [sPlay, e]
theorem sp_s {S : SS} {q : Nat × Int32} (e : (plS S).1 = some q) : sPlay S = (-2, S) := by rw [sPlay, e]
theorem pX_via {g0 g1 : GI} {R : Int32 × SS} {v : Option Value} {h : BcH} (e : ∀ k, 335 ≤ k → g1 k = g0 k) (p : pX g1 R v h) : pX g0 R v h := by
  obtain ⟨p1, gi, p2, p3, p4⟩ := p
  exact ⟨p1, gi, p2, p3, fun k hk => (p4 k hk).trans (e k hk)⟩
set_option maxHeartbeats 4000000 in
set_option maxRecDepth 100000 in
theorem cx_play (G : BcG) {gi : GI} {N : Nat} {S : SS} (k : SOk N S) (c : RelC S gi) (hN : N + 8000 < 100000000) : Ct G mX8_play [.ref (G.1 + 0)] (hp gi) (pX gi (sPlay S)) := by
  obtain ⟨o, c⟩ := c
  obtain ⟨ho, c1, c2, c3, c4, c5, c6⟩ := id c
  obtain ⟨k1, k2, k3, k4⟩ := id k
  refine ct_of [some (.ref (G.1 + 0))] w_1 (by decide) rfl (Nat.le_of_ble_eq_true rfl) rfl ?_
  refine go_aload_n 1 dX8_play_0 rfl rfl ls_0 ?_
  refine go_V (M' := mX8_rehearse) 4 dX8_play_1 rfl w_692 okX8_rehearse ⟨Nat.le_of_ble_eq_true rfl, Nat.le_of_ble_eq_true rfl⟩ rfl rfl (Nat.le_of_ble_eq_true rfl) (Nat.le_of_ble_eq_true rfl) (ct_rehearse G k ⟨o, c⟩ hN) rfl rfl (Nat.le_of_ble_eq_true rfl) o0 (by decide) rfl (fun v_1 h_1 p_1 => ?_)
  obtain ⟨rfl, gr, rfl, oo, xx, ⟨m1, m2, m3, m4, m5, m6, m7⟩ | ⟨q, m1, m2, m3, m4⟩⟩ := p_1
  · have cr := relCo_out c oo xx
    refine go_aload_n 5 dX8_play_4 rfl rfl ls_0 ?_
    refine gp_getI 8 dX8_play_5 rfl f_X8_175 rfl o0 ?_
    refine go_top (y := (0)) m2 ?_
    refine go_if_eq 14 11 dX8_play_8 (by decide) rfl (fun c_8 => ?_) (fun c_8 => absurd c_8 (by decide))
    refine go_aload_n 15 dX8_play_14 rfl rfl ls_0 ?_
    refine gp_getR 18 dX8_play_15 rfl f_X8_22 rfl o0 rfl ?_
    refine go_aload_n 19 dX8_play_18 rfl rfl ls_0 ?_
    refine gp_getR 22 dX8_play_19 rfl f_X8_10 rfl o0 rfl ?_
    refine go_V (M' := mX1_prepare) 25 dX8_play_22 rfl w_314 okX1_prepare ⟨Nat.le_of_ble_eq_true rfl, Nat.le_of_ble_eq_true rfl⟩ rfl rfl (Nat.le_of_ble_eq_true rfl) (Nat.le_of_ble_eq_true rfl) (ct_prepare G ho cr.2.1 (th01 cr.2.2.2.1 k1) cr.2.2.2.2.1) rfl rfl (Nat.le_of_ble_eq_true rfl) o95 (by decide) rfl (fun v_22 h_22 p_22 => ?_)
    obtain ⟨rfl, g1, rfl, e1, e2⟩ := p_22
    have r1 : Rel 48 (plS S).2.2 g1 := rel_same m5 (fun k h1 h2 => e2 k (by omega))
    have z1 : Zb 48 g1 := zb_same m6 (fun k h1 h2 => e2 k (by omega))
    refine go_aload_n 26 dX8_play_25 rfl rfl ls_0 ?_
    refine gp_getR 29 dX8_play_26 rfl f_X8_10 rfl o0 rfl ?_
    refine go_aload_n 30 dX8_play_29 rfl rfl ls_0 ?_
    refine gp_getR 33 dX8_play_30 rfl f_X8_16 rfl o0 rfl ?_
    refine go_V (M' := mX3_copyFrom) 36 dX8_play_33 rfl w_696 okX3_copyFrom ⟨Nat.le_of_ble_eq_true rfl, Nat.le_of_ble_eq_true rfl⟩ rfl rfl (Nat.le_of_ble_eq_true rfl) (Nat.le_of_ble_eq_true rfl) (ct_copyPlant G is1 is48 (by omega) g1 (th01 r1 m7) z1) rfl rfl (Nat.le_of_ble_eq_true rfl) (tP is1) (by decide) rfl (fun v_33 h_33 p_33 => ?_)
    obtain ⟨rfl, g2, rfl, f1, f2⟩ := p_33
    have u2 : Out 1 g1 g2 := ⟨fun k hk => f2 k hk, fun _ => zb_copy z1 f1⟩
    have r2 : Rel 1 (plS S).2.2 g2 := rel_copy r1 f1
    have d1 : g2 95 1 = nI o := by rw [f2 95 (by omega), e2 95 (by omega)]; exact cr.2.1
    have d2 : g2 95 2 = nI S.2.1.length := by rw [f2 95 (by omega), e2 95 (by omega)]; exact cr.2.2.1
    refine go_aload_n 37 dX8_play_36 rfl rfl ls_0 ?_
    refine gp_getR 40 dX8_play_37 rfl f_X8_22 rfl o0 rfl ?_
    refine go_aload_n 41 dX8_play_40 rfl rfl ls_0 ?_
    refine gp_getI 44 dX8_play_41 rfl f_X8_184 rfl o0 ?_
    refine go_top (y := (nI (plS S).2.1)) (by rw [f2 0 (by omega), e2 0 (by omega)]; exact m3) ?_
    refine go_VI (M' := mX1_settle) 47 dX8_play_44 rfl w_366 okX1_settle ⟨Nat.le_of_ble_eq_true rfl, Nat.le_of_ble_eq_true rfl⟩ (ct_settle G ho d1 k3 d2 (nI (plS S).2.1)) rfl rfl o95 (by decide) rfl (kk := ?_)
    exact go_ret_i dX8_play_47 rfl rfl rfl (by rw [sp_n m1]; exact pX_via (fun k hk => oo k (by omega) (by omega) (by omega) (by omega)) (pX_push (R := (nI (plS S).2.1, (plS S).2.2)) cr k3 e1 e2 r2 u2 (fun z => absurd z (nI_pos (by omega)))))
  · have cr := relCo_out c oo xx
    refine go_aload_n 5 dX8_play_4 rfl rfl ls_0 ?_
    refine gp_getI 8 dX8_play_5 rfl f_X8_175 rfl o0 ?_
    refine go_top (y := q.2) m2 ?_
    refine go_if_eq 14 11 dX8_play_8 (by decide) rfl (fun c_8 => absurd c_8 m3) (fun c_8 => ?_)
    refine go_bipush 13 (v := (-2)) dX8_play_11 rfl (by decide) ?_
    exact go_ret_i dX8_play_13 rfl rfl rfl (by rw [sp_s m1]; exact pX_s c oo xx rfl)
