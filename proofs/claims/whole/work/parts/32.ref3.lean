/-! THE REFERENCE: what it tells -/
set_option maxHeartbeats 4000000 in
set_option maxRecDepth 100000 in
theorem mx_stageOf (G : BcG) {gi : GI} {N : Nat} (I : Inv N (gi 336)) (x y w : Int32) : Ct G mX9_stageOf [.ref (G.1 + 335), .int x, .int y, .int w] (hp gi) (pI (fStageOf (gi 336) x y w) (hp gi)) := by
  refine ct_of [some (.ref (G.1 + 335)), some (.int x), some (.int y), some (.int w)] w_10 (by decide) rfl (Nat.le_of_ble_eq_true rfl) rfl ?_
  refine go_aload_n 1 dX9_stageOf_0 rfl rfl ls_0 ?_
  refine go_iload_n 2 dX9_stageOf_1 rfl rfl (ls_s ls_0) ?_
  refine go_VI (M' := mX9_isRecipe) 5 dX9_stageOf_2 rfl w_779 okX9_isRecipe ⟨Nat.le_of_ble_eq_true rfl, Nat.le_of_ble_eq_true rfl⟩ (m_isRecipe G I _) rfl rfl o335 (by decide) rfl (kk := ?_)
  refine go_ifeq_b 21 8 dX9_stageOf_5 (by decide) rfl (fun c_5 => ?_) (fun c_5 => ?_)
  · refine go_iconst 22 (v := (-1)) dX9_stageOf_21 rfl (by decide) ?_
    exact go_ret_i dX9_stageOf_22 rfl rfl rfl (pI_of (sO_1 (fun z => c_5 z.1)).symm rfl)
  · refine go_iload_n 9 dX9_stageOf_8 rfl rfl (ls_s (ls_s ls_0)) ?_
    refine go_if_lt 21 12 dX9_stageOf_9 (by decide) rfl (fun c_9 => ?_) (fun c_9 => ?_)
    · refine go_iconst 22 (v := (-1)) dX9_stageOf_21 rfl (by decide) ?_
      exact go_ret_i dX9_stageOf_22 rfl rfl rfl (pI_of (sO_1 (fun z => absurd c_9 (Int32.not_lt.mpr z.2.1))).symm rfl)
    · refine go_iload_n 13 dX9_stageOf_12 rfl rfl (ls_s (ls_s (ls_s ls_0))) ?_
      refine go_iconst 14 (v := 0) dX9_stageOf_13 rfl (by decide) ?_
      refine go_iconst 15 (v := 4) dX9_stageOf_14 rfl (by decide) ?_
      refine go_SI (M' := mX9_in) 18 dX9_stageOf_15 rfl w_768 okX9_in ⟨Nat.le_of_ble_eq_true rfl, Nat.le_of_ble_eq_true rfl⟩ (m_in G gi _ _ _) rfl rfl (kk := ?_)
      refine go_ifne_b 23 21 dX9_stageOf_18 (by decide) rfl (fun c_18 => ?_) (fun c_18 => ?_)
      · obtain ⟨r, hr, rfl⟩ := c_5
        have hr4 : r < 4 := Nat.lt_of_lt_of_le hr I.nR4
        refine go_iload_n 24 dX9_stageOf_23 rfl rfl (ls_s (ls_s ls_0)) ?_
        refine go_aload_n 25 dX9_stageOf_24 rfl rfl ls_0 ?_
        refine go_iload_n 26 dX9_stageOf_25 rfl rfl (ls_s ls_0) ?_
        refine go_VI (M' := mX9_stages) 29 dX9_stageOf_26 rfl w_795 okX9_stages ⟨Nat.le_of_ble_eq_true rfl, Nat.le_of_ble_eq_true rfl⟩ (m_stages G gi (r := r) (by omega)) rfl rfl o335 (by decide) rfl (kk := ?_)
        refine go_top (y := (nI (nS (gi 336) r))) (I.eS hr4) ?_
        refine go_icmp_lt 37 32 dX9_stageOf_29 (by decide) rfl (fun c_29 => ?_) (fun c_29 => ?_)
        · obtain ⟨q, hq, rfl⟩ := idx_of (len := nS (gi 336) r) (by have := I.nS4 hr4; omega) c_9 (Int32.not_le.mpr c_29)
          have hq4 : q < 4 := Nat.lt_of_lt_of_le hq (I.nS4 hr4)
          refine go_iload_n 38 dX9_stageOf_37 rfl rfl (ls_s (ls_s (ls_s ls_0))) ?_
          refine go_iconst 39 (v := 4) dX9_stageOf_38 rfl (by decide) ?_
          refine go_icmp_ne 50 42 dX9_stageOf_39 (by decide) rfl (fun c_39 => ?_) (fun c_39 => ?_)
          · obtain ⟨j, hj, rfl⟩ := in4n c_18 c_39
            refine go_aload_n 51 dX9_stageOf_50 rfl rfl ls_0 ?_
            refine go_iload_n 52 dX9_stageOf_51 rfl rfl (ls_s ls_0) ?_
            refine go_iload_n 53 dX9_stageOf_52 rfl rfl (ls_s (ls_s ls_0)) ?_
            refine go_iload_n 54 dX9_stageOf_53 rfl rfl (ls_s (ls_s (ls_s ls_0))) ?_
            refine go_VI (M' := mX9_ofStage) 57 dX9_stageOf_54 rfl w_826 okX9_ofStage ⟨Nat.le_of_ble_eq_true rfl, Nat.le_of_ble_eq_true rfl⟩ (m_ofStage G gi (j := 31 + 18 * r + 2 + 4 * q + j) rfl (by omega)) rfl rfl o335 (by decide) rfl (kk := ?_)
            exact go_ret_i dX9_stageOf_57 rfl rfl rfl (pI_of (by rw [sO_q I hr hq c_18, cIf_f c_39, iN_n (by omega)]) rfl)
          · refine go_aload_n 43 dX9_stageOf_42 rfl rfl ls_0 ?_
            refine go_iload_n 44 dX9_stageOf_43 rfl rfl (ls_s ls_0) ?_
            refine go_VI (M' := mX9_product) 47 dX9_stageOf_44 rfl w_822 okX9_product ⟨Nat.le_of_ble_eq_true rfl, Nat.le_of_ble_eq_true rfl⟩ (m_product G gi (r := r) (by omega)) rfl rfl o335 (by decide) rfl (kk := ?_)
            refine go_goto 57 dX9_stageOf_47 (by decide) ?_
            exact go_ret_i dX9_stageOf_57 rfl rfl rfl (pI_of (by rw [sO_q I hr hq c_18, cIf_t c_39]) rfl)
        · refine go_bipush 34 (v := (-4)) dX9_stageOf_32 rfl (by decide) ?_
          refine go_goto 57 dX9_stageOf_34 (by decide) ?_
          exact go_ret_i dX9_stageOf_57 rfl rfl rfl (pI_of (by rw [sO_y I hr c_9 c_18, cIf_t (Int32.not_lt.mp c_29)]) rfl)
      · refine go_iconst 22 (v := (-1)) dX9_stageOf_21 rfl (by decide) ?_
        exact go_ret_i dX9_stageOf_22 rfl rfl rfl (pI_of (sO_1 (fun z => c_18 z.2.2)).symm rfl)
set_option maxHeartbeats 4000000 in
set_option maxRecDepth 100000 in
theorem mx_batchOf (G : BcG) {gi : GI} {N : Nat} (I : Inv N (gi 336)) (x w : Int32) : Ct G mX9_batchOf [.ref (G.1 + 335), .int x, .int w] (hp gi) (pI (fBatchOf (gi 336) x w) (hp gi)) := by
  refine ct_of [some (.ref (G.1 + 335)), some (.int x), some (.int w)] w_10 (by decide) rfl (Nat.le_of_ble_eq_true rfl) rfl ?_
  refine go_aload_n 1 dX9_batchOf_0 rfl rfl ls_0 ?_
  refine go_iload_n 2 dX9_batchOf_1 rfl rfl (ls_s ls_0) ?_
  refine go_VI (M' := mX9_isBatch) 5 dX9_batchOf_2 rfl w_787 okX9_isBatch ⟨Nat.le_of_ble_eq_true rfl, Nat.le_of_ble_eq_true rfl⟩ (m_isBatch G gi _) rfl rfl o335 (by decide) rfl (kk := ?_)
  refine go_ifeq_b 18 8 dX9_batchOf_5 (by decide) rfl (fun c_5 => ?_) (fun c_5 => ?_)
  · refine go_iconst 19 (v := (-1)) dX9_batchOf_18 rfl (by decide) ?_
    exact go_ret_i dX9_batchOf_19 rfl rfl rfl (pI_of (bO_1 (fun z => c_5 z.1)).symm rfl)
  · refine go_iload_n 9 dX9_batchOf_8 rfl rfl (ls_s (ls_s ls_0)) ?_
    refine go_iconst 10 (v := 0) dX9_batchOf_9 rfl (by decide) ?_
    refine go_bipush 12 (v := 10) dX9_batchOf_10 rfl (by decide) ?_
    refine go_SI (M' := mX9_in) 15 dX9_batchOf_12 rfl w_768 okX9_in ⟨Nat.le_of_ble_eq_true rfl, Nat.le_of_ble_eq_true rfl⟩ (m_in G gi _ _ _) rfl rfl (kk := ?_)
    refine go_ifne_b 20 18 dX9_batchOf_15 (by decide) rfl (fun c_15 => ?_) (fun c_15 => ?_)
    · obtain ⟨b, hb, rfl, hl⟩ := c_5
      have i := I.b1 hb hl
      have hr4 := I.bR4 hb hl
      have hs4 := I.bS4 hb hl
      obtain ⟨j, hj, rfl⟩ := inR_n (c := 10) (by decide) c_15
      obtain rfl | rfl | rfl | rfl | rfl | rfl | rfl | rfl | rfl | rfl | rfl : j = 0 ∨ j = 1 ∨ j = 2 ∨ j = 3 ∨ j = 4 ∨ j = 5 ∨ j = 6 ∨ j = 7 ∨ j = 8 ∨ j = 9 ∨ j = 10 := by omega
      · refine go_iload_n 21 dX9_batchOf_20 rfl rfl (ls_s (ls_s ls_0)) ?_
        refine go_tabOut 133 dX9_batchOf_21 (by decide +kernel) (by decide) ?_
        refine go_aload_n 134 dX9_batchOf_133 rfl rfl ls_0 ?_
        refine go_iload_n 135 dX9_batchOf_134 rfl rfl (ls_s ls_0) ?_
        refine go_iload_n 136 dX9_batchOf_135 rfl rfl (ls_s (ls_s ls_0)) ?_
        refine go_iconst 137 (v := 1) dX9_batchOf_136 rfl (by decide) ?_
        refine go_iadd 138 dX9_batchOf_137 rfl ?_
        refine go_top (y := (nI 1)) (by decide) ?_
        refine go_VI (M' := mX9_of) 141 dX9_batchOf_138 rfl w_791 okX9_of ⟨Nat.le_of_ble_eq_true rfl, Nat.le_of_ble_eq_true rfl⟩ (m_of G gi (j := 145 + 9 * b + 1) rfl (by omega)) rfl rfl o335 (by decide) rfl (kk := ?_)
        exact go_ret_i dX9_batchOf_141 rfl rfl rfl (pI_of (by rw [bO_y hb hl (by decide) c_15]; rfl) rfl)
      · refine go_iload_n 21 dX9_batchOf_20 rfl rfl (ls_s (ls_s ls_0)) ?_
        refine go_tabOut 133 dX9_batchOf_21 (by decide +kernel) (by decide) ?_
        refine go_aload_n 134 dX9_batchOf_133 rfl rfl ls_0 ?_
        refine go_iload_n 135 dX9_batchOf_134 rfl rfl (ls_s ls_0) ?_
        refine go_iload_n 136 dX9_batchOf_135 rfl rfl (ls_s (ls_s ls_0)) ?_
        refine go_iconst 137 (v := 1) dX9_batchOf_136 rfl (by decide) ?_
        refine go_iadd 138 dX9_batchOf_137 rfl ?_
        refine go_top (y := (nI 2)) (by decide) ?_
        refine go_VI (M' := mX9_of) 141 dX9_batchOf_138 rfl w_791 okX9_of ⟨Nat.le_of_ble_eq_true rfl, Nat.le_of_ble_eq_true rfl⟩ (m_of G gi (j := 145 + 9 * b + 2) rfl (by omega)) rfl rfl o335 (by decide) rfl (kk := ?_)
        exact go_ret_i dX9_batchOf_141 rfl rfl rfl (pI_of (by rw [bO_y hb hl (by decide) c_15]; rfl) rfl)
      · refine go_iload_n 21 dX9_batchOf_20 rfl rfl (ls_s (ls_s ls_0)) ?_
        refine go_tabOut 133 dX9_batchOf_21 (by decide +kernel) (by decide) ?_
        refine go_aload_n 134 dX9_batchOf_133 rfl rfl ls_0 ?_
        refine go_iload_n 135 dX9_batchOf_134 rfl rfl (ls_s ls_0) ?_
        refine go_iload_n 136 dX9_batchOf_135 rfl rfl (ls_s (ls_s ls_0)) ?_
        refine go_iconst 137 (v := 1) dX9_batchOf_136 rfl (by decide) ?_
        refine go_iadd 138 dX9_batchOf_137 rfl ?_
        refine go_top (y := (nI 3)) (by decide) ?_
        refine go_VI (M' := mX9_of) 141 dX9_batchOf_138 rfl w_791 okX9_of ⟨Nat.le_of_ble_eq_true rfl, Nat.le_of_ble_eq_true rfl⟩ (m_of G gi (j := 145 + 9 * b + 3) rfl (by omega)) rfl rfl o335 (by decide) rfl (kk := ?_)
        exact go_ret_i dX9_batchOf_141 rfl rfl rfl (pI_of (by rw [bO_y hb hl (by decide) c_15]; rfl) rfl)
      · refine go_iload_n 21 dX9_batchOf_20 rfl rfl (ls_s (ls_s ls_0)) ?_
        refine go_tabOut 133 dX9_batchOf_21 (by decide +kernel) (by decide) ?_
        refine go_aload_n 134 dX9_batchOf_133 rfl rfl ls_0 ?_
        refine go_iload_n 135 dX9_batchOf_134 rfl rfl (ls_s ls_0) ?_
        refine go_iload_n 136 dX9_batchOf_135 rfl rfl (ls_s (ls_s ls_0)) ?_
        refine go_iconst 137 (v := 1) dX9_batchOf_136 rfl (by decide) ?_
        refine go_iadd 138 dX9_batchOf_137 rfl ?_
        refine go_top (y := (nI 4)) (by decide) ?_
        refine go_VI (M' := mX9_of) 141 dX9_batchOf_138 rfl w_791 okX9_of ⟨Nat.le_of_ble_eq_true rfl, Nat.le_of_ble_eq_true rfl⟩ (m_of G gi (j := 145 + 9 * b + 4) rfl (by omega)) rfl rfl o335 (by decide) rfl (kk := ?_)
        exact go_ret_i dX9_batchOf_141 rfl rfl rfl (pI_of (by rw [bO_y hb hl (by decide) c_15]; rfl) rfl)
      · refine go_iload_n 21 dX9_batchOf_20 rfl rfl (ls_s (ls_s ls_0)) ?_
        refine go_tabOut 133 dX9_batchOf_21 (by decide +kernel) (by decide) ?_
        refine go_aload_n 134 dX9_batchOf_133 rfl rfl ls_0 ?_
        refine go_iload_n 135 dX9_batchOf_134 rfl rfl (ls_s ls_0) ?_
        refine go_iload_n 136 dX9_batchOf_135 rfl rfl (ls_s (ls_s ls_0)) ?_
        refine go_iconst 137 (v := 1) dX9_batchOf_136 rfl (by decide) ?_
        refine go_iadd 138 dX9_batchOf_137 rfl ?_
        refine go_top (y := (nI 5)) (by decide) ?_
        refine go_VI (M' := mX9_of) 141 dX9_batchOf_138 rfl w_791 okX9_of ⟨Nat.le_of_ble_eq_true rfl, Nat.le_of_ble_eq_true rfl⟩ (m_of G gi (j := 145 + 9 * b + 5) rfl (by omega)) rfl rfl o335 (by decide) rfl (kk := ?_)
        exact go_ret_i dX9_batchOf_141 rfl rfl rfl (pI_of (by rw [bO_y hb hl (by decide) c_15]; rfl) rfl)
      · refine go_iload_n 21 dX9_batchOf_20 rfl rfl (ls_s (ls_s ls_0)) ?_
        refine go_tabIn 60 dX9_batchOf_21 (off := 39) (by decide +kernel) (by decide +kernel) (by decide +kernel) (by decide) ?_
        refine go_aload_n 61 dX9_batchOf_60 rfl rfl ls_0 ?_
        refine gp_getR 64 dX9_batchOf_61 rfl f_X9_7 rfl o335 rfl ?_
        refine go_iconst 65 (v := 5) dX9_batchOf_64 rfl (by decide) ?_
        refine gp_ialdN 66 (i := 5) dX9_batchOf_65 rfl a336 rfl (by decide) (by decide) ?_
        refine go_aload_n 67 dX9_batchOf_66 rfl rfl ls_0 ?_
        refine go_iload_n 68 dX9_batchOf_67 rfl rfl (ls_s ls_0) ?_
        refine go_VI (M' := mX9_over) 71 dX9_batchOf_68 rfl w_874 okX9_over ⟨Nat.le_of_ble_eq_true rfl, Nat.le_of_ble_eq_true rfl⟩ (m_over G I hb hl) rfl rfl o335 (by decide) rfl (kk := ?_)
        refine go_icmp_le 89 74 dX9_batchOf_71 (by decide) rfl (fun c_71 => ?_) (fun c_71 => ?_)
        · refine go_iconst 90 (v := 0) dX9_batchOf_89 rfl (by decide) ?_
          exact go_ret_i dX9_batchOf_90 rfl rfl rfl (pI_of (by rw [bO_y hb hl (by decide) c_15]; exact (cIf_f (Int32.not_lt.mpr c_71)).symm) rfl)
        · refine go_aload_n 75 dX9_batchOf_74 rfl rfl ls_0 ?_
          refine gp_getR 78 dX9_batchOf_75 rfl f_X9_7 rfl o335 rfl ?_
          refine go_iconst 79 (v := 5) dX9_batchOf_78 rfl (by decide) ?_
          refine gp_ialdN 80 (i := 5) dX9_batchOf_79 rfl a336 rfl (by decide) (by decide) ?_
          refine go_aload_n 81 dX9_batchOf_80 rfl rfl ls_0 ?_
          refine go_iload_n 82 dX9_batchOf_81 rfl rfl (ls_s ls_0) ?_
          refine go_VI (M' := mX9_over) 85 dX9_batchOf_82 rfl w_874 okX9_over ⟨Nat.le_of_ble_eq_true rfl, Nat.le_of_ble_eq_true rfl⟩ (m_over G I hb hl) rfl rfl o335 (by decide) rfl (kk := ?_)
          refine go_isub 86 dX9_batchOf_85 rfl ?_
          refine go_goto 90 dX9_batchOf_86 (by decide) ?_
          exact go_ret_i dX9_batchOf_90 rfl rfl rfl (pI_of (by rw [bO_y hb hl (by decide) c_15]; exact (cIf_t (Int32.not_le.mp c_71)).symm) rfl)
      · refine go_iload_n 21 dX9_batchOf_20 rfl rfl (ls_s (ls_s ls_0)) ?_
        refine go_tabIn 91 dX9_batchOf_21 (off := 70) (by decide +kernel) (by decide +kernel) (by decide +kernel) (by decide) ?_
        refine go_aload_n 92 dX9_batchOf_91 rfl rfl ls_0 ?_
        refine go_iload_n 93 dX9_batchOf_92 rfl rfl (ls_s ls_0) ?_
        refine go_VI (M' := mX9_isRipe) 96 dX9_batchOf_93 rfl w_866 okX9_isRipe ⟨Nat.le_of_ble_eq_true rfl, Nat.le_of_ble_eq_true rfl⟩ (m_isRipe G I hb hl) rfl rfl o335 (by decide) rfl (kk := ?_)
        refine go_ifeq_b 103 99 dX9_batchOf_96 (by decide) rfl (fun c_96 => ?_) (fun c_96 => ?_)
        · refine go_iconst 104 (v := 0) dX9_batchOf_103 rfl (by decide) ?_
          exact go_ret_i dX9_batchOf_104 rfl rfl rfl (pI_of (by rw [bO_y hb hl (by decide) c_15]; exact bI_0 c_96) rfl)
        · refine go_iconst 100 (v := 1) dX9_batchOf_99 rfl (by decide) ?_
          refine go_goto 104 dX9_batchOf_100 (by decide) ?_
          exact go_ret_i dX9_batchOf_104 rfl rfl rfl (pI_of (by rw [bO_y hb hl (by decide) c_15]; exact bI_1 c_96) rfl)
      · refine go_iload_n 21 dX9_batchOf_20 rfl rfl (ls_s (ls_s ls_0)) ?_
        refine go_tabIn 105 dX9_batchOf_21 (off := 84) (by decide +kernel) (by decide +kernel) (by decide +kernel) (by decide) ?_
        refine go_aload_n 106 dX9_batchOf_105 rfl rfl ls_0 ?_
        refine go_iload_n 107 dX9_batchOf_106 rfl rfl (ls_s ls_0) ?_
        refine go_bipush 109 (v := 6) dX9_batchOf_107 rfl (by decide) ?_
        refine go_VI (M' := mX9_of) 112 dX9_batchOf_109 rfl w_791 okX9_of ⟨Nat.le_of_ble_eq_true rfl, Nat.le_of_ble_eq_true rfl⟩ (m_of G gi (j := 145 + 9 * b + 6) rfl (by omega)) rfl rfl o335 (by decide) rfl (kk := ?_)
        exact go_ret_i dX9_batchOf_112 rfl rfl rfl (pI_of (by rw [bO_y hb hl (by decide) c_15]; rfl) rfl)
      · refine go_iload_n 21 dX9_batchOf_20 rfl rfl (ls_s (ls_s ls_0)) ?_
        refine go_tabIn 113 dX9_batchOf_21 (off := 92) (by decide +kernel) (by decide +kernel) (by decide +kernel) (by decide) ?_
        refine go_aload_n 114 dX9_batchOf_113 rfl rfl ls_0 ?_
        refine go_iload_n 115 dX9_batchOf_114 rfl rfl (ls_s ls_0) ?_
        refine go_bipush 117 (v := 7) dX9_batchOf_115 rfl (by decide) ?_
        refine go_VI (M' := mX9_of) 120 dX9_batchOf_117 rfl w_791 okX9_of ⟨Nat.le_of_ble_eq_true rfl, Nat.le_of_ble_eq_true rfl⟩ (m_of G gi (j := 145 + 9 * b + 7) rfl (by omega)) rfl rfl o335 (by decide) rfl (kk := ?_)
        exact go_ret_i dX9_batchOf_120 rfl rfl rfl (pI_of (by rw [bO_y hb hl (by decide) c_15]; rfl) rfl)
      · refine go_iload_n 21 dX9_batchOf_20 rfl rfl (ls_s (ls_s ls_0)) ?_
        refine go_tabIn 121 dX9_batchOf_21 (off := 100) (by decide +kernel) (by decide +kernel) (by decide +kernel) (by decide) ?_
        refine go_aload_n 122 dX9_batchOf_121 rfl rfl ls_0 ?_
        refine go_iload_n 123 dX9_batchOf_122 rfl rfl (ls_s ls_0) ?_
        refine go_VI (M' := mX9_ripeAt) 126 dX9_batchOf_123 rfl w_870 okX9_ripeAt ⟨Nat.le_of_ble_eq_true rfl, Nat.le_of_ble_eq_true rfl⟩ (m_ripeAt G I hb hl) rfl rfl o335 (by decide) rfl (kk := ?_)
        exact go_ret_i dX9_batchOf_126 rfl rfl rfl (pI_of (by rw [bO_y hb hl (by decide) c_15]; rfl) rfl)
      · refine go_iload_n 21 dX9_batchOf_20 rfl rfl (ls_s (ls_s ls_0)) ?_
        refine go_tabIn 127 dX9_batchOf_21 (off := 106) (by decide +kernel) (by decide +kernel) (by decide +kernel) (by decide) ?_
        refine go_aload_n 128 dX9_batchOf_127 rfl rfl ls_0 ?_
        refine go_iload_n 129 dX9_batchOf_128 rfl rfl (ls_s ls_0) ?_
        refine go_VI (M' := mX9_goodTill) 132 dX9_batchOf_129 rfl w_910 okX9_goodTill ⟨Nat.le_of_ble_eq_true rfl, Nat.le_of_ble_eq_true rfl⟩ (m_goodTill G I hb hl) rfl rfl o335 (by decide) rfl (kk := ?_)
        exact go_ret_i dX9_batchOf_132 rfl rfl rfl (pI_of (by rw [bO_y hb hl (by decide) c_15]; rfl) rfl)
    · refine go_iconst 19 (v := (-1)) dX9_batchOf_18 rfl (by decide) ?_
      exact go_ret_i dX9_batchOf_19 rfl rfl rfl (pI_of (bO_1 (fun z => c_15 z.2)).symm rfl)
set_option maxHeartbeats 4000000 in
set_option maxRecDepth 100000 in
theorem mx_vesselOf (G : BcG) {gi : GI} {N : Nat} (I : Inv N (gi 336)) (x w : Int32) : Ct G mX9_vesselOf [.ref (G.1 + 335), .int x, .int w] (hp gi) (pI (fVesselOf (gi 336) x w) (hp gi)) := by
  refine ct_of [some (.ref (G.1 + 335)), some (.int x), some (.int w), none] w_10 (by decide) rfl (Nat.le_of_ble_eq_true rfl) rfl ?_
  refine go_aload_n 1 dX9_vesselOf_0 rfl rfl ls_0 ?_
  refine go_iload_n 2 dX9_vesselOf_1 rfl rfl (ls_s ls_0) ?_
  refine go_VI (M' := mX9_isVessel) 5 dX9_vesselOf_2 rfl w_834 okX9_isVessel ⟨Nat.le_of_ble_eq_true rfl, Nat.le_of_ble_eq_true rfl⟩ (m_isVessel G I _) rfl rfl o335 (by decide) rfl (kk := ?_)
  refine go_ifeq_b 17 8 dX9_vesselOf_5 (by decide) rfl (fun c_5 => ?_) (fun c_5 => ?_)
  · refine go_iconst 18 (v := (-1)) dX9_vesselOf_17 rfl (by decide) ?_
    exact go_ret_i dX9_vesselOf_18 rfl rfl rfl (pI_of (vO_1 (fun z => c_5 z.1)).symm rfl)
  · refine go_iload_n 9 dX9_vesselOf_8 rfl rfl (ls_s (ls_s ls_0)) ?_
    refine go_iconst 10 (v := 0) dX9_vesselOf_9 rfl (by decide) ?_
    refine go_iconst 11 (v := 4) dX9_vesselOf_10 rfl (by decide) ?_
    refine go_SI (M' := mX9_in) 14 dX9_vesselOf_11 rfl w_768 okX9_in ⟨Nat.le_of_ble_eq_true rfl, Nat.le_of_ble_eq_true rfl⟩ (m_in G gi _ _ _) rfl rfl (kk := ?_)
    refine go_ifne_b 19 17 dX9_vesselOf_14 (by decide) rfl (fun c_14 => ?_) (fun c_14 => ?_)
    · obtain ⟨v, hv, rfl⟩ := c_5
      have hv6 : v < 6 := Nat.lt_of_lt_of_le hv I.nV6
      obtain ⟨j, hj, rfl⟩ := inR_n (c := 4) (by decide) c_14
      refine go_aload_n 20 dX9_vesselOf_19 rfl rfl ls_0 ?_
      refine go_iload_n 21 dX9_vesselOf_20 rfl rfl (ls_s ls_0) ?_
      refine go_iload_n 22 dX9_vesselOf_21 rfl rfl (ls_s (ls_s ls_0)) ?_
      refine go_VI (M' := mX9_ofVessel) 25 dX9_vesselOf_22 rfl w_842 okX9_ofVessel ⟨Nat.le_of_ble_eq_true rfl, Nat.le_of_ble_eq_true rfl⟩ (m_ofVessel G gi (j := 103 + 5 * v + j) rfl (by omega)) rfl rfl o335 (by decide) rfl (kk := ?_)
      refine go_istore_n 26 dX9_vesselOf_25 rfl rfl (by decide) (st_s (st_s (st_s st_0))) ?_
      refine go_iload_n 27 dX9_vesselOf_26 rfl rfl (ls_s (ls_s (ls_s ls_0))) ?_
      refine go_if_ge 35 30 dX9_vesselOf_27 (by decide) rfl (fun c_27 => ?_) (fun c_27 => ?_)
      · refine go_iload_n 36 dX9_vesselOf_35 rfl rfl (ls_s (ls_s (ls_s ls_0))) ?_
        exact go_ret_i dX9_vesselOf_36 rfl rfl rfl (pI_of (by rw [vO_y hv6 hv hj c_14, cIf_f (Int32.not_lt.mpr c_27)]) rfl)
      · refine go_bipush 32 (v := (-4)) dX9_vesselOf_30 rfl (by decide) ?_
        refine go_goto 36 dX9_vesselOf_32 (by decide) ?_
        exact go_ret_i dX9_vesselOf_36 rfl rfl rfl (pI_of (by rw [vO_y hv6 hv hj c_14, cIf_t (Int32.not_le.mp c_27)]) rfl)
    · refine go_iconst 18 (v := (-1)) dX9_vesselOf_17 rfl (by decide) ?_
      exact go_ret_i dX9_vesselOf_18 rfl rfl rfl (pI_of (vO_1 (fun z => c_14 z.2)).symm rfl)
theorem lin_iff {N : Nat} {A : AA} (I : Inv N A) {x : Int32} : (0 ≤ x ∧ x ≤ nI (nL A) - 1) ↔ isLin A x := by
  have h3 := I.nL3
  constructor
  · rintro ⟨h1, h2⟩
    obtain ⟨k, hk, e⟩ := idx_of (len := nL A) (by omega) (Int32.not_lt.mpr h1) (fun z => by
      have q := Int32.le_trans z h2
      rw [Int32.le_iff_toInt_le, show (1 : Int32) = nI 1 from rfl, pk_sub_toInt (by omega) (by decide), nI_toInt (by omega)] at q
      omega)
    exact ⟨k, hk, e⟩
  · rintro ⟨k, hk, rfl⟩
    refine ⟨Int32.not_lt.mp (nI_pos (by omega)), ?_⟩
    rw [Int32.le_iff_toInt_le, show (1 : Int32) = nI 1 from rfl, pk_sub_toInt (by omega) (by decide), nI_toInt (by omega)]
    omega
set_option maxHeartbeats 4000000 in
set_option maxRecDepth 100000 in
theorem mx_lineOf (G : BcG) {gi : GI} {N : Nat} (I : Inv N (gi 336)) (x w : Int32) : Ct G mX9_lineOf [.ref (G.1 + 335), .int x, .int w] (hp gi) (pI (fLineOf (gi 336) x w) (hp gi)) := by
  refine ct_of [some (.ref (G.1 + 335)), some (.int x), some (.int w), none] w_10 (by decide) rfl (Nat.le_of_ble_eq_true rfl) rfl ?_
  refine go_iload_n 1 dX9_lineOf_0 rfl rfl (ls_s ls_0) ?_
  refine go_iconst 2 (v := 0) dX9_lineOf_1 rfl (by decide) ?_
  refine go_aload_n 3 dX9_lineOf_2 rfl rfl ls_0 ?_
  refine gp_getR 6 dX9_lineOf_3 rfl f_X9_7 rfl o335 rfl ?_
  refine go_iconst 7 (v := 4) dX9_lineOf_6 rfl (by decide) ?_
  refine gp_ialdN 8 (i := 4) dX9_lineOf_7 rfl a336 rfl (by decide) (by decide) ?_
  refine go_top (y := (nI (nL (gi 336)))) I.eL ?_
  refine go_iconst 9 (v := 1) dX9_lineOf_8 rfl (by decide) ?_
  refine go_isub 10 dX9_lineOf_9 rfl ?_
  refine go_SI (M' := mX9_in) 13 dX9_lineOf_10 rfl w_768 okX9_in ⟨Nat.le_of_ble_eq_true rfl, Nat.le_of_ble_eq_true rfl⟩ (m_in G gi _ _ _) rfl rfl (kk := ?_)
  refine go_ifeq_b 25 16 dX9_lineOf_13 (by decide) rfl (fun c_13 => ?_) (fun c_13 => ?_)
  · refine go_iconst 26 (v := (-1)) dX9_lineOf_25 rfl (by decide) ?_
    exact go_ret_i dX9_lineOf_26 rfl rfl rfl (pI_of (lO_1 (fun z => c_13 ((lin_iff I).mpr z.1))).symm rfl)
  · refine go_iload_n 17 dX9_lineOf_16 rfl rfl (ls_s (ls_s ls_0)) ?_
    refine go_iconst 18 (v := 0) dX9_lineOf_17 rfl (by decide) ?_
    refine go_iconst 19 (v := 3) dX9_lineOf_18 rfl (by decide) ?_
    refine go_SI (M' := mX9_in) 22 dX9_lineOf_19 rfl w_768 okX9_in ⟨Nat.le_of_ble_eq_true rfl, Nat.le_of_ble_eq_true rfl⟩ (m_in G gi _ _ _) rfl rfl (kk := ?_)
    refine go_ifne_b 27 25 dX9_lineOf_22 (by decide) rfl (fun c_22 => ?_) (fun c_22 => ?_)
    · obtain ⟨k, hk, rfl⟩ := (lin_iff I).mp c_13
      have hk3 : k < 3 := Nat.lt_of_lt_of_le hk I.nL3
      obtain ⟨j, hj, rfl⟩ := inR_n (c := 3) (by decide) c_22
      refine go_aload_n 28 dX9_lineOf_27 rfl rfl ls_0 ?_
      refine go_iload_n 29 dX9_lineOf_28 rfl rfl (ls_s ls_0) ?_
      refine go_iload_n 30 dX9_lineOf_29 rfl rfl (ls_s (ls_s ls_0)) ?_
      refine go_VI (M' := mX9_ofLine) 33 dX9_lineOf_30 rfl w_878 okX9_ofLine ⟨Nat.le_of_ble_eq_true rfl, Nat.le_of_ble_eq_true rfl⟩ (m_ofLine G gi (j := 133 + 4 * k + j) rfl (by omega)) rfl rfl o335 (by decide) rfl (kk := ?_)
      refine go_istore_n 34 dX9_lineOf_33 rfl rfl (by decide) (st_s (st_s (st_s st_0))) ?_
      refine go_iload_n 35 dX9_lineOf_34 rfl rfl (ls_s (ls_s ls_0)) ?_
      refine go_iconst 36 (v := 2) dX9_lineOf_35 rfl (by decide) ?_
      refine go_icmp_eq 43 39 dX9_lineOf_36 (by decide) rfl (fun c_36 => ?_) (fun c_36 => ?_)
      · obtain rfl : j = 2 := nI_in_r (by omega) (by omega) c_36
        refine go_iload_n 44 dX9_lineOf_43 rfl rfl (ls_s (ls_s (ls_s ls_0))) ?_
        refine go_aload_n 45 dX9_lineOf_44 rfl rfl ls_0 ?_
        refine gp_getR 48 dX9_lineOf_45 rfl f_X9_7 rfl o335 rfl ?_
        refine go_iconst 49 (v := 5) dX9_lineOf_48 rfl (by decide) ?_
        refine gp_ialdN 50 (i := 5) dX9_lineOf_49 rfl a336 rfl (by decide) (by decide) ?_
        refine go_icmp_le 64 53 dX9_lineOf_50 (by decide) rfl (fun c_50 => ?_) (fun c_50 => ?_)
        · refine go_iconst 65 (v := 0) dX9_lineOf_64 rfl (by decide) ?_
          exact go_ret_i dX9_lineOf_65 rfl rfl rfl (pI_of (by rw [lO_y hk3 hk hj c_22, cIf_t c_36, cIf_f (Int32.not_lt.mpr c_50)]) rfl)
        · refine go_iload_n 54 dX9_lineOf_53 rfl rfl (ls_s (ls_s (ls_s ls_0))) ?_
          refine go_aload_n 55 dX9_lineOf_54 rfl rfl ls_0 ?_
          refine gp_getR 58 dX9_lineOf_55 rfl f_X9_7 rfl o335 rfl ?_
          refine go_iconst 59 (v := 5) dX9_lineOf_58 rfl (by decide) ?_
          refine gp_ialdN 60 (i := 5) dX9_lineOf_59 rfl a336 rfl (by decide) (by decide) ?_
          refine go_isub 61 dX9_lineOf_60 rfl ?_
          refine go_goto 65 dX9_lineOf_61 (by decide) ?_
          exact go_ret_i dX9_lineOf_65 rfl rfl rfl (pI_of (by rw [lO_y hk3 hk hj c_22, cIf_t c_36, cIf_t (Int32.not_le.mp c_50)]) rfl)
      · refine go_iload_n 40 dX9_lineOf_39 rfl rfl (ls_s (ls_s (ls_s ls_0))) ?_
        refine go_goto 65 dX9_lineOf_40 (by decide) ?_
        exact go_ret_i dX9_lineOf_65 rfl rfl rfl (pI_of (by rw [lO_y hk3 hk hj c_22, cIf_f c_36]) rfl)
    · refine go_iconst 26 (v := (-1)) dX9_lineOf_25 rfl (by decide) ?_
      exact go_ret_i dX9_lineOf_26 rfl rfl rfl (pI_of (lO_1 (fun z => c_22 z.2)).symm rfl)
set_option maxHeartbeats 4000000 in
set_option maxRecDepth 100000 in
theorem lm_targets (G : BcG) {gi : GI} {N : Nat} (I : Inv N (gi 336)) {b : Nat} (hb : b < 6) (hl : live (gi 336) b) : ∀ (n i : Nat) (s : Int32), i + n = nV (gi 336) → BGo G mX9_targets (KM G mX9_targets 341 (pI (tgF (gi 336) b i n s) (hp gi))) (hp gi) 0 0 14 [some (.ref (G.1 + 335)), some (.int (nI b)), some (.int s), some (.int (nI i))] [] := by
  intro n
  induction n with
  | zero =>
    intro i s hn 
    refine go_iload_n 15 dX9_targets_14 rfl rfl (ls_s (ls_s (ls_s ls_0))) ?_
    refine go_aload_n 16 dX9_targets_15 rfl rfl ls_0 ?_
    refine gp_getR 19 dX9_targets_16 rfl f_X9_7 rfl o335 rfl ?_
    refine go_iconst 20 (v := 3) dX9_targets_19 rfl (by decide) ?_
    refine gp_ialdN 21 (i := 3) dX9_targets_20 rfl a336 rfl (by decide) (by decide) ?_
    refine go_top (y := (nI (nV (gi 336)))) I.eV ?_
    refine go_icmp_ge 49 24 dX9_targets_21 (by decide) rfl (fun c_21 => ?_) (fun c_21 => absurd (show nI (nV (gi 336)) ≤ nI i by rw [show i = nV (gi 336) by omega]; exact Int32.le_refl _) c_21)
    refine go_iload_n 50 dX9_targets_49 rfl rfl (ls_s (ls_s ls_0)) ?_
    exact go_ret_i dX9_targets_50 rfl rfl rfl (pI_of rfl rfl)
  | succ n ih =>
    intro i s hn 
    have hv6 := I.nV6
    have hiv : i < nV (gi 336) := by omega
    have hi6 : i < 6 := by omega
    refine go_iload_n 15 dX9_targets_14 rfl rfl (ls_s (ls_s (ls_s ls_0))) ?_
    refine go_aload_n 16 dX9_targets_15 rfl rfl ls_0 ?_
    refine gp_getR 19 dX9_targets_16 rfl f_X9_7 rfl o335 rfl ?_
    refine go_iconst 20 (v := 3) dX9_targets_19 rfl (by decide) ?_
    refine gp_ialdN 21 (i := 3) dX9_targets_20 rfl a336 rfl (by decide) (by decide) ?_
    refine go_top (y := (nI (nV (gi 336)))) I.eV ?_
    refine go_icmp_ge 49 24 dX9_targets_21 (by decide) rfl (fun c_21 => absurd c_21 (nI_ge hiv (by omega))) (fun c_21 => ?_)
    refine go_iload_n 25 dX9_targets_24 rfl rfl (ls_s (ls_s ls_0)) ?_
    refine go_aload_n 26 dX9_targets_25 rfl rfl ls_0 ?_
    refine go_iload_n 27 dX9_targets_26 rfl rfl (ls_s ls_0) ?_
    refine go_iload_n 28 dX9_targets_27 rfl rfl (ls_s (ls_s (ls_s ls_0))) ?_
    refine go_VI (M' := mX9_lineTo) 31 dX9_targets_28 rfl w_862 okX9_lineTo ⟨Nat.le_of_ble_eq_true rfl, Nat.le_of_ble_eq_true rfl⟩ (m_lineTo G I hb hl (v := i) hi6) rfl rfl o335 (by decide) rfl (kk := ?_)
    refine go_if_ge 38 34 dX9_targets_31 (by decide) rfl (fun c_31 => ?_) (fun c_31 => ?_)
    · refine go_iconst 39 (v := 1) dX9_targets_38 rfl (by decide) ?_
      refine go_iload_n 40 dX9_targets_39 rfl rfl (ls_s (ls_s (ls_s ls_0))) ?_
      refine go_ishl 41 dX9_targets_40 rfl ?_
      refine go_ior 42 dX9_targets_41 rfl ?_
      refine go_top (y := (s ||| cIf (ltF (gi 336) b i < 0) 0 ((1 : Int32) <<< (nI i &&& 31)))) (by rw [cIf_f (Int32.not_lt.mpr c_31)]) ?_
      refine go_istore_n 43 dX9_targets_42 rfl rfl (by decide) (st_s (st_s st_0)) ?_
      refine go_iinc 46 (v := (nI (i + 1))) dX9_targets_43 rfl (ls_s (ls_s (ls_s ls_0))) (by exact nI_1 i) (by decide) (st_s (st_s (st_s st_0))) ?_
      refine go_goto 14 dX9_targets_46 (by decide) ?_
      exact ih (i + 1) _ (by omega)
    · refine go_iconst 35 (v := 0) dX9_targets_34 rfl (by decide) ?_
      refine go_goto 41 dX9_targets_35 (by decide) ?_
      refine go_ior 42 dX9_targets_41 rfl ?_
      refine go_top (y := (s ||| cIf (ltF (gi 336) b i < 0) 0 ((1 : Int32) <<< (nI i &&& 31)))) (by rw [cIf_t (Int32.not_le.mp c_31)]) ?_
      refine go_istore_n 43 dX9_targets_42 rfl rfl (by decide) (st_s (st_s st_0)) ?_
      refine go_iinc 46 (v := (nI (i + 1))) dX9_targets_43 rfl (ls_s (ls_s (ls_s ls_0))) (by exact nI_1 i) (by decide) (st_s (st_s (st_s st_0))) ?_
      refine go_goto 14 dX9_targets_46 (by decide) ?_
      exact ih (i + 1) _ (by omega)
set_option maxHeartbeats 4000000 in
set_option maxRecDepth 100000 in
theorem mx_targets (G : BcG) {gi : GI} {N : Nat} (I : Inv N (gi 336)) (x : Int32) : Ct G mX9_targets [.ref (G.1 + 335), .int x] (hp gi) (pI (fTargets (gi 336) x) (hp gi)) := by
  refine ct_of [some (.ref (G.1 + 335)), some (.int x), none, none] w_10 (by decide) rfl (Nat.le_of_ble_eq_true rfl) rfl ?_
  refine go_aload_n 1 dX9_targets_0 rfl rfl ls_0 ?_
  refine go_iload_n 2 dX9_targets_1 rfl rfl (ls_s ls_0) ?_
  refine go_VI (M' := mX9_isBatch) 5 dX9_targets_2 rfl w_787 okX9_isBatch ⟨Nat.le_of_ble_eq_true rfl, Nat.le_of_ble_eq_true rfl⟩ (m_isBatch G gi _) rfl rfl o335 (by decide) rfl (kk := ?_)
  refine go_ifne_b 10 8 dX9_targets_5 (by decide) rfl (fun c_5 => ?_) (fun c_5 => ?_)
  · obtain ⟨b, hb, rfl, hl⟩ := c_5
    have i := I.b1 hb hl
    have hr4 := I.bR4 hb hl
    have hs4 := I.bS4 hb hl
    refine go_iconst 11 (v := 0) dX9_targets_10 rfl (by decide) ?_
    refine go_istore_n 12 dX9_targets_11 rfl rfl (by decide) (st_s (st_s st_0)) ?_
    refine go_iconst 13 (v := 0) dX9_targets_12 rfl (by decide) ?_
    refine go_istore_n 14 dX9_targets_13 rfl rfl (by decide) (st_s (st_s (st_s st_0))) ?_
    rw [fTargets, cIf_f (c := ¬ isBat (gi 336) (nI b)) (fun z => z (isBat_n hb hl)), iN_n (by omega)]
    exact lm_targets G I hb hl (nV (gi 336)) 0 0 (by omega)
  · refine go_iconst 9 (v := (-1)) dX9_targets_8 rfl (by decide) ?_
    exact go_ret_i dX9_targets_9 rfl rfl rfl (pI_of (by rw [fTargets, cIf_t c_5]) rfl)
theorem sn_y {A : AA} {r k n : Nat} {m t : Int32} (h : isRoom A (stg A r k 0) m) : snF A r k (n + 1) m t = snF A r (k + 1) n (m - lsF A m) (t + (stg A r k 1 + stg A r k 2)) := by rw [snF, cIf_f (fun z => z h)]
theorem sn_n {A : AA} {r k n : Nat} {m t : Int32} (h : ¬ isRoom A (stg A r k 0) m) : snF A r k (n + 1) m t = -4 := by rw [snF, cIf_t h]
set_option maxHeartbeats 4000000 in
set_option maxRecDepth 100000 in
theorem lm_soonest (G : BcG) {gi : GI} {N : Nat} (I : Inv N (gi 336)) {r : Nat} (hr4 : r < 4) (b : Nat) : ∀ (n i : Nat) (m t : Int32), i + n = nS (gi 336) r → BGo G mX9_soonest (KM G mX9_soonest 341 (pI (snF (gi 336) r i n m t) (hp gi))) (hp gi) 0 0 58 [some (.ref (G.1 + 335)), some (.int (nI b)), some (.int (nI r)), some (.int m), some (.int t), some (.int (nI i))] [] := by
  intro n
  induction n with
  | zero =>
    intro i m t hn 
    refine go_iload 60 dX9_soonest_58 rfl (ls_s (ls_s (ls_s (ls_s (ls_s ls_0))))) ?_
    refine go_aload_n 61 dX9_soonest_60 rfl rfl ls_0 ?_
    refine go_iload_n 62 dX9_soonest_61 rfl rfl (ls_s (ls_s ls_0)) ?_
    refine go_VI (M' := mX9_stages) 65 dX9_soonest_62 rfl w_795 okX9_stages ⟨Nat.le_of_ble_eq_true rfl, Nat.le_of_ble_eq_true rfl⟩ (m_stages G gi (r := r) (by omega)) rfl rfl o335 (by decide) rfl (kk := ?_)
    refine go_top (y := (nI (nS (gi 336) r))) (I.eS hr4) ?_
    refine go_icmp_ge 130 68 dX9_soonest_65 (by decide) rfl (fun c_65 => ?_) (fun c_65 => absurd (show nI (nS (gi 336) r) ≤ nI i by rw [show i = nS (gi 336) r by omega]; exact Int32.le_refl _) c_65)
    refine go_iload 132 dX9_soonest_130 rfl (ls_s (ls_s (ls_s (ls_s ls_0)))) ?_
    exact go_ret_i dX9_soonest_132 rfl rfl rfl (pI_of rfl rfl)
  | succ n ih =>
    intro i m t hn 
    have hs5 := I.nS4 hr4
    have hiS : i < nS (gi 336) r := by omega
    refine go_iload 60 dX9_soonest_58 rfl (ls_s (ls_s (ls_s (ls_s (ls_s ls_0))))) ?_
    refine go_aload_n 61 dX9_soonest_60 rfl rfl ls_0 ?_
    refine go_iload_n 62 dX9_soonest_61 rfl rfl (ls_s (ls_s ls_0)) ?_
    refine go_VI (M' := mX9_stages) 65 dX9_soonest_62 rfl w_795 okX9_stages ⟨Nat.le_of_ble_eq_true rfl, Nat.le_of_ble_eq_true rfl⟩ (m_stages G gi (r := r) (by omega)) rfl rfl o335 (by decide) rfl (kk := ?_)
    refine go_top (y := (nI (nS (gi 336) r))) (I.eS hr4) ?_
    refine go_icmp_ge 130 68 dX9_soonest_65 (by decide) rfl (fun c_65 => absurd c_65 (nI_ge hiS (by omega))) (fun c_65 => ?_)
    refine go_aload_n 69 dX9_soonest_68 rfl rfl ls_0 ?_
    refine go_aload_n 70 dX9_soonest_69 rfl rfl ls_0 ?_
    refine go_iload_n 71 dX9_soonest_70 rfl rfl (ls_s (ls_s ls_0)) ?_
    refine go_iload 73 dX9_soonest_71 rfl (ls_s (ls_s (ls_s (ls_s (ls_s ls_0))))) ?_
    refine go_iconst 74 (v := 0) dX9_soonest_73 rfl (by decide) ?_
    refine go_VI (M' := mX9_ofStage) 77 dX9_soonest_74 rfl w_826 okX9_ofStage ⟨Nat.le_of_ble_eq_true rfl, Nat.le_of_ble_eq_true rfl⟩ (m_ofStage G gi (j := 31 + 18 * r + 2 + 4 * i) rfl (by omega)) rfl rfl o335 (by decide) rfl (kk := ?_)
    refine go_iload_n 78 dX9_soonest_77 rfl rfl (ls_s (ls_s (ls_s ls_0))) ?_
    refine go_VI (M' := mX9_isRoom) 81 dX9_soonest_78 rfl w_950 okX9_isRoom ⟨Nat.le_of_ble_eq_true rfl, Nat.le_of_ble_eq_true rfl⟩ (m_isRoom G I _ _) rfl rfl o335 (by decide) rfl (kk := ?_)
    refine go_ifne_b 87 84 dX9_soonest_81 (by decide) rfl (fun c_81 => ?_) (fun c_81 => ?_)
    · refine go_iload_n 88 dX9_soonest_87 rfl rfl (ls_s (ls_s (ls_s ls_0))) ?_
      refine go_iload_n 89 dX9_soonest_88 rfl rfl (ls_s (ls_s (ls_s ls_0))) ?_
      refine go_aload_n 90 dX9_soonest_89 rfl rfl ls_0 ?_
      refine gp_getR 93 dX9_soonest_90 rfl f_X9_7 rfl o335 rfl ?_
      refine go_iconst 94 (v := 0) dX9_soonest_93 rfl (by decide) ?_
      refine gp_ialdN 95 (i := 0) dX9_soonest_94 rfl a336 rfl (by decide) (by decide) ?_
      refine go_imul 96 dX9_soonest_95 rfl ?_
      refine go_sipush 99 (v := 1000) dX9_soonest_96 rfl (by decide) ?_
      refine go_idiv 100 dX9_soonest_99 rfl (by decide) ?_
      refine go_isub 101 dX9_soonest_100 rfl ?_
      refine go_top (y := (m - lsF (gi 336) m)) rfl ?_
      refine go_istore_n 102 dX9_soonest_101 rfl rfl (by decide) (st_s (st_s (st_s st_0))) ?_
      refine go_iload 104 dX9_soonest_102 rfl (ls_s (ls_s (ls_s (ls_s ls_0)))) ?_
      refine go_aload_n 105 dX9_soonest_104 rfl rfl ls_0 ?_
      refine go_iload_n 106 dX9_soonest_105 rfl rfl (ls_s (ls_s ls_0)) ?_
      refine go_iload 108 dX9_soonest_106 rfl (ls_s (ls_s (ls_s (ls_s (ls_s ls_0))))) ?_
      refine go_iconst 109 (v := 1) dX9_soonest_108 rfl (by decide) ?_
      refine go_VI (M' := mX9_ofStage) 112 dX9_soonest_109 rfl w_826 okX9_ofStage ⟨Nat.le_of_ble_eq_true rfl, Nat.le_of_ble_eq_true rfl⟩ (m_ofStage G gi (j := 31 + 18 * r + 2 + 4 * i + 1) rfl (by omega)) rfl rfl o335 (by decide) rfl (kk := ?_)
      refine go_aload_n 113 dX9_soonest_112 rfl rfl ls_0 ?_
      refine go_iload_n 114 dX9_soonest_113 rfl rfl (ls_s (ls_s ls_0)) ?_
      refine go_iload 116 dX9_soonest_114 rfl (ls_s (ls_s (ls_s (ls_s (ls_s ls_0))))) ?_
      refine go_iconst 117 (v := 2) dX9_soonest_116 rfl (by decide) ?_
      refine go_VI (M' := mX9_ofStage) 120 dX9_soonest_117 rfl w_826 okX9_ofStage ⟨Nat.le_of_ble_eq_true rfl, Nat.le_of_ble_eq_true rfl⟩ (m_ofStage G gi (j := 31 + 18 * r + 2 + 4 * i + 2) rfl (by omega)) rfl rfl o335 (by decide) rfl (kk := ?_)
      refine go_iadd 121 dX9_soonest_120 rfl ?_
      refine go_iadd 122 dX9_soonest_121 rfl ?_
      refine go_istore 124 dX9_soonest_122 rfl (by decide) (st_s (st_s (st_s (st_s st_0)))) ?_
      refine go_iinc 127 (v := (nI (i + 1))) dX9_soonest_124 rfl (ls_s (ls_s (ls_s (ls_s (ls_s ls_0))))) (by exact nI_1 i) (by decide) (st_s (st_s (st_s (st_s (st_s st_0))))) ?_
      refine go_goto 58 dX9_soonest_127 (by decide) ?_
      rw [sn_y c_81]
      exact ih (i + 1) _ _ (by omega)
    · refine go_bipush 86 (v := (-4)) dX9_soonest_84 rfl (by decide) ?_
      exact go_ret_i dX9_soonest_86 rfl rfl rfl (pI_of (sn_n c_81).symm rfl)
set_option maxHeartbeats 4000000 in
set_option maxRecDepth 100000 in
theorem mx_soonest (G : BcG) {gi : GI} {N : Nat} (I : Inv N (gi 336)) (x : Int32) : Ct G mX9_soonest [.ref (G.1 + 335), .int x] (hp gi) (pI (fSoonest (gi 336) x) (hp gi)) := by
  refine ct_of [some (.ref (G.1 + 335)), some (.int x), none, none, none, none] w_10 (by decide) rfl (Nat.le_of_ble_eq_true rfl) rfl ?_
  refine go_aload_n 1 dX9_soonest_0 rfl rfl ls_0 ?_
  refine go_iload_n 2 dX9_soonest_1 rfl rfl (ls_s ls_0) ?_
  refine go_VI (M' := mX9_isBatch) 5 dX9_soonest_2 rfl w_787 okX9_isBatch ⟨Nat.le_of_ble_eq_true rfl, Nat.le_of_ble_eq_true rfl⟩ (m_isBatch G gi _) rfl rfl o335 (by decide) rfl (kk := ?_)
  refine go_ifne_b 10 8 dX9_soonest_5 (by decide) rfl (fun c_5 => ?_) (fun c_5 => ?_)
  · obtain ⟨b, hb, rfl, hl⟩ := c_5
    have i := I.b1 hb hl
    have hr4 := I.bR4 hb hl
    have hs4 := I.bS4 hb hl
    refine go_aload_n 11 dX9_soonest_10 rfl rfl ls_0 ?_
    refine go_iload_n 12 dX9_soonest_11 rfl rfl (ls_s ls_0) ?_
    refine go_iconst 13 (v := 1) dX9_soonest_12 rfl (by decide) ?_
    refine go_VI (M' := mX9_of) 16 dX9_soonest_13 rfl w_791 okX9_of ⟨Nat.le_of_ble_eq_true rfl, Nat.le_of_ble_eq_true rfl⟩ (m_of G gi (j := 145 + 9 * b + 1) rfl (by omega)) rfl rfl o335 (by decide) rfl (kk := ?_)
    refine go_top (y := (nI (bR (gi 336) b))) i.1.1 ?_
    refine go_istore_n 17 dX9_soonest_16 rfl rfl (by decide) (st_s (st_s st_0)) ?_
    refine go_aload_n 18 dX9_soonest_17 rfl rfl ls_0 ?_
    refine go_iload_n 19 dX9_soonest_18 rfl rfl (ls_s ls_0) ?_
    refine go_iconst 20 (v := 2) dX9_soonest_19 rfl (by decide) ?_
    refine go_VI (M' := mX9_of) 23 dX9_soonest_20 rfl w_791 okX9_of ⟨Nat.le_of_ble_eq_true rfl, Nat.le_of_ble_eq_true rfl⟩ (m_of G gi (j := 145 + 9 * b + 2) rfl (by omega)) rfl rfl o335 (by decide) rfl (kk := ?_)
    refine go_istore_n 24 dX9_soonest_23 rfl rfl (by decide) (st_s (st_s (st_s st_0))) ?_
    refine go_aload_n 25 dX9_soonest_24 rfl rfl ls_0 ?_
    refine go_iload_n 26 dX9_soonest_25 rfl rfl (ls_s ls_0) ?_
    refine go_VI (M' := mX9_isRipe) 29 dX9_soonest_26 rfl w_866 okX9_isRipe ⟨Nat.le_of_ble_eq_true rfl, Nat.le_of_ble_eq_true rfl⟩ (m_isRipe G I hb hl) rfl rfl o335 (by decide) rfl (kk := ?_)
    refine go_ifeq_b 41 32 dX9_soonest_29 (by decide) rfl (fun c_29 => ?_) (fun c_29 => ?_)
    · refine go_aload_n 42 dX9_soonest_41 rfl rfl ls_0 ?_
      refine go_iload_n 43 dX9_soonest_42 rfl rfl (ls_s ls_0) ?_
      refine go_VI (M' := mX9_ripeAt) 46 dX9_soonest_43 rfl w_870 okX9_ripeAt ⟨Nat.le_of_ble_eq_true rfl, Nat.le_of_ble_eq_true rfl⟩ (m_ripeAt G I hb hl) rfl rfl o335 (by decide) rfl (kk := ?_)
      refine go_top (y := (cIf (rpF (gi 336) b ≤ gi 336 5) (gi 336 5) (rpF (gi 336) b))) (cIf_f c_29).symm ?_
      refine go_istore 48 dX9_soonest_46 rfl (by decide) (st_s (st_s (st_s (st_s st_0)))) ?_
      refine go_aload_n 49 dX9_soonest_48 rfl rfl ls_0 ?_
      refine go_iload_n 50 dX9_soonest_49 rfl rfl (ls_s ls_0) ?_
      refine go_iconst 51 (v := 3) dX9_soonest_50 rfl (by decide) ?_
      refine go_VI (M' := mX9_of) 54 dX9_soonest_51 rfl w_791 okX9_of ⟨Nat.le_of_ble_eq_true rfl, Nat.le_of_ble_eq_true rfl⟩ (m_of G gi (j := 145 + 9 * b + 3) rfl (by omega)) rfl rfl o335 (by decide) rfl (kk := ?_)
      refine go_top (y := (nI (bS (gi 336) b))) i.2.1.1 ?_
      refine go_iconst 55 (v := 1) dX9_soonest_54 rfl (by decide) ?_
      refine go_iadd 56 dX9_soonest_55 rfl ?_
      refine go_top (y := (nI (bS (gi 336) b + 1))) (nI_1 _) ?_
      refine go_istore 58 dX9_soonest_56 rfl (by decide) (st_s (st_s (st_s (st_s (st_s st_0))))) ?_
      rw [fSoonest, cIf_f (c := ¬ isBat (gi 336) (nI b)) (fun z => z (isBat_n hb hl)), iN_n (by omega)]
      exact lm_soonest G I hr4 b _ _ _ _ (by have := i.2.1.2; omega)
    · refine go_aload_n 33 dX9_soonest_32 rfl rfl ls_0 ?_
      refine gp_getR 36 dX9_soonest_33 rfl f_X9_7 rfl o335 rfl ?_
      refine go_iconst 37 (v := 5) dX9_soonest_36 rfl (by decide) ?_
      refine gp_ialdN 38 (i := 5) dX9_soonest_37 rfl a336 rfl (by decide) (by decide) ?_
      refine go_goto 46 dX9_soonest_38 (by decide) ?_
      refine go_top (y := (cIf (rpF (gi 336) b ≤ gi 336 5) (gi 336 5) (rpF (gi 336) b))) (cIf_t c_29).symm ?_
      refine go_istore 48 dX9_soonest_46 rfl (by decide) (st_s (st_s (st_s (st_s st_0)))) ?_
      refine go_aload_n 49 dX9_soonest_48 rfl rfl ls_0 ?_
      refine go_iload_n 50 dX9_soonest_49 rfl rfl (ls_s ls_0) ?_
      refine go_iconst 51 (v := 3) dX9_soonest_50 rfl (by decide) ?_
      refine go_VI (M' := mX9_of) 54 dX9_soonest_51 rfl w_791 okX9_of ⟨Nat.le_of_ble_eq_true rfl, Nat.le_of_ble_eq_true rfl⟩ (m_of G gi (j := 145 + 9 * b + 3) rfl (by omega)) rfl rfl o335 (by decide) rfl (kk := ?_)
      refine go_top (y := (nI (bS (gi 336) b))) i.2.1.1 ?_
      refine go_iconst 55 (v := 1) dX9_soonest_54 rfl (by decide) ?_
      refine go_iadd 56 dX9_soonest_55 rfl ?_
      refine go_top (y := (nI (bS (gi 336) b + 1))) (nI_1 _) ?_
      refine go_istore 58 dX9_soonest_56 rfl (by decide) (st_s (st_s (st_s (st_s (st_s st_0))))) ?_
      rw [fSoonest, cIf_f (c := ¬ isBat (gi 336) (nI b)) (fun z => z (isBat_n hb hl)), iN_n (by omega)]
      exact lm_soonest G I hr4 b _ _ _ _ (by have := i.2.1.2; omega)
  · refine go_iconst 9 (v := (-1)) dX9_soonest_8 rfl (by decide) ?_
    exact go_ret_i dX9_soonest_9 rfl rfl rfl (pI_of (by rw [fSoonest, cIf_t c_5]) rfl)
def qkM (x y : Int32) (s : Option (Nat × Int32)) : Prop := (s = none ∧ x = -4 ∧ y = -4) ∨ ∃ q : Nat × Int32, s = some q ∧ x = nI q.1 ∧ y = q.2 ∧ q.1 < 6
theorem qk_y {A : AA} {b v n : Nat} {s : Option (Nat × Int32)} (h : ¬ ltF A b v < 0 ∧ ∀ q, s = some q → mtF A b v (iN (ltF A b v)) < q.2) : qkF A b v (n + 1) s = qkF A b (v + 1) n (some (v, mtF A b v (iN (ltF A b v)))) := by rw [qkF, cIf_t h]
theorem qk_n {A : AA} {b v n : Nat} {s : Option (Nat × Int32)} (h : ¬ (¬ ltF A b v < 0 ∧ ∀ q, s = some q → mtF A b v (iN (ltF A b v)) < q.2)) : qkF A b v (n + 1) s = qkF A b (v + 1) n s := by rw [qkF, cIf_f h]
def qkA (w : Int32) (s : Option (Nat × Int32)) : Int32 := match s with
  | none => -4
  | some q => if w = 0 then nI q.1 else q.2
theorem fQ_y {A : AA} {b : Nat} {w : Int32} (hb : b < 6) (hl : live A b) (hw : inR w 0 1) : fQuickest A (nI b) w = qkA w (qkF A b 0 (nV A) none) := by
  rcases hs : qkF A b 0 (nV A) none with _ | q
  · rw [qO_n hb hl hw hs]; rfl
  · rw [qO_s hb hl hw hs]
    show cIf (w = 0) (nI q.1) q.2 = if w = 0 then nI q.1 else q.2
    by_cases h : w = 0
    · rw [cIf_t h, if_pos h]
    · rw [cIf_f h, if_neg h]
theorem qkA_0 {w x y : Int32} {s : Option (Nat × Int32)} (h : qkM x y s) (hw : w = 0) : x = qkA w s := by
  rcases h with ⟨rfl, rfl, rfl⟩ | ⟨q, rfl, rfl, rfl, -⟩
  · rfl
  · show nI q.1 = if w = 0 then nI q.1 else q.2
    rw [if_pos hw]
theorem qkA_1 {w x y : Int32} {s : Option (Nat × Int32)} (h : qkM x y s) (hw : ¬ w = 0) : y = qkA w s := by
  rcases h with ⟨rfl, rfl, rfl⟩ | ⟨q, rfl, rfl, rfl, -⟩
  · rfl
  · show q.2 = if w = 0 then nI q.1 else q.2
    rw [if_neg hw]
set_option maxHeartbeats 4000000 in
set_option maxRecDepth 100000 in
theorem lm_quickest (G : BcG) {gi : GI} {N : Nat} (I : Inv N (gi 336)) {b : Nat} (hb : b < 6) (hl : live (gi 336) b) (w : Int32) : ∀ (n i : Nat) (x y : Int32) (s : Option (Nat × Int32)), i + n = nV (gi 336) → (qkM x y s) → BGo G mX9_quickest (KM G mX9_quickest 341 (pI (qkA w (qkF (gi 336) b i n s)) (hp gi))) (hp gi) 0 0 29 [some (.ref (G.1 + 335)), some (.int (nI b)), some (.int w), some (.int x), some (.int y), some (.int (nI i)), none, none, none] [] := by
  intro n
  induction n with
  | zero =>
    intro i x y s hn hq
    refine go_iload 31 dX9_quickest_29 rfl (ls_s (ls_s (ls_s (ls_s (ls_s ls_0))))) ?_
    refine go_aload_n 32 dX9_quickest_31 rfl rfl ls_0 ?_
    refine gp_getR 35 dX9_quickest_32 rfl f_X9_7 rfl o335 rfl ?_
    refine go_iconst 36 (v := 3) dX9_quickest_35 rfl (by decide) ?_
    refine gp_ialdN 37 (i := 3) dX9_quickest_36 rfl a336 rfl (by decide) (by decide) ?_
    refine go_top (y := (nI (nV (gi 336)))) I.eV ?_
    refine go_icmp_ge 124 40 dX9_quickest_37 (by decide) rfl (fun c_37 => ?_) (fun c_37 => absurd (show nI (nV (gi 336)) ≤ nI i by rw [show i = nV (gi 336) by omega]; exact Int32.le_refl _) c_37)
    refine go_iload_n 125 dX9_quickest_124 rfl rfl (ls_s (ls_s ls_0)) ?_
    refine go_if_ne 132 128 dX9_quickest_125 (by decide) rfl (fun c_125 => ?_) (fun c_125 => ?_)
    · refine go_iload 134 dX9_quickest_132 rfl (ls_s (ls_s (ls_s (ls_s ls_0)))) ?_
      exact go_ret_i dX9_quickest_134 rfl rfl rfl (pI_of (qkA_1 hq c_125) rfl)
    · refine go_iload_n 129 dX9_quickest_128 rfl rfl (ls_s (ls_s (ls_s ls_0))) ?_
      refine go_goto 134 dX9_quickest_129 (by decide) ?_
      exact go_ret_i dX9_quickest_134 rfl rfl rfl (pI_of (qkA_0 hq c_125) rfl)
  | succ n ih =>
    intro i x y s hn hq
    have hv6 := I.nV6
    have hiv : i < nV (gi 336) := by omega
    have hi6 : i < 6 := by omega
    refine go_iload 31 dX9_quickest_29 rfl (ls_s (ls_s (ls_s (ls_s (ls_s ls_0))))) ?_
    refine go_aload_n 32 dX9_quickest_31 rfl rfl ls_0 ?_
    refine gp_getR 35 dX9_quickest_32 rfl f_X9_7 rfl o335 rfl ?_
    refine go_iconst 36 (v := 3) dX9_quickest_35 rfl (by decide) ?_
    refine gp_ialdN 37 (i := 3) dX9_quickest_36 rfl a336 rfl (by decide) (by decide) ?_
    refine go_top (y := (nI (nV (gi 336)))) I.eV ?_
    refine go_icmp_ge 124 40 dX9_quickest_37 (by decide) rfl (fun c_37 => absurd c_37 (nI_ge hiv (by omega))) (fun c_37 => ?_)
    rcases hq with ⟨rfl, rfl, rfl⟩ | ⟨q, rfl, rfl, rfl, hq6⟩
    · refine go_aload_n 41 dX9_quickest_40 rfl rfl ls_0 ?_
      refine go_iload_n 42 dX9_quickest_41 rfl rfl (ls_s ls_0) ?_
      refine go_iload 44 dX9_quickest_42 rfl (ls_s (ls_s (ls_s (ls_s (ls_s ls_0))))) ?_
      refine go_VI (M' := mX9_lineTo) 47 dX9_quickest_44 rfl w_862 okX9_lineTo ⟨Nat.le_of_ble_eq_true rfl, Nat.le_of_ble_eq_true rfl⟩ (m_lineTo G I hb hl (v := i) hi6) rfl rfl o335 (by decide) rfl (kk := ?_)
      rcases lt1_F I b i with ⟨hlt, -⟩ | ⟨k, hk, hlt, -, hc⟩
      · refine go_istore 49 dX9_quickest_47 rfl (by decide) (st_s (st_s (st_s (st_s (st_s (st_s st_0)))))) ?_
        refine go_iload 51 dX9_quickest_49 rfl (ls_s (ls_s (ls_s (ls_s (ls_s (ls_s ls_0)))))) ?_
        refine go_if_ge 58 54 dX9_quickest_51 (by decide) rfl (fun c_51 => absurd c_51 (Int32.not_le.mpr hlt)) (fun c_51 => ?_)
        refine go_iconst 55 (v := 0) dX9_quickest_54 rfl (by decide) ?_
        refine go_goto 67 dX9_quickest_55 (by decide) ?_
        refine go_istore 69 dX9_quickest_67 rfl (by decide) (st_s (st_s (st_s (st_s (st_s (st_s (st_s st_0))))))) ?_
        refine go_iload 71 dX9_quickest_69 rfl (ls_s (ls_s (ls_s (ls_s (ls_s (ls_s ls_0)))))) ?_
        refine go_if_lt 89 74 dX9_quickest_71 (by decide) rfl (fun c_71 => ?_) (fun c_71 => absurd hlt c_71)
        refine go_iconst 90 (v := 0) dX9_quickest_89 rfl (by decide) ?_
        refine go_istore 92 dX9_quickest_90 rfl (by decide) (st_s (st_s (st_s (st_s (st_s (st_s (st_s (st_s st_0)))))))) ?_
        refine go_iload 94 dX9_quickest_92 rfl (ls_s (ls_s (ls_s (ls_s (ls_s (ls_s (ls_s (ls_s ls_0)))))))) ?_
        refine go_if_eq 102 97 dX9_quickest_94 (by decide) rfl (fun c_94 => ?_) (fun c_94 => absurd c_94 (by decide))
        refine go_iload_n 103 dX9_quickest_102 rfl rfl (ls_s (ls_s (ls_s ls_0))) ?_
        refine go_istore_n 104 dX9_quickest_103 rfl rfl (by decide) (st_s (st_s (st_s st_0))) ?_
        refine go_iload 106 dX9_quickest_104 rfl (ls_s (ls_s (ls_s (ls_s (ls_s (ls_s (ls_s (ls_s ls_0)))))))) ?_
        refine go_if_eq 114 109 dX9_quickest_106 (by decide) rfl (fun c_106 => ?_) (fun c_106 => absurd c_106 (by decide))
        refine go_iload 116 dX9_quickest_114 rfl (ls_s (ls_s (ls_s (ls_s ls_0)))) ?_
        refine go_istore 118 dX9_quickest_116 rfl (by decide) (st_s (st_s (st_s (st_s st_0)))) ?_
        refine go_iinc 121 (v := (nI (i + 1))) dX9_quickest_118 rfl (ls_s (ls_s (ls_s (ls_s (ls_s ls_0))))) (by exact nI_1 i) (by decide) (st_s (st_s (st_s (st_s (st_s st_0))))) ?_
        refine go_goto 29 dX9_quickest_121 (by decide) ?_
        refine go_less (le_k (le_k (le_k (le_k (le_k (le_k (le_n (le_n (le_n le_0))))))))) ?_
        rw [qk_n (fun z => z.1 hlt)]
        exact ih (i + 1) _ _ _ (by omega) (Or.inl ⟨rfl, rfl, rfl⟩)
      · refine go_top (y := (nI k)) hlt ?_
        have hk3 := I.nL3
        have hlt0 : ¬ ltF (gi 336) b i < 0 := by rw [hlt]; exact nI_pos (by omega)
        have hik : iN (ltF (gi 336) b i) = k := by rw [hlt, iN_n (by omega)]
        refine go_istore 49 dX9_quickest_47 rfl (by decide) (st_s (st_s (st_s (st_s (st_s (st_s st_0)))))) ?_
        refine go_iload 51 dX9_quickest_49 rfl (ls_s (ls_s (ls_s (ls_s (ls_s (ls_s ls_0)))))) ?_
        refine go_if_ge 58 54 dX9_quickest_51 (by decide) rfl (fun c_51 => ?_) (fun c_51 => absurd (Int32.not_lt.mp (nI_pos (by omega))) c_51)
        refine go_aload_n 59 dX9_quickest_58 rfl rfl ls_0 ?_
        refine go_iload_n 60 dX9_quickest_59 rfl rfl (ls_s ls_0) ?_
        refine go_iload 62 dX9_quickest_60 rfl (ls_s (ls_s (ls_s (ls_s (ls_s ls_0))))) ?_
        refine go_iload 64 dX9_quickest_62 rfl (ls_s (ls_s (ls_s (ls_s (ls_s (ls_s ls_0)))))) ?_
        refine go_VI (M' := mX9_minutesTo) 67 dX9_quickest_64 rfl w_882 okX9_minutesTo ⟨Nat.le_of_ble_eq_true rfl, Nat.le_of_ble_eq_true rfl⟩ (m_minutesTo G I hb hl (v := i) hi6 (k := k) hk) rfl rfl o335 (by decide) rfl (kk := ?_)
        refine go_istore 69 dX9_quickest_67 rfl (by decide) (st_s (st_s (st_s (st_s (st_s (st_s (st_s st_0))))))) ?_
        refine go_iload 71 dX9_quickest_69 rfl (ls_s (ls_s (ls_s (ls_s (ls_s (ls_s ls_0)))))) ?_
        refine go_if_lt 89 74 dX9_quickest_71 (by decide) rfl (fun c_71 => absurd c_71 (nI_pos (by omega))) (fun c_71 => ?_)
        refine go_iload_n 75 dX9_quickest_74 rfl rfl (ls_s (ls_s (ls_s ls_0))) ?_
        refine go_if_lt 85 78 dX9_quickest_75 (by decide) rfl (fun c_75 => ?_) (fun c_75 => absurd c_75 (by decide))
        refine go_iconst 86 (v := 1) dX9_quickest_85 rfl (by decide) ?_
        refine go_goto 90 dX9_quickest_86 (by decide) ?_
        refine go_istore 92 dX9_quickest_90 rfl (by decide) (st_s (st_s (st_s (st_s (st_s (st_s (st_s (st_s st_0)))))))) ?_
        refine go_iload 94 dX9_quickest_92 rfl (ls_s (ls_s (ls_s (ls_s (ls_s (ls_s (ls_s (ls_s ls_0)))))))) ?_
        refine go_if_eq 102 97 dX9_quickest_94 (by decide) rfl (fun c_94 => absurd c_94 (by decide)) (fun c_94 => ?_)
        refine go_iload 99 dX9_quickest_97 rfl (ls_s (ls_s (ls_s (ls_s (ls_s ls_0))))) ?_
        refine go_goto 103 dX9_quickest_99 (by decide) ?_
        refine go_istore_n 104 dX9_quickest_103 rfl rfl (by decide) (st_s (st_s (st_s st_0))) ?_
        refine go_iload 106 dX9_quickest_104 rfl (ls_s (ls_s (ls_s (ls_s (ls_s (ls_s (ls_s (ls_s ls_0)))))))) ?_
        refine go_if_eq 114 109 dX9_quickest_106 (by decide) rfl (fun c_106 => absurd c_106 (by decide)) (fun c_106 => ?_)
        refine go_iload 111 dX9_quickest_109 rfl (ls_s (ls_s (ls_s (ls_s (ls_s (ls_s (ls_s ls_0))))))) ?_
        refine go_goto 116 dX9_quickest_111 (by decide) ?_
        refine go_istore 118 dX9_quickest_116 rfl (by decide) (st_s (st_s (st_s (st_s st_0)))) ?_
        refine go_iinc 121 (v := (nI (i + 1))) dX9_quickest_118 rfl (ls_s (ls_s (ls_s (ls_s (ls_s ls_0))))) (by exact nI_1 i) (by decide) (st_s (st_s (st_s (st_s (st_s st_0))))) ?_
        refine go_goto 29 dX9_quickest_121 (by decide) ?_
        refine go_less (le_k (le_k (le_k (le_k (le_k (le_k (le_n (le_n (le_n le_0))))))))) ?_
        rw [qk_y ⟨hlt0, fun q h => by cases h⟩]
        exact ih (i + 1) _ _ _ (by omega) (Or.inr ⟨_, rfl, rfl, by rw [hik], hi6⟩)
    · refine go_aload_n 41 dX9_quickest_40 rfl rfl ls_0 ?_
      refine go_iload_n 42 dX9_quickest_41 rfl rfl (ls_s ls_0) ?_
      refine go_iload 44 dX9_quickest_42 rfl (ls_s (ls_s (ls_s (ls_s (ls_s ls_0))))) ?_
      refine go_VI (M' := mX9_lineTo) 47 dX9_quickest_44 rfl w_862 okX9_lineTo ⟨Nat.le_of_ble_eq_true rfl, Nat.le_of_ble_eq_true rfl⟩ (m_lineTo G I hb hl (v := i) hi6) rfl rfl o335 (by decide) rfl (kk := ?_)
      rcases lt1_F I b i with ⟨hlt, -⟩ | ⟨k, hk, hlt, -, hc⟩
      · refine go_istore 49 dX9_quickest_47 rfl (by decide) (st_s (st_s (st_s (st_s (st_s (st_s st_0)))))) ?_
        refine go_iload 51 dX9_quickest_49 rfl (ls_s (ls_s (ls_s (ls_s (ls_s (ls_s ls_0)))))) ?_
        refine go_if_ge 58 54 dX9_quickest_51 (by decide) rfl (fun c_51 => absurd c_51 (Int32.not_le.mpr hlt)) (fun c_51 => ?_)
        refine go_iconst 55 (v := 0) dX9_quickest_54 rfl (by decide) ?_
        refine go_goto 67 dX9_quickest_55 (by decide) ?_
        refine go_istore 69 dX9_quickest_67 rfl (by decide) (st_s (st_s (st_s (st_s (st_s (st_s (st_s st_0))))))) ?_
        refine go_iload 71 dX9_quickest_69 rfl (ls_s (ls_s (ls_s (ls_s (ls_s (ls_s ls_0)))))) ?_
        refine go_if_lt 89 74 dX9_quickest_71 (by decide) rfl (fun c_71 => ?_) (fun c_71 => absurd hlt c_71)
        refine go_iconst 90 (v := 0) dX9_quickest_89 rfl (by decide) ?_
        refine go_istore 92 dX9_quickest_90 rfl (by decide) (st_s (st_s (st_s (st_s (st_s (st_s (st_s (st_s st_0)))))))) ?_
        refine go_iload 94 dX9_quickest_92 rfl (ls_s (ls_s (ls_s (ls_s (ls_s (ls_s (ls_s (ls_s ls_0)))))))) ?_
        refine go_if_eq 102 97 dX9_quickest_94 (by decide) rfl (fun c_94 => ?_) (fun c_94 => absurd c_94 (by decide))
        refine go_iload_n 103 dX9_quickest_102 rfl rfl (ls_s (ls_s (ls_s ls_0))) ?_
        refine go_istore_n 104 dX9_quickest_103 rfl rfl (by decide) (st_s (st_s (st_s st_0))) ?_
        refine go_iload 106 dX9_quickest_104 rfl (ls_s (ls_s (ls_s (ls_s (ls_s (ls_s (ls_s (ls_s ls_0)))))))) ?_
        refine go_if_eq 114 109 dX9_quickest_106 (by decide) rfl (fun c_106 => ?_) (fun c_106 => absurd c_106 (by decide))
        refine go_iload 116 dX9_quickest_114 rfl (ls_s (ls_s (ls_s (ls_s ls_0)))) ?_
        refine go_istore 118 dX9_quickest_116 rfl (by decide) (st_s (st_s (st_s (st_s st_0)))) ?_
        refine go_iinc 121 (v := (nI (i + 1))) dX9_quickest_118 rfl (ls_s (ls_s (ls_s (ls_s (ls_s ls_0))))) (by exact nI_1 i) (by decide) (st_s (st_s (st_s (st_s (st_s st_0))))) ?_
        refine go_goto 29 dX9_quickest_121 (by decide) ?_
        refine go_less (le_k (le_k (le_k (le_k (le_k (le_k (le_n (le_n (le_n le_0))))))))) ?_
        rw [qk_n (fun z => z.1 hlt)]
        exact ih (i + 1) _ _ _ (by omega) (Or.inr ⟨q, rfl, rfl, rfl, hq6⟩)
      · refine go_top (y := (nI k)) hlt ?_
        have hk3 := I.nL3
        have hlt0 : ¬ ltF (gi 336) b i < 0 := by rw [hlt]; exact nI_pos (by omega)
        have hik : iN (ltF (gi 336) b i) = k := by rw [hlt, iN_n (by omega)]
        refine go_istore 49 dX9_quickest_47 rfl (by decide) (st_s (st_s (st_s (st_s (st_s (st_s st_0)))))) ?_
        refine go_iload 51 dX9_quickest_49 rfl (ls_s (ls_s (ls_s (ls_s (ls_s (ls_s ls_0)))))) ?_
        refine go_if_ge 58 54 dX9_quickest_51 (by decide) rfl (fun c_51 => ?_) (fun c_51 => absurd (Int32.not_lt.mp (nI_pos (by omega))) c_51)
        refine go_aload_n 59 dX9_quickest_58 rfl rfl ls_0 ?_
        refine go_iload_n 60 dX9_quickest_59 rfl rfl (ls_s ls_0) ?_
        refine go_iload 62 dX9_quickest_60 rfl (ls_s (ls_s (ls_s (ls_s (ls_s ls_0))))) ?_
        refine go_iload 64 dX9_quickest_62 rfl (ls_s (ls_s (ls_s (ls_s (ls_s (ls_s ls_0)))))) ?_
        refine go_VI (M' := mX9_minutesTo) 67 dX9_quickest_64 rfl w_882 okX9_minutesTo ⟨Nat.le_of_ble_eq_true rfl, Nat.le_of_ble_eq_true rfl⟩ (m_minutesTo G I hb hl (v := i) hi6 (k := k) hk) rfl rfl o335 (by decide) rfl (kk := ?_)
        refine go_istore 69 dX9_quickest_67 rfl (by decide) (st_s (st_s (st_s (st_s (st_s (st_s (st_s st_0))))))) ?_
        refine go_iload 71 dX9_quickest_69 rfl (ls_s (ls_s (ls_s (ls_s (ls_s (ls_s ls_0)))))) ?_
        refine go_if_lt 89 74 dX9_quickest_71 (by decide) rfl (fun c_71 => absurd c_71 (nI_pos (by omega))) (fun c_71 => ?_)
        refine go_iload_n 75 dX9_quickest_74 rfl rfl (ls_s (ls_s (ls_s ls_0))) ?_
        refine go_if_lt 85 78 dX9_quickest_75 (by decide) rfl (fun c_75 => absurd c_75 (nI_pos (by omega))) (fun c_75 => ?_)
        refine go_iload 80 dX9_quickest_78 rfl (ls_s (ls_s (ls_s (ls_s (ls_s (ls_s (ls_s ls_0))))))) ?_
        refine go_iload 82 dX9_quickest_80 rfl (ls_s (ls_s (ls_s (ls_s ls_0)))) ?_
        refine go_icmp_ge 89 85 dX9_quickest_82 (by decide) rfl (fun c_82 => ?_) (fun c_82 => ?_)
        · refine go_iconst 90 (v := 0) dX9_quickest_89 rfl (by decide) ?_
          refine go_istore 92 dX9_quickest_90 rfl (by decide) (st_s (st_s (st_s (st_s (st_s (st_s (st_s (st_s st_0)))))))) ?_
          refine go_iload 94 dX9_quickest_92 rfl (ls_s (ls_s (ls_s (ls_s (ls_s (ls_s (ls_s (ls_s ls_0)))))))) ?_
          refine go_if_eq 102 97 dX9_quickest_94 (by decide) rfl (fun c_94 => ?_) (fun c_94 => absurd c_94 (by decide))
          refine go_iload_n 103 dX9_quickest_102 rfl rfl (ls_s (ls_s (ls_s ls_0))) ?_
          refine go_istore_n 104 dX9_quickest_103 rfl rfl (by decide) (st_s (st_s (st_s st_0))) ?_
          refine go_iload 106 dX9_quickest_104 rfl (ls_s (ls_s (ls_s (ls_s (ls_s (ls_s (ls_s (ls_s ls_0)))))))) ?_
          refine go_if_eq 114 109 dX9_quickest_106 (by decide) rfl (fun c_106 => ?_) (fun c_106 => absurd c_106 (by decide))
          refine go_iload 116 dX9_quickest_114 rfl (ls_s (ls_s (ls_s (ls_s ls_0)))) ?_
          refine go_istore 118 dX9_quickest_116 rfl (by decide) (st_s (st_s (st_s (st_s st_0)))) ?_
          refine go_iinc 121 (v := (nI (i + 1))) dX9_quickest_118 rfl (ls_s (ls_s (ls_s (ls_s (ls_s ls_0))))) (by exact nI_1 i) (by decide) (st_s (st_s (st_s (st_s (st_s st_0))))) ?_
          refine go_goto 29 dX9_quickest_121 (by decide) ?_
          refine go_less (le_k (le_k (le_k (le_k (le_k (le_k (le_n (le_n (le_n le_0))))))))) ?_
          rw [qk_n (fun z => absurd (z.2 q rfl) (by rw [hik]; exact Int32.not_lt.mpr c_82))]
          exact ih (i + 1) _ _ _ (by omega) (Or.inr ⟨q, rfl, rfl, rfl, hq6⟩)
        · refine go_iconst 86 (v := 1) dX9_quickest_85 rfl (by decide) ?_
          refine go_goto 90 dX9_quickest_86 (by decide) ?_
          refine go_istore 92 dX9_quickest_90 rfl (by decide) (st_s (st_s (st_s (st_s (st_s (st_s (st_s (st_s st_0)))))))) ?_
          refine go_iload 94 dX9_quickest_92 rfl (ls_s (ls_s (ls_s (ls_s (ls_s (ls_s (ls_s (ls_s ls_0)))))))) ?_
          refine go_if_eq 102 97 dX9_quickest_94 (by decide) rfl (fun c_94 => absurd c_94 (by decide)) (fun c_94 => ?_)
          refine go_iload 99 dX9_quickest_97 rfl (ls_s (ls_s (ls_s (ls_s (ls_s ls_0))))) ?_
          refine go_goto 103 dX9_quickest_99 (by decide) ?_
          refine go_istore_n 104 dX9_quickest_103 rfl rfl (by decide) (st_s (st_s (st_s st_0))) ?_
          refine go_iload 106 dX9_quickest_104 rfl (ls_s (ls_s (ls_s (ls_s (ls_s (ls_s (ls_s (ls_s ls_0)))))))) ?_
          refine go_if_eq 114 109 dX9_quickest_106 (by decide) rfl (fun c_106 => absurd c_106 (by decide)) (fun c_106 => ?_)
          refine go_iload 111 dX9_quickest_109 rfl (ls_s (ls_s (ls_s (ls_s (ls_s (ls_s (ls_s ls_0))))))) ?_
          refine go_goto 116 dX9_quickest_111 (by decide) ?_
          refine go_istore 118 dX9_quickest_116 rfl (by decide) (st_s (st_s (st_s (st_s st_0)))) ?_
          refine go_iinc 121 (v := (nI (i + 1))) dX9_quickest_118 rfl (ls_s (ls_s (ls_s (ls_s (ls_s ls_0))))) (by exact nI_1 i) (by decide) (st_s (st_s (st_s (st_s (st_s st_0))))) ?_
          refine go_goto 29 dX9_quickest_121 (by decide) ?_
          refine go_less (le_k (le_k (le_k (le_k (le_k (le_k (le_n (le_n (le_n le_0))))))))) ?_
          rw [qk_y ⟨hlt0, fun p h => by cases h; rw [hik]; exact Int32.not_le.mp c_82⟩]
          exact ih (i + 1) _ _ _ (by omega) (Or.inr ⟨_, rfl, rfl, by rw [hik], hi6⟩)
set_option maxHeartbeats 4000000 in
set_option maxRecDepth 100000 in
theorem mx_quickest (G : BcG) {gi : GI} {N : Nat} (I : Inv N (gi 336)) (x w : Int32) : Ct G mX9_quickest [.ref (G.1 + 335), .int x, .int w] (hp gi) (pI (fQuickest (gi 336) x w) (hp gi)) := by
  refine ct_of [some (.ref (G.1 + 335)), some (.int x), some (.int w), none, none, none, none, none, none] w_10 (by decide) rfl (Nat.le_of_ble_eq_true rfl) rfl ?_
  refine go_aload_n 1 dX9_quickest_0 rfl rfl ls_0 ?_
  refine go_iload_n 2 dX9_quickest_1 rfl rfl (ls_s ls_0) ?_
  refine go_VI (M' := mX9_isBatch) 5 dX9_quickest_2 rfl w_787 okX9_isBatch ⟨Nat.le_of_ble_eq_true rfl, Nat.le_of_ble_eq_true rfl⟩ (m_isBatch G gi _) rfl rfl o335 (by decide) rfl (kk := ?_)
  refine go_ifeq_b 17 8 dX9_quickest_5 (by decide) rfl (fun c_5 => ?_) (fun c_5 => ?_)
  · refine go_iconst 18 (v := (-1)) dX9_quickest_17 rfl (by decide) ?_
    exact go_ret_i dX9_quickest_18 rfl rfl rfl (pI_of (qO_1 (fun z => c_5 z.1)).symm rfl)
  · refine go_iload_n 9 dX9_quickest_8 rfl rfl (ls_s (ls_s ls_0)) ?_
    refine go_iconst 10 (v := 0) dX9_quickest_9 rfl (by decide) ?_
    refine go_iconst 11 (v := 1) dX9_quickest_10 rfl (by decide) ?_
    refine go_SI (M' := mX9_in) 14 dX9_quickest_11 rfl w_768 okX9_in ⟨Nat.le_of_ble_eq_true rfl, Nat.le_of_ble_eq_true rfl⟩ (m_in G gi _ _ _) rfl rfl (kk := ?_)
    refine go_ifne_b 19 17 dX9_quickest_14 (by decide) rfl (fun c_14 => ?_) (fun c_14 => ?_)
    · obtain ⟨b, hb, rfl, hl⟩ := c_5
      have i := I.b1 hb hl
      have hr4 := I.bR4 hb hl
      have hs4 := I.bS4 hb hl
      refine go_bipush 21 (v := (-4)) dX9_quickest_19 rfl (by decide) ?_
      refine go_istore_n 22 dX9_quickest_21 rfl rfl (by decide) (st_s (st_s (st_s st_0))) ?_
      refine go_bipush 24 (v := (-4)) dX9_quickest_22 rfl (by decide) ?_
      refine go_istore 26 dX9_quickest_24 rfl (by decide) (st_s (st_s (st_s (st_s st_0)))) ?_
      refine go_iconst 27 (v := 0) dX9_quickest_26 rfl (by decide) ?_
      refine go_istore 29 dX9_quickest_27 rfl (by decide) (st_s (st_s (st_s (st_s (st_s st_0))))) ?_
      rw [fQ_y hb hl c_14]
      exact lm_quickest G I hb hl w (nV (gi 336)) 0 _ _ _ (by omega) (Or.inl ⟨rfl, rfl, rfl⟩)
    · refine go_iconst 18 (v := (-1)) dX9_quickest_17 rfl (by decide) ?_
      exact go_ret_i dX9_quickest_18 rfl rfl rfl (pI_of (qO_1 (fun z => c_14 z.2)).symm rfl)
