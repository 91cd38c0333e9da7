/-! THE REFERENCE: its changes -/
def pM (g0 : GI) (H : List AA) (R : RA) : Option Value → BcH → Prop := fun v h' => v = some (.int R.1) ∧ ∃ gi, h' = hp gi ∧ gi 336 = R.2 ∧ (∀ k, k ≠ 335 → k ≠ 336 → k ≠ 337 → gi k = g0 k) ∧ (∀ j, j ≠ 3 → gi 335 j = g0 335 j) ∧ pst g0 (g0 335 4) (if R.1 < 0 then H else (g0 336 :: H).take 4) gi
theorem pM_e {g0 : GI} {H : List AA} {R : RA} {x : Int32} (hF : R = (x, g0 336)) (hx : x < 0) (hP : g0 335 4 = 0 → PastR H g0) : pM g0 H R (some (.int x)) (hp g0) := by
  subst hF
  refine ⟨rfl, g0, rfl, rfl, fun _ _ _ _ => rfl, fun _ _ => rfl, fun _ => ⟨rfl, rfl⟩, fun z => ?_⟩
  rw [if_pos hx]
  exact hP z
theorem pM_m {g0 g1 g2 : GI} {H : List AA} {R : RA} {x : Int32} {A' : AA} (hF : R = (x, A')) (hx : ¬ x < 0) (o : OutN g0 g1) (p : pst g0 (g0 335 4) ((g0 336 :: H).take 4) g1) (e : g2 336 = A') (u : ∀ k, k ≠ 336 → g2 k = g1 k) : pM g0 H R (some (.int x)) (hp g2) := by
  subst hF
  refine ⟨rfl, g2, rfl, e, fun k h1 h2 h3 => (u k h2).trans (o.1 k h1 h3), fun j hj => by rw [u 335 (by decide)]; exact o.2 j hj, fun z => ?_, fun z => ?_⟩
  · rw [u 335 (by decide), u 337 (by decide)]; exact p.1 z
  · rw [if_neg hx]
    exact (p.2 z).same (by rw [u 335 (by decide)]) (u 337 (by decide))
theorem lim_lt {n c : Nat} (h : n ≤ c) (ne : ¬ nI n = nI c) : n < c := by
  rcases Nat.lt_or_ge n c with q | q
  · exact q
  · exact absurd (by rw [show n = c by omega]) ne
theorem ix92 (c a b d k : Nat) : nI c + nI a * nI b + nI 2 + nI d * nI k = nI (c + a * b + 2 + d * k) := by rw [pk_mul, pk_mul, nI_add, nI_add, nI_add]
theorem sh_n : ∀ n, n < 7 → ((1 : Int32) <<< (nI n &&& 31)) - 1 = nI (2 ^ n - 1) := by decide +kernel
theorem ln_in {n : Nat} (hn : n ≤ 6) {x : Int32} : (0 ≤ x ∧ x ≤ ((1 : Int32) <<< (nI n &&& 31)) - 1) ↔ ∃ s, s < 2 ^ n ∧ x = nI s := by
  rw [sh_n n (by omega)]
  have hp : 2 ^ n ≤ 64 := Nat.pow_le_pow_right (n := 2) (by omega) hn
  have hp0 : 0 < 2 ^ n := Nat.pow_pos (by omega)
  constructor
  · intro h
    obtain ⟨s, h1, h2⟩ := inR_n (c := 2 ^ n - 1) (by omega) h
    exact ⟨s, by omega, h2⟩
  · rintro ⟨s, h1, rfl⟩
    exact ⟨Int32.not_lt.mp (nI_pos (by omega)), nI_le (by omega) (by omega)⟩
set_option maxHeartbeats 4000000 in
set_option maxRecDepth 100000 in
theorem mo_recipe (G : BcG) {gi : GI} {N : Nat} (I : Inv N (gi 336)) {H : List AA} (hl4 : H.length ≤ 4) (hP : gi 335 4 = 0 → PastR H gi) (x : Int32) : Ct G mX9_recipe [.ref (G.1 + 335), .int x] (hp gi) (pM gi H (fRecipe (gi 336) x)) := by
  refine ct_of [some (.ref (G.1 + 335)), some (.int x), none] w_10 (by decide) rfl (Nat.le_of_ble_eq_true rfl) rfl ?_
  refine go_iload_n 1 dX9_recipe_0 rfl rfl (ls_s ls_0) ?_
  refine go_iconst 2 (v := 0) dX9_recipe_1 rfl (by decide) ?_
  refine go_iconst 3 (v := 3) dX9_recipe_2 rfl (by decide) ?_
  refine go_SI (M' := mX9_in) 6 dX9_recipe_3 rfl w_768 okX9_in ⟨Nat.le_of_ble_eq_true rfl, Nat.le_of_ble_eq_true rfl⟩ (m_in G gi _ _ _) rfl rfl (kk := ?_)
  refine go_ifne_b 11 9 dX9_recipe_6 (by decide) rfl (fun c_6 => ?_) (fun c_6 => ?_)
  · refine go_aload_n 12 dX9_recipe_11 rfl rfl ls_0 ?_
    refine gp_getR 15 dX9_recipe_12 rfl f_X9_7 rfl o335 rfl ?_
    refine go_iconst 16 (v := 2) dX9_recipe_15 rfl (by decide) ?_
    refine gp_ialdN 17 (i := 2) dX9_recipe_16 rfl a336 rfl (by decide) (by decide) ?_
    refine go_top (y := (nI (nR (gi 336)))) I.eR ?_
    refine go_istore_n 18 dX9_recipe_17 rfl rfl (by decide) (st_s (st_s st_0)) ?_
    refine go_iload_n 19 dX9_recipe_18 rfl rfl (ls_s (ls_s ls_0)) ?_
    refine go_iconst 20 (v := 4) dX9_recipe_19 rfl (by decide) ?_
    refine go_icmp_ne 26 23 dX9_recipe_20 (by decide) rfl (fun c_20 => ?_) (fun c_20 => ?_)
    · have hn : nR (gi 336) < 4 := lim_lt I.nR4 c_20
      refine go_aload_n 27 dX9_recipe_26 rfl rfl ls_0 ?_
      refine go_V (M' := mX9_changes) 30 dX9_recipe_27 rfl w_771 okX9_changes ⟨Nat.le_of_ble_eq_true rfl, Nat.le_of_ble_eq_true rfl⟩ rfl rfl (Nat.le_of_ble_eq_true rfl) (Nat.le_of_ble_eq_true rfl) (m_changes G hl4 hP) rfl rfl (Nat.le_of_ble_eq_true rfl) o335 (by decide) rfl (fun v_27 h_27 p_27 => ?_)
      obtain ⟨rfl, g1, rfl, o, p⟩ := p_27
      have e1 : g1 336 = gi 336 := o.1 336 (by decide) (by decide)
      have e1' : ∀ j, g1 336 j = gi 336 j := fun j => congrFun e1 j
      have I1 : Inv N (g1 336) := by rw [e1]; exact I
      refine go_aload_n 31 dX9_recipe_30 rfl rfl ls_0 ?_
      refine gp_getR 34 dX9_recipe_31 rfl f_X9_7 rfl o335 rfl ?_
      refine go_bipush 36 (v := 31) dX9_recipe_34 rfl (by decide) ?_
      refine go_bipush 38 (v := 18) dX9_recipe_36 rfl (by decide) ?_
      refine go_iload_n 39 dX9_recipe_38 rfl rfl (ls_s (ls_s ls_0)) ?_
      refine go_imul 40 dX9_recipe_39 rfl ?_
      refine go_iadd 41 dX9_recipe_40 rfl ?_
      refine go_iload_n 42 dX9_recipe_41 rfl rfl (ls_s ls_0) ?_
      refine gp_iastN 43 (i := (31 + 18 * nR (gi 336))) dX9_recipe_42 rfl a336 (ix90 31 18 _) (by omega) (by decide) ?_
      refine go_aload_n 44 dX9_recipe_43 rfl rfl ls_0 ?_
      refine gp_getR 47 dX9_recipe_44 rfl f_X9_7 rfl o335 rfl ?_
      refine go_bipush 49 (v := 31) dX9_recipe_47 rfl (by decide) ?_
      refine go_bipush 51 (v := 18) dX9_recipe_49 rfl (by decide) ?_
      refine go_iload_n 52 dX9_recipe_51 rfl rfl (ls_s (ls_s ls_0)) ?_
      refine go_imul 53 dX9_recipe_52 rfl ?_
      refine go_iadd 54 dX9_recipe_53 rfl ?_
      refine go_iconst 55 (v := 1) dX9_recipe_54 rfl (by decide) ?_
      refine go_iadd 56 dX9_recipe_55 rfl ?_
      refine go_iconst 57 (v := 0) dX9_recipe_56 rfl (by decide) ?_
      refine gp_iastN 58 (i := (31 + 18 * nR (gi 336) + 1)) dX9_recipe_57 rfl a336 (ix9 31 18 _ 1) (by omega) (by decide) ?_
      refine go_aload_n 59 dX9_recipe_58 rfl rfl ls_0 ?_
      refine gp_getR 62 dX9_recipe_59 rfl f_X9_7 rfl o335 rfl ?_
      refine go_iconst 63 (v := 2) dX9_recipe_62 rfl (by decide) ?_
      refine go_dup2 64 dX9_recipe_63 rfl rfl rfl ?_
      refine gp_ialdN 65 (i := 2) dX9_recipe_64 rfl a336 rfl (by decide) (by decide) ?_
      refine go_top (y := (nI (nR (gi 336)))) (by simp (disch := omega) only [wI_ne, wI_eq, e1']; exact I.eR) ?_
      refine go_iconst 66 (v := 1) dX9_recipe_65 rfl (by decide) ?_
      refine go_iadd 67 dX9_recipe_66 rfl ?_
      refine go_top (y := (nI (nR (gi 336) + 1))) (nI_1 _) ?_
      refine gp_iastN 68 (i := 2) dX9_recipe_67 rfl a336 rfl (by decide) (by decide) ?_
      refine go_iload_n 69 dX9_recipe_68 rfl rfl (ls_s (ls_s ls_0)) ?_
      exact go_ret_i dX9_recipe_69 rfl rfl rfl (pM_m (fRecipe_y I c_6 hn) (nI_pos (by omega)) o p (by simp only [g336, e1]) (fun k hk => by simp only [wI_row hk]))
    · refine go_bipush 25 (v := (-3)) dX9_recipe_23 rfl (by decide) ?_
      exact go_ret_i dX9_recipe_25 rfl rfl rfl (pM_e (fRecipe_3 c_6 (by rw [I.eR]; exact c_20)) (by decide) hP)
  · refine go_iconst 10 (v := (-1)) dX9_recipe_9 rfl (by decide) ?_
    exact go_ret_i dX9_recipe_10 rfl rfl rfl (pM_e (fRecipe_1 c_6) (by decide) hP)
set_option maxHeartbeats 4000000 in
set_option maxRecDepth 100000 in
theorem mo_stage (G : BcG) {gi : GI} {N : Nat} (I : Inv N (gi 336)) {H : List AA} (hl4 : H.length ≤ 4) (hP : gi 335 4 = 0 → PastR H gi) (x a b c d : Int32) : Ct G mX9_stage [.ref (G.1 + 335), .int x, .int a, .int b, .int c, .int d] (hp gi) (pM gi H (fStage (gi 336) x a b c d)) := by
  refine ct_of [some (.ref (G.1 + 335)), some (.int x), some (.int a), some (.int b), some (.int c), some (.int d), none, none] w_10 (by decide) rfl (Nat.le_of_ble_eq_true rfl) rfl ?_
  refine go_aload_n 1 dX9_stage_0 rfl rfl ls_0 ?_
  refine go_iload_n 2 dX9_stage_1 rfl rfl (ls_s ls_0) ?_
  refine go_VI (M' := mX9_isRecipe) 5 dX9_stage_2 rfl w_779 okX9_isRecipe ⟨Nat.le_of_ble_eq_true rfl, Nat.le_of_ble_eq_true rfl⟩ (m_isRecipe G I _) rfl rfl o335 (by decide) rfl (kk := ?_)
  refine go_ifeq_b 53 8 dX9_stage_5 (by decide) rfl (fun c_5 => ?_) (fun c_5 => ?_)
  · refine go_iconst 54 (v := (-1)) dX9_stage_53 rfl (by decide) ?_
    exact go_ret_i dX9_stage_54 rfl rfl rfl (pM_e (fStage_1 (fun z => c_5 z.1)) (by decide) hP)
  · refine go_iload_n 9 dX9_stage_8 rfl rfl (ls_s (ls_s ls_0)) ?_
    refine go_iconst 10 (v := 0) dX9_stage_9 rfl (by decide) ?_
    refine go_iconst 11 (v := 2) dX9_stage_10 rfl (by decide) ?_
    refine go_SI (M' := mX9_in) 14 dX9_stage_11 rfl w_768 okX9_in ⟨Nat.le_of_ble_eq_true rfl, Nat.le_of_ble_eq_true rfl⟩ (m_in G gi _ _ _) rfl rfl (kk := ?_)
    refine go_ifeq_b 53 17 dX9_stage_14 (by decide) rfl (fun c_14 => ?_) (fun c_14 => ?_)
    · refine go_iconst 54 (v := (-1)) dX9_stage_53 rfl (by decide) ?_
      exact go_ret_i dX9_stage_54 rfl rfl rfl (pM_e (fStage_1 (fun z => c_14 z.2.1)) (by decide) hP)
    · refine go_iload_n 18 dX9_stage_17 rfl rfl (ls_s (ls_s (ls_s ls_0))) ?_
      refine go_iconst 19 (v := 1) dX9_stage_18 rfl (by decide) ?_
      refine go_sipush 22 (v := 200) dX9_stage_19 rfl (by decide) ?_
      refine go_SI (M' := mX9_in) 25 dX9_stage_22 rfl w_768 okX9_in ⟨Nat.le_of_ble_eq_true rfl, Nat.le_of_ble_eq_true rfl⟩ (m_in G gi _ _ _) rfl rfl (kk := ?_)
      refine go_ifeq_b 53 28 dX9_stage_25 (by decide) rfl (fun c_25 => ?_) (fun c_25 => ?_)
      · refine go_iconst 54 (v := (-1)) dX9_stage_53 rfl (by decide) ?_
        exact go_ret_i dX9_stage_54 rfl rfl rfl (pM_e (fStage_1 (fun z => c_25 z.2.2.1)) (by decide) hP)
      · refine go_iload 30 dX9_stage_28 rfl (ls_s (ls_s (ls_s (ls_s ls_0)))) ?_
        refine go_iconst 31 (v := 0) dX9_stage_30 rfl (by decide) ?_
        refine go_sipush 34 (v := 500) dX9_stage_31 rfl (by decide) ?_
        refine go_SI (M' := mX9_in) 37 dX9_stage_34 rfl w_768 okX9_in ⟨Nat.le_of_ble_eq_true rfl, Nat.le_of_ble_eq_true rfl⟩ (m_in G gi _ _ _) rfl rfl (kk := ?_)
        refine go_ifeq_b 53 40 dX9_stage_37 (by decide) rfl (fun c_37 => ?_) (fun c_37 => ?_)
        · refine go_iconst 54 (v := (-1)) dX9_stage_53 rfl (by decide) ?_
          exact go_ret_i dX9_stage_54 rfl rfl rfl (pM_e (fStage_1 (fun z => c_37 z.2.2.2.1)) (by decide) hP)
        · refine go_iload 42 dX9_stage_40 rfl (ls_s (ls_s (ls_s (ls_s (ls_s ls_0))))) ?_
          refine go_iload 44 dX9_stage_42 rfl (ls_s (ls_s (ls_s (ls_s ls_0)))) ?_
          refine go_sipush 47 (v := 500) dX9_stage_44 rfl (by decide) ?_
          refine go_SI (M' := mX9_in) 50 dX9_stage_47 rfl w_768 okX9_in ⟨Nat.le_of_ble_eq_true rfl, Nat.le_of_ble_eq_true rfl⟩ (m_in G gi _ _ _) rfl rfl (kk := ?_)
          refine go_ifne_b 55 53 dX9_stage_50 (by decide) rfl (fun c_50 => ?_) (fun c_50 => ?_)
          · obtain ⟨r, hr, rfl⟩ := c_5
            have hr4 : r < 4 := Nat.lt_of_lt_of_le hr I.nR4
            refine go_aload_n 56 dX9_stage_55 rfl rfl ls_0 ?_
            refine go_iload_n 57 dX9_stage_56 rfl rfl (ls_s ls_0) ?_
            refine go_VI (M' := mX9_isMade) 60 dX9_stage_57 rfl w_783 okX9_isMade ⟨Nat.le_of_ble_eq_true rfl, Nat.le_of_ble_eq_true rfl⟩ (m_isMade G gi _) rfl rfl o335 (by decide) rfl (kk := ?_)
            refine go_ifeq_b 66 63 dX9_stage_60 (by decide) rfl (fun c_60 => ?_) (fun c_60 => ?_)
            · refine go_aload_n 67 dX9_stage_66 rfl rfl ls_0 ?_
              refine go_iload_n 68 dX9_stage_67 rfl rfl (ls_s ls_0) ?_
              refine go_VI (M' := mX9_stages) 71 dX9_stage_68 rfl w_795 okX9_stages ⟨Nat.le_of_ble_eq_true rfl, Nat.le_of_ble_eq_true rfl⟩ (m_stages G gi (r := r) (by omega)) rfl rfl o335 (by decide) rfl (kk := ?_)
              refine go_top (y := (nI (nS (gi 336) r))) (I.eS hr4) ?_
              refine go_istore 73 dX9_stage_71 rfl (by decide) (st_s (st_s (st_s (st_s (st_s (st_s st_0)))))) ?_
              refine go_iload 75 dX9_stage_73 rfl (ls_s (ls_s (ls_s (ls_s (ls_s (ls_s ls_0)))))) ?_
              refine go_iconst 76 (v := 4) dX9_stage_75 rfl (by decide) ?_
              refine go_icmp_ne 82 79 dX9_stage_76 (by decide) rfl (fun c_76 => ?_) (fun c_76 => ?_)
              · have hn : nS (gi 336) r < 4 := lim_lt (I.nS4 hr4) c_76
                refine go_aload_n 83 dX9_stage_82 rfl rfl ls_0 ?_
                refine go_V (M' := mX9_changes) 86 dX9_stage_83 rfl w_771 okX9_changes ⟨Nat.le_of_ble_eq_true rfl, Nat.le_of_ble_eq_true rfl⟩ rfl rfl (Nat.le_of_ble_eq_true rfl) (Nat.le_of_ble_eq_true rfl) (m_changes G hl4 hP) rfl rfl (Nat.le_of_ble_eq_true rfl) o335 (by decide) rfl (fun v_83 h_83 p_83 => ?_)
                obtain ⟨rfl, g1, rfl, o, p⟩ := p_83
                have e1 : g1 336 = gi 336 := o.1 336 (by decide) (by decide)
                have e1' : ∀ j, g1 336 j = gi 336 j := fun j => congrFun e1 j
                have I1 : Inv N (g1 336) := by rw [e1]; exact I
                refine go_bipush 88 (v := 31) dX9_stage_86 rfl (by decide) ?_
                refine go_bipush 90 (v := 18) dX9_stage_88 rfl (by decide) ?_
                refine go_iload_n 91 dX9_stage_90 rfl rfl (ls_s ls_0) ?_
                refine go_imul 92 dX9_stage_91 rfl ?_
                refine go_iadd 93 dX9_stage_92 rfl ?_
                refine go_iconst 94 (v := 2) dX9_stage_93 rfl (by decide) ?_
                refine go_iadd 95 dX9_stage_94 rfl ?_
                refine go_iconst 96 (v := 4) dX9_stage_95 rfl (by decide) ?_
                refine go_iload 98 dX9_stage_96 rfl (ls_s (ls_s (ls_s (ls_s (ls_s (ls_s ls_0)))))) ?_
                refine go_imul 99 dX9_stage_98 rfl ?_
                refine go_iadd 100 dX9_stage_99 rfl ?_
                refine go_top (y := (nI (31 + 18 * r + 2 + 4 * nS (gi 336) r))) (ix92 31 18 r 4 _) ?_
                refine go_istore 102 dX9_stage_100 rfl (by decide) (st_s (st_s (st_s (st_s (st_s (st_s (st_s st_0))))))) ?_
                refine go_aload_n 103 dX9_stage_102 rfl rfl ls_0 ?_
                refine gp_getR 106 dX9_stage_103 rfl f_X9_7 rfl o335 rfl ?_
                refine go_iload 108 dX9_stage_106 rfl (ls_s (ls_s (ls_s (ls_s (ls_s (ls_s (ls_s ls_0))))))) ?_
                refine go_iload_n 109 dX9_stage_108 rfl rfl (ls_s (ls_s ls_0)) ?_
                refine gp_iastN 110 (i := (31 + 18 * r + 2 + 4 * nS (gi 336) r)) dX9_stage_109 rfl a336 rfl (by omega) (by decide) ?_
                refine go_aload_n 111 dX9_stage_110 rfl rfl ls_0 ?_
                refine gp_getR 114 dX9_stage_111 rfl f_X9_7 rfl o335 rfl ?_
                refine go_iload 116 dX9_stage_114 rfl (ls_s (ls_s (ls_s (ls_s (ls_s (ls_s (ls_s ls_0))))))) ?_
                refine go_iconst 117 (v := 1) dX9_stage_116 rfl (by decide) ?_
                refine go_iadd 118 dX9_stage_117 rfl ?_
                refine go_iload_n 119 dX9_stage_118 rfl rfl (ls_s (ls_s (ls_s ls_0))) ?_
                refine gp_iastN 120 (i := (31 + 18 * r + 2 + 4 * nS (gi 336) r + 1)) dX9_stage_119 rfl a336 (nI_1 _) (by omega) (by decide) ?_
                refine go_aload_n 121 dX9_stage_120 rfl rfl ls_0 ?_
                refine gp_getR 124 dX9_stage_121 rfl f_X9_7 rfl o335 rfl ?_
                refine go_iload 126 dX9_stage_124 rfl (ls_s (ls_s (ls_s (ls_s (ls_s (ls_s (ls_s ls_0))))))) ?_
                refine go_iconst 127 (v := 2) dX9_stage_126 rfl (by decide) ?_
                refine go_iadd 128 dX9_stage_127 rfl ?_
                refine go_iload 130 dX9_stage_128 rfl (ls_s (ls_s (ls_s (ls_s ls_0)))) ?_
                refine gp_iastN 131 (i := (31 + 18 * r + 2 + 4 * nS (gi 336) r + 2)) dX9_stage_130 rfl a336 (nI_add _ 2) (by omega) (by decide) ?_
                refine go_aload_n 132 dX9_stage_131 rfl rfl ls_0 ?_
                refine gp_getR 135 dX9_stage_132 rfl f_X9_7 rfl o335 rfl ?_
                refine go_iload 137 dX9_stage_135 rfl (ls_s (ls_s (ls_s (ls_s (ls_s (ls_s (ls_s ls_0))))))) ?_
                refine go_iconst 138 (v := 3) dX9_stage_137 rfl (by decide) ?_
                refine go_iadd 139 dX9_stage_138 rfl ?_
                refine go_iload 141 dX9_stage_139 rfl (ls_s (ls_s (ls_s (ls_s (ls_s ls_0))))) ?_
                refine gp_iastN 142 (i := (31 + 18 * r + 2 + 4 * nS (gi 336) r + 3)) dX9_stage_141 rfl a336 (nI_add _ 3) (by omega) (by decide) ?_
                refine go_aload_n 143 dX9_stage_142 rfl rfl ls_0 ?_
                refine gp_getR 146 dX9_stage_143 rfl f_X9_7 rfl o335 rfl ?_
                refine go_bipush 148 (v := 31) dX9_stage_146 rfl (by decide) ?_
                refine go_bipush 150 (v := 18) dX9_stage_148 rfl (by decide) ?_
                refine go_iload_n 151 dX9_stage_150 rfl rfl (ls_s ls_0) ?_
                refine go_imul 152 dX9_stage_151 rfl ?_
                refine go_iadd 153 dX9_stage_152 rfl ?_
                refine go_iconst 154 (v := 1) dX9_stage_153 rfl (by decide) ?_
                refine go_iadd 155 dX9_stage_154 rfl ?_
                refine go_dup2 156 dX9_stage_155 rfl rfl rfl ?_
                refine gp_ialdN 157 (i := (31 + 18 * r + 1)) dX9_stage_156 rfl a336 (ix9 31 18 r 1) (by omega) (by decide) ?_
                refine go_top (y := (nI (nS (gi 336) r))) (by simp (disch := omega) only [wI_ne, wI_eq, e1']; exact (I.eS hr4)) ?_
                refine go_iconst 158 (v := 1) dX9_stage_157 rfl (by decide) ?_
                refine go_iadd 159 dX9_stage_158 rfl ?_
                refine go_top (y := (nI (nS (gi 336) r + 1))) (nI_1 _) ?_
                refine gp_iastN 160 (i := (31 + 18 * r + 1)) dX9_stage_159 rfl a336 (ix9 31 18 r 1) (by omega) (by decide) ?_
                refine go_iload 162 dX9_stage_160 rfl (ls_s (ls_s (ls_s (ls_s (ls_s (ls_s ls_0)))))) ?_
                exact go_ret_i dX9_stage_162 rfl rfl rfl (pM_m (fStage_y I hr ⟨c_14, c_25, c_37, c_50⟩ c_60 hn) (nI_pos (by omega)) o p (by simp only [g336, e1]) (fun k hk => by simp only [wI_row hk]))
              · refine go_bipush 81 (v := (-3)) dX9_stage_79 rfl (by decide) ?_
                exact go_ret_i dX9_stage_81 rfl rfl rfl (pM_e (fStage_3 ⟨isRec_n hr, c_14, c_25, c_37, c_50⟩ c_60 (by rw [iN_n (by omega), I.eS hr4]; exact c_76)) (by decide) hP)
            · refine go_bipush 65 (v := (-2)) dX9_stage_63 rfl (by decide) ?_
              exact go_ret_i dX9_stage_65 rfl rfl rfl (pM_e (fStage_2 ⟨isRec_n hr, c_14, c_25, c_37, c_50⟩ c_60) (by decide) hP)
          · refine go_iconst 54 (v := (-1)) dX9_stage_53 rfl (by decide) ?_
            exact go_ret_i dX9_stage_54 rfl rfl rfl (pM_e (fStage_1 (fun z => c_50 z.2.2.2.2)) (by decide) hP)
set_option maxHeartbeats 4000000 in
set_option maxRecDepth 100000 in
theorem mo_vessel (G : BcG) {gi : GI} {N : Nat} (I : Inv N (gi 336)) {H : List AA} (hl4 : H.length ≤ 4) (hP : gi 335 4 = 0 → PastR H gi) (x y : Int32) : Ct G mX9_vessel [.ref (G.1 + 335), .int x, .int y] (hp gi) (pM gi H (fVessel (gi 336) x y)) := by
  refine ct_of [some (.ref (G.1 + 335)), some (.int x), some (.int y), none] w_10 (by decide) rfl (Nat.le_of_ble_eq_true rfl) rfl ?_
  refine go_iload_n 1 dX9_vessel_0 rfl rfl (ls_s ls_0) ?_
  refine go_iconst 2 (v := 0) dX9_vessel_1 rfl (by decide) ?_
  refine go_iconst 3 (v := 2) dX9_vessel_2 rfl (by decide) ?_
  refine go_SI (M' := mX9_in) 6 dX9_vessel_3 rfl w_768 okX9_in ⟨Nat.le_of_ble_eq_true rfl, Nat.le_of_ble_eq_true rfl⟩ (m_in G gi _ _ _) rfl rfl (kk := ?_)
  refine go_ifeq_b 20 9 dX9_vessel_6 (by decide) rfl (fun c_6 => ?_) (fun c_6 => ?_)
  · refine go_iconst 21 (v := (-1)) dX9_vessel_20 rfl (by decide) ?_
    exact go_ret_i dX9_vessel_21 rfl rfl rfl (pM_e (fVessel_1 (fun z => c_6 z.1)) (by decide) hP)
  · refine go_iload_n 10 dX9_vessel_9 rfl rfl (ls_s (ls_s ls_0)) ?_
    refine go_iconst 11 (v := 1) dX9_vessel_10 rfl (by decide) ?_
    refine go_sipush 14 (v := 999) dX9_vessel_11 rfl (by decide) ?_
    refine go_SI (M' := mX9_in) 17 dX9_vessel_14 rfl w_768 okX9_in ⟨Nat.le_of_ble_eq_true rfl, Nat.le_of_ble_eq_true rfl⟩ (m_in G gi _ _ _) rfl rfl (kk := ?_)
    refine go_ifne_b 22 20 dX9_vessel_17 (by decide) rfl (fun c_17 => ?_) (fun c_17 => ?_)
    · refine go_aload_n 23 dX9_vessel_22 rfl rfl ls_0 ?_
      refine gp_getR 26 dX9_vessel_23 rfl f_X9_7 rfl o335 rfl ?_
      refine go_iconst 27 (v := 3) dX9_vessel_26 rfl (by decide) ?_
      refine gp_ialdN 28 (i := 3) dX9_vessel_27 rfl a336 rfl (by decide) (by decide) ?_
      refine go_top (y := (nI (nV (gi 336)))) I.eV ?_
      refine go_istore_n 29 dX9_vessel_28 rfl rfl (by decide) (st_s (st_s (st_s st_0))) ?_
      refine go_iload_n 30 dX9_vessel_29 rfl rfl (ls_s (ls_s (ls_s ls_0))) ?_
      refine go_bipush 32 (v := 6) dX9_vessel_30 rfl (by decide) ?_
      refine go_icmp_ne 38 35 dX9_vessel_32 (by decide) rfl (fun c_32 => ?_) (fun c_32 => ?_)
      · have hn : nV (gi 336) < 6 := lim_lt I.nV6 c_32
        refine go_aload_n 39 dX9_vessel_38 rfl rfl ls_0 ?_
        refine go_V (M' := mX9_changes) 42 dX9_vessel_39 rfl w_771 okX9_changes ⟨Nat.le_of_ble_eq_true rfl, Nat.le_of_ble_eq_true rfl⟩ rfl rfl (Nat.le_of_ble_eq_true rfl) (Nat.le_of_ble_eq_true rfl) (m_changes G hl4 hP) rfl rfl (Nat.le_of_ble_eq_true rfl) o335 (by decide) rfl (fun v_39 h_39 p_39 => ?_)
        obtain ⟨rfl, g1, rfl, o, p⟩ := p_39
        have e1 : g1 336 = gi 336 := o.1 336 (by decide) (by decide)
        have e1' : ∀ j, g1 336 j = gi 336 j := fun j => congrFun e1 j
        have I1 : Inv N (g1 336) := by rw [e1]; exact I
        refine go_aload_n 43 dX9_vessel_42 rfl rfl ls_0 ?_
        refine go_iload_n 44 dX9_vessel_43 rfl rfl (ls_s (ls_s (ls_s ls_0))) ?_
        refine go_iconst 45 (v := 0) dX9_vessel_44 rfl (by decide) ?_
        refine go_iload_n 46 dX9_vessel_45 rfl rfl (ls_s ls_0) ?_
        refine go_VN (M' := mX9_putsVessel) 49 dX9_vessel_46 rfl w_803 okX9_putsVessel ⟨Nat.le_of_ble_eq_true rfl, Nat.le_of_ble_eq_true rfl⟩ (m_putsVessel G g1 (j := 103 + 5 * ((nV (gi 336)))) rfl (by omega) _) rfl rfl o335 (by decide) rfl (kk := ?_)
        refine go_aload_n 50 dX9_vessel_49 rfl rfl ls_0 ?_
        refine go_iload_n 51 dX9_vessel_50 rfl rfl (ls_s (ls_s (ls_s ls_0))) ?_
        refine go_iconst 52 (v := 1) dX9_vessel_51 rfl (by decide) ?_
        refine go_iload_n 53 dX9_vessel_52 rfl rfl (ls_s (ls_s ls_0)) ?_
        refine go_VN (M' := mX9_putsVessel) 56 dX9_vessel_53 rfl w_803 okX9_putsVessel ⟨Nat.le_of_ble_eq_true rfl, Nat.le_of_ble_eq_true rfl⟩ (m_putsVessel G (wI g1 336 (103 + 5 * ((nV (gi 336)))) x) (j := 103 + 5 * ((nV (gi 336))) + 1) rfl (by omega) _) rfl rfl o335 (by decide) rfl (kk := ?_)
        refine go_aload_n 57 dX9_vessel_56 rfl rfl ls_0 ?_
        refine go_iload_n 58 dX9_vessel_57 rfl rfl (ls_s (ls_s (ls_s ls_0))) ?_
        refine go_iconst 59 (v := 2) dX9_vessel_58 rfl (by decide) ?_
        refine go_iconst 60 (v := (-1)) dX9_vessel_59 rfl (by decide) ?_
        refine go_VN (M' := mX9_putsVessel) 63 dX9_vessel_60 rfl w_803 okX9_putsVessel ⟨Nat.le_of_ble_eq_true rfl, Nat.le_of_ble_eq_true rfl⟩ (m_putsVessel G (wI (wI g1 336 (103 + 5 * ((nV (gi 336)))) x) 336 (103 + 5 * ((nV (gi 336))) + 1) y) (j := 103 + 5 * ((nV (gi 336))) + 2) rfl (by omega) _) rfl rfl o335 (by decide) rfl (kk := ?_)
        refine go_aload_n 64 dX9_vessel_63 rfl rfl ls_0 ?_
        refine go_iload_n 65 dX9_vessel_64 rfl rfl (ls_s (ls_s (ls_s ls_0))) ?_
        refine go_iconst 66 (v := 3) dX9_vessel_65 rfl (by decide) ?_
        refine go_iconst 67 (v := (-1)) dX9_vessel_66 rfl (by decide) ?_
        refine go_VN (M' := mX9_putsVessel) 70 dX9_vessel_67 rfl w_803 okX9_putsVessel ⟨Nat.le_of_ble_eq_true rfl, Nat.le_of_ble_eq_true rfl⟩ (m_putsVessel G (wI (wI (wI g1 336 (103 + 5 * ((nV (gi 336)))) x) 336 (103 + 5 * ((nV (gi 336))) + 1) y) 336 (103 + 5 * ((nV (gi 336))) + 2) (-1)) (j := 103 + 5 * ((nV (gi 336))) + 3) rfl (by omega) _) rfl rfl o335 (by decide) rfl (kk := ?_)
        refine go_aload_n 71 dX9_vessel_70 rfl rfl ls_0 ?_
        refine go_iload_n 72 dX9_vessel_71 rfl rfl (ls_s (ls_s (ls_s ls_0))) ?_
        refine go_iconst 73 (v := 4) dX9_vessel_72 rfl (by decide) ?_
        refine go_iconst 74 (v := 0) dX9_vessel_73 rfl (by decide) ?_
        refine go_VN (M' := mX9_putsVessel) 77 dX9_vessel_74 rfl w_803 okX9_putsVessel ⟨Nat.le_of_ble_eq_true rfl, Nat.le_of_ble_eq_true rfl⟩ (m_putsVessel G (wI (wI (wI (wI g1 336 (103 + 5 * ((nV (gi 336)))) x) 336 (103 + 5 * ((nV (gi 336))) + 1) y) 336 (103 + 5 * ((nV (gi 336))) + 2) (-1)) 336 (103 + 5 * ((nV (gi 336))) + 3) (-1)) (j := 103 + 5 * ((nV (gi 336))) + 4) rfl (by omega) _) rfl rfl o335 (by decide) rfl (kk := ?_)
        refine go_aload_n 78 dX9_vessel_77 rfl rfl ls_0 ?_
        refine gp_getR 81 dX9_vessel_78 rfl f_X9_7 rfl o335 rfl ?_
        refine go_iconst 82 (v := 3) dX9_vessel_81 rfl (by decide) ?_
        refine go_dup2 83 dX9_vessel_82 rfl rfl rfl ?_
        refine gp_ialdN 84 (i := 3) dX9_vessel_83 rfl a336 rfl (by decide) (by decide) ?_
        refine go_top (y := (nI (nV (gi 336)))) (by simp (disch := omega) only [wI_ne, wI_eq, e1']; exact I.eV) ?_
        refine go_iconst 85 (v := 1) dX9_vessel_84 rfl (by decide) ?_
        refine go_iadd 86 dX9_vessel_85 rfl ?_
        refine go_top (y := (nI (nV (gi 336) + 1))) (nI_1 _) ?_
        refine gp_iastN 87 (i := 3) dX9_vessel_86 rfl a336 rfl (by decide) (by decide) ?_
        refine go_iload_n 88 dX9_vessel_87 rfl rfl (ls_s (ls_s (ls_s ls_0))) ?_
        exact go_ret_i dX9_vessel_88 rfl rfl rfl (pM_m (fVessel_y I ⟨c_6, c_17⟩ hn) (nI_pos (by omega)) o p (by simp only [g336, e1]) (fun k hk => by simp only [wI_row hk]))
      · refine go_bipush 37 (v := (-3)) dX9_vessel_35 rfl (by decide) ?_
        exact go_ret_i dX9_vessel_37 rfl rfl rfl (pM_e (fVessel_3 ⟨c_6, c_17⟩ (by rw [I.eV]; exact c_32)) (by decide) hP)
    · refine go_iconst 21 (v := (-1)) dX9_vessel_20 rfl (by decide) ?_
      exact go_ret_i dX9_vessel_21 rfl rfl rfl (pM_e (fVessel_1 (fun z => c_17 z.2)) (by decide) hP)
set_option maxHeartbeats 4000000 in
set_option maxRecDepth 100000 in
theorem mo_line (G : BcG) {gi : GI} {N : Nat} (I : Inv N (gi 336)) {H : List AA} (hl4 : H.length ≤ 4) (hP : gi 335 4 = 0 → PastR H gi) (x y : Int32) : Ct G mX9_line [.ref (G.1 + 335), .int x, .int y] (hp gi) (pM gi H (fLine (gi 336) x y)) := by
  refine ct_of [some (.ref (G.1 + 335)), some (.int x), some (.int y), none] w_10 (by decide) rfl (Nat.le_of_ble_eq_true rfl) rfl ?_
  refine go_iload_n 1 dX9_line_0 rfl rfl (ls_s ls_0) ?_
  refine go_iconst 2 (v := 0) dX9_line_1 rfl (by decide) ?_
  refine go_iconst 3 (v := 1) dX9_line_2 rfl (by decide) ?_
  refine go_aload_n 4 dX9_line_3 rfl rfl ls_0 ?_
  refine gp_getR 7 dX9_line_4 rfl f_X9_7 rfl o335 rfl ?_
  refine go_iconst 8 (v := 3) dX9_line_7 rfl (by decide) ?_
  refine gp_ialdN 9 (i := 3) dX9_line_8 rfl a336 rfl (by decide) (by decide) ?_
  refine go_top (y := (nI (nV (gi 336)))) I.eV ?_
  refine go_ishl 10 dX9_line_9 rfl ?_
  refine go_iconst 11 (v := 1) dX9_line_10 rfl (by decide) ?_
  refine go_isub 12 dX9_line_11 rfl ?_
  refine go_SI (M' := mX9_in) 15 dX9_line_12 rfl w_768 okX9_in ⟨Nat.le_of_ble_eq_true rfl, Nat.le_of_ble_eq_true rfl⟩ (m_in G gi _ _ _) rfl rfl (kk := ?_)
  refine go_ifeq_b 36 18 dX9_line_15 (by decide) rfl (fun c_15 => ?_) (fun c_15 => ?_)
  · refine go_iconst 37 (v := (-1)) dX9_line_36 rfl (by decide) ?_
    exact go_ret_i dX9_line_37 rfl rfl rfl (pM_e (fLine_1 (fun z => c_15 ((ln_in I.nV6).mpr (by obtain ⟨s, h1, h2, -⟩ := z.1; exact ⟨s, h1, h2⟩)))) (by decide) hP)
  · obtain ⟨s, hs, rfl⟩ := (ln_in I.nV6).mp c_15
    have h64 : s < 64 := Nat.lt_of_lt_of_le hs (Nat.pow_le_pow_right (n := 2) (by omega) I.nV6)
    refine go_iload_n 19 dX9_line_18 rfl rfl (ls_s ls_0) ?_
    refine go_SI (M' := mX9_bits) 22 dX9_line_19 rfl w_811 okX9_bits ⟨Nat.le_of_ble_eq_true rfl, Nat.le_of_ble_eq_true rfl⟩ (m_bits G gi h64) rfl rfl (kk := ?_)
    refine go_iconst 23 (v := 2) dX9_line_22 rfl (by decide) ?_
    refine go_icmp_lt 36 26 dX9_line_23 (by decide) rfl (fun c_23 => ?_) (fun c_23 => ?_)
    · refine go_iconst 37 (v := (-1)) dX9_line_36 rfl (by decide) ?_
      exact go_ret_i dX9_line_37 rfl rfl rfl (pM_e (fLine_1 (fun z => setOk_no I.nV6 hs (fun z2 => absurd (cnt_lt (n := pcN s) (m := 2) (by have := pcN_le s; omega) (by decide) c_23) (by omega)) z.1)) (by decide) hP)
    · refine go_iload_n 27 dX9_line_26 rfl rfl (ls_s (ls_s ls_0)) ?_
      refine go_iconst 28 (v := 1) dX9_line_27 rfl (by decide) ?_
      refine go_bipush 30 (v := 99) dX9_line_28 rfl (by decide) ?_
      refine go_SI (M' := mX9_in) 33 dX9_line_30 rfl w_768 okX9_in ⟨Nat.le_of_ble_eq_true rfl, Nat.le_of_ble_eq_true rfl⟩ (m_in G gi _ _ _) rfl rfl (kk := ?_)
      refine go_ifne_b 38 36 dX9_line_33 (by decide) rfl (fun c_33 => ?_) (fun c_33 => ?_)
      · have hok : setOk (gi 336) (nI s) := setOk_n hs (Nat.le_of_not_lt (fun z => c_23 (nI_lt z (by decide))))
        refine go_aload_n 39 dX9_line_38 rfl rfl ls_0 ?_
        refine gp_getR 42 dX9_line_39 rfl f_X9_7 rfl o335 rfl ?_
        refine go_iconst 43 (v := 4) dX9_line_42 rfl (by decide) ?_
        refine gp_ialdN 44 (i := 4) dX9_line_43 rfl a336 rfl (by decide) (by decide) ?_
        refine go_top (y := (nI (nL (gi 336)))) I.eL ?_
        refine go_istore_n 45 dX9_line_44 rfl rfl (by decide) (st_s (st_s (st_s st_0))) ?_
        refine go_iload_n 46 dX9_line_45 rfl rfl (ls_s (ls_s (ls_s ls_0))) ?_
        refine go_iconst 47 (v := 3) dX9_line_46 rfl (by decide) ?_
        refine go_icmp_ne 53 50 dX9_line_47 (by decide) rfl (fun c_47 => ?_) (fun c_47 => ?_)
        · have hn : nL (gi 336) < 3 := lim_lt I.nL3 c_47
          refine go_aload_n 54 dX9_line_53 rfl rfl ls_0 ?_
          refine go_V (M' := mX9_changes) 57 dX9_line_54 rfl w_771 okX9_changes ⟨Nat.le_of_ble_eq_true rfl, Nat.le_of_ble_eq_true rfl⟩ rfl rfl (Nat.le_of_ble_eq_true rfl) (Nat.le_of_ble_eq_true rfl) (m_changes G hl4 hP) rfl rfl (Nat.le_of_ble_eq_true rfl) o335 (by decide) rfl (fun v_54 h_54 p_54 => ?_)
          obtain ⟨rfl, g1, rfl, o, p⟩ := p_54
          have e1 : g1 336 = gi 336 := o.1 336 (by decide) (by decide)
          have e1' : ∀ j, g1 336 j = gi 336 j := fun j => congrFun e1 j
          have I1 : Inv N (g1 336) := by rw [e1]; exact I
          refine go_aload_n 58 dX9_line_57 rfl rfl ls_0 ?_
          refine gp_getR 61 dX9_line_58 rfl f_X9_7 rfl o335 rfl ?_
          refine go_sipush 64 (v := 133) dX9_line_61 rfl (by decide) ?_
          refine go_iconst 65 (v := 4) dX9_line_64 rfl (by decide) ?_
          refine go_iload_n 66 dX9_line_65 rfl rfl (ls_s (ls_s (ls_s ls_0))) ?_
          refine go_imul 67 dX9_line_66 rfl ?_
          refine go_iadd 68 dX9_line_67 rfl ?_
          refine go_iconst 69 (v := 0) dX9_line_68 rfl (by decide) ?_
          refine go_iadd 70 dX9_line_69 rfl ?_
          refine go_iload_n 71 dX9_line_70 rfl rfl (ls_s ls_0) ?_
          refine gp_iastN 72 (i := (133 + 4 * nL (gi 336))) dX9_line_71 rfl a336 (ix9 133 4 _ 0) (by omega) (by decide) ?_
          refine go_aload_n 73 dX9_line_72 rfl rfl ls_0 ?_
          refine gp_getR 76 dX9_line_73 rfl f_X9_7 rfl o335 rfl ?_
          refine go_sipush 79 (v := 133) dX9_line_76 rfl (by decide) ?_
          refine go_iconst 80 (v := 4) dX9_line_79 rfl (by decide) ?_
          refine go_iload_n 81 dX9_line_80 rfl rfl (ls_s (ls_s (ls_s ls_0))) ?_
          refine go_imul 82 dX9_line_81 rfl ?_
          refine go_iadd 83 dX9_line_82 rfl ?_
          refine go_iconst 84 (v := 1) dX9_line_83 rfl (by decide) ?_
          refine go_iadd 85 dX9_line_84 rfl ?_
          refine go_iload_n 86 dX9_line_85 rfl rfl (ls_s (ls_s ls_0)) ?_
          refine gp_iastN 87 (i := (133 + 4 * nL (gi 336) + 1)) dX9_line_86 rfl a336 (ix9 133 4 _ 1) (by omega) (by decide) ?_
          refine go_aload_n 88 dX9_line_87 rfl rfl ls_0 ?_
          refine gp_getR 91 dX9_line_88 rfl f_X9_7 rfl o335 rfl ?_
          refine go_sipush 94 (v := 133) dX9_line_91 rfl (by decide) ?_
          refine go_iconst 95 (v := 4) dX9_line_94 rfl (by decide) ?_
          refine go_iload_n 96 dX9_line_95 rfl rfl (ls_s (ls_s (ls_s ls_0))) ?_
          refine go_imul 97 dX9_line_96 rfl ?_
          refine go_iadd 98 dX9_line_97 rfl ?_
          refine go_iconst 99 (v := 2) dX9_line_98 rfl (by decide) ?_
          refine go_iadd 100 dX9_line_99 rfl ?_
          refine go_iconst 101 (v := 0) dX9_line_100 rfl (by decide) ?_
          refine gp_iastN 102 (i := (133 + 4 * nL (gi 336) + 2)) dX9_line_101 rfl a336 (ix9 133 4 _ 2) (by omega) (by decide) ?_
          refine go_aload_n 103 dX9_line_102 rfl rfl ls_0 ?_
          refine gp_getR 106 dX9_line_103 rfl f_X9_7 rfl o335 rfl ?_
          refine go_sipush 109 (v := 133) dX9_line_106 rfl (by decide) ?_
          refine go_iconst 110 (v := 4) dX9_line_109 rfl (by decide) ?_
          refine go_iload_n 111 dX9_line_110 rfl rfl (ls_s (ls_s (ls_s ls_0))) ?_
          refine go_imul 112 dX9_line_111 rfl ?_
          refine go_iadd 113 dX9_line_112 rfl ?_
          refine go_iconst 114 (v := 3) dX9_line_113 rfl (by decide) ?_
          refine go_iadd 115 dX9_line_114 rfl ?_
          refine go_iconst 116 (v := 0) dX9_line_115 rfl (by decide) ?_
          refine gp_iastN 117 (i := (133 + 4 * nL (gi 336) + 3)) dX9_line_116 rfl a336 (ix9 133 4 _ 3) (by omega) (by decide) ?_
          refine go_aload_n 118 dX9_line_117 rfl rfl ls_0 ?_
          refine gp_getR 121 dX9_line_118 rfl f_X9_7 rfl o335 rfl ?_
          refine go_iconst 122 (v := 4) dX9_line_121 rfl (by decide) ?_
          refine go_dup2 123 dX9_line_122 rfl rfl rfl ?_
          refine gp_ialdN 124 (i := 4) dX9_line_123 rfl a336 rfl (by decide) (by decide) ?_
          refine go_top (y := (nI (nL (gi 336)))) (by simp (disch := omega) only [wI_ne, wI_eq, e1']; exact I.eL) ?_
          refine go_iconst 125 (v := 1) dX9_line_124 rfl (by decide) ?_
          refine go_iadd 126 dX9_line_125 rfl ?_
          refine go_top (y := (nI (nL (gi 336) + 1))) (nI_1 _) ?_
          refine gp_iastN 127 (i := 4) dX9_line_126 rfl a336 rfl (by decide) (by decide) ?_
          refine go_iload_n 128 dX9_line_127 rfl rfl (ls_s (ls_s (ls_s ls_0))) ?_
          exact go_ret_i dX9_line_128 rfl rfl rfl (pM_m (fLine_y I ⟨hok, c_33⟩ hn) (nI_pos (by omega)) o p (by simp only [g336, e1]) (fun k hk => by simp only [wI_row hk]))
        · refine go_bipush 52 (v := (-3)) dX9_line_50 rfl (by decide) ?_
          exact go_ret_i dX9_line_52 rfl rfl rfl (pM_e (fLine_3 ⟨hok, c_33⟩ (by rw [I.eL]; exact c_47)) (by decide) hP)
      · refine go_iconst 37 (v := (-1)) dX9_line_36 rfl (by decide) ?_
        exact go_ret_i dX9_line_37 rfl rfl rfl (pM_e (fLine_1 (fun z => c_33 z.2)) (by decide) hP)
set_option maxHeartbeats 4000000 in
set_option maxRecDepth 100000 in
theorem mo_cleaning (G : BcG) {gi : GI} {N : Nat} (I : Inv N (gi 336)) {H : List AA} (hl4 : H.length ≤ 4) (hP : gi 335 4 = 0 → PastR H gi) (x y z : Int32) : Ct G mX9_cleaning [.ref (G.1 + 335), .int x, .int y, .int z] (hp gi) (pM gi H (fCleaning (gi 336) x y z)) := by
  refine ct_of [some (.ref (G.1 + 335)), some (.int x), some (.int y), some (.int z), none] w_10 (by decide) rfl (Nat.le_of_ble_eq_true rfl) rfl ?_
  refine go_iload_n 1 dX9_cleaning_0 rfl rfl (ls_s ls_0) ?_
  refine go_iconst 2 (v := 0) dX9_cleaning_1 rfl (by decide) ?_
  refine go_iconst 3 (v := 3) dX9_cleaning_2 rfl (by decide) ?_
  refine go_SI (M' := mX9_in) 6 dX9_cleaning_3 rfl w_768 okX9_in ⟨Nat.le_of_ble_eq_true rfl, Nat.le_of_ble_eq_true rfl⟩ (m_in G gi _ _ _) rfl rfl (kk := ?_)
  refine go_ifeq_b 28 9 dX9_cleaning_6 (by decide) rfl (fun c_6 => ?_) (fun c_6 => ?_)
  · refine go_iconst 29 (v := (-1)) dX9_cleaning_28 rfl (by decide) ?_
    exact go_ret_i dX9_cleaning_29 rfl rfl rfl (pM_e (fCleaning_1 (fun z => c_6 z.1)) (by decide) hP)
  · refine go_iload_n 10 dX9_cleaning_9 rfl rfl (ls_s (ls_s ls_0)) ?_
    refine go_iconst 11 (v := 0) dX9_cleaning_10 rfl (by decide) ?_
    refine go_iconst 12 (v := 3) dX9_cleaning_11 rfl (by decide) ?_
    refine go_SI (M' := mX9_in) 15 dX9_cleaning_12 rfl w_768 okX9_in ⟨Nat.le_of_ble_eq_true rfl, Nat.le_of_ble_eq_true rfl⟩ (m_in G gi _ _ _) rfl rfl (kk := ?_)
    refine go_ifeq_b 28 18 dX9_cleaning_15 (by decide) rfl (fun c_15 => ?_) (fun c_15 => ?_)
    · refine go_iconst 29 (v := (-1)) dX9_cleaning_28 rfl (by decide) ?_
      exact go_ret_i dX9_cleaning_29 rfl rfl rfl (pM_e (fCleaning_1 (fun z => c_15 z.2.1)) (by decide) hP)
    · refine go_iload_n 19 dX9_cleaning_18 rfl rfl (ls_s (ls_s (ls_s ls_0))) ?_
      refine go_iconst 20 (v := 0) dX9_cleaning_19 rfl (by decide) ?_
      refine go_bipush 22 (v := 99) dX9_cleaning_20 rfl (by decide) ?_
      refine go_SI (M' := mX9_in) 25 dX9_cleaning_22 rfl w_768 okX9_in ⟨Nat.le_of_ble_eq_true rfl, Nat.le_of_ble_eq_true rfl⟩ (m_in G gi _ _ _) rfl rfl (kk := ?_)
      refine go_ifne_b 30 28 dX9_cleaning_25 (by decide) rfl (fun c_25 => ?_) (fun c_25 => ?_)
      · obtain ⟨i, hi, rfl⟩ := in4 c_6
        obtain ⟨j, hj, rfl⟩ := in4 c_15
        refine go_aload_n 31 dX9_cleaning_30 rfl rfl ls_0 ?_
        refine go_V (M' := mX9_changes) 34 dX9_cleaning_31 rfl w_771 okX9_changes ⟨Nat.le_of_ble_eq_true rfl, Nat.le_of_ble_eq_true rfl⟩ rfl rfl (Nat.le_of_ble_eq_true rfl) (Nat.le_of_ble_eq_true rfl) (m_changes G hl4 hP) rfl rfl (Nat.le_of_ble_eq_true rfl) o335 (by decide) rfl (fun v_31 h_31 p_31 => ?_)
        obtain ⟨rfl, g1, rfl, o, p⟩ := p_31
        have e1 : g1 336 = gi 336 := o.1 336 (by decide) (by decide)
        have e1' : ∀ j, g1 336 j = gi 336 j := fun j => congrFun e1 j
        have I1 : Inv N (g1 336) := by rw [e1]; exact I
        refine go_aload_n 35 dX9_cleaning_34 rfl rfl ls_0 ?_
        refine gp_getR 38 dX9_cleaning_35 rfl f_X9_7 rfl o335 rfl ?_
        refine go_bipush 40 (v := 15) dX9_cleaning_38 rfl (by decide) ?_
        refine go_iconst 41 (v := 4) dX9_cleaning_40 rfl (by decide) ?_
        refine go_iload_n 42 dX9_cleaning_41 rfl rfl (ls_s ls_0) ?_
        refine go_imul 43 dX9_cleaning_42 rfl ?_
        refine go_iadd 44 dX9_cleaning_43 rfl ?_
        refine go_iload_n 45 dX9_cleaning_44 rfl rfl (ls_s (ls_s ls_0)) ?_
        refine go_iadd 46 dX9_cleaning_45 rfl ?_
        refine gp_ialdN 47 (i := (15 + 4 * i + j)) dX9_cleaning_46 rfl a336 (ix9 15 4 i j) (by omega) (by decide) ?_
        refine go_top (y := (gi 336 (15 + 4 * i + j))) (e1' _) ?_
        refine go_istore 49 dX9_cleaning_47 rfl (by decide) (st_s (st_s (st_s (st_s st_0)))) ?_
        refine go_aload_n 50 dX9_cleaning_49 rfl rfl ls_0 ?_
        refine gp_getR 53 dX9_cleaning_50 rfl f_X9_7 rfl o335 rfl ?_
        refine go_bipush 55 (v := 15) dX9_cleaning_53 rfl (by decide) ?_
        refine go_iconst 56 (v := 4) dX9_cleaning_55 rfl (by decide) ?_
        refine go_iload_n 57 dX9_cleaning_56 rfl rfl (ls_s ls_0) ?_
        refine go_imul 58 dX9_cleaning_57 rfl ?_
        refine go_iadd 59 dX9_cleaning_58 rfl ?_
        refine go_iload_n 60 dX9_cleaning_59 rfl rfl (ls_s (ls_s ls_0)) ?_
        refine go_iadd 61 dX9_cleaning_60 rfl ?_
        refine go_iload_n 62 dX9_cleaning_61 rfl rfl (ls_s (ls_s (ls_s ls_0))) ?_
        refine gp_iastN 63 (i := (15 + 4 * i + j)) dX9_cleaning_62 rfl a336 (ix9 15 4 i j) (by omega) (by decide) ?_
        refine go_iload 65 dX9_cleaning_63 rfl (ls_s (ls_s (ls_s (ls_s ls_0)))) ?_
        exact go_ret_i dX9_cleaning_65 rfl rfl rfl (pM_m ((fCleaning_y ⟨c_6, c_15, c_25⟩).trans (by rw [iN_n (by omega), iN_n (by omega)])) (by have := I.2.1 (4 * i + j) (by omega); rw [← Nat.add_assoc] at this; exact bd_nn this (by decide)) o p (by simp only [g336, e1]) (fun k hk => by simp only [wI_row hk]))
      · refine go_iconst 29 (v := (-1)) dX9_cleaning_28 rfl (by decide) ?_
        exact go_ret_i dX9_cleaning_29 rfl rfl rfl (pM_e (fCleaning_1 (fun z => c_25 z.2.2)) (by decide) hP)
theorem set_nn {N : Nat} {A : AA} (I : Inv N A) {i : Nat} (hi : i < 2) : ¬ A i < 0 := by
  obtain ⟨s1, s2, s3, s4, s5, s6⟩ := I.1
  obtain rfl | rfl : i = 0 ∨ i = 1 := by omega
  · exact bd_nn s5 (by decide)
  · exact bd_nn s6 (by decide)
set_option maxHeartbeats 4000000 in
set_option maxRecDepth 100000 in
theorem mo_set (G : BcG) {gi : GI} {N : Nat} (I : Inv N (gi 336)) {H : List AA} (hl4 : H.length ≤ 4) (hP : gi 335 4 = 0 → PastR H gi) (x y : Int32) : Ct G mX9_set [.ref (G.1 + 335), .int x, .int y] (hp gi) (pM gi H (fSet (gi 336) x y)) := by
  refine ct_of [some (.ref (G.1 + 335)), some (.int x), some (.int y), none] w_10 (by decide) rfl (Nat.le_of_ble_eq_true rfl) rfl ?_
  refine go_iload_n 1 dX9_set_0 rfl rfl (ls_s ls_0) ?_
  refine go_iconst 2 (v := 0) dX9_set_1 rfl (by decide) ?_
  refine go_iconst 3 (v := 1) dX9_set_2 rfl (by decide) ?_
  refine go_SI (M' := mX9_in) 6 dX9_set_3 rfl w_768 okX9_in ⟨Nat.le_of_ble_eq_true rfl, Nat.le_of_ble_eq_true rfl⟩ (m_in G gi _ _ _) rfl rfl (kk := ?_)
  refine go_ifeq_b 28 9 dX9_set_6 (by decide) rfl (fun c_6 => ?_) (fun c_6 => ?_)
  · refine go_iconst 29 (v := (-1)) dX9_set_28 rfl (by decide) ?_
    exact go_ret_i dX9_set_29 rfl rfl rfl (pM_e (fSet_1 (fun z => c_6 z.1)) (by decide) hP)
  · refine go_iload_n 10 dX9_set_9 rfl rfl (ls_s (ls_s ls_0)) ?_
    refine go_iconst 11 (v := 0) dX9_set_10 rfl (by decide) ?_
    refine go_iload_n 12 dX9_set_11 rfl rfl (ls_s ls_0) ?_
    refine go_if_ne 20 15 dX9_set_12 (by decide) rfl (fun c_12 => ?_) (fun c_12 => ?_)
    · refine go_bipush 22 (v := 50) dX9_set_20 rfl (by decide) ?_
      refine go_SI (M' := mX9_in) 25 dX9_set_22 rfl w_768 okX9_in ⟨Nat.le_of_ble_eq_true rfl, Nat.le_of_ble_eq_true rfl⟩ (m_in G gi _ _ _) rfl rfl (kk := ?_)
      refine go_ifne_b 30 28 dX9_set_25 (by decide) rfl (fun c_25 => ?_) (fun c_25 => ?_)
      · obtain ⟨i, hi, rfl⟩ := in2 c_6
        refine go_aload_n 31 dX9_set_30 rfl rfl ls_0 ?_
        refine go_V (M' := mX9_changes) 34 dX9_set_31 rfl w_771 okX9_changes ⟨Nat.le_of_ble_eq_true rfl, Nat.le_of_ble_eq_true rfl⟩ rfl rfl (Nat.le_of_ble_eq_true rfl) (Nat.le_of_ble_eq_true rfl) (m_changes G hl4 hP) rfl rfl (Nat.le_of_ble_eq_true rfl) o335 (by decide) rfl (fun v_31 h_31 p_31 => ?_)
        obtain ⟨rfl, g1, rfl, o, p⟩ := p_31
        have e1 : g1 336 = gi 336 := o.1 336 (by decide) (by decide)
        have e1' : ∀ j, g1 336 j = gi 336 j := fun j => congrFun e1 j
        have I1 : Inv N (g1 336) := by rw [e1]; exact I
        refine go_aload_n 35 dX9_set_34 rfl rfl ls_0 ?_
        refine gp_getR 38 dX9_set_35 rfl f_X9_7 rfl o335 rfl ?_
        refine go_iload_n 39 dX9_set_38 rfl rfl (ls_s ls_0) ?_
        refine gp_ialdN 40 (i := i) dX9_set_39 rfl a336 rfl (by omega) (by decide) ?_
        refine go_top (y := (gi 336 i)) (e1' _) ?_
        refine go_istore_n 41 dX9_set_40 rfl rfl (by decide) (st_s (st_s (st_s st_0))) ?_
        refine go_aload_n 42 dX9_set_41 rfl rfl ls_0 ?_
        refine gp_getR 45 dX9_set_42 rfl f_X9_7 rfl o335 rfl ?_
        refine go_iload_n 46 dX9_set_45 rfl rfl (ls_s ls_0) ?_
        refine go_iload_n 47 dX9_set_46 rfl rfl (ls_s (ls_s ls_0)) ?_
        refine gp_iastN 48 (i := i) dX9_set_47 rfl a336 rfl (by omega) (by decide) ?_
        refine go_iload_n 49 dX9_set_48 rfl rfl (ls_s (ls_s (ls_s ls_0))) ?_
        exact go_ret_i dX9_set_49 rfl rfl rfl (pM_m ((fSet_y ⟨c_6, by rw [cIf_f c_12]; exact c_25⟩).trans (by rw [iN_n (by omega)])) (set_nn I hi) o p (by simp only [g336, e1]) (fun k hk => by simp only [wI_row hk]))
      · refine go_iconst 29 (v := (-1)) dX9_set_28 rfl (by decide) ?_
        exact go_ret_i dX9_set_29 rfl rfl rfl (pM_e (fSet_1 (fun z => c_25 (by have := z.2; rw [cIf_f c_12] at this; exact this))) (by decide) hP)
    · refine go_bipush 17 (v := 100) dX9_set_15 rfl (by decide) ?_
      refine go_goto 22 dX9_set_17 (by decide) ?_
      refine go_SI (M' := mX9_in) 25 dX9_set_22 rfl w_768 okX9_in ⟨Nat.le_of_ble_eq_true rfl, Nat.le_of_ble_eq_true rfl⟩ (m_in G gi _ _ _) rfl rfl (kk := ?_)
      refine go_ifne_b 30 28 dX9_set_25 (by decide) rfl (fun c_25 => ?_) (fun c_25 => ?_)
      · obtain ⟨i, hi, rfl⟩ := in2 c_6
        refine go_aload_n 31 dX9_set_30 rfl rfl ls_0 ?_
        refine go_V (M' := mX9_changes) 34 dX9_set_31 rfl w_771 okX9_changes ⟨Nat.le_of_ble_eq_true rfl, Nat.le_of_ble_eq_true rfl⟩ rfl rfl (Nat.le_of_ble_eq_true rfl) (Nat.le_of_ble_eq_true rfl) (m_changes G hl4 hP) rfl rfl (Nat.le_of_ble_eq_true rfl) o335 (by decide) rfl (fun v_31 h_31 p_31 => ?_)
        obtain ⟨rfl, g1, rfl, o, p⟩ := p_31
        have e1 : g1 336 = gi 336 := o.1 336 (by decide) (by decide)
        have e1' : ∀ j, g1 336 j = gi 336 j := fun j => congrFun e1 j
        have I1 : Inv N (g1 336) := by rw [e1]; exact I
        refine go_aload_n 35 dX9_set_34 rfl rfl ls_0 ?_
        refine gp_getR 38 dX9_set_35 rfl f_X9_7 rfl o335 rfl ?_
        refine go_iload_n 39 dX9_set_38 rfl rfl (ls_s ls_0) ?_
        refine gp_ialdN 40 (i := i) dX9_set_39 rfl a336 rfl (by omega) (by decide) ?_
        refine go_top (y := (gi 336 i)) (e1' _) ?_
        refine go_istore_n 41 dX9_set_40 rfl rfl (by decide) (st_s (st_s (st_s st_0))) ?_
        refine go_aload_n 42 dX9_set_41 rfl rfl ls_0 ?_
        refine gp_getR 45 dX9_set_42 rfl f_X9_7 rfl o335 rfl ?_
        refine go_iload_n 46 dX9_set_45 rfl rfl (ls_s ls_0) ?_
        refine go_iload_n 47 dX9_set_46 rfl rfl (ls_s (ls_s ls_0)) ?_
        refine gp_iastN 48 (i := i) dX9_set_47 rfl a336 rfl (by omega) (by decide) ?_
        refine go_iload_n 49 dX9_set_48 rfl rfl (ls_s (ls_s (ls_s ls_0))) ?_
        exact go_ret_i dX9_set_49 rfl rfl rfl (pM_m ((fSet_y ⟨c_6, by rw [cIf_t c_12]; exact c_25⟩).trans (by rw [iN_n (by omega)])) (set_nn I hi) o p (by simp only [g336, e1]) (fun k hk => by simp only [wI_row hk]))
      · refine go_iconst 29 (v := (-1)) dX9_set_28 rfl (by decide) ?_
        exact go_ret_i dX9_set_29 rfl rfl rfl (pM_e (fSet_1 (fun z => c_25 (by have := z.2; rw [cIf_t c_12] at this; exact this))) (by decide) hP)
set_option maxHeartbeats 4000000 in
set_option maxRecDepth 100000 in
theorem m_goes (G : BcG) (gi : GI) {b v : Nat} (hb : b < 6) (hv : v < 6) (h4 : gi 336 (145 + 9 * b + 4) = nI v) : Ct G mX9_goes [.ref (G.1 + 335), .int (nI b)] (hp gi) (pI (gi 336 (145 + 9 * b + 2)) (hp (wI (wI gi 336 (103 + 5 * v + 2) (-1)) 336 (145 + 9 * b) 0))) := by
  refine ct_of [some (.ref (G.1 + 335)), some (.int (nI b))] w_10 (by decide) rfl (Nat.le_of_ble_eq_true rfl) rfl ?_
  refine go_aload_n 1 dX9_goes_0 rfl rfl ls_0 ?_
  refine go_aload_n 2 dX9_goes_1 rfl rfl ls_0 ?_
  refine go_iload_n 3 dX9_goes_2 rfl rfl (ls_s ls_0) ?_
  refine go_iconst 4 (v := 4) dX9_goes_3 rfl (by decide) ?_
  refine go_VI (M' := mX9_of) 7 dX9_goes_4 rfl w_791 okX9_of ⟨Nat.le_of_ble_eq_true rfl, Nat.le_of_ble_eq_true rfl⟩ (m_of G gi (j := 145 + 9 * b + 4) rfl (by omega)) rfl rfl o335 (by decide) rfl (kk := ?_)
  refine go_top (y := (nI v)) h4 ?_
  refine go_iconst 8 (v := 2) dX9_goes_7 rfl (by decide) ?_
  refine go_iconst 9 (v := (-1)) dX9_goes_8 rfl (by decide) ?_
  refine go_VN (M' := mX9_putsVessel) 12 dX9_goes_9 rfl w_803 okX9_putsVessel ⟨Nat.le_of_ble_eq_true rfl, Nat.le_of_ble_eq_true rfl⟩ (m_putsVessel G gi (j := 103 + 5 * v + 2) rfl (by omega) _) rfl rfl o335 (by decide) rfl (kk := ?_)
  refine go_aload_n 13 dX9_goes_12 rfl rfl ls_0 ?_
  refine go_iload_n 14 dX9_goes_13 rfl rfl (ls_s ls_0) ?_
  refine go_iconst 15 (v := 0) dX9_goes_14 rfl (by decide) ?_
  refine go_iconst 16 (v := 0) dX9_goes_15 rfl (by decide) ?_
  refine go_VN (M' := mX9_puts) 19 dX9_goes_16 rfl w_846 okX9_puts ⟨Nat.le_of_ble_eq_true rfl, Nat.le_of_ble_eq_true rfl⟩ (m_puts G (wI gi 336 (103 + 5 * v + 2) (-1)) (j := 145 + 9 * b) rfl (by omega) _) rfl rfl o335 (by decide) rfl (kk := ?_)
  refine go_aload_n 20 dX9_goes_19 rfl rfl ls_0 ?_
  refine go_iload_n 21 dX9_goes_20 rfl rfl (ls_s ls_0) ?_
  refine go_iconst 22 (v := 2) dX9_goes_21 rfl (by decide) ?_
  refine go_VI (M' := mX9_of) 25 dX9_goes_22 rfl w_791 okX9_of ⟨Nat.le_of_ble_eq_true rfl, Nat.le_of_ble_eq_true rfl⟩ (m_of G (wI (wI gi 336 (103 + 5 * v + 2) (-1)) 336 (145 + 9 * b) 0) (j := 145 + 9 * b + 2) rfl (by omega)) rfl rfl o335 (by decide) rfl (kk := ?_)
  exact go_ret_i dX9_goes_25 rfl rfl rfl (pI_of (by simp (disch := omega) only [wI_ne]) rfl)
set_option maxHeartbeats 4000000 in
set_option maxRecDepth 100000 in
theorem mo_discard (G : BcG) {gi : GI} {N : Nat} (I : Inv N (gi 336)) {H : List AA} (hl4 : H.length ≤ 4) (hP : gi 335 4 = 0 → PastR H gi) (x : Int32) : Ct G mX9_discard [.ref (G.1 + 335), .int x] (hp gi) (pM gi H (fDiscard (gi 336) x)) := by
  refine ct_of [some (.ref (G.1 + 335)), some (.int x), none] w_10 (by decide) rfl (Nat.le_of_ble_eq_true rfl) rfl ?_
  refine go_aload_n 1 dX9_discard_0 rfl rfl ls_0 ?_
  refine go_iload_n 2 dX9_discard_1 rfl rfl (ls_s ls_0) ?_
  refine go_VI (M' := mX9_isBatch) 5 dX9_discard_2 rfl w_787 okX9_isBatch ⟨Nat.le_of_ble_eq_true rfl, Nat.le_of_ble_eq_true rfl⟩ (m_isBatch G gi _) rfl rfl o335 (by decide) rfl (kk := ?_)
  refine go_ifne_b 10 8 dX9_discard_5 (by decide) rfl (fun c_5 => ?_) (fun c_5 => ?_)
  · obtain ⟨b, hb, rfl, hl⟩ := c_5
    have i := I.b1 hb hl
    have hr4 := I.bR4 hb hl
    have hs4 := I.bS4 hb hl
    have hw6 := I.bV6 hb hl
    have hpr := pr_n I hb hl
    refine go_aload_n 11 dX9_discard_10 rfl rfl ls_0 ?_
    refine go_V (M' := mX9_changes) 14 dX9_discard_11 rfl w_771 okX9_changes ⟨Nat.le_of_ble_eq_true rfl, Nat.le_of_ble_eq_true rfl⟩ rfl rfl (Nat.le_of_ble_eq_true rfl) (Nat.le_of_ble_eq_true rfl) (m_changes G hl4 hP) rfl rfl (Nat.le_of_ble_eq_true rfl) o335 (by decide) rfl (fun v_11 h_11 p_11 => ?_)
    obtain ⟨rfl, g1, rfl, o, p⟩ := p_11
    have e1 : g1 336 = gi 336 := o.1 336 (by decide) (by decide)
    have e1' : ∀ j, g1 336 j = gi 336 j := fun j => congrFun e1 j
    have I1 : Inv N (g1 336) := by rw [e1]; exact I
    refine go_aload_n 15 dX9_discard_14 rfl rfl ls_0 ?_
    refine go_iload_n 16 dX9_discard_15 rfl rfl (ls_s ls_0) ?_
    refine go_VI (M' := mX9_goes) 19 dX9_discard_16 rfl w_890 okX9_goes ⟨Nat.le_of_ble_eq_true rfl, Nat.le_of_ble_eq_true rfl⟩ (m_goes G g1 (v := bV (gi 336) b) hb hw6 ((e1' _).trans i.2.2.1.1)) rfl rfl o335 (by decide) rfl (kk := ?_)
    refine go_top (y := (gi 336 (145 + 9 * b + 2))) (e1' _) ?_
    refine go_istore_n 20 dX9_discard_19 rfl rfl (by decide) (st_s (st_s st_0)) ?_
    refine go_aload_n 21 dX9_discard_20 rfl rfl ls_0 ?_
    refine gp_getR 24 dX9_discard_21 rfl f_X9_7 rfl o335 rfl ?_
    refine go_bipush 26 (v := 8) dX9_discard_24 rfl (by decide) ?_
    refine go_dup2 27 dX9_discard_26 rfl rfl rfl ?_
    refine gp_ialdN 28 (i := 8) dX9_discard_27 rfl a336 rfl (by decide) (by decide) ?_
    refine go_top (y := (gi 336 8)) (by simp (disch := omega) only [wI_ne, wI_eq, e1']) ?_
    refine go_iload_n 29 dX9_discard_28 rfl rfl (ls_s (ls_s ls_0)) ?_
    refine go_iadd 30 dX9_discard_29 rfl ?_
    refine gp_iastN 31 (i := 8) dX9_discard_30 rfl a336 rfl (by decide) (by decide) ?_
    refine go_iload_n 32 dX9_discard_31 rfl rfl (ls_s (ls_s ls_0)) ?_
    exact go_ret_i dX9_discard_32 rfl rfl rfl (pM_m ((fDiscard_y (isBat_n hb hl)).trans (by rw [iN_n (by omega)])) (bd_nn i.2.2.2.1 (by decide)) o p (by simp only [g336, e1]; rfl) (fun k hk => by simp only [wI_row hk]))
  · refine go_iconst 9 (v := (-1)) dX9_discard_8 rfl (by decide) ?_
    exact go_ret_i dX9_discard_9 rfl rfl rfl (pM_e (fDiscard_1 c_5) (by decide) hP)
theorem en_iff {a s : Nat} (h : a < s) (hs : s ≤ 4) : nI (s - 1) ≤ nI a ↔ ¬ a + 1 < s := by
  rw [nI_leI (by omega) (by omega)]
  omega
set_option maxHeartbeats 4000000 in
set_option maxRecDepth 100000 in
theorem mo_end (G : BcG) {gi : GI} {N : Nat} (I : Inv N (gi 336)) {H : List AA} (hl4 : H.length ≤ 4) (hP : gi 335 4 = 0 → PastR H gi) (x : Int32) : Ct G mX9_end [.ref (G.1 + 335), .int x] (hp gi) (pM gi H (fEnd (gi 336) x)) := by
  refine ct_of [some (.ref (G.1 + 335)), some (.int x), none] w_10 (by decide) rfl (Nat.le_of_ble_eq_true rfl) rfl ?_
  refine go_aload_n 1 dX9_end_0 rfl rfl ls_0 ?_
  refine go_iload_n 2 dX9_end_1 rfl rfl (ls_s ls_0) ?_
  refine go_VI (M' := mX9_isBatch) 5 dX9_end_2 rfl w_787 okX9_isBatch ⟨Nat.le_of_ble_eq_true rfl, Nat.le_of_ble_eq_true rfl⟩ (m_isBatch G gi _) rfl rfl o335 (by decide) rfl (kk := ?_)
  refine go_ifne_b 10 8 dX9_end_5 (by decide) rfl (fun c_5 => ?_) (fun c_5 => ?_)
  · obtain ⟨b, hb, rfl, hl⟩ := c_5
    have i := I.b1 hb hl
    have hr4 := I.bR4 hb hl
    have hs4 := I.bS4 hb hl
    have hw6 := I.bV6 hb hl
    have hpr := pr_n I hb hl
    refine go_aload_n 11 dX9_end_10 rfl rfl ls_0 ?_
    refine go_iload_n 12 dX9_end_11 rfl rfl (ls_s ls_0) ?_
    refine go_VI (M' := mX9_isRipe) 15 dX9_end_12 rfl w_866 okX9_isRipe ⟨Nat.le_of_ble_eq_true rfl, Nat.le_of_ble_eq_true rfl⟩ (m_isRipe G I hb hl) rfl rfl o335 (by decide) rfl (kk := ?_)
    refine go_ifeq_b 39 18 dX9_end_15 (by decide) rfl (fun c_15 => ?_) (fun c_15 => ?_)
    · refine go_bipush 41 (v := (-2)) dX9_end_39 rfl (by decide) ?_
      exact go_ret_i dX9_end_41 rfl rfl rfl (pM_e (fEnd_2 (isBat_n hb hl) (fun z => c_15 (by have := z.1; rw [iN_n (by omega)] at this; exact this))) (by decide) hP)
    · refine go_aload_n 19 dX9_end_18 rfl rfl ls_0 ?_
      refine go_iload_n 20 dX9_end_19 rfl rfl (ls_s ls_0) ?_
      refine go_iconst 21 (v := 3) dX9_end_20 rfl (by decide) ?_
      refine go_VI (M' := mX9_of) 24 dX9_end_21 rfl w_791 okX9_of ⟨Nat.le_of_ble_eq_true rfl, Nat.le_of_ble_eq_true rfl⟩ (m_of G gi (j := 145 + 9 * b + 3) rfl (by omega)) rfl rfl o335 (by decide) rfl (kk := ?_)
      refine go_top (y := (nI (bS (gi 336) b))) i.2.1.1 ?_
      refine go_aload_n 25 dX9_end_24 rfl rfl ls_0 ?_
      refine go_aload_n 26 dX9_end_25 rfl rfl ls_0 ?_
      refine go_iload_n 27 dX9_end_26 rfl rfl (ls_s ls_0) ?_
      refine go_iconst 28 (v := 1) dX9_end_27 rfl (by decide) ?_
      refine go_VI (M' := mX9_of) 31 dX9_end_28 rfl w_791 okX9_of ⟨Nat.le_of_ble_eq_true rfl, Nat.le_of_ble_eq_true rfl⟩ (m_of G gi (j := 145 + 9 * b + 1) rfl (by omega)) rfl rfl o335 (by decide) rfl (kk := ?_)
      refine go_top (y := (nI (bR (gi 336) b))) i.1.1 ?_
      refine go_VI (M' := mX9_stages) 34 dX9_end_31 rfl w_795 okX9_stages ⟨Nat.le_of_ble_eq_true rfl, Nat.le_of_ble_eq_true rfl⟩ (m_stages G gi (r := (bR (gi 336) b)) (by omega)) rfl rfl o335 (by decide) rfl (kk := ?_)
      refine go_top (y := (nI (nS (gi 336) (bR (gi 336) b)))) (I.eS hr4) ?_
      refine go_iconst 35 (v := 1) dX9_end_34 rfl (by decide) ?_
      refine go_isub 36 dX9_end_35 rfl ?_
      refine go_top (y := (nI (nS (gi 336) (bR (gi 336) b) - 1))) (by rw [show (1 : Int32) = nI 1 from rfl]; exact pk_sub (by have := i.2.1.2; omega)) ?_
      refine go_icmp_ge 42 39 dX9_end_36 (by decide) rfl (fun c_36 => ?_) (fun c_36 => ?_)
      · refine go_aload_n 43 dX9_end_42 rfl rfl ls_0 ?_
        refine go_V (M' := mX9_changes) 46 dX9_end_43 rfl w_771 okX9_changes ⟨Nat.le_of_ble_eq_true rfl, Nat.le_of_ble_eq_true rfl⟩ rfl rfl (Nat.le_of_ble_eq_true rfl) (Nat.le_of_ble_eq_true rfl) (m_changes G hl4 hP) rfl rfl (Nat.le_of_ble_eq_true rfl) o335 (by decide) rfl (fun v_43 h_43 p_43 => ?_)
        obtain ⟨rfl, g1, rfl, o, p⟩ := p_43
        have e1 : g1 336 = gi 336 := o.1 336 (by decide) (by decide)
        have e1' : ∀ j, g1 336 j = gi 336 j := fun j => congrFun e1 j
        have I1 : Inv N (g1 336) := by rw [e1]; exact I
        refine go_aload_n 47 dX9_end_46 rfl rfl ls_0 ?_
        refine go_iload_n 48 dX9_end_47 rfl rfl (ls_s ls_0) ?_
        refine go_VI (M' := mX9_goes) 51 dX9_end_48 rfl w_890 okX9_goes ⟨Nat.le_of_ble_eq_true rfl, Nat.le_of_ble_eq_true rfl⟩ (m_goes G g1 (v := bV (gi 336) b) hb hw6 ((e1' _).trans i.2.2.1.1)) rfl rfl o335 (by decide) rfl (kk := ?_)
        refine go_top (y := (gi 336 (145 + 9 * b + 2))) (e1' _) ?_
        refine go_istore_n 52 dX9_end_51 rfl rfl (by decide) (st_s (st_s st_0)) ?_
        refine go_aload_n 53 dX9_end_52 rfl rfl ls_0 ?_
        refine go_iload_n 54 dX9_end_53 rfl rfl (ls_s ls_0) ?_
        refine go_bipush 56 (v := 6) dX9_end_54 rfl (by decide) ?_
        refine go_VI (M' := mX9_of) 59 dX9_end_56 rfl w_791 okX9_of ⟨Nat.le_of_ble_eq_true rfl, Nat.le_of_ble_eq_true rfl⟩ (m_of G (wI (wI g1 336 (103 + 5 * bV (gi 336) b + 2) (-1)) 336 (145 + 9 * b) 0) (j := 145 + 9 * b + 6) rfl (by omega)) rfl rfl o335 (by decide) rfl (kk := ?_)
        refine go_top (y := (gi 336 (145 + 9 * b + 6))) (by simp (disch := omega) only [wI_ne, wI_eq, e1']) ?_
        refine go_iconst 60 (v := 1) dX9_end_59 rfl (by decide) ?_
        refine go_icmp_ne 88 63 dX9_end_60 (by decide) rfl (fun c_60 => ?_) (fun c_60 => ?_)
        · refine go_aload_n 89 dX9_end_88 rfl rfl ls_0 ?_
          refine gp_getR 92 dX9_end_89 rfl f_X9_7 rfl o335 rfl ?_
          refine go_bipush 94 (v := 7) dX9_end_92 rfl (by decide) ?_
          refine go_dup2 95 dX9_end_94 rfl rfl rfl ?_
          refine gp_ialdN 96 (i := 7) dX9_end_95 rfl a336 rfl (by decide) (by decide) ?_
          refine go_top (y := (gi 336 7)) (by simp (disch := omega) only [wI_ne, wI_eq, e1']) ?_
          refine go_iload_n 97 dX9_end_96 rfl rfl (ls_s (ls_s ls_0)) ?_
          refine go_iadd 98 dX9_end_97 rfl ?_
          refine gp_iastN 99 (i := 7) dX9_end_98 rfl a336 rfl (by decide) (by decide) ?_
          refine go_aload_n 100 dX9_end_99 rfl rfl ls_0 ?_
          refine gp_getR 103 dX9_end_100 rfl f_X9_7 rfl o335 rfl ?_
          refine go_bipush 105 (v := 9) dX9_end_103 rfl (by decide) ?_
          refine go_dup2 106 dX9_end_105 rfl rfl rfl ?_
          refine gp_ialdN 107 (i := 9) dX9_end_106 rfl a336 rfl (by decide) (by decide) ?_
          refine go_top (y := (gi 336 9)) (by simp (disch := omega) only [wI_ne, wI_eq, e1']) ?_
          refine go_iconst 108 (v := 1) dX9_end_107 rfl (by decide) ?_
          refine go_iadd 109 dX9_end_108 rfl ?_
          refine gp_iastN 110 (i := 9) dX9_end_109 rfl a336 rfl (by decide) (by decide) ?_
          refine go_iload_n 111 dX9_end_110 rfl rfl (ls_s (ls_s ls_0)) ?_
          exact go_ret_i dX9_end_111 rfl rfl rfl (pM_m ((fEnd_y (isBat_n hb hl) (by rw [iN_n (by omega)]; exact ⟨c_15, (en_iff i.2.1.2 (I.nS4 hr4)).mp c_36⟩)).trans (by rw [iN_n (by omega), cIf_f c_60])) (bd_nn i.2.2.2.1 (by decide)) o p (by simp only [g336, e1]; rfl) (fun k hk => by simp only [wI_row hk]))
        · refine go_aload_n 64 dX9_end_63 rfl rfl ls_0 ?_
          refine gp_getR 67 dX9_end_64 rfl f_X9_7 rfl o335 rfl ?_
          refine go_bipush 69 (v := 11) dX9_end_67 rfl (by decide) ?_
          refine go_aload_n 70 dX9_end_69 rfl rfl ls_0 ?_
          refine go_aload_n 71 dX9_end_70 rfl rfl ls_0 ?_
          refine go_iload_n 72 dX9_end_71 rfl rfl (ls_s ls_0) ?_
          refine go_iconst 73 (v := 1) dX9_end_72 rfl (by decide) ?_
          refine go_VI (M' := mX9_of) 76 dX9_end_73 rfl w_791 okX9_of ⟨Nat.le_of_ble_eq_true rfl, Nat.le_of_ble_eq_true rfl⟩ (m_of G (wI (wI g1 336 (103 + 5 * bV (gi 336) b + 2) (-1)) 336 (145 + 9 * b) 0) (j := 145 + 9 * b + 1) rfl (by omega)) rfl rfl o335 (by decide) rfl (kk := ?_)
          refine go_top (y := (nI (bR (gi 336) b))) (by simp (disch := omega) only [wI_ne, wI_eq, e1']; exact i.1.1) ?_
          refine go_VI (M' := mX9_product) 79 dX9_end_76 rfl w_822 okX9_product ⟨Nat.le_of_ble_eq_true rfl, Nat.le_of_ble_eq_true rfl⟩ (m_product G (wI (wI g1 336 (103 + 5 * bV (gi 336) b + 2) (-1)) 336 (145 + 9 * b) 0) (r := (bR (gi 336) b)) (by omega)) rfl rfl o335 (by decide) rfl (kk := ?_)
          refine go_top (y := (nI (iN (prF (gi 336) b)))) (by simp (disch := omega) only [wI_ne, wI_eq, e1']; exact hpr.1) ?_
          refine go_iadd 80 dX9_end_79 rfl ?_
          refine go_dup2 81 dX9_end_80 rfl rfl rfl ?_
          refine gp_ialdN 82 (i := (11 + iN (prF (gi 336) b))) dX9_end_81 rfl a336 (by rw [← nI_add]; rfl) (by have := hpr.2; omega) (by decide) ?_
          refine go_top (y := (gi 336 (11 + iN (prF (gi 336) b)))) (by simp (disch := omega) only [wI_ne, wI_eq, e1']) ?_
          refine go_iload_n 83 dX9_end_82 rfl rfl (ls_s (ls_s ls_0)) ?_
          refine go_iadd 84 dX9_end_83 rfl ?_
          refine gp_iastN 85 (i := (11 + iN (prF (gi 336) b))) dX9_end_84 rfl a336 (by rw [← nI_add]; rfl) (by have := hpr.2; omega) (by decide) ?_
          refine go_goto 110 dX9_end_85 (by decide) ?_
          refine go_iload_n 111 dX9_end_110 rfl rfl (ls_s (ls_s ls_0)) ?_
          exact go_ret_i dX9_end_111 rfl rfl rfl (pM_m ((fEnd_y (isBat_n hb hl) (by rw [iN_n (by omega)]; exact ⟨c_15, (en_iff i.2.1.2 (I.nS4 hr4)).mp c_36⟩)).trans (by rw [iN_n (by omega), cIf_t c_60])) (bd_nn i.2.2.2.1 (by decide)) o p (by simp only [g336, e1]; rfl) (fun k hk => by simp only [wI_row hk]))
      · refine go_bipush 41 (v := (-2)) dX9_end_39 rfl (by decide) ?_
        exact go_ret_i dX9_end_41 rfl rfl rfl (pM_e (fEnd_2 (isBat_n hb hl) (fun z => c_36 ((en_iff i.2.1.2 (I.nS4 hr4)).mpr (by have := z.2; rw [iN_n (by omega)] at this; exact this)))) (by decide) hP)
  · refine go_iconst 9 (v := (-1)) dX9_end_8 rfl (by decide) ?_
    exact go_ret_i dX9_end_9 rfl rfl rfl (pM_e (fEnd_1 c_5) (by decide) hP)
theorem bl_nn {N : Nat} {A : AA} (I : Inv N A) {b : Nat} (hb : b < 6) (hl : live A b) {m : Int32} (hm : inR m 1 999) (h : blOk A b m) : ¬ (A (145 + 9 * b + 2) + m) < 0 := by
  obtain ⟨k, hk1, hk9, rfl⟩ := in999 hm
  have h1 := (I.b1 hb hl).2.2.2.1
  rw [h1.1, nI_add]
  exact nI_pos (by have := h1.2; omega)
set_option maxHeartbeats 4000000 in
set_option maxRecDepth 100000 in
theorem mo_blend (G : BcG) {gi : GI} {N : Nat} (I : Inv N (gi 336)) {H : List AA} (hl4 : H.length ≤ 4) (hP : gi 335 4 = 0 → PastR H gi) (x m : Int32) : Ct G mX9_blend [.ref (G.1 + 335), .int x, .int m] (hp gi) (pM gi H (fBlend (gi 336) x m)) := by
  refine ct_of [some (.ref (G.1 + 335)), some (.int x), some (.int m)] w_10 (by decide) rfl (Nat.le_of_ble_eq_true rfl) rfl ?_
  refine go_aload_n 1 dX9_blend_0 rfl rfl ls_0 ?_
  refine go_iload_n 2 dX9_blend_1 rfl rfl (ls_s ls_0) ?_
  refine go_VI (M' := mX9_isBatch) 5 dX9_blend_2 rfl w_787 okX9_isBatch ⟨Nat.le_of_ble_eq_true rfl, Nat.le_of_ble_eq_true rfl⟩ (m_isBatch G gi _) rfl rfl o335 (by decide) rfl (kk := ?_)
  refine go_ifeq_b 19 8 dX9_blend_5 (by decide) rfl (fun c_5 => ?_) (fun c_5 => ?_)
  · refine go_iconst 20 (v := (-1)) dX9_blend_19 rfl (by decide) ?_
    exact go_ret_i dX9_blend_20 rfl rfl rfl (pM_e (fBlend_1 (fun z => c_5 z.1)) (by decide) hP)
  · refine go_iload_n 9 dX9_blend_8 rfl rfl (ls_s (ls_s ls_0)) ?_
    refine go_iconst 10 (v := 1) dX9_blend_9 rfl (by decide) ?_
    refine go_sipush 13 (v := 999) dX9_blend_10 rfl (by decide) ?_
    refine go_SI (M' := mX9_in) 16 dX9_blend_13 rfl w_768 okX9_in ⟨Nat.le_of_ble_eq_true rfl, Nat.le_of_ble_eq_true rfl⟩ (m_in G gi _ _ _) rfl rfl (kk := ?_)
    refine go_ifne_b 21 19 dX9_blend_16 (by decide) rfl (fun c_16 => ?_) (fun c_16 => ?_)
    · obtain ⟨b, hb, rfl, hl⟩ := c_5
      have i := I.b1 hb hl
      have hr4 := I.bR4 hb hl
      have hs4 := I.bS4 hb hl
      have hw6 := I.bV6 hb hl
      have hpr := pr_n I hb hl
      refine go_aload_n 22 dX9_blend_21 rfl rfl ls_0 ?_
      refine go_iload_n 23 dX9_blend_22 rfl rfl (ls_s ls_0) ?_
      refine go_iload_n 24 dX9_blend_23 rfl rfl (ls_s (ls_s ls_0)) ?_
      refine go_VI (M' := mX9_canBlend) 27 dX9_blend_24 rfl w_902 okX9_canBlend ⟨Nat.le_of_ble_eq_true rfl, Nat.le_of_ble_eq_true rfl⟩ (m_canBlend G I hb hl _) rfl rfl o335 (by decide) rfl (kk := ?_)
      refine go_ifne_b 33 30 dX9_blend_27 (by decide) rfl (fun c_27 => ?_) (fun c_27 => ?_)
      · have hF := (fBlend_y ⟨isBat_n hb hl, c_16⟩ (by rw [iN_n (by omega)]; exact c_27))
        rw [iN_n (by omega)] at hF
        have hng : ¬ (gi 336 (145 + 9 * b + 2) + m) < 0 := fun z => bl_nn I hb hl c_16 c_27 z
        refine go_aload_n 34 dX9_blend_33 rfl rfl ls_0 ?_
        refine go_V (M' := mX9_changes) 37 dX9_blend_34 rfl w_771 okX9_changes ⟨Nat.le_of_ble_eq_true rfl, Nat.le_of_ble_eq_true rfl⟩ rfl rfl (Nat.le_of_ble_eq_true rfl) (Nat.le_of_ble_eq_true rfl) (m_changes G hl4 hP) rfl rfl (Nat.le_of_ble_eq_true rfl) o335 (by decide) rfl (fun v_34 h_34 p_34 => ?_)
        obtain ⟨rfl, g1, rfl, o, p⟩ := p_34
        have e1 : g1 336 = gi 336 := o.1 336 (by decide) (by decide)
        have e1' : ∀ j, g1 336 j = gi 336 j := fun j => congrFun e1 j
        have I1 : Inv N (g1 336) := by rw [e1]; exact I
        refine go_aload_n 38 dX9_blend_37 rfl rfl ls_0 ?_
        refine gp_getR 41 dX9_blend_38 rfl f_X9_7 rfl o335 rfl ?_
        refine go_bipush 43 (v := 11) dX9_blend_41 rfl (by decide) ?_
        refine go_aload_n 44 dX9_blend_43 rfl rfl ls_0 ?_
        refine go_aload_n 45 dX9_blend_44 rfl rfl ls_0 ?_
        refine go_iload_n 46 dX9_blend_45 rfl rfl (ls_s ls_0) ?_
        refine go_iconst 47 (v := 1) dX9_blend_46 rfl (by decide) ?_
        refine go_VI (M' := mX9_of) 50 dX9_blend_47 rfl w_791 okX9_of ⟨Nat.le_of_ble_eq_true rfl, Nat.le_of_ble_eq_true rfl⟩ (m_of G g1 (j := 145 + 9 * b + 1) rfl (by omega)) rfl rfl o335 (by decide) rfl (kk := ?_)
        refine go_top (y := (nI (bR (gi 336) b))) (by simp (disch := omega) only [wI_ne, wI_eq, e1']; exact i.1.1) ?_
        refine go_VI (M' := mX9_product) 53 dX9_blend_50 rfl w_822 okX9_product ⟨Nat.le_of_ble_eq_true rfl, Nat.le_of_ble_eq_true rfl⟩ (m_product G g1 (r := (bR (gi 336) b)) (by omega)) rfl rfl o335 (by decide) rfl (kk := ?_)
        refine go_top (y := (nI (iN (prF (gi 336) b)))) (by simp (disch := omega) only [wI_ne, wI_eq, e1']; exact hpr.1) ?_
        refine go_iadd 54 dX9_blend_53 rfl ?_
        refine go_dup2 55 dX9_blend_54 rfl rfl rfl ?_
        refine gp_ialdN 56 (i := (11 + iN (prF (gi 336) b))) dX9_blend_55 rfl a336 (by rw [← nI_add]; rfl) (by have := hpr.2; omega) (by decide) ?_
        refine go_top (y := (gi 336 (11 + iN (prF (gi 336) b)))) (by simp (disch := omega) only [wI_ne, wI_eq, e1']) ?_
        refine go_iload_n 57 dX9_blend_56 rfl rfl (ls_s (ls_s ls_0)) ?_
        refine go_isub 58 dX9_blend_57 rfl ?_
        refine gp_iastN 59 (i := (11 + iN (prF (gi 336) b))) dX9_blend_58 rfl a336 (by rw [← nI_add]; rfl) (by have := hpr.2; omega) (by decide) ?_
        refine go_aload_n 60 dX9_blend_59 rfl rfl ls_0 ?_
        refine go_iload_n 61 dX9_blend_60 rfl rfl (ls_s ls_0) ?_
        refine go_bipush 63 (v := 7) dX9_blend_61 rfl (by decide) ?_
        refine go_aload_n 64 dX9_blend_63 rfl rfl ls_0 ?_
        refine go_iload_n 65 dX9_blend_64 rfl rfl (ls_s ls_0) ?_
        refine go_bipush 67 (v := 7) dX9_blend_65 rfl (by decide) ?_
        refine go_VI (M' := mX9_of) 70 dX9_blend_67 rfl w_791 okX9_of ⟨Nat.le_of_ble_eq_true rfl, Nat.le_of_ble_eq_true rfl⟩ (m_of G (wI g1 (336) ((11 + iN (prF (gi 336) b))) ((gi 336 (11 + iN (prF (gi 336) b))) - m)) (j := 145 + 9 * b + 7) rfl (by omega)) rfl rfl o335 (by decide) rfl (kk := ?_)
        refine go_top (y := (gi 336 (145 + 9 * b + 7))) (by simp (disch := omega) only [wI_ne, wI_eq, e1']) ?_
        refine go_iload_n 71 dX9_blend_70 rfl rfl (ls_s (ls_s ls_0)) ?_
        refine go_iadd 72 dX9_blend_71 rfl ?_
        refine go_VN (M' := mX9_puts) 75 dX9_blend_72 rfl w_846 okX9_puts ⟨Nat.le_of_ble_eq_true rfl, Nat.le_of_ble_eq_true rfl⟩ (m_puts G (wI g1 (336) ((11 + iN (prF (gi 336) b))) ((gi 336 (11 + iN (prF (gi 336) b))) - m)) (j := 145 + 9 * b + 7) rfl (by omega) _) rfl rfl o335 (by decide) rfl (kk := ?_)
        refine go_aload_n 76 dX9_blend_75 rfl rfl ls_0 ?_
        refine go_iload_n 77 dX9_blend_76 rfl rfl (ls_s ls_0) ?_
        refine go_iconst 78 (v := 2) dX9_blend_77 rfl (by decide) ?_
        refine go_aload_n 79 dX9_blend_78 rfl rfl ls_0 ?_
        refine go_iload_n 80 dX9_blend_79 rfl rfl (ls_s ls_0) ?_
        refine go_iconst 81 (v := 2) dX9_blend_80 rfl (by decide) ?_
        refine go_VI (M' := mX9_of) 84 dX9_blend_81 rfl w_791 okX9_of ⟨Nat.le_of_ble_eq_true rfl, Nat.le_of_ble_eq_true rfl⟩ (m_of G (wI (wI g1 (336) ((11 + iN (prF (gi 336) b))) ((gi 336 (11 + iN (prF (gi 336) b))) - m)) 336 (145 + 9 * b + 7) (((gi 336 (145 + 9 * b + 7)) + m))) (j := 145 + 9 * b + 2) rfl (by omega)) rfl rfl o335 (by decide) rfl (kk := ?_)
        refine go_top (y := (gi 336 (145 + 9 * b + 2))) (by simp (disch := omega) only [wI_ne, wI_eq, e1']) ?_
        refine go_iload_n 85 dX9_blend_84 rfl rfl (ls_s (ls_s ls_0)) ?_
        refine go_iadd 86 dX9_blend_85 rfl ?_
        refine go_VN (M' := mX9_puts) 89 dX9_blend_86 rfl w_846 okX9_puts ⟨Nat.le_of_ble_eq_true rfl, Nat.le_of_ble_eq_true rfl⟩ (m_puts G (wI (wI g1 (336) ((11 + iN (prF (gi 336) b))) ((gi 336 (11 + iN (prF (gi 336) b))) - m)) 336 (145 + 9 * b + 7) (((gi 336 (145 + 9 * b + 7)) + m))) (j := 145 + 9 * b + 2) rfl (by omega) _) rfl rfl o335 (by decide) rfl (kk := ?_)
        refine go_aload_n 90 dX9_blend_89 rfl rfl ls_0 ?_
        refine go_iload_n 91 dX9_blend_90 rfl rfl (ls_s ls_0) ?_
        refine go_iconst 92 (v := 2) dX9_blend_91 rfl (by decide) ?_
        refine go_VI (M' := mX9_of) 95 dX9_blend_92 rfl w_791 okX9_of ⟨Nat.le_of_ble_eq_true rfl, Nat.le_of_ble_eq_true rfl⟩ (m_of G (wI (wI (wI g1 (336) ((11 + iN (prF (gi 336) b))) ((gi 336 (11 + iN (prF (gi 336) b))) - m)) 336 (145 + 9 * b + 7) (((gi 336 (145 + 9 * b + 7)) + m))) 336 (145 + 9 * b + 2) (((gi 336 (145 + 9 * b + 2)) + m))) (j := 145 + 9 * b + 2) rfl (by omega)) rfl rfl o335 (by decide) rfl (kk := ?_)
        refine go_top (y := (gi 336 (145 + 9 * b + 2) + m)) (by rw [wI_eq]) ?_
        exact go_ret_i dX9_blend_95 rfl rfl rfl (pM_m hF (fun z => hng z) o p (by simp only [g336, e1]) (fun k hk => by simp only [wI_row hk]))
      · refine go_bipush 32 (v := (-2)) dX9_blend_30 rfl (by decide) ?_
        exact go_ret_i dX9_blend_32 rfl rfl rfl (pM_e (fBlend_2 ⟨isBat_n hb hl, c_16⟩ (by rw [iN_n (by omega)]; exact c_27)) (by decide) hP)
    · refine go_iconst 20 (v := (-1)) dX9_blend_19 rfl (by decide) ?_
      exact go_ret_i dX9_blend_20 rfl rfl rfl (pM_e (fBlend_1 (fun z => c_16 z.2)) (by decide) hP)
theorem ps_y {A : AA} {i n c : Nat} (h : spC A i) : psF A i (n + 1) c = psF (upd A (145 + 9 * i + 6) 1) (i + 1) n (c + 1) := by rw [psF, cIf_t h]
theorem ps_n {A : AA} {i n c : Nat} (h : ¬ spC A i) : psF A i (n + 1) c = psF A (i + 1) n c := by rw [psF, cIf_f h]
set_option maxHeartbeats 4000000 in
set_option maxRecDepth 100000 in
theorem lm_pass (G : BcG) {N : Nat} (m : Int32) (g1 : GI) {post : Option Value → BcH → Prop} : ∀ (n i : Nat) (c : Nat) (gi : GI), i + n = 6 → (Inv N (gi 336)) → (∀ k, k ≠ 336 → gi k = g1 k) → (∀ g2 : GI, g2 336 = upd (psF (gi 336) i n c).2 10 ((psF (gi 336) i n c).2 10 + (psF (gi 336) i n c).1) → (∀ k, k ≠ 336 → g2 k = g1 k) → post (some (.int (psF (gi 336) i n c).1)) (hp g2)) → BGo G mX9_pass (KM G mX9_pass 341 (post)) (hp gi) 0 0 48 [some (.ref (G.1 + 335)), some (.int m), some (.int (nI c)), some (.int (nI i))] [] := by
  intro n
  induction n with
  | zero =>
    intro i c gi hn I hu hpost
    obtain rfl : i = 6 := by omega
    refine go_iload_n 49 dX9_pass_48 rfl rfl (ls_s (ls_s (ls_s ls_0))) ?_
    refine go_bipush 51 (v := 6) dX9_pass_49 rfl (by decide) ?_
    refine go_icmp_ge 103 54 dX9_pass_51 (by decide) rfl (fun c_51 => ?_) (fun c_51 => absurd c_51 (by decide))
    refine go_aload_n 104 dX9_pass_103 rfl rfl ls_0 ?_
    refine gp_getR 107 dX9_pass_104 rfl f_X9_7 rfl o335 rfl ?_
    refine go_bipush 109 (v := 10) dX9_pass_107 rfl (by decide) ?_
    refine go_dup2 110 dX9_pass_109 rfl rfl rfl ?_
    refine gp_ialdN 111 (i := 10) dX9_pass_110 rfl a336 rfl (by decide) (by decide) ?_
    refine go_iload_n 112 dX9_pass_111 rfl rfl (ls_s (ls_s ls_0)) ?_
    refine go_iadd 113 dX9_pass_112 rfl ?_
    refine gp_iastN 114 (i := 10) dX9_pass_113 rfl a336 rfl (by decide) (by decide) ?_
    refine go_iload_n 115 dX9_pass_114 rfl rfl (ls_s (ls_s ls_0)) ?_
    exact go_ret_i dX9_pass_115 rfl rfl rfl (hpost _ (g336 _ _ _) (fun k hk => by rw [wI_row hk]; exact hu k hk))
  | succ n ih =>
    intro i c gi hn I hu hpost
    have hi6 : i < 6 := by omega
    refine go_iload_n 49 dX9_pass_48 rfl rfl (ls_s (ls_s (ls_s ls_0))) ?_
    refine go_bipush 51 (v := 6) dX9_pass_49 rfl (by decide) ?_
    refine go_icmp_ge 103 54 dX9_pass_51 (by decide) rfl (fun c_51 => absurd c_51 (nI_ge hi6 (by decide))) (fun c_51 => ?_)
    refine go_aload_n 55 dX9_pass_54 rfl rfl ls_0 ?_
    refine go_iload_n 56 dX9_pass_55 rfl rfl (ls_s (ls_s (ls_s ls_0))) ?_
    refine go_VI (M' := mX9_isBatch) 59 dX9_pass_56 rfl w_787 okX9_isBatch ⟨Nat.le_of_ble_eq_true rfl, Nat.le_of_ble_eq_true rfl⟩ (m_isBatch G gi _) rfl rfl o335 (by decide) rfl (kk := ?_)
    refine go_ifeq_b 97 62 dX9_pass_59 (by decide) rfl (fun c_59 => ?_) (fun c_59 => ?_)
    · refine go_iinc 100 (v := (nI (i + 1))) dX9_pass_97 rfl (ls_s (ls_s (ls_s ls_0))) (by exact nI_1 i) (by decide) (st_s (st_s (st_s st_0))) ?_
      refine go_goto 48 dX9_pass_100 (by decide) ?_
      have hR : psF (gi 336) i (n + 1) c = psF (gi 336) (i + 1) n c := ps_n (fun z => c_59 ((bat_i hi6).mpr z.1))
      rw [hR] at hpost
      exact ih (i + 1) c _ (by omega) I hu hpost
    · have hli : live (gi 336) i := (bat_i hi6).mp c_59
      refine go_aload_n 63 dX9_pass_62 rfl rfl ls_0 ?_
      refine go_iload_n 64 dX9_pass_63 rfl rfl (ls_s (ls_s (ls_s ls_0))) ?_
      refine go_bipush 66 (v := 6) dX9_pass_64 rfl (by decide) ?_
      refine go_VI (M' := mX9_of) 69 dX9_pass_66 rfl w_791 okX9_of ⟨Nat.le_of_ble_eq_true rfl, Nat.le_of_ble_eq_true rfl⟩ (m_of G gi (j := 145 + 9 * i + 6) rfl (by omega)) rfl rfl o335 (by decide) rfl (kk := ?_)
      refine go_if_ne 97 72 dX9_pass_69 (by decide) rfl (fun c_69 => ?_) (fun c_69 => ?_)
      · refine go_iinc 100 (v := (nI (i + 1))) dX9_pass_97 rfl (ls_s (ls_s (ls_s ls_0))) (by exact nI_1 i) (by decide) (st_s (st_s (st_s st_0))) ?_
        refine go_goto 48 dX9_pass_100 (by decide) ?_
        have hR : psF (gi 336) i (n + 1) c = psF (gi 336) (i + 1) n c := ps_n (fun z => c_69 z.2.1)
        rw [hR] at hpost
        exact ih (i + 1) c _ (by omega) I hu hpost
      · refine go_aload_n 73 dX9_pass_72 rfl rfl ls_0 ?_
        refine gp_getR 76 dX9_pass_73 rfl f_X9_7 rfl o335 rfl ?_
        refine go_iconst 77 (v := 5) dX9_pass_76 rfl (by decide) ?_
        refine gp_ialdN 78 (i := 5) dX9_pass_77 rfl a336 rfl (by decide) (by decide) ?_
        refine go_aload_n 79 dX9_pass_78 rfl rfl ls_0 ?_
        refine go_iload_n 80 dX9_pass_79 rfl rfl (ls_s (ls_s (ls_s ls_0))) ?_
        refine go_VI (M' := mX9_goodTill) 83 dX9_pass_80 rfl w_910 okX9_goodTill ⟨Nat.le_of_ble_eq_true rfl, Nat.le_of_ble_eq_true rfl⟩ (m_goodTill G I hi6 hli) rfl rfl o335 (by decide) rfl (kk := ?_)
        refine go_icmp_le 97 86 dX9_pass_83 (by decide) rfl (fun c_83 => ?_) (fun c_83 => ?_)
        · refine go_iinc 100 (v := (nI (i + 1))) dX9_pass_97 rfl (ls_s (ls_s (ls_s ls_0))) (by exact nI_1 i) (by decide) (st_s (st_s (st_s st_0))) ?_
          refine go_goto 48 dX9_pass_100 (by decide) ?_
          have hR : psF (gi 336) i (n + 1) c = psF (gi 336) (i + 1) n c := ps_n (fun z => absurd z.2.2 (Int32.not_lt.mpr c_83))
          rw [hR] at hpost
          exact ih (i + 1) c _ (by omega) I hu hpost
        · refine go_aload_n 87 dX9_pass_86 rfl rfl ls_0 ?_
          refine go_iload_n 88 dX9_pass_87 rfl rfl (ls_s (ls_s (ls_s ls_0))) ?_
          refine go_bipush 90 (v := 6) dX9_pass_88 rfl (by decide) ?_
          refine go_iconst 91 (v := 1) dX9_pass_90 rfl (by decide) ?_
          refine go_VN (M' := mX9_puts) 94 dX9_pass_91 rfl w_846 okX9_puts ⟨Nat.le_of_ble_eq_true rfl, Nat.le_of_ble_eq_true rfl⟩ (m_puts G gi (j := 145 + 9 * i + 6) rfl (by omega) _) rfl rfl o335 (by decide) rfl (kk := ?_)
          refine go_iinc 97 (v := (nI (c + 1))) dX9_pass_94 rfl (ls_s (ls_s ls_0)) (by exact nI_1 c) (by decide) (st_s (st_s st_0)) ?_
          refine go_iinc 100 (v := (nI (i + 1))) dX9_pass_97 rfl (ls_s (ls_s (ls_s ls_0))) (by exact nI_1 i) (by decide) (st_s (st_s (st_s st_0))) ?_
          refine go_goto 48 dX9_pass_100 (by decide) ?_
          have hR := ps_y (n := n) (c := c) (show spC (gi 336) i from ⟨hli, c_69, Int32.not_le.mp c_83⟩)
          rw [hR, ← g336] at hpost
          exact ih (i + 1) (c + 1) _ (by omega) (by rw [g336]; exact inv_spoil I hi6) (fun k hk => by rw [wI_row hk]; exact hu k hk) hpost
set_option maxHeartbeats 4000000 in
set_option maxRecDepth 100000 in
theorem mo_pass (G : BcG) {gi : GI} {N : Nat} (I : Inv N (gi 336)) {H : List AA} (hl4 : H.length ≤ 4) (hP : gi 335 4 = 0 → PastR H gi) (m : Int32) : Ct G mX9_pass [.ref (G.1 + 335), .int m] (hp gi) (pM gi H (fPass (gi 336) m)) := by
  refine ct_of [some (.ref (G.1 + 335)), some (.int m), none, none] w_10 (by decide) rfl (Nat.le_of_ble_eq_true rfl) rfl ?_
  refine go_iload_n 1 dX9_pass_0 rfl rfl (ls_s ls_0) ?_
  refine go_iconst 2 (v := 1) dX9_pass_1 rfl (by decide) ?_
  refine go_sipush 5 (v := 999) dX9_pass_2 rfl (by decide) ?_
  refine go_SI (M' := mX9_in) 8 dX9_pass_5 rfl w_768 okX9_in ⟨Nat.le_of_ble_eq_true rfl, Nat.le_of_ble_eq_true rfl⟩ (m_in G gi _ _ _) rfl rfl (kk := ?_)
  refine go_ifne_b 13 11 dX9_pass_8 (by decide) rfl (fun c_8 => ?_) (fun c_8 => ?_)
  · refine go_aload_n 14 dX9_pass_13 rfl rfl ls_0 ?_
    refine gp_getR 17 dX9_pass_14 rfl f_X9_7 rfl o335 rfl ?_
    refine go_iconst 18 (v := 5) dX9_pass_17 rfl (by decide) ?_
    refine gp_ialdN 19 (i := 5) dX9_pass_18 rfl a336 rfl (by decide) (by decide) ?_
    refine go_iload_n 20 dX9_pass_19 rfl rfl (ls_s ls_0) ?_
    refine go_iadd 21 dX9_pass_20 rfl ?_
    refine go_sipush 24 (v := 30000) dX9_pass_21 rfl (by decide) ?_
    refine go_icmp_le 30 27 dX9_pass_24 (by decide) rfl (fun c_24 => ?_) (fun c_24 => ?_)
    · obtain ⟨kk, hk1, hk9, rfl⟩ := in999 c_8
      have ht := I.1.2.2.2.1
      have e5 : gi 336 5 + nI kk = nI (iN (gi 336 5) + kk) := by conv => lhs; rw [ht.1, nI_add]
      have hle : iN (gi 336 5) + kk ≤ 30000 := by have c := c_24; rw [e5] at c; exact (nI_leI (by have := ht.2; omega) (by decide)).mp c
      refine go_aload_n 31 dX9_pass_30 rfl rfl ls_0 ?_
      refine go_V (M' := mX9_changes) 34 dX9_pass_31 rfl w_771 okX9_changes ⟨Nat.le_of_ble_eq_true rfl, Nat.le_of_ble_eq_true rfl⟩ rfl rfl (Nat.le_of_ble_eq_true rfl) (Nat.le_of_ble_eq_true rfl) (m_changes G hl4 hP) rfl rfl (Nat.le_of_ble_eq_true rfl) o335 (by decide) rfl (fun v_31 h_31 p_31 => ?_)
      obtain ⟨rfl, g1, rfl, o, p⟩ := p_31
      have e1 : g1 336 = gi 336 := o.1 336 (by decide) (by decide)
      have e1' : ∀ j, g1 336 j = gi 336 j := fun j => congrFun e1 j
      have I1 : Inv N (g1 336) := by rw [e1]; exact I
      refine go_aload_n 35 dX9_pass_34 rfl rfl ls_0 ?_
      refine gp_getR 38 dX9_pass_35 rfl f_X9_7 rfl o335 rfl ?_
      refine go_iconst 39 (v := 5) dX9_pass_38 rfl (by decide) ?_
      refine go_dup2 40 dX9_pass_39 rfl rfl rfl ?_
      refine gp_ialdN 41 (i := 5) dX9_pass_40 rfl a336 rfl (by decide) (by decide) ?_
      refine go_top (y := (gi 336 5)) (by simp (disch := omega) only [wI_ne, wI_eq, e1']) ?_
      refine go_iload_n 42 dX9_pass_41 rfl rfl (ls_s ls_0) ?_
      refine go_iadd 43 dX9_pass_42 rfl ?_
      refine gp_iastN 44 (i := 5) dX9_pass_43 rfl a336 rfl (by decide) (by decide) ?_
      refine go_iconst 45 (v := 0) dX9_pass_44 rfl (by decide) ?_
      refine go_istore_n 46 dX9_pass_45 rfl rfl (by decide) (st_s (st_s st_0)) ?_
      refine go_iconst 47 (v := 0) dX9_pass_46 rfl (by decide) ?_
      refine go_istore_n 48 dX9_pass_47 rfl rfl (by decide) (st_s (st_s (st_s st_0))) ?_
      have hIt : Inv N (upd (gi 336) 5 (gi 336 5 + nI kk)) := by rw [e5]; exact inv_time I hle
      have hg : wI g1 336 5 (gi 336 5 + nI kk) 336 = upd (gi 336) 5 (gi 336 5 + nI kk) := by rw [g336, e1]
      obtain ⟨-, c', hc6, hc'⟩ := psF_ok (N := N) 6 0 (upd (gi 336) 5 (gi 336 5 + nI kk)) 0 (by omega) hIt
      refine lm_pass G (N := N) _ g1 6 0 0 _ rfl (by rw [hg]; exact hIt) (fun k hk => by rw [wI_row hk]) (fun g2 q1 q2 => ?_)
      rw [hg] at q1
      rw [hg]
      have hb2 : (psF (upd (gi 336) 5 (gi 336 5 + nI kk)) 0 6 0).1 = nI c' := hc'
      exact pM_m (fPass_y c_8 (Int32.not_lt.mpr c_24)) (by rw [hb2]; exact nI_pos (by omega)) o p q1 q2
    · refine go_bipush 29 (v := (-3)) dX9_pass_27 rfl (by decide) ?_
      exact go_ret_i dX9_pass_29 rfl rfl rfl (pM_e (fPass_3 c_8 (Int32.not_le.mp c_24)) (by decide) hP)
  · refine go_iconst 12 (v := (-1)) dX9_pass_11 rfl (by decide) ?_
    exact go_ret_i dX9_pass_12 rfl rfl rfl (pM_e (fPass_1 c_8) (by decide) hP)
