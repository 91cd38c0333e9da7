/-! THE REFERENCE: a batch comes into a vessel -/
theorem clF_c {A A' : AA} {v p : Nat} (h3 : A' (103 + 5 * v + 3) = A (103 + 5 * v + 3)) (ht : ∀ j, 15 ≤ j → j < 31 → A' j = A j) (hl : A (103 + 5 * v + 3) = -1 ∨ bd (A (103 + 5 * v + 3)) 3) (hp4 : p < 4) : clF A' v (nI p) = clF A v (nI p) := by
  unfold clF
  rw [h3]
  by_cases h : A (103 + 5 * v + 3) < 0
  · rw [cIf_t h, cIf_t h]
  · rw [cIf_f h, cIf_f h]
    have h1 := hl.resolve_left (fun z => h (by rw [z]; decide))
    rw [iN_n (by omega)]
    exact ht _ (by omega) (by have := h1.2; omega)
set_option maxHeartbeats 4000000 in
set_option maxRecDepth 100000 in
theorem m_cleansR (G : BcG) {gi : GI} {v p : Nat} (hv6 : v < 6) (hp4 : p < 4) (hL : gi 336 (103 + 5 * v + 3) = -1 ∨ bd (gi 336 (103 + 5 * v + 3)) 3) : Ct G mX9_cleans [.ref (G.1 + 335), .int (nI v), .int (nI p)] (hp gi) (pI (clF (gi 336) v (nI p)) (hp gi)) := by
  refine ct_of [some (.ref (G.1 + 335)), some (.int (nI v)), some (.int (nI p))] w_10 (by decide) rfl (Nat.le_of_ble_eq_true rfl) rfl ?_
  refine go_aload_n 1 dX9_cleans_0 rfl rfl ls_0 ?_
  refine go_iload_n 2 dX9_cleans_1 rfl rfl (ls_s ls_0) ?_
  refine go_iconst 3 (v := 3) dX9_cleans_2 rfl (by decide) ?_
  refine go_VI (M' := mX9_ofVessel) 6 dX9_cleans_3 rfl w_842 okX9_ofVessel ⟨Nat.le_of_ble_eq_true rfl, Nat.le_of_ble_eq_true rfl⟩ (m_ofVessel G gi (j := 103 + 5 * v + 3) rfl (by omega)) rfl rfl o335 (by decide) rfl (kk := ?_)
  refine go_if_ge 13 9 dX9_cleans_6 (by decide) rfl (fun c_6 => ?_) (fun c_6 => ?_)
  · have hl3 := hL.resolve_left (fun z => Int32.not_lt.mpr c_6 (by rw [z]; decide))
    refine go_aload_n 14 dX9_cleans_13 rfl rfl ls_0 ?_
    refine gp_getR 17 dX9_cleans_14 rfl f_X9_7 rfl o335 rfl ?_
    refine go_bipush 19 (v := 15) dX9_cleans_17 rfl (by decide) ?_
    refine go_iconst 20 (v := 4) dX9_cleans_19 rfl (by decide) ?_
    refine go_aload_n 21 dX9_cleans_20 rfl rfl ls_0 ?_
    refine go_iload_n 22 dX9_cleans_21 rfl rfl (ls_s ls_0) ?_
    refine go_iconst 23 (v := 3) dX9_cleans_22 rfl (by decide) ?_
    refine go_VI (M' := mX9_ofVessel) 26 dX9_cleans_23 rfl w_842 okX9_ofVessel ⟨Nat.le_of_ble_eq_true rfl, Nat.le_of_ble_eq_true rfl⟩ (m_ofVessel G gi (j := 103 + 5 * v + 3) rfl (by omega)) rfl rfl o335 (by decide) rfl (kk := ?_)
    refine go_imul 27 dX9_cleans_26 rfl ?_
    refine go_iadd 28 dX9_cleans_27 rfl ?_
    refine go_iload_n 29 dX9_cleans_28 rfl rfl (ls_s (ls_s ls_0)) ?_
    refine go_iadd 30 dX9_cleans_29 rfl ?_
    refine gp_ialdN 31 (i := (15 + 4 * (iN (gi 336 (103 + 5 * v + 3))) + p)) dX9_cleans_30 rfl a336 (cl_ix hl3.1) (by have := hl3.2; omega) (by decide) ?_
    exact go_ret_i dX9_cleans_31 rfl rfl rfl (pI_of (by rw [clF, cIf_f (Int32.not_lt.mpr c_6), iN_n (n := p) (by omega)]) rfl)
  · refine go_iconst 10 (v := 0) dX9_cleans_9 rfl (by decide) ?_
    refine go_goto 31 dX9_cleans_10 (by decide) ?_
    exact go_ret_i dX9_cleans_31 rfl rfl rfl (pI_of (by rw [clF, cIf_t (Int32.not_le.mp c_6)]) rfl)
set_option maxHeartbeats 4000000 in
set_option maxRecDepth 100000 in
theorem m_comes (G : BcG) {gi : GI} {v p b r : Nat} {c z : Int32} (hv6 : v < 6) (hp4 : p < 4) (hb : b < 6) (hr4 : r < 4) (hL : gi 336 (103 + 5 * v + 3) = -1 ∨ bd (gi 336 (103 + 5 * v + 3)) 3) (hr1 : gi 336 (145 + 9 * b + 1) = nI r) (hx : gi 336 (31 + 18 * r) = nI p) (hc : clF (gi 336) v (nI p) = c) (hz : gi 336 (103 + 5 * v + 4) + c = z) : Ct G mX9_comes [.ref (G.1 + 335), .int (nI b), .int (nI v)] (hp gi) (pI c (hp (wI (wI (wI (wI gi 336 (103 + 5 * v + 4) z) 336 (103 + 5 * v + 3) (nI p)) 336 (103 + 5 * v + 2) (nI b)) 336 (145 + 9 * b + 4) (nI v)))) := by
  refine ct_of [some (.ref (G.1 + 335)), some (.int (nI b)), some (.int (nI v)), none, none] w_10 (by decide) rfl (Nat.le_of_ble_eq_true rfl) rfl ?_
  refine go_aload_n 1 dX9_comes_0 rfl rfl ls_0 ?_
  refine go_aload_n 2 dX9_comes_1 rfl rfl ls_0 ?_
  refine go_iload_n 3 dX9_comes_2 rfl rfl (ls_s ls_0) ?_
  refine go_iconst 4 (v := 1) dX9_comes_3 rfl (by decide) ?_
  refine go_VI (M' := mX9_of) 7 dX9_comes_4 rfl w_791 okX9_of ⟨Nat.le_of_ble_eq_true rfl, Nat.le_of_ble_eq_true rfl⟩ (m_of G gi (j := 145 + 9 * b + 1) rfl (by omega)) rfl rfl o335 (by decide) rfl (kk := ?_)
  refine go_top (y := (nI r)) hr1 ?_
  refine go_VI (M' := mX9_product) 10 dX9_comes_7 rfl w_822 okX9_product ⟨Nat.le_of_ble_eq_true rfl, Nat.le_of_ble_eq_true rfl⟩ (m_product G gi (r := r) (by omega)) rfl rfl o335 (by decide) rfl (kk := ?_)
  refine go_top (y := (nI p)) hx ?_
  refine go_istore_n 11 dX9_comes_10 rfl rfl (by decide) (st_s (st_s (st_s st_0))) ?_
  refine go_aload_n 12 dX9_comes_11 rfl rfl ls_0 ?_
  refine go_iload_n 13 dX9_comes_12 rfl rfl (ls_s (ls_s ls_0)) ?_
  refine go_iload_n 14 dX9_comes_13 rfl rfl (ls_s (ls_s (ls_s ls_0))) ?_
  refine go_VI (M' := mX9_cleans) 17 dX9_comes_14 rfl w_854 okX9_cleans ⟨Nat.le_of_ble_eq_true rfl, Nat.le_of_ble_eq_true rfl⟩ (m_cleansR G hv6 hp4 hL) rfl rfl o335 (by decide) rfl (kk := ?_)
  refine go_top (y := c) hc ?_
  refine go_istore 19 dX9_comes_17 rfl (by decide) (st_s (st_s (st_s (st_s st_0)))) ?_
  refine go_aload_n 20 dX9_comes_19 rfl rfl ls_0 ?_
  refine go_iload_n 21 dX9_comes_20 rfl rfl (ls_s (ls_s ls_0)) ?_
  refine go_iconst 22 (v := 4) dX9_comes_21 rfl (by decide) ?_
  refine go_aload_n 23 dX9_comes_22 rfl rfl ls_0 ?_
  refine go_iload_n 24 dX9_comes_23 rfl rfl (ls_s (ls_s ls_0)) ?_
  refine go_iconst 25 (v := 4) dX9_comes_24 rfl (by decide) ?_
  refine go_VI (M' := mX9_ofVessel) 28 dX9_comes_25 rfl w_842 okX9_ofVessel ⟨Nat.le_of_ble_eq_true rfl, Nat.le_of_ble_eq_true rfl⟩ (m_ofVessel G gi (j := 103 + 5 * v + 4) rfl (by omega)) rfl rfl o335 (by decide) rfl (kk := ?_)
  refine go_iload 30 dX9_comes_28 rfl (ls_s (ls_s (ls_s (ls_s ls_0)))) ?_
  refine go_iadd 31 dX9_comes_30 rfl ?_
  refine go_top (y := z) hz ?_
  refine go_VN (M' := mX9_putsVessel) 34 dX9_comes_31 rfl w_803 okX9_putsVessel ⟨Nat.le_of_ble_eq_true rfl, Nat.le_of_ble_eq_true rfl⟩ (m_putsVessel G gi (j := 103 + 5 * v + 4) rfl (by omega) _) rfl rfl o335 (by decide) rfl (kk := ?_)
  refine go_aload_n 35 dX9_comes_34 rfl rfl ls_0 ?_
  refine go_iload_n 36 dX9_comes_35 rfl rfl (ls_s (ls_s ls_0)) ?_
  refine go_iconst 37 (v := 3) dX9_comes_36 rfl (by decide) ?_
  refine go_iload_n 38 dX9_comes_37 rfl rfl (ls_s (ls_s (ls_s ls_0))) ?_
  refine go_VN (M' := mX9_putsVessel) 41 dX9_comes_38 rfl w_803 okX9_putsVessel ⟨Nat.le_of_ble_eq_true rfl, Nat.le_of_ble_eq_true rfl⟩ (m_putsVessel G (wI gi 336 (103 + 5 * v + 4) z) (j := 103 + 5 * v + 3) rfl (by omega) _) rfl rfl o335 (by decide) rfl (kk := ?_)
  refine go_aload_n 42 dX9_comes_41 rfl rfl ls_0 ?_
  refine go_iload_n 43 dX9_comes_42 rfl rfl (ls_s (ls_s ls_0)) ?_
  refine go_iconst 44 (v := 2) dX9_comes_43 rfl (by decide) ?_
  refine go_iload_n 45 dX9_comes_44 rfl rfl (ls_s ls_0) ?_
  refine go_VN (M' := mX9_putsVessel) 48 dX9_comes_45 rfl w_803 okX9_putsVessel ⟨Nat.le_of_ble_eq_true rfl, Nat.le_of_ble_eq_true rfl⟩ (m_putsVessel G (wI (wI gi 336 (103 + 5 * v + 4) z) 336 (103 + 5 * v + 3) (nI p)) (j := 103 + 5 * v + 2) rfl (by omega) _) rfl rfl o335 (by decide) rfl (kk := ?_)
  refine go_aload_n 49 dX9_comes_48 rfl rfl ls_0 ?_
  refine go_iload_n 50 dX9_comes_49 rfl rfl (ls_s ls_0) ?_
  refine go_iconst 51 (v := 4) dX9_comes_50 rfl (by decide) ?_
  refine go_iload_n 52 dX9_comes_51 rfl rfl (ls_s (ls_s ls_0)) ?_
  refine go_VN (M' := mX9_puts) 55 dX9_comes_52 rfl w_846 okX9_puts ⟨Nat.le_of_ble_eq_true rfl, Nat.le_of_ble_eq_true rfl⟩ (m_puts G (wI (wI (wI gi 336 (103 + 5 * v + 4) z) 336 (103 + 5 * v + 3) (nI p)) 336 (103 + 5 * v + 2) (nI b)) (j := 145 + 9 * b + 4) rfl (by omega) _) rfl rfl o335 (by decide) rfl (kk := ?_)
  refine go_iload 57 dX9_comes_55 rfl (ls_s (ls_s (ls_s (ls_s ls_0)))) ?_
  exact go_ret_i dX9_comes_57 rfl rfl rfl ⟨rfl, rfl⟩
set_option maxHeartbeats 4000000 in
set_option maxRecDepth 100000 in
theorem lm_low (G : BcG) {gi : GI} {b : Nat} (hb6 : b < 6) {x1 x2 x3 : Int32} {post : Option Value → BcH → Prop} (kk : BGo G mX9_begin (KM G mX9_begin 341 post) (hp gi) 0 0 78 [some (.ref (G.1 + 335)), some (.int x1), some (.int x2), some (.int x3), some (.int (nI b))] []) : ∀ (n i : Nat), i + n = 6 → (lowF (gi 336) i n = b) → BGo G mX9_begin (KM G mX9_begin 341 (post)) (hp gi) 0 0 63 [some (.ref (G.1 + 335)), some (.int x1), some (.int x2), some (.int x3), some (.int (nI i))] [] := by
  intro n
  induction n with
  | zero =>
    intro i  hn hq
    have e : i = b := hq
    exact absurd e (by omega)
  | succ n ih =>
    intro i  hn hq
    have hi6 : i < 6 := by omega
    refine go_aload_n 64 dX9_begin_63 rfl rfl ls_0 ?_
    refine go_iload 66 dX9_begin_64 rfl (ls_s (ls_s (ls_s (ls_s ls_0)))) ?_
    refine go_VI (M' := mX9_isBatch) 69 dX9_begin_66 rfl w_787 okX9_isBatch ⟨Nat.le_of_ble_eq_true rfl, Nat.le_of_ble_eq_true rfl⟩ (m_isBatch G gi _) rfl rfl o335 (by decide) rfl (kk := ?_)
    refine go_ifeq_b 78 72 dX9_begin_69 (by decide) rfl (fun c_69 => ?_) (fun c_69 => ?_)
    · have e : i = b := by rw [lowF, cIf_f (fun z => c_69 ((bat_i hi6).mpr z))] at hq; exact hq
      subst e
      exact kk
    · refine go_iinc 75 (v := (nI (i + 1))) dX9_begin_72 rfl (ls_s (ls_s (ls_s (ls_s ls_0)))) (by exact nI_1 i) (by decide) (st_s (st_s (st_s (st_s st_0)))) ?_
      refine go_goto 63 dX9_begin_75 (by decide) ?_
      exact ih (i + 1) (by omega) (by rw [lowF, cIf_t ((bat_i hi6).mp c_69)] at hq; exact hq)
set_option maxHeartbeats 4000000 in
set_option maxRecDepth 100000 in
theorem mo_begin (G : BcG) {gi : GI} {N : Nat} (I : Inv N (gi 336)) {H : List AA} (hl4 : H.length ≤ 4) (hP : gi 335 4 = 0 → PastR H gi) (x x2 y : Int32) : Ct G mX9_begin [.ref (G.1 + 335), .int x, .int x2, .int y] (hp gi) (pM gi H (fBegin (gi 336) x x2 y)) := by
  refine ct_of [some (.ref (G.1 + 335)), some (.int x), some (.int x2), some (.int y), none] w_10 (by decide) rfl (Nat.le_of_ble_eq_true rfl) rfl ?_
  refine go_aload_n 1 dX9_begin_0 rfl rfl ls_0 ?_
  refine go_iload_n 2 dX9_begin_1 rfl rfl (ls_s ls_0) ?_
  refine go_VI (M' := mX9_isRecipe) 5 dX9_begin_2 rfl w_779 okX9_isRecipe ⟨Nat.le_of_ble_eq_true rfl, Nat.le_of_ble_eq_true rfl⟩ (m_isRecipe G I _) rfl rfl o335 (by decide) rfl (kk := ?_)
  refine go_ifeq_b 27 8 dX9_begin_5 (by decide) rfl (fun c_5 => ?_) (fun c_5 => ?_)
  · refine go_iconst 28 (v := (-1)) dX9_begin_27 rfl (by decide) ?_
    exact go_ret_i dX9_begin_28 rfl rfl rfl (pM_e (fBegin_1 (fun z => c_5 z.1)) (by decide) hP)
  · refine go_iload_n 9 dX9_begin_8 rfl rfl (ls_s (ls_s ls_0)) ?_
    refine go_iconst 10 (v := 1) dX9_begin_9 rfl (by decide) ?_
    refine go_sipush 13 (v := 999) dX9_begin_10 rfl (by decide) ?_
    refine go_SI (M' := mX9_in) 16 dX9_begin_13 rfl w_768 okX9_in ⟨Nat.le_of_ble_eq_true rfl, Nat.le_of_ble_eq_true rfl⟩ (m_in G gi _ _ _) rfl rfl (kk := ?_)
    refine go_ifeq_b 27 19 dX9_begin_16 (by decide) rfl (fun c_16 => ?_) (fun c_16 => ?_)
    · refine go_iconst 28 (v := (-1)) dX9_begin_27 rfl (by decide) ?_
      exact go_ret_i dX9_begin_28 rfl rfl rfl (pM_e (fBegin_1 (fun z => c_16 z.2.1)) (by decide) hP)
    · refine go_aload_n 20 dX9_begin_19 rfl rfl ls_0 ?_
      refine go_iload_n 21 dX9_begin_20 rfl rfl (ls_s (ls_s (ls_s ls_0))) ?_
      refine go_VI (M' := mX9_isVessel) 24 dX9_begin_21 rfl w_834 okX9_isVessel ⟨Nat.le_of_ble_eq_true rfl, Nat.le_of_ble_eq_true rfl⟩ (m_isVessel G I _) rfl rfl o335 (by decide) rfl (kk := ?_)
      refine go_ifne_b 29 27 dX9_begin_24 (by decide) rfl (fun c_24 => ?_) (fun c_24 => ?_)
      · obtain ⟨r, hr, rfl⟩ := c_5
        have hr4 : r < 4 := Nat.lt_of_lt_of_le hr I.nR4
        obtain ⟨v, hv, rfl⟩ := c_24
        have hv6 : v < 6 := Nat.lt_of_lt_of_le hv I.nV6
        refine go_aload_n 30 dX9_begin_29 rfl rfl ls_0 ?_
        refine go_iload_n 31 dX9_begin_30 rfl rfl (ls_s ls_0) ?_
        refine go_VI (M' := mX9_stages) 34 dX9_begin_31 rfl w_795 okX9_stages ⟨Nat.le_of_ble_eq_true rfl, Nat.le_of_ble_eq_true rfl⟩ (m_stages G gi (r := r) (by omega)) rfl rfl o335 (by decide) rfl (kk := ?_)
        refine go_top (y := (nI (nS (gi 336) r))) (I.eS hr4) ?_
        refine go_if_eq 53 37 dX9_begin_34 (by decide) rfl (fun c_34 => ?_) (fun c_34 => ?_)
        · refine go_bipush 55 (v := (-2)) dX9_begin_53 rfl (by decide) ?_
          exact go_ret_i dX9_begin_55 rfl rfl rfl (pM_e (fBegin_2 ⟨isRec_n hr, c_16, isVes_n hv⟩ (fun z => z.1 (by rw [iN_n (by omega), I.eS hr4]; exact c_34))) (by decide) hP)
        · refine go_aload_n 38 dX9_begin_37 rfl rfl ls_0 ?_
          refine go_iload_n 39 dX9_begin_38 rfl rfl (ls_s (ls_s (ls_s ls_0))) ?_
          refine go_aload_n 40 dX9_begin_39 rfl rfl ls_0 ?_
          refine go_iload_n 41 dX9_begin_40 rfl rfl (ls_s ls_0) ?_
          refine go_iconst 42 (v := 0) dX9_begin_41 rfl (by decide) ?_
          refine go_iconst 43 (v := 0) dX9_begin_42 rfl (by decide) ?_
          refine go_VI (M' := mX9_ofStage) 46 dX9_begin_43 rfl w_826 okX9_ofStage ⟨Nat.le_of_ble_eq_true rfl, Nat.le_of_ble_eq_true rfl⟩ (m_ofStage G gi (j := 31 + 18 * r + 2 + 4 * 0) rfl (by omega)) rfl rfl o335 (by decide) rfl (kk := ?_)
          refine go_iload_n 47 dX9_begin_46 rfl rfl (ls_s (ls_s ls_0)) ?_
          refine go_VI (M' := mX9_takes) 50 dX9_begin_47 rfl w_838 okX9_takes ⟨Nat.le_of_ble_eq_true rfl, Nat.le_of_ble_eq_true rfl⟩ (m_takes G gi hv6 _ _) rfl rfl o335 (by decide) rfl (kk := ?_)
          refine go_ifne_b 56 53 dX9_begin_50 (by decide) rfl (fun c_50 => ?_) (fun c_50 => ?_)
          · have h2 : ¬ gi 336 (31 + 18 * iN (nI r) + 1) = 0 ∧ tkF (gi 336) (iN (nI v)) (stg (gi 336) (iN (nI r)) 0 0) x2 := by rw [iN_n (by omega), iN_n (by omega)]; exact ⟨fun z => c_34 (by rw [← I.eS hr4]; exact z), c_50⟩
            have e9 := fBegin_y ⟨isRec_n hr, c_16, isVes_n hv⟩ h2
            obtain ⟨kk, hk1, hk9, rfl⟩ := in999 c_16
            rw [iN_n (by omega), iN_n (by omega), iN_n (by omega)] at e9
            have hlow := low_y I hv c_50.1
            generalize hbb : lowF (gi 336) 0 6 = b at e9 hlow
            have hb6 : b < 6 := hlow.1
            have hL := (I.2.2.2.1 v hv6).2.2.2.1
            have hpx := (I.2.2.1 r hr4).1
            have hp4 : iN (gi 336 (31 + 18 * r)) < 4 := by have := hpx.2; omega
            refine go_aload_n 57 dX9_begin_56 rfl rfl ls_0 ?_
            refine go_V (M' := mX9_changes) 60 dX9_begin_57 rfl w_771 okX9_changes ⟨Nat.le_of_ble_eq_true rfl, Nat.le_of_ble_eq_true rfl⟩ rfl rfl (Nat.le_of_ble_eq_true rfl) (Nat.le_of_ble_eq_true rfl) (m_changes G hl4 hP) rfl rfl (Nat.le_of_ble_eq_true rfl) o335 (by decide) rfl (fun v_57 h_57 p_57 => ?_)
            obtain ⟨rfl, g1, rfl, o, p⟩ := p_57
            have e1 : g1 336 = gi 336 := o.1 336 (by decide) (by decide)
            have e1' : ∀ j, g1 336 j = gi 336 j := fun j => congrFun e1 j
            have I1 : Inv N (g1 336) := by rw [e1]; exact I
            refine go_iconst 61 (v := 0) dX9_begin_60 rfl (by decide) ?_
            refine go_istore 63 dX9_begin_61 rfl (by decide) (st_s (st_s (st_s (st_s st_0)))) ?_
            refine lm_low G (gi := g1) (b := b) hb6 ?_ 6 0 rfl (by rw [e1]; exact hbb)
            refine go_aload_n 79 dX9_begin_78 rfl rfl ls_0 ?_
            refine go_iload 81 dX9_begin_79 rfl (ls_s (ls_s (ls_s (ls_s ls_0)))) ?_
            refine go_iconst 82 (v := 0) dX9_begin_81 rfl (by decide) ?_
            refine go_iconst 83 (v := 1) dX9_begin_82 rfl (by decide) ?_
            refine go_VN (M' := mX9_puts) 86 dX9_begin_83 rfl w_846 okX9_puts ⟨Nat.le_of_ble_eq_true rfl, Nat.le_of_ble_eq_true rfl⟩ (m_puts G g1 (j := 145 + 9 * b) rfl (by omega) _) rfl rfl o335 (by decide) rfl (kk := ?_)
            refine go_aload_n 87 dX9_begin_86 rfl rfl ls_0 ?_
            refine go_iload 89 dX9_begin_87 rfl (ls_s (ls_s (ls_s (ls_s ls_0)))) ?_
            refine go_iconst 90 (v := 1) dX9_begin_89 rfl (by decide) ?_
            refine go_iload_n 91 dX9_begin_90 rfl rfl (ls_s ls_0) ?_
            refine go_VN (M' := mX9_puts) 94 dX9_begin_91 rfl w_846 okX9_puts ⟨Nat.le_of_ble_eq_true rfl, Nat.le_of_ble_eq_true rfl⟩ (m_puts G (wI g1 336 (145 + 9 * b) 1) (j := 145 + 9 * b + 1) rfl (by omega) _) rfl rfl o335 (by decide) rfl (kk := ?_)
            refine go_aload_n 95 dX9_begin_94 rfl rfl ls_0 ?_
            refine go_iload 97 dX9_begin_95 rfl (ls_s (ls_s (ls_s (ls_s ls_0)))) ?_
            refine go_iconst 98 (v := 2) dX9_begin_97 rfl (by decide) ?_
            refine go_iload_n 99 dX9_begin_98 rfl rfl (ls_s (ls_s ls_0)) ?_
            refine go_VN (M' := mX9_puts) 102 dX9_begin_99 rfl w_846 okX9_puts ⟨Nat.le_of_ble_eq_true rfl, Nat.le_of_ble_eq_true rfl⟩ (m_puts G (wI (wI g1 336 (145 + 9 * b) 1) 336 (145 + 9 * b + 1) (nI r)) (j := 145 + 9 * b + 2) rfl (by omega) _) rfl rfl o335 (by decide) rfl (kk := ?_)
            refine go_aload_n 103 dX9_begin_102 rfl rfl ls_0 ?_
            refine go_iload 105 dX9_begin_103 rfl (ls_s (ls_s (ls_s (ls_s ls_0)))) ?_
            refine go_iconst 106 (v := 3) dX9_begin_105 rfl (by decide) ?_
            refine go_iconst 107 (v := 0) dX9_begin_106 rfl (by decide) ?_
            refine go_VN (M' := mX9_puts) 110 dX9_begin_107 rfl w_846 okX9_puts ⟨Nat.le_of_ble_eq_true rfl, Nat.le_of_ble_eq_true rfl⟩ (m_puts G (wI (wI (wI g1 336 (145 + 9 * b) 1) 336 (145 + 9 * b + 1) (nI r)) 336 (145 + 9 * b + 2) (nI kk)) (j := 145 + 9 * b + 3) rfl (by omega) _) rfl rfl o335 (by decide) rfl (kk := ?_)
            refine go_aload_n 111 dX9_begin_110 rfl rfl ls_0 ?_
            refine go_iload 113 dX9_begin_111 rfl (ls_s (ls_s (ls_s (ls_s ls_0)))) ?_
            refine go_bipush 115 (v := 6) dX9_begin_113 rfl (by decide) ?_
            refine go_iconst 116 (v := 0) dX9_begin_115 rfl (by decide) ?_
            refine go_VN (M' := mX9_puts) 119 dX9_begin_116 rfl w_846 okX9_puts ⟨Nat.le_of_ble_eq_true rfl, Nat.le_of_ble_eq_true rfl⟩ (m_puts G (wI (wI (wI (wI g1 336 (145 + 9 * b) 1) 336 (145 + 9 * b + 1) (nI r)) 336 (145 + 9 * b + 2) (nI kk)) 336 (145 + 9 * b + 3) 0) (j := 145 + 9 * b + 6) rfl (by omega) _) rfl rfl o335 (by decide) rfl (kk := ?_)
            refine go_aload_n 120 dX9_begin_119 rfl rfl ls_0 ?_
            refine go_iload 122 dX9_begin_120 rfl (ls_s (ls_s (ls_s (ls_s ls_0)))) ?_
            refine go_bipush 124 (v := 7) dX9_begin_122 rfl (by decide) ?_
            refine go_iconst 125 (v := 0) dX9_begin_124 rfl (by decide) ?_
            refine go_VN (M' := mX9_puts) 128 dX9_begin_125 rfl w_846 okX9_puts ⟨Nat.le_of_ble_eq_true rfl, Nat.le_of_ble_eq_true rfl⟩ (m_puts G (wI (wI (wI (wI (wI g1 336 (145 + 9 * b) 1) 336 (145 + 9 * b + 1) (nI r)) 336 (145 + 9 * b + 2) (nI kk)) 336 (145 + 9 * b + 3) 0) 336 (145 + 9 * b + 6) 0) (j := 145 + 9 * b + 7) rfl (by omega) _) rfl rfl o335 (by decide) rfl (kk := ?_)
            refine go_aload_n 129 dX9_begin_128 rfl rfl ls_0 ?_
            refine go_iload 131 dX9_begin_129 rfl (ls_s (ls_s (ls_s (ls_s ls_0)))) ?_
            refine go_bipush 133 (v := 8) dX9_begin_131 rfl (by decide) ?_
            refine go_iload_n 134 dX9_begin_133 rfl rfl (ls_s (ls_s ls_0)) ?_
            refine go_VN (M' := mX9_puts) 137 dX9_begin_134 rfl w_846 okX9_puts ⟨Nat.le_of_ble_eq_true rfl, Nat.le_of_ble_eq_true rfl⟩ (m_puts G (wI (wI (wI (wI (wI (wI g1 336 (145 + 9 * b) 1) 336 (145 + 9 * b + 1) (nI r)) 336 (145 + 9 * b + 2) (nI kk)) 336 (145 + 9 * b + 3) 0) 336 (145 + 9 * b + 6) 0) 336 (145 + 9 * b + 7) 0) (j := 145 + 9 * b + 8) rfl (by omega) _) rfl rfl o335 (by decide) rfl (kk := ?_)
            refine go_aload_n 138 dX9_begin_137 rfl rfl ls_0 ?_
            refine go_iload 140 dX9_begin_138 rfl (ls_s (ls_s (ls_s (ls_s ls_0)))) ?_
            refine go_iconst 141 (v := 5) dX9_begin_140 rfl (by decide) ?_
            refine go_aload_n 142 dX9_begin_141 rfl rfl ls_0 ?_
            refine gp_getR 145 dX9_begin_142 rfl f_X9_7 rfl o335 rfl ?_
            refine go_iconst 146 (v := 5) dX9_begin_145 rfl (by decide) ?_
            refine gp_ialdN 147 (i := 5) dX9_begin_146 rfl a336 rfl (by decide) (by decide) ?_
            refine go_top (y := (gi 336 5)) (by simp (disch := omega) only [wI_ne, wI_eq, e1']) ?_
            refine go_aload_n 148 dX9_begin_147 rfl rfl ls_0 ?_
            refine go_iload 150 dX9_begin_148 rfl (ls_s (ls_s (ls_s (ls_s ls_0)))) ?_
            refine go_iload_n 151 dX9_begin_150 rfl rfl (ls_s (ls_s (ls_s ls_0))) ?_
            refine go_VI (M' := mX9_comes) 154 dX9_begin_151 rfl w_850 okX9_comes ⟨Nat.le_of_ble_eq_true rfl, Nat.le_of_ble_eq_true rfl⟩ (m_comes G (gi := wI (wI (wI (wI (wI (wI (wI g1 336 (145 + 9 * b) 1) 336 (145 + 9 * b + 1) (nI r)) 336 (145 + 9 * b + 2) (nI kk)) 336 (145 + 9 * b + 3) 0) 336 (145 + 9 * b + 6) 0) 336 (145 + 9 * b + 7) 0) 336 (145 + 9 * b + 8) (nI kk)) (r := r) (p := (iN (gi 336 (31 + 18 * r)))) (c := (clF (gi 336) v (gi 336 (31 + 18 * r)))) (z := (gi 336 (103 + 5 * v + 4) + (clF (gi 336) v (gi 336 (31 + 18 * r))))) hv6 hp4 hb6 hr4 (by simp (disch := omega) only [wI_ne, wI_eq, e1']; exact hL) (by simp (disch := omega) only [wI_ne, wI_eq]) (by simp (disch := omega) only [wI_ne, wI_eq, e1']; exact hpx.1) (by refine (clF_c (A := gi 336) (by simp (disch := omega) only [wI_ne, wI_eq, e1']) (fun j q1 q2 => by simp (disch := omega) only [wI_ne, wI_eq, e1']) hL hp4).trans ?_; rw [← hpx.1]) (by simp (disch := omega) only [wI_ne, wI_eq, e1'])) rfl rfl o335 (by decide) rfl (kk := ?_)
            refine go_iadd 155 dX9_begin_154 rfl ?_
            refine go_VN (M' := mX9_puts) 158 dX9_begin_155 rfl w_846 okX9_puts ⟨Nat.le_of_ble_eq_true rfl, Nat.le_of_ble_eq_true rfl⟩ (m_puts G (wI (wI (wI (wI (wI (wI (wI (wI (wI (wI (wI g1 336 (145 + 9 * b) 1) 336 (145 + 9 * b + 1) (nI r)) 336 (145 + 9 * b + 2) (nI kk)) 336 (145 + 9 * b + 3) 0) 336 (145 + 9 * b + 6) 0) 336 (145 + 9 * b + 7) 0) 336 (145 + 9 * b + 8) (nI kk)) 336 (103 + 5 * v + 4) (gi 336 (103 + 5 * v + 4) + (clF (gi 336) v (gi 336 (31 + 18 * r))))) 336 (103 + 5 * v + 3) (nI (iN (gi 336 (31 + 18 * r))))) 336 (103 + 5 * v + 2) (nI b)) 336 (145 + 9 * b + 4) (nI v)) (j := 145 + 9 * b + 5) rfl (by omega) _) rfl rfl o335 (by decide) rfl (kk := ?_)
            refine go_aload_n 159 dX9_begin_158 rfl rfl ls_0 ?_
            refine gp_getR 162 dX9_begin_159 rfl f_X9_7 rfl o335 rfl ?_
            refine go_bipush 164 (v := 6) dX9_begin_162 rfl (by decide) ?_
            refine go_dup2 165 dX9_begin_164 rfl rfl rfl ?_
            refine gp_ialdN 166 (i := 6) dX9_begin_165 rfl a336 rfl (by decide) (by decide) ?_
            refine go_top (y := (gi 336 6)) (by simp (disch := omega) only [wI_ne, wI_eq, e1']) ?_
            refine go_iload_n 167 dX9_begin_166 rfl rfl (ls_s (ls_s ls_0)) ?_
            refine go_iadd 168 dX9_begin_167 rfl ?_
            refine gp_iastN 169 (i := 6) dX9_begin_168 rfl a336 rfl (by decide) (by decide) ?_
            refine go_iload 171 dX9_begin_169 rfl (ls_s (ls_s (ls_s (ls_s ls_0)))) ?_
            exact go_ret_i dX9_begin_171 rfl rfl rfl (pM_m e9 (nI_pos (by omega)) o p (by simp only [g336, e1, ← hpx.1]; rfl) (fun k hk => by simp only [wI_row hk]))
          · refine go_bipush 55 (v := (-2)) dX9_begin_53 rfl (by decide) ?_
            exact go_ret_i dX9_begin_55 rfl rfl rfl (pM_e (fBegin_2 ⟨isRec_n hr, c_16, isVes_n hv⟩ (fun z => c_50 (by have := z.2; rw [iN_n (by omega), iN_n (by omega)] at this; exact this))) (by decide) hP)
      · refine go_iconst 28 (v := (-1)) dX9_begin_27 rfl (by decide) ?_
        exact go_ret_i dX9_begin_28 rfl rfl rfl (pM_e (fBegin_1 (fun z => c_24 z.2.2)) (by decide) hP)
set_option maxHeartbeats 4000000 in
set_option maxRecDepth 100000 in
theorem mo_move (G : BcG) {gi : GI} {N : Nat} (I : Inv N (gi 336)) {H : List AA} (hl4 : H.length ≤ 4) (hP : gi 335 4 = 0 → PastR H gi) (x y : Int32) : Ct G mX9_move [.ref (G.1 + 335), .int x, .int y] (hp gi) (pM gi H (fMove (gi 336) x y)) := by
  refine ct_of [some (.ref (G.1 + 335)), some (.int x), some (.int y), none, none, none] w_10 (by decide) rfl (Nat.le_of_ble_eq_true rfl) rfl ?_
  refine go_aload_n 1 dX9_move_0 rfl rfl ls_0 ?_
  refine go_iload_n 2 dX9_move_1 rfl rfl (ls_s ls_0) ?_
  refine go_VI (M' := mX9_isBatch) 5 dX9_move_2 rfl w_787 okX9_isBatch ⟨Nat.le_of_ble_eq_true rfl, Nat.le_of_ble_eq_true rfl⟩ (m_isBatch G gi _) rfl rfl o335 (by decide) rfl (kk := ?_)
  refine go_ifeq_b 16 8 dX9_move_5 (by decide) rfl (fun c_5 => ?_) (fun c_5 => ?_)
  · refine go_iconst 17 (v := (-1)) dX9_move_16 rfl (by decide) ?_
    exact go_ret_i dX9_move_17 rfl rfl rfl (pM_e (fMove_1 (fun z => c_5 z.1)) (by decide) hP)
  · refine go_aload_n 9 dX9_move_8 rfl rfl ls_0 ?_
    refine go_iload_n 10 dX9_move_9 rfl rfl (ls_s (ls_s ls_0)) ?_
    refine go_VI (M' := mX9_isVessel) 13 dX9_move_10 rfl w_834 okX9_isVessel ⟨Nat.le_of_ble_eq_true rfl, Nat.le_of_ble_eq_true rfl⟩ (m_isVessel G I _) rfl rfl o335 (by decide) rfl (kk := ?_)
    refine go_ifne_b 18 16 dX9_move_13 (by decide) rfl (fun c_13 => ?_) (fun c_13 => ?_)
    · obtain ⟨b, hb, rfl, hl⟩ := c_5
      have i := I.b1 hb hl
      have hr4 := I.bR4 hb hl
      have hs4 := I.bS4 hb hl
      have hw6 := I.bV6 hb hl
      have hpr := pr_n I hb hl
      obtain ⟨v, hv, rfl⟩ := c_13
      have hv6 : v < 6 := Nat.lt_of_lt_of_le hv I.nV6
      refine go_aload_n 19 dX9_move_18 rfl rfl ls_0 ?_
      refine go_iload_n 20 dX9_move_19 rfl rfl (ls_s ls_0) ?_
      refine go_iload_n 21 dX9_move_20 rfl rfl (ls_s (ls_s ls_0)) ?_
      refine go_VI (M' := mX9_lineTo) 24 dX9_move_21 rfl w_862 okX9_lineTo ⟨Nat.le_of_ble_eq_true rfl, Nat.le_of_ble_eq_true rfl⟩ (m_lineTo G I hb hl (v := v) hv6) rfl rfl o335 (by decide) rfl (kk := ?_)
      rcases lt1_F I b v with ⟨hlt, -⟩ | ⟨k, hk, hlt, -, hc⟩
      · refine go_istore_n 25 dX9_move_24 rfl rfl (by decide) (st_s (st_s (st_s st_0))) ?_
        refine go_iload_n 26 dX9_move_25 rfl rfl (ls_s (ls_s (ls_s ls_0))) ?_
        refine go_if_ge 32 29 dX9_move_26 (by decide) rfl (fun c_26 => absurd c_26 (Int32.not_le.mpr hlt)) (fun c_26 => ?_)
        refine go_bipush 31 (v := (-2)) dX9_move_29 rfl (by decide) ?_
        exact go_ret_i dX9_move_31 rfl rfl rfl (pM_e (fMove_2 ⟨isBat_n hb hl, isVes_n hv⟩ (by rw [iN_n (by omega), iN_n (by omega)]; exact hlt)) (by decide) hP)
      · refine go_top (y := (nI k)) hlt ?_
        have hk3 : k < 3 := Nat.lt_of_lt_of_le hk I.nL3
        have hlt0 : ¬ ltF (gi 336) b v < 0 := by rw [hlt]; exact nI_pos (by omega)
        have hik : iN (ltF (gi 336) b v) = k := by rw [hlt, iN_n (by omega)]
        refine go_istore_n 25 dX9_move_24 rfl rfl (by decide) (st_s (st_s (st_s st_0))) ?_
        refine go_iload_n 26 dX9_move_25 rfl rfl (ls_s (ls_s (ls_s ls_0))) ?_
        refine go_if_ge 32 29 dX9_move_26 (by decide) rfl (fun c_26 => ?_) (fun c_26 => absurd (Int32.not_lt.mp (nI_pos (by omega))) c_26)
        have hL := (I.2.2.2.1 v hv6).2.2.2.1
        have hp4 := hpr.2
        have hb6 := hb
        have ePr : prF (gi 336) b = gi 336 (31 + 18 * bR (gi 336) b) := rfl
        have hvb : bV (gi 336) b ≠ v := I.free hc.2.2.1 hb hl
        refine go_aload_n 33 dX9_move_32 rfl rfl ls_0 ?_
        refine go_V (M' := mX9_changes) 36 dX9_move_33 rfl w_771 okX9_changes ⟨Nat.le_of_ble_eq_true rfl, Nat.le_of_ble_eq_true rfl⟩ rfl rfl (Nat.le_of_ble_eq_true rfl) (Nat.le_of_ble_eq_true rfl) (m_changes G hl4 hP) rfl rfl (Nat.le_of_ble_eq_true rfl) o335 (by decide) rfl (fun v_33 h_33 p_33 => ?_)
        obtain ⟨rfl, g1, rfl, o, p⟩ := p_33
        have e1 : g1 336 = gi 336 := o.1 336 (by decide) (by decide)
        have e1' : ∀ j, g1 336 j = gi 336 j := fun j => congrFun e1 j
        have I1 : Inv N (g1 336) := by rw [e1]; exact I
        refine go_aload_n 37 dX9_move_36 rfl rfl ls_0 ?_
        refine gp_getR 40 dX9_move_37 rfl f_X9_7 rfl o335 rfl ?_
        refine go_iconst 41 (v := 5) dX9_move_40 rfl (by decide) ?_
        refine gp_ialdN 42 (i := 5) dX9_move_41 rfl a336 rfl (by decide) (by decide) ?_
        refine go_top (y := (gi 336 5)) (e1' _) ?_
        refine go_aload_n 43 dX9_move_42 rfl rfl ls_0 ?_
        refine go_iload_n 44 dX9_move_43 rfl rfl (ls_s ls_0) ?_
        refine go_iload_n 45 dX9_move_44 rfl rfl (ls_s (ls_s ls_0)) ?_
        refine go_iload_n 46 dX9_move_45 rfl rfl (ls_s (ls_s (ls_s ls_0))) ?_
        refine go_VI (M' := mX9_minutesTo) 49 dX9_move_46 rfl w_882 okX9_minutesTo ⟨Nat.le_of_ble_eq_true rfl, Nat.le_of_ble_eq_true rfl⟩ (m_minutesTo G I1 hb (by rw [e1]; exact hl) (v := v) hv6 (k := k) (by rw [e1]; exact hk)) rfl rfl o335 (by decide) rfl (kk := ?_)
        refine go_top (y := (mtF (gi 336) b v k)) (by rw [e1]) ?_
        refine go_iadd 50 dX9_move_49 rfl ?_
        refine go_istore 52 dX9_move_50 rfl (by decide) (st_s (st_s (st_s (st_s st_0)))) ?_
        refine go_aload_n 53 dX9_move_52 rfl rfl ls_0 ?_
        refine gp_getR 56 dX9_move_53 rfl f_X9_7 rfl o335 rfl ?_
        refine go_sipush 59 (v := 133) dX9_move_56 rfl (by decide) ?_
        refine go_iconst 60 (v := 4) dX9_move_59 rfl (by decide) ?_
        refine go_iload_n 61 dX9_move_60 rfl rfl (ls_s (ls_s (ls_s ls_0))) ?_
        refine go_imul 62 dX9_move_61 rfl ?_
        refine go_iadd 63 dX9_move_62 rfl ?_
        refine go_iconst 64 (v := 2) dX9_move_63 rfl (by decide) ?_
        refine go_iadd 65 dX9_move_64 rfl ?_
        refine go_iload 67 dX9_move_65 rfl (ls_s (ls_s (ls_s (ls_s ls_0)))) ?_
        refine gp_iastN 68 (i := (133 + 4 * k + 2)) dX9_move_67 rfl a336 (ix9 133 4 k 2) (by omega) (by decide) ?_
        refine go_aload_n 69 dX9_move_68 rfl rfl ls_0 ?_
        refine gp_getR 72 dX9_move_69 rfl f_X9_7 rfl o335 rfl ?_
        refine go_sipush 75 (v := 133) dX9_move_72 rfl (by decide) ?_
        refine go_iconst 76 (v := 4) dX9_move_75 rfl (by decide) ?_
        refine go_iload_n 77 dX9_move_76 rfl rfl (ls_s (ls_s (ls_s ls_0))) ?_
        refine go_imul 78 dX9_move_77 rfl ?_
        refine go_iadd 79 dX9_move_78 rfl ?_
        refine go_iconst 80 (v := 3) dX9_move_79 rfl (by decide) ?_
        refine go_iadd 81 dX9_move_80 rfl ?_
        refine go_dup2 82 dX9_move_81 rfl rfl rfl ?_
        refine gp_ialdN 83 (i := (133 + 4 * k + 3)) dX9_move_82 rfl a336 (ix9 133 4 k 3) (by omega) (by decide) ?_
        refine go_top (y := (gi 336 (133 + 4 * k + 3))) (by simp (disch := omega) only [wI_ne, wI_eq, e1']) ?_
        refine go_aload_n 84 dX9_move_83 rfl rfl ls_0 ?_
        refine go_iload_n 85 dX9_move_84 rfl rfl (ls_s ls_0) ?_
        refine go_iconst 86 (v := 2) dX9_move_85 rfl (by decide) ?_
        refine go_VI (M' := mX9_of) 89 dX9_move_86 rfl w_791 okX9_of ⟨Nat.le_of_ble_eq_true rfl, Nat.le_of_ble_eq_true rfl⟩ (m_of G (wI g1 (336) ((133 + 4 * k + 2)) ((gi 336 5) + (mtF (gi 336) b v k))) (j := 145 + 9 * b + 2) rfl (by omega)) rfl rfl o335 (by decide) rfl (kk := ?_)
        refine go_top (y := (gi 336 (145 + 9 * b + 2))) (by simp (disch := omega) only [wI_ne, wI_eq, e1']) ?_
        refine go_iadd 90 dX9_move_89 rfl ?_
        refine gp_iastN 91 (i := (133 + 4 * k + 3)) dX9_move_90 rfl a336 (ix9 133 4 k 3) (by omega) (by decide) ?_
        refine go_aload_n 92 dX9_move_91 rfl rfl ls_0 ?_
        refine go_aload_n 93 dX9_move_92 rfl rfl ls_0 ?_
        refine go_iload_n 94 dX9_move_93 rfl rfl (ls_s ls_0) ?_
        refine go_iconst 95 (v := 4) dX9_move_94 rfl (by decide) ?_
        refine go_VI (M' := mX9_of) 98 dX9_move_95 rfl w_791 okX9_of ⟨Nat.le_of_ble_eq_true rfl, Nat.le_of_ble_eq_true rfl⟩ (m_of G (wI (wI g1 (336) ((133 + 4 * k + 2)) ((gi 336 5) + (mtF (gi 336) b v k))) (336) ((133 + 4 * k + 3)) ((gi 336 (133 + 4 * k + 3)) + (gi 336 (145 + 9 * b + 2)))) (j := 145 + 9 * b + 4) rfl (by omega)) rfl rfl o335 (by decide) rfl (kk := ?_)
        refine go_top (y := (nI (bV (gi 336) b))) (by simp (disch := omega) only [wI_ne, wI_eq, e1']; exact i.2.2.1.1) ?_
        refine go_iconst 99 (v := 2) dX9_move_98 rfl (by decide) ?_
        refine go_iconst 100 (v := (-1)) dX9_move_99 rfl (by decide) ?_
        refine go_VN (M' := mX9_putsVessel) 103 dX9_move_100 rfl w_803 okX9_putsVessel ⟨Nat.le_of_ble_eq_true rfl, Nat.le_of_ble_eq_true rfl⟩ (m_putsVessel G (wI (wI g1 (336) ((133 + 4 * k + 2)) ((gi 336 5) + (mtF (gi 336) b v k))) (336) ((133 + 4 * k + 3)) ((gi 336 (133 + 4 * k + 3)) + (gi 336 (145 + 9 * b + 2)))) (j := 103 + 5 * ((bV (gi 336) b)) + 2) rfl (by omega) _) rfl rfl o335 (by decide) rfl (kk := ?_)
        refine go_aload_n 104 dX9_move_103 rfl rfl ls_0 ?_
        refine go_iload_n 105 dX9_move_104 rfl rfl (ls_s ls_0) ?_
        refine go_iload_n 106 dX9_move_105 rfl rfl (ls_s (ls_s ls_0)) ?_
        refine go_VI (M' := mX9_comes) 109 dX9_move_106 rfl w_850 okX9_comes ⟨Nat.le_of_ble_eq_true rfl, Nat.le_of_ble_eq_true rfl⟩ (m_comes G (gi := wI (wI (wI g1 (336) ((133 + 4 * k + 2)) ((gi 336 5) + (mtF (gi 336) b v k))) (336) ((133 + 4 * k + 3)) ((gi 336 (133 + 4 * k + 3)) + (gi 336 (145 + 9 * b + 2)))) 336 (103 + 5 * ((bV (gi 336) b)) + 2) (-1)) (r := (bR (gi 336) b)) (p := (iN (prF (gi 336) b))) (c := (clF (gi 336) v (prF (gi 336) b))) (z := (gi 336 (103 + 5 * v + 4) + (clF (gi 336) v (prF (gi 336) b)))) hv6 hp4 hb6 hr4 (by simp (disch := omega) only [wI_ne, wI_eq, e1']; exact hL) (by simp (disch := omega) only [wI_ne, wI_eq, e1']; exact i.1.1) (by simp (disch := omega) only [wI_ne, wI_eq, e1']; exact hpr.1) (by refine (clF_c (A := gi 336) (by simp (disch := omega) only [wI_ne, wI_eq, e1']) (fun j q1 q2 => by simp (disch := omega) only [wI_ne, wI_eq, e1']) hL hp4).trans ?_; rw [← hpr.1]) (by simp (disch := omega) only [wI_ne, wI_eq, e1'])) rfl rfl o335 (by decide) rfl (kk := ?_)
        refine go_pop 110 dX9_move_109 rfl rfl ?_
        refine go_aload_n 111 dX9_move_110 rfl rfl ls_0 ?_
        refine go_iload_n 112 dX9_move_111 rfl rfl (ls_s ls_0) ?_
        refine go_iconst 113 (v := 5) dX9_move_112 rfl (by decide) ?_
        refine go_iload 115 dX9_move_113 rfl (ls_s (ls_s (ls_s (ls_s ls_0)))) ?_
        refine go_VN (M' := mX9_puts) 118 dX9_move_115 rfl w_846 okX9_puts ⟨Nat.le_of_ble_eq_true rfl, Nat.le_of_ble_eq_true rfl⟩ (m_puts G (wI (wI (wI (wI (wI (wI (wI g1 (336) ((133 + 4 * k + 2)) ((gi 336 5) + (mtF (gi 336) b v k))) (336) ((133 + 4 * k + 3)) ((gi 336 (133 + 4 * k + 3)) + (gi 336 (145 + 9 * b + 2)))) 336 (103 + 5 * ((bV (gi 336) b)) + 2) (-1)) 336 (103 + 5 * v + 4) (gi 336 (103 + 5 * v + 4) + (clF (gi 336) v (prF (gi 336) b)))) 336 (103 + 5 * v + 3) (nI (iN (prF (gi 336) b)))) 336 (103 + 5 * v + 2) (nI b)) 336 (145 + 9 * b + 4) (nI v)) (j := 145 + 9 * b + 5) rfl (by omega) _) rfl rfl o335 (by decide) rfl (kk := ?_)
        refine go_aload_n 119 dX9_move_118 rfl rfl ls_0 ?_
        refine go_iload_n 120 dX9_move_119 rfl rfl (ls_s ls_0) ?_
        refine go_iconst 121 (v := 3) dX9_move_120 rfl (by decide) ?_
        refine go_aload_n 122 dX9_move_121 rfl rfl ls_0 ?_
        refine go_iload_n 123 dX9_move_122 rfl rfl (ls_s ls_0) ?_
        refine go_iconst 124 (v := 3) dX9_move_123 rfl (by decide) ?_
        refine go_VI (M' := mX9_of) 127 dX9_move_124 rfl w_791 okX9_of ⟨Nat.le_of_ble_eq_true rfl, Nat.le_of_ble_eq_true rfl⟩ (m_of G (wI (wI (wI (wI (wI (wI (wI (wI g1 (336) ((133 + 4 * k + 2)) ((gi 336 5) + (mtF (gi 336) b v k))) (336) ((133 + 4 * k + 3)) ((gi 336 (133 + 4 * k + 3)) + (gi 336 (145 + 9 * b + 2)))) 336 (103 + 5 * ((bV (gi 336) b)) + 2) (-1)) 336 (103 + 5 * v + 4) (gi 336 (103 + 5 * v + 4) + (clF (gi 336) v (prF (gi 336) b)))) 336 (103 + 5 * v + 3) (nI (iN (prF (gi 336) b)))) 336 (103 + 5 * v + 2) (nI b)) 336 (145 + 9 * b + 4) (nI v)) 336 (145 + 9 * b + 5) (((gi 336 5) + (mtF (gi 336) b v k)))) (j := 145 + 9 * b + 3) rfl (by omega)) rfl rfl o335 (by decide) rfl (kk := ?_)
        refine go_top (y := (gi 336 (145 + 9 * b + 3))) (by simp (disch := omega) only [wI_ne, wI_eq, e1']) ?_
        refine go_iconst 128 (v := 1) dX9_move_127 rfl (by decide) ?_
        refine go_iadd 129 dX9_move_128 rfl ?_
        refine go_VN (M' := mX9_puts) 132 dX9_move_129 rfl w_846 okX9_puts ⟨Nat.le_of_ble_eq_true rfl, Nat.le_of_ble_eq_true rfl⟩ (m_puts G (wI (wI (wI (wI (wI (wI (wI (wI g1 (336) ((133 + 4 * k + 2)) ((gi 336 5) + (mtF (gi 336) b v k))) (336) ((133 + 4 * k + 3)) ((gi 336 (133 + 4 * k + 3)) + (gi 336 (145 + 9 * b + 2)))) 336 (103 + 5 * ((bV (gi 336) b)) + 2) (-1)) 336 (103 + 5 * v + 4) (gi 336 (103 + 5 * v + 4) + (clF (gi 336) v (prF (gi 336) b)))) 336 (103 + 5 * v + 3) (nI (iN (prF (gi 336) b)))) 336 (103 + 5 * v + 2) (nI b)) 336 (145 + 9 * b + 4) (nI v)) 336 (145 + 9 * b + 5) (((gi 336 5) + (mtF (gi 336) b v k)))) (j := 145 + 9 * b + 3) rfl (by omega) _) rfl rfl o335 (by decide) rfl (kk := ?_)
        refine go_aload_n 133 dX9_move_132 rfl rfl ls_0 ?_
        refine go_iload_n 134 dX9_move_133 rfl rfl (ls_s ls_0) ?_
        refine go_iconst 135 (v := 2) dX9_move_134 rfl (by decide) ?_
        refine go_VI (M' := mX9_of) 138 dX9_move_135 rfl w_791 okX9_of ⟨Nat.le_of_ble_eq_true rfl, Nat.le_of_ble_eq_true rfl⟩ (m_of G (wI (wI (wI (wI (wI (wI (wI (wI (wI g1 (336) ((133 + 4 * k + 2)) ((gi 336 5) + (mtF (gi 336) b v k))) (336) ((133 + 4 * k + 3)) ((gi 336 (133 + 4 * k + 3)) + (gi 336 (145 + 9 * b + 2)))) 336 (103 + 5 * ((bV (gi 336) b)) + 2) (-1)) 336 (103 + 5 * v + 4) (gi 336 (103 + 5 * v + 4) + (clF (gi 336) v (prF (gi 336) b)))) 336 (103 + 5 * v + 3) (nI (iN (prF (gi 336) b)))) 336 (103 + 5 * v + 2) (nI b)) 336 (145 + 9 * b + 4) (nI v)) 336 (145 + 9 * b + 5) (((gi 336 5) + (mtF (gi 336) b v k)))) 336 (145 + 9 * b + 3) (((gi 336 (145 + 9 * b + 3)) + 1))) (j := 145 + 9 * b + 2) rfl (by omega)) rfl rfl o335 (by decide) rfl (kk := ?_)
        refine go_top (y := (gi 336 (145 + 9 * b + 2))) (by simp (disch := omega) only [wI_ne, wI_eq, e1']) ?_
        refine go_aload_n 139 dX9_move_138 rfl rfl ls_0 ?_
        refine gp_getR 142 dX9_move_139 rfl f_X9_7 rfl o335 rfl ?_
        refine go_iconst 143 (v := 0) dX9_move_142 rfl (by decide) ?_
        refine gp_ialdN 144 (i := 0) dX9_move_143 rfl a336 rfl (by decide) (by decide) ?_
        refine go_top (y := (gi 336 0)) (by simp (disch := omega) only [wI_ne, wI_eq, e1']) ?_
        refine go_imul 145 dX9_move_144 rfl ?_
        refine go_sipush 148 (v := 1000) dX9_move_145 rfl (by decide) ?_
        refine go_idiv 149 dX9_move_148 rfl (by decide) ?_
        refine go_top (y := (lsF (gi 336) (gi 336 (145 + 9 * b + 2)))) rfl ?_
        refine go_istore 151 dX9_move_149 rfl (by decide) (st_s (st_s (st_s (st_s (st_s st_0))))) ?_
        refine go_aload_n 152 dX9_move_151 rfl rfl ls_0 ?_
        refine gp_getR 155 dX9_move_152 rfl f_X9_7 rfl o335 rfl ?_
        refine go_bipush 157 (v := 8) dX9_move_155 rfl (by decide) ?_
        refine go_dup2 158 dX9_move_157 rfl rfl rfl ?_
        refine gp_ialdN 159 (i := 8) dX9_move_158 rfl a336 rfl (by decide) (by decide) ?_
        refine go_top (y := (gi 336 8)) (by simp (disch := omega) only [wI_ne, wI_eq, e1']) ?_
        refine go_iload 161 dX9_move_159 rfl (ls_s (ls_s (ls_s (ls_s (ls_s ls_0))))) ?_
        refine go_iadd 162 dX9_move_161 rfl ?_
        refine gp_iastN 163 (i := 8) dX9_move_162 rfl a336 rfl (by decide) (by decide) ?_
        refine go_aload_n 164 dX9_move_163 rfl rfl ls_0 ?_
        refine go_iload_n 165 dX9_move_164 rfl rfl (ls_s ls_0) ?_
        refine go_iconst 166 (v := 2) dX9_move_165 rfl (by decide) ?_
        refine go_aload_n 167 dX9_move_166 rfl rfl ls_0 ?_
        refine go_iload_n 168 dX9_move_167 rfl rfl (ls_s ls_0) ?_
        refine go_iconst 169 (v := 2) dX9_move_168 rfl (by decide) ?_
        refine go_VI (M' := mX9_of) 172 dX9_move_169 rfl w_791 okX9_of ⟨Nat.le_of_ble_eq_true rfl, Nat.le_of_ble_eq_true rfl⟩ (m_of G (wI (wI (wI (wI (wI (wI (wI (wI (wI (wI g1 (336) ((133 + 4 * k + 2)) ((gi 336 5) + (mtF (gi 336) b v k))) (336) ((133 + 4 * k + 3)) ((gi 336 (133 + 4 * k + 3)) + (gi 336 (145 + 9 * b + 2)))) 336 (103 + 5 * ((bV (gi 336) b)) + 2) (-1)) 336 (103 + 5 * v + 4) (gi 336 (103 + 5 * v + 4) + (clF (gi 336) v (prF (gi 336) b)))) 336 (103 + 5 * v + 3) (nI (iN (prF (gi 336) b)))) 336 (103 + 5 * v + 2) (nI b)) 336 (145 + 9 * b + 4) (nI v)) 336 (145 + 9 * b + 5) (((gi 336 5) + (mtF (gi 336) b v k)))) 336 (145 + 9 * b + 3) (((gi 336 (145 + 9 * b + 3)) + 1))) (336) (8) ((gi 336 8) + (lsF (gi 336) (gi 336 (145 + 9 * b + 2))))) (j := 145 + 9 * b + 2) rfl (by omega)) rfl rfl o335 (by decide) rfl (kk := ?_)
        refine go_top (y := (gi 336 (145 + 9 * b + 2))) (by simp (disch := omega) only [wI_ne, wI_eq, e1']) ?_
        refine go_iload 174 dX9_move_172 rfl (ls_s (ls_s (ls_s (ls_s (ls_s ls_0))))) ?_
        refine go_isub 175 dX9_move_174 rfl ?_
        refine go_VN (M' := mX9_puts) 178 dX9_move_175 rfl w_846 okX9_puts ⟨Nat.le_of_ble_eq_true rfl, Nat.le_of_ble_eq_true rfl⟩ (m_puts G (wI (wI (wI (wI (wI (wI (wI (wI (wI (wI g1 (336) ((133 + 4 * k + 2)) ((gi 336 5) + (mtF (gi 336) b v k))) (336) ((133 + 4 * k + 3)) ((gi 336 (133 + 4 * k + 3)) + (gi 336 (145 + 9 * b + 2)))) 336 (103 + 5 * ((bV (gi 336) b)) + 2) (-1)) 336 (103 + 5 * v + 4) (gi 336 (103 + 5 * v + 4) + (clF (gi 336) v (prF (gi 336) b)))) 336 (103 + 5 * v + 3) (nI (iN (prF (gi 336) b)))) 336 (103 + 5 * v + 2) (nI b)) 336 (145 + 9 * b + 4) (nI v)) 336 (145 + 9 * b + 5) (((gi 336 5) + (mtF (gi 336) b v k)))) 336 (145 + 9 * b + 3) (((gi 336 (145 + 9 * b + 3)) + 1))) (336) (8) ((gi 336 8) + (lsF (gi 336) (gi 336 (145 + 9 * b + 2))))) (j := 145 + 9 * b + 2) rfl (by omega) _) rfl rfl o335 (by decide) rfl (kk := ?_)
        refine go_iload_n 179 dX9_move_178 rfl rfl (ls_s (ls_s (ls_s ls_0))) ?_
        exact go_ret_i dX9_move_179 rfl rfl rfl (pM_m ((fMove_y ⟨isBat_n hb hl, isVes_n hv⟩ (by rw [iN_n (by omega), iN_n (by omega)]; exact hlt0)).trans (by rw [iN_n (n := b) (by omega), iN_n (n := v) (by omega), hik, hlt])) (nI_pos (by omega)) o p (by simp only [g336, e1, ← hpr.1]; rfl) (fun k hk => by simp only [wI_row hk]))
    · refine go_iconst 17 (v := (-1)) dX9_move_16 rfl (by decide) ?_
      exact go_ret_i dX9_move_17 rfl rfl rfl (pM_e (fMove_1 (fun z => c_13 z.2)) (by decide) hP)
