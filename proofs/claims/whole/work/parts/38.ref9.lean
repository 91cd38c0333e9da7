/-! THE REFERENCE: a text is read -/
def MX (T : TX) (L : Nat) (gi : GI) : Prop := gi 335 6 = nI L ∧ ∀ j, j < L → gi 339 j = T j
theorem sg_in {T : TX} {L p : Nat} {a b : Int32} (ha : ¬ a ≤ 0) (h : a ≤ sg T L p ∧ sg T L p ≤ b) : p < L := by
  unfold sg at h
  by_cases e : p < L
  · exact e
  · rw [if_neg e] at h; exact absurd h.1 ha
theorem sg_t {T : TX} {L p : Nat} (h : p < L) : sg T L p = T p := by rw [sg, if_pos h]
theorem sg_e {T : TX} {L p : Nat} {c : Int32} : (c ≤ sg T L p ∧ sg T L p ≤ c) ↔ sg T L p = c := by
  constructor
  · intro h
    exact Int32.le_antisymm h.2 h.1
  · intro h
    rw [h]
    exact ⟨Int32.le_refl _, Int32.le_refl _⟩
set_option maxHeartbeats 4000000 in
set_option maxRecDepth 100000 in
theorem m_isAt (G : BcG) {gi : GI} {T : TX} {L : Nat} (hL80 : L ≤ 80) (hM : MX T L gi) {p : Nat} (hp9 : p < 1000) (h7 : gi 335 7 = nI p) {a b : Int32} (ha : ¬ a ≤ 0) : Ct G mX9_isAt [.ref (G.1 + 335), .int a, .int b] (hp gi) (pI (bI (a ≤ sg T L p ∧ sg T L p ≤ b)) (hp gi)) := by
  refine ct_of [some (.ref (G.1 + 335)), some (.int a), some (.int b)] w_10 (by decide) rfl (Nat.le_of_ble_eq_true rfl) rfl ?_
  refine go_aload_n 1 dX9_isAt_0 rfl rfl ls_0 ?_
  refine gp_getI 4 dX9_isAt_1 rfl f_X9_127 rfl o335 ?_
  refine go_top (y := (nI p)) h7 ?_
  refine go_aload_n 5 dX9_isAt_4 rfl rfl ls_0 ?_
  refine gp_getI 8 dX9_isAt_5 rfl f_X9_121 rfl o335 ?_
  refine go_top (y := (nI L)) hM.1 ?_
  refine go_icmp_ge 32 11 dX9_isAt_8 (by decide) rfl (fun c_8 => ?_) (fun c_8 => ?_)
  · refine go_iconst 33 (v := 0) dX9_isAt_32 rfl (by decide) ?_
    exact go_ret_z dX9_isAt_33 rfl rfl rfl rfl (pI_of (bI_0 (fun z => nI_ge (sg_in ha z) (by omega) c_8)) rfl)
  · have hpL : p < L := Nat.lt_of_not_le (fun z => c_8 (nI_le z (by omega)))
    refine go_aload_n 12 dX9_isAt_11 rfl rfl ls_0 ?_
    refine gp_getR 15 dX9_isAt_12 rfl f_X9_19 rfl o335 rfl ?_
    refine go_aload_n 16 dX9_isAt_15 rfl rfl ls_0 ?_
    refine gp_getI 19 dX9_isAt_16 rfl f_X9_127 rfl o335 ?_
    refine go_top (y := (nI p)) h7 ?_
    refine gp_ialdN 20 (i := p) dX9_isAt_19 rfl a339 rfl (by omega) (by decide) ?_
    refine go_top (y := (T p)) (hM.2 p hpL) ?_
    refine go_iload_n 21 dX9_isAt_20 rfl rfl (ls_s ls_0) ?_
    refine go_iload_n 22 dX9_isAt_21 rfl rfl (ls_s (ls_s ls_0)) ?_
    refine go_SI (M' := mX9_in) 25 dX9_isAt_22 rfl w_768 okX9_in ⟨Nat.le_of_ble_eq_true rfl, Nat.le_of_ble_eq_true rfl⟩ (m_in G gi _ _ _) rfl rfl (kk := ?_)
    refine go_ifeq_b 32 28 dX9_isAt_25 (by decide) rfl (fun c_25 => ?_) (fun c_25 => ?_)
    · refine go_iconst 33 (v := 0) dX9_isAt_32 rfl (by decide) ?_
      exact go_ret_z dX9_isAt_33 rfl rfl rfl rfl (pI_of (bI_0 (fun z => c_25 (by rw [sg_t hpL] at z; exact z))) rfl)
    · refine go_iconst 29 (v := 1) dX9_isAt_28 rfl (by decide) ?_
      refine go_goto 33 dX9_isAt_29 (by decide) ?_
      exact go_ret_z dX9_isAt_33 rfl rfl rfl rfl (pI_of (bI_1 (by rw [sg_t hpL]; exact c_25)) rfl)
def OutU (g0 gi : GI) : Prop := (∀ k, k ≠ 335 → k ≠ 340 → gi k = g0 k) ∧ ∀ j, j ≠ 7 → gi 335 j = g0 335 j
theorem MX.out {T : TX} {L : Nat} {g0 gi : GI} (h : MX T L g0) (o : OutU g0 gi) : MX T L gi := ⟨(o.2 6 (by decide)).trans h.1, fun j hj => by rw [o.1 339 (by decide) (by decide)]; exact h.2 j hj⟩
theorem OutU.w7 {g0 gi : GI} (o : OutU g0 gi) (v : Int32) : OutU g0 (wI gi 335 7 v) := ⟨fun k h1 h2 => by rw [wI_row h1]; exact o.1 k h1 h2, fun j hj => by rw [wI_ne (by omega)]; exact o.2 j hj⟩
theorem OutU.wT {g0 gi : GI} (o : OutU g0 gi) (i : Nat) (v : Int32) : OutU g0 (wI gi 340 i v) := ⟨fun k h1 h2 => by rw [wI_row h2]; exact o.1 k h1 h2, fun j hj => by rw [wI_row (by decide)]; exact o.2 j hj⟩
def pNu (i p0 : Nat) (c : Int32) (T : TX) (L : Nat) (g0 : GI) (R : Int32 × Nat) : Option Value → BcH → Prop := fun v h' => v = some (.int (bI (p0 < R.2 ∧ sg T L R.2 = c))) ∧ ∃ gi, h' = hp gi ∧ OutU g0 gi ∧ gi 335 7 = nI (R.2 + 1) ∧ gi 340 i = R.1 ∧ ∀ j, j ≠ i → gi 340 j = g0 340 j
theorem nu_of {i p0 p : Nat} {c v x : Int32} {T : TX} {L : Nat} {g0 gi : GI} {R : Int32 × Nat} {d : Nat} (hR : R = (v, p)) (hx : x = bI (p0 < p ∧ sg T L p = c)) (hq : p = p0 + d) (hv : gi 340 i = v) (hj : ∀ j, j ≠ i → gi 340 j = g0 340 j) (ho : OutU g0 gi) : pNu i p0 c T L g0 R (some (.int x)) (hp (wI gi 335 7 (nI (p + 1)))) := by
  subst hR
  exact ⟨by rw [hx], _, rfl, ho.w7 _, by rw [wI_eq], by rw [wI_row (by decide)]; exact hv, fun j h => by rw [wI_row (by decide)]; exact hj j h⟩
set_option maxHeartbeats 4000000 in
set_option maxRecDepth 100000 in
theorem lm_number (G : BcG) {g0 : GI} {T : TX} {L : Nat} (hL80 : L ≤ 80) (hM : MX T L g0) {i p0 : Nat} (hi : i < 3) (hp0 : p0 < 900) {c : Int32} (hc : ¬ c ≤ 0) : ∀ (n d : Nat) (p : Nat) (v : Int32) (gi : GI), d + n = 3 → (p = p0 + d) → (gi 335 7 = nI p) → (gi 340 i = v) → (∀ j, j ≠ i → gi 340 j = g0 340 j) → (OutU g0 gi) → BGo G mX9_number (KM G mX9_number 341 (pNu i p0 c T L g0 (rdF T L n p v))) (hp gi) 0 0 12 [some (.ref (G.1 + 335)), some (.int (nI i)), some (.int c), some (.int (nI p0)), none] [] := by
  intro n
  induction n with
  | zero =>
    intro d p v gi hn hq h7 hv hj ho
    obtain rfl : d = 3 := by omega
    refine go_aload_n 13 dX9_number_12 rfl rfl ls_0 ?_
    refine go_bipush 15 (v := 48) dX9_number_13 rfl (by decide) ?_
    refine go_bipush 17 (v := 57) dX9_number_15 rfl (by decide) ?_
    refine go_VI (M' := mX9_isAt) 20 dX9_number_17 rfl w_988 okX9_isAt ⟨Nat.le_of_ble_eq_true rfl, Nat.le_of_ble_eq_true rfl⟩ (m_isAt G hL80 (hM.out ho) (p := p) (by omega) h7 (by decide)) rfl rfl o335 (by decide) rfl (kk := ?_)
    refine go_ifeq_b 74 23 dX9_number_20 (by decide) rfl (fun c_20 => ?_) (fun c_20 => ?_)
    · refine go_aload_n 75 dX9_number_74 rfl rfl ls_0 ?_
      refine gp_getI 78 dX9_number_75 rfl f_X9_127 rfl o335 ?_
      refine go_top (y := (nI p)) h7 ?_
      refine go_iload_n 79 dX9_number_78 rfl rfl (ls_s (ls_s (ls_s ls_0))) ?_
      refine go_icmp_le 95 82 dX9_number_79 (by decide) rfl (fun c_79 => ?_) (fun c_79 => ?_)
      · have npos : ¬ p0 < p := fun z => nI_ge z (by omega) c_79
        refine go_iconst 96 (v := 0) dX9_number_95 rfl (by decide) ?_
        refine go_istore 98 dX9_number_96 rfl (by decide) (st_s (st_s (st_s (st_s st_0)))) ?_
        refine go_aload_n 99 dX9_number_98 rfl rfl ls_0 ?_
        refine go_dup 100 dX9_number_99 rfl rfl ?_
        refine gp_getI 103 dX9_number_100 rfl f_X9_127 rfl o335 ?_
        refine go_top (y := (nI p)) h7 ?_
        refine go_iconst 104 (v := 1) dX9_number_103 rfl (by decide) ?_
        refine go_iadd 105 dX9_number_104 rfl ?_
        refine go_top (y := (nI (p + 1))) (nI_1 _) ?_
        refine gp_putI 108 dX9_number_105 rfl f_X9_127 rfl o335 rfl rfl ?_
        refine go_iload 110 dX9_number_108 rfl (ls_s (ls_s (ls_s (ls_s ls_0)))) ?_
        exact go_ret_z dX9_number_110 rfl rfl rfl rfl (nu_of rfl (bI_0 (fun z => npos z.1)) hq hv hj ho)
      · have pos : p0 < p := Nat.lt_of_not_le (fun z => c_79 (nI_le z (by omega)))
        refine go_aload_n 83 dX9_number_82 rfl rfl ls_0 ?_
        refine go_iload_n 84 dX9_number_83 rfl rfl (ls_s (ls_s ls_0)) ?_
        refine go_iload_n 85 dX9_number_84 rfl rfl (ls_s (ls_s ls_0)) ?_
        refine go_VI (M' := mX9_isAt) 88 dX9_number_85 rfl w_988 okX9_isAt ⟨Nat.le_of_ble_eq_true rfl, Nat.le_of_ble_eq_true rfl⟩ (m_isAt G hL80 (hM.out ho) (p := p) (by omega) h7 hc) rfl rfl o335 (by decide) rfl (kk := ?_)
        refine go_ifeq_b 95 91 dX9_number_88 (by decide) rfl (fun c_88 => ?_) (fun c_88 => ?_)
        · refine go_iconst 96 (v := 0) dX9_number_95 rfl (by decide) ?_
          refine go_istore 98 dX9_number_96 rfl (by decide) (st_s (st_s (st_s (st_s st_0)))) ?_
          refine go_aload_n 99 dX9_number_98 rfl rfl ls_0 ?_
          refine go_dup 100 dX9_number_99 rfl rfl ?_
          refine gp_getI 103 dX9_number_100 rfl f_X9_127 rfl o335 ?_
          refine go_top (y := (nI p)) h7 ?_
          refine go_iconst 104 (v := 1) dX9_number_103 rfl (by decide) ?_
          refine go_iadd 105 dX9_number_104 rfl ?_
          refine go_top (y := (nI (p + 1))) (nI_1 _) ?_
          refine gp_putI 108 dX9_number_105 rfl f_X9_127 rfl o335 rfl rfl ?_
          refine go_iload 110 dX9_number_108 rfl (ls_s (ls_s (ls_s (ls_s ls_0)))) ?_
          exact go_ret_z dX9_number_110 rfl rfl rfl rfl (nu_of rfl (bI_0 (fun z => c_88 (sg_e.mpr z.2))) hq hv hj ho)
        · refine go_iconst 92 (v := 1) dX9_number_91 rfl (by decide) ?_
          refine go_goto 96 dX9_number_92 (by decide) ?_
          refine go_istore 98 dX9_number_96 rfl (by decide) (st_s (st_s (st_s (st_s st_0)))) ?_
          refine go_aload_n 99 dX9_number_98 rfl rfl ls_0 ?_
          refine go_dup 100 dX9_number_99 rfl rfl ?_
          refine gp_getI 103 dX9_number_100 rfl f_X9_127 rfl o335 ?_
          refine go_top (y := (nI p)) h7 ?_
          refine go_iconst 104 (v := 1) dX9_number_103 rfl (by decide) ?_
          refine go_iadd 105 dX9_number_104 rfl ?_
          refine go_top (y := (nI (p + 1))) (nI_1 _) ?_
          refine gp_putI 108 dX9_number_105 rfl f_X9_127 rfl o335 rfl rfl ?_
          refine go_iload 110 dX9_number_108 rfl (ls_s (ls_s (ls_s (ls_s ls_0)))) ?_
          exact go_ret_z dX9_number_110 rfl rfl rfl rfl (nu_of rfl (bI_1 ⟨pos, sg_e.mp c_88⟩) hq hv hj ho)
    · refine go_aload_n 24 dX9_number_23 rfl rfl ls_0 ?_
      refine gp_getI 27 dX9_number_24 rfl f_X9_127 rfl o335 ?_
      refine go_top (y := (nI p)) h7 ?_
      refine go_iload_n 28 dX9_number_27 rfl rfl (ls_s (ls_s (ls_s ls_0))) ?_
      refine go_isub 29 dX9_number_28 rfl ?_
      refine go_iconst 30 (v := 3) dX9_number_29 rfl (by decide) ?_
      refine go_icmp_ge 74 33 dX9_number_30 (by decide) rfl (fun c_30 => ?_) (fun c_30 => absurd (show (3 : Int32) ≤ nI p - nI p0 by rw [hq, show p0 + 3 = 3 + p0 by omega, ← nI_add, Int32.add_sub_cancel]; decide) c_30)
      refine go_aload_n 75 dX9_number_74 rfl rfl ls_0 ?_
      refine gp_getI 78 dX9_number_75 rfl f_X9_127 rfl o335 ?_
      refine go_top (y := (nI p)) h7 ?_
      refine go_iload_n 79 dX9_number_78 rfl rfl (ls_s (ls_s (ls_s ls_0))) ?_
      refine go_icmp_le 95 82 dX9_number_79 (by decide) rfl (fun c_79 => ?_) (fun c_79 => ?_)
      · have npos : ¬ p0 < p := fun z => nI_ge z (by omega) c_79
        refine go_iconst 96 (v := 0) dX9_number_95 rfl (by decide) ?_
        refine go_istore 98 dX9_number_96 rfl (by decide) (st_s (st_s (st_s (st_s st_0)))) ?_
        refine go_aload_n 99 dX9_number_98 rfl rfl ls_0 ?_
        refine go_dup 100 dX9_number_99 rfl rfl ?_
        refine gp_getI 103 dX9_number_100 rfl f_X9_127 rfl o335 ?_
        refine go_top (y := (nI p)) h7 ?_
        refine go_iconst 104 (v := 1) dX9_number_103 rfl (by decide) ?_
        refine go_iadd 105 dX9_number_104 rfl ?_
        refine go_top (y := (nI (p + 1))) (nI_1 _) ?_
        refine gp_putI 108 dX9_number_105 rfl f_X9_127 rfl o335 rfl rfl ?_
        refine go_iload 110 dX9_number_108 rfl (ls_s (ls_s (ls_s (ls_s ls_0)))) ?_
        exact go_ret_z dX9_number_110 rfl rfl rfl rfl (nu_of rfl (bI_0 (fun z => npos z.1)) hq hv hj ho)
      · have pos : p0 < p := Nat.lt_of_not_le (fun z => c_79 (nI_le z (by omega)))
        refine go_aload_n 83 dX9_number_82 rfl rfl ls_0 ?_
        refine go_iload_n 84 dX9_number_83 rfl rfl (ls_s (ls_s ls_0)) ?_
        refine go_iload_n 85 dX9_number_84 rfl rfl (ls_s (ls_s ls_0)) ?_
        refine go_VI (M' := mX9_isAt) 88 dX9_number_85 rfl w_988 okX9_isAt ⟨Nat.le_of_ble_eq_true rfl, Nat.le_of_ble_eq_true rfl⟩ (m_isAt G hL80 (hM.out ho) (p := p) (by omega) h7 hc) rfl rfl o335 (by decide) rfl (kk := ?_)
        refine go_ifeq_b 95 91 dX9_number_88 (by decide) rfl (fun c_88 => ?_) (fun c_88 => ?_)
        · refine go_iconst 96 (v := 0) dX9_number_95 rfl (by decide) ?_
          refine go_istore 98 dX9_number_96 rfl (by decide) (st_s (st_s (st_s (st_s st_0)))) ?_
          refine go_aload_n 99 dX9_number_98 rfl rfl ls_0 ?_
          refine go_dup 100 dX9_number_99 rfl rfl ?_
          refine gp_getI 103 dX9_number_100 rfl f_X9_127 rfl o335 ?_
          refine go_top (y := (nI p)) h7 ?_
          refine go_iconst 104 (v := 1) dX9_number_103 rfl (by decide) ?_
          refine go_iadd 105 dX9_number_104 rfl ?_
          refine go_top (y := (nI (p + 1))) (nI_1 _) ?_
          refine gp_putI 108 dX9_number_105 rfl f_X9_127 rfl o335 rfl rfl ?_
          refine go_iload 110 dX9_number_108 rfl (ls_s (ls_s (ls_s (ls_s ls_0)))) ?_
          exact go_ret_z dX9_number_110 rfl rfl rfl rfl (nu_of rfl (bI_0 (fun z => c_88 (sg_e.mpr z.2))) hq hv hj ho)
        · refine go_iconst 92 (v := 1) dX9_number_91 rfl (by decide) ?_
          refine go_goto 96 dX9_number_92 (by decide) ?_
          refine go_istore 98 dX9_number_96 rfl (by decide) (st_s (st_s (st_s (st_s st_0)))) ?_
          refine go_aload_n 99 dX9_number_98 rfl rfl ls_0 ?_
          refine go_dup 100 dX9_number_99 rfl rfl ?_
          refine gp_getI 103 dX9_number_100 rfl f_X9_127 rfl o335 ?_
          refine go_top (y := (nI p)) h7 ?_
          refine go_iconst 104 (v := 1) dX9_number_103 rfl (by decide) ?_
          refine go_iadd 105 dX9_number_104 rfl ?_
          refine go_top (y := (nI (p + 1))) (nI_1 _) ?_
          refine gp_putI 108 dX9_number_105 rfl f_X9_127 rfl o335 rfl rfl ?_
          refine go_iload 110 dX9_number_108 rfl (ls_s (ls_s (ls_s (ls_s ls_0)))) ?_
          exact go_ret_z dX9_number_110 rfl rfl rfl rfl (nu_of rfl (bI_1 ⟨pos, sg_e.mp c_88⟩) hq hv hj ho)
  | succ n ih =>
    intro d p v gi hn hq h7 hv hj ho
    have hd3 : d < 3 := by omega
    refine go_aload_n 13 dX9_number_12 rfl rfl ls_0 ?_
    refine go_bipush 15 (v := 48) dX9_number_13 rfl (by decide) ?_
    refine go_bipush 17 (v := 57) dX9_number_15 rfl (by decide) ?_
    refine go_VI (M' := mX9_isAt) 20 dX9_number_17 rfl w_988 okX9_isAt ⟨Nat.le_of_ble_eq_true rfl, Nat.le_of_ble_eq_true rfl⟩ (m_isAt G hL80 (hM.out ho) (p := p) (by omega) h7 (by decide)) rfl rfl o335 (by decide) rfl (kk := ?_)
    refine go_ifeq_b 74 23 dX9_number_20 (by decide) rfl (fun c_20 => ?_) (fun c_20 => ?_)
    · refine go_aload_n 75 dX9_number_74 rfl rfl ls_0 ?_
      refine gp_getI 78 dX9_number_75 rfl f_X9_127 rfl o335 ?_
      refine go_top (y := (nI p)) h7 ?_
      refine go_iload_n 79 dX9_number_78 rfl rfl (ls_s (ls_s (ls_s ls_0))) ?_
      refine go_icmp_le 95 82 dX9_number_79 (by decide) rfl (fun c_79 => ?_) (fun c_79 => ?_)
      · have npos : ¬ p0 < p := fun z => nI_ge z (by omega) c_79
        refine go_iconst 96 (v := 0) dX9_number_95 rfl (by decide) ?_
        refine go_istore 98 dX9_number_96 rfl (by decide) (st_s (st_s (st_s (st_s st_0)))) ?_
        refine go_aload_n 99 dX9_number_98 rfl rfl ls_0 ?_
        refine go_dup 100 dX9_number_99 rfl rfl ?_
        refine gp_getI 103 dX9_number_100 rfl f_X9_127 rfl o335 ?_
        refine go_top (y := (nI p)) h7 ?_
        refine go_iconst 104 (v := 1) dX9_number_103 rfl (by decide) ?_
        refine go_iadd 105 dX9_number_104 rfl ?_
        refine go_top (y := (nI (p + 1))) (nI_1 _) ?_
        refine gp_putI 108 dX9_number_105 rfl f_X9_127 rfl o335 rfl rfl ?_
        refine go_iload 110 dX9_number_108 rfl (ls_s (ls_s (ls_s (ls_s ls_0)))) ?_
        exact go_ret_z dX9_number_110 rfl rfl rfl rfl (nu_of (rdF_f c_20) (bI_0 (fun z => npos z.1)) hq hv hj ho)
      · have pos : p0 < p := Nat.lt_of_not_le (fun z => c_79 (nI_le z (by omega)))
        refine go_aload_n 83 dX9_number_82 rfl rfl ls_0 ?_
        refine go_iload_n 84 dX9_number_83 rfl rfl (ls_s (ls_s ls_0)) ?_
        refine go_iload_n 85 dX9_number_84 rfl rfl (ls_s (ls_s ls_0)) ?_
        refine go_VI (M' := mX9_isAt) 88 dX9_number_85 rfl w_988 okX9_isAt ⟨Nat.le_of_ble_eq_true rfl, Nat.le_of_ble_eq_true rfl⟩ (m_isAt G hL80 (hM.out ho) (p := p) (by omega) h7 hc) rfl rfl o335 (by decide) rfl (kk := ?_)
        refine go_ifeq_b 95 91 dX9_number_88 (by decide) rfl (fun c_88 => ?_) (fun c_88 => ?_)
        · refine go_iconst 96 (v := 0) dX9_number_95 rfl (by decide) ?_
          refine go_istore 98 dX9_number_96 rfl (by decide) (st_s (st_s (st_s (st_s st_0)))) ?_
          refine go_aload_n 99 dX9_number_98 rfl rfl ls_0 ?_
          refine go_dup 100 dX9_number_99 rfl rfl ?_
          refine gp_getI 103 dX9_number_100 rfl f_X9_127 rfl o335 ?_
          refine go_top (y := (nI p)) h7 ?_
          refine go_iconst 104 (v := 1) dX9_number_103 rfl (by decide) ?_
          refine go_iadd 105 dX9_number_104 rfl ?_
          refine go_top (y := (nI (p + 1))) (nI_1 _) ?_
          refine gp_putI 108 dX9_number_105 rfl f_X9_127 rfl o335 rfl rfl ?_
          refine go_iload 110 dX9_number_108 rfl (ls_s (ls_s (ls_s (ls_s ls_0)))) ?_
          exact go_ret_z dX9_number_110 rfl rfl rfl rfl (nu_of (rdF_f c_20) (bI_0 (fun z => c_88 (sg_e.mpr z.2))) hq hv hj ho)
        · refine go_iconst 92 (v := 1) dX9_number_91 rfl (by decide) ?_
          refine go_goto 96 dX9_number_92 (by decide) ?_
          refine go_istore 98 dX9_number_96 rfl (by decide) (st_s (st_s (st_s (st_s st_0)))) ?_
          refine go_aload_n 99 dX9_number_98 rfl rfl ls_0 ?_
          refine go_dup 100 dX9_number_99 rfl rfl ?_
          refine gp_getI 103 dX9_number_100 rfl f_X9_127 rfl o335 ?_
          refine go_top (y := (nI p)) h7 ?_
          refine go_iconst 104 (v := 1) dX9_number_103 rfl (by decide) ?_
          refine go_iadd 105 dX9_number_104 rfl ?_
          refine go_top (y := (nI (p + 1))) (nI_1 _) ?_
          refine gp_putI 108 dX9_number_105 rfl f_X9_127 rfl o335 rfl rfl ?_
          refine go_iload 110 dX9_number_108 rfl (ls_s (ls_s (ls_s (ls_s ls_0)))) ?_
          exact go_ret_z dX9_number_110 rfl rfl rfl rfl (nu_of (rdF_f c_20) (bI_1 ⟨pos, sg_e.mp c_88⟩) hq hv hj ho)
    · refine go_aload_n 24 dX9_number_23 rfl rfl ls_0 ?_
      refine gp_getI 27 dX9_number_24 rfl f_X9_127 rfl o335 ?_
      refine go_top (y := (nI p)) h7 ?_
      refine go_iload_n 28 dX9_number_27 rfl rfl (ls_s (ls_s (ls_s ls_0))) ?_
      refine go_isub 29 dX9_number_28 rfl ?_
      refine go_iconst 30 (v := 3) dX9_number_29 rfl (by decide) ?_
      refine go_icmp_ge 74 33 dX9_number_30 (by decide) rfl (fun c_30 => absurd c_30 (show ¬ (3 : Int32) ≤ nI p - nI p0 by rw [hq, Nat.add_comm, ← nI_add, Int32.add_sub_cancel]; exact nI_ge (b := 3) hd3 (by decide))) (fun c_30 => ?_)
      have hpL : p < L := sg_in (by decide) c_20
      refine go_aload_n 34 dX9_number_33 rfl rfl ls_0 ?_
      refine gp_getR 37 dX9_number_34 rfl f_X9_22 rfl o335 rfl ?_
      refine go_iload_n 38 dX9_number_37 rfl rfl (ls_s ls_0) ?_
      refine go_bipush 40 (v := 10) dX9_number_38 rfl (by decide) ?_
      refine go_aload_n 41 dX9_number_40 rfl rfl ls_0 ?_
      refine gp_getR 44 dX9_number_41 rfl f_X9_22 rfl o335 rfl ?_
      refine go_iload_n 45 dX9_number_44 rfl rfl (ls_s ls_0) ?_
      refine gp_ialdN 46 (i := i) dX9_number_45 rfl a340 rfl hi (by decide) ?_
      refine go_top (y := v) hv ?_
      refine go_imul 47 dX9_number_46 rfl ?_
      refine go_top (y := (v * 10)) (Int32.mul_comm _ _) ?_
      refine go_aload_n 48 dX9_number_47 rfl rfl ls_0 ?_
      refine gp_getR 51 dX9_number_48 rfl f_X9_19 rfl o335 rfl ?_
      refine go_aload_n 52 dX9_number_51 rfl rfl ls_0 ?_
      refine gp_getI 55 dX9_number_52 rfl f_X9_127 rfl o335 ?_
      refine go_top (y := (nI p)) h7 ?_
      refine gp_ialdN 56 (i := p) dX9_number_55 rfl a339 rfl (by omega) (by decide) ?_
      refine go_top (y := (sg T L p)) (((hM.out ho).2 p hpL).trans (sg_t hpL).symm) ?_
      refine go_iadd 57 dX9_number_56 rfl ?_
      refine go_bipush 59 (v := 48) dX9_number_57 rfl (by decide) ?_
      refine go_isub 60 dX9_number_59 rfl ?_
      refine gp_iastN 61 (i := i) dX9_number_60 rfl a340 rfl hi (by decide) ?_
      refine go_aload_n 62 dX9_number_61 rfl rfl ls_0 ?_
      refine go_dup 63 dX9_number_62 rfl rfl ?_
      refine gp_getI 66 dX9_number_63 rfl f_X9_127 rfl o335 ?_
      refine go_top (y := (nI p)) (by rw [wI_ne (by omega)]; exact h7) ?_
      refine go_iconst 67 (v := 1) dX9_number_66 rfl (by decide) ?_
      refine go_iadd 68 dX9_number_67 rfl ?_
      refine go_top (y := (nI (p + 1))) (nI_1 _) ?_
      refine gp_putI 71 dX9_number_68 rfl f_X9_127 rfl o335 rfl rfl ?_
      refine go_goto 12 dX9_number_71 (by decide) ?_
      rw [rdF_t c_20]
      exact ih (d + 1) (p + 1) _ _ (by omega) (by omega) (by rw [wI_eq]) (by rw [wI_ne (by omega), wI_eq]) (fun j hj2 => by rw [wI_ne (by omega), wI_ne (by omega)]; exact hj j hj2) ((ho.wT _ _).w7 _)
set_option maxHeartbeats 4000000 in
set_option maxRecDepth 100000 in
theorem m_number (G : BcG) {g0 : GI} {T : TX} {L : Nat} (hL80 : L ≤ 80) (hM : MX T L g0) {i p0 : Nat} (hi : i < 3) (hp0 : p0 < 900) {c : Int32} (hc : ¬ c ≤ 0) (h7 : g0 335 7 = nI p0) : Ct G mX9_number [.ref (G.1 + 335), .int (nI i), .int c] (hp g0) (pNu i p0 c T L g0 (nmF T L p0)) := by
  refine ct_of [some (.ref (G.1 + 335)), some (.int (nI i)), some (.int c), none, none] w_10 (by decide) rfl (Nat.le_of_ble_eq_true rfl) rfl ?_
  refine go_aload_n 1 dX9_number_0 rfl rfl ls_0 ?_
  refine gp_getI 4 dX9_number_1 rfl f_X9_127 rfl o335 ?_
  refine go_top (y := (nI p0)) h7 ?_
  refine go_istore_n 5 dX9_number_4 rfl rfl (by decide) (st_s (st_s (st_s st_0))) ?_
  refine go_aload_n 6 dX9_number_5 rfl rfl ls_0 ?_
  refine gp_getR 9 dX9_number_6 rfl f_X9_22 rfl o335 rfl ?_
  refine go_iload_n 10 dX9_number_9 rfl rfl (ls_s ls_0) ?_
  refine go_iconst 11 (v := 0) dX9_number_10 rfl (by decide) ?_
  refine gp_iastN 12 (i := i) dX9_number_11 rfl a340 rfl hi (by decide) ?_
  exact lm_number G hL80 hM hi hp0 hc 3 0 p0 0 _ rfl rfl (by rw [wI_row (by decide)]; exact h7) (by rw [wI_eq]) (fun j h => wI_ne (by omega)) (OutU.wT ⟨fun _ _ _ => rfl, fun _ _ => rfl⟩ _ _)
set_option maxHeartbeats 4000000 in
set_option maxRecDepth 100000 in
theorem m_numbersOf (G : BcG) (gi : GI) (x : Int32) : Ct G mX9_numbersOf [.int x] (hp gi) (pI (nI (mny x)) (hp gi)) := by
  refine ct_of [some (.int x)] w_10 (by decide) rfl (Nat.le_of_ble_eq_true rfl) rfl ?_
  refine go_iload_n 1 dX9_numbersOf_0 rfl rfl ls_0 ?_
  refine go_bipush 3 (v := 98) dX9_numbersOf_1 rfl (by decide) ?_
  refine go_icmp_ne 10 6 dX9_numbersOf_3 (by decide) rfl (fun c_3 => ?_) (fun c_3 => ?_)
  · refine go_iload_n 11 dX9_numbersOf_10 rfl rfl ls_0 ?_
    refine go_bipush 13 (v := 109) dX9_numbersOf_11 rfl (by decide) ?_
    refine go_icmp_eq 22 16 dX9_numbersOf_13 (by decide) rfl (fun c_13 => ?_) (fun c_13 => ?_)
    · refine go_iconst 23 (v := 2) dX9_numbersOf_22 rfl (by decide) ?_
      refine go_goto 49 dX9_numbersOf_23 (by decide) ?_
      exact go_ret_i dX9_numbersOf_49 rfl rfl rfl (pI_of (by rw [mny, if_neg c_3, if_pos (Or.inl c_13)]; rfl) rfl)
    · refine go_iload_n 17 dX9_numbersOf_16 rfl rfl ls_0 ?_
      refine go_bipush 19 (v := 111) dX9_numbersOf_17 rfl (by decide) ?_
      refine go_icmp_ne 26 22 dX9_numbersOf_19 (by decide) rfl (fun c_19 => ?_) (fun c_19 => ?_)
      · refine go_iload_n 27 dX9_numbersOf_26 rfl rfl ls_0 ?_
        refine go_bipush 29 (v := 101) dX9_numbersOf_27 rfl (by decide) ?_
        refine go_icmp_eq 44 32 dX9_numbersOf_29 (by decide) rfl (fun c_29 => ?_) (fun c_29 => ?_)
        · refine go_iconst 45 (v := 1) dX9_numbersOf_44 rfl (by decide) ?_
          refine go_goto 49 dX9_numbersOf_45 (by decide) ?_
          exact go_ret_i dX9_numbersOf_49 rfl rfl rfl (pI_of (by rw [mny, if_neg c_3, if_neg (fun z => z.elim c_13 c_19), if_pos (Or.inl c_29)]; rfl) rfl)
        · refine go_iload_n 33 dX9_numbersOf_32 rfl rfl ls_0 ?_
          refine go_bipush 35 (v := 120) dX9_numbersOf_33 rfl (by decide) ?_
          refine go_icmp_eq 44 38 dX9_numbersOf_35 (by decide) rfl (fun c_35 => ?_) (fun c_35 => ?_)
          · refine go_iconst 45 (v := 1) dX9_numbersOf_44 rfl (by decide) ?_
            refine go_goto 49 dX9_numbersOf_45 (by decide) ?_
            exact go_ret_i dX9_numbersOf_49 rfl rfl rfl (pI_of (by rw [mny, if_neg c_3, if_neg (fun z => z.elim c_13 c_19), if_pos (Or.inr (Or.inr c_35))]; rfl) rfl)
          · refine go_iload_n 39 dX9_numbersOf_38 rfl rfl ls_0 ?_
            refine go_bipush 41 (v := 116) dX9_numbersOf_39 rfl (by decide) ?_
            refine go_icmp_ne 48 44 dX9_numbersOf_41 (by decide) rfl (fun c_41 => ?_) (fun c_41 => ?_)
            · refine go_iconst 49 (v := 0) dX9_numbersOf_48 rfl (by decide) ?_
              exact go_ret_i dX9_numbersOf_49 rfl rfl rfl (pI_of (by rw [mny, if_neg c_3, if_neg (fun z => z.elim c_13 c_19), if_neg (fun z => z.elim c_29 (fun q => q.elim c_41 c_35))]; rfl) rfl)
            · refine go_iconst 45 (v := 1) dX9_numbersOf_44 rfl (by decide) ?_
              refine go_goto 49 dX9_numbersOf_45 (by decide) ?_
              exact go_ret_i dX9_numbersOf_49 rfl rfl rfl (pI_of (by rw [mny, if_neg c_3, if_neg (fun z => z.elim c_13 c_19), if_pos (Or.inr (Or.inl c_41))]; rfl) rfl)
      · refine go_iconst 23 (v := 2) dX9_numbersOf_22 rfl (by decide) ?_
        refine go_goto 49 dX9_numbersOf_23 (by decide) ?_
        exact go_ret_i dX9_numbersOf_49 rfl rfl rfl (pI_of (by rw [mny, if_neg c_3, if_pos (Or.inr c_19)]; rfl) rfl)
  · refine go_iconst 7 (v := 3) dX9_numbersOf_6 rfl (by decide) ?_
    refine go_goto 49 dX9_numbersOf_7 (by decide) ?_
    exact go_ret_i dX9_numbersOf_49 rfl rfl rfl (pI_of (by rw [mny, if_pos c_3]; rfl) rfl)
set_option maxHeartbeats 4000000 in
set_option maxRecDepth 100000 in
theorem m_calls98 (G : BcG) {gi : GI} {N : Nat} (I : Inv N (gi 336)) {H : List AA} (hl4 : H.length ≤ 4) (hP : gi 335 4 = 0 → PastR H gi) {E : Nat → Int32} (hE : ∀ j, j < 3 → gi 340 j = E j) : Ct G mX9_calls [.ref (G.1 + 335), .int 98] (hp gi) (pM gi H (exF (gi 336) 98 E)) := by
  rw [ex_98]
  refine ct_of [some (.ref (G.1 + 335)), some (.int 98)] w_10 (by decide) rfl (Nat.le_of_ble_eq_true rfl) rfl ?_
  refine go_iload_n 1 dX9_calls_0 rfl rfl (ls_s ls_0) ?_
  refine go_lookup 52 dX9_calls_1 (by decide +kernel) (off := 51) (by decide +kernel) (by decide) ?_
  refine go_aload_n 53 dX9_calls_52 rfl rfl ls_0 ?_
  refine go_aload_n 54 dX9_calls_53 rfl rfl ls_0 ?_
  refine gp_getR 57 dX9_calls_54 rfl f_X9_22 rfl o335 rfl ?_
  refine go_iconst 58 (v := 0) dX9_calls_57 rfl (by decide) ?_
  refine gp_ialdN 59 (i := 0) dX9_calls_58 rfl a340 rfl (by decide) (by decide) ?_
  refine go_top (y := (E 0)) (hE 0 (by decide)) ?_
  refine go_aload_n 60 dX9_calls_59 rfl rfl ls_0 ?_
  refine gp_getR 63 dX9_calls_60 rfl f_X9_22 rfl o335 rfl ?_
  refine go_iconst 64 (v := 1) dX9_calls_63 rfl (by decide) ?_
  refine gp_ialdN 65 (i := 1) dX9_calls_64 rfl a340 rfl (by decide) (by decide) ?_
  refine go_top (y := (E 1)) (hE 1 (by decide)) ?_
  refine go_aload_n 66 dX9_calls_65 rfl rfl ls_0 ?_
  refine gp_getR 69 dX9_calls_66 rfl f_X9_22 rfl o335 rfl ?_
  refine go_iconst 70 (v := 2) dX9_calls_69 rfl (by decide) ?_
  refine gp_ialdN 71 (i := 2) dX9_calls_70 rfl a340 rfl (by decide) (by decide) ?_
  refine go_top (y := (E 2)) (hE 2 (by decide)) ?_
  refine go_V (M' := mX9_begin) 74 dX9_calls_71 rfl w_996 okX9_begin ⟨Nat.le_of_ble_eq_true rfl, Nat.le_of_ble_eq_true rfl⟩ rfl rfl (Nat.le_of_ble_eq_true rfl) (Nat.le_of_ble_eq_true rfl) (mo_begin G I hl4 hP (E 0) (E 1) (E 2)) rfl rfl (Nat.le_of_ble_eq_true rfl) o335 (by decide) rfl (fun v_71 h_71 p_71 => ?_)
  obtain ⟨rfl, g2, rfl, q1, q2, q3, q4⟩ := p_71
  exact go_ret_i dX9_calls_74 rfl rfl rfl ⟨rfl, g2, rfl, q1, q2, q3, q4⟩
set_option maxHeartbeats 4000000 in
set_option maxRecDepth 100000 in
theorem m_calls109 (G : BcG) {gi : GI} {N : Nat} (I : Inv N (gi 336)) {H : List AA} (hl4 : H.length ≤ 4) (hP : gi 335 4 = 0 → PastR H gi) {E : Nat → Int32} (hE : ∀ j, j < 2 → gi 340 j = E j) : Ct G mX9_calls [.ref (G.1 + 335), .int 109] (hp gi) (pM gi H (exF (gi 336) 109 E)) := by
  rw [ex_109]
  refine ct_of [some (.ref (G.1 + 335)), some (.int 109)] w_10 (by decide) rfl (Nat.le_of_ble_eq_true rfl) rfl ?_
  refine go_iload_n 1 dX9_calls_0 rfl rfl (ls_s ls_0) ?_
  refine go_lookup 75 dX9_calls_1 (by decide +kernel) (off := 74) (by decide +kernel) (by decide) ?_
  refine go_aload_n 76 dX9_calls_75 rfl rfl ls_0 ?_
  refine go_aload_n 77 dX9_calls_76 rfl rfl ls_0 ?_
  refine gp_getR 80 dX9_calls_77 rfl f_X9_22 rfl o335 rfl ?_
  refine go_iconst 81 (v := 0) dX9_calls_80 rfl (by decide) ?_
  refine gp_ialdN 82 (i := 0) dX9_calls_81 rfl a340 rfl (by decide) (by decide) ?_
  refine go_top (y := (E 0)) (hE 0 (by decide)) ?_
  refine go_aload_n 83 dX9_calls_82 rfl rfl ls_0 ?_
  refine gp_getR 86 dX9_calls_83 rfl f_X9_22 rfl o335 rfl ?_
  refine go_iconst 87 (v := 1) dX9_calls_86 rfl (by decide) ?_
  refine gp_ialdN 88 (i := 1) dX9_calls_87 rfl a340 rfl (by decide) (by decide) ?_
  refine go_top (y := (E 1)) (hE 1 (by decide)) ?_
  refine go_V (M' := mX9_move) 91 dX9_calls_88 rfl w_997 okX9_move ⟨Nat.le_of_ble_eq_true rfl, Nat.le_of_ble_eq_true rfl⟩ rfl rfl (Nat.le_of_ble_eq_true rfl) (Nat.le_of_ble_eq_true rfl) (mo_move G I hl4 hP (E 0) (E 1)) rfl rfl (Nat.le_of_ble_eq_true rfl) o335 (by decide) rfl (fun v_88 h_88 p_88 => ?_)
  obtain ⟨rfl, g2, rfl, q1, q2, q3, q4⟩ := p_88
  exact go_ret_i dX9_calls_91 rfl rfl rfl ⟨rfl, g2, rfl, q1, q2, q3, q4⟩
set_option maxHeartbeats 4000000 in
set_option maxRecDepth 100000 in
theorem m_calls101 (G : BcG) {gi : GI} {N : Nat} (I : Inv N (gi 336)) {H : List AA} (hl4 : H.length ≤ 4) (hP : gi 335 4 = 0 → PastR H gi) {E : Nat → Int32} (hE : ∀ j, j < 1 → gi 340 j = E j) : Ct G mX9_calls [.ref (G.1 + 335), .int 101] (hp gi) (pM gi H (exF (gi 336) 101 E)) := by
  rw [ex_101]
  refine ct_of [some (.ref (G.1 + 335)), some (.int 101)] w_10 (by decide) rfl (Nat.le_of_ble_eq_true rfl) rfl ?_
  refine go_iload_n 1 dX9_calls_0 rfl rfl (ls_s ls_0) ?_
  refine go_lookup 92 dX9_calls_1 (by decide +kernel) (off := 91) (by decide +kernel) (by decide) ?_
  refine go_aload_n 93 dX9_calls_92 rfl rfl ls_0 ?_
  refine go_aload_n 94 dX9_calls_93 rfl rfl ls_0 ?_
  refine gp_getR 97 dX9_calls_94 rfl f_X9_22 rfl o335 rfl ?_
  refine go_iconst 98 (v := 0) dX9_calls_97 rfl (by decide) ?_
  refine gp_ialdN 99 (i := 0) dX9_calls_98 rfl a340 rfl (by decide) (by decide) ?_
  refine go_top (y := (E 0)) (hE 0 (by decide)) ?_
  refine go_V (M' := mX9_end) 102 dX9_calls_99 rfl w_998 okX9_end ⟨Nat.le_of_ble_eq_true rfl, Nat.le_of_ble_eq_true rfl⟩ rfl rfl (Nat.le_of_ble_eq_true rfl) (Nat.le_of_ble_eq_true rfl) (mo_end G I hl4 hP (E 0)) rfl rfl (Nat.le_of_ble_eq_true rfl) o335 (by decide) rfl (fun v_99 h_99 p_99 => ?_)
  obtain ⟨rfl, g2, rfl, q1, q2, q3, q4⟩ := p_99
  exact go_ret_i dX9_calls_102 rfl rfl rfl ⟨rfl, g2, rfl, q1, q2, q3, q4⟩
set_option maxHeartbeats 4000000 in
set_option maxRecDepth 100000 in
theorem m_calls120 (G : BcG) {gi : GI} {N : Nat} (I : Inv N (gi 336)) {H : List AA} (hl4 : H.length ≤ 4) (hP : gi 335 4 = 0 → PastR H gi) {E : Nat → Int32} (hE : ∀ j, j < 1 → gi 340 j = E j) : Ct G mX9_calls [.ref (G.1 + 335), .int 120] (hp gi) (pM gi H (exF (gi 336) 120 E)) := by
  rw [ex_120]
  refine ct_of [some (.ref (G.1 + 335)), some (.int 120)] w_10 (by decide) rfl (Nat.le_of_ble_eq_true rfl) rfl ?_
  refine go_iload_n 1 dX9_calls_0 rfl rfl (ls_s ls_0) ?_
  refine go_lookup 103 dX9_calls_1 (by decide +kernel) (off := 102) (by decide +kernel) (by decide) ?_
  refine go_aload_n 104 dX9_calls_103 rfl rfl ls_0 ?_
  refine go_aload_n 105 dX9_calls_104 rfl rfl ls_0 ?_
  refine gp_getR 108 dX9_calls_105 rfl f_X9_22 rfl o335 rfl ?_
  refine go_iconst 109 (v := 0) dX9_calls_108 rfl (by decide) ?_
  refine gp_ialdN 110 (i := 0) dX9_calls_109 rfl a340 rfl (by decide) (by decide) ?_
  refine go_top (y := (E 0)) (hE 0 (by decide)) ?_
  refine go_V (M' := mX9_discard) 113 dX9_calls_110 rfl w_999 okX9_discard ⟨Nat.le_of_ble_eq_true rfl, Nat.le_of_ble_eq_true rfl⟩ rfl rfl (Nat.le_of_ble_eq_true rfl) (Nat.le_of_ble_eq_true rfl) (mo_discard G I hl4 hP (E 0)) rfl rfl (Nat.le_of_ble_eq_true rfl) o335 (by decide) rfl (fun v_110 h_110 p_110 => ?_)
  obtain ⟨rfl, g2, rfl, q1, q2, q3, q4⟩ := p_110
  exact go_ret_i dX9_calls_113 rfl rfl rfl ⟨rfl, g2, rfl, q1, q2, q3, q4⟩
set_option maxHeartbeats 4000000 in
set_option maxRecDepth 100000 in
theorem m_calls111 (G : BcG) {gi : GI} {N : Nat} (I : Inv N (gi 336)) {H : List AA} (hl4 : H.length ≤ 4) (hP : gi 335 4 = 0 → PastR H gi) {E : Nat → Int32} (hE : ∀ j, j < 2 → gi 340 j = E j) : Ct G mX9_calls [.ref (G.1 + 335), .int 111] (hp gi) (pM gi H (exF (gi 336) 111 E)) := by
  rw [ex_111]
  refine ct_of [some (.ref (G.1 + 335)), some (.int 111)] w_10 (by decide) rfl (Nat.le_of_ble_eq_true rfl) rfl ?_
  refine go_iload_n 1 dX9_calls_0 rfl rfl (ls_s ls_0) ?_
  refine go_lookup 114 dX9_calls_1 (by decide +kernel) (off := 113) (by decide +kernel) (by decide) ?_
  refine go_aload_n 115 dX9_calls_114 rfl rfl ls_0 ?_
  refine go_aload_n 116 dX9_calls_115 rfl rfl ls_0 ?_
  refine gp_getR 119 dX9_calls_116 rfl f_X9_22 rfl o335 rfl ?_
  refine go_iconst 120 (v := 0) dX9_calls_119 rfl (by decide) ?_
  refine gp_ialdN 121 (i := 0) dX9_calls_120 rfl a340 rfl (by decide) (by decide) ?_
  refine go_top (y := (E 0)) (hE 0 (by decide)) ?_
  refine go_aload_n 122 dX9_calls_121 rfl rfl ls_0 ?_
  refine gp_getR 125 dX9_calls_122 rfl f_X9_22 rfl o335 rfl ?_
  refine go_iconst 126 (v := 1) dX9_calls_125 rfl (by decide) ?_
  refine gp_ialdN 127 (i := 1) dX9_calls_126 rfl a340 rfl (by decide) (by decide) ?_
  refine go_top (y := (E 1)) (hE 1 (by decide)) ?_
  refine go_V (M' := mX9_blend) 130 dX9_calls_127 rfl w_1000 okX9_blend ⟨Nat.le_of_ble_eq_true rfl, Nat.le_of_ble_eq_true rfl⟩ rfl rfl (Nat.le_of_ble_eq_true rfl) (Nat.le_of_ble_eq_true rfl) (mo_blend G I hl4 hP (E 0) (E 1)) rfl rfl (Nat.le_of_ble_eq_true rfl) o335 (by decide) rfl (fun v_127 h_127 p_127 => ?_)
  obtain ⟨rfl, g2, rfl, q1, q2, q3, q4⟩ := p_127
  exact go_ret_i dX9_calls_130 rfl rfl rfl ⟨rfl, g2, rfl, q1, q2, q3, q4⟩
set_option maxHeartbeats 4000000 in
set_option maxRecDepth 100000 in
theorem m_calls116 (G : BcG) {gi : GI} {N : Nat} (I : Inv N (gi 336)) {H : List AA} (hl4 : H.length ≤ 4) (hP : gi 335 4 = 0 → PastR H gi) {E : Nat → Int32} (hE : ∀ j, j < 1 → gi 340 j = E j) : Ct G mX9_calls [.ref (G.1 + 335), .int 116] (hp gi) (pM gi H (exF (gi 336) 116 E)) := by
  rw [ex_116]
  refine ct_of [some (.ref (G.1 + 335)), some (.int 116)] w_10 (by decide) rfl (Nat.le_of_ble_eq_true rfl) rfl ?_
  refine go_iload_n 1 dX9_calls_0 rfl rfl (ls_s ls_0) ?_
  refine go_lookup 131 dX9_calls_1 (by decide +kernel) (off := 130) (by decide +kernel) (by decide) ?_
  refine go_aload_n 132 dX9_calls_131 rfl rfl ls_0 ?_
  refine go_aload_n 133 dX9_calls_132 rfl rfl ls_0 ?_
  refine gp_getR 136 dX9_calls_133 rfl f_X9_22 rfl o335 rfl ?_
  refine go_iconst 137 (v := 0) dX9_calls_136 rfl (by decide) ?_
  refine gp_ialdN 138 (i := 0) dX9_calls_137 rfl a340 rfl (by decide) (by decide) ?_
  refine go_top (y := (E 0)) (hE 0 (by decide)) ?_
  refine go_V (M' := mX9_pass) 141 dX9_calls_138 rfl w_1001 okX9_pass ⟨Nat.le_of_ble_eq_true rfl, Nat.le_of_ble_eq_true rfl⟩ rfl rfl (Nat.le_of_ble_eq_true rfl) (Nat.le_of_ble_eq_true rfl) (mo_pass G I hl4 hP (E 0)) rfl rfl (Nat.le_of_ble_eq_true rfl) o335 (by decide) rfl (fun v_138 h_138 p_138 => ?_)
  obtain ⟨rfl, g2, rfl, q1, q2, q3, q4⟩ := p_138
  exact go_ret_i dX9_calls_141 rfl rfl rfl ⟨rfl, g2, rfl, q1, q2, q3, q4⟩
theorem m_calls (G : BcG) {gi : GI} {N : Nat} (I : Inv N (gi 336)) {H : List AA} (hl4 : H.length ≤ 4) (hP : gi 335 4 = 0 → PastR H gi) {l : Int32} {E : Nat → Int32} (hm : 0 < mny l) (hE : ∀ j, j < mny l → gi 340 j = E j) : Ct G mX9_calls [.ref (G.1 + 335), .int l] (hp gi) (pM gi H (exF (gi 336) l E)) := by
  rcases mny_c hm with rfl | rfl | rfl | rfl | rfl | rfl
  · exact m_calls98 G I hl4 hP (fun j hj => hE j hj)
  · exact m_calls109 G I hl4 hP (fun j hj => hE j hj)
  · exact m_calls101 G I hl4 hP (fun j hj => hE j hj)
  · exact m_calls120 G I hl4 hP (fun j hj => hE j hj)
  · exact m_calls111 G I hl4 hP (fun j hj => hE j hj)
  · exact m_calls116 G I hl4 hP (fun j hj => hE j hj)
