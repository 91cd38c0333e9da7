/-! THE REFERENCE: what it asks of its row -/
theorem bI_ne {c : Prop} : ¬ bI c = 0 ↔ c := by
  constructor
  · intro h
    exact Classical.byContradiction (fun z => h (bI_0 z).symm)
  · intro h z
    rw [← bI_1 h] at z
    exact absurd z (by decide)
theorem bat_i {A : AA} {i : Nat} (hi : i < 6) : isBat A (nI i) ↔ live A i := by
  constructor
  · rintro ⟨b, h1, h2, h3⟩
    have := nI_in_r (by omega) (by omega) h2
    subst this
    exact h3
  · exact fun h => ⟨i, hi, rfl, h⟩
def mdC (A : AA) (x : Int32) (b : Nat) : Prop := live A b ∧ A (145 + 9 * b + 1) = x
theorem bI_st {C : Nat → Prop} {i : Nat} (h : C i ∨ ∃ b, b < i ∧ C b) : 1 = bI (∃ b, b < i + 1 ∧ C b) := by
  rcases h with h | ⟨b, h1, h2⟩
  · exact bI_1 ⟨i, by omega, h⟩
  · exact bI_1 ⟨b, by omega, h2⟩
theorem bI_sf {C : Nat → Prop} {i : Nat} (h : ¬ C i) (h2 : ¬ ∃ b, b < i ∧ C b) : 0 = bI (∃ b, b < i + 1 ∧ C b) := bI_0 (by
  rintro ⟨b, h3, h4⟩
  by_cases e : b = i
  · subst e; exact h h4
  · exact h2 ⟨b, by omega, h4⟩)
set_option maxHeartbeats 4000000 in
set_option maxRecDepth 100000 in
theorem lm_isMade (G : BcG) (gi : GI) (x : Int32) : ∀ (n i : Nat) (f : Int32), i + n = 6 → (f = bI (∃ b, b < i ∧ mdC (gi 336) x b)) → BGo G mX9_isMade (KM G mX9_isMade 341 (pI (bI (∃ b, b < 6 ∧ mdC (gi 336) x b)) (hp gi))) (hp gi) 0 0 4 [some (.ref (G.1 + 335)), some (.int x), some (.int f), some (.int (nI i))] [] := by
  intro n
  induction n with
  | zero =>
    intro i f hn hf
    obtain rfl : i = 6 := by omega
    refine go_iload_n 5 dX9_isMade_4 rfl rfl (ls_s (ls_s (ls_s ls_0))) ?_
    refine go_bipush 7 (v := 6) dX9_isMade_5 rfl (by decide) ?_
    refine go_icmp_ge 44 10 dX9_isMade_7 (by decide) rfl (fun c_7 => ?_) (fun c_7 => absurd c_7 (by decide))
    refine go_iload_n 45 dX9_isMade_44 rfl rfl (ls_s (ls_s ls_0)) ?_
    exact go_ret_z dX9_isMade_45 rfl (by rw [hf]; exact bI_z _) rfl rfl (by rw [hf]; exact ⟨rfl, rfl⟩)
  | succ n ih =>
    intro i f hn hf
    have hi6 : i < 6 := by omega
    refine go_iload_n 5 dX9_isMade_4 rfl rfl (ls_s (ls_s (ls_s ls_0))) ?_
    refine go_bipush 7 (v := 6) dX9_isMade_5 rfl (by decide) ?_
    refine go_icmp_ge 44 10 dX9_isMade_7 (by decide) rfl (fun c_7 => absurd c_7 (nI_ge hi6 (by decide))) (fun c_7 => ?_)
    refine go_iload_n 11 dX9_isMade_10 rfl rfl (ls_s (ls_s ls_0)) ?_
    refine go_if_ne 32 14 dX9_isMade_11 (by decide) rfl (fun c_11 => ?_) (fun c_11 => ?_)
    · refine go_iconst 33 (v := 1) dX9_isMade_32 rfl (by decide) ?_
      refine go_goto 37 dX9_isMade_33 (by decide) ?_
      refine go_istore_n 38 dX9_isMade_37 rfl rfl (by decide) (st_s (st_s st_0)) ?_
      refine go_iinc 41 (v := (nI (i + 1))) dX9_isMade_38 rfl (ls_s (ls_s (ls_s ls_0))) (by exact nI_1 i) (by decide) (st_s (st_s (st_s st_0))) ?_
      refine go_goto 4 dX9_isMade_41 (by decide) ?_
      exact ih (i + 1) _ (by omega) (bI_st (Or.inr (bI_ne.mp (by rw [← hf]; exact c_11))))
    · refine go_aload_n 15 dX9_isMade_14 rfl rfl ls_0 ?_
      refine go_iload_n 16 dX9_isMade_15 rfl rfl (ls_s (ls_s (ls_s ls_0))) ?_
      refine go_VI (M' := mX9_isBatch) 19 dX9_isMade_16 rfl w_787 okX9_isBatch ⟨Nat.le_of_ble_eq_true rfl, Nat.le_of_ble_eq_true rfl⟩ (m_isBatch G gi _) rfl rfl o335 (by decide) rfl (kk := ?_)
      refine go_ifeq_b 36 22 dX9_isMade_19 (by decide) rfl (fun c_19 => ?_) (fun c_19 => ?_)
      · refine go_iconst 37 (v := 0) dX9_isMade_36 rfl (by decide) ?_
        refine go_istore_n 38 dX9_isMade_37 rfl rfl (by decide) (st_s (st_s st_0)) ?_
        refine go_iinc 41 (v := (nI (i + 1))) dX9_isMade_38 rfl (ls_s (ls_s (ls_s ls_0))) (by exact nI_1 i) (by decide) (st_s (st_s (st_s st_0))) ?_
        refine go_goto 4 dX9_isMade_41 (by decide) ?_
        have hfn : ¬ ∃ b, b < i ∧ mdC (gi 336) x b := fun z => bI_ne.mpr z (by rw [← hf]; exact c_11)
        exact ih (i + 1) _ (by omega) (bI_sf (fun z => c_19 ((bat_i hi6).mpr z.1)) hfn)
      · refine go_aload_n 23 dX9_isMade_22 rfl rfl ls_0 ?_
        refine go_iload_n 24 dX9_isMade_23 rfl rfl (ls_s (ls_s (ls_s ls_0))) ?_
        refine go_iconst 25 (v := 1) dX9_isMade_24 rfl (by decide) ?_
        refine go_VI (M' := mX9_of) 28 dX9_isMade_25 rfl w_791 okX9_of ⟨Nat.le_of_ble_eq_true rfl, Nat.le_of_ble_eq_true rfl⟩ (m_of G gi (j := 145 + 9 * i + 1) rfl (by omega)) rfl rfl o335 (by decide) rfl (kk := ?_)
        refine go_iload_n 29 dX9_isMade_28 rfl rfl (ls_s ls_0) ?_
        refine go_icmp_ne 36 32 dX9_isMade_29 (by decide) rfl (fun c_29 => ?_) (fun c_29 => ?_)
        · refine go_iconst 37 (v := 0) dX9_isMade_36 rfl (by decide) ?_
          refine go_istore_n 38 dX9_isMade_37 rfl rfl (by decide) (st_s (st_s st_0)) ?_
          refine go_iinc 41 (v := (nI (i + 1))) dX9_isMade_38 rfl (ls_s (ls_s (ls_s ls_0))) (by exact nI_1 i) (by decide) (st_s (st_s (st_s st_0))) ?_
          refine go_goto 4 dX9_isMade_41 (by decide) ?_
          have hfn : ¬ ∃ b, b < i ∧ mdC (gi 336) x b := fun z => bI_ne.mpr z (by rw [← hf]; exact c_11)
          exact ih (i + 1) _ (by omega) (bI_sf (fun z => c_29 z.2) hfn)
        · refine go_iconst 33 (v := 1) dX9_isMade_32 rfl (by decide) ?_
          refine go_goto 37 dX9_isMade_33 (by decide) ?_
          refine go_istore_n 38 dX9_isMade_37 rfl rfl (by decide) (st_s (st_s st_0)) ?_
          refine go_iinc 41 (v := (nI (i + 1))) dX9_isMade_38 rfl (ls_s (ls_s (ls_s ls_0))) (by exact nI_1 i) (by decide) (st_s (st_s (st_s st_0))) ?_
          refine go_goto 4 dX9_isMade_41 (by decide) ?_
          exact ih (i + 1) _ (by omega) (bI_st (Or.inl ⟨(bat_i hi6).mp c_19, c_29⟩))
set_option maxHeartbeats 4000000 in
set_option maxRecDepth 100000 in
theorem m_isMade (G : BcG) (gi : GI) (x : Int32) : Ct G mX9_isMade [.ref (G.1 + 335), .int x] (hp gi) (pI (bI (isMade (gi 336) x)) (hp gi)) := by
  refine ct_of [some (.ref (G.1 + 335)), some (.int x), none, none] w_10 (by decide) rfl (Nat.le_of_ble_eq_true rfl) rfl ?_
  refine go_iconst 1 (v := 0) dX9_isMade_0 rfl (by decide) ?_
  refine go_istore_n 2 dX9_isMade_1 rfl rfl (by decide) (st_s (st_s st_0)) ?_
  refine go_iconst 3 (v := 0) dX9_isMade_2 rfl (by decide) ?_
  refine go_istore_n 4 dX9_isMade_3 rfl rfl (by decide) (st_s (st_s (st_s st_0))) ?_
  exact lm_isMade G gi x 6 0 0 rfl (bI_0 (by rintro ⟨b, h, -⟩; omega))
theorem dec_n (n : Nat) : nI n + Int32.ofInt (-1) = nI n - 1 := by rw [Int32.sub_eq_add_neg, show Int32.ofInt (-1) = (-1 : Int32) from by decide]
theorem lnF_s {A : AA} {both : Int32} {i n : Nat} : lnF A both i (n + 1) = cIf (lnOk A i both) (nI i) (lnF A both (i + 1) n) := rfl
set_option maxHeartbeats 4000000 in
set_option maxRecDepth 100000 in
theorem lm_lineTo (G : BcG) {gi : GI} {N : Nat} (I : Inv N (gi 336)) (b v : Nat) (x3 x4 both : Int32) : ∀ (n i : Nat) (f k : Int32), i + n = nL (gi 336) → (f = lnF (gi 336) both n i) → (k = nI n - 1) → BGo G mX9_lineTo (KM G mX9_lineTo 341 (pI (lnF (gi 336) both 0 (nL (gi 336))) (hp gi))) (hp gi) 0 0 88 [some (.ref (G.1 + 335)), some (.int (nI b)), some (.int (nI v)), some (.int x3), some (.int x4), some (.int both), some (.int f), some (.int k)] [] := by
  intro n
  induction n with
  | zero =>
    intro i f k hn hf hk
    obtain rfl : k = -1 := hk.trans (by decide)
    refine go_iload 90 dX9_lineTo_88 rfl (ls_s (ls_s (ls_s (ls_s (ls_s (ls_s (ls_s ls_0))))))) ?_
    refine go_if_lt 139 93 dX9_lineTo_90 (by decide) rfl (fun c_90 => ?_) (fun c_90 => absurd c_90 (by decide))
    refine go_iload 141 dX9_lineTo_139 rfl (ls_s (ls_s (ls_s (ls_s (ls_s (ls_s ls_0)))))) ?_
    exact go_ret_i dX9_lineTo_141 rfl rfl rfl (pI_of (by rw [hf, show i = nL (gi 336) by omega]) rfl)
  | succ n ih =>
    intro i f k hn hf hk
    obtain rfl : k = nI n := by rw [hk, nI_pred]
    have hn3 := I.nL3
    refine go_iload 90 dX9_lineTo_88 rfl (ls_s (ls_s (ls_s (ls_s (ls_s (ls_s (ls_s ls_0))))))) ?_
    refine go_if_lt 139 93 dX9_lineTo_90 (by decide) rfl (fun c_90 => absurd c_90 (nI_pos (by omega))) (fun c_90 => ?_)
    refine go_aload_n 94 dX9_lineTo_93 rfl rfl ls_0 ?_
    refine go_iload 96 dX9_lineTo_94 rfl (ls_s (ls_s (ls_s (ls_s (ls_s (ls_s (ls_s ls_0))))))) ?_
    refine go_iconst 97 (v := 0) dX9_lineTo_96 rfl (by decide) ?_
    refine go_VI (M' := mX9_ofLine) 100 dX9_lineTo_97 rfl w_878 okX9_ofLine ⟨Nat.le_of_ble_eq_true rfl, Nat.le_of_ble_eq_true rfl⟩ (m_ofLine G gi (j := 133 + 4 * n) rfl (by omega)) rfl rfl o335 (by decide) rfl (kk := ?_)
    refine go_iload 102 dX9_lineTo_100 rfl (ls_s (ls_s (ls_s (ls_s (ls_s ls_0))))) ?_
    refine go_iand 103 dX9_lineTo_102 rfl ?_
    refine go_iload 105 dX9_lineTo_103 rfl (ls_s (ls_s (ls_s (ls_s (ls_s ls_0))))) ?_
    refine go_icmp_ne 129 108 dX9_lineTo_105 (by decide) rfl (fun c_105 => ?_) (fun c_105 => ?_)
    · refine go_iload 131 dX9_lineTo_129 rfl (ls_s (ls_s (ls_s (ls_s (ls_s (ls_s ls_0)))))) ?_
      refine go_istore 133 dX9_lineTo_131 rfl (by decide) (st_s (st_s (st_s (st_s (st_s (st_s st_0)))))) ?_
      refine go_iinc 136 (v := (nI n - 1)) dX9_lineTo_133 rfl (ls_s (ls_s (ls_s (ls_s (ls_s (ls_s (ls_s ls_0))))))) (by exact dec_n n) (by decide) (st_s (st_s (st_s (st_s (st_s (st_s (st_s st_0))))))) ?_
      refine go_goto 88 dX9_lineTo_136 (by decide) ?_
      exact ih (i + 1) _ _ (by omega) (by rw [lnF_s, cIf_f (fun z => c_105 z.1)]; exact hf) rfl
    · refine go_aload_n 109 dX9_lineTo_108 rfl rfl ls_0 ?_
      refine go_iload 111 dX9_lineTo_109 rfl (ls_s (ls_s (ls_s (ls_s (ls_s (ls_s (ls_s ls_0))))))) ?_
      refine go_iconst 112 (v := 2) dX9_lineTo_111 rfl (by decide) ?_
      refine go_VI (M' := mX9_ofLine) 115 dX9_lineTo_112 rfl w_878 okX9_ofLine ⟨Nat.le_of_ble_eq_true rfl, Nat.le_of_ble_eq_true rfl⟩ (m_ofLine G gi (j := 133 + 4 * n + 2) rfl (by omega)) rfl rfl o335 (by decide) rfl (kk := ?_)
      refine go_aload_n 116 dX9_lineTo_115 rfl rfl ls_0 ?_
      refine gp_getR 119 dX9_lineTo_116 rfl f_X9_7 rfl o335 rfl ?_
      refine go_iconst 120 (v := 5) dX9_lineTo_119 rfl (by decide) ?_
      refine gp_ialdN 121 (i := 5) dX9_lineTo_120 rfl a336 rfl (by decide) (by decide) ?_
      refine go_icmp_gt 129 124 dX9_lineTo_121 (by decide) rfl (fun c_121 => ?_) (fun c_121 => ?_)
      · refine go_iload 131 dX9_lineTo_129 rfl (ls_s (ls_s (ls_s (ls_s (ls_s (ls_s ls_0)))))) ?_
        refine go_istore 133 dX9_lineTo_131 rfl (by decide) (st_s (st_s (st_s (st_s (st_s (st_s st_0)))))) ?_
        refine go_iinc 136 (v := (nI n - 1)) dX9_lineTo_133 rfl (ls_s (ls_s (ls_s (ls_s (ls_s (ls_s (ls_s ls_0))))))) (by exact dec_n n) (by decide) (st_s (st_s (st_s (st_s (st_s (st_s (st_s st_0))))))) ?_
        refine go_goto 88 dX9_lineTo_136 (by decide) ?_
        exact ih (i + 1) _ _ (by omega) (by rw [lnF_s, cIf_f (fun z => absurd c_121 (Int32.not_lt.mpr z.2))]; exact hf) rfl
      · refine go_iload 126 dX9_lineTo_124 rfl (ls_s (ls_s (ls_s (ls_s (ls_s (ls_s (ls_s ls_0))))))) ?_
        refine go_goto 131 dX9_lineTo_126 (by decide) ?_
        refine go_istore 133 dX9_lineTo_131 rfl (by decide) (st_s (st_s (st_s (st_s (st_s (st_s st_0)))))) ?_
        refine go_iinc 136 (v := (nI n - 1)) dX9_lineTo_133 rfl (ls_s (ls_s (ls_s (ls_s (ls_s (ls_s (ls_s ls_0))))))) (by exact dec_n n) (by decide) (st_s (st_s (st_s (st_s (st_s (st_s (st_s st_0))))))) ?_
        refine go_goto 88 dX9_lineTo_136 (by decide) ?_
        exact ih (i + 1) _ _ (by omega) (by rw [lnF_s, cIf_t ⟨c_105, Int32.not_lt.mp c_121⟩]) rfl
set_option maxHeartbeats 4000000 in
set_option maxRecDepth 100000 in
theorem m_lineTo (G : BcG) {gi : GI} {N : Nat} (I : Inv N (gi 336)) {b : Nat} (hb : b < 6) (hl : live (gi 336) b) {v : Nat} (hv6 : v < 6) : Ct G mX9_lineTo [.ref (G.1 + 335), .int (nI b), .int (nI v)] (hp gi) (pI (ltF (gi 336) b v) (hp gi)) := by
  have i := I.b1 hb hl
  have hr4 := I.bR4 hb hl
  have hs4 := I.bS4 hb hl
  refine ct_of [some (.ref (G.1 + 335)), some (.int (nI b)), some (.int (nI v)), none, none, none, none, none] w_10 (by decide) rfl (Nat.le_of_ble_eq_true rfl) rfl ?_
  refine go_aload_n 1 dX9_lineTo_0 rfl rfl ls_0 ?_
  refine go_iload_n 2 dX9_lineTo_1 rfl rfl (ls_s ls_0) ?_
  refine go_iconst 3 (v := 3) dX9_lineTo_2 rfl (by decide) ?_
  refine go_VI (M' := mX9_of) 6 dX9_lineTo_3 rfl w_791 okX9_of ⟨Nat.le_of_ble_eq_true rfl, Nat.le_of_ble_eq_true rfl⟩ (m_of G gi (j := 145 + 9 * b + 3) rfl (by omega)) rfl rfl o335 (by decide) rfl (kk := ?_)
  refine go_top (y := (nI (bS (gi 336) b))) i.2.1.1 ?_
  refine go_iconst 7 (v := 1) dX9_lineTo_6 rfl (by decide) ?_
  refine go_iadd 8 dX9_lineTo_7 rfl ?_
  refine go_top (y := (nI (bS (gi 336) b + 1))) (nI_1 _) ?_
  refine go_istore_n 9 dX9_lineTo_8 rfl rfl (by decide) (st_s (st_s (st_s st_0))) ?_
  refine go_aload_n 10 dX9_lineTo_9 rfl rfl ls_0 ?_
  refine go_iload_n 11 dX9_lineTo_10 rfl rfl (ls_s ls_0) ?_
  refine go_iconst 12 (v := 1) dX9_lineTo_11 rfl (by decide) ?_
  refine go_VI (M' := mX9_of) 15 dX9_lineTo_12 rfl w_791 okX9_of ⟨Nat.le_of_ble_eq_true rfl, Nat.le_of_ble_eq_true rfl⟩ (m_of G gi (j := 145 + 9 * b + 1) rfl (by omega)) rfl rfl o335 (by decide) rfl (kk := ?_)
  refine go_top (y := (nI (bR (gi 336) b))) i.1.1 ?_
  refine go_istore 17 dX9_lineTo_15 rfl (by decide) (st_s (st_s (st_s (st_s st_0)))) ?_
  refine go_aload_n 18 dX9_lineTo_17 rfl rfl ls_0 ?_
  refine go_iload_n 19 dX9_lineTo_18 rfl rfl (ls_s ls_0) ?_
  refine go_VI (M' := mX9_isRipe) 22 dX9_lineTo_19 rfl w_866 okX9_isRipe ⟨Nat.le_of_ble_eq_true rfl, Nat.le_of_ble_eq_true rfl⟩ (m_isRipe G I hb hl) rfl rfl o335 (by decide) rfl (kk := ?_)
  refine go_ifeq_b 57 25 dX9_lineTo_22 (by decide) rfl (fun c_22 => ?_) (fun c_22 => ?_)
  · refine go_bipush 59 (v := (-4)) dX9_lineTo_57 rfl (by decide) ?_
    exact go_ret_i dX9_lineTo_59 rfl rfl rfl (pI_of (by rw [ltF, cIf_f (fun z => c_22 z.1)]) rfl)
  · refine go_iload_n 26 dX9_lineTo_25 rfl rfl (ls_s (ls_s (ls_s ls_0))) ?_
    refine go_aload_n 27 dX9_lineTo_26 rfl rfl ls_0 ?_
    refine go_iload 29 dX9_lineTo_27 rfl (ls_s (ls_s (ls_s (ls_s ls_0)))) ?_
    refine go_VI (M' := mX9_stages) 32 dX9_lineTo_29 rfl w_795 okX9_stages ⟨Nat.le_of_ble_eq_true rfl, Nat.le_of_ble_eq_true rfl⟩ (m_stages G gi (r := (bR (gi 336) b)) (by omega)) rfl rfl o335 (by decide) rfl (kk := ?_)
    refine go_top (y := (nI (nS (gi 336) (bR (gi 336) b)))) (I.eS hr4) ?_
    refine go_icmp_ge 57 35 dX9_lineTo_32 (by decide) rfl (fun c_32 => ?_) (fun c_32 => ?_)
    · refine go_bipush 59 (v := (-4)) dX9_lineTo_57 rfl (by decide) ?_
      exact go_ret_i dX9_lineTo_59 rfl rfl rfl (pI_of (by rw [ltF, cIf_f (fun z => nI_ge z.2.1 (by have := I.nS4 hr4; omega) c_32)]) rfl)
    · have hk1 : bS (gi 336) b + 1 < nS (gi 336) (bR (gi 336) b) := Nat.lt_of_not_le (fun z => c_32 (nI_le z (by omega)))
      have hk4 : bS (gi 336) b + 1 < 4 := Nat.lt_of_lt_of_le hk1 (I.nS4 hr4)
      refine go_aload_n 36 dX9_lineTo_35 rfl rfl ls_0 ?_
      refine go_iload_n 37 dX9_lineTo_36 rfl rfl (ls_s (ls_s ls_0)) ?_
      refine go_aload_n 38 dX9_lineTo_37 rfl rfl ls_0 ?_
      refine go_iload 40 dX9_lineTo_38 rfl (ls_s (ls_s (ls_s (ls_s ls_0)))) ?_
      refine go_iload_n 41 dX9_lineTo_40 rfl rfl (ls_s (ls_s (ls_s ls_0))) ?_
      refine go_iconst 42 (v := 0) dX9_lineTo_41 rfl (by decide) ?_
      refine go_VI (M' := mX9_ofStage) 45 dX9_lineTo_42 rfl w_826 okX9_ofStage ⟨Nat.le_of_ble_eq_true rfl, Nat.le_of_ble_eq_true rfl⟩ (m_ofStage G gi (j := 31 + 18 * ((bR (gi 336) b)) + 2 + 4 * ((bS (gi 336) b + 1))) rfl (by omega)) rfl rfl o335 (by decide) rfl (kk := ?_)
      refine go_aload_n 46 dX9_lineTo_45 rfl rfl ls_0 ?_
      refine go_iload_n 47 dX9_lineTo_46 rfl rfl (ls_s ls_0) ?_
      refine go_iconst 48 (v := 2) dX9_lineTo_47 rfl (by decide) ?_
      refine go_VI (M' := mX9_of) 51 dX9_lineTo_48 rfl w_791 okX9_of ⟨Nat.le_of_ble_eq_true rfl, Nat.le_of_ble_eq_true rfl⟩ (m_of G gi (j := 145 + 9 * b + 2) rfl (by omega)) rfl rfl o335 (by decide) rfl (kk := ?_)
      refine go_VI (M' := mX9_takes) 54 dX9_lineTo_51 rfl w_838 okX9_takes ⟨Nat.le_of_ble_eq_true rfl, Nat.le_of_ble_eq_true rfl⟩ (m_takes G gi hv6 _ _) rfl rfl o335 (by decide) rfl (kk := ?_)
      refine go_ifne_b 60 57 dX9_lineTo_54 (by decide) rfl (fun c_54 => ?_) (fun c_54 => ?_)
      · refine go_iconst 61 (v := 1) dX9_lineTo_60 rfl (by decide) ?_
        refine go_iload_n 62 dX9_lineTo_61 rfl rfl (ls_s (ls_s ls_0)) ?_
        refine go_ishl 63 dX9_lineTo_62 rfl ?_
        refine go_iconst 64 (v := 1) dX9_lineTo_63 rfl (by decide) ?_
        refine go_aload_n 65 dX9_lineTo_64 rfl rfl ls_0 ?_
        refine go_iload_n 66 dX9_lineTo_65 rfl rfl (ls_s ls_0) ?_
        refine go_iconst 67 (v := 4) dX9_lineTo_66 rfl (by decide) ?_
        refine go_VI (M' := mX9_of) 70 dX9_lineTo_67 rfl w_791 okX9_of ⟨Nat.le_of_ble_eq_true rfl, Nat.le_of_ble_eq_true rfl⟩ (m_of G gi (j := 145 + 9 * b + 4) rfl (by omega)) rfl rfl o335 (by decide) rfl (kk := ?_)
        refine go_ishl 71 dX9_lineTo_70 rfl ?_
        refine go_ior 72 dX9_lineTo_71 rfl ?_
        refine go_top (y := (jnM (nI v) (gi 336 (145 + 9 * b + 4)))) rfl ?_
        refine go_istore 74 dX9_lineTo_72 rfl (by decide) (st_s (st_s (st_s (st_s (st_s st_0))))) ?_
        refine go_bipush 76 (v := (-4)) dX9_lineTo_74 rfl (by decide) ?_
        refine go_istore 78 dX9_lineTo_76 rfl (by decide) (st_s (st_s (st_s (st_s (st_s (st_s st_0)))))) ?_
        refine go_aload_n 79 dX9_lineTo_78 rfl rfl ls_0 ?_
        refine gp_getR 82 dX9_lineTo_79 rfl f_X9_7 rfl o335 rfl ?_
        refine go_iconst 83 (v := 4) dX9_lineTo_82 rfl (by decide) ?_
        refine gp_ialdN 84 (i := 4) dX9_lineTo_83 rfl a336 rfl (by decide) (by decide) ?_
        refine go_top (y := (nI (nL (gi 336)))) I.eL ?_
        refine go_iconst 85 (v := 1) dX9_lineTo_84 rfl (by decide) ?_
        refine go_isub 86 dX9_lineTo_85 rfl ?_
        refine go_istore 88 dX9_lineTo_86 rfl (by decide) (st_s (st_s (st_s (st_s (st_s (st_s (st_s st_0))))))) ?_
        rw [ltF, cIf_t ⟨c_22, hk1, c_54⟩]
        exact lm_lineTo G I b v _ _ _ (nL (gi 336)) 0 _ _ (by omega) rfl rfl
      · refine go_bipush 59 (v := (-4)) dX9_lineTo_57 rfl (by decide) ?_
        exact go_ret_i dX9_lineTo_59 rfl rfl rfl (pI_of (by rw [ltF, cIf_f (fun z => c_54 z.2.2)]) rfl)
theorem pr_n {N : Nat} {A : AA} (I : Inv N A) {b : Nat} (hb : b < 6) (hl : live A b) : prF A b = nI (iN (prF A b)) ∧ iN (prF A b) < 4 := by
  have h := (I.2.2.1 _ (I.bR4 hb hl)).1
  exact ⟨h.1, by have := h.2; rw [prF]; omega⟩
theorem spd_0 {N : Nat} {A : AA} (I : Inv N A) {k : Nat} (hk : k < nL A) : ¬ A (133 + 4 * k + 1) = 0 := fun z => by
  have h := ((I.2.2.2.2.1 k (Nat.lt_of_lt_of_le hk I.nL3)).1 hk).2
  rw [z] at h
  exact absurd h (by decide)
set_option maxHeartbeats 4000000 in
set_option maxRecDepth 100000 in
theorem m_minutesTo (G : BcG) {gi : GI} {N : Nat} (I : Inv N (gi 336)) {b : Nat} (hb : b < 6) (hl : live (gi 336) b) {v : Nat} (hv6 : v < 6) {k : Nat} (hk : k < nL (gi 336)) : Ct G mX9_minutesTo [.ref (G.1 + 335), .int (nI b), .int (nI v), .int (nI k)] (hp gi) (pI (mtF (gi 336) b v k) (hp gi)) := by
  have i := I.b1 hb hl
  have hr4 := I.bR4 hb hl
  have hs4 := I.bS4 hb hl
  have hpr := pr_n I hb hl
  have hk3 := I.nL3
  refine ct_of [some (.ref (G.1 + 335)), some (.int (nI b)), some (.int (nI v)), some (.int (nI k)), none] w_10 (by decide) rfl (Nat.le_of_ble_eq_true rfl) rfl ?_
  refine go_aload_n 1 dX9_minutesTo_0 rfl rfl ls_0 ?_
  refine go_iload_n 2 dX9_minutesTo_1 rfl rfl (ls_s (ls_s (ls_s ls_0))) ?_
  refine go_iconst 3 (v := 1) dX9_minutesTo_2 rfl (by decide) ?_
  refine go_VI (M' := mX9_ofLine) 6 dX9_minutesTo_3 rfl w_878 okX9_ofLine ⟨Nat.le_of_ble_eq_true rfl, Nat.le_of_ble_eq_true rfl⟩ (m_ofLine G gi (j := 133 + 4 * k + 1) rfl (by omega)) rfl rfl o335 (by decide) rfl (kk := ?_)
  refine go_istore 8 dX9_minutesTo_6 rfl (by decide) (st_s (st_s (st_s (st_s st_0)))) ?_
  refine go_aload_n 9 dX9_minutesTo_8 rfl rfl ls_0 ?_
  refine go_iload_n 10 dX9_minutesTo_9 rfl rfl (ls_s (ls_s ls_0)) ?_
  refine go_aload_n 11 dX9_minutesTo_10 rfl rfl ls_0 ?_
  refine go_aload_n 12 dX9_minutesTo_11 rfl rfl ls_0 ?_
  refine go_iload_n 13 dX9_minutesTo_12 rfl rfl (ls_s ls_0) ?_
  refine go_iconst 14 (v := 1) dX9_minutesTo_13 rfl (by decide) ?_
  refine go_VI (M' := mX9_of) 17 dX9_minutesTo_14 rfl w_791 okX9_of ⟨Nat.le_of_ble_eq_true rfl, Nat.le_of_ble_eq_true rfl⟩ (m_of G gi (j := 145 + 9 * b + 1) rfl (by omega)) rfl rfl o335 (by decide) rfl (kk := ?_)
  refine go_top (y := (nI (bR (gi 336) b))) i.1.1 ?_
  refine go_VI (M' := mX9_product) 20 dX9_minutesTo_17 rfl w_822 okX9_product ⟨Nat.le_of_ble_eq_true rfl, Nat.le_of_ble_eq_true rfl⟩ (m_product G gi (r := (bR (gi 336) b)) (by omega)) rfl rfl o335 (by decide) rfl (kk := ?_)
  refine go_top (y := (nI (iN (prF (gi 336) b)))) hpr.1 ?_
  refine go_VI (M' := mX9_cleans) 23 dX9_minutesTo_20 rfl w_854 okX9_cleans ⟨Nat.le_of_ble_eq_true rfl, Nat.le_of_ble_eq_true rfl⟩ (m_cleans G I (v := v) (p := iN (prF (gi 336) b)) hv6 hpr.2) rfl rfl o335 (by decide) rfl (kk := ?_)
  refine go_top (y := (clF (gi 336) v (prF (gi 336) b))) (by rw [← hpr.1]) ?_
  refine go_aload_n 24 dX9_minutesTo_23 rfl rfl ls_0 ?_
  refine go_iload_n 25 dX9_minutesTo_24 rfl rfl (ls_s ls_0) ?_
  refine go_iconst 26 (v := 2) dX9_minutesTo_25 rfl (by decide) ?_
  refine go_VI (M' := mX9_of) 29 dX9_minutesTo_26 rfl w_791 okX9_of ⟨Nat.le_of_ble_eq_true rfl, Nat.le_of_ble_eq_true rfl⟩ (m_of G gi (j := 145 + 9 * b + 2) rfl (by omega)) rfl rfl o335 (by decide) rfl (kk := ?_)
  refine go_iload 31 dX9_minutesTo_29 rfl (ls_s (ls_s (ls_s (ls_s ls_0)))) ?_
  refine go_iadd 32 dX9_minutesTo_31 rfl ?_
  refine go_iconst 33 (v := 1) dX9_minutesTo_32 rfl (by decide) ?_
  refine go_isub 34 dX9_minutesTo_33 rfl ?_
  refine go_iload 36 dX9_minutesTo_34 rfl (ls_s (ls_s (ls_s (ls_s ls_0)))) ?_
  refine go_idiv 37 dX9_minutesTo_36 rfl (spd_0 I hk) ?_
  refine go_iadd 38 dX9_minutesTo_37 rfl ?_
  exact go_ret_i dX9_minutesTo_38 rfl rfl rfl (pI_of rfl rfl)
set_option maxHeartbeats 4000000 in
set_option maxRecDepth 100000 in
theorem lm_batches (G : BcG) (gi : GI) : ∀ (n i : Nat) (s : Int32), i + n = 6 → BGo G mX9_ofBatches (KM G mX9_ofBatches 341 (pI (smF (gi 336) (fun _ => 1) i n s) (hp gi))) (hp gi) 0 0 4 [some (.ref (G.1 + 335)), some (.int (nI 0)), some (.int s), some (.int (nI i))] [] := by
  intro n
  induction n with
  | zero =>
    intro i s hn 
    obtain rfl : i = 6 := by omega
    refine go_iload_n 5 dX9_ofBatches_4 rfl rfl (ls_s (ls_s (ls_s ls_0))) ?_
    refine go_bipush 7 (v := 6) dX9_ofBatches_5 rfl (by decide) ?_
    refine go_icmp_ge 45 10 dX9_ofBatches_7 (by decide) rfl (fun c_7 => ?_) (fun c_7 => absurd c_7 (by decide))
    refine go_iload_n 46 dX9_ofBatches_45 rfl rfl (ls_s (ls_s ls_0)) ?_
    exact go_ret_i dX9_ofBatches_46 rfl rfl rfl (pI_of rfl rfl)
  | succ n ih =>
    intro i s hn 
    have hi6 : i < 6 := by omega
    refine go_iload_n 5 dX9_ofBatches_4 rfl rfl (ls_s (ls_s (ls_s ls_0))) ?_
    refine go_bipush 7 (v := 6) dX9_ofBatches_5 rfl (by decide) ?_
    refine go_icmp_ge 45 10 dX9_ofBatches_7 (by decide) rfl (fun c_7 => absurd c_7 (nI_ge hi6 (by decide))) (fun c_7 => ?_)
    refine go_iload_n 11 dX9_ofBatches_10 rfl rfl (ls_s (ls_s ls_0)) ?_
    refine go_aload_n 12 dX9_ofBatches_11 rfl rfl ls_0 ?_
    refine go_iload_n 13 dX9_ofBatches_12 rfl rfl (ls_s (ls_s (ls_s ls_0))) ?_
    refine go_VI (M' := mX9_isBatch) 16 dX9_ofBatches_13 rfl w_787 okX9_isBatch ⟨Nat.le_of_ble_eq_true rfl, Nat.le_of_ble_eq_true rfl⟩ (m_isBatch G gi _) rfl rfl o335 (by decide) rfl (kk := ?_)
    refine go_ifne_b 23 19 dX9_ofBatches_16 (by decide) rfl (fun c_16 => ?_) (fun c_16 => ?_)
    · refine go_iload_n 24 dX9_ofBatches_23 rfl rfl (ls_s ls_0) ?_
      refine go_if_ne 31 27 dX9_ofBatches_24 (by decide) rfl (fun c_24 => absurd c_24 (by decide)) (fun c_24 => ?_)
      refine go_iconst 28 (v := 1) dX9_ofBatches_27 rfl (by decide) ?_
      refine go_goto 37 dX9_ofBatches_28 (by decide) ?_
      refine go_iadd 38 dX9_ofBatches_37 rfl ?_
      refine go_top (y := (s + cIf (live (gi 336) i) ((fun _ => 1) i) 0)) (by rw [cIf_t ((bat_i hi6).mp c_16)]) ?_
      refine go_istore_n 39 dX9_ofBatches_38 rfl rfl (by decide) (st_s (st_s st_0)) ?_
      refine go_iinc 42 (v := (nI (i + 1))) dX9_ofBatches_39 rfl (ls_s (ls_s (ls_s ls_0))) (by exact nI_1 i) (by decide) (st_s (st_s (st_s st_0))) ?_
      refine go_goto 4 dX9_ofBatches_42 (by decide) ?_
      exact ih (i + 1) _ (by omega)
    · refine go_iconst 20 (v := 0) dX9_ofBatches_19 rfl (by decide) ?_
      refine go_goto 37 dX9_ofBatches_20 (by decide) ?_
      refine go_iadd 38 dX9_ofBatches_37 rfl ?_
      refine go_top (y := (s + cIf (live (gi 336) i) ((fun _ => 1) i) 0)) (by rw [cIf_f (fun z => c_16 ((bat_i hi6).mpr z))]) ?_
      refine go_istore_n 39 dX9_ofBatches_38 rfl rfl (by decide) (st_s (st_s st_0)) ?_
      refine go_iinc 42 (v := (nI (i + 1))) dX9_ofBatches_39 rfl (ls_s (ls_s (ls_s ls_0))) (by exact nI_1 i) (by decide) (st_s (st_s (st_s st_0))) ?_
      refine go_goto 4 dX9_ofBatches_42 (by decide) ?_
      exact ih (i + 1) _ (by omega)
set_option maxHeartbeats 4000000 in
set_option maxRecDepth 100000 in
theorem m_batches (G : BcG) (gi : GI) : Ct G mX9_ofBatches [.ref (G.1 + 335), .int (nI 0)] (hp gi) (pI (smF (gi 336) (fun _ => 1) 0 6 0) (hp gi)) := by
  refine ct_of [some (.ref (G.1 + 335)), some (.int (nI 0)), none, none] w_10 (by decide) rfl (Nat.le_of_ble_eq_true rfl) rfl ?_
  refine go_iconst 1 (v := 0) dX9_ofBatches_0 rfl (by decide) ?_
  refine go_istore_n 2 dX9_ofBatches_1 rfl rfl (by decide) (st_s (st_s st_0)) ?_
  refine go_iconst 3 (v := 0) dX9_ofBatches_2 rfl (by decide) ?_
  refine go_istore_n 4 dX9_ofBatches_3 rfl rfl (by decide) (st_s (st_s (st_s st_0))) ?_
  exact lm_batches G gi 6 0 0 rfl
set_option maxHeartbeats 4000000 in
set_option maxRecDepth 100000 in
theorem lm_masses (G : BcG) (gi : GI) : ∀ (n i : Nat) (s : Int32), i + n = 6 → BGo G mX9_ofBatches (KM G mX9_ofBatches 341 (pI (smF (gi 336) (fun b => gi 336 (145 + 9 * b + 2)) i n s) (hp gi))) (hp gi) 0 0 4 [some (.ref (G.1 + 335)), some (.int (nI 1)), some (.int s), some (.int (nI i))] [] := by
  intro n
  induction n with
  | zero =>
    intro i s hn 
    obtain rfl : i = 6 := by omega
    refine go_iload_n 5 dX9_ofBatches_4 rfl rfl (ls_s (ls_s (ls_s ls_0))) ?_
    refine go_bipush 7 (v := 6) dX9_ofBatches_5 rfl (by decide) ?_
    refine go_icmp_ge 45 10 dX9_ofBatches_7 (by decide) rfl (fun c_7 => ?_) (fun c_7 => absurd c_7 (by decide))
    refine go_iload_n 46 dX9_ofBatches_45 rfl rfl (ls_s (ls_s ls_0)) ?_
    exact go_ret_i dX9_ofBatches_46 rfl rfl rfl (pI_of rfl rfl)
  | succ n ih =>
    intro i s hn 
    have hi6 : i < 6 := by omega
    refine go_iload_n 5 dX9_ofBatches_4 rfl rfl (ls_s (ls_s (ls_s ls_0))) ?_
    refine go_bipush 7 (v := 6) dX9_ofBatches_5 rfl (by decide) ?_
    refine go_icmp_ge 45 10 dX9_ofBatches_7 (by decide) rfl (fun c_7 => absurd c_7 (nI_ge hi6 (by decide))) (fun c_7 => ?_)
    refine go_iload_n 11 dX9_ofBatches_10 rfl rfl (ls_s (ls_s ls_0)) ?_
    refine go_aload_n 12 dX9_ofBatches_11 rfl rfl ls_0 ?_
    refine go_iload_n 13 dX9_ofBatches_12 rfl rfl (ls_s (ls_s (ls_s ls_0))) ?_
    refine go_VI (M' := mX9_isBatch) 16 dX9_ofBatches_13 rfl w_787 okX9_isBatch ⟨Nat.le_of_ble_eq_true rfl, Nat.le_of_ble_eq_true rfl⟩ (m_isBatch G gi _) rfl rfl o335 (by decide) rfl (kk := ?_)
    refine go_ifne_b 23 19 dX9_ofBatches_16 (by decide) rfl (fun c_16 => ?_) (fun c_16 => ?_)
    · refine go_iload_n 24 dX9_ofBatches_23 rfl rfl (ls_s ls_0) ?_
      refine go_if_ne 31 27 dX9_ofBatches_24 (by decide) rfl (fun c_24 => ?_) (fun c_24 => absurd c_24 (by decide))
      refine go_aload_n 32 dX9_ofBatches_31 rfl rfl ls_0 ?_
      refine go_iload_n 33 dX9_ofBatches_32 rfl rfl (ls_s (ls_s (ls_s ls_0))) ?_
      refine go_iconst 34 (v := 2) dX9_ofBatches_33 rfl (by decide) ?_
      refine go_VI (M' := mX9_of) 37 dX9_ofBatches_34 rfl w_791 okX9_of ⟨Nat.le_of_ble_eq_true rfl, Nat.le_of_ble_eq_true rfl⟩ (m_of G gi (j := 145 + 9 * i + 2) rfl (by omega)) rfl rfl o335 (by decide) rfl (kk := ?_)
      refine go_iadd 38 dX9_ofBatches_37 rfl ?_
      refine go_top (y := (s + cIf (live (gi 336) i) ((fun b => gi 336 (145 + 9 * b + 2)) i) 0)) (by rw [cIf_t ((bat_i hi6).mp c_16)]) ?_
      refine go_istore_n 39 dX9_ofBatches_38 rfl rfl (by decide) (st_s (st_s st_0)) ?_
      refine go_iinc 42 (v := (nI (i + 1))) dX9_ofBatches_39 rfl (ls_s (ls_s (ls_s ls_0))) (by exact nI_1 i) (by decide) (st_s (st_s (st_s st_0))) ?_
      refine go_goto 4 dX9_ofBatches_42 (by decide) ?_
      exact ih (i + 1) _ (by omega)
    · refine go_iconst 20 (v := 0) dX9_ofBatches_19 rfl (by decide) ?_
      refine go_goto 37 dX9_ofBatches_20 (by decide) ?_
      refine go_iadd 38 dX9_ofBatches_37 rfl ?_
      refine go_top (y := (s + cIf (live (gi 336) i) ((fun b => gi 336 (145 + 9 * b + 2)) i) 0)) (by rw [cIf_f (fun z => c_16 ((bat_i hi6).mpr z))]) ?_
      refine go_istore_n 39 dX9_ofBatches_38 rfl rfl (by decide) (st_s (st_s st_0)) ?_
      refine go_iinc 42 (v := (nI (i + 1))) dX9_ofBatches_39 rfl (ls_s (ls_s (ls_s ls_0))) (by exact nI_1 i) (by decide) (st_s (st_s (st_s st_0))) ?_
      refine go_goto 4 dX9_ofBatches_42 (by decide) ?_
      exact ih (i + 1) _ (by omega)
set_option maxHeartbeats 4000000 in
set_option maxRecDepth 100000 in
theorem m_masses (G : BcG) (gi : GI) : Ct G mX9_ofBatches [.ref (G.1 + 335), .int (nI 1)] (hp gi) (pI (smF (gi 336) (fun b => gi 336 (145 + 9 * b + 2)) 0 6 0) (hp gi)) := by
  refine ct_of [some (.ref (G.1 + 335)), some (.int (nI 1)), none, none] w_10 (by decide) rfl (Nat.le_of_ble_eq_true rfl) rfl ?_
  refine go_iconst 1 (v := 0) dX9_ofBatches_0 rfl (by decide) ?_
  refine go_istore_n 2 dX9_ofBatches_1 rfl rfl (by decide) (st_s (st_s st_0)) ?_
  refine go_iconst 3 (v := 0) dX9_ofBatches_2 rfl (by decide) ?_
  refine go_istore_n 4 dX9_ofBatches_3 rfl rfl (by decide) (st_s (st_s (st_s st_0))) ?_
  exact lm_masses G gi 6 0 0 rfl
def rmC (A : AA) (kd m : Int32) (v : Nat) : Prop := A (103 + 5 * v) = kd ∧ m ≤ A (103 + 5 * v + 1)
set_option maxHeartbeats 4000000 in
set_option maxRecDepth 100000 in
theorem lm_isRoom (G : BcG) {gi : GI} {N : Nat} (I : Inv N (gi 336)) (kd m : Int32) : ∀ (n i : Nat) (f : Int32), i + n = nV (gi 336) → (f = bI (∃ v, v < i ∧ rmC (gi 336) kd m v)) → BGo G mX9_isRoom (KM G mX9_isRoom 341 (pI (bI (∃ v, v < nV (gi 336) ∧ rmC (gi 336) kd m v)) (hp gi))) (hp gi) 0 0 5 [some (.ref (G.1 + 335)), some (.int kd), some (.int m), some (.int f), some (.int (nI i))] [] := by
  intro n
  induction n with
  | zero =>
    intro i f hn hf
    refine go_iload 7 dX9_isRoom_5 rfl (ls_s (ls_s (ls_s (ls_s ls_0)))) ?_
    refine go_aload_n 8 dX9_isRoom_7 rfl rfl ls_0 ?_
    refine gp_getR 11 dX9_isRoom_8 rfl f_X9_7 rfl o335 rfl ?_
    refine go_iconst 12 (v := 3) dX9_isRoom_11 rfl (by decide) ?_
    refine gp_ialdN 13 (i := 3) dX9_isRoom_12 rfl a336 rfl (by decide) (by decide) ?_
    refine go_top (y := (nI (nV (gi 336)))) I.eV ?_
    refine go_icmp_ge 54 16 dX9_isRoom_13 (by decide) rfl (fun c_13 => ?_) (fun c_13 => absurd (show nI (nV (gi 336)) ≤ nI i by rw [show i = nV (gi 336) by omega]; exact Int32.le_refl _) c_13)
    refine go_iload_n 55 dX9_isRoom_54 rfl rfl (ls_s (ls_s (ls_s ls_0))) ?_
    exact go_ret_z dX9_isRoom_55 rfl (by rw [hf]; exact bI_z _) rfl rfl (by rw [hf, show i = nV (gi 336) by omega]; exact ⟨rfl, rfl⟩)
  | succ n ih =>
    intro i f hn hf
    have hv6 := I.nV6
    have hiv : i < nV (gi 336) := by omega
    refine go_iload 7 dX9_isRoom_5 rfl (ls_s (ls_s (ls_s (ls_s ls_0)))) ?_
    refine go_aload_n 8 dX9_isRoom_7 rfl rfl ls_0 ?_
    refine gp_getR 11 dX9_isRoom_8 rfl f_X9_7 rfl o335 rfl ?_
    refine go_iconst 12 (v := 3) dX9_isRoom_11 rfl (by decide) ?_
    refine gp_ialdN 13 (i := 3) dX9_isRoom_12 rfl a336 rfl (by decide) (by decide) ?_
    refine go_top (y := (nI (nV (gi 336)))) I.eV ?_
    refine go_icmp_ge 54 16 dX9_isRoom_13 (by decide) rfl (fun c_13 => absurd c_13 (nI_ge hiv (by omega))) (fun c_13 => ?_)
    refine go_iload_n 17 dX9_isRoom_16 rfl rfl (ls_s (ls_s (ls_s ls_0))) ?_
    refine go_if_ne 42 20 dX9_isRoom_17 (by decide) rfl (fun c_17 => ?_) (fun c_17 => ?_)
    · refine go_iconst 43 (v := 1) dX9_isRoom_42 rfl (by decide) ?_
      refine go_goto 47 dX9_isRoom_43 (by decide) ?_
      refine go_istore_n 48 dX9_isRoom_47 rfl rfl (by decide) (st_s (st_s (st_s st_0))) ?_
      refine go_iinc 51 (v := (nI (i + 1))) dX9_isRoom_48 rfl (ls_s (ls_s (ls_s (ls_s ls_0)))) (by exact nI_1 i) (by decide) (st_s (st_s (st_s (st_s st_0)))) ?_
      refine go_goto 5 dX9_isRoom_51 (by decide) ?_
      exact ih (i + 1) _ (by omega) (bI_st (Or.inr (bI_ne.mp (by rw [← hf]; exact c_17))))
    · refine go_aload_n 21 dX9_isRoom_20 rfl rfl ls_0 ?_
      refine go_iload 23 dX9_isRoom_21 rfl (ls_s (ls_s (ls_s (ls_s ls_0)))) ?_
      refine go_iconst 24 (v := 0) dX9_isRoom_23 rfl (by decide) ?_
      refine go_VI (M' := mX9_ofVessel) 27 dX9_isRoom_24 rfl w_842 okX9_ofVessel ⟨Nat.le_of_ble_eq_true rfl, Nat.le_of_ble_eq_true rfl⟩ (m_ofVessel G gi (j := 103 + 5 * i) rfl (by omega)) rfl rfl o335 (by decide) rfl (kk := ?_)
      refine go_iload_n 28 dX9_isRoom_27 rfl rfl (ls_s ls_0) ?_
      refine go_icmp_ne 46 31 dX9_isRoom_28 (by decide) rfl (fun c_28 => ?_) (fun c_28 => ?_)
      · refine go_iconst 47 (v := 0) dX9_isRoom_46 rfl (by decide) ?_
        refine go_istore_n 48 dX9_isRoom_47 rfl rfl (by decide) (st_s (st_s (st_s st_0))) ?_
        refine go_iinc 51 (v := (nI (i + 1))) dX9_isRoom_48 rfl (ls_s (ls_s (ls_s (ls_s ls_0)))) (by exact nI_1 i) (by decide) (st_s (st_s (st_s (st_s st_0)))) ?_
        refine go_goto 5 dX9_isRoom_51 (by decide) ?_
        have hfn : ¬ ∃ v, v < i ∧ rmC (gi 336) kd m v := fun z => bI_ne.mpr z (by rw [← hf]; exact c_17)
        exact ih (i + 1) _ (by omega) (bI_sf (fun z => c_28 z.1) hfn)
      · refine go_aload_n 32 dX9_isRoom_31 rfl rfl ls_0 ?_
        refine go_iload 34 dX9_isRoom_32 rfl (ls_s (ls_s (ls_s (ls_s ls_0)))) ?_
        refine go_iconst 35 (v := 1) dX9_isRoom_34 rfl (by decide) ?_
        refine go_VI (M' := mX9_ofVessel) 38 dX9_isRoom_35 rfl w_842 okX9_ofVessel ⟨Nat.le_of_ble_eq_true rfl, Nat.le_of_ble_eq_true rfl⟩ (m_ofVessel G gi (j := 103 + 5 * i + 1) rfl (by omega)) rfl rfl o335 (by decide) rfl (kk := ?_)
        refine go_iload_n 39 dX9_isRoom_38 rfl rfl (ls_s (ls_s ls_0)) ?_
        refine go_icmp_lt 46 42 dX9_isRoom_39 (by decide) rfl (fun c_39 => ?_) (fun c_39 => ?_)
        · refine go_iconst 47 (v := 0) dX9_isRoom_46 rfl (by decide) ?_
          refine go_istore_n 48 dX9_isRoom_47 rfl rfl (by decide) (st_s (st_s (st_s st_0))) ?_
          refine go_iinc 51 (v := (nI (i + 1))) dX9_isRoom_48 rfl (ls_s (ls_s (ls_s (ls_s ls_0)))) (by exact nI_1 i) (by decide) (st_s (st_s (st_s (st_s st_0)))) ?_
          refine go_goto 5 dX9_isRoom_51 (by decide) ?_
          have hfn : ¬ ∃ v, v < i ∧ rmC (gi 336) kd m v := fun z => bI_ne.mpr z (by rw [← hf]; exact c_17)
          exact ih (i + 1) _ (by omega) (bI_sf (fun z => absurd z.2 (Int32.not_le.mpr c_39)) hfn)
        · refine go_iconst 43 (v := 1) dX9_isRoom_42 rfl (by decide) ?_
          refine go_goto 47 dX9_isRoom_43 (by decide) ?_
          refine go_istore_n 48 dX9_isRoom_47 rfl rfl (by decide) (st_s (st_s (st_s st_0))) ?_
          refine go_iinc 51 (v := (nI (i + 1))) dX9_isRoom_48 rfl (ls_s (ls_s (ls_s (ls_s ls_0)))) (by exact nI_1 i) (by decide) (st_s (st_s (st_s (st_s st_0)))) ?_
          refine go_goto 5 dX9_isRoom_51 (by decide) ?_
          exact ih (i + 1) _ (by omega) (bI_st (Or.inl ⟨c_28, Int32.not_lt.mp c_39⟩))
set_option maxHeartbeats 4000000 in
set_option maxRecDepth 100000 in
theorem m_isRoom (G : BcG) {gi : GI} {N : Nat} (I : Inv N (gi 336)) (kd m : Int32) : Ct G mX9_isRoom [.ref (G.1 + 335), .int kd, .int m] (hp gi) (pI (bI (isRoom (gi 336) kd m)) (hp gi)) := by
  refine ct_of [some (.ref (G.1 + 335)), some (.int kd), some (.int m), none, none] w_10 (by decide) rfl (Nat.le_of_ble_eq_true rfl) rfl ?_
  refine go_iconst 1 (v := 0) dX9_isRoom_0 rfl (by decide) ?_
  refine go_istore_n 2 dX9_isRoom_1 rfl rfl (by decide) (st_s (st_s (st_s st_0))) ?_
  refine go_iconst 3 (v := 0) dX9_isRoom_2 rfl (by decide) ?_
  refine go_istore 5 dX9_isRoom_3 rfl (by decide) (st_s (st_s (st_s (st_s st_0)))) ?_
  exact lm_isRoom G I kd m (nV (gi 336)) 0 0 (by omega) (bI_0 (by rintro ⟨b, h, -⟩; omega))
set_option maxHeartbeats 4000000 in
set_option maxRecDepth 100000 in
theorem m_canBlend (G : BcG) {gi : GI} {N : Nat} (I : Inv N (gi 336)) {b : Nat} (hb : b < 6) (hl : live (gi 336) b) (x : Int32) : Ct G mX9_canBlend [.ref (G.1 + 335), .int (nI b), .int x] (hp gi) (pI (bI (blOk (gi 336) b x)) (hp gi)) := by
  have i := I.b1 hb hl
  have hr4 := I.bR4 hb hl
  have hs4 := I.bS4 hb hl
  have hpr := pr_n I hb hl
  have hv6 := I.bV6 hb hl
  refine ct_of [some (.ref (G.1 + 335)), some (.int (nI b)), some (.int x), none] w_10 (by decide) rfl (Nat.le_of_ble_eq_true rfl) rfl ?_
  refine go_aload_n 1 dX9_canBlend_0 rfl rfl ls_0 ?_
  refine go_iload_n 2 dX9_canBlend_1 rfl rfl (ls_s ls_0) ?_
  refine go_iconst 3 (v := 3) dX9_canBlend_2 rfl (by decide) ?_
  refine go_VI (M' := mX9_of) 6 dX9_canBlend_3 rfl w_791 okX9_of ⟨Nat.le_of_ble_eq_true rfl, Nat.le_of_ble_eq_true rfl⟩ (m_of G gi (j := 145 + 9 * b + 3) rfl (by omega)) rfl rfl o335 (by decide) rfl (kk := ?_)
  refine go_if_ne 45 9 dX9_canBlend_6 (by decide) rfl (fun c_6 => ?_) (fun c_6 => ?_)
  · refine go_iconst 46 (v := 0) dX9_canBlend_45 rfl (by decide) ?_
    refine go_istore_n 47 dX9_canBlend_46 rfl rfl (by decide) (st_s (st_s (st_s st_0))) ?_
    refine go_iload_n 48 dX9_canBlend_47 rfl rfl (ls_s (ls_s (ls_s ls_0))) ?_
    refine go_if_eq 106 51 dX9_canBlend_48 (by decide) rfl (fun c_48 => ?_) (fun c_48 => absurd c_48 (by decide))
    refine go_iconst 107 (v := 0) dX9_canBlend_106 rfl (by decide) ?_
    exact go_ret_z dX9_canBlend_107 rfl rfl rfl rfl (pI_of (bI_0 (fun z => c_6 z.1)) rfl)
  · refine go_aload_n 10 dX9_canBlend_9 rfl rfl ls_0 ?_
    refine go_iload_n 11 dX9_canBlend_10 rfl rfl (ls_s ls_0) ?_
    refine go_bipush 13 (v := 6) dX9_canBlend_11 rfl (by decide) ?_
    refine go_VI (M' := mX9_of) 16 dX9_canBlend_13 rfl w_791 okX9_of ⟨Nat.le_of_ble_eq_true rfl, Nat.le_of_ble_eq_true rfl⟩ (m_of G gi (j := 145 + 9 * b + 6) rfl (by omega)) rfl rfl o335 (by decide) rfl (kk := ?_)
    refine go_if_ne 45 19 dX9_canBlend_16 (by decide) rfl (fun c_16 => ?_) (fun c_16 => ?_)
    · refine go_iconst 46 (v := 0) dX9_canBlend_45 rfl (by decide) ?_
      refine go_istore_n 47 dX9_canBlend_46 rfl rfl (by decide) (st_s (st_s (st_s st_0))) ?_
      refine go_iload_n 48 dX9_canBlend_47 rfl rfl (ls_s (ls_s (ls_s ls_0))) ?_
      refine go_if_eq 106 51 dX9_canBlend_48 (by decide) rfl (fun c_48 => ?_) (fun c_48 => absurd c_48 (by decide))
      refine go_iconst 107 (v := 0) dX9_canBlend_106 rfl (by decide) ?_
      exact go_ret_z dX9_canBlend_107 rfl rfl rfl rfl (pI_of (bI_0 (fun z => c_16 z.2.1)) rfl)
    · refine go_aload_n 20 dX9_canBlend_19 rfl rfl ls_0 ?_
      refine go_aload_n 21 dX9_canBlend_20 rfl rfl ls_0 ?_
      refine go_iload_n 22 dX9_canBlend_21 rfl rfl (ls_s ls_0) ?_
      refine go_iconst 23 (v := 4) dX9_canBlend_22 rfl (by decide) ?_
      refine go_VI (M' := mX9_of) 26 dX9_canBlend_23 rfl w_791 okX9_of ⟨Nat.le_of_ble_eq_true rfl, Nat.le_of_ble_eq_true rfl⟩ (m_of G gi (j := 145 + 9 * b + 4) rfl (by omega)) rfl rfl o335 (by decide) rfl (kk := ?_)
      refine go_top (y := (nI (bV (gi 336) b))) i.2.2.1.1 ?_
      refine go_iconst 27 (v := 1) dX9_canBlend_26 rfl (by decide) ?_
      refine go_VI (M' := mX9_ofVessel) 30 dX9_canBlend_27 rfl w_842 okX9_ofVessel ⟨Nat.le_of_ble_eq_true rfl, Nat.le_of_ble_eq_true rfl⟩ (m_ofVessel G gi (j := 103 + 5 * ((bV (gi 336) b)) + 1) rfl (by omega)) rfl rfl o335 (by decide) rfl (kk := ?_)
      refine go_aload_n 31 dX9_canBlend_30 rfl rfl ls_0 ?_
      refine go_iload_n 32 dX9_canBlend_31 rfl rfl (ls_s ls_0) ?_
      refine go_iconst 33 (v := 2) dX9_canBlend_32 rfl (by decide) ?_
      refine go_VI (M' := mX9_of) 36 dX9_canBlend_33 rfl w_791 okX9_of ⟨Nat.le_of_ble_eq_true rfl, Nat.le_of_ble_eq_true rfl⟩ (m_of G gi (j := 145 + 9 * b + 2) rfl (by omega)) rfl rfl o335 (by decide) rfl (kk := ?_)
      refine go_isub 37 dX9_canBlend_36 rfl ?_
      refine go_iload_n 38 dX9_canBlend_37 rfl rfl (ls_s (ls_s ls_0)) ?_
      refine go_icmp_lt 45 41 dX9_canBlend_38 (by decide) rfl (fun c_38 => ?_) (fun c_38 => ?_)
      · refine go_iconst 46 (v := 0) dX9_canBlend_45 rfl (by decide) ?_
        refine go_istore_n 47 dX9_canBlend_46 rfl rfl (by decide) (st_s (st_s (st_s st_0))) ?_
        refine go_iload_n 48 dX9_canBlend_47 rfl rfl (ls_s (ls_s (ls_s ls_0))) ?_
        refine go_if_eq 106 51 dX9_canBlend_48 (by decide) rfl (fun c_48 => ?_) (fun c_48 => absurd c_48 (by decide))
        refine go_iconst 107 (v := 0) dX9_canBlend_106 rfl (by decide) ?_
        exact go_ret_z dX9_canBlend_107 rfl rfl rfl rfl (pI_of (bI_0 (fun z => absurd z.2.2.1 (Int32.not_le.mpr c_38))) rfl)
      · refine go_iconst 42 (v := 1) dX9_canBlend_41 rfl (by decide) ?_
        refine go_goto 46 dX9_canBlend_42 (by decide) ?_
        refine go_istore_n 47 dX9_canBlend_46 rfl rfl (by decide) (st_s (st_s (st_s st_0))) ?_
        refine go_iload_n 48 dX9_canBlend_47 rfl rfl (ls_s (ls_s (ls_s ls_0))) ?_
        refine go_if_eq 106 51 dX9_canBlend_48 (by decide) rfl (fun c_48 => absurd c_48 (by decide)) (fun c_48 => ?_)
        refine go_aload_n 52 dX9_canBlend_51 rfl rfl ls_0 ?_
        refine go_iload_n 53 dX9_canBlend_52 rfl rfl (ls_s ls_0) ?_
        refine go_bipush 55 (v := 7) dX9_canBlend_53 rfl (by decide) ?_
        refine go_VI (M' := mX9_of) 58 dX9_canBlend_55 rfl w_791 okX9_of ⟨Nat.le_of_ble_eq_true rfl, Nat.le_of_ble_eq_true rfl⟩ (m_of G gi (j := 145 + 9 * b + 7) rfl (by omega)) rfl rfl o335 (by decide) rfl (kk := ?_)
        refine go_iload_n 59 dX9_canBlend_58 rfl rfl (ls_s (ls_s ls_0)) ?_
        refine go_iadd 60 dX9_canBlend_59 rfl ?_
        refine go_aload_n 61 dX9_canBlend_60 rfl rfl ls_0 ?_
        refine gp_getR 64 dX9_canBlend_61 rfl f_X9_7 rfl o335 rfl ?_
        refine go_iconst 65 (v := 1) dX9_canBlend_64 rfl (by decide) ?_
        refine gp_ialdN 66 (i := 1) dX9_canBlend_65 rfl a336 rfl (by decide) (by decide) ?_
        refine go_aload_n 67 dX9_canBlend_66 rfl rfl ls_0 ?_
        refine go_iload_n 68 dX9_canBlend_67 rfl rfl (ls_s ls_0) ?_
        refine go_bipush 70 (v := 8) dX9_canBlend_68 rfl (by decide) ?_
        refine go_VI (M' := mX9_of) 73 dX9_canBlend_70 rfl w_791 okX9_of ⟨Nat.le_of_ble_eq_true rfl, Nat.le_of_ble_eq_true rfl⟩ (m_of G gi (j := 145 + 9 * b + 8) rfl (by omega)) rfl rfl o335 (by decide) rfl (kk := ?_)
        refine go_imul 74 dX9_canBlend_73 rfl ?_
        refine go_bipush 76 (v := 100) dX9_canBlend_74 rfl (by decide) ?_
        refine go_idiv 77 dX9_canBlend_76 rfl (by decide) ?_
        refine go_icmp_gt 106 80 dX9_canBlend_77 (by decide) rfl (fun c_77 => ?_) (fun c_77 => ?_)
        · refine go_iconst 107 (v := 0) dX9_canBlend_106 rfl (by decide) ?_
          exact go_ret_z dX9_canBlend_107 rfl rfl rfl rfl (pI_of (bI_0 (fun z => absurd c_77 (Int32.not_lt.mpr z.2.2.2.1))) rfl)
        · refine go_aload_n 81 dX9_canBlend_80 rfl rfl ls_0 ?_
          refine gp_getR 84 dX9_canBlend_81 rfl f_X9_7 rfl o335 rfl ?_
          refine go_bipush 86 (v := 11) dX9_canBlend_84 rfl (by decide) ?_
          refine go_aload_n 87 dX9_canBlend_86 rfl rfl ls_0 ?_
          refine go_aload_n 88 dX9_canBlend_87 rfl rfl ls_0 ?_
          refine go_iload_n 89 dX9_canBlend_88 rfl rfl (ls_s ls_0) ?_
          refine go_iconst 90 (v := 1) dX9_canBlend_89 rfl (by decide) ?_
          refine go_VI (M' := mX9_of) 93 dX9_canBlend_90 rfl w_791 okX9_of ⟨Nat.le_of_ble_eq_true rfl, Nat.le_of_ble_eq_true rfl⟩ (m_of G gi (j := 145 + 9 * b + 1) rfl (by omega)) rfl rfl o335 (by decide) rfl (kk := ?_)
          refine go_top (y := (nI (bR (gi 336) b))) i.1.1 ?_
          refine go_VI (M' := mX9_product) 96 dX9_canBlend_93 rfl w_822 okX9_product ⟨Nat.le_of_ble_eq_true rfl, Nat.le_of_ble_eq_true rfl⟩ (m_product G gi (r := (bR (gi 336) b)) (by omega)) rfl rfl o335 (by decide) rfl (kk := ?_)
          refine go_top (y := (nI (iN (prF (gi 336) b)))) hpr.1 ?_
          refine go_iadd 97 dX9_canBlend_96 rfl ?_
          refine gp_ialdN 98 (i := (11 + iN (prF (gi 336) b))) dX9_canBlend_97 rfl a336 (by rw [← nI_add]; rfl) (by have := hpr.2; omega) (by decide) ?_
          refine go_iload_n 99 dX9_canBlend_98 rfl rfl (ls_s (ls_s ls_0)) ?_
          refine go_icmp_lt 106 102 dX9_canBlend_99 (by decide) rfl (fun c_99 => ?_) (fun c_99 => ?_)
          · refine go_iconst 107 (v := 0) dX9_canBlend_106 rfl (by decide) ?_
            exact go_ret_z dX9_canBlend_107 rfl rfl rfl rfl (pI_of (bI_0 (fun z => absurd z.2.2.2.2 (Int32.not_le.mpr c_99))) rfl)
          · refine go_iconst 103 (v := 1) dX9_canBlend_102 rfl (by decide) ?_
            refine go_goto 107 dX9_canBlend_103 (by decide) ?_
            exact go_ret_z dX9_canBlend_107 rfl rfl rfl rfl (pI_of (bI_1 ⟨c_6, c_16, Int32.not_lt.mp c_38, Int32.not_lt.mp c_77, Int32.not_lt.mp c_99⟩) rfl)
theorem bits_n : ∀ s, s < 64 → ((((((0 + ((nI s >>> ((0 : Int32) &&& 31)) &&& 1)) + ((nI s >>> ((1 : Int32) &&& 31)) &&& 1)) + ((nI s >>> ((2 : Int32) &&& 31)) &&& 1)) + ((nI s >>> ((3 : Int32) &&& 31)) &&& 1)) + ((nI s >>> ((4 : Int32) &&& 31)) &&& 1)) + ((nI s >>> ((5 : Int32) &&& 31)) &&& 1)) = nI (pcN s) := by decide +kernel
set_option maxHeartbeats 4000000 in
set_option maxRecDepth 100000 in
theorem m_bits (G : BcG) (gi : GI) {s : Nat} (hs : s < 64) : Ct G mX9_bits [.int (nI s)] (hp gi) (pI (nI (pcN s)) (hp gi)) := by
  refine ct_of [some (.int (nI s)), none, none] w_10 (by decide) rfl (Nat.le_of_ble_eq_true rfl) rfl ?_
  refine go_iconst 1 (v := 0) dX9_bits_0 rfl (by decide) ?_
  refine go_istore_n 2 dX9_bits_1 rfl rfl (by decide) (st_s st_0) ?_
  refine go_iconst 3 (v := 0) dX9_bits_2 rfl (by decide) ?_
  refine go_istore_n 4 dX9_bits_3 rfl rfl (by decide) (st_s (st_s st_0)) ?_
  refine go_iload_n 5 dX9_bits_4 rfl rfl (ls_s (ls_s ls_0)) ?_
  refine go_bipush 7 (v := 6) dX9_bits_5 rfl (by decide) ?_
  refine go_icmp_ge 24 10 dX9_bits_7 (by decide) rfl (fun c_7 => absurd c_7 (by decide)) (fun c_7 => ?_)
  refine go_iload_n 11 dX9_bits_10 rfl rfl (ls_s ls_0) ?_
  refine go_iload_n 12 dX9_bits_11 rfl rfl ls_0 ?_
  refine go_iload_n 13 dX9_bits_12 rfl rfl (ls_s (ls_s ls_0)) ?_
  refine go_ishr 14 dX9_bits_13 rfl ?_
  refine go_iconst 15 (v := 1) dX9_bits_14 rfl (by decide) ?_
  refine go_iand 16 dX9_bits_15 rfl ?_
  refine go_iadd 17 dX9_bits_16 rfl ?_
  refine go_istore_n 18 dX9_bits_17 rfl rfl (by decide) (st_s st_0) ?_
  refine go_iinc 21 (v := 1) dX9_bits_18 rfl (ls_s (ls_s ls_0)) (by decide) (by decide) (st_s (st_s st_0)) ?_
  refine go_goto 4 dX9_bits_21 (by decide) ?_
  refine go_iload_n 5 dX9_bits_4 rfl rfl (ls_s (ls_s ls_0)) ?_
  refine go_bipush 7 (v := 6) dX9_bits_5 rfl (by decide) ?_
  refine go_icmp_ge 24 10 dX9_bits_7 (by decide) rfl (fun c_7 => absurd c_7 (by decide)) (fun c_7 => ?_)
  refine go_iload_n 11 dX9_bits_10 rfl rfl (ls_s ls_0) ?_
  refine go_iload_n 12 dX9_bits_11 rfl rfl ls_0 ?_
  refine go_iload_n 13 dX9_bits_12 rfl rfl (ls_s (ls_s ls_0)) ?_
  refine go_ishr 14 dX9_bits_13 rfl ?_
  refine go_iconst 15 (v := 1) dX9_bits_14 rfl (by decide) ?_
  refine go_iand 16 dX9_bits_15 rfl ?_
  refine go_iadd 17 dX9_bits_16 rfl ?_
  refine go_istore_n 18 dX9_bits_17 rfl rfl (by decide) (st_s st_0) ?_
  refine go_iinc 21 (v := 2) dX9_bits_18 rfl (ls_s (ls_s ls_0)) (by decide) (by decide) (st_s (st_s st_0)) ?_
  refine go_goto 4 dX9_bits_21 (by decide) ?_
  refine go_iload_n 5 dX9_bits_4 rfl rfl (ls_s (ls_s ls_0)) ?_
  refine go_bipush 7 (v := 6) dX9_bits_5 rfl (by decide) ?_
  refine go_icmp_ge 24 10 dX9_bits_7 (by decide) rfl (fun c_7 => absurd c_7 (by decide)) (fun c_7 => ?_)
  refine go_iload_n 11 dX9_bits_10 rfl rfl (ls_s ls_0) ?_
  refine go_iload_n 12 dX9_bits_11 rfl rfl ls_0 ?_
  refine go_iload_n 13 dX9_bits_12 rfl rfl (ls_s (ls_s ls_0)) ?_
  refine go_ishr 14 dX9_bits_13 rfl ?_
  refine go_iconst 15 (v := 1) dX9_bits_14 rfl (by decide) ?_
  refine go_iand 16 dX9_bits_15 rfl ?_
  refine go_iadd 17 dX9_bits_16 rfl ?_
  refine go_istore_n 18 dX9_bits_17 rfl rfl (by decide) (st_s st_0) ?_
  refine go_iinc 21 (v := 3) dX9_bits_18 rfl (ls_s (ls_s ls_0)) (by decide) (by decide) (st_s (st_s st_0)) ?_
  refine go_goto 4 dX9_bits_21 (by decide) ?_
  refine go_iload_n 5 dX9_bits_4 rfl rfl (ls_s (ls_s ls_0)) ?_
  refine go_bipush 7 (v := 6) dX9_bits_5 rfl (by decide) ?_
  refine go_icmp_ge 24 10 dX9_bits_7 (by decide) rfl (fun c_7 => absurd c_7 (by decide)) (fun c_7 => ?_)
  refine go_iload_n 11 dX9_bits_10 rfl rfl (ls_s ls_0) ?_
  refine go_iload_n 12 dX9_bits_11 rfl rfl ls_0 ?_
  refine go_iload_n 13 dX9_bits_12 rfl rfl (ls_s (ls_s ls_0)) ?_
  refine go_ishr 14 dX9_bits_13 rfl ?_
  refine go_iconst 15 (v := 1) dX9_bits_14 rfl (by decide) ?_
  refine go_iand 16 dX9_bits_15 rfl ?_
  refine go_iadd 17 dX9_bits_16 rfl ?_
  refine go_istore_n 18 dX9_bits_17 rfl rfl (by decide) (st_s st_0) ?_
  refine go_iinc 21 (v := 4) dX9_bits_18 rfl (ls_s (ls_s ls_0)) (by decide) (by decide) (st_s (st_s st_0)) ?_
  refine go_goto 4 dX9_bits_21 (by decide) ?_
  refine go_iload_n 5 dX9_bits_4 rfl rfl (ls_s (ls_s ls_0)) ?_
  refine go_bipush 7 (v := 6) dX9_bits_5 rfl (by decide) ?_
  refine go_icmp_ge 24 10 dX9_bits_7 (by decide) rfl (fun c_7 => absurd c_7 (by decide)) (fun c_7 => ?_)
  refine go_iload_n 11 dX9_bits_10 rfl rfl (ls_s ls_0) ?_
  refine go_iload_n 12 dX9_bits_11 rfl rfl ls_0 ?_
  refine go_iload_n 13 dX9_bits_12 rfl rfl (ls_s (ls_s ls_0)) ?_
  refine go_ishr 14 dX9_bits_13 rfl ?_
  refine go_iconst 15 (v := 1) dX9_bits_14 rfl (by decide) ?_
  refine go_iand 16 dX9_bits_15 rfl ?_
  refine go_iadd 17 dX9_bits_16 rfl ?_
  refine go_istore_n 18 dX9_bits_17 rfl rfl (by decide) (st_s st_0) ?_
  refine go_iinc 21 (v := 5) dX9_bits_18 rfl (ls_s (ls_s ls_0)) (by decide) (by decide) (st_s (st_s st_0)) ?_
  refine go_goto 4 dX9_bits_21 (by decide) ?_
  refine go_iload_n 5 dX9_bits_4 rfl rfl (ls_s (ls_s ls_0)) ?_
  refine go_bipush 7 (v := 6) dX9_bits_5 rfl (by decide) ?_
  refine go_icmp_ge 24 10 dX9_bits_7 (by decide) rfl (fun c_7 => absurd c_7 (by decide)) (fun c_7 => ?_)
  refine go_iload_n 11 dX9_bits_10 rfl rfl (ls_s ls_0) ?_
  refine go_iload_n 12 dX9_bits_11 rfl rfl ls_0 ?_
  refine go_iload_n 13 dX9_bits_12 rfl rfl (ls_s (ls_s ls_0)) ?_
  refine go_ishr 14 dX9_bits_13 rfl ?_
  refine go_iconst 15 (v := 1) dX9_bits_14 rfl (by decide) ?_
  refine go_iand 16 dX9_bits_15 rfl ?_
  refine go_iadd 17 dX9_bits_16 rfl ?_
  refine go_istore_n 18 dX9_bits_17 rfl rfl (by decide) (st_s st_0) ?_
  refine go_iinc 21 (v := 6) dX9_bits_18 rfl (ls_s (ls_s ls_0)) (by decide) (by decide) (st_s (st_s st_0)) ?_
  refine go_goto 4 dX9_bits_21 (by decide) ?_
  refine go_iload_n 5 dX9_bits_4 rfl rfl (ls_s (ls_s ls_0)) ?_
  refine go_bipush 7 (v := 6) dX9_bits_5 rfl (by decide) ?_
  refine go_icmp_ge 24 10 dX9_bits_7 (by decide) rfl (fun c_7 => ?_) (fun c_7 => absurd c_7 (by decide))
  refine go_iload_n 25 dX9_bits_24 rfl rfl (ls_s ls_0) ?_
  exact go_ret_i dX9_bits_25 rfl rfl rfl (pI_of (bits_n s hs) rfl)
