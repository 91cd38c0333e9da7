/-! PLANTS: a line joins a set of vessels -/
/-- how many of the six low bits are set -/
def pcN (s : Nat) : Nat := s % 2 + s / 2 % 2 + s / 4 % 2 + s / 8 % 2 + s / 16 % 2 + s / 32 % 2
def usR (x y : Int32) : Int32 := (x.toUInt32 >>> (y.toUInt32 &&& Int32.toUInt32 31)).toInt32
def bq1 (x : Int32) : Int32 := x - (usR x 1 &&& 1431655765)
def bq2 (x : Int32) : Int32 := (bq1 x &&& 858993459) + (usR (bq1 x) 2 &&& 858993459)
def bq3 (x : Int32) : Int32 := (bq2 x + usR (bq2 x) 4) &&& 252645135
def bq4 (x : Int32) : Int32 := bq3 x + usR (bq3 x) 8
def bq5 (x : Int32) : Int32 := bq4 x + usR (bq4 x) 16
theorem bq_n : ∀ s, s < 64 → bq5 (nI s) &&& 63 = nI (pcN s) := by decide +kernel
theorem ms_n : ∀ n, n < 7 → ((((1 : Int32) <<< (nI n &&& 31)) - 1) ^^^ (-1)) = Int32.ofBitVec (~~~ (nI (2 ^ n - 1)).toBitVec) ∧ (nI (2 ^ n - 1)).toBitVec.toNat = 2 ^ n - 1 := by decide +kernel
theorem ms_s : ∀ n, n < 7 → ∀ s, s < 64 → s < 2 ^ n → nI s &&& ((((1 : Int32) <<< (nI n &&& 31)) - 1) ^^^ (-1)) = 0 := by decide +kernel
/-- no bit but those of the vessels -/
theorem strg {n : Nat} (hn : n ≤ 6) (x : Int32) : x &&& ((((1 : Int32) <<< (nI n &&& 31)) - 1) ^^^ (-1)) = 0 ↔ ∃ s, s < 2 ^ n ∧ x = nI s := by
  have hp : 2 ^ n ≤ 64 := Nat.pow_le_pow_right (n := 2) (by omega) hn
  have hp0 : 0 < 2 ^ n := Nat.pow_pos (by omega)
  constructor
  · intro h
    obtain ⟨e1, e2⟩ := ms_n n (by omega)
    rw [e1] at h
    have hb : x.toBitVec &&& ~~~ (nI (2 ^ n - 1)).toBitVec = 0#32 := by
      have := congrArg Int32.toBitVec h
      rw [Int32.toBitVec_and] at this
      exact this
    have hx : x.toBitVec = x.toBitVec &&& (nI (2 ^ n - 1)).toBitVec := by
      apply BitVec.eq_of_getLsbD_eq
      intro i hi
      have q := congrArg (fun b => b.getLsbD i) hb
      simp only [BitVec.getLsbD_and, BitVec.getLsbD_not, BitVec.getLsbD_zero, hi, decide_true, Bool.true_and] at q ⊢
      revert q
      cases x.toBitVec.getLsbD i <;> cases (nI (2 ^ n - 1)).toBitVec.getLsbD i <;> simp
    have hle : x.toBitVec.toNat ≤ 2 ^ n - 1 := by
      rw [hx, BitVec.toNat_and, e2]
      exact Nat.and_le_right
    refine ⟨x.toBitVec.toNat, by omega, ?_⟩
    apply Int32.toBitVec_inj.mp
    apply BitVec.eq_of_toNat_eq
    show x.toBitVec.toNat = (BitVec.ofNat 32 x.toBitVec.toNat).toNat
    rw [BitVec.toNat_ofNat, Nat.mod_eq_of_lt (by omega)]
  · rintro ⟨s, hs, rfl⟩
    exact ms_s n (by omega) s (by omega) hs
theorem setOk_n {A : AA} {s : Nat} (hs : s < 2 ^ nV A) (h : 2 ≤ pcN s) : setOk A (nI s) := ⟨s, hs, rfl, h⟩
theorem pcN_le (s : Nat) : pcN s ≤ 6 := by unfold pcN; omega
theorem setOk_no {A : AA} {s : Nat} (hn : nV A ≤ 6) (hs : s < 2 ^ nV A) (h : ¬ 2 ≤ pcN s) : ¬ setOk A (nI s) := by
  rintro ⟨s', h1, h2, h3⟩
  have hp : 2 ^ nV A ≤ 64 := Nat.pow_le_pow_right (n := 2) (by omega) hn
  have : s = s' := nI_in_r (by omega) (by omega) h2
  subst this
  exact h h3
set_option maxHeartbeats 4000000 in
set_option maxRecDepth 100000 in
theorem ct_bitCount (G : BcG) (gi : GI) {s : Nat} (hs : s < 64) : Ct G mJ6_bitCount_0f7a4 [.int (nI s)] (hp gi) (pI (nI (pcN s)) (hp gi)) := by
  refine ct_of [some (.int (nI s))] w_13 (by decide) rfl (Nat.le_of_ble_eq_true rfl) rfl ?_
  refine go_iload_n 1 dJ6_bitCount_0f7a4_0 rfl rfl ls_0 ?_
  refine go_iload_n 2 dJ6_bitCount_0f7a4_1 rfl rfl ls_0 ?_
  refine go_iconst 3 (v := 1) dJ6_bitCount_0f7a4_2 rfl (by decide) ?_
  refine go_iushr 4 dJ6_bitCount_0f7a4_3 rfl rfl ?_
  refine go_ldc_w 7 dJ6_bitCount_0f7a4_4 rfl w_410 ?_
  refine go_iand 8 dJ6_bitCount_0f7a4_7 rfl ?_
  refine go_isub 9 dJ6_bitCount_0f7a4_8 rfl ?_
  refine go_top (y := (bq1 (nI s))) rfl ?_
  refine go_istore_n 10 dJ6_bitCount_0f7a4_9 rfl rfl (by decide) st_0 ?_
  refine go_iload_n 11 dJ6_bitCount_0f7a4_10 rfl rfl ls_0 ?_
  refine go_ldc_w 14 dJ6_bitCount_0f7a4_11 rfl w_411 ?_
  refine go_iand 15 dJ6_bitCount_0f7a4_14 rfl ?_
  refine go_iload_n 16 dJ6_bitCount_0f7a4_15 rfl rfl ls_0 ?_
  refine go_iconst 17 (v := 2) dJ6_bitCount_0f7a4_16 rfl (by decide) ?_
  refine go_iushr 18 dJ6_bitCount_0f7a4_17 rfl rfl ?_
  refine go_ldc_w 21 dJ6_bitCount_0f7a4_18 rfl w_411 ?_
  refine go_iand 22 dJ6_bitCount_0f7a4_21 rfl ?_
  refine go_iadd 23 dJ6_bitCount_0f7a4_22 rfl ?_
  refine go_top (y := (bq2 (nI s))) rfl ?_
  refine go_istore_n 24 dJ6_bitCount_0f7a4_23 rfl rfl (by decide) st_0 ?_
  refine go_iload_n 25 dJ6_bitCount_0f7a4_24 rfl rfl ls_0 ?_
  refine go_iload_n 26 dJ6_bitCount_0f7a4_25 rfl rfl ls_0 ?_
  refine go_iconst 27 (v := 4) dJ6_bitCount_0f7a4_26 rfl (by decide) ?_
  refine go_iushr 28 dJ6_bitCount_0f7a4_27 rfl rfl ?_
  refine go_iadd 29 dJ6_bitCount_0f7a4_28 rfl ?_
  refine go_ldc_w 32 dJ6_bitCount_0f7a4_29 rfl w_412 ?_
  refine go_iand 33 dJ6_bitCount_0f7a4_32 rfl ?_
  refine go_top (y := (bq3 (nI s))) rfl ?_
  refine go_istore_n 34 dJ6_bitCount_0f7a4_33 rfl rfl (by decide) st_0 ?_
  refine go_iload_n 35 dJ6_bitCount_0f7a4_34 rfl rfl ls_0 ?_
  refine go_iload_n 36 dJ6_bitCount_0f7a4_35 rfl rfl ls_0 ?_
  refine go_bipush 38 (v := 8) dJ6_bitCount_0f7a4_36 rfl (by decide) ?_
  refine go_iushr 39 dJ6_bitCount_0f7a4_38 rfl rfl ?_
  refine go_iadd 40 dJ6_bitCount_0f7a4_39 rfl ?_
  refine go_top (y := (bq4 (nI s))) rfl ?_
  refine go_istore_n 41 dJ6_bitCount_0f7a4_40 rfl rfl (by decide) st_0 ?_
  refine go_iload_n 42 dJ6_bitCount_0f7a4_41 rfl rfl ls_0 ?_
  refine go_iload_n 43 dJ6_bitCount_0f7a4_42 rfl rfl ls_0 ?_
  refine go_bipush 45 (v := 16) dJ6_bitCount_0f7a4_43 rfl (by decide) ?_
  refine go_iushr 46 dJ6_bitCount_0f7a4_45 rfl rfl ?_
  refine go_iadd 47 dJ6_bitCount_0f7a4_46 rfl ?_
  refine go_top (y := (bq5 (nI s))) rfl ?_
  refine go_istore_n 48 dJ6_bitCount_0f7a4_47 rfl rfl (by decide) st_0 ?_
  refine go_iload_n 49 dJ6_bitCount_0f7a4_48 rfl rfl ls_0 ?_
  refine go_bipush 51 (v := 63) dJ6_bitCount_0f7a4_49 rfl (by decide) ?_
  refine go_iand 52 dJ6_bitCount_0f7a4_51 rfl ?_
  exact go_ret_i dJ6_bitCount_0f7a4_52 rfl rfl rfl (pI_of (bq_n s hs) rfl)
set_option maxHeartbeats 4000000 in
set_option maxRecDepth 100000 in
theorem ct_addLine (G : BcG) (gi : GI) {P : Nat} (hP : isP P) {N : Nat} {A : AA} (h : Rel P A gi) (I : Inv N A) (x y : Int32) : Ct G mX3_addLine [.ref (G.1 + P), .int x, .int y] (hp gi) (pOp P gi (fLine A x y)) := by
  refine ct_of [some (.ref (G.1 + P)), some (.int x), some (.int y), none, none] w_2 (by decide) rfl (Nat.le_of_ble_eq_true rfl) rfl ?_
  refine go_iload_n 1 dX3_addLine_0 rfl rfl (ls_s ls_0) ?_
  refine go_iconst 2 (v := 1) dX3_addLine_1 rfl (by decide) ?_
  refine go_aload_n 3 dX3_addLine_2 rfl rfl ls_0 ?_
  refine gp_getI 6 dX3_addLine_3 rfl f_X3_65 rfl (tP hP) ?_
  refine go_top (y := (nI (nV A))) (h.1.2.1.trans I.eV) ?_
  refine go_ishl 7 dX3_addLine_6 rfl ?_
  refine go_iconst 8 (v := 1) dX3_addLine_7 rfl (by decide) ?_
  refine go_isub 9 dX3_addLine_8 rfl ?_
  refine go_iconst 10 (v := (-1)) dX3_addLine_9 rfl (by decide) ?_
  refine go_ixor 11 dX3_addLine_10 rfl ?_
  refine go_iand 12 dX3_addLine_11 rfl ?_
  refine go_istore_n 13 dX3_addLine_12 rfl rfl (by decide) (st_s (st_s (st_s st_0))) ?_
  refine go_iload_n 14 dX3_addLine_13 rfl rfl (ls_s (ls_s (ls_s ls_0))) ?_
  refine go_if_ne 35 17 dX3_addLine_14 (by decide) rfl (fun c_14 => ?_) (fun c_14 => ?_)
  · refine go_iconst 36 (v := (-1)) dX3_addLine_35 rfl (by decide) ?_
    exact go_ret_i dX3_addLine_36 rfl rfl rfl (pOp_e (fLine_1 (fun z => c_14 (by obtain ⟨s, hs, e, -⟩ := z.1; exact (strg I.nV6 x).mpr ⟨s, hs, e⟩))) h)
  · obtain ⟨s, hs, rfl⟩ := (strg I.nV6 x).mp c_14
    have h64 : s < 64 := Nat.lt_of_lt_of_le hs (Nat.pow_le_pow_right (n := 2) (by omega) I.nV6)
    refine go_iload_n 18 dX3_addLine_17 rfl rfl (ls_s ls_0) ?_
    refine go_SI (M' := mJ6_bitCount_0f7a4) 21 dX3_addLine_18 rfl w_407 okJ6_bitCount_0f7a4 ⟨Nat.le_of_ble_eq_true rfl, Nat.le_of_ble_eq_true rfl⟩ (ct_bitCount G gi h64) rfl rfl (kk := ?_)
    refine go_iconst 22 (v := 2) dX3_addLine_21 rfl (by decide) ?_
    refine go_icmp_lt 35 25 dX3_addLine_22 (by decide) rfl (fun c_22 => ?_) (fun c_22 => ?_)
    · refine go_iconst 36 (v := (-1)) dX3_addLine_35 rfl (by decide) ?_
      exact go_ret_i dX3_addLine_36 rfl rfl rfl (pOp_e (fLine_1 (fun z => setOk_no I.nV6 hs (fun z2 => absurd (cnt_lt (n := pcN s) (m := 2) (by have := pcN_le s; omega) (by decide) c_22) (by omega)) z.1)) h)
    · refine go_iload_n 26 dX3_addLine_25 rfl rfl (ls_s (ls_s ls_0)) ?_
      refine go_iconst 27 (v := 1) dX3_addLine_26 rfl (by decide) ?_
      refine go_bipush 29 (v := 99) dX3_addLine_27 rfl (by decide) ?_
      refine go_TI (M' := mX8_isWithin) 32 dX3_addLine_29 rfl x_X3_106 okX8_isWithin ⟨Nat.le_of_ble_eq_true rfl, Nat.le_of_ble_eq_true rfl⟩ (ct_isWithin G gi _ _ _) rfl rfl (kk := ?_)
      refine go_ifne_b 37 35 dX3_addLine_32 (by decide) rfl (fun c_32 => ?_) (fun c_32 => ?_)
      · have hok : setOk A (nI s) := setOk_n hs (Nat.le_of_not_lt (fun z => c_22 (nI_lt z (by decide))))
        refine go_aload_n 38 dX3_addLine_37 rfl rfl ls_0 ?_
        refine gp_getI 41 dX3_addLine_38 rfl f_X3_68 rfl (tP hP) ?_
        refine go_top (y := (nI (nL A))) (h.1.2.2.1.trans I.eL) ?_
        refine go_iconst 42 (v := 3) dX3_addLine_41 rfl (by decide) ?_
        refine go_icmp_lt 48 45 dX3_addLine_42 (by decide) rfl (fun c_42 => ?_) (fun c_42 => ?_)
        · have hn : nL A < 3 := cnt_lt (by have := I.nL3; omega) (by decide) c_42
          refine go_aload_n 49 dX3_addLine_48 rfl rfl ls_0 ?_
          refine go_dup 50 dX3_addLine_49 rfl rfl ?_
          refine gp_getI 53 dX3_addLine_50 rfl f_X3_68 rfl (tP hP) ?_
          refine go_top (y := (nI (nL A))) (h.1.2.2.1.trans I.eL) ?_
          refine go_iconst 54 (v := 1) dX3_addLine_53 rfl (by decide) ?_
          refine go_iadd 55 dX3_addLine_54 rfl ?_
          refine go_top (y := (nI (nL A + 1))) (nI_1 _) ?_
          refine gp_putI 58 dX3_addLine_55 rfl f_X3_68 rfl (tP hP) rfl rfl ?_
          refine go_aload_n 59 dX3_addLine_58 rfl rfl ls_0 ?_
          refine go_aload_n 60 dX3_addLine_59 rfl rfl ls_0 ?_
          refine gp_getI 63 dX3_addLine_60 rfl f_X3_68 rfl (tP hP) ?_
          refine go_top (y := (nI (nL A + 1))) (by simp (disch := omega) only [wI_ne, wI_eq]) ?_
          refine go_iconst 64 (v := 1) dX3_addLine_63 rfl (by decide) ?_
          refine go_isub 65 dX3_addLine_64 rfl ?_
          refine go_top (y := (nI (nL A))) (nI_pred _) ?_
          refine go_VA (M' := mX3_lineAt) 68 dX3_addLine_65 rfl w_413 okX3_lineAt ⟨Nat.le_of_ble_eq_true rfl, Nat.le_of_ble_eq_true rfl⟩ (Ct.weak (ct_lineAt G (wI gi (P) 5 (nI (nL A + 1))) hP _ (nL A + 1) (by simp (disch := omega) only [wI_ne, wI_eq]) (by omega)) (pAt_y (f := fun r => P + 38 + r) (c := fun _ => True) (by omega) (Nat.lt_succ_self _) trivial)) rfl rfl (tP hP) (by decide) rfl (kk := ?_)
          refine go_astore 70 dX3_addLine_68 rfl (by decide) (st_s (st_s (st_s (st_s st_0)))) ?_
          refine go_aload 72 dX3_addLine_70 rfl (ls_s (ls_s (ls_s (ls_s ls_0)))) ?_
          refine go_ifnull 75 dX3_addLine_72 rfl ?_
          refine go_aload 77 dX3_addLine_75 rfl (ls_s (ls_s (ls_s (ls_s ls_0)))) ?_
          refine go_iload_n 78 dX3_addLine_77 rfl rfl (ls_s ls_0) ?_
          refine gp_putI 81 dX3_addLine_78 rfl f_X3_163 rfl (tL hP hn) rfl rfl ?_
          refine go_aload 83 dX3_addLine_81 rfl (ls_s (ls_s (ls_s (ls_s ls_0)))) ?_
          refine go_iload_n 84 dX3_addLine_83 rfl rfl (ls_s (ls_s ls_0)) ?_
          refine gp_putI 87 dX3_addLine_84 rfl f_X3_165 rfl (tL hP hn) rfl rfl ?_
          refine go_aload_n 88 dX3_addLine_87 rfl rfl ls_0 ?_
          refine gp_getI 91 dX3_addLine_88 rfl f_X3_68 rfl (tP hP) ?_
          refine go_top (y := (nI (nL A + 1))) (by simp (disch := omega) only [wI_ne, wI_eq]) ?_
          refine go_iconst 92 (v := 1) dX3_addLine_91 rfl (by decide) ?_
          refine go_isub 93 dX3_addLine_92 rfl ?_
          refine go_top (y := (nI (nL A))) (nI_pred _) ?_
          exact go_ret_i dX3_addLine_93 rfl rfl rfl (pOp_m (fLine_y I ⟨hok, c_32⟩ hn) (rel_line h I hn (nI s) y) (((Out.rf P gi).wI (by omega) (by omega)).wI (by omega) (by omega) |>.wI (by omega) (by omega)))
        · refine go_bipush 47 (v := (-3)) dX3_addLine_45 rfl (by decide) ?_
          exact go_ret_i dX3_addLine_47 rfl rfl rfl (pOp_e (fLine_3 ⟨hok, c_32⟩ (by rw [I.eL, cnt_ge I.nL3 (by decide) c_42]; rfl)) h)
      · refine go_iconst 36 (v := (-1)) dX3_addLine_35 rfl (by decide) ?_
        exact go_ret_i dX3_addLine_36 rfl rfl rfl (pOp_e (fLine_1 (fun z => c_32 z.2)) h)
