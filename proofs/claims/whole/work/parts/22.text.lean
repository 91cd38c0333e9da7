/-! THE TEXT: T its signs, L its length -/
abbrev TX : Type := Nat → Int32
/-- the sign at a place, 0 outside the text -/
def sg (T : TX) (L p : Nat) : Int32 := if p < L then T p else 0
/-- at most k digits are read: what they spell, and the place behind them -/
noncomputable def rdF (T : TX) (L : Nat) : Nat → Nat → Int32 → Int32 × Nat
  | 0, p, v => (v, p)
  | k + 1, p, v => cIf (inR (sg T L p) 48 57) (rdF T L k (p + 1) (v * 10 + sg T L p - 48)) (v, p)
noncomputable def nmF (T : TX) (L p : Nat) : Int32 × Nat := rdF T L 3 p 0
def clS (k : Nat) : Int32 := if k = 0 then 59 else 44
/-- k numbers are read, each with the sign behind it: the place behind all, and the numbers -/
noncomputable def nbF (T : TX) (L : Nat) : Nat → Nat → Nat → (Nat → Int32) → Option (Nat × (Nat → Int32))
  | 0, _, p, E => some (p, E)
  | k + 1, i, p, E => cIf (p < (nmF T L p).2 ∧ sg T L (nmF T L p).2 = clS k) (nbF T L k (i + 1) ((nmF T L p).2 + 1) (upd E i (nmF T L p).1)) none
/-- how many numbers a command has -/
def mny (l : Int32) : Nat := if l = 98 then 3 else if l = 109 ∨ l = 111 then 2 else if l = 101 ∨ l = 116 ∨ l = 120 then 1 else 0
noncomputable def cdF (T : TX) (L p : Nat) : Option (Nat × (Nat → Int32)) := if mny (sg T L p) = 0 then none else nbF T L (mny (sg T L p)) 0 (p + 1) (fun _ => 0)
/-- what a command does -/
noncomputable def exF (A : AA) (l : Int32) (E : Nat → Int32) : RA := if l = 98 then fBegin A (E 0) (E 1) (E 2) else if l = 109 then fMove A (E 0) (E 1) else if l = 101 then fEnd A (E 0) else if l = 120 then fDiscard A (E 0) else if l = 111 then fBlend A (E 0) (E 1) else fPass A (E 0)
/-- all commands from a place on: the fault (place, reason), how many were done, the row then -/
noncomputable def plF (T : TX) (L : Nat) : Nat → Nat → AA → Nat → Option (Nat × Int32) × Nat × AA
  | 0, _, A, c => (none, c, A)
  | f + 1, p, A, c => if p < L then (match cdF T L p with
    | none => (some (p, 1), c, A)
    | some q => cIf ((exF A (sg T L p) q.2).1 < 0) (some (p, cIf ((exF A (sg T L p) q.2).1 = -1) 2 3), c, A) (plF T L f q.1 (exF A (sg T L p) q.2).2 (c + 1))) else (none, c, A)
/-- a text as it can be typed -/
def TxI (T : TX) (L : Nat) : Prop := L ≤ 80 ∧ ∀ j, j < L → ∃ m, 32 ≤ m ∧ m < 127 ∧ T j = nI m
theorem rdF_t {T : TX} {L k p : Nat} {v : Int32} (h : inR (sg T L p) 48 57) : rdF T L (k + 1) p v = rdF T L k (p + 1) (v * 10 + sg T L p - 48) := by rw [rdF, cIf_t h]
theorem rdF_f {T : TX} {L k p : Nat} {v : Int32} (h : ¬ inR (sg T L p) 48 57) : rdF T L (k + 1) p v = (v, p) := by rw [rdF, cIf_f h]
theorem rdF_le (T : TX) (L : Nat) : ∀ (k p : Nat) (v : Int32), p ≤ (rdF T L k p v).2 ∧ (rdF T L k p v).2 ≤ p + k := by
  intro k
  induction k with
  | zero => intro p v; exact ⟨Nat.le_refl _, Nat.le_refl _⟩
  | succ k ih =>
    intro p v
    by_cases h : inR (sg T L p) 48 57
    · rw [rdF_t h]
      have := ih (p + 1) (v * 10 + sg T L p - 48)
      omega
    · rw [rdF_f h]
      exact ⟨Nat.le_refl _, by show p ≤ p + (k + 1); omega⟩
theorem nmF_le (T : TX) (L p : Nat) : p ≤ (nmF T L p).2 ∧ (nmF T L p).2 ≤ p + 3 := rdF_le T L 3 p 0
theorem sg_m {T : TX} {L : Nat} (X : TxI T L) (p : Nat) : ∃ m, m < 127 ∧ sg T L p = nI m := by
  by_cases h : p < L
  · obtain ⟨m, -, h2, h3⟩ := X.2 p h
    exact ⟨m, h2, by rw [sg, if_pos h, h3]⟩
  · exact ⟨0, by omega, by rw [sg, if_neg h]; rfl⟩
theorem nbF_t {T : TX} {L k i p : Nat} {E : Nat → Int32} (h : p < (nmF T L p).2 ∧ sg T L (nmF T L p).2 = clS k) : nbF T L (k + 1) i p E = nbF T L k (i + 1) ((nmF T L p).2 + 1) (upd E i (nmF T L p).1) := by rw [nbF, cIf_t h]
theorem nbF_f {T : TX} {L k i p : Nat} {E : Nat → Int32} (h : ¬ (p < (nmF T L p).2 ∧ sg T L (nmF T L p).2 = clS k)) : nbF T L (k + 1) i p E = none := by rw [nbF, cIf_f h]
/-- numbers end inside the text -/
theorem nbF_in {T : TX} {L : Nat} : ∀ (k i p : Nat) (E : Nat → Int32) (q : Nat × (Nat → Int32)), nbF T L k i p E = some q → (0 < k → q.1 ≤ L) ∧ p + k ≤ q.1 := by
  intro k
  induction k with
  | zero =>
    intro i p E q h
    rw [nbF] at h
    cases h
    exact ⟨fun z => by omega, Nat.le_refl _⟩
  | succ k ih =>
    intro i p E q h
    by_cases hc : p < (nmF T L p).2 ∧ sg T L (nmF T L p).2 = clS k
    · rw [nbF_t hc] at h
      obtain ⟨h1, h2⟩ := ih _ _ _ _ h
      refine ⟨fun _ => ?_, by omega⟩
      have hin : (nmF T L p).2 < L := by
        have z := hc.2
        unfold sg at z
        by_cases e : (nmF T L p).2 < L
        · exact e
        · rw [if_neg e] at z
          unfold clS at z
          split at z <;> exact absurd z (by decide)
      cases k with
      | zero =>
        rw [nbF] at h
        cases h
        exact hin
      | succ k => exact h1 (by omega)
    · rw [nbF_f hc] at h
      cases h
theorem cdF_in {T : TX} {L p : Nat} {q : Nat × (Nat → Int32)} (h : cdF T L p = some q) : 0 < mny (sg T L p) ∧ q.1 ≤ L ∧ p + 2 ≤ q.1 := by
  unfold cdF at h
  by_cases e : mny (sg T L p) = 0
  · rw [if_pos e] at h; cases h
  · rw [if_neg e] at h
    obtain ⟨h1, h2⟩ := nbF_in _ _ _ _ _ h
    exact ⟨by omega, h1 (by omega), by omega⟩
/-! the class's script -/
theorem o332 : tO 332 5 := ⟨by decide, rfl⟩
theorem a333 : tA 333 21 80 := ⟨by decide, rfl⟩
theorem a334 : tA 334 20 3 := ⟨by decide, rfl⟩
def RelX (T : TX) (L : Nat) (gi : GI) : Prop := gi 332 1 = nI L ∧ ∀ j, j < L → gi 333 j = T j
theorem RelX.same {T : TX} {L : Nat} {gi g' : GI} (h : RelX T L gi) (h1 : g' 332 1 = gi 332 1) (h2 : g' 333 = gi 333) : RelX T L g' := ⟨h1.trans h.1, fun j hj => by rw [h2]; exact h.2 j hj⟩
theorem gp_caldN {G : BcG} {M : BcM} {KQ : BcK} {gi : GI} {k n pc : Nat} {ls : List (Option Value)} {st : List Value} {x : Int32} (q : Nat) {a len i : Nat} (hd : decode M.2.1 pc = .ok (.caload, 1)) (e : pc + 1 = q) (ha : tA a 21 len) (hx : x = nI i) (hi : i < len) (hlen : len < 2 ^ 31) (kk : BGo G M KQ (hp gi) k n q ls (.int (gi a i) :: st)) : BGo G M KQ (hp gi) k n pc ls (.int x :: .ref (G.1 + a) :: st) := by
  subst hx
  refine go_cald q hd e ha (vp_in_nI hi hlen) ?_
  rw [nI_clamp (Nat.lt_trans hi hlen)]
  exact kk
theorem gp_castN {G : BcG} {M : BcM} {KQ : BcK} {gi : GI} {k n pc : Nat} {ls : List (Option Value)} {st : List Value} {x y : Int32} (q : Nat) {a len i : Nat} (hd : decode M.2.1 pc = .ok (.castore, 1)) (e : pc + 1 = q) (ha : tA a 21 len) (hy : y = nI i) (hi : i < len) (hlen : len < 2 ^ 31) (hv : vp_nar .char x = x) (kk : BGo G M KQ (hp (wI gi a i x)) k n q ls st) : BGo G M KQ (hp gi) k n pc ls (.int x :: .int y :: .ref (G.1 + a) :: st) := by
  subst hy
  refine gp_cast q hd e ha (vp_in_nI hi hlen) ?_
  rw [nI_clamp (Nat.lt_trans hi hlen), hv]
  exact kk
theorem chr_1 : ∀ m, m < 127 → narrow .char (.int (nI m)) = .int (nI m) := by decide +kernel
theorem chr_2 : ∀ m, m < 127 → vp_nar .char (nI m) = nI m := by decide +kernel
theorem chr_3 : ∀ m, m < 127 → ((nI m).toUInt32 % 65536).toInt32 = nI m := by decide +kernel
theorem chr_sg {T : TX} {L : Nat} (X : TxI T L) (p : Nat) : narrow .char (.int (sg T L p)) = .int (sg T L p) := by
  obtain ⟨m, h1, h2⟩ := sg_m X p
  rw [h2]
  exact chr_1 m h1
theorem in_chr {x : Int32} (h : inR x 32 126) : ∃ m, 32 ≤ m ∧ m < 127 ∧ x = nI m := by
  obtain ⟨m, hm, rfl⟩ := idx_of (len := 127) (by decide) (Int32.not_lt.mpr (Int32.le_trans (by decide) h.1)) (fun z => absurd (Int32.le_trans z h.2) (by decide))
  refine ⟨m, ?_, hm, rfl⟩
  rcases Nat.lt_or_ge m 32 with q | q
  · exact absurd h.1 (Int32.not_le.mpr (nI_lt q (by decide)))
  · exact q
set_option maxHeartbeats 4000000 in
set_option maxRecDepth 100000 in
theorem ct_signAt (G : BcG) {gi : GI} {T : TX} {L : Nat} (X : TxI T L) (hX : RelX T L gi) {p : Nat} (hp0 : p < 100000) : Ct G mX5_signAt [.ref (G.1 + 332), .int (nI p)] (hp gi) (pI (sg T L p) (hp gi)) := by
  refine ct_of [some (.ref (G.1 + 332)), some (.int (nI p)), none] w_9 (by decide) rfl (Nat.le_of_ble_eq_true rfl) rfl ?_
  refine go_iload_n 1 dX5_signAt_0 rfl rfl (ls_s ls_0) ?_
  refine go_if_lt 25 4 dX5_signAt_1 (by decide) rfl (fun c_1 => absurd c_1 (nI_pos (by omega))) (fun c_1 => ?_)
  refine go_iload_n 5 dX5_signAt_4 rfl rfl (ls_s ls_0) ?_
  refine go_aload_n 6 dX5_signAt_5 rfl rfl ls_0 ?_
  refine gp_getI 9 dX5_signAt_6 rfl f_X5_23 rfl o332 ?_
  refine go_top (y := (nI L)) hX.1 ?_
  refine go_icmp_ge 25 12 dX5_signAt_9 (by decide) rfl (fun c_9 => ?_) (fun c_9 => ?_)
  · refine go_iconst 26 (v := 0) dX5_signAt_25 rfl (by decide) ?_
    refine go_istore_n 27 dX5_signAt_26 rfl rfl (by decide) (st_s (st_s st_0)) ?_
    refine go_iload_n 28 dX5_signAt_27 rfl rfl (ls_s (ls_s ls_0)) ?_
    refine go_if_eq 40 31 dX5_signAt_28 (by decide) rfl (fun c_28 => ?_) (fun c_28 => absurd c_28 (by decide))
    refine go_iconst 41 (v := 0) dX5_signAt_40 rfl (by decide) ?_
    exact go_ret_z dX5_signAt_41 rfl rfl rfl rfl (pI_of (by rw [sg, if_neg (fun z => nI_ge z (by have := X.1; omega) c_9)]) rfl)
  · have hpL : p < L := Nat.lt_of_not_le (fun z => c_9 (nI_le z (by omega)))
    have h80 : p < 80 := Nat.lt_of_lt_of_le hpL X.1
    refine go_iload_n 13 dX5_signAt_12 rfl rfl (ls_s ls_0) ?_
    refine go_aload_n 14 dX5_signAt_13 rfl rfl ls_0 ?_
    refine gp_getR 17 dX5_signAt_14 rfl f_X5_9 rfl o332 rfl ?_
    refine gp_alen 18 (v := nI 80) dX5_signAt_17 rfl a333 (by decide) (by decide) rfl ?_
    refine go_icmp_ge 25 21 dX5_signAt_18 (by decide) rfl (fun c_18 => absurd c_18 (nI_ge h80 (by decide))) (fun c_18 => ?_)
    refine go_iconst 22 (v := 1) dX5_signAt_21 rfl (by decide) ?_
    refine go_goto 26 dX5_signAt_22 (by decide) ?_
    refine go_istore_n 27 dX5_signAt_26 rfl rfl (by decide) (st_s (st_s st_0)) ?_
    refine go_iload_n 28 dX5_signAt_27 rfl rfl (ls_s (ls_s ls_0)) ?_
    refine go_if_eq 40 31 dX5_signAt_28 (by decide) rfl (fun c_28 => absurd c_28 (by decide)) (fun c_28 => ?_)
    refine go_aload_n 32 dX5_signAt_31 rfl rfl ls_0 ?_
    refine gp_getR 35 dX5_signAt_32 rfl f_X5_9 rfl o332 rfl ?_
    refine go_iload_n 36 dX5_signAt_35 rfl rfl (ls_s ls_0) ?_
    refine gp_caldN 37 (i := p) dX5_signAt_36 rfl a333 rfl h80 (by decide) ?_
    refine go_top (y := (T p)) (hX.2 p hpL) ?_
    refine go_goto 41 dX5_signAt_37 (by decide) ?_
    exact go_ret_z dX5_signAt_41 rfl (by obtain ⟨m, -, h2, h3⟩ := X.2 p hpL; rw [h3]; exact chr_1 m h2) rfl rfl (pI_of (by rw [sg, if_pos hpL]) rfl)
noncomputable def fType (T : TX) (L : Nat) (x : Int32) : Int32 × TX × Nat := cIf (¬ inR x 32 126) (-1, T, L) (if L = 80 then (-3, T, L) else (nI (L + 1), upd T L x, L + 1))
def pTy (gi0 : GI) (R : Int32 × TX × Nat) : Option Value → BcH → Prop := fun v h' => v = some (.int R.1) ∧ ∃ gi, h' = hp gi ∧ RelX R.2.1 R.2.2 gi ∧ (∀ k, k ≠ 332 → k ≠ 333 → gi k = gi0 k)
theorem fType_1 {T : TX} {L : Nat} {x : Int32} (h : ¬ inR x 32 126) : fType T L x = (-1, T, L) := by rw [fType, cIf_t h]
theorem fType_3 {T : TX} {L : Nat} {x : Int32} (h : inR x 32 126) (h2 : L = 80) : fType T L x = (-3, T, L) := by rw [fType, cIf_f (fun z => z h), if_pos h2]
theorem fType_y {T : TX} {L : Nat} {x : Int32} (h : inR x 32 126) (h2 : L ≠ 80) : fType T L x = (nI (L + 1), upd T L x, L + 1) := by rw [fType, cIf_f (fun z => z h), if_neg h2]
theorem TxI_type {T : TX} {L : Nat} {x : Int32} (X : TxI T L) : TxI (fType T L x).2.1 (fType T L x).2.2 := by
  by_cases h : inR x 32 126
  · by_cases h2 : L = 80
    · rw [fType_3 h h2]; exact X
    · rw [fType_y h h2]
      refine ⟨by have := X.1; show L + 1 ≤ 80; omega, fun j hj => ?_⟩
      have hj' : j < L + 1 := hj
      show ∃ m, 32 ≤ m ∧ m < 127 ∧ upd T L x j = nI m
      by_cases e : j = L
      · subst e
        rw [upd_eq]
        exact in_chr h
      · rw [upd_ne e]
        exact X.2 j (by omega)
  · rw [fType_1 h]; exact X
theorem pTy_e {gi : GI} {T : TX} {L : Nat} {R : Int32 × TX × Nat} {x : Int32} (hF : R = (x, T, L)) (h : RelX T L gi) : pTy gi R (some (.int x)) (hp gi) := by
  subst hF
  exact ⟨rfl, gi, rfl, h, fun _ _ _ => rfl⟩
theorem pTy_m {gi : GI} {T : TX} {L : Nat} {R : Int32 × TX × Nat} {x : Int32} (hF : R = (nI (L + 1), upd T L x, L + 1)) (h : RelX T L gi) : pTy gi R (some (.int (nI (L + 1)))) (hp (wI (wI gi 333 L x) 332 1 (nI (L + 1)))) := by
  subst hF
  refine ⟨rfl, _, rfl, ⟨by rw [wI_eq], fun j hj => ?_⟩, fun k h1 h2 => by rw [wI_row h1, wI_row h2]⟩
  have hj' : j < L + 1 := hj
  show wI (wI gi 333 L x) 332 1 (nI (L + 1)) 333 j = upd T L x j
  rw [wI_ne (by omega)]
  by_cases e : j = L
  · subst e
    rw [wI_eq, upd_eq]
  · rw [wI_ne (by omega), upd_ne e]
    exact h.2 j (by omega)
set_option maxHeartbeats 4000000 in
set_option maxRecDepth 100000 in
theorem ct_append (G : BcG) {gi : GI} {T : TX} {L : Nat} (X : TxI T L) (hX : RelX T L gi) (x : Int32) : Ct G mX5_append [.ref (G.1 + 332), .int x] (hp gi) (pTy gi (fType T L x)) := by
  refine ct_of [some (.ref (G.1 + 332)), some (.int x)] w_9 (by decide) rfl (Nat.le_of_ble_eq_true rfl) rfl ?_
  refine go_iload_n 1 dX5_append_0 rfl rfl (ls_s ls_0) ?_
  refine go_bipush 3 (v := 32) dX5_append_1 rfl (by decide) ?_
  refine go_bipush 5 (v := 126) dX5_append_3 rfl (by decide) ?_
  refine go_TI (M' := mX8_isWithin) 8 dX5_append_5 rfl x_X5_19 okX8_isWithin ⟨Nat.le_of_ble_eq_true rfl, Nat.le_of_ble_eq_true rfl⟩ (ct_isWithin G gi _ _ _) rfl rfl (kk := ?_)
  refine go_ifne_b 13 11 dX5_append_8 (by decide) rfl (fun c_8 => ?_) (fun c_8 => ?_)
  · refine go_aload_n 14 dX5_append_13 rfl rfl ls_0 ?_
    refine gp_getI 17 dX5_append_14 rfl f_X5_23 rfl o332 ?_
    refine go_top (y := (nI L)) hX.1 ?_
    refine go_if_lt 32 20 dX5_append_17 (by decide) rfl (fun c_17 => absurd c_17 (nI_pos (by have := X.1; omega))) (fun c_17 => ?_)
    refine go_aload_n 21 dX5_append_20 rfl rfl ls_0 ?_
    refine gp_getI 24 dX5_append_21 rfl f_X5_23 rfl o332 ?_
    refine go_top (y := (nI L)) hX.1 ?_
    refine go_aload_n 25 dX5_append_24 rfl rfl ls_0 ?_
    refine gp_getR 28 dX5_append_25 rfl f_X5_9 rfl o332 rfl ?_
    refine gp_alen 29 (v := nI 80) dX5_append_28 rfl a333 (by decide) (by decide) rfl ?_
    refine go_icmp_lt 35 32 dX5_append_29 (by decide) rfl (fun c_29 => ?_) (fun c_29 => ?_)
    · have hL : L < 80 := cnt_lt (by have := X.1; omega) (by decide) c_29
      obtain ⟨m, hm1, hm2, hm⟩ := in_chr c_8
      refine go_aload_n 36 dX5_append_35 rfl rfl ls_0 ?_
      refine gp_getR 39 dX5_append_36 rfl f_X5_9 rfl o332 rfl ?_
      refine go_aload_n 40 dX5_append_39 rfl rfl ls_0 ?_
      refine gp_getI 43 dX5_append_40 rfl f_X5_23 rfl o332 ?_
      refine go_top (y := (nI L)) hX.1 ?_
      refine go_iload_n 44 dX5_append_43 rfl rfl (ls_s ls_0) ?_
      refine go_i2c 45 dX5_append_44 rfl rfl ?_
      refine go_top (y := x) (by rw [hm]; exact chr_3 m hm2) ?_
      refine gp_castN 46 (i := L) dX5_append_45 rfl a333 rfl hL (by decide) (by rw [hm]; exact chr_2 m hm2) ?_
      refine go_aload_n 47 dX5_append_46 rfl rfl ls_0 ?_
      refine go_dup 48 dX5_append_47 rfl rfl ?_
      refine gp_getI 51 dX5_append_48 rfl f_X5_23 rfl o332 ?_
      refine go_top (y := (nI L)) (by simp (disch := omega) only [wI_ne, wI_eq]; exact hX.1) ?_
      refine go_iconst 52 (v := 1) dX5_append_51 rfl (by decide) ?_
      refine go_iadd 53 dX5_append_52 rfl ?_
      refine go_top (y := (nI (L + 1))) (nI_1 _) ?_
      refine gp_putI 56 dX5_append_53 rfl f_X5_23 rfl o332 rfl rfl ?_
      refine go_aload_n 57 dX5_append_56 rfl rfl ls_0 ?_
      refine gp_getI 60 dX5_append_57 rfl f_X5_23 rfl o332 ?_
      refine go_top (y := (nI (L + 1))) (by rw [wI_eq]) ?_
      exact go_ret_i dX5_append_60 rfl rfl rfl (pTy_m (fType_y c_8 (by omega)) hX)
    · refine go_bipush 34 (v := (-3)) dX5_append_32 rfl (by decide) ?_
      exact go_ret_i dX5_append_34 rfl rfl rfl (pTy_e (fType_3 c_8 (by have := X.1; exact cnt_ge this (by decide) c_29)) hX)
  · refine go_iconst 12 (v := (-1)) dX5_append_11 rfl (by decide) ?_
    exact go_ret_i dX5_append_12 rfl rfl rfl (pTy_e (fType_1 c_8) hX)
theorem lk_0 : ∀ m, m < 127 → m = 98 ∨ m = 101 ∨ m = 109 ∨ m = 111 ∨ m = 116 ∨ m = 120 ∨ (Op.lookupswitch.offset [(98, 59), (101, 63), (109, 61), (111, 61), (116, 63), (120, 63)] 65 (nI m).toInt = 65 ∧ mny (nI m) = 0) := by decide +kernel
theorem lk_n (m : Nat) (h : m < 127) (h1 : m ≠ 98) (h2 : m ≠ 101) (h3 : m ≠ 109) (h4 : m ≠ 111) (h5 : m ≠ 116) (h6 : m ≠ 120) : Op.lookupswitch.offset [(98, 59), (101, 63), (109, 61), (111, 61), (116, 63), (120, 63)] 65 (nI m).toInt = 65 ∧ mny (nI m) = 0 := by
  rcases lk_0 m h with q | q | q | q | q | q | q
  · exact absurd q h1
  · exact absurd q h2
  · exact absurd q h3
  · exact absurd q h4
  · exact absurd q h5
  · exact absurd q h6
  · exact q
set_option maxHeartbeats 4000000 in
set_option maxRecDepth 100000 in
theorem ct_numbersOf (G : BcG) (gi : GI) {m : Nat} (hm : m < 127) : Ct G mX5_numbersOf [.int (nI m)] (hp gi) (pI (nI (mny (nI m))) (hp gi)) := by
  by_cases e98 : m = 98
  · subst e98
    refine ct_of [some (.int (nI 98))] w_9 (by decide) rfl (Nat.le_of_ble_eq_true rfl) rfl ?_
    refine go_iload_n 1 dX5_numbersOf_0 rfl rfl ls_0 ?_
    refine go_lookup 60 dX5_numbersOf_1 (by decide +kernel) (off := 59) (by decide +kernel) (by decide) ?_
    refine go_iconst 61 (v := 3) dX5_numbersOf_60 rfl (by decide) ?_
    exact go_ret_i dX5_numbersOf_61 rfl rfl rfl (pI_of (by decide) rfl)
  by_cases e101 : m = 101
  · subst e101
    refine ct_of [some (.int (nI 101))] w_9 (by decide) rfl (Nat.le_of_ble_eq_true rfl) rfl ?_
    refine go_iload_n 1 dX5_numbersOf_0 rfl rfl ls_0 ?_
    refine go_lookup 64 dX5_numbersOf_1 (by decide +kernel) (off := 63) (by decide +kernel) (by decide) ?_
    refine go_iconst 65 (v := 1) dX5_numbersOf_64 rfl (by decide) ?_
    exact go_ret_i dX5_numbersOf_65 rfl rfl rfl (pI_of (by decide) rfl)
  by_cases e109 : m = 109
  · subst e109
    refine ct_of [some (.int (nI 109))] w_9 (by decide) rfl (Nat.le_of_ble_eq_true rfl) rfl ?_
    refine go_iload_n 1 dX5_numbersOf_0 rfl rfl ls_0 ?_
    refine go_lookup 62 dX5_numbersOf_1 (by decide +kernel) (off := 61) (by decide +kernel) (by decide) ?_
    refine go_iconst 63 (v := 2) dX5_numbersOf_62 rfl (by decide) ?_
    exact go_ret_i dX5_numbersOf_63 rfl rfl rfl (pI_of (by decide) rfl)
  by_cases e111 : m = 111
  · subst e111
    refine ct_of [some (.int (nI 111))] w_9 (by decide) rfl (Nat.le_of_ble_eq_true rfl) rfl ?_
    refine go_iload_n 1 dX5_numbersOf_0 rfl rfl ls_0 ?_
    refine go_lookup 62 dX5_numbersOf_1 (by decide +kernel) (off := 61) (by decide +kernel) (by decide) ?_
    refine go_iconst 63 (v := 2) dX5_numbersOf_62 rfl (by decide) ?_
    exact go_ret_i dX5_numbersOf_63 rfl rfl rfl (pI_of (by decide) rfl)
  by_cases e116 : m = 116
  · subst e116
    refine ct_of [some (.int (nI 116))] w_9 (by decide) rfl (Nat.le_of_ble_eq_true rfl) rfl ?_
    refine go_iload_n 1 dX5_numbersOf_0 rfl rfl ls_0 ?_
    refine go_lookup 64 dX5_numbersOf_1 (by decide +kernel) (off := 63) (by decide +kernel) (by decide) ?_
    refine go_iconst 65 (v := 1) dX5_numbersOf_64 rfl (by decide) ?_
    exact go_ret_i dX5_numbersOf_65 rfl rfl rfl (pI_of (by decide) rfl)
  by_cases e120 : m = 120
  · subst e120
    refine ct_of [some (.int (nI 120))] w_9 (by decide) rfl (Nat.le_of_ble_eq_true rfl) rfl ?_
    refine go_iload_n 1 dX5_numbersOf_0 rfl rfl ls_0 ?_
    refine go_lookup 64 dX5_numbersOf_1 (by decide +kernel) (off := 63) (by decide +kernel) (by decide) ?_
    refine go_iconst 65 (v := 1) dX5_numbersOf_64 rfl (by decide) ?_
    exact go_ret_i dX5_numbersOf_65 rfl rfl rfl (pI_of (by decide) rfl)
  obtain ⟨k1, k2⟩ := lk_n m hm e98 e101 e109 e111 e116 e120
  refine ct_of [some (.int (nI m))] w_9 (by decide) rfl (Nat.le_of_ble_eq_true rfl) rfl ?_
  refine go_iload_n 1 dX5_numbersOf_0 rfl rfl ls_0 ?_
  refine go_lookup 66 dX5_numbersOf_1 (by decide +kernel) (off := 65) k1 (by decide) ?_
  refine go_iconst 67 (v := 0) dX5_numbersOf_66 rfl (by decide) ?_
  exact go_ret_i dX5_numbersOf_67 rfl rfl rfl (pI_of (by rw [k2]; rfl) rfl)
theorem ct_nbOf (G : BcG) (gi : GI) {T : TX} {L : Nat} (X : TxI T L) (p : Nat) : Ct G mX5_numbersOf [.int (sg T L p)] (hp gi) (pI (nI (mny (sg T L p))) (hp gi)) := by
  obtain ⟨m, h1, h2⟩ := sg_m X p
  rw [h2]
  exact ct_numbersOf G gi h1
def OutX (gi0 gi : GI) : Prop := (∀ k, k ≠ 332 → gi k = gi0 k) ∧ ∀ j, j ≠ 4 → gi 332 j = gi0 332 j
def pRd (i p0 : Nat) (gi0 : GI) (R : Int32 × Nat) : Option Value → BcH → Prop := fun v h' => v = some (.int (bI (p0 < R.2))) ∧ ∃ gi, h' = hp gi ∧ gi 334 i = R.1 ∧ (∀ j, j ≠ i → gi 334 j = gi0 334 j) ∧ gi 332 4 = nI R.2 ∧ (∀ j, j ≠ 4 → gi 332 j = gi0 332 j) ∧ ∀ k, k ≠ 332 → k ≠ 334 → gi k = gi0 k
theorem pRd_of {i p0 p d : Nat} {gi0 gi : GI} {R : Int32 × Nat} {v x : Int32} (hR : R = (v, p)) (hi : i < 3) (hq : p = p0 + d) (h4 : gi 332 4 = nI p) (ho : OutX gi0 gi) (hx : x = bI (0 < d)) : pRd i p0 gi0 R (some (.int x)) (hp (putF gi 334 3 (nI i) v)) := by
  subst hR
  subst hq
  rw [putF_n hi (by decide)]
  refine ⟨by rw [hx, bI_iff (show 0 < d ↔ p0 < (v, p0 + d).2 from ⟨fun z => by show p0 < p0 + d; omega, fun z => by have z' : p0 < p0 + d := z; omega⟩)], _, rfl, by rw [wI_eq], fun j hj => ?_, ?_, fun j hj => ?_, fun k h1 h2 => ?_⟩
  · rw [wI_ne (by omega), ho.1 334 (by decide)]
  · rw [wI_ne (by omega)]; exact h4
  · rw [wI_ne (by omega)]; exact ho.2 j hj
  · rw [wI_row h2, ho.1 k h1]
theorem RelX.out {T : TX} {L : Nat} {gi0 gi : GI} (h : RelX T L gi0) (o : OutX gi0 gi) : RelX T L gi := h.same (o.2 1 (by decide)) (o.1 333 (by decide))
theorem OutX.put {gi0 gi : GI} (o : OutX gi0 gi) (v : Int32) : OutX gi0 (wI gi 332 4 v) := ⟨fun k hk => by rw [wI_row hk]; exact o.1 k hk, fun j hj => by rw [wI_ne (by omega)]; exact o.2 j hj⟩
theorem OutX.rf (gi : GI) : OutX gi gi := ⟨fun _ _ => rfl, fun _ _ => rfl⟩
set_option maxHeartbeats 4000000 in
set_option maxRecDepth 100000 in
theorem lp_readNumber (G : BcG) {gi0 : GI} {T : TX} {L : Nat} (X : TxI T L) (hX : RelX T L gi0) {i p0 : Nat} (hi : i < 3) (hp9 : p0 < 1000) : ∀ (n d : Nat) (p : Nat) (v : Int32) (gi : GI), d + n = 3 → (p = p0 + d) → (gi 332 4 = nI p) → (OutX gi0 gi) → BGo G mX5_readNumber (KM G mX5_readNumber 341 (pRd i p0 gi0 (rdF T L n p v))) (hp gi) 0 0 4 [some (.ref (G.1 + 332)), some (.int (nI i)), some (.int v), some (.int (nI d))] [] := by
  intro n
  induction n with
  | zero =>
    intro d p v gi hn hq h4 ho
    obtain rfl : d = 3 := by omega
    refine go_iload_n 5 dX5_readNumber_4 rfl rfl (ls_s (ls_s (ls_s ls_0))) ?_
    refine go_iconst 6 (v := 3) dX5_readNumber_5 rfl (by decide) ?_
    refine go_icmp_ge 60 9 dX5_readNumber_6 (by decide) rfl (fun c_6 => ?_) (fun c_6 => absurd c_6 (by decide))
    refine go_aload_n 61 dX5_readNumber_60 rfl rfl ls_0 ?_
    refine gp_getR 64 dX5_readNumber_61 rfl f_X5_15 rfl o332 rfl ?_
    refine go_iload_n 65 dX5_readNumber_64 rfl rfl (ls_s ls_0) ?_
    refine go_iload_n 66 dX5_readNumber_65 rfl rfl (ls_s (ls_s ls_0)) ?_
    refine go_TN (M' := mX8_putEntry) 69 dX5_readNumber_66 rfl x_X5_46 okX8_putEntry ⟨Nat.le_of_ble_eq_true rfl, Nat.le_of_ble_eq_true rfl⟩ (ct_putEntry G gi _ 3 _ _ a334 (by decide)) rfl rfl (kk := ?_)
    refine go_iload_n 70 dX5_readNumber_69 rfl rfl (ls_s (ls_s (ls_s ls_0))) ?_
    refine go_if_le 77 73 dX5_readNumber_70 (by decide) rfl (fun c_70 => absurd c_70 (by decide)) (fun c_70 => ?_)
    refine go_iconst 74 (v := 1) dX5_readNumber_73 rfl (by decide) ?_
    refine go_goto 78 dX5_readNumber_74 (by decide) ?_
    exact go_ret_z dX5_readNumber_78 rfl rfl rfl rfl (pRd_of (d := 3) rfl hi hq h4 ho (bI_1 (by omega)))
  | succ n ih =>
    intro d p v gi hn hq h4 ho
    have hd3 : d < 3 := by omega
    refine go_iload_n 5 dX5_readNumber_4 rfl rfl (ls_s (ls_s (ls_s ls_0))) ?_
    refine go_iconst 6 (v := 3) dX5_readNumber_5 rfl (by decide) ?_
    refine go_icmp_ge 60 9 dX5_readNumber_6 (by decide) rfl (fun c_6 => absurd c_6 (nI_ge hd3 (by decide))) (fun c_6 => ?_)
    refine go_aload_n 10 dX5_readNumber_9 rfl rfl ls_0 ?_
    refine go_aload_n 11 dX5_readNumber_10 rfl rfl ls_0 ?_
    refine gp_getI 14 dX5_readNumber_11 rfl f_X5_39 rfl o332 ?_
    refine go_top (y := (nI p)) h4 ?_
    refine go_VI (M' := mX5_signAt) 17 dX5_readNumber_14 rfl w_701 okX5_signAt ⟨Nat.le_of_ble_eq_true rfl, Nat.le_of_ble_eq_true rfl⟩ (ct_signAt G X (hX.out ho) (p := p) (by omega)) rfl rfl o332 (by decide) rfl (kk := ?_)
    refine go_bipush 19 (v := 48) dX5_readNumber_17 rfl (by decide) ?_
    refine go_bipush 21 (v := 57) dX5_readNumber_19 rfl (by decide) ?_
    refine go_TI (M' := mX8_isWithin) 24 dX5_readNumber_21 rfl x_X5_19 okX8_isWithin ⟨Nat.le_of_ble_eq_true rfl, Nat.le_of_ble_eq_true rfl⟩ (ct_isWithin G gi _ _ _) rfl rfl (kk := ?_)
    refine go_ifeq_b 60 27 dX5_readNumber_24 (by decide) rfl (fun c_24 => ?_) (fun c_24 => ?_)
    · refine go_aload_n 61 dX5_readNumber_60 rfl rfl ls_0 ?_
      refine gp_getR 64 dX5_readNumber_61 rfl f_X5_15 rfl o332 rfl ?_
      refine go_iload_n 65 dX5_readNumber_64 rfl rfl (ls_s ls_0) ?_
      refine go_iload_n 66 dX5_readNumber_65 rfl rfl (ls_s (ls_s ls_0)) ?_
      refine go_TN (M' := mX8_putEntry) 69 dX5_readNumber_66 rfl x_X5_46 okX8_putEntry ⟨Nat.le_of_ble_eq_true rfl, Nat.le_of_ble_eq_true rfl⟩ (ct_putEntry G gi _ 3 _ _ a334 (by decide)) rfl rfl (kk := ?_)
      refine go_iload_n 70 dX5_readNumber_69 rfl rfl (ls_s (ls_s (ls_s ls_0))) ?_
      refine go_if_le 77 73 dX5_readNumber_70 (by decide) rfl (fun c_70 => ?_) (fun c_70 => ?_)
      · refine go_iconst 78 (v := 0) dX5_readNumber_77 rfl (by decide) ?_
        exact go_ret_z dX5_readNumber_78 rfl rfl rfl rfl (pRd_of (d := d) (rdF_f c_24) hi hq h4 ho (bI_0 (fun z => nI_ge z (by omega) c_70)))
      · refine go_iconst 74 (v := 1) dX5_readNumber_73 rfl (by decide) ?_
        refine go_goto 78 dX5_readNumber_74 (by decide) ?_
        exact go_ret_z dX5_readNumber_78 rfl rfl rfl rfl (pRd_of (d := d) (rdF_f c_24) hi hq h4 ho (bI_1 (Nat.pos_of_ne_zero (fun z => c_70 (by rw [z]; decide)))))
    · refine go_iload_n 28 dX5_readNumber_27 rfl rfl (ls_s (ls_s ls_0)) ?_
      refine go_bipush 30 (v := 10) dX5_readNumber_28 rfl (by decide) ?_
      refine go_imul 31 dX5_readNumber_30 rfl ?_
      refine go_aload_n 32 dX5_readNumber_31 rfl rfl ls_0 ?_
      refine go_aload_n 33 dX5_readNumber_32 rfl rfl ls_0 ?_
      refine gp_getI 36 dX5_readNumber_33 rfl f_X5_39 rfl o332 ?_
      refine go_top (y := (nI p)) h4 ?_
      refine go_VI (M' := mX5_signAt) 39 dX5_readNumber_36 rfl w_701 okX5_signAt ⟨Nat.le_of_ble_eq_true rfl, Nat.le_of_ble_eq_true rfl⟩ (ct_signAt G X (hX.out ho) (p := p) (by omega)) rfl rfl o332 (by decide) rfl (kk := ?_)
      refine go_iadd 40 dX5_readNumber_39 rfl ?_
      refine go_bipush 42 (v := 48) dX5_readNumber_40 rfl (by decide) ?_
      refine go_isub 43 dX5_readNumber_42 rfl ?_
      refine go_istore_n 44 dX5_readNumber_43 rfl rfl (by decide) (st_s (st_s st_0)) ?_
      refine go_iinc 47 (v := (nI (d + 1))) dX5_readNumber_44 rfl (ls_s (ls_s (ls_s ls_0))) (by exact nI_1 d) (by decide) (st_s (st_s (st_s st_0))) ?_
      refine go_aload_n 48 dX5_readNumber_47 rfl rfl ls_0 ?_
      refine go_dup 49 dX5_readNumber_48 rfl rfl ?_
      refine gp_getI 52 dX5_readNumber_49 rfl f_X5_39 rfl o332 ?_
      refine go_top (y := (nI p)) h4 ?_
      refine go_iconst 53 (v := 1) dX5_readNumber_52 rfl (by decide) ?_
      refine go_iadd 54 dX5_readNumber_53 rfl ?_
      refine go_top (y := (nI (p + 1))) (nI_1 _) ?_
      refine gp_putI 57 dX5_readNumber_54 rfl f_X5_39 rfl o332 rfl rfl ?_
      refine go_goto 4 dX5_readNumber_57 (by decide) ?_
      rw [rdF_t c_24]
      exact ih (d + 1) (p + 1) _ _ (by omega) (by omega) (by rw [wI_eq]) (ho.put _)
set_option maxHeartbeats 4000000 in
set_option maxRecDepth 100000 in
theorem ct_readNumber (G : BcG) {gi0 : GI} {T : TX} {L : Nat} (X : TxI T L) (hX : RelX T L gi0) {i p0 : Nat} (hi : i < 3) (hp9 : p0 < 1000) (h4 : gi0 332 4 = nI p0) : Ct G mX5_readNumber [.ref (G.1 + 332), .int (nI i)] (hp gi0) (pRd i p0 gi0 (nmF T L p0)) := by
  refine ct_of [some (.ref (G.1 + 332)), some (.int (nI i)), none, none] w_9 (by decide) rfl (Nat.le_of_ble_eq_true rfl) rfl ?_
  refine go_iconst 1 (v := 0) dX5_readNumber_0 rfl (by decide) ?_
  refine go_istore_n 2 dX5_readNumber_1 rfl rfl (by decide) (st_s (st_s st_0)) ?_
  refine go_iconst 3 (v := 0) dX5_readNumber_2 rfl (by decide) ?_
  refine go_istore_n 4 dX5_readNumber_3 rfl rfl (by decide) (st_s (st_s (st_s st_0))) ?_
  exact lp_readNumber G X hX hi hp9 3 0 p0 0 _ rfl rfl h4 (OutX.rf gi0)
