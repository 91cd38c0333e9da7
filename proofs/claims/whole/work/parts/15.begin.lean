/-! PLANTS: batches -/
theorem fb_holes : ∀ (m n : Nat) (f : Nat → Nat), (∀ i, i < n → f i < m) → (∀ i j, i < j → j < n → f i ≠ f j) → n ≤ m := by
  intro m
  induction m with
  | zero =>
    intro n f h1 _
    rcases Nat.eq_zero_or_pos n with h | h
    · omega
    · exact absurd (h1 0 h) (Nat.not_lt_zero _)
  | succ m ih =>
    intro n f h1 h2
    by_cases hx : ∃ i, i < n ∧ f i = m
    · obtain ⟨a, ha, hfa⟩ := hx
      have hg := ih (n - 1) (fun i => if i < a then f i else f (i + 1)) (by
        intro i hi
        by_cases q : i < a
        · simp only [if_pos q]
          have b1 := h1 i (by omega)
          have b2 := h2 i a q ha
          omega
        · simp only [if_neg q]
          have b1 := h1 (i + 1) (by omega)
          have b2 := h2 a (i + 1) (by omega) (by omega)
          omega) (by
        intro i j hij hj
        by_cases q : i < a
        · by_cases r : j < a
          · simp only [if_pos q, if_pos r]
            exact h2 i j hij (by omega)
          · simp only [if_pos q, if_neg r]
            exact h2 i (j + 1) (by omega) (by omega)
        · have r : ¬ j < a := by omega
          simp only [if_neg q, if_neg r]
          exact h2 (i + 1) (j + 1) (by omega) (by omega))
      omega
    · have hg := ih n f (fun i hi => by
        have b1 := h1 i hi
        have b2 : f i ≠ m := fun e => hx ⟨i, hi, e⟩
        omega) h2
      omega
theorem in999 {m : Int32} (h : inR m 1 999) : ∃ k, 1 ≤ k ∧ k ≤ 999 ∧ m = nI k := by
  obtain ⟨k, hk, rfl⟩ := idx_of (len := 1000) (by decide) (Int32.not_lt.mpr (Int32.le_trans (show (0 : Int32) ≤ 1 by decide) h.1)) (fun z => absurd (Int32.le_trans z h.2) (by decide))
  refine ⟨k, ?_, by omega, rfl⟩
  have h1 : nI 1 ≤ nI k := h.1
  exact (nI_leI (by decide) (by omega)).mp h1
/-- the class's lowest free number, or -1 -/
noncomputable def lw1 (A : AA) : Nat → Nat → Int32
  | _, 0 => -1
  | i, n + 1 => cIf (live A i) (lw1 A (i + 1) n) (nI i)
theorem lw1_F (A : AA) : ∀ n i, (lowF A i n < i + n ∧ lw1 A i n = nI (lowF A i n) ∧ ¬ live A (lowF A i n)) ∨ (lowF A i n = i + n ∧ lw1 A i n = -1 ∧ ∀ b, i ≤ b → b < i + n → live A b) := by
  intro n
  induction n with
  | zero => intro i; exact Or.inr ⟨rfl, rfl, fun b h1 h2 => by omega⟩
  | succ n ih =>
    intro i
    by_cases hl : live A i
    · rw [lowF, lw1, cIf_t hl, cIf_t hl]
      rcases ih (i + 1) with ⟨h1, h2, h3⟩ | ⟨h1, h2, h3⟩
      · exact Or.inl ⟨by omega, h2, h3⟩
      · refine Or.inr ⟨by omega, h2, fun b h4 h5 => ?_⟩
        rcases Nat.eq_or_lt_of_le h4 with e | e
        · subst e; exact hl
        · exact h3 b e (by omega)
    · rw [lowF, lw1, cIf_f hl, cIf_f hl]
      exact Or.inl ⟨by omega, rfl, hl⟩
/-- a vessel without a batch: then there is a number that none has -/
theorem pig {N : Nat} {A : AA} (I : Inv N A) {v : Nat} (hv : v < nV A) (h : A (103 + 5 * v + 2) < 0) : ¬ ∀ b, 0 ≤ b → b < 6 → live A b := by
  intro hall
  have key : ∀ b, b < 6 → bV A b < 6 ∧ bV A b ≠ v ∧ A (103 + 5 * bV A b + 2) = nI b := fun b hb => by
    have i := I.b1 hb (hall b (Nat.zero_le _) hb)
    refine ⟨I.bV6 hb (hall b (Nat.zero_le _) hb), fun e => ?_, i.2.2.1.2.2⟩
    have := i.2.2.1.2.2
    rw [e] at this
    rw [this] at h
    exact nI_pos (by omega) h
  have hv6 : v < 6 := Nat.lt_of_lt_of_le hv I.nV6
  have := fb_holes 5 6 (fun b => if bV A b < v then bV A b else bV A b - 1) (fun b hb => by
    obtain ⟨k1, k2, -⟩ := key b hb
    show (if bV A b < v then bV A b else bV A b - 1) < 5
    by_cases q : bV A b < v
    · rw [if_pos q]; omega
    · rw [if_neg q]; omega) (fun a b hab hb => by
    obtain ⟨k1, k2, k3⟩ := key a (by omega)
    obtain ⟨l1, l2, l3⟩ := key b hb
    show (if bV A a < v then bV A a else bV A a - 1) ≠ (if bV A b < v then bV A b else bV A b - 1)
    have hne : bV A a ≠ bV A b := fun e => by
      rw [e, l3] at k3
      have := nI_in_r (by omega) (by omega) k3
      omega
    by_cases q : bV A a < v
    · rw [if_pos q]
      by_cases r : bV A b < v
      · rw [if_pos r]; exact hne
      · rw [if_neg r]; omega
    · rw [if_neg q]
      by_cases r : bV A b < v
      · rw [if_pos r]; omega
      · rw [if_neg r]; omega)
  omega
theorem low_y {N : Nat} {A : AA} (I : Inv N A) {v : Nat} (hv : v < nV A) (h : A (103 + 5 * v + 2) < 0) : lowF A 0 6 < 6 ∧ lw1 A 0 6 = nI (lowF A 0 6) ∧ ¬ live A (lowF A 0 6) := by
  rcases lw1_F A 6 0 with q | q
  · exact ⟨by have := q.1; omega, q.2⟩
  · exact absurd (fun b h1 h2 => q.2.2 b h1 (by omega)) (pig I hv h)
theorem cm_rel {P v p : Nat} {A : AA} {gi : GI} (h3 : gi (P + 32 + v) 3 = A (103 + 5 * v + 3)) (ht : ∀ i, i < 16 → gi (P + 5) i = A (15 + i)) (hl : A (103 + 5 * v + 3) = -1 ∨ bd (A (103 + 5 * v + 3)) 3) (hp : p < 4) : cmF gi P v (nI p) = clF A v (nI p) := by
  unfold cmF clF
  rw [h3]
  rcases hl with e | e
  · rw [e, if_pos rfl, cIf_t (by decide)]
  · have e1 := e.1
    have e2 := e.2
    generalize iN (A (103 + 5 * v + 3)) = q at e1 e2
    rw [e1, if_neg (fun z => nI_pos (n := q) (by omega) (by rw [z]; decide)), cIf_f (nI_pos (by omega)), iN_n (by omega), show (4 : Int32) = nI 4 from rfl, pk_mul, nI_add, entF_n (by omega) (by decide), ht _ (by omega)]
    congr 1
    omega
theorem bd_lt {x : Int32} {c : Nat} (h : bd x c) : ∃ n, n < c + 1 ∧ x = nI n := ⟨iN x, by have := h.2; omega, h.1⟩
theorem cm_rel' {P v : Nat} {A : AA} {gi : GI} {x : Int32} (h3 : gi (P + 32 + v) 3 = A (103 + 5 * v + 3)) (ht : ∀ i, i < 16 → gi (P + 5) i = A (15 + i)) (hl : A (103 + 5 * v + 3) = -1 ∨ bd (A (103 + 5 * v + 3)) 3) (hp : bd x 3) : cmF gi P v x = clF A v x := by
  rw [hp.1]
  exact cm_rel h3 ht hl (by have := hp.2; omega)
theorem ct_occupyA (G : BcG) (gi : GI) {P : Nat} (hP : isP P) {v : Nat} (hv : v < 6) (b p : Int32) {c z : Int32} (hc : cmF gi P v p = c) (hz : gi (P + 32 + v) 4 + c = z) : Ct G mX3_occupy [.ref (G.1 + P), .ref (G.1 + (P + 32 + v)), .int b, .int p] (hp gi) (pI c (hp (wI (wI (wI gi (P + 32 + v) 4 z) (P + 32 + v) 2 b) (P + 32 + v) 3 p))) := by
  subst hz
  subst hc
  exact ct_occupy G gi hP hv b p
theorem tk_iff {P N v : Nat} {A : AA} {gi : GI} {kind m : Int32} (h : Rel P A gi) (I : Inv N A) (hv : v < nV A) : (gi (P + 32 + v) 2 = -1 ∧ gi (P + 32 + v) 0 = kind ∧ m ≤ gi (P + 32 + v) 1) ↔ tkF A v kind m := by
  have hv6 := Nat.lt_of_lt_of_le hv I.nV6
  obtain ⟨e0, e1, e2, -, -⟩ := (h.2.2.1 v hv6).1 hv
  rw [e0, e1, e2, tkF]
  constructor
  · rintro ⟨a, b⟩
    exact ⟨by rw [a]; decide, b⟩
  · rintro ⟨a, b⟩
    refine ⟨((I.2.2.2.1 v hv6).2.2.1).resolve_right (fun z => ?_), b⟩
    exact bd_nn z (by decide) a
theorem ct_canTakeA (G : BcG) {gi : GI} {P N v : Nat} (hP : isP P) {A : AA} (h : Rel P A gi) (I : Inv N A) (hv : v < nV A) (hv6 : v < 6) (kind m : Int32) : Ct G mX7_canTake [.ref (G.1 + (P + 32 + v)), .int kind, .int m] (hp gi) (pI (bI (tkF A v kind m)) (hp gi)) := by
  rw [← bI_iff (tk_iff h I hv)]
  exact ct_canTake G gi _ (tV hP hv6) kind m
set_option maxHeartbeats 4000000 in
set_option maxRecDepth 100000 in
theorem ct_start (G : BcG) (gi : GI) (k : Nat) (hk : tO k 0) (r p m : Int32) : Ct G mX0_start [.ref (G.1 + k), .int r, .int p, .int m] (hp gi) (pV (hp (wI (wI (wI (wI (wI (wI (wI gi k 0 1) k 1 r) k 2 p) k 3 m) k 4 m) k 5 0) k 6 0))) := by
  refine ct_of [some (.ref (G.1 + k)), some (.int r), some (.int p), some (.int m)] w_7 (by decide) rfl (Nat.le_of_ble_eq_true rfl) rfl ?_
  refine go_aload_n 1 dX0_start_0 rfl rfl ls_0 ?_
  refine go_iconst 2 (v := 1) dX0_start_1 rfl (by decide) ?_
  refine gp_putI 5 dX0_start_2 rfl f_X0_7 rfl hk rfl rfl ?_
  refine go_aload_n 6 dX0_start_5 rfl rfl ls_0 ?_
  refine go_iload_n 7 dX0_start_6 rfl rfl (ls_s ls_0) ?_
  refine gp_putI 10 dX0_start_7 rfl f_X0_13 rfl hk rfl rfl ?_
  refine go_aload_n 11 dX0_start_10 rfl rfl ls_0 ?_
  refine go_iload_n 12 dX0_start_11 rfl rfl (ls_s (ls_s ls_0)) ?_
  refine gp_putI 15 dX0_start_12 rfl f_X0_17 rfl hk rfl rfl ?_
  refine go_aload_n 16 dX0_start_15 rfl rfl ls_0 ?_
  refine go_iload_n 17 dX0_start_16 rfl rfl (ls_s (ls_s (ls_s ls_0))) ?_
  refine gp_putI 20 dX0_start_17 rfl f_X0_20 rfl hk rfl rfl ?_
  refine go_aload_n 21 dX0_start_20 rfl rfl ls_0 ?_
  refine go_iload_n 22 dX0_start_21 rfl rfl (ls_s (ls_s (ls_s ls_0))) ?_
  refine gp_putI 25 dX0_start_22 rfl f_X0_23 rfl hk rfl rfl ?_
  refine go_aload_n 26 dX0_start_25 rfl rfl ls_0 ?_
  refine go_iconst 27 (v := 0) dX0_start_26 rfl (by decide) ?_
  refine gp_putI 30 dX0_start_27 rfl f_X0_26 rfl hk rfl rfl ?_
  refine go_aload_n 31 dX0_start_30 rfl rfl ls_0 ?_
  refine go_iconst 32 (v := 0) dX0_start_31 rfl (by decide) ?_
  refine gp_putI 35 dX0_start_32 rfl f_X0_29 rfl hk rfl rfl ?_
  exact go_ret_v dX0_start_35 rfl rfl rfl ⟨rfl, rfl⟩
set_option maxHeartbeats 4000000 in
set_option maxRecDepth 100000 in
theorem ct_enter (G : BcG) (gi : GI) (k q : Nat) (hk : tO k 0) (hq : tO q 6) (hne : q ≠ k) (s v t w l m : Int32) (hw : gi q 1 = w) (hl : gi q 2 = l) (hm : gi q 3 = m) : Ct G mX0_enter [.ref (G.1 + k), .int s, .ref (G.1 + q), .int v, .int t] (hp gi) (pV (hp (wI (wI (wI (wI (wI (wI gi k 7 s) k 8 v) k 9 t) k 10 (t + w)) k 11 (t + w + l)) k 12 (t + w + m)))) := by
  refine ct_of [some (.ref (G.1 + k)), some (.int s), some (.ref (G.1 + q)), some (.int v), some (.int t)] w_7 (by decide) rfl (Nat.le_of_ble_eq_true rfl) rfl ?_
  refine go_aload_n 1 dX0_enter_0 rfl rfl ls_0 ?_
  refine go_iload_n 2 dX0_enter_1 rfl rfl (ls_s ls_0) ?_
  refine gp_putI 5 dX0_enter_2 rfl f_X0_32 rfl hk rfl rfl ?_
  refine go_aload_n 6 dX0_enter_5 rfl rfl ls_0 ?_
  refine go_iload_n 7 dX0_enter_6 rfl rfl (ls_s (ls_s (ls_s ls_0))) ?_
  refine gp_putI 10 dX0_enter_7 rfl f_X0_35 rfl hk rfl rfl ?_
  refine go_aload_n 11 dX0_enter_10 rfl rfl ls_0 ?_
  refine go_iload 13 dX0_enter_11 rfl (ls_s (ls_s (ls_s (ls_s ls_0)))) ?_
  refine gp_putI 16 dX0_enter_13 rfl f_X0_38 rfl hk rfl rfl ?_
  refine go_aload_n 17 dX0_enter_16 rfl rfl ls_0 ?_
  refine go_iload 19 dX0_enter_17 rfl (ls_s (ls_s (ls_s (ls_s ls_0)))) ?_
  refine go_aload_n 20 dX0_enter_19 rfl rfl (ls_s (ls_s ls_0)) ?_
  refine gp_getI 23 dX0_enter_20 rfl f_X0_50 rfl hq ?_
  refine go_top (y := w) (by simp (disch := omega) only [wI_ne, wI_eq]; exact hw) ?_
  refine go_iadd 24 dX0_enter_23 rfl ?_
  refine gp_putI 27 dX0_enter_24 rfl f_X0_41 rfl hk rfl rfl ?_
  refine go_aload_n 28 dX0_enter_27 rfl rfl ls_0 ?_
  refine go_aload_n 29 dX0_enter_28 rfl rfl ls_0 ?_
  refine gp_getI 32 dX0_enter_29 rfl f_X0_41 rfl hk ?_
  refine go_top (y := (t + w)) (by simp (disch := omega) only [wI_ne, wI_eq]) ?_
  refine go_aload_n 33 dX0_enter_32 rfl rfl (ls_s (ls_s ls_0)) ?_
  refine gp_getI 36 dX0_enter_33 rfl f_X0_55 rfl hq ?_
  refine go_top (y := l) (by simp (disch := omega) only [wI_ne, wI_eq]; exact hl) ?_
  refine go_iadd 37 dX0_enter_36 rfl ?_
  refine gp_putI 40 dX0_enter_37 rfl f_X0_44 rfl hk rfl rfl ?_
  refine go_aload_n 41 dX0_enter_40 rfl rfl ls_0 ?_
  refine go_aload_n 42 dX0_enter_41 rfl rfl ls_0 ?_
  refine gp_getI 45 dX0_enter_42 rfl f_X0_41 rfl hk ?_
  refine go_top (y := (t + w)) (by simp (disch := omega) only [wI_ne, wI_eq]) ?_
  refine go_aload_n 46 dX0_enter_45 rfl rfl (ls_s (ls_s ls_0)) ?_
  refine gp_getI 49 dX0_enter_46 rfl f_X0_58 rfl hq ?_
  refine go_top (y := m) (by simp (disch := omega) only [wI_ne, wI_eq]; exact hm) ?_
  refine go_iadd 50 dX0_enter_49 rfl ?_
  refine gp_putI 53 dX0_enter_50 rfl f_X0_47 rfl hk rfl rfl ?_
  exact go_ret_v dX0_enter_53 rfl rfl rfl ⟨rfl, rfl⟩
set_option maxHeartbeats 4000000 in
set_option maxRecDepth 100000 in
theorem lp_lowest (G : BcG) {gi : GI} {P : Nat} (hP : isP P) {N : Nat} {A : AA} (h : Rel P A gi) (I : Inv N A) : ∀ (n i : Nat), i + n = 6 → BGo G mX3_lowestFreeNumber (KM G mX3_lowestFreeNumber 341 (pI (lw1 A i n) (hp gi))) (hp gi) 0 0 2 [some (.ref (G.1 + P)), some (.int (nI i))] [] := by
  intro n
  induction n with
  | zero =>
    intro i  hn 
    obtain rfl : i = 6 := by omega
    refine go_iload_n 3 dX3_lowestFreeNumber_2 rfl rfl (ls_s ls_0) ?_
    refine go_aload_n 4 dX3_lowestFreeNumber_3 rfl rfl ls_0 ?_
    refine gp_getR 7 dX3_lowestFreeNumber_4 rfl f_X3_31 rfl (tP hP) (rB hP) ?_
    refine gp_alen 8 (v := nI 6) dX3_lowestFreeNumber_7 rfl (aB hP) (by decide) (by decide) rfl ?_
    refine go_icmp_ge 31 11 dX3_lowestFreeNumber_8 (by decide) rfl (fun c_8 => ?_) (fun c_8 => absurd c_8 (by decide))
    refine go_iconst 32 (v := (-1)) dX3_lowestFreeNumber_31 rfl (by decide) ?_
    exact go_ret_i dX3_lowestFreeNumber_32 rfl rfl rfl (pI_of rfl rfl)
  | succ n ih =>
    intro i  hn 
    have hi : i < 6 := by omega
    refine go_iload_n 3 dX3_lowestFreeNumber_2 rfl rfl (ls_s ls_0) ?_
    refine go_aload_n 4 dX3_lowestFreeNumber_3 rfl rfl ls_0 ?_
    refine gp_getR 7 dX3_lowestFreeNumber_4 rfl f_X3_31 rfl (tP hP) (rB hP) ?_
    refine gp_alen 8 (v := nI 6) dX3_lowestFreeNumber_7 rfl (aB hP) (by decide) (by decide) rfl ?_
    refine go_icmp_ge 31 11 dX3_lowestFreeNumber_8 (by decide) rfl (fun c_8 => absurd c_8 (nI_ge hi (by decide))) (fun c_8 => ?_)
    refine go_aload_n 12 dX3_lowestFreeNumber_11 rfl rfl ls_0 ?_
    refine gp_getR 15 dX3_lowestFreeNumber_12 rfl f_X3_31 rfl (tP hP) (rB hP) ?_
    refine go_iload_n 16 dX3_lowestFreeNumber_15 rfl rfl (ls_s ls_0) ?_
    refine gp_aald 17 (i := i) dX3_lowestFreeNumber_16 rfl (aB hP) (by decide) rfl rfl hi (by decide) (rBi hP hi) ?_
    refine gp_getI 20 dX3_lowestFreeNumber_17 rfl f_X3_102 rfl (tB hP hi) ?_
    refine go_if_ne 25 23 dX3_lowestFreeNumber_20 (by decide) rfl (fun c_20 => ?_) (fun c_20 => ?_)
    · refine go_iinc 28 (v := (nI (i + 1))) dX3_lowestFreeNumber_25 rfl (ls_s ls_0) (by exact nI_1 i) (by decide) (st_s st_0) ?_
      refine go_goto 2 dX3_lowestFreeNumber_28 (by decide) ?_
      rw [show lw1 A i (n + 1) = lw1 A (i + 1) n from by rw [lw1, cIf_t ((live_iff h I hi).mp c_20)]]
      exact ih (i + 1) (by omega)
    · refine go_iload_n 24 dX3_lowestFreeNumber_23 rfl rfl (ls_s ls_0) ?_
      exact go_ret_i dX3_lowestFreeNumber_24 rfl rfl rfl (pI_of (by rw [lw1, cIf_f (fun z => (live_iff h I hi).mpr z c_20)]) rfl)
set_option maxHeartbeats 4000000 in
set_option maxRecDepth 100000 in
theorem ct_lowest (G : BcG) {gi : GI} {P : Nat} (hP : isP P) {N : Nat} {A : AA} (h : Rel P A gi) (I : Inv N A) : Ct G mX3_lowestFreeNumber [.ref (G.1 + P)] (hp gi) (pI (lw1 A 0 6) (hp gi)) := by
  refine ct_of [some (.ref (G.1 + P)), none] w_2 (by decide) rfl (Nat.le_of_ble_eq_true rfl) rfl ?_
  refine go_iconst 1 (v := 0) dX3_lowestFreeNumber_0 rfl (by decide) ?_
  refine go_istore_n 2 dX3_lowestFreeNumber_1 rfl rfl (by decide) (st_s st_0) ?_
  exact lp_lowest G hP h I 6 0 rfl
theorem ct_lowestE (G : BcG) {gi : GI} {P : Nat} (hP : isP P) {N : Nat} {A : AA} (h : Rel P A gi) (I : Inv N A) {x : Int32} (e : lw1 A 0 6 = x) : Ct G mX3_lowestFreeNumber [.ref (G.1 + P)] (hp gi) (pI x (hp gi)) := by
  subst e
  exact ct_lowest G hP h I
set_option maxHeartbeats 4000000 in
set_option maxRecDepth 100000 in
theorem ct_beginBatch (G : BcG) (gi : GI) {P : Nat} (hP : isP P) {N : Nat} {A : AA} (h : Rel P A gi) (I : Inv N A) (x m y : Int32) : Ct G mX3_beginBatch [.ref (G.1 + P), .int x, .int m, .int y] (hp gi) (pOp P gi (fBegin A x m y)) := by
  refine ct_of [some (.ref (G.1 + P)), some (.int x), some (.int m), some (.int y), none, none, none, none, none] w_2 (by decide) rfl (Nat.le_of_ble_eq_true rfl) rfl ?_
  refine go_aload_n 1 dX3_beginBatch_0 rfl rfl ls_0 ?_
  refine go_iload_n 2 dX3_beginBatch_1 rfl rfl (ls_s ls_0) ?_
  refine go_V (M' := mX3_recipeAt) 5 dX3_beginBatch_2 rfl w_362 okX3_recipeAt ⟨Nat.le_of_ble_eq_true rfl, Nat.le_of_ble_eq_true rfl⟩ rfl rfl (Nat.le_of_ble_eq_true rfl) (Nat.le_of_ble_eq_true rfl) (ct_recipeAt G gi hP _ (nR A) (h.1.1.trans I.eR) I.nR4) rfl rfl (Nat.le_of_ble_eq_true rfl) (tP hP) (by decide) rfl (fun v_2 h_2 p_2 => ?_)
  simp only [pAt] at p_2
  obtain ⟨rfl, ⟨r_2, hr_2, hx_2, hc_2, rfl⟩ | ⟨hno_2, rfl⟩⟩ := p_2
  · subst hx_2
    have hr4 : r_2 < 4 := Nat.lt_of_lt_of_le hr_2 I.nR4
    have hR := h.2.1 r_2 hr4
    have eS := hR.2.1.trans (I.eS hr4)
    refine go_astore 7 dX3_beginBatch_5 rfl (by decide) (st_s (st_s (st_s (st_s st_0)))) ?_
    refine go_aload_n 8 dX3_beginBatch_7 rfl rfl ls_0 ?_
    refine go_iload_n 9 dX3_beginBatch_8 rfl rfl (ls_s (ls_s (ls_s ls_0))) ?_
    refine go_V (M' := mX3_vesselAt) 12 dX3_beginBatch_9 rfl w_395 okX3_vesselAt ⟨Nat.le_of_ble_eq_true rfl, Nat.le_of_ble_eq_true rfl⟩ rfl rfl (Nat.le_of_ble_eq_true rfl) (Nat.le_of_ble_eq_true rfl) (ct_vesselAt G gi hP _ (nV A) (h.1.2.1.trans I.eV) I.nV6) rfl rfl (Nat.le_of_ble_eq_true rfl) (tP hP) (by decide) rfl (fun v_9 h_9 p_9 => ?_)
    simp only [pAt] at p_9
    obtain ⟨rfl, ⟨r_9, hr_9, hx_9, hc_9, rfl⟩ | ⟨hno_9, rfl⟩⟩ := p_9
    · subst hx_9
      have hv6 : r_9 < 6 := Nat.lt_of_lt_of_le hr_9 I.nV6
      have hV := (h.2.2.1 r_9 hv6).1 hr_9
      refine go_astore 14 dX3_beginBatch_12 rfl (by decide) (st_s (st_s (st_s (st_s (st_s st_0))))) ?_
      refine go_aload 16 dX3_beginBatch_14 rfl (ls_s (ls_s (ls_s (ls_s ls_0)))) ?_
      refine go_ifnull 19 dX3_beginBatch_16 rfl ?_
      refine go_aload 21 dX3_beginBatch_19 rfl (ls_s (ls_s (ls_s (ls_s (ls_s ls_0))))) ?_
      refine go_ifnull 24 dX3_beginBatch_21 rfl ?_
      refine go_iload_n 25 dX3_beginBatch_24 rfl rfl (ls_s (ls_s ls_0)) ?_
      refine go_iconst 26 (v := 1) dX3_beginBatch_25 rfl (by decide) ?_
      refine go_sipush 29 (v := 999) dX3_beginBatch_26 rfl (by decide) ?_
      refine go_TI (M' := mX8_isWithin) 32 dX3_beginBatch_29 rfl x_X3_106 okX8_isWithin ⟨Nat.le_of_ble_eq_true rfl, Nat.le_of_ble_eq_true rfl⟩ (ct_isWithin G gi _ _ _) rfl rfl (kk := ?_)
      refine go_ifne_b 37 35 dX3_beginBatch_32 (by decide) rfl (fun c_32 => ?_) (fun c_32 => ?_)
      · obtain ⟨mm, hm1, hm2, rfl⟩ := in999 c_32
        refine go_aload 39 dX3_beginBatch_37 rfl (ls_s (ls_s (ls_s (ls_s ls_0)))) ?_
        by_cases hs : 0 < nS A r_2
        · refine go_iconst 40 (v := 0) dX3_beginBatch_39 rfl (by decide) ?_
          refine go_VA (M' := mX4_stageAt) 43 dX3_beginBatch_40 rfl w_383 okX4_stageAt ⟨Nat.le_of_ble_eq_true rfl, Nat.le_of_ble_eq_true rfl⟩ (Ct.weak (ct_stageAt G gi hP hr4 _ (nS A r_2) eS (I.nS4 hr4)) (pAt_y (n := nS A r_2) (f := fun q => P + 10 + 6 * r_2 + q) (c := fun _ => True) (by have := I.nS4 hr4; omega) hs trivial)) rfl rfl (tR hP hr4) (by decide) rfl (kk := ?_)
          refine go_astore 45 dX3_beginBatch_43 rfl (by decide) (st_s (st_s (st_s (st_s (st_s (st_s st_0)))))) ?_
          rcases lw1_F A 6 0 with hlw | hlw
          · refine go_aload_n 46 dX3_beginBatch_45 rfl rfl ls_0 ?_
            refine go_VI (M' := mX3_lowestFreeNumber) 49 dX3_beginBatch_46 rfl w_447 okX3_lowestFreeNumber ⟨Nat.le_of_ble_eq_true rfl, Nat.le_of_ble_eq_true rfl⟩ (ct_lowestE G hP h I hlw.2.1) rfl rfl (tP hP) (by decide) rfl (kk := ?_)
            refine go_istore 51 dX3_beginBatch_49 rfl (by decide) (st_s (st_s (st_s (st_s (st_s (st_s (st_s st_0))))))) ?_
            refine go_aload 53 dX3_beginBatch_51 rfl (ls_s (ls_s (ls_s (ls_s (ls_s (ls_s ls_0)))))) ?_
            refine go_ifnull 56 dX3_beginBatch_53 rfl ?_
            refine go_aload 58 dX3_beginBatch_56 rfl (ls_s (ls_s (ls_s (ls_s (ls_s ls_0))))) ?_
            refine go_aload 60 dX3_beginBatch_58 rfl (ls_s (ls_s (ls_s (ls_s (ls_s (ls_s ls_0)))))) ?_
            refine gp_getI 63 dX3_beginBatch_60 rfl f_X3_128 rfl (tS hP hr4 (by decide)) ?_
            refine go_top (y := (stg A r_2 0 0)) (hR.2.2 0 (by decide)).1 ?_
            refine go_iload_n 64 dX3_beginBatch_63 rfl rfl (ls_s (ls_s ls_0)) ?_
            refine go_VI (M' := mX7_canTake) 67 dX3_beginBatch_64 rfl w_451 okX7_canTake ⟨Nat.le_of_ble_eq_true rfl, Nat.le_of_ble_eq_true rfl⟩ (ct_canTakeA G hP h I hr_9 hv6 _ _) rfl rfl (tV hP hv6) (by decide) rfl (kk := ?_)
            refine go_ifeq_b 86 70 dX3_beginBatch_67 (by decide) rfl (fun c_67 => ?_) (fun c_67 => ?_)
            · refine go_bipush 88 (v := (-2)) dX3_beginBatch_86 rfl (by decide) ?_
              exact go_ret_i dX3_beginBatch_88 rfl rfl rfl (pOp_e (fBegin_2 ⟨isRec_n hr_2, c_32, isVes_n hr_9⟩ (fun z => c_67 (by have := z.2; rw [iN_n (by omega), iN_n (by omega)] at this; exact this))) h)
            · refine go_iload 72 dX3_beginBatch_70 rfl (ls_s (ls_s (ls_s (ls_s (ls_s (ls_s (ls_s ls_0))))))) ?_
              refine go_iconst 73 (v := 0) dX3_beginBatch_72 rfl (by decide) ?_
              refine go_aload_n 74 dX3_beginBatch_73 rfl rfl ls_0 ?_
              refine gp_getR 77 dX3_beginBatch_74 rfl f_X3_31 rfl (tP hP) (rB hP) ?_
              refine gp_alen 78 (v := nI 6) dX3_beginBatch_77 rfl (aB hP) (by decide) (by decide) rfl ?_
              refine go_iconst 79 (v := 1) dX3_beginBatch_78 rfl (by decide) ?_
              refine go_isub 80 dX3_beginBatch_79 rfl ?_
              refine go_TI (M' := mX8_isWithin) 83 dX3_beginBatch_80 rfl x_X3_106 okX8_isWithin ⟨Nat.le_of_ble_eq_true rfl, Nat.le_of_ble_eq_true rfl⟩ (ct_isWithin G gi _ _ _) rfl rfl (kk := ?_)
              refine go_ifne_b 89 86 dX3_beginBatch_83 (by decide) rfl (fun c_83 => ?_) (fun c_83 => ?_)
              · have hcm := cm_rel' (x := A (31 + 18 * r_2)) hV.2.2.2.1 h.2.2.2.2.2.1 (I.2.2.2.1 r_9 hv6).2.2.2.1 (I.2.2.1 r_2 hr4).1
                have hb6 : lowF A 0 6 < 6 := hlw.1
                refine go_aload_n 90 dX3_beginBatch_89 rfl rfl ls_0 ?_
                refine gp_getI 93 dX3_beginBatch_90 rfl f_X3_71 rfl (tP hP) ?_
                refine go_top (y := (A 5)) h.1.2.2.2.1 ?_
                refine go_aload_n 94 dX3_beginBatch_93 rfl rfl ls_0 ?_
                refine go_aload 96 dX3_beginBatch_94 rfl (ls_s (ls_s (ls_s (ls_s (ls_s ls_0))))) ?_
                refine go_iload 98 dX3_beginBatch_96 rfl (ls_s (ls_s (ls_s (ls_s (ls_s (ls_s (ls_s ls_0))))))) ?_
                refine go_aload 100 dX3_beginBatch_98 rfl (ls_s (ls_s (ls_s (ls_s ls_0)))) ?_
                refine gp_getI 103 dX3_beginBatch_100 rfl f_X3_114 rfl (tR hP hr4) ?_
                refine go_top (y := (A (31 + 18 * r_2))) hR.1 ?_
                refine go_VI (M' := mX3_occupy) 106 dX3_beginBatch_103 rfl w_459 okX3_occupy ⟨Nat.le_of_ble_eq_true rfl, Nat.le_of_ble_eq_true rfl⟩ (ct_occupyA G gi hP hv6 _ _ hcm (by rw [hV.2.2.2.2])) rfl rfl (tP hP) (by decide) rfl (kk := ?_)
                refine go_iadd 107 dX3_beginBatch_106 rfl ?_
                refine go_istore 109 dX3_beginBatch_107 rfl (by decide) (st_s (st_s (st_s (st_s (st_s (st_s (st_s (st_s st_0)))))))) ?_
                refine go_aload_n 110 dX3_beginBatch_109 rfl rfl ls_0 ?_
                refine gp_getR 113 dX3_beginBatch_110 rfl f_X3_31 rfl (tP hP) (rB hP) ?_
                refine go_iload 115 dX3_beginBatch_113 rfl (ls_s (ls_s (ls_s (ls_s (ls_s (ls_s (ls_s ls_0))))))) ?_
                refine gp_aald 116 (i := (lowF A 0 6)) dX3_beginBatch_115 rfl (aB hP) (by decide) rfl rfl hb6 (by decide) (rBi hP hb6) ?_
                refine go_iload_n 117 dX3_beginBatch_116 rfl rfl (ls_s ls_0) ?_
                refine go_aload 119 dX3_beginBatch_117 rfl (ls_s (ls_s (ls_s (ls_s ls_0)))) ?_
                refine gp_getI 122 dX3_beginBatch_119 rfl f_X3_114 rfl (tR hP hr4) ?_
                refine go_top (y := (A (31 + 18 * r_2))) (by simp (disch := omega) only [wI_ne, wI_eq]; exact hR.1) ?_
                refine go_iload_n 123 dX3_beginBatch_122 rfl rfl (ls_s (ls_s ls_0)) ?_
                refine go_VN (M' := mX0_start) 126 dX3_beginBatch_123 rfl w_467 okX0_start ⟨Nat.le_of_ble_eq_true rfl, Nat.le_of_ble_eq_true rfl⟩ (ct_start G (wI (wI (wI gi (P + 32 + r_9) 4 (A (103 + 5 * r_9 + 4) + clF A r_9 (A (31 + 18 * r_2)))) (P + 32 + r_9) 2 (nI (lowF A 0 6))) (P + 32 + r_9) 3 (A (31 + 18 * r_2))) _ (tB hP hb6) _ _ _) rfl rfl (tB hP hb6) (by decide) rfl (kk := ?_)
                refine go_aload_n 127 dX3_beginBatch_126 rfl rfl ls_0 ?_
                refine gp_getR 130 dX3_beginBatch_127 rfl f_X3_31 rfl (tP hP) (rB hP) ?_
                refine go_iload 132 dX3_beginBatch_130 rfl (ls_s (ls_s (ls_s (ls_s (ls_s (ls_s (ls_s ls_0))))))) ?_
                refine gp_aald 133 (i := (lowF A 0 6)) dX3_beginBatch_132 rfl (aB hP) (by decide) rfl rfl hb6 (by decide) (rBi hP hb6) ?_
                refine go_iconst 134 (v := 0) dX3_beginBatch_133 rfl (by decide) ?_
                refine go_aload 136 dX3_beginBatch_134 rfl (ls_s (ls_s (ls_s (ls_s (ls_s (ls_s ls_0)))))) ?_
                refine go_iload_n 137 dX3_beginBatch_136 rfl rfl (ls_s (ls_s (ls_s ls_0))) ?_
                refine go_iload 139 dX3_beginBatch_137 rfl (ls_s (ls_s (ls_s (ls_s (ls_s (ls_s (ls_s (ls_s ls_0)))))))) ?_
                refine go_VN (M' := mX0_enter) 142 dX3_beginBatch_139 rfl w_471 okX0_enter ⟨Nat.le_of_ble_eq_true rfl, Nat.le_of_ble_eq_true rfl⟩ (ct_enter G (wI (wI (wI (wI (wI (wI (wI (wI (wI (wI gi (P + 32 + r_9) 4 (A (103 + 5 * r_9 + 4) + clF A r_9 (A (31 + 18 * r_2)))) (P + 32 + r_9) 2 (nI (lowF A 0 6))) (P + 32 + r_9) 3 (A (31 + 18 * r_2))) (P + 41 + (lowF A 0 6)) 0 1) (P + 41 + (lowF A 0 6)) 1 (nI r_2)) (P + 41 + (lowF A 0 6)) 2 (A (31 + 18 * r_2))) (P + 41 + (lowF A 0 6)) 3 (nI mm)) (P + 41 + (lowF A 0 6)) 4 (nI mm)) (P + 41 + (lowF A 0 6)) 5 0) (P + 41 + (lowF A 0 6)) 6 0) _ _ (tB hP hb6) (tS hP hr4 (by decide)) (by omega) _ _ ((A 5) + (clF A r_9 (A (31 + 18 * r_2)))) (stg A r_2 0 1) (stg A r_2 0 2) (stg A r_2 0 3) (by simp (disch := omega) only [wI_ne, wI_eq]; exact (hR.2.2 0 (by decide)).2.1) (by simp (disch := omega) only [wI_ne, wI_eq]; exact (hR.2.2 0 (by decide)).2.2.1) (by simp (disch := omega) only [wI_ne, wI_eq]; exact (hR.2.2 0 (by decide)).2.2.2)) rfl rfl (tB hP hb6) (by decide) rfl (kk := ?_)
                refine go_aload_n 143 dX3_beginBatch_142 rfl rfl ls_0 ?_
                refine go_dup 144 dX3_beginBatch_143 rfl rfl ?_
                refine gp_getI 147 dX3_beginBatch_144 rfl f_X3_74 rfl (tP hP) ?_
                refine go_top (y := (A 6)) (by simp (disch := omega) only [wI_ne, wI_eq]; exact h.1.2.2.2.2.1) ?_
                refine go_iload_n 148 dX3_beginBatch_147 rfl rfl (ls_s (ls_s ls_0)) ?_
                refine go_iadd 149 dX3_beginBatch_148 rfl ?_
                refine gp_putI 152 dX3_beginBatch_149 rfl f_X3_74 rfl (tP hP) rfl rfl ?_
                refine go_iload 154 dX3_beginBatch_152 rfl (ls_s (ls_s (ls_s (ls_s (ls_s (ls_s (ls_s ls_0))))))) ?_
                exact go_ret_i dX3_beginBatch_154 rfl rfl rfl (pOp_m ((fBegin_y ⟨isRec_n hr_2, c_32, isVes_n hr_9⟩ ⟨by rw [iN_n (by omega), I.eS hr4]; exact nI_ne0 hs (by have := I.nS4 hr4; omega), by rw [iN_n (by omega), iN_n (by omega)]; exact c_67⟩).trans (by rw [iN_n (by omega), iN_n (by omega), iN_n (by omega)]; rfl)) (rel_begin h I hr_2 hr_9 hlw.1) (by repeat (first | exact Out.rf _ _ | refine Out.wI ?_ (by omega) (by omega))))
              · refine go_bipush 88 (v := (-2)) dX3_beginBatch_86 rfl (by decide) ?_
                exact go_ret_i dX3_beginBatch_88 rfl rfl rfl (absurd ⟨nI_pos' (by omega), by rw [show nI 6 - 1 = nI 5 from by decide]; exact (nI_leI (by omega) (by decide)).mpr (by omega)⟩ c_83)
          · refine go_aload_n 46 dX3_beginBatch_45 rfl rfl ls_0 ?_
            refine go_VI (M' := mX3_lowestFreeNumber) 49 dX3_beginBatch_46 rfl w_447 okX3_lowestFreeNumber ⟨Nat.le_of_ble_eq_true rfl, Nat.le_of_ble_eq_true rfl⟩ (ct_lowestE G hP h I hlw.2.1) rfl rfl (tP hP) (by decide) rfl (kk := ?_)
            refine go_istore 51 dX3_beginBatch_49 rfl (by decide) (st_s (st_s (st_s (st_s (st_s (st_s (st_s st_0))))))) ?_
            refine go_aload 53 dX3_beginBatch_51 rfl (ls_s (ls_s (ls_s (ls_s (ls_s (ls_s ls_0)))))) ?_
            refine go_ifnull 56 dX3_beginBatch_53 rfl ?_
            refine go_aload 58 dX3_beginBatch_56 rfl (ls_s (ls_s (ls_s (ls_s (ls_s ls_0))))) ?_
            refine go_aload 60 dX3_beginBatch_58 rfl (ls_s (ls_s (ls_s (ls_s (ls_s (ls_s ls_0)))))) ?_
            refine gp_getI 63 dX3_beginBatch_60 rfl f_X3_128 rfl (tS hP hr4 (by decide)) ?_
            refine go_top (y := (stg A r_2 0 0)) (hR.2.2 0 (by decide)).1 ?_
            refine go_iload_n 64 dX3_beginBatch_63 rfl rfl (ls_s (ls_s ls_0)) ?_
            refine go_VI (M' := mX7_canTake) 67 dX3_beginBatch_64 rfl w_451 okX7_canTake ⟨Nat.le_of_ble_eq_true rfl, Nat.le_of_ble_eq_true rfl⟩ (ct_canTakeA G hP h I hr_9 hv6 _ _) rfl rfl (tV hP hv6) (by decide) rfl (kk := ?_)
            refine go_ifeq_b 86 70 dX3_beginBatch_67 (by decide) rfl (fun c_67 => ?_) (fun c_67 => ?_)
            · refine go_bipush 88 (v := (-2)) dX3_beginBatch_86 rfl (by decide) ?_
              exact go_ret_i dX3_beginBatch_88 rfl rfl rfl (pOp_e (fBegin_2 ⟨isRec_n hr_2, c_32, isVes_n hr_9⟩ (fun z => c_67 (by have := z.2; rw [iN_n (by omega), iN_n (by omega)] at this; exact this))) h)
            · exact absurd hlw.2.2 (pig I hr_9 c_67.1)
        · refine go_iconst 40 (v := 0) dX3_beginBatch_39 rfl (by decide) ?_
          refine go_VZ (M' := mX4_stageAt) 43 dX3_beginBatch_40 rfl w_383 okX4_stageAt ⟨Nat.le_of_ble_eq_true rfl, Nat.le_of_ble_eq_true rfl⟩ (Ct.weak (ct_stageAt G gi hP hr4 _ (nS A r_2) eS (I.nS4 hr4)) (pAt_n (nt (fun ⟨q, hq, _⟩ => hs (by omega))))) rfl rfl (tR hP hr4) (by decide) rfl (kk := ?_)
          refine go_astoreN 45 dX3_beginBatch_43 rfl (by decide) (st_s (st_s (st_s (st_s (st_s (st_s st_0)))))) ?_
          rcases lw1_F A 6 0 with hlw | hlw
          · refine go_aload_n 46 dX3_beginBatch_45 rfl rfl ls_0 ?_
            refine go_VI (M' := mX3_lowestFreeNumber) 49 dX3_beginBatch_46 rfl w_447 okX3_lowestFreeNumber ⟨Nat.le_of_ble_eq_true rfl, Nat.le_of_ble_eq_true rfl⟩ (ct_lowestE G hP h I hlw.2.1) rfl rfl (tP hP) (by decide) rfl (kk := ?_)
            refine go_istore 51 dX3_beginBatch_49 rfl (by decide) (st_s (st_s (st_s (st_s (st_s (st_s (st_s st_0))))))) ?_
            refine go_aloadN 53 dX3_beginBatch_51 rfl (ls_s (ls_s (ls_s (ls_s (ls_s (ls_s ls_0)))))) ?_
            refine go_ifnullN 86 dX3_beginBatch_53 (by decide) ?_
            refine go_bipush 88 (v := (-2)) dX3_beginBatch_86 rfl (by decide) ?_
            exact go_ret_i dX3_beginBatch_88 rfl rfl rfl (pOp_e (fBegin_2 ⟨isRec_n hr_2, c_32, isVes_n hr_9⟩ (fun z => hs (by have := z.1; rw [iN_n (by omega), I.eS hr4] at this; rcases Nat.eq_zero_or_pos (nS A r_2) with q | q; exact absurd (by rw [q]; rfl) this; exact q))) h)
          · refine go_aload_n 46 dX3_beginBatch_45 rfl rfl ls_0 ?_
            refine go_VI (M' := mX3_lowestFreeNumber) 49 dX3_beginBatch_46 rfl w_447 okX3_lowestFreeNumber ⟨Nat.le_of_ble_eq_true rfl, Nat.le_of_ble_eq_true rfl⟩ (ct_lowestE G hP h I hlw.2.1) rfl rfl (tP hP) (by decide) rfl (kk := ?_)
            refine go_istore 51 dX3_beginBatch_49 rfl (by decide) (st_s (st_s (st_s (st_s (st_s (st_s (st_s st_0))))))) ?_
            refine go_aloadN 53 dX3_beginBatch_51 rfl (ls_s (ls_s (ls_s (ls_s (ls_s (ls_s ls_0)))))) ?_
            refine go_ifnullN 86 dX3_beginBatch_53 (by decide) ?_
            refine go_bipush 88 (v := (-2)) dX3_beginBatch_86 rfl (by decide) ?_
            exact go_ret_i dX3_beginBatch_88 rfl rfl rfl (pOp_e (fBegin_2 ⟨isRec_n hr_2, c_32, isVes_n hr_9⟩ (fun z => hs (by have := z.1; rw [iN_n (by omega), I.eS hr4] at this; rcases Nat.eq_zero_or_pos (nS A r_2) with q | q; exact absurd (by rw [q]; rfl) this; exact q))) h)
      · refine go_iconst 36 (v := (-1)) dX3_beginBatch_35 rfl (by decide) ?_
        exact go_ret_i dX3_beginBatch_36 rfl rfl rfl (pOp_e (fBegin_1 (fun z => c_32 z.2.1)) h)
    · refine go_astoreN 14 dX3_beginBatch_12 rfl (by decide) (st_s (st_s (st_s (st_s (st_s st_0))))) ?_
      refine go_aload 16 dX3_beginBatch_14 rfl (ls_s (ls_s (ls_s (ls_s ls_0)))) ?_
      refine go_ifnull 19 dX3_beginBatch_16 rfl ?_
      refine go_aloadN 21 dX3_beginBatch_19 rfl (ls_s (ls_s (ls_s (ls_s (ls_s ls_0))))) ?_
      refine go_ifnullN 35 dX3_beginBatch_21 (by decide) ?_
      refine go_iconst 36 (v := (-1)) dX3_beginBatch_35 rfl (by decide) ?_
      exact go_ret_i dX3_beginBatch_36 rfl rfl rfl (pOp_e (fBegin_1 (fun z => hno_9 (z.2.2.elim fun r hr => ⟨r, hr.1, hr.2, trivial⟩))) h)
  · refine go_astoreN 7 dX3_beginBatch_5 rfl (by decide) (st_s (st_s (st_s (st_s st_0)))) ?_
    refine go_aload_n 8 dX3_beginBatch_7 rfl rfl ls_0 ?_
    refine go_iload_n 9 dX3_beginBatch_8 rfl rfl (ls_s (ls_s (ls_s ls_0))) ?_
    refine go_V (M' := mX3_vesselAt) 12 dX3_beginBatch_9 rfl w_395 okX3_vesselAt ⟨Nat.le_of_ble_eq_true rfl, Nat.le_of_ble_eq_true rfl⟩ rfl rfl (Nat.le_of_ble_eq_true rfl) (Nat.le_of_ble_eq_true rfl) (ct_vesselAt G gi hP _ (nV A) (h.1.2.1.trans I.eV) I.nV6) rfl rfl (Nat.le_of_ble_eq_true rfl) (tP hP) (by decide) rfl (fun v_9 h_9 p_9 => ?_)
    simp only [pAt] at p_9
    obtain ⟨rfl, ⟨r_9, hr_9, hx_9, hc_9, rfl⟩ | ⟨hno_9, rfl⟩⟩ := p_9
    · subst hx_9
      have hv6 : r_9 < 6 := Nat.lt_of_lt_of_le hr_9 I.nV6
      have hV := (h.2.2.1 r_9 hv6).1 hr_9
      refine go_astore 14 dX3_beginBatch_12 rfl (by decide) (st_s (st_s (st_s (st_s (st_s st_0))))) ?_
      refine go_aloadN 16 dX3_beginBatch_14 rfl (ls_s (ls_s (ls_s (ls_s ls_0)))) ?_
      refine go_ifnullN 35 dX3_beginBatch_16 (by decide) ?_
      refine go_iconst 36 (v := (-1)) dX3_beginBatch_35 rfl (by decide) ?_
      exact go_ret_i dX3_beginBatch_36 rfl rfl rfl (pOp_e (fBegin_1 (fun z => hno_2 (z.1.elim fun r hr => ⟨r, hr.1, hr.2, trivial⟩))) h)
    · refine go_astoreN 14 dX3_beginBatch_12 rfl (by decide) (st_s (st_s (st_s (st_s (st_s st_0))))) ?_
      refine go_aloadN 16 dX3_beginBatch_14 rfl (ls_s (ls_s (ls_s (ls_s ls_0)))) ?_
      refine go_ifnullN 35 dX3_beginBatch_16 (by decide) ?_
      refine go_iconst 36 (v := (-1)) dX3_beginBatch_35 rfl (by decide) ?_
      exact go_ret_i dX3_beginBatch_36 rfl rfl rfl (pOp_e (fBegin_1 (fun z => hno_2 (z.1.elim fun r hr => ⟨r, hr.1, hr.2, trivial⟩))) h)
