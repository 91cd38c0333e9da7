/-! INV IS KEPT: batches -/
section OK2
variable {N : Nat} {A : AA}
theorem inv_begin (I : Inv N A) (hN : N + 99 < 100000000) {r v b k : Nat} (hr : r < nR A) (hv : v < nV A) (hb : b < 6) (hnl : ¬ live A b) (hk : k ≤ 999) (hs : 0 < nS A r) (hh : A (103 + 5 * v + 2) < 0) : Inv (N + 99) (beginA A r k v b) := by
  have hr4 : r < 4 := Nat.lt_of_lt_of_le hr I.nR4
  have hv6 : v < 6 := Nat.lt_of_lt_of_le hv I.nV6
  obtain ⟨c0, hc0, ec⟩ := clF_n I hv6 (I.2.2.1 r hr4).1
  have hfree := fun c (hc : c < 6) (lc : live A c) => I.free hh hc lc
  obtain ⟨h1, h2, h3, h4, h5, h6, h7, h8⟩ := I
  have hcl := (h4 v hv6).2.2.2.2
  have ht := h1.2.2.2.1
  have e4 : A (103 + 5 * v + 4) + nI c0 = nI (iN (A (103 + 5 * v + 4)) + c0) := by conv => lhs; rw [hcl.1, nI_add]
  have e5 : A 5 + nI c0 = nI (iN (A 5) + c0) := by conv => lhs; rw [ht.1, nI_add]
  simp only [beginA, ec, e4, e5]
  refine ⟨invS_c h1 (fun j q1 => ?_), invT_c h2 (fun j q1 q2 => ?_), invR_c h3 (fun j q1 q2 => ?_), fun w hw => ?_, invL_c h5 ?_ (fun j q1 q2 => ?_), invB_d h1 h6 hb (fun j q1 q2 q3 => ?_) ?_ ?_ (fun j q1 q2 => ?_) (fun c hc hcb lc => ?_) (Or.inr ?_) (fun hl => ?_), fun j hj => ?_, hN⟩
  · simp (disch := omega) only [upd_ne]
  · simp (disch := omega) only [upd_ne]
  · simp (disch := omega) only [upd_ne]
  · obtain ⟨k1, k2, k3, k4, k5⟩ := h4 w hw
    by_cases e : w = v
    · subst e
      simp (disch := omega) only [upd_ne, upd_eq]
      exact ⟨k1, k2, Or.inr (bd_n (by omega) (by decide)), Or.inr (h3 r hr4).1, bd_n (by have := k5.2; omega) (by have := k5.2; omega)⟩
    · simp (disch := omega) only [upd_ne, upd_eq]
      exact ⟨k1, k2, k3, k4, bd_mono k5 (by omega)⟩
  · simp (disch := omega) only [upd_ne]
  · simp (disch := omega) only [upd_ne]
  · simp (disch := omega) only [upd_ne]
  · simp (disch := omega) only [upd_ne]
  · simp (disch := omega) only [upd_ne]
  · simp (disch := omega) only [upd_ne]
  · have := hfree c hc lc
    have : bV A c < 6 := Nat.lt_of_lt_of_le ((h6 c hc).2 lc).2.2.1.2.1 h1.2.1.2
    simp (disch := omega) only [upd_ne]
  · simp (disch := omega) only [upd_ne, upd_eq]
  · unfold InvB1 bR bS bV nS nR nV
    have i0 : iN (0 : Int32) = 0 := rfl
    simp (disch := omega) only [upd_ne, upd_eq, iN_n, i0]
    exact ⟨⟨trivial, hr⟩, ⟨rfl, hs⟩, ⟨trivial, hv, trivial⟩, bd_n hk (by decide), bd_n (by have := ht.2; omega) (by have := ht.2; omega), bd_0 _, bd_0 _, bd_n hk (by decide)⟩
  · simp (disch := omega) only [upd_ne]; exact h7 j hj
theorem ok_begin (x m y : Int32) (I : Inv N A) (hN : N + 99 < 100000000) : okR N A (fBegin A x m y) := by
  by_cases h : isRec A x ∧ inR m 1 999 ∧ isVes A y
  · by_cases h2 : ¬ A (31 + 18 * iN x + 1) = 0 ∧ tkF A (iN y) (stg A (iN x) 0 0) m
    · have e := fBegin_y h h2
      obtain ⟨⟨r, hr, rfl⟩, hm, v, hv, rfl⟩ := h
      obtain ⟨k, hk1, hk9, rfl⟩ := in999 hm
      have hr4 : r < 4 := Nat.lt_of_lt_of_le hr I.nR4
      have hv6 : v < 6 := Nat.lt_of_lt_of_le hv I.nV6
      rw [iN_n (by omega), iN_n (by omega), iN_n (by omega)] at e
      rw [iN_n (by omega), iN_n (by omega)] at h2
      obtain ⟨q1, q2, q3⟩ := low_y I hv h2.2.1
      refine okR_m e (nI_pos (by omega)) (inv_begin I hN hr hv q1 q3 hk9 (Nat.pos_of_ne_zero (fun z => h2.1 (by rw [I.eS hr4, z]; rfl))) h2.2.1)
    · exact okR_e I hN (fBegin_2 h h2)
  · exact okR_e I hN (fBegin_1 h)
theorem ls_n {m q : Nat} (hm : m ≤ 999) (hq : q ≤ 100) : nI m * nI q / 1000 = nI (m * q / 1000) ∧ m * q / 1000 ≤ m ∧ nI m - nI (m * q / 1000) = nI (m - m * q / 1000) := by
  have hle : m * q ≤ m * 100 := Nat.mul_le_mul_left _ hq
  have h3 : m * q / 1000 ≤ m := by
    have : m * q / 1000 ≤ m * 100 / 1000 := Nat.div_le_div_right hle
    omega
  refine ⟨?_, h3, ?_⟩
  · rw [pk_mul, show (1000 : Int32) = nI 1000 from rfl, pk_div (by omega) (by decide) (by decide)]
  · rw [pk_sub h3]
theorem inv_move (I : Inv N A) (hN : N + 99 < 100000000) {v b k : Nat} (hv : v < nV A) (hb : b < 6) (hl : live A b) (hk : k < nL A) (hc : ltC A b v) : Inv (N + 99) (moveA A b v k) := by
  have hv6 : v < 6 := Nat.lt_of_lt_of_le hv I.nV6
  have hk3 : k < 3 := Nat.lt_of_lt_of_le hk I.nL3
  have hr4 := I.bR4 hb hl
  have hw6 := I.bV6 hb hl
  have hs4 := I.bS4 hb hl
  have i := I.b1 hb hl
  obtain ⟨c0, hc0, ec⟩ := clF_n I hv6 (I.2.2.1 _ hr4).1
  obtain ⟨t0, ht0, et⟩ := mtF_n I hb hl hv6 hk
  have hfree := fun c (hc' : c < 6) (lc : live A c) => I.free hc.2.2.1 hc' lc
  have hap := fun c (hc' : c < 6) (lc : live A c) (h : c ≠ b) => I.apart hb hc' hl lc h
  have hvb : bV A b ≠ v := hfree b hb hl
  have ePr : prF A b = A (31 + 18 * bR A b) := rfl
  rw [← ePr] at ec
  obtain ⟨h1, h2, h3, h4, h5, h6, h7, h8⟩ := I
  have hcl := (h4 v hv6).2.2.2.2
  have ht := h1.2.2.2.1
  have hm := i.2.2.2.1
  have hq := h1.2.2.2.2.1
  have e4 : A (103 + 5 * v + 4) + nI c0 = nI (iN (A (103 + 5 * v + 4)) + c0) := by conv => lhs; rw [hcl.1, nI_add]
  have e5 : A 5 + nI t0 = nI (iN (A 5) + t0) := by conv => lhs; rw [ht.1, nI_add]
  obtain ⟨l1, l2, l3⟩ := ls_n hm.2 hq.2
  have els : lsF A (A (145 + 9 * b + 2)) = nI (iN (A (145 + 9 * b + 2)) * iN (A 0) / 1000) := by rw [lsF]; conv => lhs; rw [hm.1, hq.1, l1]
  have emm : A (145 + 9 * b + 2) - nI (iN (A (145 + 9 * b + 2)) * iN (A 0) / 1000) = nI (iN (A (145 + 9 * b + 2)) - iN (A (145 + 9 * b + 2)) * iN (A 0) / 1000) := by
    have := l3
    rw [← hm.1] at this
    exact this
  have est : A (145 + 9 * b + 3) + 1 = nI (bS A b + 1) := by rw [i.2.1.1, nI_1]
  simp only [moveA, ec, e4, et, e5, els, emm, est]
  refine ⟨invS_c h1 (fun j q1 => ?_), invT_c h2 (fun j q1 q2 => ?_), invR_c h3 (fun j q1 q2 => ?_), fun w hw => ?_, fun k' hk' => ?_, invB_d h1 h6 hb (fun j q1 q2 q3 => ?_) ?_ ?_ (fun j q1 q2 => ?_) (fun c hc hcb lc => ?_) ?_ (fun hl' => ?_), fun j hj => ?_, hN⟩
  · simp (disch := omega) only [upd_ne]
  · simp (disch := omega) only [upd_ne]
  · simp (disch := omega) only [upd_ne]
  · obtain ⟨k1, k2, k3, k4, k5⟩ := h4 w hw
    by_cases e : w = v
    · subst e
      simp (disch := omega) only [upd_ne, upd_eq]
      exact ⟨k1, k2, Or.inr (bd_n (by omega) (by decide)), Or.inr (h3 _ hr4).1, bd_n (by have := k5.2; omega) (by have := k5.2; omega)⟩
    · by_cases e2 : w = bV A b
      · subst e2
        simp (disch := omega) only [upd_ne, upd_eq]
        exact ⟨k1, k2, Or.inl trivial, k4, bd_mono k5 (by omega)⟩
      · simp (disch := omega) only [upd_ne, upd_eq]
        exact ⟨k1, k2, k3, k4, bd_mono k5 (by omega)⟩
  · have hh := h5 k' hk'
    unfold nL at *
    by_cases e : k' = k
    · subst e
      simp (disch := omega) only [upd_ne, upd_eq]
      exact ⟨hh.1, bd_n (by have := ht.2; omega) (by have := ht.2; omega), fun z => absurd hk (Nat.not_lt.mpr z)⟩
    · simp (disch := omega) only [upd_ne, upd_eq]
      exact hh
  · simp (disch := omega) only [upd_ne]
  · simp (disch := omega) only [upd_ne]
  · simp (disch := omega) only [upd_ne]
  · simp (disch := omega) only [upd_ne]
  · have := hfree c hc lc
    have := hap c hc lc hcb
    have : bV A c < 6 := Nat.lt_of_lt_of_le ((h6 c hc).2 lc).2.2.1.2.1 h1.2.1.2
    simp (disch := omega) only [upd_ne]
  · simp (disch := omega) only [upd_ne]; exact (h6 b hb).1
  · have key : ∀ z : AA, z (145 + 9 * b + 1) = A (145 + 9 * b + 1) → z (145 + 9 * b + 4) = nI v → z (145 + 9 * b + 3) = nI (bS A b + 1) → z 2 = A 2 → z 3 = A 3 → z (31 + 18 * bR A b + 1) = A (31 + 18 * bR A b + 1) → z (103 + 5 * v + 2) = nI b → z (145 + 9 * b + 2) = nI (iN (A (145 + 9 * b + 2)) - iN (A (145 + 9 * b + 2)) * iN (A 0) / 1000) → z (145 + 9 * b + 5) = nI (iN (A 5) + t0) → z (145 + 9 * b + 6) = A (145 + 9 * b + 6) → z (145 + 9 * b + 7) = A (145 + 9 * b + 7) → z (145 + 9 * b + 8) = A (145 + 9 * b + 8) → InvB1 z b := by
      intro z z1 z4 z3 z2' z3' zs zh zm zt z6 z7 z8
      have e1 : bR z b = bR A b := by rw [bR, bR, z1]
      have e2 : bS z b = bS A b + 1 := by rw [bS, z3, iN_n (by omega)]
      have e3 : bV z b = v := by rw [bV, z4, iN_n (by omega)]
      unfold InvB1
      rw [e1, e2, e3, z1, z4, z3, zh, zm, zt, z6, z7, z8, nR, nV, nS, z2', z3', zs]
      exact ⟨i.1, ⟨rfl, hc.2.1⟩, ⟨rfl, hv, rfl⟩, bd_n (by have := hm.2; omega) (by have := hm.2; omega), bd_n (by have := ht.2; omega) (by have := ht.2; omega), i.2.2.2.2.2⟩
    refine key _ ?_ ?_ ?_ ?_ ?_ ?_ ?_ ?_ ?_ ?_ ?_ ?_ <;> simp (disch := omega) only [upd_ne, upd_eq]
  · simp (disch := omega) only [upd_ne]; exact h7 j hj
theorem ok_move (x y : Int32) (I : Inv N A) (hN : N + 99 < 100000000) : okR N A (fMove A x y) := by
  by_cases h : isBat A x ∧ isVes A y
  · by_cases h2 : ltF A (iN x) (iN y) < 0
    · exact okR_e I hN (fMove_2 h h2)
    · have e := fMove_y h h2
      obtain ⟨⟨b, hb, rfl, hl⟩, v, hv, rfl⟩ := h
      have hv6 : v < 6 := Nat.lt_of_lt_of_le hv I.nV6
      rw [iN_n (by omega), iN_n (by omega)] at e h2
      rcases lt1_F I b v with ⟨q, -⟩ | ⟨k, hk, q, -, hc⟩
      · exact absurd q h2
      · have hk3 : k < 3 := Nat.lt_of_lt_of_le hk I.nL3
        rw [q, iN_n (by omega)] at e
        exact okR_m e (nI_pos (by omega)) (inv_move I hN hv hb hl hk hc)
  · exact okR_e I hN (fMove_1 h)
theorem inv_gone (I : Inv N A) {b : Nat} (hb : b < 6) (hl : live A b) : Inv N (goneA A b) := by
  have hap := fun c (hc' : c < 6) (lc : live A c) (h : c ≠ b) => I.apart hb hc' hl lc h
  have hw6 := I.bV6 hb hl
  obtain ⟨h1, h2, h3, h4, h5, h6, h7, h8⟩ := I
  unfold goneA
  refine ⟨invS_c h1 (fun j q1 => ?_), invT_c h2 (fun j q1 q2 => ?_), invR_c h3 (fun j q1 q2 => ?_), fun w hw => ?_, invL_c h5 ?_ (fun j q1 q2 => ?_), invB_d h1 h6 hb (fun j q1 q2 q3 => ?_) ?_ ?_ (fun j q1 q2 => ?_) (fun c hc hcb lc => ?_) (Or.inl ?_) (fun hl' => ?_), fun j hj => ?_, h8⟩
  · simp (disch := omega) only [upd_ne]
  · simp (disch := omega) only [upd_ne]
  · simp (disch := omega) only [upd_ne]
  · obtain ⟨k1, k2, k3, k4, k5⟩ := h4 w hw
    by_cases e : w = bV A b
    · subst e
      simp (disch := omega) only [upd_ne, upd_eq]
      exact ⟨k1, k2, Or.inl trivial, k4, k5⟩
    · simp (disch := omega) only [upd_ne, upd_eq]
      exact ⟨k1, k2, k3, k4, k5⟩
  · simp (disch := omega) only [upd_ne]
  · simp (disch := omega) only [upd_ne]
  · simp (disch := omega) only [upd_ne]
  · simp (disch := omega) only [upd_ne]
  · simp (disch := omega) only [upd_ne]
  · simp (disch := omega) only [upd_ne]
  · have := hap c hc lc hcb
    have : bV A c < 6 := Nat.lt_of_lt_of_le ((h6 c hc).2 lc).2.2.1.2.1 h1.2.1.2
    simp (disch := omega) only [upd_ne]
  · simp only [upd_eq]
  · unfold live at hl'
    rw [upd_eq] at hl'
    exact absurd hl' (by decide)
  · simp (disch := omega) only [upd_ne]; exact h7 j hj
theorem ok_end (x : Int32) (I : Inv N A) (hN : N + 99 < 100000000) : okR N A (fEnd A x) := by
  by_cases h : isBat A x
  · by_cases h2 : rpF A (iN x) ≤ A 5 ∧ ¬ bS A (iN x) + 1 < nS A (bR A (iN x))
    · have e := fEnd_y h h2
      obtain ⟨b, hb, rfl, hl⟩ := h
      rw [iN_n (by omega)] at e
      have g := inv_gone I hb hl
      have hp := (I.2.2.1 _ (I.bR4 hb hl)).1.2
      refine okR_m e (bd_nn (I.b1 hb hl).2.2.2.1 (by decide)) (Inv.mono (N := N) ?_ (by omega) hN)
      by_cases q : A (145 + 9 * b + 6) = 1
      · rw [cIf_t q]
        exact inv_mid g (by omega) (by rw [prF]; omega)
      · rw [cIf_f q]
        exact inv_mid (inv_mid g (by omega) (by omega)) (by omega) (by omega)
    · exact okR_e I hN (fEnd_2 h h2)
  · exact okR_e I hN (fEnd_1 h)
theorem ok_discard (x : Int32) (I : Inv N A) (hN : N + 99 < 100000000) : okR N A (fDiscard A x) := by
  by_cases h : isBat A x
  · have e := fDiscard_y h
    obtain ⟨b, hb, rfl, hl⟩ := h
    rw [iN_n (by omega)] at e
    exact okR_m e (bd_nn (I.b1 hb hl).2.2.2.1 (by decide)) (Inv.mono (inv_mid (inv_gone I hb hl) (by omega) (by omega)) (by omega) hN)
  · exact okR_e I hN (fDiscard_1 h)
theorem ok_blend (x m : Int32) (I : Inv N A) (hN : N + 99 < 100000000) : okR N A (fBlend A x m) := by
  by_cases h : isBat A x ∧ inR m 1 999
  · by_cases h2 : blOk A (iN x) m
    · have e := fBlend_y h h2
      obtain ⟨⟨b, hb, rfl, hl⟩, hm⟩ := h
      obtain ⟨k, hk1, hk9, rfl⟩ := in999 hm
      rw [iN_n (by omega)] at e h2
      have i := I.b1 hb hl
      have hp := (I.2.2.1 _ (I.bR4 hb hl)).1
      have h1 := i.2.2.2.1
      have hs := (I.2.2.2.1 _ (I.bV6 hb hl)).2.1
      have hbl := i.2.2.2.2.2.2.1
      have hf := i.2.2.2.2.2.2.2
      have h50 := I.1.2.2.2.2.2
      obtain ⟨b1, b2, b3, b4, b5⟩ := h2
      have c1 := (bl_cmp h1.2 hk9 hs.2).mpr (by rw [← h1.1, ← hs.1]; exact b3)
      rw [nI_add] at c1
      have c2 := (nI_leI (by have := h1.2; omega) (by have := hs.2; omega)).mp c1
      have emm : A (145 + 9 * b + 2) + nI k = nI (iN (A (145 + 9 * b + 2)) + k) := by conv => lhs; rw [h1.1, nI_add]
      have ebb : A (145 + 9 * b + 7) + nI k = nI (iN (A (145 + 9 * b + 7)) + k) := by conv => lhs; rw [hbl.1, nI_add]
      have hml : iN (A 1) * iN (A (145 + 9 * b + 8)) ≤ 50 * 999 := Nat.mul_le_mul h50.2 hf.2
      have emd : A 1 * A (145 + 9 * b + 8) / 100 = nI (iN (A 1) * iN (A (145 + 9 * b + 8)) / 100) := by conv => lhs; rw [h50.1, hf.1, pk_mul, show (100 : Int32) = nI 100 from rfl, pk_div (by omega) (by decide) (by decide)]
      rw [ebb, emd] at b4
      have c3 := (nI_leI (by have := hbl.2; omega) (by omega)).mp b4
      rw [emm, ebb] at e
      refine okR_m e (nI_pos (by have := h1.2; omega)) (Inv.mono (N := N) ?_ (by omega) hN)
      have I2 : Inv N (upd A (11 + iN (prF A b)) (A (11 + iN (prF A b)) - nI k)) := inv_mid I (by omega) (by have := hp.2; rw [prF]; omega)
      generalize hA2 : upd A (11 + iN (prF A b)) (A (11 + iN (prF A b)) - nI k) = A2 at I2 ⊢
      have hp3 : iN (prF A b) ≤ 3 := hp.2
      have hl2 : live A2 b := by unfold live; rw [← hA2, upd_ne (by omega)]; exact hl
      have j := I2.b1 hb hl2
      have hap := fun c (hc' : c < 6) (lc : live A2 c) => I2.bV6 hc' lc
      have hr4' := I2.bR4 hb hl2
      have hv6' := I2.bV6 hb hl2
      obtain ⟨h1', h2', h3', h4', h5', h6', h7', h8'⟩ := I2
      refine ⟨invS_c h1' (fun j q1 => ?_), invT_c h2' (fun j q1 q2 => ?_), invR_c h3' (fun j q1 q2 => ?_), invV_c h4' (Nat.le_refl _) (fun j q1 q2 => ?_), invL_c h5' ?_ (fun j q1 q2 => ?_), invB_d h1' h6' hb (fun j q1 q2 q3 => ?_) ?_ ?_ (fun j q1 q2 => ?_) (fun c hc hcb lc => ?_) ?_ (fun hl' => ?_), fun j hj => ?_, h8'⟩
      · simp (disch := omega) only [upd_ne]
      · simp (disch := omega) only [upd_ne]
      · simp (disch := omega) only [upd_ne]
      · simp (disch := omega) only [upd_ne]
      · simp (disch := omega) only [upd_ne]
      · simp (disch := omega) only [upd_ne]
      · simp (disch := omega) only [upd_ne]
      · simp (disch := omega) only [upd_ne]
      · simp (disch := omega) only [upd_ne]
      · simp (disch := omega) only [upd_ne]
      · have := hap c hc lc
        simp (disch := omega) only [upd_ne]
      · simp (disch := omega) only [upd_ne]; exact (h6' b hb).1
      · unfold InvB1 bR bS bV nS nR nV at *
        simp (disch := omega) only [upd_ne, upd_eq]
        exact ⟨j.1, j.2.1, j.2.2.1, bd_n (by have := hs.2; omega) (by have := hs.2; omega), j.2.2.2.2.1, j.2.2.2.2.2.1, bd_n (by omega) (by omega), j.2.2.2.2.2.2.2⟩
      · simp (disch := omega) only [upd_ne]; exact h7' j hj
    · exact okR_e I hN (fBlend_2 h h2)
  · exact okR_e I hN (fBlend_1 h)
theorem psF_ok : ∀ (n i : Nat) (A : AA) (c : Nat), i + n ≤ 6 → Inv N A → Inv N (psF A i n c).2 ∧ ∃ c', c' ≤ c + n ∧ (psF A i n c).1 = nI c' := by
  intro n
  induction n with
  | zero => intro i A c hi I; exact ⟨I, c, Nat.le_refl _, rfl⟩
  | succ n ih =>
    intro i A c hi I
    by_cases h : spC A i
    · rw [psF, cIf_t h]
      obtain ⟨h1, c', h2, h3⟩ := ih (i + 1) _ (c + 1) (by omega) (inv_spoil I (by omega : i < 6))
      exact ⟨h1, c', by omega, h3⟩
    · rw [psF, cIf_f h]
      obtain ⟨h1, c', h2, h3⟩ := ih (i + 1) A c (by omega) I
      exact ⟨h1, c', by omega, h3⟩
theorem ok_pass (m : Int32) (I : Inv N A) (hN : N + 99 < 100000000) : okR N A (fPass A m) := by
  by_cases h : inR m 1 999
  · by_cases h2 : 30000 < A 5 + m
    · exact okR_e I hN (fPass_3 h h2)
    · have e := fPass_y h h2
      obtain ⟨k, hk1, hk9, rfl⟩ := in999 h
      have ht := I.1.2.2.2.1
      have e5 : A 5 + nI k = nI (iN (A 5) + k) := by conv => lhs; rw [ht.1, nI_add]
      have hle : iN (A 5) + k ≤ 30000 := by
        rw [e5] at h2
        exact (nI_leI (by have := ht.2; omega) (by decide)).mp (Int32.not_lt.mp h2)
      obtain ⟨q1, c', q2, q3⟩ := psF_ok (N := N) 6 0 (upd A 5 (A 5 + nI k)) 0 (by omega) (by rw [e5]; exact inv_time I hle)
      rw [q3] at e
      exact okR_m e (nI_pos (by omega)) (Inv.mono (inv_mid q1 (by omega) (by omega)) (by omega) hN)
  · exact okR_e I hN (fPass_1 h)
theorem ok_ex (l : Int32) (E : Nat → Int32) (I : Inv N A) (hN : N + 99 < 100000000) : okR N A (exF A l E) := by
  unfold exF
  split
  · exact ok_begin _ _ _ I hN
  · split
    · exact ok_move _ _ I hN
    · split
      · exact ok_end _ I hN
      · split
        · exact ok_discard _ I hN
        · split
          · exact ok_blend _ _ I hN
          · exact ok_pass _ I hN
end OK2
