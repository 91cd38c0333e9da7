/-! THE REFERENCE: its past -/
def PastR (H : List AA) (gi : GI) : Prop := gi 335 3 = nI H.length ∧ ∀ (i : Nat) (B : AA), H[i]? = some B → ∀ j, j < 199 → gi 337 (199 * (H.length - 1 - i) + j) = B j
/-- the past while commands run, and else -/
def pst (g0 : GI) (rn : Int32) (H : List AA) (gi : GI) : Prop := (¬ rn = 0 → gi 335 3 = g0 335 3 ∧ gi 337 = g0 337) ∧ (rn = 0 → PastR H gi)
def OutN (g0 gi : GI) : Prop := (∀ k, k ≠ 335 → k ≠ 337 → gi k = g0 k) ∧ ∀ j, j ≠ 3 → gi 335 j = g0 335 j
def pCh (g0 : GI) (H : List AA) : Option Value → BcH → Prop := fun v h' => v = none ∧ ∃ gi, h' = hp gi ∧ OutN g0 gi ∧ pst g0 (g0 335 4) ((g0 336 :: H).take 4) gi
/-- all moved down by a row, up to a place -/
def shI (g0 gi : GI) (i : Nat) : Prop := (∀ k, k ≠ 337 → gi k = g0 k) ∧ (∀ j, j < i → gi 337 j = g0 337 (j + 199)) ∧ ∀ j, i ≤ j → gi 337 j = g0 337 j
theorem shI_s {g0 gi : GI} {i : Nat} (h : shI g0 gi i) : shI g0 (wI gi 337 i (gi 337 (i + 199))) (i + 1) := by
  obtain ⟨h1, h2, h3⟩ := h
  refine ⟨fun k hk => by rw [wI_row hk]; exact h1 k hk, fun j hj => ?_, fun j hj => by rw [wI_ne (by omega)]; exact h3 j (by omega)⟩
  by_cases e : j = i
  · subst e
    rw [wI_eq]; exact h3 _ (by omega)
  · rw [wI_ne (by omega)]; exact h2 j (by omega)
theorem past_sh {H : List AA} {g0 gi : GI} (h : PastR H g0) (hl : H.length = 4) (s : shI g0 gi 597) : ∀ (i : Nat) (B : AA), (H.take 3)[i]? = some B → ∀ j, j < 199 → gi 337 (199 * (3 - 1 - i) + j) = B j := by
  intro i B hB j hj
  rw [List.getElem?_take] at hB
  by_cases hi : i < 3
  · rw [if_pos hi] at hB
    have := h.2 i B hB j hj
    rw [hl] at this
    rw [s.2.1 _ (by omega), show 199 * (3 - 1 - i) + j + 199 = 199 * (4 - 1 - i) + j by omega]
    exact this
  · rw [if_neg hi] at hB; cases hB
/-- the row is put behind the past, up to a place -/
def apI (c : Nat) (g0 gi : GI) (i : Nat) : Prop := (∀ k, k ≠ 337 → gi k = g0 k) ∧ (∀ j, j < i → gi 337 (199 * c + j) = g0 336 j) ∧ ∀ j, j < 199 * c → gi 337 j = g0 337 j
theorem apI_s {c : Nat} {g0 gi : GI} {i : Nat} (h : apI c g0 gi i) : apI c g0 (wI gi 337 (199 * c + i) (gi 336 i)) (i + 1) := by
  obtain ⟨h1, h2, h3⟩ := h
  refine ⟨fun k hk => by rw [wI_row hk]; exact h1 k hk, fun j hj => ?_, fun j hj => by rw [wI_ne (by omega)]; exact h3 j hj⟩
  by_cases e : j = i
  · subst e
    rw [wI_eq, h1 336 (by decide)]
  · rw [wI_ne (by omega)]; exact h2 j (by omega)
theorem past_ap {H : List AA} {g0 gi : GI} (h : ∀ (i : Nat) (B : AA), H[i]? = some B → ∀ j, j < 199 → g0 337 (199 * (H.length - 1 - i) + j) = B j) (s : apI H.length g0 gi 199) : PastR (g0 336 :: H) (wI gi 335 3 (nI (H.length + 1))) := by
  refine ⟨by rw [wI_eq, List.length_cons], fun i B hB j hj => ?_⟩
  rw [wI_ne (by omega), List.length_cons]
  cases i with
  | zero =>
    have e : g0 336 = B := by simpa using hB
    subst e
    rw [show H.length + 1 - 1 - 0 = H.length by omega]
    exact s.2.1 j hj
  | succ i =>
    have hB' : H[i]? = some B := by simpa using hB
    have hi : i < H.length := (List.getElem?_eq_some_iff.mp hB').1
    rw [show H.length + 1 - 1 - (i + 1) = H.length - 1 - i by omega, s.2.2 _ (by omega)]
    exact h i B hB' j hj
theorem PastR.same {H : List AA} {g0 gi : GI} (h : PastR H g0) (h1 : gi 335 3 = g0 335 3) (h2 : gi 337 = g0 337) : PastR H gi := ⟨h1.trans h.1, fun i B hB j hj => by rw [h2]; exact h.2 i B hB j hj⟩
theorem ix0 (a b w : Nat) : nI a * nI b + nI w = nI (a * b + w) := by rw [pk_mul, nI_add]
set_option maxHeartbeats 4000000 in
set_option maxRecDepth 100000 in
theorem lm_append (G : BcG) {g0 : GI} {c : Nat} (hc : c < 4) (h3 : g0 335 3 = nI c) {post : Option Value → BcH → Prop} (hpost : ∀ gi, apI c g0 gi 199 → post none (hp (wI gi 335 3 (nI (c + 1))))) : ∀ (n i : Nat) (gi : GI), i + n = 199 → (apI c g0 gi i) → BGo G mX9_changes (KM G mX9_changes 341 (post)) (hp gi) 0 0 59 [some (.ref (G.1 + 335)), some (.int (nI i))] [] := by
  intro n
  induction n with
  | zero =>
    intro i gi hn ap
    obtain rfl : i = 199 := by omega
    refine go_iload_n 60 dX9_changes_59 rfl rfl (ls_s ls_0) ?_
    refine go_sipush 63 (v := 199) dX9_changes_60 rfl (by decide) ?_
    refine go_icmp_ge 93 66 dX9_changes_63 (by decide) rfl (fun c_63 => ?_) (fun c_63 => absurd c_63 (by decide))
    refine go_aload_n 94 dX9_changes_93 rfl rfl ls_0 ?_
    refine go_dup 95 dX9_changes_94 rfl rfl ?_
    refine gp_getI 98 dX9_changes_95 rfl f_X9_29 rfl o335 ?_
    refine go_top (y := (nI c)) (by rw [ap.1 335 (by decide)]; exact h3) ?_
    refine go_iconst 99 (v := 1) dX9_changes_98 rfl (by decide) ?_
    refine go_iadd 100 dX9_changes_99 rfl ?_
    refine go_top (y := (nI (c + 1))) (nI_1 _) ?_
    refine gp_putI 103 dX9_changes_100 rfl f_X9_29 rfl o335 rfl rfl ?_
    exact go_ret_v dX9_changes_103 rfl rfl rfl (hpost _ ap)
  | succ n ih =>
    intro i gi hn ap
    have hi199 : i < 199 := by omega
    refine go_iload_n 60 dX9_changes_59 rfl rfl (ls_s ls_0) ?_
    refine go_sipush 63 (v := 199) dX9_changes_60 rfl (by decide) ?_
    refine go_icmp_ge 93 66 dX9_changes_63 (by decide) rfl (fun c_63 => absurd c_63 (nI_ge hi199 (by decide))) (fun c_63 => ?_)
    refine go_aload_n 67 dX9_changes_66 rfl rfl ls_0 ?_
    refine gp_getR 70 dX9_changes_67 rfl f_X9_13 rfl o335 rfl ?_
    refine go_sipush 73 (v := 199) dX9_changes_70 rfl (by decide) ?_
    refine go_aload_n 74 dX9_changes_73 rfl rfl ls_0 ?_
    refine gp_getI 77 dX9_changes_74 rfl f_X9_29 rfl o335 ?_
    refine go_top (y := (nI c)) (by rw [ap.1 335 (by decide)]; exact h3) ?_
    refine go_imul 78 dX9_changes_77 rfl ?_
    refine go_iload_n 79 dX9_changes_78 rfl rfl (ls_s ls_0) ?_
    refine go_iadd 80 dX9_changes_79 rfl ?_
    refine go_aload_n 81 dX9_changes_80 rfl rfl ls_0 ?_
    refine gp_getR 84 dX9_changes_81 rfl f_X9_7 rfl o335 rfl ?_
    refine go_iload_n 85 dX9_changes_84 rfl rfl (ls_s ls_0) ?_
    refine gp_ialdN 86 (i := i) dX9_changes_85 rfl a336 rfl hi199 (by decide) ?_
    refine gp_iastN 87 (i := (199 * c + i)) dX9_changes_86 rfl a337 (ix0 199 c i) (by omega) (by decide) ?_
    refine go_iinc 90 (v := (nI (i + 1))) dX9_changes_87 rfl (ls_s ls_0) (by exact nI_1 i) (by decide) (st_s st_0) ?_
    refine go_goto 59 dX9_changes_90 (by decide) ?_
    exact ih (i + 1) _ (by omega) (apI_s ap)
set_option maxHeartbeats 4000000 in
set_option maxRecDepth 100000 in
theorem lm_shift (G : BcG) {g0 : GI} {post : Option Value → BcH → Prop} (kk : ∀ gi, shI g0 gi 597 → BGo G mX9_changes (KM G mX9_changes 341 post) (hp gi) 0 0 47 [some (.ref (G.1 + 335)), none] []) : ∀ (n i : Nat) (gi : GI), i + n = 597 → (shI g0 gi i) → BGo G mX9_changes (KM G mX9_changes 341 (post)) (hp gi) 0 0 18 [some (.ref (G.1 + 335)), some (.int (nI i))] [] := by
  intro n
  induction n with
  | zero =>
    intro i gi hn sh
    obtain rfl : i = 597 := by omega
    refine go_iload_n 19 dX9_changes_18 rfl rfl (ls_s ls_0) ?_
    refine go_sipush 22 (v := 597) dX9_changes_19 rfl (by decide) ?_
    refine go_icmp_ge 47 25 dX9_changes_22 (by decide) rfl (fun c_22 => ?_) (fun c_22 => absurd c_22 (by decide))
    exact go_less (le_k (le_n le_0)) (kk _ sh)
  | succ n ih =>
    intro i gi hn sh
    have hi597 : i < 597 := by omega
    refine go_iload_n 19 dX9_changes_18 rfl rfl (ls_s ls_0) ?_
    refine go_sipush 22 (v := 597) dX9_changes_19 rfl (by decide) ?_
    refine go_icmp_ge 47 25 dX9_changes_22 (by decide) rfl (fun c_22 => absurd c_22 (nI_ge hi597 (by decide))) (fun c_22 => ?_)
    refine go_aload_n 26 dX9_changes_25 rfl rfl ls_0 ?_
    refine gp_getR 29 dX9_changes_26 rfl f_X9_13 rfl o335 rfl ?_
    refine go_iload_n 30 dX9_changes_29 rfl rfl (ls_s ls_0) ?_
    refine go_aload_n 31 dX9_changes_30 rfl rfl ls_0 ?_
    refine gp_getR 34 dX9_changes_31 rfl f_X9_13 rfl o335 rfl ?_
    refine go_iload_n 35 dX9_changes_34 rfl rfl (ls_s ls_0) ?_
    refine go_sipush 38 (v := 199) dX9_changes_35 rfl (by decide) ?_
    refine go_iadd 39 dX9_changes_38 rfl ?_
    refine gp_ialdN 40 (i := (i + 199)) dX9_changes_39 rfl a337 (nI_add _ _) (by omega) (by decide) ?_
    refine gp_iastN 41 (i := i) dX9_changes_40 rfl a337 rfl (by omega) (by decide) ?_
    refine go_iinc 44 (v := (nI (i + 1))) dX9_changes_41 rfl (ls_s ls_0) (by exact nI_1 i) (by decide) (st_s st_0) ?_
    refine go_goto 18 dX9_changes_44 (by decide) ?_
    exact ih (i + 1) _ (by omega) (shI_s sh)
set_option maxHeartbeats 4000000 in
set_option maxRecDepth 100000 in
theorem m_changes1 (G : BcG) (gi : GI) (H : List AA) (hr : ¬ gi 335 4 = 0) : Ct G mX9_changes [.ref (G.1 + 335)] (hp gi) (pCh gi H) := by
  refine ct_of [some (.ref (G.1 + 335)), none] w_10 (by decide) rfl (Nat.le_of_ble_eq_true rfl) rfl ?_
  refine go_aload_n 1 dX9_changes_0 rfl rfl ls_0 ?_
  refine gp_getI 4 dX9_changes_1 rfl f_X9_25 rfl o335 ?_
  refine go_if_eq 8 7 dX9_changes_4 (by decide) rfl (fun c_4 => absurd c_4 hr) (fun c_4 => ?_)
  exact go_ret_v dX9_changes_7 rfl rfl rfl ⟨rfl, gi, rfl, ⟨fun _ _ _ => rfl, fun _ _ => rfl⟩, fun _ => ⟨rfl, rfl⟩, fun z => absurd z hr⟩
set_option maxHeartbeats 4000000 in
set_option maxRecDepth 100000 in
theorem m_changes2 (G : BcG) {gi : GI} {H : List AA} (hr : gi 335 4 = 0) (hl : H.length < 4) (hP : PastR H gi) : Ct G mX9_changes [.ref (G.1 + 335)] (hp gi) (pCh gi H) := by
  obtain ⟨hp3, hpH⟩ := hP
  refine ct_of [some (.ref (G.1 + 335)), none] w_10 (by decide) rfl (Nat.le_of_ble_eq_true rfl) rfl ?_
  refine go_aload_n 1 dX9_changes_0 rfl rfl ls_0 ?_
  refine gp_getI 4 dX9_changes_1 rfl f_X9_25 rfl o335 ?_
  refine go_if_eq 8 7 dX9_changes_4 (by decide) rfl (fun c_4 => ?_) (fun c_4 => absurd hr c_4)
  refine go_aload_n 9 dX9_changes_8 rfl rfl ls_0 ?_
  refine gp_getI 12 dX9_changes_9 rfl f_X9_29 rfl o335 ?_
  refine go_top (y := (nI H.length)) hp3 ?_
  refine go_iconst 13 (v := 4) dX9_changes_12 rfl (by decide) ?_
  refine go_icmp_ne 57 16 dX9_changes_13 (by decide) rfl (fun c_13 => ?_) (fun c_13 => absurd c_13 (nI_not (m := 4) hl (by decide)))
  refine go_iconst 58 (v := 0) dX9_changes_57 rfl (by decide) ?_
  refine go_istore_n 59 dX9_changes_58 rfl rfl (by decide) (st_s st_0) ?_
  refine lm_append G hl hp3 (fun g2 ap => ?_) 199 0 gi rfl ⟨fun _ _ => rfl, fun j hj => absurd hj (Nat.not_lt_zero _), fun _ _ => rfl⟩
  have q := past_ap hpH ap
  refine ⟨rfl, _, rfl, ⟨fun k h1 h2 => by rw [wI_row h1]; exact ap.1 k h2, fun j hj => by rw [wI_ne (by omega), ap.1 335 (by decide)]⟩, fun z => absurd hr z, fun _ => ?_⟩
  rw [List.take_of_length_le (by rw [List.length_cons]; omega)]
  exact q
set_option maxHeartbeats 4000000 in
set_option maxRecDepth 100000 in
theorem m_changes3 (G : BcG) {gi : GI} {H : List AA} (hr : gi 335 4 = 0) (hl : H.length = 4) (hP : PastR H gi) : Ct G mX9_changes [.ref (G.1 + 335)] (hp gi) (pCh gi H) := by
  obtain ⟨hp3, hpH⟩ := hP
  refine ct_of [some (.ref (G.1 + 335)), none] w_10 (by decide) rfl (Nat.le_of_ble_eq_true rfl) rfl ?_
  refine go_aload_n 1 dX9_changes_0 rfl rfl ls_0 ?_
  refine gp_getI 4 dX9_changes_1 rfl f_X9_25 rfl o335 ?_
  refine go_if_eq 8 7 dX9_changes_4 (by decide) rfl (fun c_4 => ?_) (fun c_4 => absurd hr c_4)
  refine go_aload_n 9 dX9_changes_8 rfl rfl ls_0 ?_
  refine gp_getI 12 dX9_changes_9 rfl f_X9_29 rfl o335 ?_
  refine go_top (y := (4)) (hp3.trans (by rw [hl]; rfl)) ?_
  refine go_iconst 13 (v := 4) dX9_changes_12 rfl (by decide) ?_
  refine go_icmp_ne 57 16 dX9_changes_13 (by decide) rfl (fun c_13 => absurd c_13 (by decide)) (fun c_13 => ?_)
  refine go_iconst 17 (v := 0) dX9_changes_16 rfl (by decide) ?_
  refine go_istore_n 18 dX9_changes_17 rfl rfl (by decide) (st_s st_0) ?_
  refine lm_shift G (g0 := gi) (fun g1 sh => ?_) 597 0 gi rfl ⟨fun _ _ => rfl, fun j hj => absurd hj (Nat.not_lt_zero _), fun _ _ => rfl⟩
  refine go_aload_n 48 dX9_changes_47 rfl rfl ls_0 ?_
  refine go_dup 49 dX9_changes_48 rfl rfl ?_
  refine gp_getI 52 dX9_changes_49 rfl f_X9_29 rfl o335 ?_
  refine go_top (y := (4)) (by rw [sh.1 335 (by decide)]; exact hp3.trans (by rw [hl]; rfl)) ?_
  refine go_iconst 53 (v := 1) dX9_changes_52 rfl (by decide) ?_
  refine go_isub 54 dX9_changes_53 rfl ?_
  refine go_top (y := (nI 3)) (by decide) ?_
  refine gp_putI 57 dX9_changes_54 rfl f_X9_29 rfl o335 rfl rfl ?_
  refine go_iconst 58 (v := 0) dX9_changes_57 rfl (by decide) ?_
  refine go_istore_n 59 dX9_changes_58 rfl rfl (by decide) (st_s st_0) ?_
  have hl3 : (H.take 3).length = 3 := by rw [List.length_take]; omega
  have q0 := past_sh ⟨hp3, hpH⟩ hl sh
  have e336 : g1 336 = gi 336 := sh.1 336 (by decide)
  refine lm_append G (c := 3) (g0 := wI g1 335 3 (nI 3)) (by decide) (by rw [wI_eq]) (fun g2 ap => ?_) 199 0 _ rfl ⟨fun _ _ => rfl, fun j hj => absurd hj (Nat.not_lt_zero _), fun _ _ => rfl⟩
  have q := past_ap (H := H.take 3) (g0 := wI g1 335 3 (nI 3)) (fun i B hB j hj => by rw [hl3, wI_ne (by omega)]; exact q0 i B hB j hj) (by rw [hl3]; exact ap)
  rw [hl3, wI_row (by decide), e336] at q
  refine ⟨rfl, _, rfl, ⟨fun k h1 h2 => by rw [wI_row h1, ap.1 k h2, wI_row h1]; exact sh.1 k h2, fun j hj => by rw [wI_ne (by omega), ap.1 335 (by decide), wI_ne (by omega), sh.1 335 (by decide)]⟩, fun z => absurd hr z, fun _ => ?_⟩
  exact q
theorem m_changes (G : BcG) {gi : GI} {H : List AA} (hl : H.length ≤ 4) (hP : gi 335 4 = 0 → PastR H gi) : Ct G mX9_changes [.ref (G.1 + 335)] (hp gi) (pCh gi H) := by
  by_cases hr : gi 335 4 = 0
  · rcases Nat.lt_or_ge H.length 4 with q | q
    · exact m_changes2 G hr q (hP hr)
    · exact m_changes3 G hr (by omega) (hP hr)
  · exact m_changes1 G gi H hr
def pCo (a b : Nat) (g0 : GI) : Option Value → BcH → Prop := fun v h' => v = none ∧ ∃ gi, h' = hp gi ∧ (∀ j, j < 199 → gi b j = g0 a j) ∧ (∀ j, 199 ≤ j → gi b j = g0 b j) ∧ ∀ k, k ≠ b → gi k = g0 k
def coI (a b : Nat) (g0 gi : GI) (i : Nat) : Prop := (∀ j, j < i → gi b j = g0 a j) ∧ (∀ j, 199 ≤ j → gi b j = g0 b j) ∧ ∀ k, k ≠ b → gi k = g0 k
theorem coI_s {a b : Nat} {g0 gi : GI} {i : Nat} (hab : a ≠ b) (hi : i < 199) (h : coI a b g0 gi i) : coI a b g0 (wI gi b i (gi a i)) (i + 1) := by
  obtain ⟨h1, h2, h3⟩ := h
  refine ⟨fun j hj => ?_, fun j hj => by rw [wI_ne (by omega)]; exact h2 j hj, fun k hk => by rw [wI_row hk]; exact h3 k hk⟩
  by_cases e : j = i
  · subst e
    rw [wI_eq, h3 a hab]
  · rw [wI_ne (by omega)]; exact h1 j (by omega)
set_option maxHeartbeats 4000000 in
set_option maxRecDepth 100000 in
theorem lm_copies (G : BcG) {a b : Nat} (ha : tA a 20 199) (hb : tA b 20 199) (hab : a ≠ b) (g0 : GI) : ∀ (n i : Nat) (gi : GI), i + n = 199 → (coI a b g0 gi i) → BGo G mX9_copies (KM G mX9_copies 341 (pCo a b g0)) (hp gi) 0 0 2 [some (.ref (G.1 + a)), some (.ref (G.1 + b)), some (.int (nI i))] [] := by
  intro n
  induction n with
  | zero =>
    intro i gi hn co
    obtain rfl : i = 199 := by omega
    refine go_iload_n 3 dX9_copies_2 rfl rfl (ls_s (ls_s ls_0)) ?_
    refine go_sipush 6 (v := 199) dX9_copies_3 rfl (by decide) ?_
    refine go_icmp_ge 21 9 dX9_copies_6 (by decide) rfl (fun c_6 => ?_) (fun c_6 => absurd c_6 (by decide))
    exact go_ret_v dX9_copies_21 rfl rfl rfl ⟨rfl, _, rfl, co.1, co.2.1, co.2.2⟩
  | succ n ih =>
    intro i gi hn co
    have hi199 : i < 199 := by omega
    refine go_iload_n 3 dX9_copies_2 rfl rfl (ls_s (ls_s ls_0)) ?_
    refine go_sipush 6 (v := 199) dX9_copies_3 rfl (by decide) ?_
    refine go_icmp_ge 21 9 dX9_copies_6 (by decide) rfl (fun c_6 => absurd c_6 (nI_ge hi199 (by decide))) (fun c_6 => ?_)
    refine go_aload_n 10 dX9_copies_9 rfl rfl (ls_s ls_0) ?_
    refine go_iload_n 11 dX9_copies_10 rfl rfl (ls_s (ls_s ls_0)) ?_
    refine go_aload_n 12 dX9_copies_11 rfl rfl ls_0 ?_
    refine go_iload_n 13 dX9_copies_12 rfl rfl (ls_s (ls_s ls_0)) ?_
    refine gp_ialdN 14 (i := i) dX9_copies_13 rfl ha rfl hi199 (by decide) ?_
    refine gp_iastN 15 (i := i) dX9_copies_14 rfl hb rfl hi199 (by decide) ?_
    refine go_iinc 18 (v := (nI (i + 1))) dX9_copies_15 rfl (ls_s (ls_s ls_0)) (by exact nI_1 i) (by decide) (st_s (st_s st_0)) ?_
    refine go_goto 2 dX9_copies_18 (by decide) ?_
    exact ih (i + 1) _ (by omega) (coI_s hab hi199 co)
set_option maxHeartbeats 4000000 in
set_option maxRecDepth 100000 in
theorem m_copies (G : BcG) {a b : Nat} (ha : tA a 20 199) (hb : tA b 20 199) (hab : a ≠ b) (g0 : GI) : Ct G mX9_copies [.ref (G.1 + a), .ref (G.1 + b)] (hp g0) (pCo a b g0) := by
  refine ct_of [some (.ref (G.1 + a)), some (.ref (G.1 + b)), none] w_10 (by decide) rfl (Nat.le_of_ble_eq_true rfl) rfl ?_
  refine go_iconst 1 (v := 0) dX9_copies_0 rfl (by decide) ?_
  refine go_istore_n 2 dX9_copies_1 rfl rfl (by decide) (st_s (st_s st_0)) ?_
  exact lm_copies G ha hb hab g0 199 0 g0 rfl ⟨fun j hj => absurd hj (Nat.not_lt_zero _), fun _ _ => rfl, fun _ _ => rfl⟩
/-- the reference's cells tell the state -/
def RelM (S : SS) (gi : GI) : Prop := gi 336 = S.1 ∧ gi 335 4 = 0 ∧ PastR S.2.1 gi ∧ gi 335 6 = nI S.2.2.2 ∧ ∀ j, j < S.2.2.2 → gi 339 j = S.2.2.1 j
def pN (gi0 : GI) (R : Int32 × SS) : Option Value → BcH → Prop := fun v h' => v = some (.int R.1) ∧ ∃ gi, h' = hp gi ∧ RelM R.2 gi ∧ ∀ k, k < 335 → gi k = gi0 k
set_option maxHeartbeats 4000000 in
set_option maxRecDepth 100000 in
theorem mx_clearText (G : BcG) {gi : GI} {N : Nat} {S : SS} (k : SOk N S) (m : RelM S gi) : Ct G mX9_clearText [.ref (G.1 + 335)] (hp gi) (pN gi (sClear S)) := by
  obtain ⟨m1, m2, m3, m4, m5⟩ := id m
  obtain ⟨k1, k2, k3, k4⟩ := id k
  refine ct_of [some (.ref (G.1 + 335)), none] w_10 (by decide) rfl (Nat.le_of_ble_eq_true rfl) rfl ?_
  refine go_aload_n 1 dX9_clearText_0 rfl rfl ls_0 ?_
  refine gp_getI 4 dX9_clearText_1 rfl f_X9_121 rfl o335 ?_
  refine go_top (y := (nI S.2.2.2)) m4 ?_
  refine go_istore_n 5 dX9_clearText_4 rfl rfl (by decide) (st_s st_0) ?_
  refine go_aload_n 6 dX9_clearText_5 rfl rfl ls_0 ?_
  refine go_iconst 7 (v := 0) dX9_clearText_6 rfl (by decide) ?_
  refine gp_putI 10 dX9_clearText_7 rfl f_X9_121 rfl o335 rfl rfl ?_
  refine go_iload_n 11 dX9_clearText_10 rfl rfl (ls_s ls_0) ?_
  exact go_ret_i dX9_clearText_11 rfl rfl rfl ⟨rfl, _, rfl, ⟨m1, by rw [wI_ne (by omega)]; exact m2, m3.same (by rw [wI_ne (by omega)]) rfl, by rw [wI_eq]; rfl, fun j hj => absurd hj (Nat.not_lt_zero _)⟩, fun k hk => by rw [wI_row (by omega)]⟩
theorem sT_e {S : SS} {x y : Int32} {gi : GI} (m : RelM S gi) (h : fType S.2.2.1 S.2.2.2 x = (y, S.2.2.1, S.2.2.2)) : pN gi (sType S x) (some (.int y)) (hp gi) := by
  unfold sType
  rw [h]
  exact ⟨rfl, gi, rfl, m, fun _ _ => rfl⟩
theorem sT_y {S : SS} {x : Int32} {gi : GI} (m : RelM S gi) (h : fType S.2.2.1 S.2.2.2 x = (nI (S.2.2.2 + 1), upd S.2.2.1 S.2.2.2 x, S.2.2.2 + 1)) : pN gi (sType S x) (some (.int (nI (S.2.2.2 + 1)))) (hp (wI (wI gi 339 S.2.2.2 x) 335 6 (nI (S.2.2.2 + 1)))) := by
  obtain ⟨m1, m2, m3, m4, m5⟩ := m
  unfold sType
  rw [h]
  refine ⟨rfl, _, rfl, ⟨m1, ?_, m3.same ?_ rfl, by rw [wI_eq], fun j hj => ?_⟩, fun k hk => by rw [wI_row (by omega), wI_row (by omega)]⟩
  · rw [wI_ne (by omega), wI_ne (by omega)]; exact m2
  · rw [wI_ne (by omega), wI_ne (by omega)]
  · have hj' : j < S.2.2.2 + 1 := hj
    show wI (wI gi 339 S.2.2.2 x) 335 6 (nI (S.2.2.2 + 1)) 339 j = upd S.2.2.1 S.2.2.2 x j
    rw [wI_ne (by omega)]
    by_cases e : j = S.2.2.2
    · subst e; rw [wI_eq, upd_eq]
    · rw [wI_ne (by omega), upd_ne e]; exact m5 j (by omega)
set_option maxHeartbeats 4000000 in
set_option maxRecDepth 100000 in
theorem mx_type (G : BcG) {gi : GI} {N : Nat} {S : SS} (k : SOk N S) (m : RelM S gi) (x : Int32) : Ct G mX9_type [.ref (G.1 + 335), .int x] (hp gi) (pN gi (sType S x)) := by
  obtain ⟨m1, m2, m3, m4, m5⟩ := id m
  obtain ⟨k1, k2, k3, k4⟩ := id k
  refine ct_of [some (.ref (G.1 + 335)), some (.int x)] w_10 (by decide) rfl (Nat.le_of_ble_eq_true rfl) rfl ?_
  refine go_iload_n 1 dX9_type_0 rfl rfl (ls_s ls_0) ?_
  refine go_bipush 3 (v := 32) dX9_type_1 rfl (by decide) ?_
  refine go_bipush 5 (v := 126) dX9_type_3 rfl (by decide) ?_
  refine go_SI (M' := mX9_in) 8 dX9_type_5 rfl w_768 okX9_in ⟨Nat.le_of_ble_eq_true rfl, Nat.le_of_ble_eq_true rfl⟩ (m_in G gi _ _ _) rfl rfl (kk := ?_)
  refine go_ifne_b 13 11 dX9_type_8 (by decide) rfl (fun c_8 => ?_) (fun c_8 => ?_)
  · refine go_aload_n 14 dX9_type_13 rfl rfl ls_0 ?_
    refine gp_getI 17 dX9_type_14 rfl f_X9_121 rfl o335 ?_
    refine go_top (y := (nI S.2.2.2)) m4 ?_
    refine go_bipush 19 (v := 80) dX9_type_17 rfl (by decide) ?_
    refine go_icmp_ne 25 22 dX9_type_19 (by decide) rfl (fun c_19 => ?_) (fun c_19 => ?_)
    · have hne : S.2.2.2 ≠ 80 := fun z => c_19 (by rw [z]; rfl)
      have hL : S.2.2.2 < 80 := by have := k4.1; omega
      refine go_aload_n 26 dX9_type_25 rfl rfl ls_0 ?_
      refine gp_getR 29 dX9_type_26 rfl f_X9_19 rfl o335 rfl ?_
      refine go_aload_n 30 dX9_type_29 rfl rfl ls_0 ?_
      refine gp_getI 33 dX9_type_30 rfl f_X9_121 rfl o335 ?_
      refine go_top (y := (nI S.2.2.2)) m4 ?_
      refine go_iload_n 34 dX9_type_33 rfl rfl (ls_s ls_0) ?_
      refine gp_iastN 35 (i := S.2.2.2) dX9_type_34 rfl a339 rfl hL (by decide) ?_
      refine go_aload_n 36 dX9_type_35 rfl rfl ls_0 ?_
      refine go_dup 37 dX9_type_36 rfl rfl ?_
      refine gp_getI 40 dX9_type_37 rfl f_X9_121 rfl o335 ?_
      refine go_top (y := (nI S.2.2.2)) (by simp (disch := omega) only [wI_ne, wI_eq]; exact m4) ?_
      refine go_iconst 41 (v := 1) dX9_type_40 rfl (by decide) ?_
      refine go_iadd 42 dX9_type_41 rfl ?_
      refine go_top (y := (nI (S.2.2.2 + 1))) (nI_1 _) ?_
      refine gp_putI 45 dX9_type_42 rfl f_X9_121 rfl o335 rfl rfl ?_
      refine go_aload_n 46 dX9_type_45 rfl rfl ls_0 ?_
      refine gp_getI 49 dX9_type_46 rfl f_X9_121 rfl o335 ?_
      refine go_top (y := (nI (S.2.2.2 + 1))) (by rw [wI_eq]) ?_
      exact go_ret_i dX9_type_49 rfl rfl rfl (sT_y m (fType_y c_8 hne))
    · refine go_bipush 24 (v := (-3)) dX9_type_22 rfl (by decide) ?_
      exact go_ret_i dX9_type_24 rfl rfl rfl (sT_e m (fType_3 c_8 (nI_in_r (b := 80) (by have := k4.1; omega) (by decide) c_19)))
  · refine go_iconst 12 (v := (-1)) dX9_type_11 rfl (by decide) ?_
    exact go_ret_i dX9_type_12 rfl rfl rfl (sT_e m (fType_1 c_8))
def unI (c : Nat) (g0 gi : GI) (i : Nat) : Prop := (∀ k, k ≠ 336 → gi k = g0 k) ∧ (∀ j, j < i → gi 336 j = g0 337 (199 * c + j)) ∧ ∀ j, 199 ≤ j → gi 336 j = g0 336 j
theorem unI_s {c : Nat} {g0 gi : GI} {i : Nat} (hi : i < 199) (h : unI c g0 gi i) : unI c g0 (wI gi 336 i (gi 337 (199 * c + i))) (i + 1) := by
  obtain ⟨h1, h2, h3⟩ := h
  refine ⟨fun k hk => by rw [wI_row hk]; exact h1 k hk, fun j hj => ?_, fun j hj => by rw [wI_ne (by omega)]; exact h3 j hj⟩
  by_cases e : j = i
  · subst e
    rw [wI_eq, h1 337 (by decide)]
  · rw [wI_ne (by omega)]; exact h2 j (by omega)
set_option maxHeartbeats 4000000 in
set_option maxRecDepth 100000 in
theorem lm_undo (G : BcG) {g0 : GI} {c : Nat} (hc : c < 4) (h3 : g0 335 3 = nI c) {post : Option Value → BcH → Prop} (hpost : ∀ gi, unI c g0 gi 199 → post (some (.int (nI c))) (hp gi)) : ∀ (n i : Nat) (gi : GI), i + n = 199 → (unI c g0 gi i) → BGo G mX9_undo (KM G mX9_undo 341 (post)) (hp gi) 0 0 22 [some (.ref (G.1 + 335)), some (.int (nI i))] [] := by
  intro n
  induction n with
  | zero =>
    intro i gi hn un
    obtain rfl : i = 199 := by omega
    refine go_iload_n 23 dX9_undo_22 rfl rfl (ls_s ls_0) ?_
    refine go_sipush 26 (v := 199) dX9_undo_23 rfl (by decide) ?_
    refine go_icmp_ge 56 29 dX9_undo_26 (by decide) rfl (fun c_26 => ?_) (fun c_26 => absurd c_26 (by decide))
    refine go_aload_n 57 dX9_undo_56 rfl rfl ls_0 ?_
    refine gp_getI 60 dX9_undo_57 rfl f_X9_29 rfl o335 ?_
    refine go_top (y := (nI c)) (by rw [un.1 335 (by decide)]; exact h3) ?_
    exact go_ret_i dX9_undo_60 rfl rfl rfl (hpost _ un)
  | succ n ih =>
    intro i gi hn un
    have hi199 : i < 199 := by omega
    refine go_iload_n 23 dX9_undo_22 rfl rfl (ls_s ls_0) ?_
    refine go_sipush 26 (v := 199) dX9_undo_23 rfl (by decide) ?_
    refine go_icmp_ge 56 29 dX9_undo_26 (by decide) rfl (fun c_26 => absurd c_26 (nI_ge hi199 (by decide))) (fun c_26 => ?_)
    refine go_aload_n 30 dX9_undo_29 rfl rfl ls_0 ?_
    refine gp_getR 33 dX9_undo_30 rfl f_X9_7 rfl o335 rfl ?_
    refine go_iload_n 34 dX9_undo_33 rfl rfl (ls_s ls_0) ?_
    refine go_aload_n 35 dX9_undo_34 rfl rfl ls_0 ?_
    refine gp_getR 38 dX9_undo_35 rfl f_X9_13 rfl o335 rfl ?_
    refine go_sipush 41 (v := 199) dX9_undo_38 rfl (by decide) ?_
    refine go_aload_n 42 dX9_undo_41 rfl rfl ls_0 ?_
    refine gp_getI 45 dX9_undo_42 rfl f_X9_29 rfl o335 ?_
    refine go_top (y := (nI c)) (by rw [un.1 335 (by decide)]; exact h3) ?_
    refine go_imul 46 dX9_undo_45 rfl ?_
    refine go_iload_n 47 dX9_undo_46 rfl rfl (ls_s ls_0) ?_
    refine go_iadd 48 dX9_undo_47 rfl ?_
    refine gp_ialdN 49 (i := (199 * c + i)) dX9_undo_48 rfl a337 (ix0 199 c i) (by omega) (by decide) ?_
    refine gp_iastN 50 (i := i) dX9_undo_49 rfl a336 rfl hi199 (by decide) ?_
    refine go_iinc 53 (v := (nI (i + 1))) dX9_undo_50 rfl (ls_s ls_0) (by exact nI_1 i) (by decide) (st_s st_0) ?_
    refine go_goto 22 dX9_undo_53 (by decide) ?_
    exact ih (i + 1) _ (by omega) (unI_s hi199 un)
theorem inv_z {N : Nat} {A : AA} (I : Inv N A) {j : Nat} (h : 199 ≤ j) : A j = 0 := I.2.2.2.2.2.2.1 j h
theorem m_unRel {N : Nat} {A B : AA} {H : List AA} {X : TX × Nat} {gi g2 : GI} (k : SOk N (A, B :: H, X)) (m : RelM (A, B :: H, X) gi) (un : unI H.length (wI gi 335 3 (nI H.length)) g2 199) : RelM (B, H, X) g2 := by
  obtain ⟨m1, m2, ⟨m3, m3'⟩, m4, m5⟩ := m
  obtain ⟨u1, u2, u3⟩ := un
  refine ⟨?_, ?_, ⟨?_, fun i C hC j hj => ?_⟩, ?_, fun j hj => ?_⟩
  · funext j
    show g2 336 j = B j
    by_cases h : j < 199
    · rw [u2 j h, wI_ne (by omega)]
      have := m3' 0 B rfl j h
      rw [show (A, B :: H, X).2.1.length - 1 - 0 = H.length from rfl] at this
      exact this
    · rw [u3 j (by omega), wI_ne (by omega), m1]
      show A j = B j
      exact (inv_z k.1 (show 199 ≤ j by omega)).trans (inv_z (k.2.1 0 B rfl) (show 199 ≤ j by omega)).symm
  · rw [u1 335 (by decide), wI_ne (by omega)]; exact m2
  · rw [u1 335 (by decide), wI_eq]
  · have hi : i < H.length := (List.getElem?_eq_some_iff.mp hC).1
    have := m3' (i + 1) C hC j hj
    rw [show (A, B :: H, X).2.1.length - 1 - (i + 1) = H.length - 1 - i by show (B :: H).length - 1 - (i + 1) = _; rw [List.length_cons]; omega] at this
    rw [u1 337 (by decide), wI_ne (by omega)]
    exact this
  · rw [u1 335 (by decide), wI_ne (by omega)]; exact m4
  · rw [u1 339 (by decide), wI_ne (by omega)]; exact m5 j hj
set_option maxHeartbeats 4000000 in
set_option maxRecDepth 100000 in
theorem mx_undo0 (G : BcG) {gi : GI} {A : AA} {X : TX × Nat} (m : RelM (A, [], X) gi) : Ct G mX9_undo [.ref (G.1 + 335)] (hp gi) (pN gi (sUndo (A, [], X))) := by
  obtain ⟨m1, m2, m3, m4, m5⟩ := id m
  refine ct_of [some (.ref (G.1 + 335)), none] w_10 (by decide) rfl (Nat.le_of_ble_eq_true rfl) rfl ?_
  refine go_aload_n 1 dX9_undo_0 rfl rfl ls_0 ?_
  refine gp_getI 4 dX9_undo_1 rfl f_X9_29 rfl o335 ?_
  refine go_top (y := (0)) m3.1 ?_
  refine go_if_ne 10 7 dX9_undo_4 (by decide) rfl (fun c_4 => absurd c_4 (by decide)) (fun c_4 => ?_)
  refine go_bipush 9 (v := (-2)) dX9_undo_7 rfl (by decide) ?_
  exact go_ret_i dX9_undo_9 rfl rfl rfl ⟨rfl, gi, rfl, m, fun _ _ => rfl⟩
set_option maxHeartbeats 4000000 in
set_option maxRecDepth 100000 in
theorem mx_undoS (G : BcG) {gi : GI} {N : Nat} {A B : AA} {H : List AA} {X : TX × Nat} (k : SOk N (A, B :: H, X)) (m : RelM (A, B :: H, X) gi) : Ct G mX9_undo [.ref (G.1 + 335)] (hp gi) (pN gi (sUndo (A, B :: H, X))) := by
  obtain ⟨m1, m2, m3, m4, m5⟩ := id m
  obtain ⟨k1, k2, k3, k4⟩ := id k
  have hH : H.length < 4 := by have : (B :: H).length ≤ 4 := k3; rw [List.length_cons] at this; omega
  refine ct_of [some (.ref (G.1 + 335)), none] w_10 (by decide) rfl (Nat.le_of_ble_eq_true rfl) rfl ?_
  refine go_aload_n 1 dX9_undo_0 rfl rfl ls_0 ?_
  refine gp_getI 4 dX9_undo_1 rfl f_X9_29 rfl o335 ?_
  refine go_top (y := (nI (H.length + 1))) m3.1 ?_
  refine go_if_ne 10 7 dX9_undo_4 (by decide) rfl (fun c_4 => ?_) (fun c_4 => absurd c_4 (fun z => nI_not (n := 0) (m := H.length + 1) (by omega) (by omega) z.symm))
  refine go_aload_n 11 dX9_undo_10 rfl rfl ls_0 ?_
  refine go_dup 12 dX9_undo_11 rfl rfl ?_
  refine gp_getI 15 dX9_undo_12 rfl f_X9_29 rfl o335 ?_
  refine go_top (y := (nI (H.length + 1))) m3.1 ?_
  refine go_iconst 16 (v := 1) dX9_undo_15 rfl (by decide) ?_
  refine go_isub 17 dX9_undo_16 rfl ?_
  refine go_top (y := (nI H.length)) (nI_pred _) ?_
  refine gp_putI 20 dX9_undo_17 rfl f_X9_29 rfl o335 rfl rfl ?_
  refine go_iconst 21 (v := 0) dX9_undo_20 rfl (by decide) ?_
  refine go_istore_n 22 dX9_undo_21 rfl rfl (by decide) (st_s st_0) ?_
  exact lm_undo G hH (by rw [wI_eq]) (fun g2 un => ⟨rfl, g2, rfl, m_unRel k m un, fun k hk => by rw [un.1 k (by omega), wI_row (by omega)]⟩) 199 0 _ rfl ⟨fun _ _ => rfl, fun j hj => absurd hj (Nat.not_lt_zero _), fun _ _ => rfl⟩
theorem mx_undo (G : BcG) {gi : GI} {N : Nat} {S : SS} (k : SOk N S) (m : RelM S gi) : Ct G mX9_undo [.ref (G.1 + 335)] (hp gi) (pN gi (sUndo S)) := by
  obtain ⟨A, H, X⟩ := S
  cases H with
  | nil => exact mx_undo0 G m
  | cons B H => exact mx_undoS G k m
