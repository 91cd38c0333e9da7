/-! THE REFERENCE: a text is played -/
def NsR (g0 : GI) (w : Nat) (R : Option (Nat × (Nat → Int32))) (gi : GI) (x : Int32) : Prop := OutU g0 gi ∧ (∃ s, s < 2000 ∧ gi 335 7 = nI s) ∧ ((R = none ∧ x = 0) ∨ ∃ q, R = some q ∧ x = 1 ∧ gi 335 7 = nI q.1 ∧ ∀ j, j < w → gi 340 j = q.2 j)
theorem OutU.trans {g1 g2 g3 : GI} (a : OutU g1 g2) (b : OutU g2 g3) : OutU g1 g3 := ⟨fun k h1 h2 => (b.1 k h1 h2).trans (a.1 k h1 h2), fun j hj => (b.2 j hj).trans (a.2 j hj)⟩
theorem OutU.rf (g : GI) : OutU g g := ⟨fun _ _ _ => rfl, fun _ _ => rfl⟩
theorem clS_p (n : Nat) : ¬ clS n ≤ 0 := by
  unfold clS
  split <;> decide
set_option maxHeartbeats 4000000 in
set_option maxRecDepth 100000 in
theorem lm_nums (G : BcG) {g0 : GI} {T : TX} {L : Nat} (hL80 : L ≤ 80) (hM : MX T L g0) {fr l : Int32} {w : Nat} (hw3 : w ≤ 3) {post : Option Value → BcH → Prop} : ∀ (n i : Nat) (p : Nat) (E : Nat → Int32) (gi : GI), i + n = w → (∀ (gi : GI) (x : Int32), NsR g0 w (nbF T L n i p E) gi x → BGo G mX9_plays (KM G mX9_plays 341 post) (hp gi) 0 0 124 [some (.ref (G.1 + 335)), some (.int fr), some (.int l), some (.int (nI w)), some (.int x), none] []) → (p ≤ 100 + 4 * i) → (gi 335 7 = nI p) → (OutU g0 gi) → (∀ j, j < i → gi 340 j = E j) → BGo G mX9_plays (KM G mX9_plays 341 (post)) (hp gi) 0 0 84 [some (.ref (G.1 + 335)), some (.int fr), some (.int l), some (.int (nI w)), some (.int (1)), some (.int (nI i))] [] := by
  intro n
  induction n with
  | zero =>
    intro i p E gi hn kk hpb h7 ho hE
    refine go_iload 86 dX9_plays_84 rfl (ls_s (ls_s (ls_s (ls_s (ls_s ls_0))))) ?_
    refine go_iload_n 87 dX9_plays_86 rfl rfl (ls_s (ls_s (ls_s ls_0))) ?_
    refine go_icmp_ge 124 90 dX9_plays_87 (by decide) rfl (fun c_87 => ?_) (fun c_87 => absurd (show nI w ≤ nI i by rw [show i = w by omega]; exact Int32.le_refl _) c_87)
    refine go_less (le_k (le_k (le_k (le_k (le_k (le_n le_0)))))) ?_
    exact kk _ _ ⟨ho, ⟨p, by omega, h7⟩, Or.inr ⟨(p, E), rfl, rfl, h7, fun j hj => hE j (by omega)⟩⟩
  | succ n ih =>
    intro i p E gi hn kk hpb h7 ho hE
    have hiw : i < w := by omega
    refine go_iload 86 dX9_plays_84 rfl (ls_s (ls_s (ls_s (ls_s (ls_s ls_0))))) ?_
    refine go_iload_n 87 dX9_plays_86 rfl rfl (ls_s (ls_s (ls_s ls_0))) ?_
    refine go_icmp_ge 124 90 dX9_plays_87 (by decide) rfl (fun c_87 => absurd c_87 (nI_ge hiw (by omega))) (fun c_87 => ?_)
    refine go_iload 92 dX9_plays_90 rfl (ls_s (ls_s (ls_s (ls_s ls_0)))) ?_
    refine go_if_eq 124 95 dX9_plays_92 (by decide) rfl (fun c_92 => absurd c_92 (by decide)) (fun c_92 => ?_)
    refine go_aload_n 96 dX9_plays_95 rfl rfl ls_0 ?_
    refine go_iload 98 dX9_plays_96 rfl (ls_s (ls_s (ls_s (ls_s (ls_s ls_0))))) ?_
    refine go_iload 100 dX9_plays_98 rfl (ls_s (ls_s (ls_s (ls_s (ls_s ls_0))))) ?_
    refine go_iload_n 101 dX9_plays_100 rfl rfl (ls_s (ls_s (ls_s ls_0))) ?_
    refine go_iconst 102 (v := 1) dX9_plays_101 rfl (by decide) ?_
    refine go_isub 103 dX9_plays_102 rfl ?_
    refine go_top (y := (nI (w - 1))) (by rw [show (1 : Int32) = nI 1 from rfl]; exact pk_sub (by omega)) ?_
    refine go_icmp_ne 111 106 dX9_plays_103 (by decide) rfl (fun c_103 => ?_) (fun c_103 => ?_)
    · refine go_bipush 113 (v := 44) dX9_plays_111 rfl (by decide) ?_
      refine go_top (y := (clS n)) (by rw [clS, if_neg (fun z => c_103 (by rw [show w - 1 = i by omega]))]) ?_
      refine go_V (M' := mX9_number) 116 dX9_plays_113 rfl w_984 okX9_number ⟨Nat.le_of_ble_eq_true rfl, Nat.le_of_ble_eq_true rfl⟩ rfl rfl (Nat.le_of_ble_eq_true rfl) (Nat.le_of_ble_eq_true rfl) (m_number G hL80 (hM.out ho) (i := i) (p0 := p) (by omega) (by omega) (clS_p n) h7) rfl rfl (Nat.le_of_ble_eq_true rfl) o335 (by decide) rfl (fun v_113 h_113 p_113 => ?_)
      obtain ⟨rfl, g2, rfl, u1, u2, u3, u4⟩ := p_113
      have hle := nmF_le T L p
      by_cases hcd : p < (nmF T L p).2 ∧ sg T L (nmF T L p).2 = clS n
      · refine go_top (y := (1)) (bI_1 hcd).symm ?_
        refine go_istore 118 dX9_plays_116 rfl (by decide) (st_s (st_s (st_s (st_s st_0)))) ?_
        refine go_iinc 121 (v := (nI (i + 1))) dX9_plays_118 rfl (ls_s (ls_s (ls_s (ls_s (ls_s ls_0))))) (by exact nI_1 i) (by decide) (st_s (st_s (st_s (st_s (st_s st_0))))) ?_
        refine go_goto 84 dX9_plays_121 (by decide) ?_
        rw [nbF_t hcd] at kk
        exact ih (i + 1) _ _ _ (by omega) kk (by omega) u2 (ho.trans u1) (fun j hj => by
          by_cases e : j = i
          · subst e; rw [upd_eq, u3]
          · rw [upd_ne e, u4 j e]; exact hE j (by omega))
      · refine go_top (y := (0)) (bI_0 hcd).symm ?_
        refine go_istore 118 dX9_plays_116 rfl (by decide) (st_s (st_s (st_s (st_s st_0)))) ?_
        refine go_iinc 121 (v := (nI (i + 1))) dX9_plays_118 rfl (ls_s (ls_s (ls_s (ls_s (ls_s ls_0))))) (by exact nI_1 i) (by decide) (st_s (st_s (st_s (st_s (st_s st_0))))) ?_
        refine go_goto 84 dX9_plays_121 (by decide) ?_
        refine go_iload 86 dX9_plays_84 rfl (ls_s (ls_s (ls_s (ls_s (ls_s ls_0))))) ?_
        refine go_iload_n 87 dX9_plays_86 rfl rfl (ls_s (ls_s (ls_s ls_0))) ?_
        refine go_icmp_ge 124 90 dX9_plays_87 (by decide) rfl (fun c_87 => ?_) (fun c_87 => ?_)
        · refine go_less (le_k (le_k (le_k (le_k (le_k (le_n le_0)))))) ?_
          exact kk _ _ ⟨ho.trans u1, ⟨_, by omega, u2⟩, Or.inl ⟨nbF_f hcd, rfl⟩⟩
        · refine go_iload 92 dX9_plays_90 rfl (ls_s (ls_s (ls_s (ls_s ls_0)))) ?_
          refine go_if_eq 124 95 dX9_plays_92 (by decide) rfl (fun c_92 => ?_) (fun c_92 => absurd c_92 (by decide))
          refine go_less (le_k (le_k (le_k (le_k (le_k (le_n le_0)))))) ?_
          exact kk _ _ ⟨ho.trans u1, ⟨_, by omega, u2⟩, Or.inl ⟨nbF_f hcd, rfl⟩⟩
    · refine go_bipush 108 (v := 59) dX9_plays_106 rfl (by decide) ?_
      refine go_goto 113 dX9_plays_108 (by decide) ?_
      refine go_top (y := (clS n)) (by rw [clS, if_pos (by have := nI_in_r (by omega) (by omega) c_103; omega)]) ?_
      refine go_V (M' := mX9_number) 116 dX9_plays_113 rfl w_984 okX9_number ⟨Nat.le_of_ble_eq_true rfl, Nat.le_of_ble_eq_true rfl⟩ rfl rfl (Nat.le_of_ble_eq_true rfl) (Nat.le_of_ble_eq_true rfl) (m_number G hL80 (hM.out ho) (i := i) (p0 := p) (by omega) (by omega) (clS_p n) h7) rfl rfl (Nat.le_of_ble_eq_true rfl) o335 (by decide) rfl (fun v_113 h_113 p_113 => ?_)
      obtain ⟨rfl, g2, rfl, u1, u2, u3, u4⟩ := p_113
      have hle := nmF_le T L p
      by_cases hcd : p < (nmF T L p).2 ∧ sg T L (nmF T L p).2 = clS n
      · refine go_top (y := (1)) (bI_1 hcd).symm ?_
        refine go_istore 118 dX9_plays_116 rfl (by decide) (st_s (st_s (st_s (st_s st_0)))) ?_
        refine go_iinc 121 (v := (nI (i + 1))) dX9_plays_118 rfl (ls_s (ls_s (ls_s (ls_s (ls_s ls_0))))) (by exact nI_1 i) (by decide) (st_s (st_s (st_s (st_s (st_s st_0))))) ?_
        refine go_goto 84 dX9_plays_121 (by decide) ?_
        rw [nbF_t hcd] at kk
        exact ih (i + 1) _ _ _ (by omega) kk (by omega) u2 (ho.trans u1) (fun j hj => by
          by_cases e : j = i
          · subst e; rw [upd_eq, u3]
          · rw [upd_ne e, u4 j e]; exact hE j (by omega))
      · refine go_top (y := (0)) (bI_0 hcd).symm ?_
        refine go_istore 118 dX9_plays_116 rfl (by decide) (st_s (st_s (st_s (st_s st_0)))) ?_
        refine go_iinc 121 (v := (nI (i + 1))) dX9_plays_118 rfl (ls_s (ls_s (ls_s (ls_s (ls_s ls_0))))) (by exact nI_1 i) (by decide) (st_s (st_s (st_s (st_s (st_s st_0))))) ?_
        refine go_goto 84 dX9_plays_121 (by decide) ?_
        refine go_iload 86 dX9_plays_84 rfl (ls_s (ls_s (ls_s (ls_s (ls_s ls_0))))) ?_
        refine go_iload_n 87 dX9_plays_86 rfl rfl (ls_s (ls_s (ls_s ls_0))) ?_
        refine go_icmp_ge 124 90 dX9_plays_87 (by decide) rfl (fun c_87 => ?_) (fun c_87 => ?_)
        · refine go_less (le_k (le_k (le_k (le_k (le_k (le_n le_0)))))) ?_
          exact kk _ _ ⟨ho.trans u1, ⟨_, by omega, u2⟩, Or.inl ⟨nbF_f hcd, rfl⟩⟩
        · refine go_iload 92 dX9_plays_90 rfl (ls_s (ls_s (ls_s (ls_s ls_0)))) ?_
          refine go_if_eq 124 95 dX9_plays_92 (by decide) rfl (fun c_92 => ?_) (fun c_92 => absurd c_92 (by decide))
          refine go_less (le_k (le_k (le_k (le_k (le_k (le_n le_0)))))) ?_
          exact kk _ _ ⟨ho.trans u1, ⟨_, by omega, u2⟩, Or.inl ⟨nbF_f hcd, rfl⟩⟩
def pPl (g0 : GI) (R : Option (Nat × Int32) × Nat × AA) : Option Value → BcH → Prop := fun v h' => ∃ gi, h' = hp gi ∧ (∀ k, k ≠ 335 → k ≠ 336 → k ≠ 340 → gi k = g0 k) ∧ gi 335 3 = g0 335 3 ∧ gi 335 6 = g0 335 6 ∧ gi 335 4 = 0 ∧ gi 336 = R.2.2 ∧ ((R.1 = none ∧ v = some (.int (-4)) ∧ gi 335 9 = nI R.2.1) ∨ ∃ q, R.1 = some q ∧ v = some (.int (nI q.1)) ∧ gi 335 8 = q.2 ∧ ¬ q.2 = 0)
def OutQ (g0 gi : GI) : Prop := (∀ k, k ≠ 335 → k ≠ 336 → k ≠ 340 → gi k = g0 k) ∧ gi 335 3 = g0 335 3 ∧ gi 335 6 = g0 335 6
theorem pPl_f {g0 gi : GI} {R : Option (Nat × Int32) × Nat × AA} {p : Nat} {z x : Int32} {c : Nat} {A : AA} (hR : R = (some (p, z), c, A)) (o : OutQ g0 gi) (h8 : gi 335 8 = z) (hz : ¬ z = 0) (hA : gi 336 = A) (hx : x = nI p) : pPl g0 R (some (.int x)) (hp (wI gi 335 4 0)) := by
  subst hR
  exact ⟨_, rfl, fun k h1 h2 h3 => by rw [wI_row h1]; exact o.1 k h1 h2 h3, by rw [wI_ne (by omega)]; exact o.2.1, by rw [wI_ne (by omega)]; exact o.2.2, by rw [wI_eq], by rw [wI_row (by decide)]; exact hA, Or.inr ⟨_, rfl, by rw [hx], by rw [wI_ne (by omega)]; exact h8, hz⟩⟩
theorem pPl_n {g0 gi : GI} {R : Option (Nat × Int32) × Nat × AA} {c : Nat} {A : AA} (hR : R = (none, c, A)) (o : OutQ g0 gi) (h9 : gi 335 9 = nI c) (hA : gi 336 = A) : pPl g0 R (some (.int (-4))) (hp (wI gi 335 4 0)) := by
  subst hR
  exact ⟨_, rfl, fun k h1 h2 h3 => by rw [wI_row h1]; exact o.1 k h1 h2 h3, by rw [wI_ne (by omega)]; exact o.2.1, by rw [wI_ne (by omega)]; exact o.2.2, by rw [wI_eq], by rw [wI_row (by decide)]; exact hA, Or.inl ⟨rfl, rfl, by rw [wI_ne (by omega)]; exact h9⟩⟩
set_option maxHeartbeats 4000000 in
set_option maxRecDepth 100000 in
theorem lm_out (G : BcG) {gi : GI} {fr z : Int32} {post : Option Value → BcH → Prop} (h8 : gi 335 8 = z) (hz : ¬ z = 0) (hpost : post (some (.int fr)) (hp (wI gi 335 4 0))) : BGo G mX9_plays (KM G mX9_plays 341 post) (hp gi) 0 0 22 [some (.ref (G.1 + 335)), some (.int fr), none, none, none, none] [] := by
  refine go_aload_n 23 dX9_plays_22 rfl rfl ls_0 ?_
  refine gp_getI 26 dX9_plays_23 rfl f_X9_127 rfl o335 ?_
  refine go_aload_n 27 dX9_plays_26 rfl rfl ls_0 ?_
  refine gp_getI 30 dX9_plays_27 rfl f_X9_121 rfl o335 ?_
  refine go_icmp_ge 186 33 dX9_plays_30 (by decide) rfl (fun c_30 => ?_) (fun c_30 => ?_)
  · refine go_aload_n 187 dX9_plays_186 rfl rfl ls_0 ?_
    refine go_iconst 188 (v := 0) dX9_plays_187 rfl (by decide) ?_
    refine gp_putI 191 dX9_plays_188 rfl f_X9_25 rfl o335 rfl rfl ?_
    refine go_aload_n 192 dX9_plays_191 rfl rfl ls_0 ?_
    refine gp_getI 195 dX9_plays_192 rfl f_X9_154 rfl o335 ?_
    refine go_top (y := z) (by rw [wI_ne (by omega)]; exact h8) ?_
    refine go_if_ne 203 198 dX9_plays_195 (by decide) rfl (fun c_195 => ?_) (fun c_195 => absurd c_195 hz)
    refine go_iload_n 204 dX9_plays_203 rfl rfl (ls_s ls_0) ?_
    exact go_ret_i dX9_plays_204 rfl rfl rfl hpost
  · refine go_aload_n 34 dX9_plays_33 rfl rfl ls_0 ?_
    refine gp_getI 37 dX9_plays_34 rfl f_X9_154 rfl o335 ?_
    refine go_top (y := z) h8 ?_
    refine go_if_ne 186 40 dX9_plays_37 (by decide) rfl (fun c_37 => ?_) (fun c_37 => absurd c_37 hz)
    refine go_aload_n 187 dX9_plays_186 rfl rfl ls_0 ?_
    refine go_iconst 188 (v := 0) dX9_plays_187 rfl (by decide) ?_
    refine gp_putI 191 dX9_plays_188 rfl f_X9_25 rfl o335 rfl rfl ?_
    refine go_aload_n 192 dX9_plays_191 rfl rfl ls_0 ?_
    refine gp_getI 195 dX9_plays_192 rfl f_X9_154 rfl o335 ?_
    refine go_top (y := z) (by rw [wI_ne (by omega)]; exact h8) ?_
    refine go_if_ne 203 198 dX9_plays_195 (by decide) rfl (fun c_195 => ?_) (fun c_195 => absurd c_195 hz)
    refine go_iload_n 204 dX9_plays_203 rfl rfl (ls_s ls_0) ?_
    exact go_ret_i dX9_plays_204 rfl rfl rfl hpost
set_option maxHeartbeats 4000000 in
set_option maxRecDepth 100000 in
theorem lm_plays (G : BcG) {g0 : GI} {N : Nat} (hN : N + 8000 < 100000000) {T : TX} {L : Nat} (hL80 : L ≤ 80) (hM : MX T L g0) : ∀ (n t : Nat) (p : Nat) (A : AA) (fr : Int32) (gi : GI), t + n = 80 → (2 * t ≤ p) → (p ≤ L) → (gi 335 4 = 1) → (gi 335 7 = nI p) → (gi 335 8 = 0) → (gi 335 9 = nI t) → (gi 336 = A) → (Inv (N + 99 * t) A) → (OutQ g0 gi) → (fr = fr) → BGo G mX9_plays (KM G mX9_plays 341 (pPl g0 (plF T L n p A t))) (hp gi) 0 0 22 [some (.ref (G.1 + 335)), some (.int fr), none, none, none, none] [] := by
  intro n
  induction n with
  | zero =>
    intro t p A fr gi hn hpt hpL h4 h7 h8 h9 hA hI oq fr0
    exact absurd hpt (by omega)
  | succ n ih =>
    intro t p A fr gi hn hpt hpL h4 h7 h8 h9 hA hI oq fr0
    refine go_aload_n 23 dX9_plays_22 rfl rfl ls_0 ?_
    refine gp_getI 26 dX9_plays_23 rfl f_X9_127 rfl o335 ?_
    refine go_top (y := (nI p)) h7 ?_
    refine go_aload_n 27 dX9_plays_26 rfl rfl ls_0 ?_
    refine gp_getI 30 dX9_plays_27 rfl f_X9_121 rfl o335 ?_
    refine go_top (y := (nI L)) (oq.2.2.trans hM.1) ?_
    refine go_icmp_ge 186 33 dX9_plays_30 (by decide) rfl (fun c_30 => ?_) (fun c_30 => ?_)
    · refine go_aload_n 187 dX9_plays_186 rfl rfl ls_0 ?_
      refine go_iconst 188 (v := 0) dX9_plays_187 rfl (by decide) ?_
      refine gp_putI 191 dX9_plays_188 rfl f_X9_25 rfl o335 rfl rfl ?_
      refine go_aload_n 192 dX9_plays_191 rfl rfl ls_0 ?_
      refine gp_getI 195 dX9_plays_192 rfl f_X9_154 rfl o335 ?_
      refine go_top (y := (0)) (by rw [wI_ne (by omega)]; exact h8) ?_
      refine go_if_ne 203 198 dX9_plays_195 (by decide) rfl (fun c_195 => absurd c_195 (by decide)) (fun c_195 => ?_)
      refine go_bipush 200 (v := (-4)) dX9_plays_198 rfl (by decide) ?_
      refine go_goto 204 dX9_plays_200 (by decide) ?_
      exact go_ret_i dX9_plays_204 rfl rfl rfl (pPl_n (plF_x (fun z => nI_ge z (by omega) c_30)) oq h9 hA)
    · refine go_aload_n 34 dX9_plays_33 rfl rfl ls_0 ?_
      refine gp_getI 37 dX9_plays_34 rfl f_X9_154 rfl o335 ?_
      refine go_top (y := (0)) h8 ?_
      refine go_if_ne 186 40 dX9_plays_37 (by decide) rfl (fun c_37 => absurd c_37 (by decide)) (fun c_37 => ?_)
      have hlt : p < L := Nat.lt_of_not_le (fun z => c_30 (nI_le z (by omega)))
      have hMg : MX T L gi := ⟨oq.2.2.trans hM.1, fun j hj => by rw [oq.1 339 (by decide) (by decide) (by decide)]; exact hM.2 j hj⟩
      refine go_aload_n 41 dX9_plays_40 rfl rfl ls_0 ?_
      refine gp_getI 44 dX9_plays_41 rfl f_X9_127 rfl o335 ?_
      refine go_top (y := (nI p)) h7 ?_
      refine go_istore_n 45 dX9_plays_44 rfl rfl (by decide) (st_s st_0) ?_
      refine go_aload_n 46 dX9_plays_45 rfl rfl ls_0 ?_
      refine gp_getR 49 dX9_plays_46 rfl f_X9_19 rfl o335 rfl ?_
      refine go_aload_n 50 dX9_plays_49 rfl rfl ls_0 ?_
      refine gp_getI 53 dX9_plays_50 rfl f_X9_127 rfl o335 ?_
      refine go_top (y := (nI p)) h7 ?_
      refine gp_ialdN 54 (i := p) dX9_plays_53 rfl a339 rfl (by omega) (by decide) ?_
      refine go_top (y := (sg T L p)) ((hMg.2 p hlt).trans (sg_t hlt).symm) ?_
      refine go_istore_n 55 dX9_plays_54 rfl rfl (by decide) (st_s (st_s st_0)) ?_
      refine go_iload_n 56 dX9_plays_55 rfl rfl (ls_s (ls_s ls_0)) ?_
      refine go_SI (M' := mX9_numbersOf) 59 dX9_plays_56 rfl w_981 okX9_numbersOf ⟨Nat.le_of_ble_eq_true rfl, Nat.le_of_ble_eq_true rfl⟩ (m_numbersOf G gi _) rfl rfl (kk := ?_)
      refine go_istore_n 60 dX9_plays_59 rfl rfl (by decide) (st_s (st_s (st_s st_0))) ?_
      refine go_aload_n 61 dX9_plays_60 rfl rfl ls_0 ?_
      refine go_dup 62 dX9_plays_61 rfl rfl ?_
      refine gp_getI 65 dX9_plays_62 rfl f_X9_127 rfl o335 ?_
      refine go_top (y := (nI p)) h7 ?_
      refine go_iconst 66 (v := 1) dX9_plays_65 rfl (by decide) ?_
      refine go_iadd 67 dX9_plays_66 rfl ?_
      refine go_top (y := (nI (p + 1))) (nI_1 _) ?_
      refine gp_putI 70 dX9_plays_67 rfl f_X9_127 rfl o335 rfl rfl ?_
      refine go_iload_n 71 dX9_plays_70 rfl rfl (ls_s (ls_s (ls_s ls_0))) ?_
      refine go_if_le 78 74 dX9_plays_71 (by decide) rfl (fun c_71 => ?_) (fun c_71 => ?_)
      · refine go_iconst 79 (v := 0) dX9_plays_78 rfl (by decide) ?_
        refine go_istore 81 dX9_plays_79 rfl (by decide) (st_s (st_s (st_s (st_s st_0)))) ?_
        refine go_iconst 82 (v := 0) dX9_plays_81 rfl (by decide) ?_
        refine go_istore 84 dX9_plays_82 rfl (by decide) (st_s (st_s (st_s (st_s (st_s st_0))))) ?_
        refine go_iload 86 dX9_plays_84 rfl (ls_s (ls_s (ls_s (ls_s (ls_s ls_0))))) ?_
        refine go_iload_n 87 dX9_plays_86 rfl rfl (ls_s (ls_s (ls_s ls_0))) ?_
        refine go_icmp_ge 124 90 dX9_plays_87 (by decide) rfl (fun c_87 => ?_) (fun c_87 => absurd c_71 c_87)
        refine go_iload 126 dX9_plays_124 rfl (ls_s (ls_s (ls_s (ls_s ls_0)))) ?_
        refine go_if_eq 137 129 dX9_plays_126 (by decide) rfl (fun c_126 => ?_) (fun c_126 => absurd c_126 (by decide))
        refine go_iconst 138 (v := 0) dX9_plays_137 rfl (by decide) ?_
        refine go_istore 140 dX9_plays_138 rfl (by decide) (st_s (st_s (st_s (st_s (st_s st_0))))) ?_
        refine go_aload_n 141 dX9_plays_140 rfl rfl ls_0 ?_
        refine go_iload 143 dX9_plays_141 rfl (ls_s (ls_s (ls_s (ls_s ls_0)))) ?_
        refine go_if_ne 150 146 dX9_plays_143 (by decide) rfl (fun c_143 => absurd c_143 (by decide)) (fun c_143 => ?_)
        refine go_iconst 147 (v := 1) dX9_plays_146 rfl (by decide) ?_
        refine go_goto 170 dX9_plays_147 (by decide) ?_
        refine gp_putI 173 dX9_plays_170 rfl f_X9_154 rfl o335 rfl rfl ?_
        refine go_aload_n 174 dX9_plays_173 rfl rfl ls_0 ?_
        refine go_dup 175 dX9_plays_174 rfl rfl ?_
        refine gp_getI 178 dX9_plays_175 rfl f_X9_151 rfl o335 ?_
        refine go_top (y := (nI t)) (by rw [wI_ne (by omega), wI_ne (by omega)]; exact h9) ?_
        refine go_iconst 179 (v := 1) dX9_plays_178 rfl (by decide) ?_
        refine go_iadd 180 dX9_plays_179 rfl ?_
        refine go_top (y := (nI (t + 1))) (nI_1 _) ?_
        refine gp_putI 183 dX9_plays_180 rfl f_X9_151 rfl o335 rfl rfl ?_
        refine go_goto 22 dX9_plays_183 (by decide) ?_
        refine go_less (le_k (le_k (le_n (le_n (le_n (le_n le_0)))))) ?_
        have n1 : cdF T L p = none := by rw [cdF, if_pos]; rcases Nat.eq_zero_or_pos (mny (sg T L p)) with e | e; exact e; exact absurd c_71 (nI_ge e (by have := mny_3 (sg T L p); omega))
        exact lm_out G (z := 1) (by rw [wI_ne (by omega), wI_eq]) (by decide) (pPl_f (plF_n hlt n1) ⟨fun k h1 h2 h3 => by rw [wI_row h1, wI_row h1, wI_row h1]; exact oq.1 k h1 h2 h3, by rw [wI_ne (by omega), wI_ne (by omega), wI_ne (by omega)]; exact oq.2.1, by rw [wI_ne (by omega), wI_ne (by omega), wI_ne (by omega)]; exact oq.2.2⟩ (by rw [wI_ne (by omega), wI_eq]) (by decide) (by rw [wI_row (by decide), wI_row (by decide), wI_row (by decide)]; exact hA) rfl)
      · refine go_iconst 75 (v := 1) dX9_plays_74 rfl (by decide) ?_
        refine go_goto 79 dX9_plays_75 (by decide) ?_
        refine go_istore 81 dX9_plays_79 rfl (by decide) (st_s (st_s (st_s (st_s st_0)))) ?_
        refine go_iconst 82 (v := 0) dX9_plays_81 rfl (by decide) ?_
        refine go_istore 84 dX9_plays_82 rfl (by decide) (st_s (st_s (st_s (st_s (st_s st_0))))) ?_
        have hw0 : 0 < mny (sg T L p) := Nat.lt_of_not_le (fun z => c_71 (nI_le z (by decide)))
        refine lm_nums G (T := T) (L := L) (g0 := (wI gi 335 7 (nI (p + 1)))) hL80 ⟨by rw [wI_ne (by omega)]; exact hMg.1, fun j hj => by rw [wI_row (by decide)]; exact hMg.2 j hj⟩ (mny_3 (sg T L p)) (mny (sg T L p)) 0 (p + 1) (fun _ => 0) _ (Nat.zero_add _) (fun g2 x hns => ?_) (by omega) (by rw [wI_eq]) (OutU.rf _) (fun j hj => absurd hj (Nat.not_lt_zero _))
        have ecd : cdF T L p = nbF T L (mny (sg T L p)) 0 (p + 1) (fun _ => 0) := by rw [cdF, if_neg (by omega)]
        rw [← ecd] at hns
        obtain ⟨ou, ⟨sp, hsp, h7s⟩, hns⟩ := hns
        have w4 : g2 335 4 = 1 := by rw [ou.2 4 (by decide), wI_ne (by omega)]; exact h4
        have wA : g2 336 = A := by rw [ou.1 336 (by decide) (by decide), wI_row (by decide)]; exact hA
        have w9 : g2 335 9 = nI t := by rw [ou.2 9 (by decide), wI_ne (by omega)]; exact h9
        have w3 : g2 335 3 = g0 335 3 := by rw [ou.2 3 (by decide), wI_ne (by omega)]; exact oq.2.1
        have w6 : g2 335 6 = g0 335 6 := by rw [ou.2 6 (by decide), wI_ne (by omega)]; exact oq.2.2
        have wk : ∀ k, k ≠ 335 → k ≠ 336 → k ≠ 340 → g2 k = g0 k := fun k h1 h2 h3 => by rw [ou.1 k h1 h3, wI_row h1]; exact oq.1 k h1 h2 h3
        rcases hns with ⟨n1, rfl⟩ | ⟨q, n1, rfl, n2, n3⟩
        · refine go_iload 126 dX9_plays_124 rfl (ls_s (ls_s (ls_s (ls_s ls_0)))) ?_
          refine go_if_eq 137 129 dX9_plays_126 (by decide) rfl (fun c_126 => ?_) (fun c_126 => absurd c_126 (by decide))
          refine go_iconst 138 (v := 0) dX9_plays_137 rfl (by decide) ?_
          refine go_istore 140 dX9_plays_138 rfl (by decide) (st_s (st_s (st_s (st_s (st_s st_0))))) ?_
          refine go_aload_n 141 dX9_plays_140 rfl rfl ls_0 ?_
          refine go_iload 143 dX9_plays_141 rfl (ls_s (ls_s (ls_s (ls_s ls_0)))) ?_
          refine go_if_ne 150 146 dX9_plays_143 (by decide) rfl (fun c_143 => absurd c_143 (by decide)) (fun c_143 => ?_)
          refine go_iconst 147 (v := 1) dX9_plays_146 rfl (by decide) ?_
          refine go_goto 170 dX9_plays_147 (by decide) ?_
          refine gp_putI 173 dX9_plays_170 rfl f_X9_154 rfl o335 rfl rfl ?_
          refine go_aload_n 174 dX9_plays_173 rfl rfl ls_0 ?_
          refine go_dup 175 dX9_plays_174 rfl rfl ?_
          refine gp_getI 178 dX9_plays_175 rfl f_X9_151 rfl o335 ?_
          refine go_top (y := (nI t)) (by rw [wI_ne (by omega)]; exact w9) ?_
          refine go_iconst 179 (v := 1) dX9_plays_178 rfl (by decide) ?_
          refine go_iadd 180 dX9_plays_179 rfl ?_
          refine go_top (y := (nI (t + 1))) (nI_1 _) ?_
          refine gp_putI 183 dX9_plays_180 rfl f_X9_151 rfl o335 rfl rfl ?_
          refine go_goto 22 dX9_plays_183 (by decide) ?_
          refine go_less (le_k (le_k (le_n (le_n (le_n (le_n le_0)))))) ?_
          exact lm_out G (z := 1) (by rw [wI_ne (by omega), wI_eq]) (by decide) (pPl_f (plF_n hlt n1) ⟨fun k h1 h2 h3 => by rw [wI_row h1, wI_row h1]; exact wk k h1 h2 h3, by rw [wI_ne (by omega), wI_ne (by omega)]; exact w3, by rw [wI_ne (by omega), wI_ne (by omega)]; exact w6⟩ (by rw [wI_ne (by omega), wI_eq]) (by decide) (by rw [wI_row (by decide), wI_row (by decide)]; exact wA) rfl)
        · have hcd := cdF_in n1
          have hok := ok_ex (sg T L p) q.2 hI (by omega)
          refine go_iload 126 dX9_plays_124 rfl (ls_s (ls_s (ls_s (ls_s ls_0)))) ?_
          refine go_if_eq 137 129 dX9_plays_126 (by decide) rfl (fun c_126 => absurd c_126 (by decide)) (fun c_126 => ?_)
          refine go_aload_n 130 dX9_plays_129 rfl rfl ls_0 ?_
          refine go_iload_n 131 dX9_plays_130 rfl rfl (ls_s (ls_s ls_0)) ?_
          refine go_V (M' := mX9_calls) 134 dX9_plays_131 rfl w_992 okX9_calls ⟨Nat.le_of_ble_eq_true rfl, Nat.le_of_ble_eq_true rfl⟩ rfl rfl (Nat.le_of_ble_eq_true rfl) (Nat.le_of_ble_eq_true rfl) (m_calls G (H := []) (by rw [wA]; exact hI) (Nat.zero_le _) (fun z => absurd (w4.symm.trans z) (by decide)) hcd.1 n3) rfl rfl (Nat.le_of_ble_eq_true rfl) o335 (by decide) rfl (fun v_131 h_131 p_131 => ?_)
          obtain ⟨rfl, g3, rfl, r1, r2, r3, r4⟩ := p_131
          rw [wA] at r1
          have r5 := r4.1 (by rw [w4]; decide)
          refine go_goto 138 dX9_plays_134 (by decide) ?_
          refine go_istore 140 dX9_plays_138 rfl (by decide) (st_s (st_s (st_s (st_s (st_s st_0))))) ?_
          refine go_aload_n 141 dX9_plays_140 rfl rfl ls_0 ?_
          refine go_iload 143 dX9_plays_141 rfl (ls_s (ls_s (ls_s (ls_s ls_0)))) ?_
          refine go_if_ne 150 146 dX9_plays_143 (by decide) rfl (fun c_143 => ?_) (fun c_143 => absurd c_143 (by decide))
          refine go_iload 152 dX9_plays_150 rfl (ls_s (ls_s (ls_s (ls_s (ls_s ls_0))))) ?_
          refine go_if_lt 159 155 dX9_plays_152 (by decide) rfl (fun c_152 => ?_) (fun c_152 => ?_)
          · refine go_iload 161 dX9_plays_159 rfl (ls_s (ls_s (ls_s (ls_s (ls_s ls_0))))) ?_
            refine go_iconst 162 (v := (-1)) dX9_plays_161 rfl (by decide) ?_
            refine go_icmp_ne 169 165 dX9_plays_162 (by decide) rfl (fun c_162 => ?_) (fun c_162 => ?_)
            · refine go_iconst 170 (v := 3) dX9_plays_169 rfl (by decide) ?_
              refine gp_putI 173 dX9_plays_170 rfl f_X9_154 rfl o335 rfl rfl ?_
              refine go_aload_n 174 dX9_plays_173 rfl rfl ls_0 ?_
              refine go_dup 175 dX9_plays_174 rfl rfl ?_
              refine gp_getI 178 dX9_plays_175 rfl f_X9_151 rfl o335 ?_
              refine go_top (y := (nI t)) (by rw [wI_ne (by omega), r3 9 (by decide)]; exact w9) ?_
              refine go_iconst 179 (v := 1) dX9_plays_178 rfl (by decide) ?_
              refine go_iadd 180 dX9_plays_179 rfl ?_
              refine go_top (y := (nI (t + 1))) (nI_1 _) ?_
              refine gp_putI 183 dX9_plays_180 rfl f_X9_151 rfl o335 rfl rfl ?_
              refine go_goto 22 dX9_plays_183 (by decide) ?_
              refine go_less (le_k (le_k (le_n (le_n (le_n (le_n le_0)))))) ?_
              have hnn : (exF A (sg T L p) q.2).1 < 0 := by rw [← wA]; exact c_152
              have ez : (3 : Int32) = cIf ((exF A (sg T L p) q.2).1 = -1) 2 3 := (cIf_f (by rw [← wA]; exact c_162)).symm
              exact lm_out G (z := 3) (by rw [wI_ne (by omega), wI_eq]) (by decide) (pPl_f (plF_e hlt n1 hnn) ⟨fun k h1 h2 h3 => by rw [wI_row h1, wI_row h1]; by_cases e : k = 337; subst e; rw [r5.2]; exact wk 337 (by decide) (by decide) (by decide); rw [r2 k h1 h2 e]; exact wk k h1 h2 h3, by rw [wI_ne (by omega), wI_ne (by omega)]; exact r5.1.trans w3, by rw [wI_ne (by omega), wI_ne (by omega)]; exact (r3 6 (by decide)).trans w6⟩ (by rw [wI_ne (by omega), wI_eq]; exact ez) (by rw [← ez]; decide) (by rw [wI_row (by decide), wI_row (by decide)]; exact r1.trans (hok.2 hnn)) rfl)
            · refine go_iconst 166 (v := 2) dX9_plays_165 rfl (by decide) ?_
              refine go_goto 170 dX9_plays_166 (by decide) ?_
              refine gp_putI 173 dX9_plays_170 rfl f_X9_154 rfl o335 rfl rfl ?_
              refine go_aload_n 174 dX9_plays_173 rfl rfl ls_0 ?_
              refine go_dup 175 dX9_plays_174 rfl rfl ?_
              refine gp_getI 178 dX9_plays_175 rfl f_X9_151 rfl o335 ?_
              refine go_top (y := (nI t)) (by rw [wI_ne (by omega), r3 9 (by decide)]; exact w9) ?_
              refine go_iconst 179 (v := 1) dX9_plays_178 rfl (by decide) ?_
              refine go_iadd 180 dX9_plays_179 rfl ?_
              refine go_top (y := (nI (t + 1))) (nI_1 _) ?_
              refine gp_putI 183 dX9_plays_180 rfl f_X9_151 rfl o335 rfl rfl ?_
              refine go_goto 22 dX9_plays_183 (by decide) ?_
              refine go_less (le_k (le_k (le_n (le_n (le_n (le_n le_0)))))) ?_
              have hnn : (exF A (sg T L p) q.2).1 < 0 := by rw [← wA]; exact c_152
              have ez : (2 : Int32) = cIf ((exF A (sg T L p) q.2).1 = -1) 2 3 := (cIf_t (by rw [← wA]; exact c_162)).symm
              exact lm_out G (z := 2) (by rw [wI_ne (by omega), wI_eq]) (by decide) (pPl_f (plF_e hlt n1 hnn) ⟨fun k h1 h2 h3 => by rw [wI_row h1, wI_row h1]; by_cases e : k = 337; subst e; rw [r5.2]; exact wk 337 (by decide) (by decide) (by decide); rw [r2 k h1 h2 e]; exact wk k h1 h2 h3, by rw [wI_ne (by omega), wI_ne (by omega)]; exact r5.1.trans w3, by rw [wI_ne (by omega), wI_ne (by omega)]; exact (r3 6 (by decide)).trans w6⟩ (by rw [wI_ne (by omega), wI_eq]; exact ez) (by rw [← ez]; decide) (by rw [wI_row (by decide), wI_row (by decide)]; exact r1.trans (hok.2 hnn)) rfl)
          · refine go_iconst 156 (v := 0) dX9_plays_155 rfl (by decide) ?_
            refine go_goto 170 dX9_plays_156 (by decide) ?_
            refine gp_putI 173 dX9_plays_170 rfl f_X9_154 rfl o335 rfl rfl ?_
            refine go_aload_n 174 dX9_plays_173 rfl rfl ls_0 ?_
            refine go_dup 175 dX9_plays_174 rfl rfl ?_
            refine gp_getI 178 dX9_plays_175 rfl f_X9_151 rfl o335 ?_
            refine go_top (y := (nI t)) (by rw [wI_ne (by omega), r3 9 (by decide)]; exact w9) ?_
            refine go_iconst 179 (v := 1) dX9_plays_178 rfl (by decide) ?_
            refine go_iadd 180 dX9_plays_179 rfl ?_
            refine go_top (y := (nI (t + 1))) (nI_1 _) ?_
            refine gp_putI 183 dX9_plays_180 rfl f_X9_151 rfl o335 rfl rfl ?_
            refine go_goto 22 dX9_plays_183 (by decide) ?_
            refine go_less (le_k (le_k (le_n (le_n (le_n (le_n le_0)))))) ?_
            have hnn : ¬ (exF A (sg T L p) q.2).1 < 0 := by rw [← wA]; exact c_152
            rw [plF_s hlt n1 hnn]
            exact ih (t + 1) q.1 _ _ _ (by omega) (by omega) hcd.2.1 (by rw [wI_ne (by omega), wI_ne (by omega), r3 4 (by decide)]; exact w4) (by rw [wI_ne (by omega), wI_ne (by omega), r3 7 (by decide)]; exact n2) (by rw [wI_ne (by omega), wI_eq]) (by rw [wI_eq]) (by rw [wI_row (by decide), wI_row (by decide)]; exact r1) (by rw [show N + 99 * (t + 1) = N + 99 * t + 99 by omega]; exact hok.1) ⟨fun k h1 h2 h3 => by rw [wI_row h1, wI_row h1]; by_cases e : k = 337; subst e; rw [r5.2]; exact wk 337 (by decide) (by decide) (by decide); rw [r2 k h1 h2 e]; exact wk k h1 h2 h3, by rw [wI_ne (by omega), wI_ne (by omega)]; exact r5.1.trans w3, by rw [wI_ne (by omega), wI_ne (by omega)]; exact (r3 6 (by decide)).trans w6⟩ rfl
set_option maxHeartbeats 4000000 in
set_option maxRecDepth 100000 in
theorem m_plays (G : BcG) {gi : GI} {N : Nat} (I : Inv N (gi 336)) (hN : N + 8000 < 100000000) {T : TX} {L : Nat} (hL80 : L ≤ 80) (hM : MX T L gi) : Ct G mX9_plays [.ref (G.1 + 335)] (hp gi) (pPl gi (plF T L 80 0 (gi 336) 0)) := by
  refine ct_of [some (.ref (G.1 + 335)), none, none, none, none, none] w_10 (by decide) rfl (Nat.le_of_ble_eq_true rfl) rfl ?_
  refine go_aload_n 1 dX9_plays_0 rfl rfl ls_0 ?_
  refine go_iconst 2 (v := 1) dX9_plays_1 rfl (by decide) ?_
  refine gp_putI 5 dX9_plays_2 rfl f_X9_25 rfl o335 rfl rfl ?_
  refine go_aload_n 6 dX9_plays_5 rfl rfl ls_0 ?_
  refine go_iconst 7 (v := 0) dX9_plays_6 rfl (by decide) ?_
  refine gp_putI 10 dX9_plays_7 rfl f_X9_127 rfl o335 rfl rfl ?_
  refine go_aload_n 11 dX9_plays_10 rfl rfl ls_0 ?_
  refine go_iconst 12 (v := 0) dX9_plays_11 rfl (by decide) ?_
  refine gp_putI 15 dX9_plays_12 rfl f_X9_151 rfl o335 rfl rfl ?_
  refine go_aload_n 16 dX9_plays_15 rfl rfl ls_0 ?_
  refine go_iconst 17 (v := 0) dX9_plays_16 rfl (by decide) ?_
  refine gp_putI 20 dX9_plays_17 rfl f_X9_154 rfl o335 rfl rfl ?_
  refine go_iconst 21 (v := 0) dX9_plays_20 rfl (by decide) ?_
  refine go_istore_n 22 dX9_plays_21 rfl rfl (by decide) (st_s st_0) ?_
  exact lm_plays G hN hL80 hM 80 0 0 (gi 336) _ _ rfl (by omega) (Nat.zero_le _) (by rw [wI_ne (by omega), wI_ne (by omega), wI_ne (by omega), wI_eq]) (by rw [wI_ne (by omega), wI_ne (by omega), wI_eq]; rfl) (by rw [wI_eq]) (by rw [wI_ne (by omega), wI_eq]; rfl) (by rw [wI_row (by decide), wI_row (by decide), wI_row (by decide), wI_row (by decide)]) I ⟨fun k h1 h2 h3 => by rw [wI_row h1, wI_row h1, wI_row h1, wI_row h1], by rw [wI_ne (by omega), wI_ne (by omega), wI_ne (by omega), wI_ne (by omega)], by rw [wI_ne (by omega), wI_ne (by omega), wI_ne (by omega), wI_ne (by omega)]⟩ rfl
