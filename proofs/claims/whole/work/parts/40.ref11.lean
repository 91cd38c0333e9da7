/-! THE REFERENCE: fault and play -/
theorem plF_ok {N : Nat} (hN : N + 8000 < 100000000) {T : TX} {L : Nat} : ∀ (f p t c : Nat) (A : AA), t + f ≤ 80 → Inv (N + 99 * t) A → Inv (N + 8000) (plF T L f p A c).2.2 ∧ (plF T L f p A c).2.1 ≤ c + f := by
  intro f
  induction f with
  | zero => intro p t c A ht I; exact ⟨I.mono (by omega) hN, Nat.le_refl _⟩
  | succ f ih =>
    intro p t c A ht I
    by_cases hp : p < L
    · rcases e : cdF T L p with _ | q
      · rw [plF_n hp e]
        exact ⟨I.mono (by omega) hN, by show c ≤ c + (f + 1); omega⟩
      · have hok := ok_ex (sg T L p) q.2 I (by omega)
        by_cases h2 : (exF A (sg T L p) q.2).1 < 0
        · rw [plF_e hp e h2]
          exact ⟨I.mono (by omega) hN, by show c ≤ c + (f + 1); omega⟩
        · rw [plF_s hp e h2]
          obtain ⟨q1, q2⟩ := ih q.1 (t + 1) (c + 1) _ (by omega) (by rw [show N + 99 * (t + 1) = N + 99 * t + 99 by omega]; exact hok.1)
          exact ⟨q1, by omega⟩
    · rw [plF_x hp]
      exact ⟨I.mono (by omega) hN, by show c ≤ c + (f + 1); omega⟩
theorem plS_ok {N : Nat} {S : SS} (k : SOk N S) (hN : N + 8000 < 100000000) : Inv (N + 8000) (plS S).2.2 ∧ (plS S).2.1 ≤ 80 := by
  have := plF_ok (N := N) hN (T := S.2.2.1) (L := S.2.2.2) 80 0 0 0 S.1 (by omega) (by rw [show N + 99 * 0 = N by omega]; exact k.1)
  exact ⟨this.1, by have := this.2; unfold plS; omega⟩
theorem playOk {N : Nat} {S : SS} (k : SOk N S) (hN : N + 8000 < 100000000) : SOk (N + 8000) (sPlay S).2 := by
  obtain ⟨h1, h2⟩ := plS_ok k hN
  obtain ⟨k1, k2, k3, k4⟩ := k
  rcases e : (plS S).1 with _ | q
  · rw [sp_n e]
    unfold push
    rw [if_neg (nI_pos (by omega))]
    refine ⟨h1, fun i B hB => ?_, ?_, k4⟩
    · obtain ⟨hi, ⟨-, rfl⟩ | ⟨j, -, hk'⟩⟩ := take_get hB
      · exact k1.mono (by omega) hN
      · exact (k2 j B hk').mono (by omega) hN
    · show ((S.1 :: S.2.1).take 4).length ≤ 4
      rw [take_len k3]
      exact nxC_le _
  · rw [sp_s e]
    exact ⟨k1.mono (by omega) hN, fun i B hB => (k2 i B hB).mono (by omega) hN, k3, k4⟩
/-- the row is put back -/
theorem bk_row {N : Nat} {A A' : AA} {x : AA} (I : Inv N A) {M : Nat} (I' : Inv M A') (h1 : ∀ j, j < 199 → x j = A j) (h2 : ∀ j, 199 ≤ j → x j = A' j) : x = A := by
  funext j
  by_cases h : j < 199
  · exact h1 j h
  · rw [h2 j (by omega), inv_z I' (by omega), inv_z I (by omega)]
theorem nI_q4 {n : Nat} (h : n < 2 ^ 31) : ¬ nI n = -4 := fun z => nI_pos h (by rw [z]; decide)
theorem plF_pl {T : TX} {L : Nat} : ∀ (f p c : Nat) (A : AA) (q : Nat × Int32), (plF T L f p A c).1 = some q → q.1 < L := by
  intro f
  induction f with
  | zero => intro p c A q h; cases h
  | succ f ih =>
    intro p c A q h
    by_cases hp : p < L
    · rcases e : cdF T L p with _ | r
      · rw [plF_n hp e] at h; cases h; exact hp
      · by_cases h2 : (exF A (sg T L p) r.2).1 < 0
        · rw [plF_e hp e h2] at h; cases h; exact hp
        · rw [plF_s hp e h2] at h; exact ih _ _ _ _ h
    · rw [plF_x hp] at h; cases h
theorem plS_pl {N : Nat} {S : SS} (k : SOk N S) {q : Nat × Int32} (h : (plS S).1 = some q) : q.1 < 80 := Nat.lt_of_lt_of_le (plF_pl 80 0 0 S.1 q h) k.2.2.2.1
set_option maxHeartbeats 4000000 in
set_option maxRecDepth 100000 in
theorem mx_fault (G : BcG) {gi : GI} {N : Nat} {S : SS} (k : SOk N S) (m : RelM S gi) (hN : N + 8000 < 100000000) (w : Int32) : Ct G mX9_fault [.ref (G.1 + 335), .int w] (hp gi) (pN gi (fFault S w, S)) := by
  obtain ⟨m1, m2, m3, m4, m5⟩ := id m
  obtain ⟨k1, k2, k3, k4⟩ := id k
  obtain ⟨p1, p2⟩ := plS_ok k hN
  refine ct_of [some (.ref (G.1 + 335)), some (.int w), none] w_10 (by decide) rfl (Nat.le_of_ble_eq_true rfl) rfl ?_
  refine go_iload_n 1 dX9_fault_0 rfl rfl (ls_s ls_0) ?_
  refine go_iconst 2 (v := 0) dX9_fault_1 rfl (by decide) ?_
  refine go_iconst 3 (v := 1) dX9_fault_2 rfl (by decide) ?_
  refine go_SI (M' := mX9_in) 6 dX9_fault_3 rfl w_768 okX9_in ⟨Nat.le_of_ble_eq_true rfl, Nat.le_of_ble_eq_true rfl⟩ (m_in G gi _ _ _) rfl rfl (kk := ?_)
  refine go_ifne_b 11 9 dX9_fault_6 (by decide) rfl (fun c_6 => ?_) (fun c_6 => ?_)
  · refine go_aload_n 12 dX9_fault_11 rfl rfl ls_0 ?_
    refine gp_getR 15 dX9_fault_12 rfl f_X9_7 rfl o335 rfl ?_
    refine go_aload_n 16 dX9_fault_15 rfl rfl ls_0 ?_
    refine gp_getR 19 dX9_fault_16 rfl f_X9_16 rfl o335 rfl ?_
    refine go_S (M' := mX9_copies) 22 dX9_fault_19 rfl w_974 okX9_copies ⟨Nat.le_of_ble_eq_true rfl, Nat.le_of_ble_eq_true rfl⟩ rfl rfl (Nat.le_of_ble_eq_true rfl) (Nat.le_of_ble_eq_true rfl) (m_copies G a336 a338 (by decide) gi) rfl rfl (Nat.le_of_ble_eq_true rfl) (fun v_19 h_19 p_19 => ?_)
    obtain ⟨rfl, g1, rfl, a1, a2, a3⟩ := p_19
    have b6 : g1 336 = S.1 := (a3 336 (by decide)).trans m1
    have bM : MX S.2.2.1 S.2.2.2 g1 := ⟨by rw [a3 335 (by decide)]; exact m4, fun j hj => by rw [a3 339 (by decide)]; exact m5 j hj⟩
    refine go_aload_n 23 dX9_fault_22 rfl rfl ls_0 ?_
    refine go_V (M' := mX9_plays) 26 dX9_fault_23 rfl w_977 okX9_plays ⟨Nat.le_of_ble_eq_true rfl, Nat.le_of_ble_eq_true rfl⟩ rfl rfl (Nat.le_of_ble_eq_true rfl) (Nat.le_of_ble_eq_true rfl) (m_plays G (N := N) (by rw [b6]; exact k1) hN k4.1 bM) rfl rfl (Nat.le_of_ble_eq_true rfl) o335 (by decide) rfl (fun v_23 h_23 p_23 => ?_)
    obtain ⟨g2, rfl, c2, c3, c4, c5, c6, ⟨n1, rfl, n3⟩ | ⟨q, n1, rfl, n3, n4⟩⟩ := p_23
    · rw [b6] at n1 c6
      rw [b6] at n3
      have n1 : (plS S).1 = none := n1
      refine go_istore_n 27 dX9_fault_26 rfl rfl (by decide) (st_s (st_s st_0)) ?_
      refine go_aload_n 28 dX9_fault_27 rfl rfl ls_0 ?_
      refine gp_getR 31 dX9_fault_28 rfl f_X9_16 rfl o335 rfl ?_
      refine go_aload_n 32 dX9_fault_31 rfl rfl ls_0 ?_
      refine gp_getR 35 dX9_fault_32 rfl f_X9_7 rfl o335 rfl ?_
      refine go_S (M' := mX9_copies) 38 dX9_fault_35 rfl w_974 okX9_copies ⟨Nat.le_of_ble_eq_true rfl, Nat.le_of_ble_eq_true rfl⟩ rfl rfl (Nat.le_of_ble_eq_true rfl) (Nat.le_of_ble_eq_true rfl) (m_copies G a338 a336 (by decide) g2) rfl rfl (Nat.le_of_ble_eq_true rfl) (fun v_35 h_35 p_35 => ?_)
      obtain ⟨rfl, g3, rfl, d1, d2, d3⟩ := p_35
      have e6 : g3 336 = S.1 := bk_row k1 p1 (fun j hj => by rw [d1 j hj, c2 338 (by decide) (by decide) (by decide), a1 j hj, m1]) (fun j hj => by rw [d2 j hj, c6]; rfl)
      have eM : RelM S g3 := ⟨e6, by rw [d3 335 (by decide)]; exact c5, m3.same (by rw [d3 335 (by decide), c3, a3 335 (by decide)]) (by rw [d3 337 (by decide), c2 337 (by decide) (by decide) (by decide), a3 337 (by decide)]), by rw [d3 335 (by decide), c4, a3 335 (by decide)]; exact m4, fun j hj => by rw [d3 339 (by decide), c2 339 (by decide) (by decide) (by decide), a3 339 (by decide)]; exact m5 j hj⟩
      have eo : ∀ k, k < 335 → g3 k = gi k := fun k hk => by rw [d3 k (by omega), c2 k (by omega) (by omega) (by omega), a3 k (by omega)]
      refine go_iload_n 39 dX9_fault_38 rfl rfl (ls_s (ls_s ls_0)) ?_
      refine go_bipush 41 (v := (-4)) dX9_fault_39 rfl (by decide) ?_
      refine go_icmp_eq 48 44 dX9_fault_41 (by decide) rfl (fun c_41 => ?_) (fun c_41 => absurd c_41 (by decide))
      refine go_iload_n 49 dX9_fault_48 rfl rfl (ls_s (ls_s ls_0)) ?_
      refine go_goto 56 dX9_fault_49 (by decide) ?_
      exact go_ret_i dX9_fault_56 rfl rfl rfl ⟨by rw [ff_n c_6 n1], g3, rfl, eM, eo⟩
    · rw [b6] at n1 c6
      have n1 : (plS S).1 = some q := n1
      refine go_istore_n 27 dX9_fault_26 rfl rfl (by decide) (st_s (st_s st_0)) ?_
      refine go_aload_n 28 dX9_fault_27 rfl rfl ls_0 ?_
      refine gp_getR 31 dX9_fault_28 rfl f_X9_16 rfl o335 rfl ?_
      refine go_aload_n 32 dX9_fault_31 rfl rfl ls_0 ?_
      refine gp_getR 35 dX9_fault_32 rfl f_X9_7 rfl o335 rfl ?_
      refine go_S (M' := mX9_copies) 38 dX9_fault_35 rfl w_974 okX9_copies ⟨Nat.le_of_ble_eq_true rfl, Nat.le_of_ble_eq_true rfl⟩ rfl rfl (Nat.le_of_ble_eq_true rfl) (Nat.le_of_ble_eq_true rfl) (m_copies G a338 a336 (by decide) g2) rfl rfl (Nat.le_of_ble_eq_true rfl) (fun v_35 h_35 p_35 => ?_)
      obtain ⟨rfl, g3, rfl, d1, d2, d3⟩ := p_35
      have e6 : g3 336 = S.1 := bk_row k1 p1 (fun j hj => by rw [d1 j hj, c2 338 (by decide) (by decide) (by decide), a1 j hj, m1]) (fun j hj => by rw [d2 j hj, c6]; rfl)
      have eM : RelM S g3 := ⟨e6, by rw [d3 335 (by decide)]; exact c5, m3.same (by rw [d3 335 (by decide), c3, a3 335 (by decide)]) (by rw [d3 337 (by decide), c2 337 (by decide) (by decide) (by decide), a3 337 (by decide)]), by rw [d3 335 (by decide), c4, a3 335 (by decide)]; exact m4, fun j hj => by rw [d3 339 (by decide), c2 339 (by decide) (by decide) (by decide), a3 339 (by decide)]; exact m5 j hj⟩
      have eo : ∀ k, k < 335 → g3 k = gi k := fun k hk => by rw [d3 k (by omega), c2 k (by omega) (by omega) (by omega), a3 k (by omega)]
      refine go_iload_n 39 dX9_fault_38 rfl rfl (ls_s (ls_s ls_0)) ?_
      refine go_bipush 41 (v := (-4)) dX9_fault_39 rfl (by decide) ?_
      refine go_icmp_eq 48 44 dX9_fault_41 (by decide) rfl (fun c_41 => absurd c_41 (nI_q4 (by have := plS_pl k n1; omega))) (fun c_41 => ?_)
      refine go_iload_n 45 dX9_fault_44 rfl rfl (ls_s ls_0) ?_
      refine go_if_ne 52 48 dX9_fault_45 (by decide) rfl (fun c_45 => ?_) (fun c_45 => ?_)
      · refine go_aload_n 53 dX9_fault_52 rfl rfl ls_0 ?_
        refine gp_getI 56 dX9_fault_53 rfl f_X9_154 rfl o335 ?_
        refine go_top (y := q.2) (by rw [d3 335 (by decide)]; exact n3) ?_
        exact go_ret_i dX9_fault_56 rfl rfl rfl ⟨by rw [ff_s c_6 n1, cIf_f c_45], g3, rfl, eM, eo⟩
      · refine go_iload_n 49 dX9_fault_48 rfl rfl (ls_s (ls_s ls_0)) ?_
        refine go_goto 56 dX9_fault_49 (by decide) ?_
        exact go_ret_i dX9_fault_56 rfl rfl rfl ⟨by rw [ff_s c_6 n1, cIf_t c_45], g3, rfl, eM, eo⟩
  · refine go_iconst 10 (v := (-1)) dX9_fault_9 rfl (by decide) ?_
    exact go_ret_i dX9_fault_10 rfl rfl rfl ⟨by rw [ff_1 c_6], gi, rfl, m, fun _ _ => rfl⟩
set_option maxHeartbeats 4000000 in
set_option maxRecDepth 100000 in
theorem mx_play (G : BcG) {gi : GI} {N : Nat} {S : SS} (k : SOk N S) (m : RelM S gi) (hN : N + 8000 < 100000000) : Ct G mX9_play [.ref (G.1 + 335)] (hp gi) (pN gi (sPlay S)) := by
  obtain ⟨m1, m2, m3, m4, m5⟩ := id m
  obtain ⟨k1, k2, k3, k4⟩ := id k
  obtain ⟨p1, p2⟩ := plS_ok k hN
  refine ct_of [some (.ref (G.1 + 335)), none] w_10 (by decide) rfl (Nat.le_of_ble_eq_true rfl) rfl ?_
  refine go_aload_n 1 dX9_play_0 rfl rfl ls_0 ?_
  refine gp_getR 4 dX9_play_1 rfl f_X9_7 rfl o335 rfl ?_
  refine go_aload_n 5 dX9_play_4 rfl rfl ls_0 ?_
  refine gp_getR 8 dX9_play_5 rfl f_X9_16 rfl o335 rfl ?_
  refine go_S (M' := mX9_copies) 11 dX9_play_8 rfl w_974 okX9_copies ⟨Nat.le_of_ble_eq_true rfl, Nat.le_of_ble_eq_true rfl⟩ rfl rfl (Nat.le_of_ble_eq_true rfl) (Nat.le_of_ble_eq_true rfl) (m_copies G a336 a338 (by decide) gi) rfl rfl (Nat.le_of_ble_eq_true rfl) (fun v_8 h_8 p_8 => ?_)
  obtain ⟨rfl, g1, rfl, a1, a2, a3⟩ := p_8
  have b6 : g1 336 = S.1 := (a3 336 (by decide)).trans m1
  have bM : MX S.2.2.1 S.2.2.2 g1 := ⟨by rw [a3 335 (by decide)]; exact m4, fun j hj => by rw [a3 339 (by decide)]; exact m5 j hj⟩
  refine go_aload_n 12 dX9_play_11 rfl rfl ls_0 ?_
  refine go_V (M' := mX9_plays) 15 dX9_play_12 rfl w_977 okX9_plays ⟨Nat.le_of_ble_eq_true rfl, Nat.le_of_ble_eq_true rfl⟩ rfl rfl (Nat.le_of_ble_eq_true rfl) (Nat.le_of_ble_eq_true rfl) (m_plays G (N := N) (by rw [b6]; exact k1) hN k4.1 bM) rfl rfl (Nat.le_of_ble_eq_true rfl) o335 (by decide) rfl (fun v_12 h_12 p_12 => ?_)
  obtain ⟨g2, rfl, c2, c3, c4, c5, c6, ⟨n1, rfl, n3⟩ | ⟨q, n1, rfl, n3, n4⟩⟩ := p_12
  · rw [b6] at n1 c6
    rw [b6] at n3
    have n1 : (plS S).1 = none := n1
    refine go_istore_n 16 dX9_play_15 rfl rfl (by decide) (st_s st_0) ?_
    refine go_aload_n 17 dX9_play_16 rfl rfl ls_0 ?_
    refine gp_getR 20 dX9_play_17 rfl f_X9_16 rfl o335 rfl ?_
    refine go_aload_n 21 dX9_play_20 rfl rfl ls_0 ?_
    refine gp_getR 24 dX9_play_21 rfl f_X9_7 rfl o335 rfl ?_
    refine go_S (M' := mX9_copies) 27 dX9_play_24 rfl w_974 okX9_copies ⟨Nat.le_of_ble_eq_true rfl, Nat.le_of_ble_eq_true rfl⟩ rfl rfl (Nat.le_of_ble_eq_true rfl) (Nat.le_of_ble_eq_true rfl) (m_copies G a338 a336 (by decide) g2) rfl rfl (Nat.le_of_ble_eq_true rfl) (fun v_24 h_24 p_24 => ?_)
    obtain ⟨rfl, g3, rfl, d1, d2, d3⟩ := p_24
    have e6 : g3 336 = S.1 := bk_row k1 p1 (fun j hj => by rw [d1 j hj, c2 338 (by decide) (by decide) (by decide), a1 j hj, m1]) (fun j hj => by rw [d2 j hj, c6]; rfl)
    have eM : RelM S g3 := ⟨e6, by rw [d3 335 (by decide)]; exact c5, m3.same (by rw [d3 335 (by decide), c3, a3 335 (by decide)]) (by rw [d3 337 (by decide), c2 337 (by decide) (by decide) (by decide), a3 337 (by decide)]), by rw [d3 335 (by decide), c4, a3 335 (by decide)]; exact m4, fun j hj => by rw [d3 339 (by decide), c2 339 (by decide) (by decide) (by decide), a3 339 (by decide)]; exact m5 j hj⟩
    have eo : ∀ k, k < 335 → g3 k = gi k := fun k hk => by rw [d3 k (by omega), c2 k (by omega) (by omega) (by omega), a3 k (by omega)]
    refine go_iload_n 28 dX9_play_27 rfl rfl (ls_s ls_0) ?_
    refine go_bipush 30 (v := (-4)) dX9_play_28 rfl (by decide) ?_
    refine go_icmp_eq 36 33 dX9_play_30 (by decide) rfl (fun c_30 => ?_) (fun c_30 => absurd c_30 (by decide))
    refine go_aload_n 37 dX9_play_36 rfl rfl ls_0 ?_
    refine go_V (M' := mX9_changes) 40 dX9_play_37 rfl w_771 okX9_changes ⟨Nat.le_of_ble_eq_true rfl, Nat.le_of_ble_eq_true rfl⟩ rfl rfl (Nat.le_of_ble_eq_true rfl) (Nat.le_of_ble_eq_true rfl) (m_changes G (H := S.2.1) k3 (fun _ => eM.2.2.1)) rfl rfl (Nat.le_of_ble_eq_true rfl) o335 (by decide) rfl (fun v_37 h_37 p_37 => ?_)
    obtain ⟨rfl, g4, rfl, o, pp⟩ := p_37
    have f6 : g4 336 = S.1 := (o.1 336 (by decide) (by decide)).trans e6
    have fM : MX S.2.2.1 S.2.2.2 g4 := ⟨(o.2 6 (by decide)).trans eM.2.2.2.1, fun j hj => by rw [o.1 339 (by decide) (by decide)]; exact eM.2.2.2.2 j hj⟩
    have fP := pp.2 eM.2.1
    rw [e6] at fP
    refine go_aload_n 41 dX9_play_40 rfl rfl ls_0 ?_
    refine go_V (M' := mX9_plays) 44 dX9_play_41 rfl w_977 okX9_plays ⟨Nat.le_of_ble_eq_true rfl, Nat.le_of_ble_eq_true rfl⟩ rfl rfl (Nat.le_of_ble_eq_true rfl) (Nat.le_of_ble_eq_true rfl) (m_plays G (N := N) (by rw [f6]; exact k1) hN k4.1 fM) rfl rfl (Nat.le_of_ble_eq_true rfl) o335 (by decide) rfl (fun v_41 h_41 p_41 => ?_)
    obtain ⟨g5, rfl, h2, h3, h4, h5, h6, ⟨i1, rfl, i3⟩ | ⟨q, i1, rfl, i3, i4⟩⟩ := p_41
    · rw [f6] at i1
      rw [f6] at h6 i3
      refine go_bipush 46 (v := (-4)) dX9_play_44 rfl (by decide) ?_
      refine go_icmp_ne 56 49 dX9_play_46 (by decide) rfl (fun c_46 => absurd c_46 (by decide)) (fun c_46 => ?_)
      refine go_aload_n 50 dX9_play_49 rfl rfl ls_0 ?_
      refine gp_getI 53 dX9_play_50 rfl f_X9_151 rfl o335 ?_
      refine go_top (y := (nI (plS S).2.1)) i3 ?_
      refine go_goto 58 dX9_play_53 (by decide) ?_
      exact go_ret_i dX9_play_58 rfl rfl rfl ⟨by rw [sp_n n1, push_1], g5, rfl, by rw [sp_n n1]; unfold push; rw [if_neg (nI_pos (by omega))]; exact ⟨h6, h5, fP.same h3 (h2 337 (by decide) (by decide) (by decide)), h4.trans fM.1, fun j hj => by rw [h2 339 (by decide) (by decide) (by decide)]; exact fM.2 j hj⟩, fun k hk => by rw [h2 k (by omega) (by omega) (by omega), o.1 k (by omega) (by omega)]; exact eo k hk⟩
    · rw [f6] at i1
      have i1 : (plS S).1 = some q := i1
      rw [n1] at i1
      cases i1
  · rw [b6] at n1 c6
    have n1 : (plS S).1 = some q := n1
    refine go_istore_n 16 dX9_play_15 rfl rfl (by decide) (st_s st_0) ?_
    refine go_aload_n 17 dX9_play_16 rfl rfl ls_0 ?_
    refine gp_getR 20 dX9_play_17 rfl f_X9_16 rfl o335 rfl ?_
    refine go_aload_n 21 dX9_play_20 rfl rfl ls_0 ?_
    refine gp_getR 24 dX9_play_21 rfl f_X9_7 rfl o335 rfl ?_
    refine go_S (M' := mX9_copies) 27 dX9_play_24 rfl w_974 okX9_copies ⟨Nat.le_of_ble_eq_true rfl, Nat.le_of_ble_eq_true rfl⟩ rfl rfl (Nat.le_of_ble_eq_true rfl) (Nat.le_of_ble_eq_true rfl) (m_copies G a338 a336 (by decide) g2) rfl rfl (Nat.le_of_ble_eq_true rfl) (fun v_24 h_24 p_24 => ?_)
    obtain ⟨rfl, g3, rfl, d1, d2, d3⟩ := p_24
    have e6 : g3 336 = S.1 := bk_row k1 p1 (fun j hj => by rw [d1 j hj, c2 338 (by decide) (by decide) (by decide), a1 j hj, m1]) (fun j hj => by rw [d2 j hj, c6]; rfl)
    have eM : RelM S g3 := ⟨e6, by rw [d3 335 (by decide)]; exact c5, m3.same (by rw [d3 335 (by decide), c3, a3 335 (by decide)]) (by rw [d3 337 (by decide), c2 337 (by decide) (by decide) (by decide), a3 337 (by decide)]), by rw [d3 335 (by decide), c4, a3 335 (by decide)]; exact m4, fun j hj => by rw [d3 339 (by decide), c2 339 (by decide) (by decide) (by decide), a3 339 (by decide)]; exact m5 j hj⟩
    have eo : ∀ k, k < 335 → g3 k = gi k := fun k hk => by rw [d3 k (by omega), c2 k (by omega) (by omega) (by omega), a3 k (by omega)]
    refine go_iload_n 28 dX9_play_27 rfl rfl (ls_s ls_0) ?_
    refine go_bipush 30 (v := (-4)) dX9_play_28 rfl (by decide) ?_
    refine go_icmp_eq 36 33 dX9_play_30 (by decide) rfl (fun c_30 => absurd c_30 (nI_q4 (by have := plS_pl k n1; omega))) (fun c_30 => ?_)
    refine go_bipush 35 (v := (-2)) dX9_play_33 rfl (by decide) ?_
    exact go_ret_i dX9_play_35 rfl rfl rfl ⟨by rw [sp_s n1], g3, rfl, by rw [sp_s n1]; exact eM, eo⟩
