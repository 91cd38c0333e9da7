/-! THE FIRST STATE: what the constructors leave tells the new plant -/
theorem z336 {j : Nat} (h1 : 2 ≤ j) (h2 : j < 15 ∨ 31 ≤ j) : I0 336 j = 0 := by
  unfold I0
  rw [if_pos rfl, if_neg (by omega), if_neg (by omega)]
def S00 : SS := (I0 336, [], fun _ => 0, 0)
theorem Inv_00 : Inv 0 (I0 336) := by
  refine ⟨⟨?_, ?_, ?_, ?_, ?_, ?_⟩, ?_, ?_, ?_, ?_, ?_, ?_, by omega⟩
  · rw [z336 (by omega) (by omega)]; exact bd_0 _
  · rw [z336 (by omega) (by omega)]; exact bd_0 _
  · rw [z336 (by omega) (by omega)]; exact bd_0 _
  · rw [z336 (by omega) (by omega)]; exact bd_0 _
  · unfold bd; decide +kernel
  · unfold bd; decide +kernel
  · unfold InvT bd; decide +kernel
  · intro r hr
    refine ⟨?_, ?_, fun k hk => ⟨?_, ?_, ?_, ?_⟩⟩
    · rw [z336 (by omega) (by omega)]; exact bd_0 _
    · rw [z336 (by omega) (by omega)]; exact bd_0 _
    · unfold stg; rw [z336 (by omega) (by omega)]; exact bd_0 _
    · unfold stg; rw [z336 (by omega) (by omega)]; exact bd_0 _
    · unfold stg; rw [z336 (by omega) (by omega)]; exact bd_0 _
    · unfold stg; rw [z336 (by omega) (by omega)]; exact bd_0 _
  · intro v hv
    refine ⟨?_, ?_, Or.inr ?_, Or.inr ?_, ?_⟩
    · rw [z336 (by omega) (by omega)]; exact bd_0 _
    · rw [z336 (by omega) (by omega)]; exact bd_0 _
    · rw [z336 (by omega) (by omega)]; exact bd_0 _
    · rw [z336 (by omega) (by omega)]; exact bd_0 _
    · rw [z336 (by omega) (by omega)]; exact bd_0 _
  · intro k hk
    refine ⟨fun h => ?_, ?_, fun _ => ⟨?_, ?_⟩⟩
    · have e : nL (I0 336) = 0 := by unfold nL; rw [z336 (by omega) (by omega)]; rfl
      rw [e] at h
      exact absurd h (Nat.not_lt_zero _)
    · rw [z336 (by omega) (by omega)]; exact bd_0 _
    · rw [z336 (by omega) (by omega)]
    · rw [z336 (by omega) (by omega)]
  · intro b hb
    have e : I0 336 (145 + 9 * b) = 0 := z336 (by omega) (by omega)
    exact ⟨Or.inl e, fun l => absurd (show I0 336 (145 + 9 * b) = 1 from l) (by rw [e]; decide)⟩
  · intro j hj
    exact z336 (by omega) (by omega)
theorem Rel_00 : Rel 1 (I0 336) I0 := by
  refine ⟨?_, ?_, ?_, ?_, ?_, ?_⟩
  · unfold RelS; decide +kernel
  · unfold RelR stg; decide +kernel
  · unfold RelV nV; decide +kernel
  · unfold RelL; decide +kernel
  · intro b hb
    have e : I0 336 (145 + 9 * b) = 0 := z336 (by omega) (by omega)
    refine ⟨?_, fun l => absurd (show I0 336 (145 + 9 * b) = 1 from l) (by rw [e]; decide)⟩
    rw [e]
    revert b
    decide +kernel
  · unfold RelT; decide +kernel
theorem Zb_00 : Zb 1 I0 := by unfold Zb; decide +kernel
theorem SOk_00 : SOk 0 S00 := ⟨Inv_00, fun i B h => by simp [S00] at h, Nat.zero_le _, Nat.zero_le _, fun j hj => absurd hj (Nat.not_lt_zero _)⟩
theorem RelC_00 : RelC S00 I0 := ⟨0, by omega, by decide +kernel, by decide +kernel, Rel_00, Zb_00, ⟨by decide +kernel, fun j hj => absurd hj (Nat.not_lt_zero _)⟩, fun i B h => by simp [S00] at h⟩
theorem RelM_00 : RelM S00 I0 := ⟨rfl, by decide +kernel, ⟨by decide +kernel, fun i B h => by simp [S00] at h⟩, by decide +kernel, fun j hj => absurd hj (Nat.not_lt_zero _)⟩
/-! WHAT ONE SIDE's CALL LEAVES OF THE OTHER -/
theorem SOk.mono {N M : Nat} {S : SS} (k : SOk N S) (h : N ≤ M) (hM : M < 100000000) : SOk M S := ⟨k.1.mono h hM, fun i B hB => (k.2.1 i B hB).mono h hM, k.2.2⟩
theorem RelC.same {S : SS} {gi g' : GI} (c : RelC S gi) (e : ∀ k, k < 335 → g' k = gi k) : RelC S g' := by
  obtain ⟨o, ho, c1, c2, c3, c4, c5, c6⟩ := c
  refine ⟨o, ho, by rw [e 95 (by omega)]; exact c1, by rw [e 95 (by omega)]; exact c2, rel_same c3 (fun k h1 h2 => e k (by omega)), zb_same c4 (fun k h1 h2 => e k (by omega)), c5.same (by rw [e 332 (by omega)]) (e 333 (by omega)), fun i B hB => ?_⟩
  obtain ⟨s1, s2⟩ := c6 i B hB
  have := rg_lt o i
  exact ⟨rel_same s1 (fun k h1 h2 => e k (by omega)), zb_same s2 (fun k h1 h2 => e k (by omega))⟩
theorem RelM.same {S : SS} {gi g' : GI} (m : RelM S gi) (e : ∀ k, 335 ≤ k → g' k = gi k) : RelM S g' := by
  obtain ⟨m1, m2, m3, m4, m5⟩ := m
  exact ⟨by rw [e 336 (by omega)]; exact m1, by rw [e 335 (by omega)]; exact m2, m3.same (by rw [e 335 (by omega)]) (e 337 (by omega)), by rw [e 335 (by omega)]; exact m4, fun j hj => by rw [e 339 (by omega)]; exact m5 j hj⟩
theorem RelC.r1 {S : SS} {gi : GI} (c : RelC S gi) : Rel 1 S.1 gi := by
  obtain ⟨o, -, -, -, c3, -⟩ := c
  exact c3
