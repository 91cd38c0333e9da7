/-! THE CONSTRUCTORS: plants -/
section PLP
variable {P : Nat} (hP : isP P)
theorem sh_P (hP : isP P) : P + 47 ≤ 341 ∧ SH P = (3, 0) ∧ SH (P + 1) = (23, 4) ∧ SH (P + 2) = (25, 6) ∧ SH (P + 3) = (26, 3) ∧ SH (P + 4) = (27, 6) ∧ SH (P + 5) = (20, 16) ∧ SH (P + 6) = (20, 2) ∧ SH (P + 7) = (20, 4) := (by decide +kernel : ∀ P ∈ plants, P + 47 ≤ 341 ∧ SH P = (3, 0) ∧ SH (P + 1) = (23, 4) ∧ SH (P + 2) = (25, 6) ∧ SH (P + 3) = (26, 3) ∧ SH (P + 4) = (27, 6) ∧ SH (P + 5) = (20, 16) ∧ SH (P + 6) = (20, 2) ∧ SH (P + 7) = (20, 4)) P hP
theorem sh_PV (hP : isP P) : (∀ i, i < 6 → SH (P + 32 + i) = (7, 0)) ∧ (∀ i, i < 3 → SH (P + 38 + i) = (2, 0)) ∧ ∀ i, i < 6 → SH (P + 41 + i) = (0, 0) := (by decide +kernel : ∀ P ∈ plants, (∀ i, i < 6 → SH (P + 32 + i) = (7, 0)) ∧ (∀ i, i < 3 → SH (P + 38 + i) = (2, 0)) ∧ ∀ i, i < 6 → SH (P + 41 + i) = (0, 0)) P hP
theorem gr_P (hP : isP P) : ∀ j, j < 16 → GR P j = (if j = 0 then some (P + 1) else if j = 2 then some (P + 2) else if j = 4 then some (P + 3) else if j = 6 then some (P + 4) else if j = 7 then some (P + 5) else if j = 8 then some (P + 6) else if j = 9 then some (P + 7) else none) ∧ GR (P + 1) j = (if j < 4 then some (P + 8 + 6 * j) else none) ∧ GR (P + 2) j = (if j < 6 then some (P + 32 + j) else none) ∧ GR (P + 3) j = (if j < 3 then some (P + 38 + j) else none) ∧ GR (P + 4) j = (if j < 6 then some (P + 41 + j) else none) := (by decide +kernel : ∀ P ∈ plants, ∀ j, j < 16 → GR P j = (if j = 0 then some (P + 1) else if j = 2 then some (P + 2) else if j = 4 then some (P + 3) else if j = 6 then some (P + 4) else if j = 7 then some (P + 5) else if j = 8 then some (P + 6) else if j = 9 then some (P + 7) else none) ∧ GR (P + 1) j = (if j < 4 then some (P + 8 + 6 * j) else none) ∧ GR (P + 2) j = (if j < 6 then some (P + 32 + j) else none) ∧ GR (P + 3) j = (if j < 3 then some (P + 38 + j) else none) ∧ GR (P + 4) j = (if j < 6 then some (P + 41 + j) else none)) P hP
end PLP
/-- a plant half built: so many parts of each kind -/
def PlI (P c1 c2 c3 c4 n : Nat) (gr0 : Nat → Nat → Option Nat) (gi0 : GI) (gr : Nat → Nat → Option Nat) (gi : GI) : Prop :=
  Bl n gr gi ∧ (∀ k, k < P → gr k = gr0 k ∧ gi k = gi0 k) ∧ Bt gr gi P ∧ (∀ j, gr (P + 1) j = if j < c1 then some (P + 8 + 6 * j) else none) ∧ (∀ j, gr (P + 2) j = if j < c2 then some (P + 32 + j) else none) ∧ (∀ j, gr (P + 3) j = if j < c3 then some (P + 38 + j) else none) ∧ (∀ j, gr (P + 4) j = if j < c4 then some (P + 41 + j) else none) ∧
  (∀ q, 1 ≤ q → q < 8 → gi (P + q) = fun _ => 0) ∧ (∀ q, 5 ≤ q → q < 8 → gr (P + q) = fun _ => none) ∧ ∀ k, P + 8 ≤ k → k < n → Bt gr gi k
theorem if_up {i j x : Nat} {f : Nat → Nat} {g : Option Nat} (h : g = if j < i then some (f j) else none) (hj : j ≠ i) : g = if j < i + 1 then some (f j) else none := by
  rw [h]
  by_cases q : j < i
  · rw [if_pos q, if_pos (by omega)]
  · rw [if_neg q, if_neg (by omega)]
section PLS
variable {P i n n' : Nat} {gr0 gr gr' : Nat → Nat → Option Nat} {gi0 gi gi' : GI}
/-- new parts came above n; nothing below changed -/
theorem PlI_up {c1 c2 c3 c4 : Nat} (h : PlI P c1 c2 c3 c4 n gr0 gi0 gr gi) (hn : P + 8 ≤ n) (hn' : n ≤ n') (b : Bl n' gr' gi') (e : ∀ k, k < n → gr' k = gr k ∧ gi' k = gi k) (t : ∀ k, n ≤ k → k < n' → Bt gr' gi' k) : PlI P c1 c2 c3 c4 n' gr0 gi0 gr' gi' := by
  obtain ⟨h0, h1, ⟨h2, h2'⟩, h3, h4, h5, h6, h7, h8, h9⟩ := h
  refine ⟨b, fun k hk => ⟨(e k (by omega)).1.trans (h1 k hk).1, (e k (by omega)).2.trans (h1 k hk).2⟩, ⟨(e P (by omega)).1.trans h2, (e P (by omega)).2.trans h2'⟩, fun j => by rw [(e _ (by omega)).1]; exact h3 j, fun j => by rw [(e _ (by omega)).1]; exact h4 j, fun j => by rw [(e _ (by omega)).1]; exact h5 j, fun j => by rw [(e _ (by omega)).1]; exact h6 j, fun q q1 q2 => by rw [(e _ (by omega)).2]; exact h7 q q1 q2, fun q q1 q2 => by rw [(e _ (by omega)).1]; exact h8 q q1 q2, fun k q1 q2 => ?_⟩
  by_cases q : k < n
  · obtain ⟨t1, t2⟩ := h9 k q1 q
    exact ⟨(e k q).1.trans t1, (e k q).2.trans t2⟩
  · exact t k (by omega) q2
theorem sR_at {a j kv i : Nat} : sR gr a j kv a i = if i = j then some kv else gr a i := by
  by_cases e : i = j
  · subst e; rw [sR_eq, if_pos rfl]
  · rw [sR_ne (by omega), if_neg e]
theorem if_st {f : Nat → Nat} {j : Nat} {g : Nat → Option Nat} (h : ∀ j, g j = if j < i then some (f j) else none) : (if j = i then some (f i) else g j) = if j < i + 1 then some (f j) else none := by
  by_cases e : j = i
  · subst e; rw [if_pos rfl, if_pos (by omega)]
  · rw [if_neg e]; exact if_up (x := 0) (h j) e
theorem PlI_1 {c2 c3 c4 : Nat} (h : PlI P i c2 c3 c4 n gr0 gi0 gr gi) (hn : P + 8 ≤ n) : PlI P (i + 1) c2 c3 c4 n gr0 gi0 (sR gr (P + 1) i (P + 8 + 6 * i)) gi := by
  obtain ⟨h0, h1, ⟨h2, h2'⟩, h3, h4, h5, h6, h7, h8, h9⟩ := h
  exact ⟨h0.sR (by omega), fun k hk => ⟨by rw [sR_row (by omega)]; exact (h1 k hk).1, (h1 k hk).2⟩, ⟨by rw [sR_row (by omega)]; exact h2, h2'⟩, fun j => by rw [sR_at]; exact if_st (f := fun j => P + 8 + 6 * j) h3, fun j => by rw [sR_row (by omega)]; exact h4 j, fun j => by rw [sR_row (by omega)]; exact h5 j, fun j => by rw [sR_row (by omega)]; exact h6 j, h7, fun q q1 q2 => by rw [sR_row (by omega)]; exact h8 q q1 q2, fun k q1 q2 => ⟨by rw [sR_row (by omega)]; exact (h9 k q1 q2).1, (h9 k q1 q2).2⟩⟩
theorem PlI_2 {c1 c3 c4 : Nat} (h : PlI P c1 i c3 c4 n gr0 gi0 gr gi) (hn : P + 8 ≤ n) : PlI P c1 (i + 1) c3 c4 n gr0 gi0 (sR gr (P + 2) i (P + 32 + i)) gi := by
  obtain ⟨h0, h1, ⟨h2, h2'⟩, h3, h4, h5, h6, h7, h8, h9⟩ := h
  exact ⟨h0.sR (by omega), fun k hk => ⟨by rw [sR_row (by omega)]; exact (h1 k hk).1, (h1 k hk).2⟩, ⟨by rw [sR_row (by omega)]; exact h2, h2'⟩, fun j => by rw [sR_row (by omega)]; exact h3 j, fun j => by rw [sR_at]; exact if_st (f := fun j => P + 32 + j) h4, fun j => by rw [sR_row (by omega)]; exact h5 j, fun j => by rw [sR_row (by omega)]; exact h6 j, h7, fun q q1 q2 => by rw [sR_row (by omega)]; exact h8 q q1 q2, fun k q1 q2 => ⟨by rw [sR_row (by omega)]; exact (h9 k q1 q2).1, (h9 k q1 q2).2⟩⟩
theorem PlI_3 {c1 c2 c4 : Nat} (h : PlI P c1 c2 i c4 n gr0 gi0 gr gi) (hn : P + 8 ≤ n) : PlI P c1 c2 (i + 1) c4 n gr0 gi0 (sR gr (P + 3) i (P + 38 + i)) gi := by
  obtain ⟨h0, h1, ⟨h2, h2'⟩, h3, h4, h5, h6, h7, h8, h9⟩ := h
  exact ⟨h0.sR (by omega), fun k hk => ⟨by rw [sR_row (by omega)]; exact (h1 k hk).1, (h1 k hk).2⟩, ⟨by rw [sR_row (by omega)]; exact h2, h2'⟩, fun j => by rw [sR_row (by omega)]; exact h3 j, fun j => by rw [sR_row (by omega)]; exact h4 j, fun j => by rw [sR_at]; exact if_st (f := fun j => P + 38 + j) h5, fun j => by rw [sR_row (by omega)]; exact h6 j, h7, fun q q1 q2 => by rw [sR_row (by omega)]; exact h8 q q1 q2, fun k q1 q2 => ⟨by rw [sR_row (by omega)]; exact (h9 k q1 q2).1, (h9 k q1 q2).2⟩⟩
theorem PlI_4 {c1 c2 c3 : Nat} (h : PlI P c1 c2 c3 i n gr0 gi0 gr gi) (hn : P + 8 ≤ n) : PlI P c1 c2 c3 (i + 1) n gr0 gi0 (sR gr (P + 4) i (P + 41 + i)) gi := by
  obtain ⟨h0, h1, ⟨h2, h2'⟩, h3, h4, h5, h6, h7, h8, h9⟩ := h
  exact ⟨h0.sR (by omega), fun k hk => ⟨by rw [sR_row (by omega)]; exact (h1 k hk).1, (h1 k hk).2⟩, ⟨by rw [sR_row (by omega)]; exact h2, h2'⟩, fun j => by rw [sR_row (by omega)]; exact h3 j, fun j => by rw [sR_row (by omega)]; exact h4 j, fun j => by rw [sR_row (by omega)]; exact h5 j, fun j => by rw [sR_at]; exact if_st (f := fun j => P + 41 + j) h6, h7, fun q q1 q2 => by rw [sR_row (by omega)]; exact h8 q q1 q2, fun k q1 q2 => ⟨by rw [sR_row (by omega)]; exact (h9 k q1 q2).1, (h9 k q1 q2).2⟩⟩
end PLS
