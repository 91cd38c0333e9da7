/-! THE LAYOUT: after the constructors every cell's shape and every reference stands; only ints change -/
def shP (r : Nat) : Nat × Nat :=
  if r = 0 then (3, 0) else if r = 1 then (23, 4) else if r = 2 then (25, 6) else if r = 3 then (26, 3) else if r = 4 then (27, 6)
  else if r = 5 then (20, 16) else if r = 6 then (20, 2) else if r = 7 then (20, 4)
  else if r < 32 then (if (r - 8) % 6 = 0 then (4, 0) else if (r - 8) % 6 = 1 then (24, 4) else (6, 0))
  else if r < 38 then (7, 0) else if r < 41 then (2, 0) else (0, 0)
def grP (r j : Nat) : Option Nat :=
  if r = 0 then (if j = 0 then some 1 else if j = 2 then some 2 else if j = 4 then some 3 else if j = 6 then some 4 else if j = 7 then some 5 else if j = 8 then some 6 else if j = 9 then some 7 else none)
  else if r = 1 then (if j < 4 then some (8 + 6 * j) else none)
  else if r = 2 then (if j < 6 then some (32 + j) else none)
  else if r = 3 then (if j < 3 then some (38 + j) else none)
  else if r = 4 then (if j < 6 then some (41 + j) else none)
  else if r < 8 then none
  else if r < 32 then (if (r - 8) % 6 = 0 then (if j = 2 then some (r + 1) else none) else if (r - 8) % 6 = 1 then (if j < 4 then some (r + 1 + j) else none) else none)
  else none
/-- where the plant of the cell k begins -/
def bsP (k : Nat) : Nat := if k < 48 then 1 else if k < 95 then 48 else 97 + 47 * ((k - 97) / 47)
def SH (k : Nat) : Nat × Nat :=
  if k = 0 then (8, 0) else if k = 95 then (1, 0) else if k = 96 then (22, 5) else if k < 332 then shP (k - bsP k)
  else if k = 332 then (5, 0) else if k = 333 then (21, 80) else if k = 334 then (20, 3) else if k = 335 then (9, 0)
  else if k = 336 then (20, 199) else if k = 337 then (20, 796) else if k = 338 then (20, 199) else if k = 339 then (20, 80) else (20, 3)
def GR (k j : Nat) : Option Nat :=
  if k = 0 then (if j = 0 then some 1 else if j = 1 then some 48 else if j = 2 then some 95 else if j = 3 then some 332 else none)
  else if k = 95 then (if j = 0 then some 96 else none)
  else if k = 96 then (if j < 5 then some (97 + 47 * j) else none)
  else if k < 332 then (grP (k - bsP k) j).map (bsP k + ·)
  else if k = 332 then (if j = 0 then some 333 else if j = 3 then some 334 else none)
  else if k = 335 then (if j = 0 then some 336 else if j = 1 then some 337 else if j = 2 then some 338 else if j = 5 then some 339 else if j = 10 then some 340 else none)
  else none
abbrev GI : Type := Nat → Nat → Int32
def hp (gi : GI) : BcH := ((341, SH), GR, gi)
def wI (gi : GI) (k j : Nat) (v : Int32) : GI := va_up gi k (upd (gi k) j v)
def wA (gi : GI) (k : Nat) (f : Nat → Int32) : GI := va_up gi k f
def tO (k ci : Nat) : Prop := k < 341 ∧ (SH k).1 = ci
def tA (k t len : Nat) : Prop := k < 341 ∧ SH k = (t, len)
def plants : List Nat := [1, 48, 97, 144, 191, 238, 285]
def isP (P : Nat) : Prop := P ∈ plants
theorem wI_at (gi : GI) (k j : Nat) (v : Int32) (a b : Nat) : wI gi k j v a b = if a = k ∧ b = j then v else gi a b := by
  unfold wI va_up upd
  by_cases h1 : a = k
  · subst h1
    by_cases h2 : b = j
    · rw [if_pos rfl, if_pos h2, if_pos ⟨rfl, h2⟩]
    · rw [if_pos rfl, if_neg h2, if_neg (fun z => h2 z.2)]
  · rw [if_neg h1, if_neg (fun z => h1 z.1)]
theorem wI_eq (gi : GI) (k j : Nat) (v : Int32) : wI gi k j v k j = v := by rw [wI_at, if_pos ⟨rfl, rfl⟩]
theorem wI_ne {gi : GI} {k j a b : Nat} {v : Int32} (h : a ≠ k ∨ b ≠ j) : wI gi k j v a b = gi a b := by
  rw [wI_at, if_neg]
  rintro ⟨h1, h2⟩
  rcases h with h | h
  · exact h h1
  · exact h h2
theorem wI_row {gi : GI} {k j a : Nat} {v : Int32} (h : a ≠ k) : wI gi k j v a = gi a := by
  funext b
  exact wI_ne (Or.inl h)
theorem wA_eq (gi : GI) (k : Nat) (f : Nat → Int32) : wA gi k f k = f := by simp [wA, va_up]
theorem wA_row {gi : GI} {k a : Nat} {f : Nat → Int32} (h : a ≠ k) : wA gi k f a = gi a := by simp [wA, va_up, h]
section LAY
variable {P i k : Nat} (hP : isP P)
theorem tP (hP : isP P) : tO P 3 := (by decide +kernel : ∀ P ∈ plants, P < 341 ∧ (SH P).1 = 3) P hP
theorem tB (hP : isP P) (hi : i < 6) : tO (P + 41 + i) 0 := (by decide +kernel : ∀ P ∈ plants, ∀ i, i < 6 → (P + 41 + i < 341 ∧ (SH (P + 41 + i)).1 = 0)) P hP i hi
theorem tV (hP : isP P) (hi : i < 6) : tO (P + 32 + i) 7 := (by decide +kernel : ∀ P ∈ plants, ∀ i, i < 6 → (P + 32 + i < 341 ∧ (SH (P + 32 + i)).1 = 7)) P hP i hi
theorem tL (hP : isP P) (hi : i < 3) : tO (P + 38 + i) 2 := (by decide +kernel : ∀ P ∈ plants, ∀ i, i < 3 → (P + 38 + i < 341 ∧ (SH (P + 38 + i)).1 = 2)) P hP i hi
theorem tR (hP : isP P) (hi : i < 4) : tO (P + 8 + 6 * i) 4 := (by decide +kernel : ∀ P ∈ plants, ∀ i, i < 4 → (P + 8 + 6 * i < 341 ∧ (SH (P + 8 + 6 * i)).1 = 4)) P hP i hi
theorem tS (hP : isP P) (hi : i < 4) (hk : k < 4) : tO (P + 10 + 6 * i + k) 6 := (by decide +kernel : ∀ P ∈ plants, ∀ i, i < 4 → ∀ k, k < 4 → (P + 10 + 6 * i + k < 341 ∧ (SH (P + 10 + 6 * i + k)).1 = 6)) P hP i hi k hk
theorem aR (hP : isP P) : tA (P + 1) 23 4 := (by decide +kernel : ∀ P ∈ plants, P + 1 < 341 ∧ SH (P + 1) = (23, 4)) P hP
theorem aV (hP : isP P) : tA (P + 2) 25 6 := (by decide +kernel : ∀ P ∈ plants, P + 2 < 341 ∧ SH (P + 2) = (25, 6)) P hP
theorem aL (hP : isP P) : tA (P + 3) 26 3 := (by decide +kernel : ∀ P ∈ plants, P + 3 < 341 ∧ SH (P + 3) = (26, 3)) P hP
theorem aB (hP : isP P) : tA (P + 4) 27 6 := (by decide +kernel : ∀ P ∈ plants, P + 4 < 341 ∧ SH (P + 4) = (27, 6)) P hP
theorem aT (hP : isP P) : tA (P + 5) 20 16 := (by decide +kernel : ∀ P ∈ plants, P + 5 < 341 ∧ SH (P + 5) = (20, 16)) P hP
theorem aS (hP : isP P) : tA (P + 6) 20 2 := (by decide +kernel : ∀ P ∈ plants, P + 6 < 341 ∧ SH (P + 6) = (20, 2)) P hP
theorem aO (hP : isP P) : tA (P + 7) 20 4 := (by decide +kernel : ∀ P ∈ plants, P + 7 < 341 ∧ SH (P + 7) = (20, 4)) P hP
theorem aK (hP : isP P) (hi : i < 4) : tA (P + 9 + 6 * i) 24 4 := (by decide +kernel : ∀ P ∈ plants, ∀ i, i < 4 → (P + 9 + 6 * i < 341 ∧ SH (P + 9 + 6 * i) = (24, 4))) P hP i hi
theorem rR (hP : isP P) : GR P 0 = some (P + 1) := (by decide +kernel : ∀ P ∈ plants, GR P 0 = some (P + 1)) P hP
theorem rV (hP : isP P) : GR P 2 = some (P + 2) := (by decide +kernel : ∀ P ∈ plants, GR P 2 = some (P + 2)) P hP
theorem rL (hP : isP P) : GR P 4 = some (P + 3) := (by decide +kernel : ∀ P ∈ plants, GR P 4 = some (P + 3)) P hP
theorem rB (hP : isP P) : GR P 6 = some (P + 4) := (by decide +kernel : ∀ P ∈ plants, GR P 6 = some (P + 4)) P hP
theorem rT (hP : isP P) : GR P 7 = some (P + 5) := (by decide +kernel : ∀ P ∈ plants, GR P 7 = some (P + 5)) P hP
theorem rS (hP : isP P) : GR P 8 = some (P + 6) := (by decide +kernel : ∀ P ∈ plants, GR P 8 = some (P + 6)) P hP
theorem rO (hP : isP P) : GR P 9 = some (P + 7) := (by decide +kernel : ∀ P ∈ plants, GR P 9 = some (P + 7)) P hP
theorem rRi (hP : isP P) (hi : i < 4) : GR (P + 1) i = some (P + 8 + 6 * i) := (by decide +kernel : ∀ P ∈ plants, ∀ i, i < 4 → GR (P + 1) i = some (P + 8 + 6 * i)) P hP i hi
theorem rVi (hP : isP P) (hi : i < 6) : GR (P + 2) i = some (P + 32 + i) := (by decide +kernel : ∀ P ∈ plants, ∀ i, i < 6 → GR (P + 2) i = some (P + 32 + i)) P hP i hi
theorem rLi (hP : isP P) (hi : i < 3) : GR (P + 3) i = some (P + 38 + i) := (by decide +kernel : ∀ P ∈ plants, ∀ i, i < 3 → GR (P + 3) i = some (P + 38 + i)) P hP i hi
theorem rBi (hP : isP P) (hi : i < 6) : GR (P + 4) i = some (P + 41 + i) := (by decide +kernel : ∀ P ∈ plants, ∀ i, i < 6 → GR (P + 4) i = some (P + 41 + i)) P hP i hi
theorem rK (hP : isP P) (hi : i < 4) : GR (P + 8 + 6 * i) 2 = some (P + 9 + 6 * i) := (by decide +kernel : ∀ P ∈ plants, ∀ i, i < 4 → GR (P + 8 + 6 * i) 2 = some (P + 9 + 6 * i)) P hP i hi
theorem rKi (hP : isP P) (hi : i < 4) (hk : k < 4) : GR (P + 9 + 6 * i) k = some (P + 10 + 6 * i + k) := (by decide +kernel : ∀ P ∈ plants, ∀ i, i < 4 → ∀ k, k < 4 → GR (P + 9 + 6 * i) k = some (P + 10 + 6 * i + k)) P hP i hi k hk
end LAY
theorem ct_of {G : BcG} {M : BcM} {vs : List Value} {h : BcH} {post : Option Value → BcH → Prop} (ls0 : List (Option Value)) (hb : Cond.initialized M.1.cls ∈ lwG) (hp : plainName M.1.cls = true) (hc : (vs.all fun v => v.category == 1) = true) (hn : vs.length ≤ M.2.2.1) (hl : ls0 = vs.map some ++ List.replicate (M.2.2.1 - vs.length) none)
    (go : BGo G M (KM G M h.1.1 post) h 0 0 0 ls0 []) : Ct G M vs h post := by
  subst hl
  exact Ct.of hp (fun v hv => by have := List.all_eq_true.mp hc v hv; simpa using this) hn hb go
section GP
variable {G : BcG} {M M' : BcM} {KQ : BcK} {gi : GI} {k n pc : Nat} {ls ls' : List (Option Value)} {st rest As : List Value} {x y r : Int32}
theorem gp_getI (q : Nat) {a idx ci j : Nat} {t : FieldType} {fin : Bool} (hd : decode M.2.1 pc = .ok (.getfield idx, 3)) (e : pc + 3 = q) (F : bc_F M.1.cls idx ci j t fin) (hi : bc_iR ci j = false) (ha : tO a ci) (kk : BGo G M KQ (hp gi) k n q ls (.int (gi a j) :: st)) : BGo G M KQ (hp gi) k n pc ls (.ref (G.1 + a) :: st) := go_getI q hd e F hi ha kk
theorem gp_getR (q : Nat) {a idx ci j a1 : Nat} {t : FieldType} {fin : Bool} (hd : decode M.2.1 pc = .ok (.getfield idx, 3)) (e : pc + 3 = q) (F : bc_F M.1.cls idx ci j t fin) (hi : bc_iR ci j = true) (ha : tO a ci) (hr : GR a j = some a1) (kk : BGo G M KQ (hp gi) k n q ls (.ref (G.1 + a1) :: st)) : BGo G M KQ (hp gi) k n pc ls (.ref (G.1 + a) :: st) := go_getR q hd e F hi ha hr kk
theorem gp_putI (q : Nat) {a idx ci j : Nat} {t : FieldType} (hd : decode M.2.1 pc = .ok (.putfield idx, 3)) (e : pc + 3 = q) (F : bc_F M.1.cls idx ci j t false) (hi : bc_iR ci j = false) (ha : tO a ci) (hn : narrow t (.int x) = .int x) (hf : fits t (.int x) = true) (kk : BGo G M KQ (hp (wI gi a j x)) k n q ls st) : BGo G M KQ (hp gi) k n pc ls (.int x :: .ref (G.1 + a) :: st) := go_putI q hd e F hi ha hn hf kk
theorem gp_iald (q : Nat) {a len : Nat} (hd : decode M.2.1 pc = .ok (.iaload, 1)) (e : pc + 1 = q) (ha : tA a 20 len) (hin : vp_in x len) (kk : BGo G M KQ (hp gi) k n q ls (.int (gi a x.toNatClampNeg) :: st)) : BGo G M KQ (hp gi) k n pc ls (.int x :: .ref (G.1 + a) :: st) := go_iald q hd e ha hin kk
theorem gp_cald (q : Nat) {a len : Nat} (hd : decode M.2.1 pc = .ok (.caload, 1)) (e : pc + 1 = q) (ha : tA a 21 len) (hin : vp_in x len) (kk : BGo G M KQ (hp gi) k n q ls (.int (gi a x.toNatClampNeg) :: st)) : BGo G M KQ (hp gi) k n pc ls (.int x :: .ref (G.1 + a) :: st) := go_cald q hd e ha hin kk
theorem gp_iast (q : Nat) {a len : Nat} (hd : decode M.2.1 pc = .ok (.iastore, 1)) (e : pc + 1 = q) (ha : tA a 20 len) (hin : vp_in y len) (kk : BGo G M KQ (hp (wI gi a y.toNatClampNeg x)) k n q ls st) : BGo G M KQ (hp gi) k n pc ls (.int x :: .int y :: .ref (G.1 + a) :: st) := go_iast q hd e ha hin kk
theorem gp_cast (q : Nat) {a len : Nat} (hd : decode M.2.1 pc = .ok (.castore, 1)) (e : pc + 1 = q) (ha : tA a 21 len) (hin : vp_in y len) (kk : BGo G M KQ (hp (wI gi a y.toNatClampNeg (vp_nar .char x))) k n q ls st) : BGo G M KQ (hp gi) k n pc ls (.int x :: .int y :: .ref (G.1 + a) :: st) := go_cast q hd e ha hin kk
/-- the index is known as a number -/
theorem gp_ialdN (q : Nat) {a len i : Nat} (hd : decode M.2.1 pc = .ok (.iaload, 1)) (e : pc + 1 = q) (ha : tA a 20 len) (hx : x = nI i) (hi : i < len) (hlen : len < 2 ^ 31) (kk : BGo G M KQ (hp gi) k n q ls (.int (gi a i) :: st)) : BGo G M KQ (hp gi) k n pc ls (.int x :: .ref (G.1 + a) :: st) := by
  subst hx
  refine go_iald q hd e ha (vp_in_nI hi hlen) ?_
  rw [nI_clamp (Nat.lt_trans hi hlen)]
  exact kk
theorem gp_iastN (q : Nat) {a len i : Nat} (hd : decode M.2.1 pc = .ok (.iastore, 1)) (e : pc + 1 = q) (ha : tA a 20 len) (hy : y = nI i) (hi : i < len) (hlen : len < 2 ^ 31) (kk : BGo G M KQ (hp (wI gi a i x)) k n q ls st) : BGo G M KQ (hp gi) k n pc ls (.int x :: .int y :: .ref (G.1 + a) :: st) := by
  subst hy
  refine go_iast q hd e ha (vp_in_nI hi hlen) ?_
  rw [nI_clamp (Nat.lt_trans hi hlen)]
  exact kk
theorem gp_aald (q : Nat) {a len t a1 i : Nat} {Cn : String} (hd : decode M.2.1 pc = .ok (.aaload, 1)) (e : pc + 1 = q) (ha : tA a t len) (h2 : 22 ≤ t) (ht : (bc_ty G)[t - 20]? = some (G.2.1 (t - 20), .object Cn)) (hx : x = nI i) (hi : i < len) (hlen : len < 2 ^ 31) (hr : GR a i = some a1) (kk : BGo G M KQ (hp gi) k n q ls (.ref (G.1 + a1) :: st)) : BGo G M KQ (hp gi) k n pc ls (.int x :: .ref (G.1 + a) :: st) := by
  subst hx
  refine go_aald q hd e ha h2 ht (vp_in_nI hi hlen) ?_ kk
  rw [nI_clamp (Nat.lt_trans hi hlen)]
  exact hr
theorem gp_alen (q : Nat) {a len t : Nat} {v : Int32} (hd : decode M.2.1 pc = .ok (.arraylength, 1)) (e : pc + 1 = q) (ha : tA a t len) (h1 : 20 ≤ t) (h2 : t < 28) (hv : Int32.ofNat len = v) (kk : BGo G M KQ (hp gi) k n q ls (.int v :: st)) : BGo G M KQ (hp gi) k n pc ls (.ref (G.1 + a) :: st) := go_alen q hd e ha h1 h2 hv kk
theorem gp_copy (q : Nat) {a0 a1 len0 len1 w idx : Nat} (hd : decode M.2.1 pc = .ok (.invokestatic idx, 3)) (e : pc + 3 = q) (hl : Cond.methodLink M.1.cls idx arraycopyName ∈ lwG) (hna : Cond.native arraycopyName ∈ lwG) (hs : Cond.static arraycopyName ∈ lwG) (hi : Cond.initialized "java/lang/System" ∈ lwG) (h0 : tA a0 20 len0) (h1 : tA a1 20 len1) (hx : x = nI w) (hw0 : w ≤ len0) (hw1 : w ≤ len1) (hw2 : w < 100000) (hf : 1 ≤ M.2.2.2.2.1) (hw : (st.map fun v => v.category).sum + (nativeFrameWords "java/lang/System" "arraycopy" 5 + 11) ≤ M.2.2.2.2.2.1) (kk : BGo G M KQ (hp (wA gi a1 (va_cpy (gi a0) (gi a1) 0 0 w))) k n q ls st) : BGo G M KQ (hp gi) k n pc ls (.int x :: .int 0 :: .ref (G.1 + a1) :: .int 0 :: .ref (G.1 + a0) :: st) := go_copy q hd e hl hna hs hi h0 h1 hx hw0 hw1 hw2 hf hw kk
end GP
theorem pI_of {x r : Int32} {h h1 : BcH} (e : x = r) (eh : h = h1) : pI r h1 (some (.int x)) h := ⟨by rw [e], eh⟩
theorem pA_of {x r : Nat} {h h1 : BcH} (e : x = r) (eh : h = h1) : pA r h1 (some (.ref x)) h := ⟨by rw [e], eh⟩
