/-! CLASSES AND FIELDS -/
def bc_C (ci : Nat) (C : String) (T : u_T) (N : Nat) (ty : Nat → FieldType) : Prop :=
  bc_cl[ci]? = some (C, T, N) ∧ (∀ w ∈ u_ws C T N, w ∈ lwG) ∧ N = bc_nF ci ∧ ci < 20 ∧ (∀ k, k < N → parseFieldDescriptor (T k).2.2.1 = some (ty k)) ∧ (∀ a, a < N → ∀ b, b < N → a ≠ b → (T a).2.1 ≠ (T b).2.1) ∧ (∀ j, j < N → defaultValue (ty j) = if bc_iR ci j = true then .null else .int 0)
def bc_F (own : String) (idx ci j : Nat) (t : FieldType) (fin : Bool) : Prop :=
  ∃ (C : String) (T : u_T) (N : Nat) (ty : Nat → FieldType), bc_C ci C T N ty ∧ j < N ∧ Cond.fieldLink own idx (T j).1 (T j).2.1 (T j).2.2.1 ∈ lwG ∧ ty j = t ∧ (T j).2.2.2 = fin ∧ (T j).1 = C
/-- an object of the class ci; an array of the kind t and of length len -/
def bc_o (h : BcH) (k ci : Nat) : Prop := k < h.1.1 ∧ (h.1.2 k).1 = ci
def bc_a (h : BcH) (k t len : Nat) : Prop := k < h.1.1 ∧ h.1.2 k = (t, len)
theorem bc_fs_len (G : BcG) (c : Nat) (r : Nat → Option Nat) (f : Nat → Int32) : (bc_fs G c r f).length = bc_nF c := by simp [bc_fs]
theorem bc_fs_get {G : BcG} {c j : Nat} (r : Nat → Option Nat) (f : Nat → Int32) (hj : j < bc_nF c) : (bc_fs G c r f)[j]? = some (bc_fv G c r f j) := by simp [bc_fs, hj]
theorem bc_fs_put {G : BcG} {c j : Nat} {r r' : Nat → Option Nat} {f f' : Nat → Int32} (hj : j < bc_nF c) (hr : ∀ i, i ≠ j → r' i = r i) (hf : ∀ i, i ≠ j → f' i = f i) : (bc_fs G c r f).set j (bc_fv G c r' f' j) = bc_fs G c r' f' := by
  apply List.ext_getElem?
  intro i
  by_cases hi : i < bc_nF c
  · by_cases e : i = j
    · subst e
      rw [List.getElem?_set_self (by rw [bc_fs_len]; exact hi), bc_fs_get r' f' hi]
    · rw [List.getElem?_set_ne (Ne.symm e), bc_fs_get r f hi, bc_fs_get r' f' hi]
      unfold bc_fv
      rw [hr i e, hf i e]
  · rw [List.getElem?_eq_none (by rw [List.length_set, bc_fs_len]; omega), List.getElem?_eq_none (by rw [bc_fs_len]; omega)]
theorem bc_o_at {G : BcG} {h : BcH} {k ci : Nat} (hk : bc_o h k ci) (hc : ci < 20) : (bc_wl G h)[k]? = some (G.1 + k, .inr (ci, bc_fs G ci (h.2.1 k) (h.2.2 k))) := by
  rw [bc_wl_get hk.1, bc_ce, hk.2, if_pos hc]
theorem bc_a_at {G : BcG} {h : BcH} {k t len : Nat} (hk : bc_a h k t len) (h1 : 20 ≤ t) (h2 : t < 22) : (bc_wl G h)[k]? = some (G.1 + k, .inl (G.2.1 (t - 20), len, .inl (h.2.2 k))) := by
  rw [bc_wl_get hk.1, bc_ce, hk.2, if_neg (by show ¬ t < 20; omega), if_pos h2]
theorem bc_q_at {G : BcG} {h : BcH} {k t len : Nat} (hk : bc_a h k t len) (h2 : 22 ≤ t) : (bc_wl G h)[k]? = some (G.1 + k, .inl (G.2.1 (t - 20), len, .inr (.inr (.inr (.inr (fun j => (h.2.1 k j).map (G.1 + ·))))))) := by
  rw [bc_wl_get hk.1, bc_ce, hk.2, if_neg (by show ¬ t < 20; omega), if_neg (by show ¬ t < 22; omega)]
theorem bc_si_set {G : BcG} {h : BcH} {k ci j : Nat} {v : Int32} (hk : bc_o h k ci) (hc : ci < 20) (hi : bc_iR ci j = false) (hj : j < bc_nF ci) : (bc_wl G h).set k (G.1 + k, .inr (ci, (bc_fs G ci (h.2.1 k) (h.2.2 k)).set j (.int v))) = bc_wl G (bc_si h k j v) := by
  have e : bc_fv G ci (h.2.1 k) (upd (h.2.2 k) j v) j = .int v := by simp [bc_fv, hi, upd]
  rw [← e, bc_fs_put hj (fun i _ => rfl) (fun i hne => by simp [upd, hne])]
  have e2 : (Sum.inr (ci, bc_fs G ci (h.2.1 k) (upd (h.2.2 k) j v)) : va_E) = bc_ce G (h.1.2 k) (h.2.1 k) (upd (h.2.2 k) j v) := by rw [bc_ce, hk.2, if_pos hc]
  rw [e2, bc_wl_sa hk.1]; rfl
theorem bc_sr_set {G : BcG} {h : BcH} {k ci j kv : Nat} (hk : bc_o h k ci) (hc : ci < 20) (hi : bc_iR ci j = true) (hj : j < bc_nF ci) : (bc_wl G h).set k (G.1 + k, .inr (ci, (bc_fs G ci (h.2.1 k) (h.2.2 k)).set j (.ref (G.1 + kv)))) = bc_wl G (bc_sr h k j (some kv)) := by
  have e : bc_fv G ci (va_up (h.2.1 k) j (some kv)) (h.2.2 k) j = .ref (G.1 + kv) := by simp [bc_fv, hi, va_up, va_rf]
  rw [← e, bc_fs_put hj (fun i hne => by simp [va_up, hne]) (fun i _ => rfl)]
  have e2 : (Sum.inr (ci, bc_fs G ci (va_up (h.2.1 k) j (some kv)) (h.2.2 k)) : va_E) = bc_ce G (h.1.2 k) (va_up (h.2.1 k) j (some kv)) (h.2.2 k) := by rw [bc_ce, hk.2, if_pos hc]
  rw [e2, bc_wl_sr hk.1]
theorem bc_sa_set {G : BcG} {h : BcH} {k t len : Nat} (hk : bc_a h k t len) (h1 : 20 ≤ t) (h2 : t < 22) (f : Nat → Int32) : (bc_wl G h).set k (G.1 + k, .inl (G.2.1 (t - 20), len, .inl f)) = bc_wl G (bc_sa h k f) := by
  have e2 : (.inl (G.2.1 (t - 20), len, .inl f) : va_E) = bc_ce G (h.1.2 k) (h.2.1 k) f := by rw [bc_ce, hk.2, if_neg (by show ¬ t < 20; omega), if_pos h2]
  rw [e2, bc_wl_sa hk.1]
theorem bc_sq_set {G : BcG} {h : BcH} {k t len j kv : Nat} (hk : bc_a h k t len) (h2 : 22 ≤ t) : (bc_wl G h).set k (G.1 + k, .inl (G.2.1 (t - 20), len, .inr (.inr (.inr (.inr (va_up (fun j => (h.2.1 k j).map (G.1 + ·)) j (some (G.1 + kv)))))))) = bc_wl G (bc_sr h k j (some kv)) := by
  have e1 : va_up (fun j => (h.2.1 k j).map (G.1 + ·)) j (some (G.1 + kv)) = fun i => (va_up (h.2.1 k) j (some kv) i).map (G.1 + ·) := by
    funext i
    unfold va_up
    by_cases e : i = j
    · rw [if_pos e, if_pos e]; rfl
    · rw [if_neg e, if_neg e]
  have e2 : (.inl (G.2.1 (t - 20), len, .inr (.inr (.inr (.inr (fun i => (va_up (h.2.1 k) j (some kv) i).map (G.1 + ·)))))) : va_E) = bc_ce G (h.1.2 k) (va_up (h.2.1 k) j (some kv)) (h.2.2 k) := by rw [bc_ce, hk.2, if_neg (by show ¬ t < 20; omega), if_neg (by show ¬ t < 22; omega)]
  rw [e1, e2, bc_wl_sr hk.1]
/-- a new cell's address is the next one -/
theorem bc_next {G : BcG} {M : BcM} {h : BcH} {k n : Nat} {p : Program} {l : Launch} {e : Env} {R : Room} {s : State} {m : MethodId} {args : Array Value} {below : List Frame} {meth : Method} {c : Code} {T : State} {locs : List Loc} {q : Nat} {x : va_E} {cl : List vw_C}
    (hz : s.heap.size + k = G.1 + h.1.1) (hP : va_P G.2.2 cl (bc_wl G h ++ [(q, x)]) T.heap) (hD : va_D (bc_A G) (bc_wl G h ++ [(q, x)])) (X : Stand p l e R s m args below meth c T locs (k + 1) n) : q = G.1 + h.1.1 := by
  have hl : (bc_wl G h ++ [(q, x)])[h.1.1]? = some (q, x) := by
    rw [List.getElem?_append_right (by rw [bc_wl_len]; exact Nat.le_refl _), bc_wl_len, Nat.sub_self]; rfl
  have h1 := (hP h.1.1 _ hl).lt
  have h2 := X.heapSize
  have h3 : G.1 ≤ q := hD.2 h.1.1 _ hl
  have h4 : q < T.heap.size := h1
  rcases Nat.lt_or_ge q (G.1 + h.1.1) with h5 | h5
  · have hk : q - G.1 < h.1.1 := by omega
    have h6 : (bc_wl G h ++ [(q, x)])[q - G.1]? = some (G.1 + (q - G.1), bc_ce G (h.1.2 (q - G.1)) (h.2.1 (q - G.1)) (h.2.2 (q - G.1))) := by
      rw [List.getElem?_append_left (by rw [bc_wl_len]; exact hk), bc_wl_get hk]
    have h7 := hD.1 _ _ _ _ h6 hl (by show G.1 + (q - G.1) = q; omega)
    omega
  · omega
section BCHEAP
variable {G : BcG} {M : BcM} {KQ : BcK} {h : BcH} {k n pc : Nat} {ls ls' : List (Option Value)} {st : List Value} {x y : Int32}
theorem go_getI (q : Nat) {a idx ci j : Nat} {t : FieldType} {fin : Bool} (hd : decode M.2.1 pc = .ok (.getfield idx, 3)) (e : pc + 3 = q) (F : bc_F M.1.cls idx ci j t fin) (hi : bc_iR ci j = false) (ha : bc_o h a ci) (kk : BGo G M KQ h k n q ls (.int (h.2.2 a j) :: st)) : BGo G M KQ h k n pc ls (.ref (G.1 + a) :: st) := by
  subst e
  intro p l e s m args below meth c Q q C H locs la S
  obtain ⟨Cn, T, N, ty, ⟨hc, hin, hN, h20, hty, hnm, hdf⟩, hj, hlk, -, -, hC⟩ := F
  refine va_get (C := Cn) (T := T) (N := N) C.1 C.2.1 C.2.2.2.2.1 hin C.2.2.2.1 C.2.2.2.2.2.2.2.2.2.1 S.2.1 a (bc_o_at ha h20) hc j hj (C.2.2.2.2.1 _ hlk) (fun _ z => z) (v := .int (h.2.2 a j)) ?_ hd (kk p l e s m args below meth c Q q C H locs la S)
  rw [bc_fs_get _ _ (by rw [← hN]; exact hj), bc_fv, hi]; rfl
theorem go_getR (q : Nat) {a idx ci j a1 : Nat} {t : FieldType} {fin : Bool} (hd : decode M.2.1 pc = .ok (.getfield idx, 3)) (e : pc + 3 = q) (F : bc_F M.1.cls idx ci j t fin) (hi : bc_iR ci j = true) (ha : bc_o h a ci) (hr : h.2.1 a j = some a1) (kk : BGo G M KQ h k n q ls (.ref (G.1 + a1) :: st)) : BGo G M KQ h k n pc ls (.ref (G.1 + a) :: st) := by
  subst e
  intro p l e s m args below meth c Q q C H locs la S
  obtain ⟨Cn, T, N, ty, ⟨hc, hin, hN, h20, hty, hnm, hdf⟩, hj, hlk, -, -, hC⟩ := F
  refine va_get (C := Cn) (T := T) (N := N) C.1 C.2.1 C.2.2.2.2.1 hin C.2.2.2.1 C.2.2.2.2.2.2.2.2.2.1 S.2.1 a (bc_o_at ha h20) hc j hj (C.2.2.2.2.1 _ hlk) (fun _ z => z) (v := .ref (G.1 + a1)) ?_ hd (kk p l e s m args below meth c Q q C H locs la S)
  rw [bc_fs_get _ _ (by rw [← hN]; exact hj), bc_fv, hi, hr]; rfl
/-- an int field that isn't final -/
theorem go_putI (q : Nat) {a idx ci j : Nat} {t : FieldType} (hd : decode M.2.1 pc = .ok (.putfield idx, 3)) (e : pc + 3 = q) (F : bc_F M.1.cls idx ci j t false) (hi : bc_iR ci j = false) (ha : bc_o h a ci) (hn : narrow t (.int x) = .int x) (hf : fits t (.int x) = true) (kk : BGo G M KQ (bc_si h a j x) k n q ls st) : BGo G M KQ h k n pc ls (.int x :: .ref (G.1 + a) :: st) := by
  subst e
  intro p l e s m args below meth c Q q C H locs la S
  obtain ⟨Cn, T, N, ty, ⟨hc, hin, hN, h20, hty, hnm, hdf⟩, hj, hlk, htj, hfi, hC⟩ := F
  refine va_put (C := Cn) (T := T) (N := N) (ty := t) (v := .int x) C.1 C.2.1 C.2.2.2.2.1 hin ty hty hnm C.2.2.2.1 C.2.2.2.2.2.2.2.2.2.1 S.2.1 (bc_wl_D G h) S.2.2.1 a (bc_o_at ha h20) hc j hj (C.2.2.2.2.1 _ hlk) (fun _ z => z) hfi (by rw [hty j hj, htj]) hn hf (by rw [bc_fs_len, ← hN]; exact hj) hd (fun H1 locs1 hP hD hS => ?_)
  rw [bc_si_set ha h20 hi (by rw [← hN]; exact hj)] at hP
  exact kk p l e s m args below meth c Q q C H1 locs1 la ⟨S.1, hP, hS, S.2.2.2⟩
/-- a final field that holds a reference, in its constructor -/
theorem go_putF (q : Nat) {a idx ci j kv : Nat} {t : FieldType} (hd : decode M.2.1 pc = .ok (.putfield idx, 3)) (e : pc + 3 = q) (F : bc_F M.1.cls idx ci j t true) (hi : bc_iR ci j = true) (ha : bc_o h a ci) (hcls : (bc_cl[ci]?).map (fun r => r.1) = some M.1.cls) (hin2 : M.1.name = "<init>") (hn : narrow t (.ref (G.1 + kv)) = .ref (G.1 + kv)) (hf : fits t (.ref (G.1 + kv)) = true) (kk : BGo G M KQ (bc_sr h a j (some kv)) k n q ls st) : BGo G M KQ h k n pc ls (.ref (G.1 + kv) :: .ref (G.1 + a) :: st) := by
  subst e
  intro p l e s m args below meth c Q q C H locs la S
  obtain ⟨Cn, T, N, ty, ⟨hc, hin, hN, h20, hty, hnm, hdf⟩, hj, hlk, htj, hfi, hC⟩ := F
  have hCn : Cn = M.1.cls := by
    rw [hc] at hcls
    exact Option.some.inj hcls
  refine va_putF (C := Cn) (T := T) (N := N) (ty := t) (v := .ref (G.1 + kv)) C.1 C.2.1 C.2.2.2.2.1 hin ty hty hnm C.2.2.2.1 C.2.2.2.2.2.2.2.2.2.1 S.2.1 (bc_wl_D G h) S.2.2.1 a (bc_o_at ha h20) hc j hj (C.2.2.2.2.1 _ hlk) (fun _ z => z) hfi (by rw [C.2.2.2.2.2.2.2.1]; exact hin2) (by rw [hC, hCn]) (by rw [hty j hj, htj]) hn hf (by rw [bc_fs_len, ← hN]; exact hj) hd (fun H1 locs1 hP hD hS => ?_)
  rw [bc_sr_set ha h20 hi (by rw [← hN]; exact hj)] at hP
  exact kk p l e s m args below meth c Q q C H1 locs1 la ⟨S.1, hP, hS, S.2.2.2⟩
theorem go_iald (q : Nat) {a len : Nat} (hd : decode M.2.1 pc = .ok (.iaload, 1)) (e : pc + 1 = q) (ha : bc_a h a 20 len) (hin : vp_in x len) (kk : BGo G M KQ h k n q ls (.int (h.2.2 a x.toNatClampNeg) :: st)) : BGo G M KQ h k n pc ls (.int x :: .ref (G.1 + a) :: st) := by
  subst e
  exact fun p l e s m args below meth c Q q C H locs la S => va_iald C.1 C.2.1 C.2.2.2.2.2.2.2.2.2.1 S.2.1 a 0 (bc_a_at ha (by decide) (by decide)) rfl hin hd (kk p l e s m args below meth c Q q C H locs la S)
theorem go_cald (q : Nat) {a len : Nat} (hd : decode M.2.1 pc = .ok (.caload, 1)) (e : pc + 1 = q) (ha : bc_a h a 21 len) (hin : vp_in x len) (kk : BGo G M KQ h k n q ls (.int (h.2.2 a x.toNatClampNeg) :: st)) : BGo G M KQ h k n pc ls (.int x :: .ref (G.1 + a) :: st) := by
  subst e
  exact fun p l e s m args below meth c Q q C H locs la S => va_cald C.1 C.2.1 C.2.2.2.2.2.2.2.2.2.1 S.2.1 a 1 (bc_a_at ha (by decide) (by decide)) rfl hin hd (kk p l e s m args below meth c Q q C H locs la S)
theorem go_iast (q : Nat) {a len : Nat} (hd : decode M.2.1 pc = .ok (.iastore, 1)) (e : pc + 1 = q) (ha : bc_a h a 20 len) (hin : vp_in y len) (kk : BGo G M KQ (bc_si h a y.toNatClampNeg x) k n q ls st) : BGo G M KQ h k n pc ls (.int x :: .int y :: .ref (G.1 + a) :: st) := by
  subst e
  intro p l e s m args below meth c Q q C H locs la S
  refine va_iast C.1 C.2.1 C.2.2.2.2.2.2.2.2.2.1 S.2.1 (bc_wl_D G h) S.2.2.1 a 0 (bc_a_at ha (by decide) (by decide)) rfl hin hd (fun H1 locs1 hP hD hS => ?_)
  rw [bc_sa_set ha (by decide) (by decide)] at hP
  exact kk p l e s m args below meth c Q q C H1 locs1 la ⟨S.1, hP, hS, S.2.2.2⟩
theorem go_cast (q : Nat) {a len : Nat} (hd : decode M.2.1 pc = .ok (.castore, 1)) (e : pc + 1 = q) (ha : bc_a h a 21 len) (hin : vp_in y len) (kk : BGo G M KQ (bc_si h a y.toNatClampNeg (vp_nar .char x)) k n q ls st) : BGo G M KQ h k n pc ls (.int x :: .int y :: .ref (G.1 + a) :: st) := by
  subst e
  intro p l e s m args below meth c Q q C H locs la S
  refine va_cast C.1 C.2.1 C.2.2.2.2.2.2.2.2.2.1 S.2.1 (bc_wl_D G h) S.2.2.1 a 1 (bc_a_at ha (by decide) (by decide)) rfl hin hd (fun H1 locs1 hP hD hS => ?_)
  rw [bc_sa_set ha (by decide) (by decide)] at hP
  exact kk p l e s m args below meth c Q q C H1 locs1 la ⟨S.1, hP, hS, S.2.2.2⟩
theorem go_aald (q : Nat) {a len t a1 : Nat} {Cn : String} (hd : decode M.2.1 pc = .ok (.aaload, 1)) (e : pc + 1 = q) (ha : bc_a h a t len) (h2 : 22 ≤ t) (ht : (bc_ty G)[t - 20]? = some (G.2.1 (t - 20), .object Cn)) (hin : vp_in x len) (hr : h.2.1 a x.toNatClampNeg = some a1) (kk : BGo G M KQ h k n q ls (.ref (G.1 + a1) :: st)) : BGo G M KQ h k n pc ls (.int x :: .ref (G.1 + a) :: st) := by
  subst e
  intro p l e s m args below meth c Q q C H locs la S
  refine va_aldq C.1 C.2.1 C.2.2.2.2.2.2.2.2.2.1 S.2.1 a (t - 20) (bc_q_at ha h2) ht hin hd ?_
  have e3 : va_rf ((fun j => (h.2.1 a j).map (G.1 + ·)) x.toNatClampNeg) = .ref (G.1 + a1) := by
    show va_rf ((h.2.1 a x.toNatClampNeg).map (G.1 + ·)) = _
    rw [hr]; rfl
  rw [e3]
  exact kk p l e s m args below meth c Q q C H locs la S
theorem go_aast (q : Nat) {a len t kv cv : Nat} {r : vw_C} (hd : decode M.2.1 pc = .ok (.aastore, 1)) (e : pc + 1 = q) (ha : bc_a h a t len) (h2 : 22 ≤ t) (ht : (bc_ty G)[t - 20]? = some (G.2.1 (t - 20), .object r.1)) (hv : bc_o h kv cv) (hcv : cv < 20) (hr : bc_cl[cv]? = some r) (hin : vp_in y len) (kk : BGo G M KQ (bc_sr h a y.toNatClampNeg (some kv)) k n q ls st) : BGo G M KQ h k n pc ls (.ref (G.1 + kv) :: .int y :: .ref (G.1 + a) :: st) := by
  subst e
  intro p l e s m args below meth c Q q C H locs la S
  refine va_astq C.1 C.2.1 C.2.2.2.2.2.2.2.2.2.1 S.2.1 (bc_wl_D G h) S.2.2.1 a (t - 20) kv cv (bc_q_at ha h2) ht (bc_o_at hv hcv) hr hin hd (fun H1 locs1 hP hD hS => ?_)
  rw [bc_sq_set ha h2] at hP
  exact kk p l e s m args below meth c Q q C H1 locs1 la ⟨S.1, hP, hS, S.2.2.2⟩
theorem go_alen (q : Nat) {a len t : Nat} {v : Int32} (hd : decode M.2.1 pc = .ok (.arraylength, 1)) (e : pc + 1 = q) (ha : bc_a h a t len) (h1 : 20 ≤ t) (h2 : t < 28) (hv : Int32.ofNat len = v) (kk : BGo G M KQ h k n q ls (.int v :: st)) : BGo G M KQ h k n pc ls (.ref (G.1 + a) :: st) := by
  subst e
  intro p l e s m args below meth c Q q C H locs la S
  have ht : ∃ ty, (bc_ty G)[t - 20]? = some (G.2.1 (t - 20), ty) := by
    have : t = 20 ∨ t = 21 ∨ t = 22 ∨ t = 23 ∨ t = 24 ∨ t = 25 ∨ t = 26 ∨ t = 27 := by omega
    rcases this with rfl | rfl | rfl | rfl | rfl | rfl | rfl | rfl <;> exact ⟨_, rfl⟩
  obtain ⟨ty, ht⟩ := ht
  by_cases h3 : t < 22
  · exact va_alen C.1 C.2.1 C.2.2.2.2.2.2.2.2.2.1 S.2.1 a (t - 20) (bc_a_at ha h1 h3) ht hv hd (kk p l e s m args below meth c Q q C H locs la S)
  · exact va_alen C.1 C.2.1 C.2.2.2.2.2.2.2.2.2.1 S.2.1 a (t - 20) (bc_q_at ha (by omega)) ht hv hd (kk p l e s m args below meth c Q q C H locs la S)
theorem go_new (q : Nat) {idx ci : Nat} {Cn : String} {T : u_T} {N : Nat} {ty : Nat → FieldType} (hd : decode M.2.1 pc = .ok (.new idx, 3)) (e : pc + 3 = q) (K : bc_C ci Cn T N ty) (hcl : Cond.classLink M.1.cls idx Cn ∈ lwG) (hins : Cond.instantiable Cn N ∈ lwG) (hini : Cond.initialized Cn ∈ lwG) (hk : k + 1 ≤ M.2.2.2.2.2.2.1) (hn : n + N ≤ M.2.2.2.2.2.2.2) (kk : BGo G M KQ (bc_nw h (ci, 0)) (k + 1) (n + N) q ls (.ref (G.1 + h.1.1) :: st)) : BGo G M KQ h k n pc ls st := by
  subst e
  intro p l e s m args below meth c Q q C H locs la S
  obtain ⟨hc, hin, hN, h20, hty, hnm, hdf⟩ := K
  refine va_new (ci := ci) (fs := bc_fs G ci (fun _ => none) (fun _ => 0)) C.1 C.2.1 C.2.2.2.2.1 hin ty hty C.2.2.2.1 (C.2.2.2.2.1 _ hcl) (C.2.2.2.2.1 _ hins) (C.2.2.2.2.1 _ hini) C.2.2.2.2.2.2.2.2.2.1 S.2.1 (bc_wl_D G h) S.2.2.1 (fun q hq => Nat.le_trans C.2.2.2.2.2.2.2.2.1 hq) hc (fun j hj => ?_) hk hn hd (fun q1 H1 hP hD hS => ?_)
  · rw [hdf j hj]
    unfold vp_V
    rw [List.getD_eq_getElem?_getD, bc_fs_get _ _ (by rw [← hN]; exact hj)]
    by_cases hr : bc_iR ci j = true
    · rw [if_pos hr]; simp [bc_fv, hr, va_rf]
    · rw [if_neg hr]; simp [bc_fv, hr]
  · intro T1 hT X
    subst hT
    have e1 := bc_next (M := M) S.1 hP hD X
    subst e1
    have e2 : (Sum.inr (ci, bc_fs G ci (fun _ => none) (fun _ => 0)) : va_E) = bc_ce G (ci, 0) (fun _ => none) (fun _ => 0) := by rw [bc_ce, if_pos h20]
    rw [e2, bc_wl_nw] at hP
    exact kk p l e s m args below meth c Q q C T1.heap locs la ⟨by have := S.1; show s.heap.size + (k + 1) = G.1 + (h.1.1 + 1); omega, hP, hS, S.2.2.2⟩ T1 rfl X
theorem go_newA (q : Nat) {at0 : ArrayType} {t len : Nat} {ty : FieldType} (hd : decode M.2.1 pc = .ok (.newarray at0, 2)) (e : pc + 2 = q) (hty : newarray.typeOf at0 = ty) (ht : (t = 20 ∧ ty = .int) ∨ (t = 21 ∧ ty = .char)) (hw : Cond.arrayClass ty ∈ lwG) (hx : x = nI len) (hl : len < 100000) (hk : k + 1 ≤ M.2.2.2.2.2.2.1) (hn : n + len ≤ M.2.2.2.2.2.2.2) (kk : BGo G M KQ (bc_nw h (t, len)) (k + 1) (n + len) q ls (.ref (G.1 + h.1.1) :: st)) : BGo G M KQ h k n pc ls (.int x :: st) := by
  subst e
  intro p l e s m args below meth c Q q C H locs la S
  have hcb : len * componentBytes ty ≤ 536870912 := by
    rcases ht with ⟨-, rfl⟩ | ⟨-, rfl⟩
    · show len * 4 ≤ _; omega
    · show len * 2 ≤ _; omega
  refine va_newa (a0 := (len, .inl (fun _ => 0))) C.1 C.2.1 (by rw [hty]; exact C.2.2.2.2.1 _ hw) hty C.2.2.2.2.2.2.2.2.2.1 S.2.1 (bc_wl_D G h) S.2.2.1 (fun q hq => Nat.le_trans C.2.2.2.2.2.2.2.2.1 hq) (fun cA => ?_) (by rw [hx]; exact nI_pos (by omega)) (by rw [hx]; exact nI_clamp (by omega)) hcb hk hn hd (fun q1 cA H1 hK hP hD hS => ?_)
  · rcases ht with ⟨-, rfl⟩ | ⟨-, rfl⟩ <;> rfl
  · intro T1 hT X
    subst hT
    have e1 := bc_next (M := M) S.1 hP hD X
    subst e1
    have hnew : va_RA s cA ty := (hK.2 (bc_ty G).length _ (by rw [List.getElem?_append_right (Nat.le_refl _), Nat.sub_self]; rfl)).2
    have hold : (bc_ty G)[t - 20]? = some (G.2.1 (t - 20), ty) := by
      rcases ht with ⟨rfl, rfl⟩ | ⟨rfl, rfl⟩ <;> rfl
    have hol2 : va_RA s (G.2.1 (t - 20)) ty := (C.2.2.2.2.2.2.2.2.2.1.2 (t - 20) _ hold).2
    have e3 : cA = G.2.1 (t - 20) := by
      rcases ht with ⟨-, rfl⟩ | ⟨-, rfl⟩
      · exact Option.some.inj (Eq.trans (Eq.symm (show s.vm.findClass _ = some cA from hnew)) hol2)
      · exact Option.some.inj (Eq.trans (Eq.symm (show s.vm.findClass _ = some cA from hnew)) hol2)
    subst e3
    have e2 : (.inl (G.2.1 (t - 20), len, .inl (fun _ => 0)) : va_E) = bc_ce G (t, len) (fun _ => none) (fun _ => 0) := by
      rcases ht with ⟨rfl, -⟩ | ⟨rfl, -⟩ <;> rfl
    rw [e2, bc_wl_nw] at hP
    exact kk p l e s m args below meth c Q q C T1.heap locs la ⟨by have := S.1; show s.heap.size + (k + 1) = G.1 + (h.1.1 + 1); omega, hP, hS, S.2.2.2⟩ T1 rfl X
theorem go_newQ (q : Nat) {idx t len : Nat} {Cn : String} (hd : decode M.2.1 pc = .ok (.anewarray idx, 3)) (e : pc + 3 = q) (h2 : 22 ≤ t) (ht : (bc_ty G)[t - 20]? = some (G.2.1 (t - 20), .object Cn)) (hcl : Cond.classLink M.1.cls idx Cn ∈ lwG) (hao : Cn ∈ bc_ao) (hx : x = nI len) (hl : len < 100000) (hk : k + 1 ≤ M.2.2.2.2.2.2.1) (hn : n + len ≤ M.2.2.2.2.2.2.2) (kk : BGo G M KQ (bc_nw h (t, len)) (k + 1) (n + len) q ls (.ref (G.1 + h.1.1) :: st)) : BGo G M KQ h k n pc ls (.int x :: st) := by
  subst e
  intro p l e s m args below meth c Q q C H locs la S
  refine va_newq C.1 C.2.1 C.2.2.2.1 (C.2.2.2.2.1 _ hcl) (C.2.2.2.2.2.2.2.2.2.2.2 Cn hao) C.2.2.2.2.2.2.2.2.2.1 S.2.1 (bc_wl_D G h) S.2.2.1 (fun q hq => Nat.le_trans C.2.2.2.2.2.2.2.2.1 hq) (by rw [hx]; exact nI_pos (by omega)) (by rw [hx]; exact nI_clamp (by omega)) (by omega) hk hn hd (fun q1 cA H1 hK hP hD hS => ?_)
  intro T1 hT X
  subst hT
  have e1 := bc_next (M := M) S.1 hP hD X
  subst e1
  have hnew : va_RA s cA (.object Cn) := (hK.2 (bc_ty G).length _ (by rw [List.getElem?_append_right (Nat.le_refl _), Nat.sub_self]; rfl)).2
  have hol2 : va_RA s (G.2.1 (t - 20)) (.object Cn) := (C.2.2.2.2.2.2.2.2.2.1.2 (t - 20) _ ht).2
  have e3 : cA = G.2.1 (t - 20) := by
    obtain ⟨_, _, -, -, -, h5⟩ := hnew
    obtain ⟨_, _, -, -, -, h6⟩ := hol2
    exact Option.some.inj (h5.symm.trans h6)
  subst e3
  have e2 : (.inl (G.2.1 (t - 20), len, .inr (.inr (.inr (.inr (fun _ => none))))) : va_E) = bc_ce G (t, len) (fun _ => none) (fun _ => 0) := by
    rw [bc_ce, if_neg (by show ¬ t < 20; omega), if_neg (by show ¬ t < 22; omega)]; rfl
  rw [e2, bc_wl_nw] at hP
  exact kk p l e s m args below meth c Q q C T1.heap locs la ⟨by have := S.1; show s.heap.size + (k + 1) = G.1 + (h.1.1 + 1); omega, hP, hS, S.2.2.2⟩ T1 rfl X
theorem go_objInit (q : Nat) {idx a : Nat} (hd : decode M.2.1 pc = .ok (.invokespecial idx, 3)) (e : pc + 3 = q) (hm : Cond.methodLink M.1.cls idx Lib.objectInit ∈ lwG) (hi : Cond.instanceMethod Lib.objectInit ∈ lwG) (hc : Cond.code Lib.objectInit ⟨#[0xb1]⟩ 1 none ∈ lwG) (hf : 1 ≤ M.2.2.2.2.1) (hw : 12 ≤ M.2.2.2.2.2.1) (kk : BGo G M KQ h k n q ls []) : BGo G M KQ h k n pc ls [.ref a] := by
  subst e
  exact fun p l e s m args below meth c Q q C H locs la S => W.objInit C.1 C.2.1 C.2.2.2.1 (C.2.2.2.2.1 _ hm) (C.2.2.2.2.1 _ hi) (C.2.2.2.2.1 _ hc) rfl (by rw [C.2.2.1, ← S.2.2.2.2]; exact S.2.2.2.1.1) rfl hd hf hw (kk p l e s m args below meth c Q q C H locs la S)
end BCHEAP
