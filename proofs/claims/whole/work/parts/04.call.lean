/-! RETURNS AND CALLS -/
def OkM (M : BcM) (np : Nat) : Prop := Cond.code M.1 M.2.1 M.2.2.1 M.2.2.2.1 ∈ lwG ∧ Cond.initialized M.1.cls ∈ lwG ∧ M.1.cls ≠ "java/lang/invoke/MethodHandle" ∧ M.1.cls ≠ "java/lang/invoke/VarHandle" ∧ (parseMethodDescriptor M.1.desc).map (fun d => d.parameters.length) = some np
def OkV (M : BcM) (np : Nat) : Prop := OkM M np ∧ Cond.instanceMethod M.1 ∈ lwG ∧ Cond.selects M.1.cls M.1 M.1 ∈ lwG
def OkS (M : BcM) (np : Nat) : Prop := OkM M np ∧ Cond.static M.1 ∈ lwG
def OkI (M : BcM) (np : Nat) : Prop := OkM M np ∧ Cond.instanceMethod M.1 ∈ lwG ∧ M.1.name = "<init>" ∧ M.2.2.2.1 = none
/-- the callee's frames and words fit the caller's -/
def bc_fit (M' M : BcM) : Prop := M'.2.2.2.2.1 + 1 ≤ M.2.2.2.2.1 ∧ 8 + (M'.2.2.1 + 11) + M'.2.2.2.2.2.1 ≤ M.2.2.2.2.2.1
def pI (r : Int32) (h1 : BcH) : Option Value → BcH → Prop := fun v h' => v = some (.int r) ∧ h' = h1
def pA (a : Nat) (h1 : BcH) : Option Value → BcH → Prop := fun v h' => v = some (.ref a) ∧ h' = h1
def pZ (h1 : BcH) : Option Value → BcH → Prop := fun v h' => v = some .null ∧ h' = h1
def pV (h1 : BcH) : Option Value → BcH → Prop := fun v h' => v = none ∧ h' = h1
/-- 1 or 0 -/
noncomputable def bI (c : Prop) : Int32 := @ite Int32 c (Classical.propDecidable c) 1 0
theorem Ct.weak {G : BcG} {M : BcM} {vs : List Value} {h : BcH} {p1 p2 : Option Value → BcH → Prop} (hc : Ct G M vs h p1) (hp : ∀ v h', p1 v h' → p2 v h') : Ct G M vs h p2 := by
  intro l p e ha hc2 hk s m args below hf happ hP htr
  obtain ⟨n, o, b1, b2, b3, ⟨⟨⟨v, h', e1, e2, e3⟩, hF⟩, L⟩⟩ := hc l p e ha hc2 hk s m args below hf happ hP htr
  exact ⟨n, o, b1, b2, b3, ⟨⟨⟨v, h', e1, hp v h' e2, e3⟩, hF⟩, L⟩⟩
section BCCALL
variable {G : BcG} {M M' : BcM} {KQ : BcK} {h h1 : BcH} {k n pc N a r1 np ci idx : Nat} {ls ls' : List (Option Value)} {st rest As : List Value} {x y r : Int32} {post : Option Value → BcH → Prop}
theorem go_ret_i (hd : decode M.2.1 pc = .ok (.ireturn, 1)) (hr : M.2.2.2.1 = some .int) (hk : k = M.2.2.2.2.2.2.1) (hn : n = M.2.2.2.2.2.2.2) (hp : post (some (.int x)) h) : BGo G M (KM G M N post) h k n pc ls [.int x] := by
  intro p l e s m args below meth c Q q C H locs la S
  obtain ⟨hz, rfl⟩ := q
  subst hk
  subst hn
  exact W.iret C.1 C.2.1 (C.2.2.2.2.2.1.trans hr) (fun t ht hW => ⟨⟨some (.int x), h, rfl, hp, by have := S.1; omega, by rw [ht]; exact S.2.1⟩, S.2.2.1.F ht⟩) S.2.2.1.2.2 hd C.2.2.2.2.2.2.1
theorem go_ret_z {ty : FieldType} (hd : decode M.2.1 pc = .ok (.ireturn, 1)) (hr : M.2.2.2.1 = some ty) (hy : narrow ty (.int x) = .int x) (hk : k = M.2.2.2.2.2.2.1) (hn : n = M.2.2.2.2.2.2.2) (hp : post (some (.int x)) h) : BGo G M (KM G M N post) h k n pc ls [.int x] := by
  intro p l e s m args below meth c Q q C H locs la S
  obtain ⟨hz, rfl⟩ := q
  subst hk
  subst hn
  exact W.zret C.1 C.2.1 (C.2.2.2.2.2.1.trans hr) hy (fun t ht hW => ⟨⟨some (.int x), h, rfl, hp, by have := S.1; omega, by rw [ht]; exact S.2.1⟩, S.2.2.1.F ht⟩) S.2.2.1.2.2 hd C.2.2.2.2.2.2.1
theorem go_ret_v (hd : decode M.2.1 pc = .ok (.return_, 1)) (hr : M.2.2.2.1 = none) (hk : k = M.2.2.2.2.2.2.1) (hn : n = M.2.2.2.2.2.2.2) (hp : post none h) : BGo G M (KM G M N post) h k n pc ls [] := by
  intro p l e s m args below meth c Q q C H locs la S
  obtain ⟨hz, rfl⟩ := q
  subst hk
  subst hn
  exact W.vret C.1 C.2.1 (C.2.2.2.2.2.1.trans hr) (fun t ht hW => ⟨⟨none, h, rfl, hp, by have := S.1; omega, by rw [ht]; exact S.2.1⟩, S.2.2.1.F ht⟩) S.2.2.1.2.2 hd C.2.2.2.2.2.2.1
theorem go_ret_a {nm : String} (hd : decode M.2.1 pc = .ok (.areturn, 1)) (hr : M.2.2.2.1 = some (.object nm)) (hk : k = M.2.2.2.2.2.2.1) (hn : n = M.2.2.2.2.2.2.2) (hp : post (some (.ref a)) h) : BGo G M (KM G M N post) h k n pc ls [.ref a] := by
  intro p l e s m args below meth c Q q C H locs la S
  obtain ⟨hz, rfl⟩ := q
  subst hk
  subst hn
  exact W.aret C.1 C.2.1 (C.2.2.2.2.2.1.trans hr) (Or.inl ⟨nm, rfl⟩) (Or.inr ⟨a, rfl⟩) (fun t ht hW => ⟨⟨some (.ref a), h, rfl, hp, by have := S.1; omega, by rw [ht]; exact S.2.1⟩, S.2.2.1.F ht⟩) S.2.2.1.2.2 hd C.2.2.2.2.2.2.1
theorem go_ret_n {nm : String} (hd : decode M.2.1 pc = .ok (.areturn, 1)) (hr : M.2.2.2.1 = some (.object nm)) (hk : k = M.2.2.2.2.2.2.1) (hn : n = M.2.2.2.2.2.2.2) (hp : post (some .null) h) : BGo G M (KM G M N post) h k n pc ls [.null] := by
  intro p l e s m args below meth c Q q C H locs la S
  obtain ⟨hz, rfl⟩ := q
  subst hk
  subst hn
  exact W.aret C.1 C.2.1 (C.2.2.2.2.2.1.trans hr) (Or.inl ⟨nm, rfl⟩) (Or.inl rfl) (fun t ht hW => ⟨⟨some .null, h, rfl, hp, by have := S.1; omega, by rw [ht]; exact S.2.1⟩, S.2.2.1.F ht⟩) S.2.2.1.2.2 hd C.2.2.2.2.2.2.1
/-- behind a call -/
theorem bc_after {p : Program} {l : Launch} {e : Env} {s : State} {m : MethodId} {args : Array Value} {below : List Frame} {meth : Method} {c : Code} {Q : State → Prop} {H : Heap} {locs : List Loc} {la : Array Slot} {st0 : List Value} {mc ms : Nat} {aa : Array Value}
    (q : KQ p l e s m args below meth c Q) (C : bc_Cx G M p s m args meth c) (S : bc_St G M h k ls s H locs la) (hr : va_Run p l e (bc_rm M) s m args below meth c H locs k n mc ms (F0 m pc la st0) rest (bc_Q G (h.1.1 + mc) post aa) (bc_A G))
    (kk : ∀ v h', post v h' → BGo G M KQ h' (k + mc) (n + ms) (pc + 3) ls (v.toList ++ rest)) : W p l e (bc_rm M) s m args below meth c H locs k n Q (F0 m pc la st0) := by
  intro T hT X
  obtain ⟨v, st₀, t, T', L, h0, X', hL, e1, e2, ⟨⟨v', h', hv, hp, hN, hP'⟩, hz, hk⟩, st⟩ := hr T hT X
  cases hv
  rw [h0] at hz hk
  obtain ⟨t2, a1, b1⟩ := kk v h' hp p l e s m args below meth c Q q C T'.heap (locs ++ L) la ⟨by rw [hN]; have := S.1; omega, by rw [e1]; exact hP', ⟨by rw [e1]; exact Nat.le_trans S.2.2.1.1 hz, fun q h1 h2 => by rw [e1, hk q (Nat.lt_of_lt_of_le h1 S.2.2.1.1) h2]; exact S.2.2.1.2.1 q h1 h2, fun q hq => by
      rcases List.mem_append.mp hq with h | h
      · exact S.2.2.1.2.2 q h
      · exact hL q h⟩, S.2.2.2⟩ T' rfl X'
  exact ⟨t2, st t2 a1, b1⟩
theorem bc_wsin (M' : BcM) (hc : Cond.code M'.1 M'.2.1 M'.2.2.1 M'.2.2.2.1 ∈ lwG) : ∀ w ∈ bc_ws M', w ∈ lwG := by
  intro w hw
  rcases List.mem_cons.mp hw with rfl | hw
  · exact hc
  · exact hw
theorem bc_pre {p : Program} {l : Launch} {e : Env} {s : State} {m : MethodId} {args : Array Value} {below : List Frame} {meth : Method} {c : Code} {T : State} {locs : List Loc} {la : Array Slot} {vs : List Value} (C : bc_Cx G M p s m args meth c) (S : bc_St G M h k ls s T.heap locs la) (X : Stand p l e (bc_rm M) s m args below meth c T locs k n) :
    ∀ U : State, U.heap = T.heap → s.WarmedH U.vm → bc_P G h vs vs.toArray U := fun U hU hW => ⟨rfl, by rw [hU]; exact bc_size C.2.2.2.2.2.2.2.2.1 S X, by rw [hU]; exact S.2.1, bc_K.warm hW C.2.2.2.2.2.2.2.2.2⟩
theorem go_V (q : Nat) (hd : decode M.2.1 pc = .ok (.invokevirtual idx, 3)) (e : pc + 3 = q) (hl : Cond.methodLink M.1.cls idx M'.1 ∈ lwG) (ok : OkV M' np) (fit : bc_fit M' M) (z1 : M'.2.2.2.2.2.2.1 = 0) (z2 : M'.2.2.2.2.2.2.2 = 0) (hk : k ≤ M.2.2.2.2.2.2.1) (hn : n ≤ M.2.2.2.2.2.2.2) (ct : Ct G M' (.ref (G.1 + a) :: As) h post) (hst : st = As.reverse ++ .ref (G.1 + a) :: rest) (hlen : As.length = np) (hw : (rest.map fun v => v.category).sum ≤ 8) (ha : bc_o h a ci) (h20 : ci < 20) (hcn : (bc_cl[ci]?).map (fun r => r.1) = some M'.1.cls)
    (kk : ∀ v h', post v h' → BGo G M KQ h' k n q ls (v.toList ++ rest)) : BGo G M KQ h k n pc ls st := by
  subst e
  subst hst
  intro p l e s m args below meth c Q q C H locs la S T hT X
  subst hT
  obtain ⟨⟨hc, hin, hm⟩, hi, hs⟩ := ok
  obtain ⟨rr, hrr⟩ : ∃ rr, bc_cl[ci]? = some rr := by
    cases hx : bc_cl[ci]? with
    | none => rw [hx] at hcn; cases hcn
    | some rr => exact ⟨rr, rfl⟩
  have hnm : rr.1 = M'.1.cls := by rw [hrr] at hcn; exact Option.some.inj hcn
  have hrv := va_recv C.2.2.2.2.2.2.2.2.2.1 S.2.1 hrr (bc_o_at ha h20)
  rw [hnm] at hrv
  refine bc_after q C S (va_runV (C := M'.1.cls) (As := As) (rest := rest) ⟨C.1, C.2.1, C.2.2.1, C.2.2.2.1, C.2.2.2.2.1⟩ (ct l) (cwV np C.2.2.2.2.1 (lwG_good (ws := wsV M.1.cls idx M'.1.cls M'.1 (bc_ws M')) ?_) rfl rfl rfl ⟨rfl, hm⟩ ⟨fit.1, fit.2⟩) ⟨bc_blind, hrv, bc_pre C S X⟩ rfl hlen (by rw [← S.2.2.2.2]; exact S.2.2.2.1.1) rfl (lv_room hw) hd ⟨by rw [z1]; exact hk, by rw [z2]; exact hn⟩) (fun v h' hp => ?_) T rfl X
  · intro w hw
    rcases List.mem_append.mp hw with hw | hw
    · simp only [List.mem_cons, List.not_mem_nil, or_false] at hw
      rcases hw with rfl | rfl | rfl | rfl
      · exact hl
      · exact hi
      · exact hs
      · exact hin
    · exact bc_wsin M' hc w hw
  · rw [z1, z2]
    exact kk v h' hp
theorem go_S (q : Nat) (hd : decode M.2.1 pc = .ok (.invokestatic idx, 3)) (e : pc + 3 = q) (hl : Cond.methodLink M.1.cls idx M'.1 ∈ lwG) (ok : OkS M' np) (fit : bc_fit M' M) (z1 : M'.2.2.2.2.2.2.1 = 0) (z2 : M'.2.2.2.2.2.2.2 = 0) (hk : k ≤ M.2.2.2.2.2.2.1) (hn : n ≤ M.2.2.2.2.2.2.2) (ct : Ct G M' As h post) (hst : st = As.reverse ++ rest) (hlen : As.length = np) (hw : (rest.map fun v => v.category).sum ≤ 8)
    (kk : ∀ v h', post v h' → BGo G M KQ h' k n q ls (v.toList ++ rest)) : BGo G M KQ h k n pc ls st := by
  subst e
  subst hst
  intro p l e s m args below meth c Q q C H locs la S T hT X
  subst hT
  obtain ⟨⟨hc, hin, hm⟩, hs⟩ := ok
  refine bc_after q C S (va_runS (As := As) (rest := rest) ⟨C.1, C.2.1, C.2.2.1, C.2.2.2.1, C.2.2.2.2.1⟩ (ct l) (va_cwS np C.2.2.2.2.1 (lwG_good (ws := va_wsS M.1.cls idx M'.1 (bc_ws M')) ?_) rfl rfl rfl hm ⟨fit.1, fit.2⟩) ⟨bc_blind, bc_pre C S X⟩ rfl hlen (by rw [← S.2.2.2.2]; exact S.2.2.2.1.1) rfl (lv_room hw) hd ⟨by rw [z1]; exact hk, by rw [z2]; exact hn⟩) (fun v h' hp => ?_) T rfl X
  · intro w hw
    rcases List.mem_append.mp hw with hw | hw
    · simp only [List.mem_cons, List.not_mem_nil, or_false] at hw
      rcases hw with rfl | rfl | rfl
      · exact hl
      · exact hs
      · exact hin
    · exact bc_wsin M' hc w hw
  · rw [z1, z2]
    exact kk v h' hp
/-- a private static method of a nest mate -/
theorem go_T (q : Nat) (hd : decode M.2.1 pc = .ok (.invokestatic idx, 3)) (e : pc + 3 = q) (hl : (M.1.cls, idx, M'.1) ∈ bc_nx) (ok : OkS M' np) (fit : bc_fit M' M) (z1 : M'.2.2.2.2.2.2.1 = 0) (z2 : M'.2.2.2.2.2.2.2 = 0) (hk : k ≤ M.2.2.2.2.2.2.1) (hn : n ≤ M.2.2.2.2.2.2.2) (ct : Ct G M' As h post) (hst : st = As.reverse ++ rest) (hlen : As.length = np) (hw : (rest.map fun v => v.category).sum ≤ 8)
    (kk : ∀ v h', post v h' → BGo G M KQ h' k n q ls (v.toList ++ rest)) : BGo G M KQ h k n pc ls st := by
  subst e
  subst hst
  intro p l e s m args below meth c Q q C H locs la S T hT X
  subst hT
  obtain ⟨⟨hc, hin, hm⟩, hs⟩ := ok
  refine bc_after q C S (va_runSN (host := RX8) (As := As) (rest := rest) ⟨C.1, C.2.1, C.2.2.1, C.2.2.2.1, C.2.2.2.2.1⟩ (ct l) ⟨va_cnB np C.2.2.2.2.1 (lwG_good (bc_wsin M' hc)) rfl rfl rfl (C.2.2.2.2.2.2.2.2.2.2.1 _ hl) (C.2.2.2.2.1 _ hin) hm ⟨fit.1, fit.2⟩, C.2.2.2.2.1 _ hs, trivial⟩ ⟨bc_blind, bc_pre C S X⟩ rfl hlen (by rw [← S.2.2.2.2]; exact S.2.2.2.1.1) rfl (lv_room hw) hd ⟨by rw [z1]; exact hk, by rw [z2]; exact hn⟩) (fun v h' hp => ?_) T rfl X
  rw [z1, z2]
  exact kk v h' hp
/-- constructors, which may make cells -/
theorem go_I (q k2 n2 : Nat) (hd : decode M.2.1 pc = .ok (.invokespecial idx, 3)) (e : pc + 3 = q) (hl : Cond.methodLink M.1.cls idx M'.1 ∈ lwG) (ok : OkI M' np) (fit : bc_fit M' M) (z1 : k + M'.2.2.2.2.2.2.1 = k2) (z2 : n + M'.2.2.2.2.2.2.2 = n2) (hk : k2 ≤ M.2.2.2.2.2.2.1) (hn : n2 ≤ M.2.2.2.2.2.2.2) (ct : Ct G M' (.ref a :: As) h post) (hst : st = As.reverse ++ .ref a :: rest) (hlen : As.length = np) (hw : (rest.map fun v => v.category).sum ≤ 8)
    (kk : ∀ v h', post v h' → BGo G M KQ h' k2 n2 q ls (v.toList ++ rest)) : BGo G M KQ h k n pc ls st := by
  subst e
  subst hst
  subst z1
  subst z2
  intro p l e s m args below meth c Q q C H locs la S T hT X
  subst hT
  obtain ⟨⟨hc, hin, hm⟩, hi, hnm, hret⟩ := ok
  have hM := ct l
  unfold bc_ws at hM
  rw [hret] at hM hc
  refine bc_after q C S (va_runI (As := As) (rest := rest) ⟨C.1, C.2.1, C.2.2.1, C.2.2.2.1, C.2.2.2.2.1⟩ hM (cwI np C.2.2.2.2.1 (lwG_good ?_) rfl rfl rfl (C.2.2.2.2.1 _ hin) (C.2.2.2.2.1 _ hl) (C.2.2.2.2.1 _ hi) hnm hm ⟨fit.1, fit.2⟩) ⟨bc_blind, bc_pre C S X⟩ rfl hlen (by rw [← S.2.2.2.2]; exact S.2.2.2.1.1) rfl (lv_room hw) hd ⟨hk, hn⟩) kk T rfl X
  intro w hw
  rcases List.mem_cons.mp hw with rfl | hw
  · exact hc
  · exact hw
theorem go_IN (q k2 n2 : Nat) (hd : decode M.2.1 pc = .ok (.invokespecial idx, 3)) (e : pc + 3 = q) (hl : (M.1.cls, idx, M'.1) ∈ bc_nx) (ok : OkI M' np) (fit : bc_fit M' M) (z1 : k + M'.2.2.2.2.2.2.1 = k2) (z2 : n + M'.2.2.2.2.2.2.2 = n2) (hk : k2 ≤ M.2.2.2.2.2.2.1) (hn : n2 ≤ M.2.2.2.2.2.2.2) (ct : Ct G M' (.ref a :: As) h post) (hst : st = As.reverse ++ .ref a :: rest) (hlen : As.length = np) (hw : (rest.map fun v => v.category).sum ≤ 8)
    (kk : ∀ v h', post v h' → BGo G M KQ h' k2 n2 q ls (v.toList ++ rest)) : BGo G M KQ h k n pc ls st := by
  subst e
  subst hst
  subst z1
  subst z2
  intro p l e s m args below meth c Q q C H locs la S T hT X
  subst hT
  obtain ⟨⟨hc, hin, hm⟩, hi, hnm, hret⟩ := ok
  have hM := ct l
  unfold bc_ws at hM
  rw [hret] at hM hc
  refine bc_after q C S (va_runIN (host := RX8) (As := As) (rest := rest) ⟨C.1, C.2.1, C.2.2.1, C.2.2.2.1, C.2.2.2.2.1⟩ hM ⟨va_cnB np C.2.2.2.2.1 (lwG_good ?_) rfl rfl rfl (C.2.2.2.2.2.2.2.2.2.2.1 _ hl) (C.2.2.2.2.1 _ hin) hm ⟨fit.1, fit.2⟩, hnm, C.2.2.2.2.1 _ hi⟩ ⟨bc_blind, bc_pre C S X⟩ rfl hlen (by rw [← S.2.2.2.2]; exact S.2.2.2.1.1) rfl (lv_room hw) hd ⟨hk, hn⟩) kk T rfl X
  intro w hw
  rcases List.mem_cons.mp hw with rfl | hw
  · exact hc
  · exact hw
theorem go_mmax (q : Nat) (hd : decode M.2.1 pc = .ok (.invokestatic idx, 3)) (e : pc + 3 = q) (hl : Cond.methodLink M.1.cls idx Lib.Math.max.name ∈ lwG) (hs : Cond.static Lib.Math.max.name ∈ lwG) (hi : Cond.initialized "java/lang/Math" ∈ lwG) (hc : Cond.code Lib.Math.max.name Lib.Math.max.code 2 (some .int) ∈ lwG) (hf : 1 ≤ M.2.2.2.2.1) (hw : (st.map fun v => v.category).sum + 13 ≤ M.2.2.2.2.2.1) (hk : k ≤ M.2.2.2.2.2.2.1) (hn : n ≤ M.2.2.2.2.2.2.2) (kk : BGo G M KQ h k n q ls (.int (if x < y then y else x) :: st)) : BGo G M KQ h k n pc ls (.int y :: .int x :: st) := by
  subst e
  exact fun p l e s m args below meth c Q q C H locs la S => va_mmax C.1 C.2.1 (by rw [C.2.2.1, ← S.2.2.2.2]; exact S.2.2.2.1.1.symm) C.2.2.2.1 (C.2.2.2.2.1 _ hl) (C.2.2.2.2.1 _ hs) (C.2.2.2.2.1 _ hi) (C.2.2.2.2.1 _ hc) hf hw hk hn hd (kk p l e s m args below meth c Q q C H locs la S)
theorem go_mmin (q : Nat) (hd : decode M.2.1 pc = .ok (.invokestatic idx, 3)) (e : pc + 3 = q) (hl : Cond.methodLink M.1.cls idx Lib.Math.min.name ∈ lwG) (hs : Cond.static Lib.Math.min.name ∈ lwG) (hi : Cond.initialized "java/lang/Math" ∈ lwG) (hc : Cond.code Lib.Math.min.name Lib.Math.min.code 2 (some .int) ∈ lwG) (hf : 1 ≤ M.2.2.2.2.1) (hw : (st.map fun v => v.category).sum + 13 ≤ M.2.2.2.2.2.1) (hk : k ≤ M.2.2.2.2.2.2.1) (hn : n ≤ M.2.2.2.2.2.2.2) (kk : BGo G M KQ h k n q ls (.int (if y < x then y else x) :: st)) : BGo G M KQ h k n pc ls (.int y :: .int x :: st) := by
  subst e
  exact fun p l e s m args below meth c Q q C H locs la S => va_mmin C.1 C.2.1 (by rw [C.2.2.1, ← S.2.2.2.2]; exact S.2.2.2.1.1.symm) C.2.2.2.1 (C.2.2.2.2.1 _ hl) (C.2.2.2.2.1 _ hs) (C.2.2.2.2.1 _ hi) (C.2.2.2.2.1 _ hc) hf hw hk hn hd (kk p l e s m args below meth c Q q C H locs la S)
/-- System.arraycopy of a whole int array into another one, from 0 to 0 -/
theorem go_copy (q : Nat) {a0 a1 len0 len1 w : Nat} (hd : decode M.2.1 pc = .ok (.invokestatic idx, 3)) (e : pc + 3 = q) (hl : Cond.methodLink M.1.cls idx arraycopyName ∈ lwG) (hna : Cond.native arraycopyName ∈ lwG) (hs : Cond.static arraycopyName ∈ lwG) (hi : Cond.initialized "java/lang/System" ∈ lwG) (h0 : bc_a h a0 20 len0) (h1 : bc_a h a1 20 len1) (hx : x = nI w) (hw0 : w ≤ len0) (hw1 : w ≤ len1) (hw2 : w < 100000) (hf : 1 ≤ M.2.2.2.2.1) (hw : (st.map fun v => v.category).sum + (nativeFrameWords "java/lang/System" "arraycopy" 5 + 11) ≤ M.2.2.2.2.2.1) (kk : BGo G M KQ (bc_sa h a1 (va_cpy (h.2.2 a0) (h.2.2 a1) 0 0 w)) k n q ls st) : BGo G M KQ h k n pc ls (.int x :: .int 0 :: .ref (G.1 + a1) :: .int 0 :: .ref (G.1 + a0) :: st) := by
  subst e
  intro p l e s m args below meth c Q q C H locs la S
  have hc : x.toNatClampNeg = w := by rw [hx]; exact nI_clamp (by omega)
  refine va_copyi C.1 C.2.1 (by rw [C.2.2.1, ← S.2.2.2.2]; exact S.2.2.2.1.1.symm) C.2.2.2.1 (C.2.2.2.2.1 _ hl) (C.2.2.2.2.1 _ hna) (C.2.2.2.2.1 _ hs) (C.2.2.2.2.1 _ hi) C.2.2.2.2.2.2.2.2.2.1 S.2.1 (bc_wl_D G h) S.2.2.1 a0 a1 0 0 (bc_a_at h0 (by decide) (by decide)) (bc_a_at h1 (by decide) (by decide)) rfl rfl rfl (by decide) (by decide) (by rw [hx]; exact nI_pos (by omega)) (by rw [hc]; show 0 + w ≤ len0; omega) (by rw [hc]; show 0 + w ≤ len1; omega) (fun i hi => rfl) hf hw hd (fun H1 locs1 hP hD hS => ?_)
  rw [hc] at hP
  rw [bc_sa_set h1 (by decide) (by decide)] at hP
  exact kk p l e s m args below meth c Q q C H1 locs1 la ⟨S.1, hP, hS, S.2.2.2⟩
theorem go_ifeq_b (tgt q : Nat) {off : Int} {c : Prop} (hd : decode M.2.1 pc = .ok (.ifCond .eq off, 3)) (ht : (pc : Int) + off = (tgt : Int)) (e : pc + 3 = q) (kt : ¬ c → BGo G M KQ h k n tgt ls st) (kf : c → BGo G M KQ h k n q ls st) : BGo G M KQ h k n pc ls (.int (bI c) :: st) :=
  go_if_eq tgt q hd ht e (fun z => kt (fun hc => by rw [bI, if_pos hc] at z; exact absurd z (by decide))) (fun z => kf (Classical.byContradiction fun hc => z (by rw [bI, if_neg hc])))
theorem go_ifne_b (tgt q : Nat) {off : Int} {c : Prop} (hd : decode M.2.1 pc = .ok (.ifCond .ne off, 3)) (ht : (pc : Int) + off = (tgt : Int)) (e : pc + 3 = q) (kt : c → BGo G M KQ h k n tgt ls st) (kf : ¬ c → BGo G M KQ h k n q ls st) : BGo G M KQ h k n pc ls (.int (bI c) :: st) :=
  go_if_ne tgt q hd ht e (fun z => kt (Classical.byContradiction fun hc => z (by rw [bI, if_neg hc]))) (fun z => kf (fun hc => by rw [bI, if_pos hc] at z; exact absurd z (by decide)))
theorem bI_z (c : Prop) : narrow .boolean (.int (bI c)) = .int (bI c) := by
  by_cases hc : c
  · rw [bI, if_pos hc]; rfl
  · rw [bI, if_neg hc]; rfl
theorem go_VI (q : Nat) (hd : decode M.2.1 pc = .ok (.invokevirtual idx, 3)) (e : pc + 3 = q) (hl : Cond.methodLink M.1.cls idx M'.1 ∈ lwG) (ok : OkV M' np) (fit : bc_fit M' M) (ct : Ct G M' (.ref (G.1 + a) :: As) h (pI r h1)) (hst : st = As.reverse ++ .ref (G.1 + a) :: rest) (hlen : As.length = np) (ha : bc_o h a ci) (h20 : ci < 20) (hcn : (bc_cl[ci]?).map (fun r => r.1) = some M'.1.cls) (hw : (rest.map fun v => v.category).sum ≤ 8 := by exact Nat.le_of_ble_eq_true rfl) (z1 : M'.2.2.2.2.2.2.1 = 0 := by rfl) (z2 : M'.2.2.2.2.2.2.2 = 0 := by rfl) (hk : k ≤ M.2.2.2.2.2.2.1 := by exact Nat.le_of_ble_eq_true rfl) (hn : n ≤ M.2.2.2.2.2.2.2 := by exact Nat.le_of_ble_eq_true rfl)
    (kk : BGo G M KQ h1 k n q ls (.int r :: rest)) : BGo G M KQ h k n pc ls st :=
  go_V q hd e hl ok fit z1 z2 hk hn ct hst hlen hw ha h20 hcn (fun v h' hp => by obtain ⟨rfl, rfl⟩ := hp; exact kk)
theorem go_VA (q : Nat) (hd : decode M.2.1 pc = .ok (.invokevirtual idx, 3)) (e : pc + 3 = q) (hl : Cond.methodLink M.1.cls idx M'.1 ∈ lwG) (ok : OkV M' np) (fit : bc_fit M' M) (ct : Ct G M' (.ref (G.1 + a) :: As) h (pA r1 h1)) (hst : st = As.reverse ++ .ref (G.1 + a) :: rest) (hlen : As.length = np) (ha : bc_o h a ci) (h20 : ci < 20) (hcn : (bc_cl[ci]?).map (fun r => r.1) = some M'.1.cls) (hw : (rest.map fun v => v.category).sum ≤ 8 := by exact Nat.le_of_ble_eq_true rfl) (z1 : M'.2.2.2.2.2.2.1 = 0 := by rfl) (z2 : M'.2.2.2.2.2.2.2 = 0 := by rfl) (hk : k ≤ M.2.2.2.2.2.2.1 := by exact Nat.le_of_ble_eq_true rfl) (hn : n ≤ M.2.2.2.2.2.2.2 := by exact Nat.le_of_ble_eq_true rfl)
    (kk : BGo G M KQ h1 k n q ls (.ref r1 :: rest)) : BGo G M KQ h k n pc ls st :=
  go_V q hd e hl ok fit z1 z2 hk hn ct hst hlen hw ha h20 hcn (fun v h' hp => by obtain ⟨rfl, rfl⟩ := hp; exact kk)
theorem go_VZ (q : Nat) (hd : decode M.2.1 pc = .ok (.invokevirtual idx, 3)) (e : pc + 3 = q) (hl : Cond.methodLink M.1.cls idx M'.1 ∈ lwG) (ok : OkV M' np) (fit : bc_fit M' M) (ct : Ct G M' (.ref (G.1 + a) :: As) h (pZ h1)) (hst : st = As.reverse ++ .ref (G.1 + a) :: rest) (hlen : As.length = np) (ha : bc_o h a ci) (h20 : ci < 20) (hcn : (bc_cl[ci]?).map (fun r => r.1) = some M'.1.cls) (hw : (rest.map fun v => v.category).sum ≤ 8 := by exact Nat.le_of_ble_eq_true rfl) (z1 : M'.2.2.2.2.2.2.1 = 0 := by rfl) (z2 : M'.2.2.2.2.2.2.2 = 0 := by rfl) (hk : k ≤ M.2.2.2.2.2.2.1 := by exact Nat.le_of_ble_eq_true rfl) (hn : n ≤ M.2.2.2.2.2.2.2 := by exact Nat.le_of_ble_eq_true rfl)
    (kk : BGo G M KQ h1 k n q ls (.null :: rest)) : BGo G M KQ h k n pc ls st :=
  go_V q hd e hl ok fit z1 z2 hk hn ct hst hlen hw ha h20 hcn (fun v h' hp => by obtain ⟨rfl, rfl⟩ := hp; exact kk)
theorem go_VN (q : Nat) (hd : decode M.2.1 pc = .ok (.invokevirtual idx, 3)) (e : pc + 3 = q) (hl : Cond.methodLink M.1.cls idx M'.1 ∈ lwG) (ok : OkV M' np) (fit : bc_fit M' M) (ct : Ct G M' (.ref (G.1 + a) :: As) h (pV h1)) (hst : st = As.reverse ++ .ref (G.1 + a) :: rest) (hlen : As.length = np) (ha : bc_o h a ci) (h20 : ci < 20) (hcn : (bc_cl[ci]?).map (fun r => r.1) = some M'.1.cls) (hw : (rest.map fun v => v.category).sum ≤ 8 := by exact Nat.le_of_ble_eq_true rfl) (z1 : M'.2.2.2.2.2.2.1 = 0 := by rfl) (z2 : M'.2.2.2.2.2.2.2 = 0 := by rfl) (hk : k ≤ M.2.2.2.2.2.2.1 := by exact Nat.le_of_ble_eq_true rfl) (hn : n ≤ M.2.2.2.2.2.2.2 := by exact Nat.le_of_ble_eq_true rfl)
    (kk : BGo G M KQ h1 k n q ls rest) : BGo G M KQ h k n pc ls st :=
  go_V q hd e hl ok fit z1 z2 hk hn ct hst hlen hw ha h20 hcn (fun v h' hp => by obtain ⟨rfl, rfl⟩ := hp; exact kk)
theorem go_SI (q : Nat) (hd : decode M.2.1 pc = .ok (.invokestatic idx, 3)) (e : pc + 3 = q) (hl : Cond.methodLink M.1.cls idx M'.1 ∈ lwG) (ok : OkS M' np) (fit : bc_fit M' M) (ct : Ct G M' As h (pI r h1)) (hst : st = As.reverse ++ rest) (hlen : As.length = np)  (hw : (rest.map fun v => v.category).sum ≤ 8 := by exact Nat.le_of_ble_eq_true rfl) (z1 : M'.2.2.2.2.2.2.1 = 0 := by rfl) (z2 : M'.2.2.2.2.2.2.2 = 0 := by rfl) (hk : k ≤ M.2.2.2.2.2.2.1 := by exact Nat.le_of_ble_eq_true rfl) (hn : n ≤ M.2.2.2.2.2.2.2 := by exact Nat.le_of_ble_eq_true rfl)
    (kk : BGo G M KQ h1 k n q ls (.int r :: rest)) : BGo G M KQ h k n pc ls st :=
  go_S q hd e hl ok fit z1 z2 hk hn ct hst hlen hw  (fun v h' hp => by obtain ⟨rfl, rfl⟩ := hp; exact kk)
theorem go_SA (q : Nat) (hd : decode M.2.1 pc = .ok (.invokestatic idx, 3)) (e : pc + 3 = q) (hl : Cond.methodLink M.1.cls idx M'.1 ∈ lwG) (ok : OkS M' np) (fit : bc_fit M' M) (ct : Ct G M' As h (pA r1 h1)) (hst : st = As.reverse ++ rest) (hlen : As.length = np)  (hw : (rest.map fun v => v.category).sum ≤ 8 := by exact Nat.le_of_ble_eq_true rfl) (z1 : M'.2.2.2.2.2.2.1 = 0 := by rfl) (z2 : M'.2.2.2.2.2.2.2 = 0 := by rfl) (hk : k ≤ M.2.2.2.2.2.2.1 := by exact Nat.le_of_ble_eq_true rfl) (hn : n ≤ M.2.2.2.2.2.2.2 := by exact Nat.le_of_ble_eq_true rfl)
    (kk : BGo G M KQ h1 k n q ls (.ref r1 :: rest)) : BGo G M KQ h k n pc ls st :=
  go_S q hd e hl ok fit z1 z2 hk hn ct hst hlen hw  (fun v h' hp => by obtain ⟨rfl, rfl⟩ := hp; exact kk)
theorem go_SZ (q : Nat) (hd : decode M.2.1 pc = .ok (.invokestatic idx, 3)) (e : pc + 3 = q) (hl : Cond.methodLink M.1.cls idx M'.1 ∈ lwG) (ok : OkS M' np) (fit : bc_fit M' M) (ct : Ct G M' As h (pZ h1)) (hst : st = As.reverse ++ rest) (hlen : As.length = np)  (hw : (rest.map fun v => v.category).sum ≤ 8 := by exact Nat.le_of_ble_eq_true rfl) (z1 : M'.2.2.2.2.2.2.1 = 0 := by rfl) (z2 : M'.2.2.2.2.2.2.2 = 0 := by rfl) (hk : k ≤ M.2.2.2.2.2.2.1 := by exact Nat.le_of_ble_eq_true rfl) (hn : n ≤ M.2.2.2.2.2.2.2 := by exact Nat.le_of_ble_eq_true rfl)
    (kk : BGo G M KQ h1 k n q ls (.null :: rest)) : BGo G M KQ h k n pc ls st :=
  go_S q hd e hl ok fit z1 z2 hk hn ct hst hlen hw  (fun v h' hp => by obtain ⟨rfl, rfl⟩ := hp; exact kk)
theorem go_SN (q : Nat) (hd : decode M.2.1 pc = .ok (.invokestatic idx, 3)) (e : pc + 3 = q) (hl : Cond.methodLink M.1.cls idx M'.1 ∈ lwG) (ok : OkS M' np) (fit : bc_fit M' M) (ct : Ct G M' As h (pV h1)) (hst : st = As.reverse ++ rest) (hlen : As.length = np)  (hw : (rest.map fun v => v.category).sum ≤ 8 := by exact Nat.le_of_ble_eq_true rfl) (z1 : M'.2.2.2.2.2.2.1 = 0 := by rfl) (z2 : M'.2.2.2.2.2.2.2 = 0 := by rfl) (hk : k ≤ M.2.2.2.2.2.2.1 := by exact Nat.le_of_ble_eq_true rfl) (hn : n ≤ M.2.2.2.2.2.2.2 := by exact Nat.le_of_ble_eq_true rfl)
    (kk : BGo G M KQ h1 k n q ls rest) : BGo G M KQ h k n pc ls st :=
  go_S q hd e hl ok fit z1 z2 hk hn ct hst hlen hw  (fun v h' hp => by obtain ⟨rfl, rfl⟩ := hp; exact kk)
theorem go_TI (q : Nat) (hd : decode M.2.1 pc = .ok (.invokestatic idx, 3)) (e : pc + 3 = q) (hl : (M.1.cls, idx, M'.1) ∈ bc_nx) (ok : OkS M' np) (fit : bc_fit M' M) (ct : Ct G M' As h (pI r h1)) (hst : st = As.reverse ++ rest) (hlen : As.length = np)  (hw : (rest.map fun v => v.category).sum ≤ 8 := by exact Nat.le_of_ble_eq_true rfl) (z1 : M'.2.2.2.2.2.2.1 = 0 := by rfl) (z2 : M'.2.2.2.2.2.2.2 = 0 := by rfl) (hk : k ≤ M.2.2.2.2.2.2.1 := by exact Nat.le_of_ble_eq_true rfl) (hn : n ≤ M.2.2.2.2.2.2.2 := by exact Nat.le_of_ble_eq_true rfl)
    (kk : BGo G M KQ h1 k n q ls (.int r :: rest)) : BGo G M KQ h k n pc ls st :=
  go_T q hd e hl ok fit z1 z2 hk hn ct hst hlen hw  (fun v h' hp => by obtain ⟨rfl, rfl⟩ := hp; exact kk)
theorem go_TA (q : Nat) (hd : decode M.2.1 pc = .ok (.invokestatic idx, 3)) (e : pc + 3 = q) (hl : (M.1.cls, idx, M'.1) ∈ bc_nx) (ok : OkS M' np) (fit : bc_fit M' M) (ct : Ct G M' As h (pA r1 h1)) (hst : st = As.reverse ++ rest) (hlen : As.length = np)  (hw : (rest.map fun v => v.category).sum ≤ 8 := by exact Nat.le_of_ble_eq_true rfl) (z1 : M'.2.2.2.2.2.2.1 = 0 := by rfl) (z2 : M'.2.2.2.2.2.2.2 = 0 := by rfl) (hk : k ≤ M.2.2.2.2.2.2.1 := by exact Nat.le_of_ble_eq_true rfl) (hn : n ≤ M.2.2.2.2.2.2.2 := by exact Nat.le_of_ble_eq_true rfl)
    (kk : BGo G M KQ h1 k n q ls (.ref r1 :: rest)) : BGo G M KQ h k n pc ls st :=
  go_T q hd e hl ok fit z1 z2 hk hn ct hst hlen hw  (fun v h' hp => by obtain ⟨rfl, rfl⟩ := hp; exact kk)
theorem go_TZ (q : Nat) (hd : decode M.2.1 pc = .ok (.invokestatic idx, 3)) (e : pc + 3 = q) (hl : (M.1.cls, idx, M'.1) ∈ bc_nx) (ok : OkS M' np) (fit : bc_fit M' M) (ct : Ct G M' As h (pZ h1)) (hst : st = As.reverse ++ rest) (hlen : As.length = np)  (hw : (rest.map fun v => v.category).sum ≤ 8 := by exact Nat.le_of_ble_eq_true rfl) (z1 : M'.2.2.2.2.2.2.1 = 0 := by rfl) (z2 : M'.2.2.2.2.2.2.2 = 0 := by rfl) (hk : k ≤ M.2.2.2.2.2.2.1 := by exact Nat.le_of_ble_eq_true rfl) (hn : n ≤ M.2.2.2.2.2.2.2 := by exact Nat.le_of_ble_eq_true rfl)
    (kk : BGo G M KQ h1 k n q ls (.null :: rest)) : BGo G M KQ h k n pc ls st :=
  go_T q hd e hl ok fit z1 z2 hk hn ct hst hlen hw  (fun v h' hp => by obtain ⟨rfl, rfl⟩ := hp; exact kk)
theorem go_TN (q : Nat) (hd : decode M.2.1 pc = .ok (.invokestatic idx, 3)) (e : pc + 3 = q) (hl : (M.1.cls, idx, M'.1) ∈ bc_nx) (ok : OkS M' np) (fit : bc_fit M' M) (ct : Ct G M' As h (pV h1)) (hst : st = As.reverse ++ rest) (hlen : As.length = np)  (hw : (rest.map fun v => v.category).sum ≤ 8 := by exact Nat.le_of_ble_eq_true rfl) (z1 : M'.2.2.2.2.2.2.1 = 0 := by rfl) (z2 : M'.2.2.2.2.2.2.2 = 0 := by rfl) (hk : k ≤ M.2.2.2.2.2.2.1 := by exact Nat.le_of_ble_eq_true rfl) (hn : n ≤ M.2.2.2.2.2.2.2 := by exact Nat.le_of_ble_eq_true rfl)
    (kk : BGo G M KQ h1 k n q ls rest) : BGo G M KQ h k n pc ls st :=
  go_T q hd e hl ok fit z1 z2 hk hn ct hst hlen hw  (fun v h' hp => by obtain ⟨rfl, rfl⟩ := hp; exact kk)
end BCCALL
