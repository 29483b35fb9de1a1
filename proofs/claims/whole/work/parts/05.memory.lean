/-! rows, fields, returns, calls -/
section
variable {M : Mb} {rm : Room} {R : Option Value × Mm} {μ : Mm} {pc : Nat} {lo : List (Option Value)} {st : List Value}
theorem g_iaload {k n j : Nat} {i : Int32} (hk : isI k n) (hi : i = nI j) (hj : j < n) (hn : n ≤ 1024) (d : decode M.2.1 pc = .ok (.iaload, 1)) (kk : G M rm R μ (pc + 1) lo (.int (μ.1 k j) :: st)) : G M rm R μ pc lo (.int i :: .ref k :: st) := by
  subst hi
  intro γ p l e s m args below meth c C H locs ls hw hl
  have h := kk γ p l e s m args below meth c C H locs ls hw hl
  refine va_iald (D := γ.2.1) C.1 C.2.1 C.2.2.2.2.2.2.2.1.1 hw.1 k 0 (by rw [wd_get hk.1, hk.2]) rfl (vp_in_nI hj (by omega)) d ?_
  rw [nI_clamp (by omega)]
  exact h
theorem g_baload {k n j : Nat} {i : Int32} (hk : isZ k n) (hi : i = nI j) (hj : j < n) (hn : n ≤ 1024) (d : decode M.2.1 pc = .ok (.baload, 1)) (kk : G M rm R μ (pc + 1) lo (.int (μ.1 k j) :: st)) : G M rm R μ pc lo (.int i :: .ref k :: st) := by
  subst hi
  intro γ p l e s m args below meth c C H locs ls hw hl
  have h := kk γ p l e s m args below meth c C H locs ls hw hl
  refine va_zald (D := γ.2.1) C.1 C.2.1 C.2.2.2.2.2.2.2.1.1 hw.1 k 2 (by rw [wd_get hk.1, hk.2]) rfl (vp_in_nI hj (by omega)) d ?_
  rw [nI_clamp (by omega)]
  exact h
theorem g_laload {k n j : Nat} {i : Int32} (hk : isL k n) (hi : i = nI j) (hj : j < n) (hn : n ≤ 1024) (d : decode M.2.1 pc = .ok (.laload, 1)) (kk : G M rm R μ (pc + 1) lo (.long (μ.2 k j) :: st)) : G M rm R μ pc lo (.int i :: .ref k :: st) := by
  subst hi
  intro γ p l e s m args below meth c C H locs ls hw hl
  have h := kk γ p l e s m args below meth c C H locs ls hw hl
  refine va_lald (D := γ.2.1) C.1 C.2.1 C.2.2.2.2.2.2.2.1.1 hw.1 k 1 (by rw [wd_get hk.1, hk.2]) rfl (vp_in_nI hj (by omega)) d ?_
  rw [nI_clamp (by omega)]
  exact h
theorem g_aaload {k n j b0 t : Nat} {i : Int32} (hk : isQ k n b0 t) (ht : t = 3 ∨ t = 4) (hi : i = nI j) (hj : j < n) (hn : n ≤ 1024) (d : decode M.2.1 pc = .ok (.aaload, 1)) (kk : G M rm R μ (pc + 1) lo (.ref (b0 + j) :: st)) : G M rm R μ pc lo (.int i :: .ref k :: st) := by
  subst hi
  intro γ p l e s m args below meth c C H locs ls hw hl
  have h := kk γ p l e s m args below meth c C H locs ls hw hl
  have hc : H[γ.1 k]? = some (vp_cell (γ.2.2.1 t) (n, .inr (.inr (.inr (.inr (fun j => if j < n then some (γ.1 (b0 + j)) else none)))))) := by
    have h0 := hw.1 k (γ.1 k, _) (by rw [wd_get hk.1, hk.2])
    exact h0
  have hin : ¬ (nI j < 0 ∨ n ≤ (nI j).toNatClampNeg) := vp_in_nI hj (by omega)
  obtain ⟨ty, hty, har⟩ : ∃ ty : FieldType, ty.isReference = true ∧ ArrOfT s (γ.2.2.1 t) ty := by
    rcases ht with rfl | rfl
    · exact ⟨.array .int, rfl, (C.2.2.2.2.2.2.2.1.1.2 3 _ rfl).1⟩
    · exact ⟨.array .long, rfl, (C.2.2.2.2.2.2.2.1.1.2 4 _ rfl).1⟩
  refine W.aald (v := .ref (γ.1 (b0 + j))) (ty := ty) C.1 C.2.1 hc (har n _) hty (fun q => by cases q) (by show ¬ (nI j < 0 ∨ (arrV _ _ _).slots.size ≤ _); rw [arrV_size]; exact hin) ?_ rfl rfl d h
  show (arrV _ _ _).slots[_]? = _
  rw [nI_clamp (by omega), arrV_read _ _ hj]
  simp [hj, va_rf]
theorem g_iastore {k n j : Nat} {i x : Int32} (hk : isI k n) (hi : i = nI j) (hj : j < n) (hn : n ≤ 1024) (d : decode M.2.1 pc = .ok (.iastore, 1)) (kk : G M rm R (sI μ k j x) (pc + 1) lo st) : G M rm R μ pc lo (.int x :: .int i :: .ref k :: st) := by
  subst hi
  intro γ p l e s m args below meth c C H locs ls hw hl
  refine va_iast (D := γ.2.1) C.1 C.2.1 C.2.2.2.2.2.2.2.1.1 hw.1 (wd_D C.2.2.2.2.2.2.2.2.1) hw.2 k 0 (by rw [wd_get hk.1, hk.2]) rfl (vp_in_nI hj (by omega)) d (fun H1 locs1 hP _ hS => ?_)
  rw [nI_clamp (by omega), wd_set (μ' := sI μ k j x) sI_off (by rw [hk.2, sI_at])] at hP
  exact kk γ p l e s m args below meth c C H1 locs1 ls ⟨hP, hS⟩ hl
theorem g_lastore {k n j : Nat} {i : Int32} {x : Int64} (hk : isL k n) (hi : i = nI j) (hj : j < n) (hn : n ≤ 1024) (d : decode M.2.1 pc = .ok (.lastore, 1)) (kk : G M rm R (sL μ k j x) (pc + 1) lo st) : G M rm R μ pc lo (.long x :: .int i :: .ref k :: st) := by
  subst hi
  intro γ p l e s m args below meth c C H locs ls hw hl
  refine va_last (D := γ.2.1) C.1 C.2.1 C.2.2.2.2.2.2.2.1.1 hw.1 (wd_D C.2.2.2.2.2.2.2.2.1) hw.2 k 1 (by rw [wd_get hk.1, hk.2]) rfl (vp_in_nI hj (by omega)) d (fun H1 locs1 hP _ hS => ?_)
  rw [nI_clamp (by omega), wd_set (μ' := sL μ k j x) sL_off (by rw [hk.2, sL_at])] at hP
  exact kk γ p l e s m args below meth c C H1 locs1 ls ⟨hP, hS⟩ hl
theorem g_bastore {k n j : Nat} {i x : Int32} (hk : isZ k n) (hi : i = nI j) (hj : j < n) (hn : n ≤ 1024) (hx : vp_nar .boolean x = x) (d : decode M.2.1 pc = .ok (.bastore, 1)) (kk : G M rm R (sI μ k j x) (pc + 1) lo st) : G M rm R μ pc lo (.int x :: .int i :: .ref k :: st) := by
  subst hi
  intro γ p l e s m args below meth c C H locs ls hw hl
  refine va_zast (D := γ.2.1) C.1 C.2.1 C.2.2.2.2.2.2.2.1.1 hw.1 (wd_D C.2.2.2.2.2.2.2.2.1) hw.2 k 2 (by rw [wd_get hk.1, hk.2]) rfl (vp_in_nI hj (by omega)) d (fun H1 locs1 hP _ hS => ?_)
  rw [nI_clamp (by omega), hx, wd_set (μ' := sI μ k j x) sI_off (by rw [hk.2, sI_at])] at hP
  exact kk γ p l e s m args below meth c C H1 locs1 ls ⟨hP, hS⟩ hl
theorem g_alen {k n : Nat} {v : Int32} (hk : isI k n) (hv : Int32.ofNat n = v) (d : decode M.2.1 pc = .ok (.arraylength, 1)) (kk : G M rm R μ (pc + 1) lo (.int v :: st)) : G M rm R μ pc lo (.ref k :: st) := by
  intro γ p l e s m args below meth c C H locs ls hw hl
  exact va_alen (D := γ.2.1) C.1 C.2.1 C.2.2.2.2.2.2.2.1.1 hw.1 k 0 (by rw [wd_get hk.1, hk.2]) rfl hv d (kk γ p l e s m args below meth c C H locs ls hw hl)
/-- object k is of the class number ci, its fields F -/
def isF (k ci : Nat) (F : (Nat → Nat) → (Nat → Int32) → (Nat → Int64) → List Value) : Prop := k < 47 ∧ ∀ (ad : Nat → Nat) (cy : Nat → ClassId) (a : Nat → Int32) (b : Nat → Int64), cellOf ad cy k a b = .inr (ci, F ad a b)
theorem g_getf {k ci f index N : Nat} {own C : String} {T : u_T} {F : (Nat → Nat) → (Nat → Int32) → (Nat → Int64) → List Value} {v : Value} (ho : M.1.cls = own) (hk : isF k ci F) (hcl : cl7[ci]? = some (C, T, N)) (hin : ∀ w ∈ u_ws C T N, w ∈ tw) (hf : f < N) (hlk : Cond.fieldLink own index (T f).1 (T f).2.1 (T f).2.2.1 ∈ tw) (hv : ∀ ad : Nat → Nat, (F ad (μ.1 k) (μ.2 k))[f]? = some (rv ad v)) (d : decode M.2.1 pc = .ok (.getfield index, 3)) (kk : G M rm R μ (pc + 3) lo (v :: st)) : G M rm R μ pc lo (.ref k :: st) := by
  subst ho
  intro γ p l e s m args below meth c C H locs ls hw hl
  exact va_get (D := γ.2.1) (ci := ci) C.1 C.2.1 C.2.2.2.2.2.1 hin C.2.2.2.2.1 C.2.2.2.2.2.2.2.1.1 hw.1 k (by rw [wd_get hk.1, hk.2]) hcl f hf (C.2.2.2.2.2.1 _ hlk) (fun _ h => h) (hv γ.1) d (kk γ p l e s m args below meth c C H locs ls hw hl)
theorem g_getN {k ci f index N : Nat} {own C host : String} {T : u_T} {F : (Nat → Nat) → (Nat → Int32) → (Nat → Int64) → List Value} {v : Value} (ho : M.1.cls = own) (hk : isF k ci F) (hcl : cl7[ci]? = some (C, T, N)) (hin : ∀ w ∈ u_ws C T N, w ∈ tw) (hf : f < N) (hlk : Cond.fieldLinkNest own index (T f).1 (T f).2.1 (T f).2.2.1 host ∈ nw) (hv : ∀ ad : Nat → Nat, (F ad (μ.1 k) (μ.2 k))[f]? = some (rv ad v)) (d : decode M.2.1 pc = .ok (.getfield index, 3)) (kk : G M rm R μ (pc + 3) lo (v :: st)) : G M rm R μ pc lo (.ref k :: st) := by
  subst ho
  intro γ p l e s m args below meth c C H locs ls hw hl
  exact va_getN (D := γ.2.1) (ci := ci) C.1 C.2.1 C.2.2.2.2.2.1 hin C.2.2.2.2.1 C.2.2.2.2.2.2.2.1.1 hw.1 k (by rw [wd_get hk.1, hk.2]) hcl f hf (va_Nw.use rfl (C.2.2.2.2.2.2.2.1.2 _ hlk)) (fun _ h => h) (hv γ.1) d (kk γ p l e s m args below meth c C H locs ls hw hl)
theorem g_putf {k ci f index N : Nat} {own C : String} {T : u_T} {ty0 : Nat → FieldType} {F : (Nat → Nat) → (Nat → Int32) → (Nat → Int64) → List Value} {v : Value} {μ' : Mm} (ho : M.1.cls = own) (hk : isF k ci F) (hcl : cl7[ci]? = some (C, T, N)) (hin : ∀ w ∈ u_ws C T N, w ∈ tw) (hty : ∀ k, k < N → parseFieldDescriptor (T k).2.2.1 = some (ty0 k)) (hnm : ∀ a, a < N → ∀ b, b < N → a ≠ b → (T a).2.1 ≠ (T b).2.1) (hf : f < N) (hlk : Cond.fieldLink own index (T f).1 (T f).2.1 (T f).2.2.1 ∈ tw) (hfin : (T f).2.2.2 = false) (hn : narrow (ty0 f) v = v) (hfit : fits (ty0 f) v = true) (hr : ∀ ad, rv ad v = v) (hlen : ∀ ad a b, f < (F ad a b).length) (hμ : ∀ k', k' ≠ k → μ'.1 k' = μ.1 k' ∧ μ'.2 k' = μ.2 k') (hu : ∀ ad, F ad (μ'.1 k) (μ'.2 k) = (F ad (μ.1 k) (μ.2 k)).set f v) (d : decode M.2.1 pc = .ok (.putfield index, 3)) (kk : G M rm R μ' (pc + 3) lo st) : G M rm R μ pc lo (v :: .ref k :: st) := by
  subst ho
  intro γ p l e s m args below meth c C H locs ls hw hl
  show W p l e rm s m args below meth c H locs 0 0 _ (F0 m pc ls (rv γ.1 v :: .ref (γ.1 k) :: st.map (rv γ.1)))
  rw [hr]
  refine va_put (D := γ.2.1) (ci := ci) (v := v) (ty := ty0 f) C.1 C.2.1 C.2.2.2.2.2.1 hin ty0 hty hnm C.2.2.2.2.1 C.2.2.2.2.2.2.2.1.1 hw.1 (wd_D C.2.2.2.2.2.2.2.2.1) hw.2 k (by rw [wd_get hk.1, hk.2]) hcl f hf (C.2.2.2.2.2.1 _ hlk) (fun _ h => h) hfin (hty f hf) hn hfit (hlen _ _ _) d (fun H1 locs1 hP _ hS => ?_)
  rw [wd_set (μ' := μ') hμ (by rw [hk.2, hu])] at hP
  exact kk γ p l e s m args below meth c C H1 locs1 ls ⟨hP, hS⟩ hl
theorem g_putN {k ci f index N : Nat} {own C host : String} {T : u_T} {ty0 : Nat → FieldType} {F : (Nat → Nat) → (Nat → Int32) → (Nat → Int64) → List Value} {v : Value} {μ' : Mm} (ho : M.1.cls = own) (hk : isF k ci F) (hcl : cl7[ci]? = some (C, T, N)) (hin : ∀ w ∈ u_ws C T N, w ∈ tw) (hty : ∀ k, k < N → parseFieldDescriptor (T k).2.2.1 = some (ty0 k)) (hnm : ∀ a, a < N → ∀ b, b < N → a ≠ b → (T a).2.1 ≠ (T b).2.1) (hf : f < N) (hlk : Cond.fieldLinkNest own index (T f).1 (T f).2.1 (T f).2.2.1 host ∈ nw) (hfin : (T f).2.2.2 = false) (hn : narrow (ty0 f) v = v) (hfit : fits (ty0 f) v = true) (hr : ∀ ad, rv ad v = v) (hlen : ∀ ad a b, f < (F ad a b).length) (hμ : ∀ k', k' ≠ k → μ'.1 k' = μ.1 k' ∧ μ'.2 k' = μ.2 k') (hu : ∀ ad, F ad (μ'.1 k) (μ'.2 k) = (F ad (μ.1 k) (μ.2 k)).set f v) (d : decode M.2.1 pc = .ok (.putfield index, 3)) (kk : G M rm R μ' (pc + 3) lo st) : G M rm R μ pc lo (v :: .ref k :: st) := by
  subst ho
  intro γ p l e s m args below meth c C H locs ls hw hl
  show W p l e rm s m args below meth c H locs 0 0 _ (F0 m pc ls (rv γ.1 v :: .ref (γ.1 k) :: st.map (rv γ.1)))
  rw [hr]
  refine va_putN (D := γ.2.1) (ci := ci) (v := v) (ty := ty0 f) C.1 C.2.1 C.2.2.2.2.2.1 hin ty0 hty hnm C.2.2.2.2.1 C.2.2.2.2.2.2.2.1.1 hw.1 (wd_D C.2.2.2.2.2.2.2.2.1) hw.2 k (by rw [wd_get hk.1, hk.2]) hcl f hf (va_Nw.use rfl (C.2.2.2.2.2.2.2.1.2 _ hlk)) (fun _ h => h) hfin (hty f hf) hn hfit (hlen _ _ _) d (fun H1 locs1 hP _ hS => ?_)
  rw [wd_set (μ' := μ') hμ (by rw [hk.2, hu])] at hP
  exact kk γ p l e s m args below meth c C H1 locs1 ls ⟨hP, hS⟩ hl
/-! returns -/
theorem g_ireturn {x : Int32} {ty : FieldType} (d : decode M.2.1 pc = .ok (.ireturn, 1)) (hr : M.2.2.2 = some ty) (hn : narrow ty (.int x) = .int x) (hR : R = (some (.int x), μ)) : G M rm R μ pc lo [.int x] := by
  subst hR
  intro γ p l e s m args below meth c C H locs ls hw hl
  have hlocks := C.2.2.2.2.2.2.1
  exact W.zret C.1 C.2.1 (C.2.2.1.trans hr) hn (fun t ht hW => ⟨⟨x, (), rfl, rfl, by show Wp γ μ t.heap; rw [ht]; exact hw.1⟩, hw.2.F ht⟩) hw.2.2.2 d
theorem g_lreturn {x : Int64} (d : decode M.2.1 pc = .ok (.lreturn, 1)) (hr : M.2.2.2 = some .long) (hR : R = (some (.long x), μ)) : G M rm R μ pc lo [.long x] := by
  subst hR
  intro γ p l e s m args below meth c C H locs ls hw hl
  have hlocks := C.2.2.2.2.2.2.1
  exact W.lret C.1 C.2.1 (C.2.2.1.trans hr) (fun t ht hW => ⟨⟨x, (), rfl, rfl, by show Wp γ μ t.heap; rw [ht]; exact hw.1⟩, hw.2.F ht⟩) hw.2.2.2 d
theorem g_return (d : decode M.2.1 pc = .ok (.return_, 1)) (hr : M.2.2.2 = none) (hR : R = (none, μ)) : G M rm R μ pc lo [] := by
  subst hR
  intro γ p l e s m args below meth c C H locs ls hw hl
  have hlocks := C.2.2.2.2.2.2.1
  exact W.vret C.1 C.2.1 (C.2.2.1.trans hr) (fun t ht hW => ⟨⟨(), rfl, trivial, by show Wp γ μ t.heap; rw [ht]; exact hw.1⟩, hw.2.F ht⟩) hw.2.2.2 d
/-! calls -/
theorem Adr_le {ad : Nat → Nat} {a b : Nat} (h : a ≤ b) : ∀ q, Adr ad b q → Adr ad a q := fun q hq => hq.elim Or.inl (fun h2 => Or.inr (Nat.le_trans h h2))
theorem pre_at {γ : Cc} {p : Program} {s : State} {m : MethodId} {args : Array Value} {meth : Method} {c : Code} {H : Heap} {locs : List Loc} (C : Cx γ M p s m args meth c) (hw : Hw γ s H locs μ) : ∀ U : State, U.heap = H → s.WarmedH U.vm → PreW γ H.size μ U := by
  intro U hU hW
  subst hU
  have hz := C.2.2.2.2.2.2.2.2.2
  exact ⟨rfl, hw.1, C.2.2.2.2.2.2.2.1.warm hW, C.2.2.2.2.2.2.2.2.1, ((hz.1.moved hW.alike).kept hw.2.2.1).narrow (Adr_le hw.2.1), ((hz.2.moved hW.alike).kept hw.2.2.1).narrow (Adr_le hw.2.1)⟩
theorem pre_blind {γ : Cc} {as : List Value} {sz : Nat} : FrameBlind (va_Pc as (PreW γ sz μ)) := by
  intro a U g mk q
  obtain ⟨q0, q1, q2, q3, q4, q5⟩ := q
  exact ⟨q0, q1, q2, q3.same rfl, q4, q5.1.moved (Vm.Alike.refl U.vm), q5.2.moved (Vm.Alike.refl U.vm)⟩
/-- the run of a call -/
def Rn (M : Mb) (rm : Room) (μ : Mm) (pc : Nat) (lo : List (Option Value)) (stk st : List Value) (R1 : Option Value × Mm) : Prop := ∀ (γ : Cc) (p : Program) (l : Launch) (e : Env) (s : State) (m : MethodId) (args : Array Value) (below : List Frame) (meth : Method) (c : Code), Cx γ M p s m args meth c → ∀ (H : Heap) (locs : List Loc) (ls : Array Slot), Hw γ s H locs μ → Lo γ ls M.2.2.1 lo →
    ∃ a, va_Run p l e rm s m args below meth c H locs 0 0 0 0 (F0 m pc ls (stk.map (rv γ.1))) (st.map (rv γ.1)) (QR γ R1 H.size a) (Adr γ.1 H.size)
theorem g_backi {x : Int32} {μ' : Mm} {stk : List Value} (hr : Rn M rm μ pc lo stk st (some (.int x), μ')) (k : G M rm R μ' (pc + 3) lo (.int x :: st)) : G M rm R μ pc lo stk := by
  intro γ p l e s m args below meth c C H locs ls hw hl
  obtain ⟨a, h⟩ := hr γ p l e s m args below meth c C H locs ls hw hl
  refine va_calli (a := a) h hw.2 (fun q _ h => Adr_le hw.2.1 q h) (Adr_le hw.2.1) (fun r u t H1 locs1 ht hvm hp hB hz1 hk1 hS => ?_)
  subst hp
  subst ht
  exact k γ p l e s m args below meth c C t.heap locs1 ls ⟨hB, hS⟩ hl
theorem g_backl {x : Int64} {μ' : Mm} {stk : List Value} (hr : Rn M rm μ pc lo stk st (some (.long x), μ')) (k : G M rm R μ' (pc + 3) lo (.long x :: st)) : G M rm R μ pc lo stk := by
  intro γ p l e s m args below meth c C H locs ls hw hl
  obtain ⟨a, h⟩ := hr γ p l e s m args below meth c C H locs ls hw hl
  refine va_calll (a := a) h hw.2 (fun q _ h => Adr_le hw.2.1 q h) (Adr_le hw.2.1) (fun r u t H1 locs1 ht hvm hp hB hz1 hk1 hS => ?_)
  subst hp
  subst ht
  exact k γ p l e s m args below meth c C t.heap locs1 ls ⟨hB, hS⟩ hl
theorem g_backv {μ' : Mm} {stk : List Value} (hr : Rn M rm μ pc lo stk st (none, μ')) (k : G M rm R μ' (pc + 3) lo st) : G M rm R μ pc lo stk := by
  intro γ p l e s m args below meth c C H locs ls hw hl
  obtain ⟨a, h⟩ := hr γ p l e s m args below meth c C H locs ls hw hl
  refine va_callv (a := a) h hw.2 (fun q _ h => Adr_le hw.2.1 q h) (Adr_le hw.2.1) (fun u t H1 locs1 ht hvm hp hB hz1 hk1 hS => ?_)
  subst ht
  exact k γ p l e s m args below meth c C t.heap locs1 ls ⟨hB, hS⟩ hl
/-- a method's words: its code, its class ready, how many parameters -/
def Mw (Mc : Mb) (n : Nat) : Prop := Cond.code Mc.1 Mc.2.1 Mc.2.2.1 Mc.2.2.2 ∈ tw ∧ Cond.initialized Mc.1.cls ∈ tw ∧ (Mc.1.cls ≠ "java/lang/invoke/MethodHandle" ∧ Mc.1.cls ≠ "java/lang/invoke/VarHandle" ∧ (parseMethodDescriptor Mc.1.desc).map (fun d => d.parameters.length) = some n)
def Mi (Mc : Mb) : Prop := Cond.instanceMethod Mc.1 ∈ tw ∧ Cond.selects Mc.1.cls Mc.1 Mc.1 ∈ tw
def isO (o : Nat) (cls : String) : Prop := ∃ (ci : Nat) (F : (Nat → Nat) → (Nat → Int32) → (Nat → Int64) → List Value) (q : vw_C), isF o ci F ∧ cl7[ci]? = some q ∧ q.1 = cls
def Fits (rmc rm : Room) (n : Nat) : Prop := rmc.cells = 0 ∧ rmc.slots = 0 ∧ rmc.frames + 1 ≤ rm.frames ∧ 8 + (n + 11) + rmc.locals ≤ rm.locals
theorem tw_in {Mc : Mb} (h : Cond.code Mc.1 Mc.2.1 Mc.2.2.1 Mc.2.2.2 ∈ tw) : GoodIn tw (wsM Mc) := fun w hw => by
  have hm : w ∈ tw := (List.mem_cons.mp hw).elim (fun e => e ▸ h) id
  exact ⟨hm, tw_good w hm⟩
theorem rv_cats (ad : Nat → Nat) (st : List Value) : ((st.map (rv ad)).map fun v => v.category) = st.map fun v => v.category := by
  rw [List.map_map]; exact List.map_congr_left (fun v _ => rv_cat ad v)
theorem g_runV {Mc : Mb} {rmc : Room} {as : List Value} {o n index : Nat} {R1 : Option Value × Mm} {stk : List Value} {own : String} (hM : Ok Mc rmc (.ref o :: as) μ R1) (ho : M.1.cls = own) (hm : Mw Mc n) (hi : Mi Mc) (hlk : Cond.methodLink own index Mc.1 ∈ tw) (hO : isO o Mc.1.cls) (hF : Fits rmc rm Mc.2.2.1) (hn : as.length = n) (hst : stk = as.reverse ++ .ref o :: st) (hc : (st.map fun v => v.category).sum ≤ 8) (d : decode M.2.1 pc = .ok (.invokevirtual index, 3)) : Rn M rm μ pc lo stk st R1 := by
  subst ho
  subst hst
  intro γ p l e s m args below meth c C H locs ls hw hl
  obtain ⟨ci, F, q, hk, hcl, hq⟩ := hO
  refine ⟨_, va_runV (As := as.map (rv γ.1)) (C := Mc.1.cls) (nL := M.2.2.1) ⟨C.1, C.2.1, C.2.2.2.1, C.2.2.2.2.1, C.2.2.2.2.2.1⟩ (hM γ l H.size) ⟨callB_of n C.2.2.2.2.2.1 (tw_in hm.1) rfl hF.1 hF.2.1 (C.2.2.2.2.2.1 _ hm.2.1) (C.2.2.2.2.2.1 _ hlk) hm.2.2 hF.2.2, C.2.2.2.2.2.1 _ hi.1, C.2.2.2.2.2.1 _ hi.2⟩ ⟨pre_blind, ?_, fun U hU hW => ⟨rfl, pre_at C hw U hU hW⟩⟩ rfl (by rw [List.length_map]; exact hn) hl.1 (by simp [List.map_append, List.map_reverse, rv]) (by rw [← rv_cats γ.1] at hc; exact lv_room hc) d ⟨Nat.zero_le _, Nat.zero_le _⟩⟩
  have h := va_recv (q0 := o) C.2.2.2.2.2.2.2.1.1 hw.1 hcl (by rw [wd_get hk.1, hk.2])
  rw [hq] at h
  exact h
theorem g_runVN {Mc : Mb} {rmc : Room} {as : List Value} {o n index : Nat} {R1 : Option Value × Mm} {stk : List Value} {own host : String} (hM : Ok Mc rmc (.ref o :: as) μ R1) (ho : M.1.cls = own) (hm : Mw Mc n) (hi : Mi Mc) (hlk : Cond.methodLinkNest own index Mc.1 host ∈ nw) (hO : isO o Mc.1.cls) (hF : Fits rmc rm Mc.2.2.1) (hn : as.length = n) (hst : stk = as.reverse ++ .ref o :: st) (hc : (st.map fun v => v.category).sum ≤ 8) (d : decode M.2.1 pc = .ok (.invokevirtual index, 3)) : Rn M rm μ pc lo stk st R1 := by
  subst ho
  subst hst
  intro γ p l e s m args below meth c C H locs ls hw hl
  obtain ⟨ci, F, q, hk, hcl, hq⟩ := hO
  refine ⟨_, va_runVN (As := as.map (rv γ.1)) (C := Mc.1.cls) (nL := M.2.2.1) ⟨C.1, C.2.1, C.2.2.2.1, C.2.2.2.2.1, C.2.2.2.2.2.1⟩ (hM γ l H.size) ⟨va_cnB n C.2.2.2.2.2.1 (tw_in hm.1) rfl hF.1 hF.2.1 (C.2.2.2.2.2.2.2.1.2 _ hlk) (C.2.2.2.2.2.1 _ hm.2.1) hm.2.2 hF.2.2, C.2.2.2.2.2.1 _ hi.1, C.2.2.2.2.2.1 _ hi.2⟩ ⟨pre_blind, ?_, fun U hU hW => ⟨rfl, pre_at C hw U hU hW⟩⟩ rfl (by rw [List.length_map]; exact hn) hl.1 (by simp [List.map_append, List.map_reverse, rv]) (by rw [← rv_cats γ.1] at hc; exact lv_room hc) d ⟨Nat.zero_le _, Nat.zero_le _⟩⟩
  have h := va_recv (q0 := o) C.2.2.2.2.2.2.2.1.1 hw.1 hcl (by rw [wd_get hk.1, hk.2])
  rw [hq] at h
  exact h
theorem g_runS {Mc : Mb} {rmc : Room} {as : List Value} {n index : Nat} {R1 : Option Value × Mm} {stk : List Value} {own : String} (hM : Ok Mc rmc as μ R1) (ho : M.1.cls = own) (hm : Mw Mc n) (hi : Cond.static Mc.1 ∈ tw) (hlk : Cond.methodLink own index Mc.1 ∈ tw) (hF : Fits rmc rm Mc.2.2.1) (hn : as.length = n) (hst : stk = as.reverse ++ st) (hc : (st.map fun v => v.category).sum ≤ 8) (d : decode M.2.1 pc = .ok (.invokestatic index, 3)) : Rn M rm μ pc lo stk st R1 := by
  subst ho
  subst hst
  intro γ p l e s m args below meth c C H locs ls hw hl
  exact ⟨_, va_runS (As := as.map (rv γ.1)) (nL := M.2.2.1) ⟨C.1, C.2.1, C.2.2.2.1, C.2.2.2.2.1, C.2.2.2.2.2.1⟩ (hM γ l H.size) ⟨callB_of n C.2.2.2.2.2.1 (tw_in hm.1) rfl hF.1 hF.2.1 (C.2.2.2.2.2.1 _ hm.2.1) (C.2.2.2.2.2.1 _ hlk) hm.2.2 hF.2.2, C.2.2.2.2.2.1 _ hi⟩ ⟨pre_blind, fun U hU hW => ⟨rfl, pre_at C hw U hU hW⟩⟩ rfl (by rw [List.length_map]; exact hn) hl.1 (by simp [List.map_append, List.map_reverse]) (by rw [← rv_cats γ.1] at hc; exact lv_room hc) d ⟨Nat.zero_le _, Nat.zero_le _⟩⟩
theorem g_runSN {Mc : Mb} {rmc : Room} {as : List Value} {n index : Nat} {R1 : Option Value × Mm} {stk : List Value} {own host : String} (hM : Ok Mc rmc as μ R1) (ho : M.1.cls = own) (hm : Mw Mc n) (hi : Cond.static Mc.1 ∈ tw) (hlk : Cond.methodLinkNest own index Mc.1 host ∈ nw) (hF : Fits rmc rm Mc.2.2.1) (hn : as.length = n) (hst : stk = as.reverse ++ st) (hc : (st.map fun v => v.category).sum ≤ 8) (d : decode M.2.1 pc = .ok (.invokestatic index, 3)) : Rn M rm μ pc lo stk st R1 := by
  subst ho
  subst hst
  intro γ p l e s m args below meth c C H locs ls hw hl
  exact ⟨_, va_runSN (As := as.map (rv γ.1)) (nL := M.2.2.1) ⟨C.1, C.2.1, C.2.2.2.1, C.2.2.2.2.1, C.2.2.2.2.2.1⟩ (hM γ l H.size) ⟨va_cnB n C.2.2.2.2.2.1 (tw_in hm.1) rfl hF.1 hF.2.1 (C.2.2.2.2.2.2.2.1.2 _ hlk) (C.2.2.2.2.2.1 _ hm.2.1) hm.2.2 hF.2.2, C.2.2.2.2.2.1 _ hi, trivial⟩ ⟨pre_blind, fun U hU hW => ⟨rfl, pre_at C hw U hU hW⟩⟩ rfl (by rw [List.length_map]; exact hn) hl.1 (by simp [List.map_append, List.map_reverse]) (by rw [← rv_cats γ.1] at hc; exact lv_room hc) d ⟨Nat.zero_le _, Nat.zero_le _⟩⟩
end
