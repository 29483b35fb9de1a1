/-! THE WORLD: one memory for class and reference together; cells 0 .. 32 the class's, 33 .. 45 the reference's, 46 the law's own row -/
abbrev Mm : Type := (Nat → Nat → Int32) × (Nat → Nat → Int64)
def sI (μ : Mm) (k i : Nat) (x : Int32) : Mm := (fun k' => if k' = k then upd (μ.1 k) i x else μ.1 k', μ.2)
def sL (μ : Mm) (k i : Nat) (x : Int64) : Mm := (μ.1, fun k' => if k' = k then vp_updL (μ.2 k) i x else μ.2 k')
abbrev Mb : Type := MethodName × ByteArray × Nat × Option FieldType
abbrev cl7 : List vw_C := [(RX0, TX0, 2), (RX1, TX1, 3), (RX2, TX2, 4), (RX3, TX3, 3), (RX4, TX4, 5), (RX5, TX5, 6), (RX6, TX6, 21)]
/-- the length of an array cell -/
def lenC (k : Nat) : Nat := if k < 12 then 60 else if k < 27 then 15 else if k < 29 then 14 else if k < 31 then 300 else if k < 32 then 800 else if k < 33 then 32 else if k < 39 then 60 else if k < 40 then 14 else if k < 41 then 1024 else if k < 42 then 800 else if k < 43 then 210 else if k < 44 then 15 else if k < 45 then 14 else if k < 46 then 60 else 1
/-- is it an array of longs -/
def isJ (k : Nat) : Bool := (13 ≤ k && k ≤ 28) || k == 39 || k == 42 || k == 43 || k == 44 || k == 46
def cellOf (ad : Nat → Nat) (cy : Nat → ClassId) (k : Nat) (a : Nat → Int32) (b : Nat → Int64) : va_E :=
  if k = 0 then .inr (5, [.ref (ad 1), .ref (ad 2), .ref (ad 3), .ref (ad 4), .ref (ad 5), .int (a 5)])
  else if k = 1 then .inr (1, [.ref (ad 6), .ref (ad 10), .int (a 2)])
  else if k = 2 then .inr (3, [.ref (ad 11), .int (a 1), .int (a 2)])
  else if k = 3 then .inr (4, [.ref (ad 12), .ref (ad 27), .ref (ad 28), .long (b 3), .int (a 4)])
  else if k = 4 then .inr (2, [.ref (ad 29), .ref (ad 30), .ref (ad 31), .int (a 3)])
  else if k = 5 then .inr (0, [.ref (ad 32), .int (a 1)])
  else if k = 6 then .inl (cy 3, 3, .inr (.inr (.inr (.inr (fun j => if j < 3 then some (ad (7 + j)) else none)))))
  else if k = 12 then .inl (cy 4, 14, .inr (.inr (.inr (.inr (fun j => if j < 14 then some (ad (13 + j)) else none)))))
  else if k = 33 then .inr (6, [.int (a 0), .ref (ad 34), .ref (ad 35), .ref (ad 36), .ref (ad 37), .int (a 5), .int (a 6), .ref (ad 38), .long (b 8), .ref (ad 39), .int (a 10), .ref (ad 40), .ref (ad 41), .int (a 13), .int (a 14), .int (a 15), .ref (ad 42), .ref (ad 43), .ref (ad 44), .ref (ad 45), .long (b 20)])
  else if isJ k = true then .inl (cy 1, lenC k, .inr (.inl b))
  else if k = 37 then .inl (cy 2, 60, .inl a)
  else .inl (cy 0, lenC k, .inl a)
def wd (ad : Nat → Nat) (cy : Nat → ClassId) (μ : Mm) : va_W := (List.range 47).map (fun k => (ad k, cellOf ad cy k (μ.1 k) (μ.2 k)))
theorem wd_get {ad : Nat → Nat} {cy : Nat → ClassId} {μ : Mm} {k : Nat} (h : k < 47) : (wd ad cy μ)[k]? = some (ad k, cellOf ad cy k (μ.1 k) (μ.2 k)) := by
  simp [wd, h]
theorem wd_set {ad : Nat → Nat} {cy : Nat → ClassId} {μ μ' : Mm} {k : Nat} {e : va_E} (h1 : ∀ k', k' ≠ k → μ'.1 k' = μ.1 k' ∧ μ'.2 k' = μ.2 k') (he : cellOf ad cy k (μ'.1 k) (μ'.2 k) = e) : (wd ad cy μ).set k (ad k, e) = wd ad cy μ' := by
  subst he
  apply List.ext_getElem?
  intro i
  rw [List.getElem?_set]
  by_cases hk : k = i
  · subst hk
    by_cases hl : k < 47
    · simp [wd, hl]
    · simp [wd, hl]
  · rw [if_neg hk]
    by_cases hl : i < 47
    · rw [wd_get hl, wd_get hl, (h1 i (Ne.symm hk)).1, (h1 i (Ne.symm hk)).2]
    · simp [wd, hl]
theorem sI_off {μ : Mm} {k i : Nat} {x : Int32} : ∀ k', k' ≠ k → (sI μ k i x).1 k' = μ.1 k' ∧ (sI μ k i x).2 k' = μ.2 k' := fun k' h => ⟨by simp [sI, h], rfl⟩
theorem sL_off {μ : Mm} {k i : Nat} {x : Int64} : ∀ k', k' ≠ k → (sL μ k i x).1 k' = μ.1 k' ∧ (sL μ k i x).2 k' = μ.2 k' := fun k' h => ⟨rfl, by simp [sL, h]⟩
theorem sI_at {μ : Mm} {k i : Nat} {x : Int32} : (sI μ k i x).1 k = upd (μ.1 k) i x := by simp [sI]
theorem sL_at {μ : Mm} {k i : Nat} {x : Int64} : (sL μ k i x).2 k = vp_updL (μ.2 k) i x := by simp [sL]
/-- cell k is a row of n ints (longs, booleans) -/
def isI (k n : Nat) : Prop := k < 47 ∧ ∀ (ad : Nat → Nat) (cy : Nat → ClassId) (a : Nat → Int32) (b : Nat → Int64), cellOf ad cy k a b = .inl (cy 0, n, .inl a)
def isL (k n : Nat) : Prop := k < 47 ∧ ∀ (ad : Nat → Nat) (cy : Nat → ClassId) (a : Nat → Int32) (b : Nat → Int64), cellOf ad cy k a b = .inl (cy 1, n, .inr (.inl b))
def isZ (k n : Nat) : Prop := k < 47 ∧ ∀ (ad : Nat → Nat) (cy : Nat → ClassId) (a : Nat → Int32) (b : Nat → Int64), cellOf ad cy k a b = .inl (cy 2, n, .inl a)
def isQ (k n b0 : Nat) (t : Nat) : Prop := k < 47 ∧ ∀ (ad : Nat → Nat) (cy : Nat → ClassId) (a : Nat → Int32) (b : Nat → Int64), cellOf ad cy k a b = .inl (cy t, n, .inr (.inr (.inr (.inr (fun j => if j < n then some (ad (b0 + j)) else none)))))
theorem isI_row {w : Nat} (h : w < 3) : isI (7 + w) 60 := by
  rcases (show w = 0 ∨ w = 1 ∨ w = 2 by omega) with rfl | rfl | rfl <;> exact ⟨by decide, fun _ _ _ _ => rfl⟩
theorem isL_row {w : Nat} (h : w < 14) : isL (13 + w) 15 := by
  refine ⟨by omega, fun ad cy a b => ?_⟩
  have hj : isJ (13 + w) = true := by simp [isJ]; omega
  unfold cellOf
  rw [if_neg (by omega), if_neg (by omega), if_neg (by omega), if_neg (by omega), if_neg (by omega), if_neg (by omega), if_neg (by omega), if_neg (by omega), if_neg (by omega), if_pos hj]
  have hl : lenC (13 + w) = 15 := by unfold lenC; rw [if_neg (by omega), if_pos (by omega)]
  rw [hl]
theorem isI_10 : isI 10 60 := ⟨by decide, fun _ _ _ _ => rfl⟩
theorem isI_11 : isI 11 60 := ⟨by decide, fun _ _ _ _ => rfl⟩
theorem isL_27 : isL 27 14 := ⟨by decide, fun _ _ _ _ => rfl⟩
theorem isL_28 : isL 28 14 := ⟨by decide, fun _ _ _ _ => rfl⟩
theorem isI_29 : isI 29 300 := ⟨by decide, fun _ _ _ _ => rfl⟩
theorem isI_30 : isI 30 300 := ⟨by decide, fun _ _ _ _ => rfl⟩
theorem isI_31 : isI 31 800 := ⟨by decide, fun _ _ _ _ => rfl⟩
theorem isI_32 : isI 32 32 := ⟨by decide, fun _ _ _ _ => rfl⟩
theorem isI_34 : isI 34 60 := ⟨by decide, fun _ _ _ _ => rfl⟩
theorem isI_35 : isI 35 60 := ⟨by decide, fun _ _ _ _ => rfl⟩
theorem isI_36 : isI 36 60 := ⟨by decide, fun _ _ _ _ => rfl⟩
theorem isZ_37 : isZ 37 60 := ⟨by decide, fun _ _ _ _ => rfl⟩
theorem isI_38 : isI 38 60 := ⟨by decide, fun _ _ _ _ => rfl⟩
theorem isL_39 : isL 39 14 := ⟨by decide, fun _ _ _ _ => rfl⟩
theorem isI_40 : isI 40 1024 := ⟨by decide, fun _ _ _ _ => rfl⟩
theorem isI_41 : isI 41 800 := ⟨by decide, fun _ _ _ _ => rfl⟩
theorem isL_42 : isL 42 210 := ⟨by decide, fun _ _ _ _ => rfl⟩
theorem isL_43 : isL 43 15 := ⟨by decide, fun _ _ _ _ => rfl⟩
theorem isL_44 : isL 44 14 := ⟨by decide, fun _ _ _ _ => rfl⟩
theorem isI_45 : isI 45 60 := ⟨by decide, fun _ _ _ _ => rfl⟩
theorem isL_46 : isL 46 1 := ⟨by decide, fun _ _ _ _ => rfl⟩
theorem isQ_6 : isQ 6 3 7 3 := ⟨by decide, fun _ _ _ _ => rfl⟩
theorem isQ_12 : isQ 12 14 13 4 := ⟨by decide, fun _ _ _ _ => rfl⟩
abbrev ty5 (cy : Nat → ClassId) : List (ClassId × FieldType) := [(cy 0, .int), (cy 1, .long), (cy 2, .boolean), (cy 3, .array .int), (cy 4, .array .long)]
/-- the addresses of the world, and all that come new -/
def Adr (ad : Nat → Nat) (sz : Nat) : Nat → Prop := fun q => (∃ k, k < 47 ∧ q = ad k) ∨ sz ≤ q
def Inj (ad : Nat → Nat) : Prop := ∀ i j, i < 47 → j < 47 → ad i = ad j → i = j
theorem wd_D {ad : Nat → Nat} {cy : Nat → ClassId} {μ : Mm} {sz : Nat} (h : Inj ad) : va_D (Adr ad sz) (wd ad cy μ) := by
  have hk : ∀ (i : Nat) (q : Nat × va_E), (wd ad cy μ)[i]? = some q → i < 47 ∧ q.1 = ad i := by
    intro i q hq
    by_cases hl : i < 47
    · rw [wd_get hl] at hq; cases hq; exact ⟨hl, rfl⟩
    · simp [wd, hl] at hq
  refine ⟨fun i j p q hi hj e => ?_, fun k q hq => ?_⟩
  · obtain ⟨h1, e1⟩ := hk i p hi
    obtain ⟨h2, e2⟩ := hk j q hj
    exact h i j h1 h2 (by rw [← e1, ← e2, e])
  · obtain ⟨h1, e1⟩ := hk k q hq
    exact Or.inl ⟨k, h1, e1⟩
/-- refs are cells' numbers; in the machine their addresses -/
def rv (ad : Nat → Nat) : Value → Value
  | .ref k => .ref (ad k)
  | v => v
/-- words that hold for good -/
def tw : List Cond := lw_tbl.filter goodWord
def isNs : Cond → Bool
  | .fieldLinkNest _ _ _ _ _ _ => true
  | .methodLinkNest _ _ _ _ => true
  | _ => false
def nw : List Cond := lw_tbl.filter isNs
theorem tw_good : ∀ w ∈ tw, (w.onTables && w.keeps) = true ∨ ∃ ty, w = .arrayClass ty := fun w h => good_of_word (List.mem_filter.mp h).2
theorem nw_warm {w : Cond} (h : isNs w = true) {s U : State} (hW : s.WarmedH U.vm) (hZ : va_Nw w s) : va_Nw w U := by
  cases w <;> first | exact va_Nw.warmF hW hZ | exact va_Nw.warmM hW hZ | (simp [isNs] at h)
theorem nw_same {w : Cond} (h : isNs w = true) {s U : State} (hW : s.vm = U.vm) (hZ : va_Nw w s) : va_Nw w U := by
  cases w <;> first | exact va_Nw.same rfl hW hZ | (simp [isNs] at h)
theorem nw_of {w : Cond} (h : isNs w = true) {A : Array Value} {U : State} (hZ : w.before A U = true) : va_Nw w U := by
  cases w <;> first | exact va_Nw.of rfl hZ | (simp [isNs] at h)
/-- addresses; classes and slots; array classes; the place of LIMITS -/
abbrev Cc : Type := (Nat → Nat) × va_G × (Nat → ClassId) × Nat
def limF (j : Nat) : Int32 := if j = 0 then 1 else if j = 1 then 1000 else 1000000
def Zs (γ : Cc) (sz : Nat) (U : State) (H : Heap) : Prop := va_Z "HoleMask$Circle" "LIMITS" "[I" (.ref (γ.1 47)) (Adr γ.1 sz) U H ∧ va_T .int (γ.1 47) 3 (fun j => .int (limF j)) (Adr γ.1 sz) U H
def Kw (γ : Cc) (U : State) : Prop := va_K γ.2.1 cl7 (ty5 γ.2.2.1) U ∧ ∀ w ∈ nw, va_Nw w U
theorem Kw.warm {γ : Cc} {s U : State} (h : Kw γ s) (hW : s.WarmedH U.vm) : Kw γ U := ⟨va_K.moved hW.alike h.1, fun w hw => nw_warm (List.mem_filter.mp hw).2 hW (h.2 w hw)⟩
theorem Kw.same {γ : Cc} {s U : State} (h : Kw γ s) (hW : s.vm = U.vm) : Kw γ U := ⟨va_K.moved (hW ▸ Vm.Alike.refl s.vm) h.1, fun w hw => nw_same (List.mem_filter.mp hw).2 hW (h.2 w hw)⟩
abbrev Wp (γ : Cc) (μ : Mm) (H : Heap) : Prop := va_P γ.2.1 cl7 (wd γ.1 γ.2.2.1 μ) H
/-- where a contract begins -/
def PreW (γ : Cc) (sz : Nat) (μ : Mm) (U : State) : Prop := U.heap.size = sz ∧ Wp γ μ U.heap ∧ Kw γ U ∧ Inj γ.1 ∧ Zs γ sz U U.heap
/-- what a method answers and leaves -/
def QR (γ : Cc) (R : Option Value × Mm) (sz : Nat) : Array Value → State → Outcome → State → Prop := match R.1 with
  | some (.int x) => va_Qi (fun y (_ : Unit) => y = x) (fun _ t => Wp γ R.2 t.heap) (Adr γ.1 sz)
  | some (.long x) => va_Ql (fun y (_ : Unit) => y = x) (fun _ t => Wp γ R.2 t.heap) (Adr γ.1 sz)
  | _ => va_Qv (fun (_ : Unit) => True) (fun _ t => Wp γ R.2 t.heap) (Adr γ.1 sz)
def wsM (M : Mb) : List Cond := .code M.1 M.2.1 M.2.2.1 M.2.2.2 :: tw
/-- THE CONTRACT: called with as, memory μ, the method answers R.1 and leaves memory R.2 -/
def Ok (M : Mb) (rm : Room) (as : List Value) (μ : Mm) (R : Option Value × Mm) : Prop := ∀ (γ : Cc) (l : Launch) (sz : Nat), Met l M.1 (wsM M) rm (va_Pc (as.map (rv γ.1)) (PreW γ sz μ)) (QR γ R sz) 0 0 (Adr γ.1 sz)
/-- what stays the same in a method -/
def Cx (γ : Cc) (M : Mb) (p : Program) (s : State) (m : MethodId) (args : Array Value) (meth : Method) (c : Code) : Prop :=
  p.tables.exec = Jvm.exec ∧ c.code = M.2.1 ∧ meth.sig.returnType = M.2.2.2 ∧ c.maxLocals = M.2.2.1 ∧ s.vm.findClass M.1.cls = some m.cls ∧ (∀ w ∈ tw, w.before args s = true) ∧ meth.locks = false ∧ Kw γ s ∧ Inj γ.1 ∧ Zs γ s.heap.size s s.heap
def Hw (γ : Cc) (s : State) (H : Heap) (locs : List Loc) (μ : Mm) : Prop := Wp γ μ H ∧ va_S (Adr γ.1 s.heap.size) s.heap H locs
def Lo (γ : Cc) (ls : Array Slot) (n : Nat) (lo : List (Option Value)) : Prop := ls.size = n ∧ lv_wf ls ∧ lo.length ≤ n ∧ ∀ (i : Nat) (v : Value), lo[i]? = some (some v) → ls[i]? = some (Slot.val (rv γ.1 v))
/-- THE JUDGEMENT: from pc with locals lo, stack st, memory μ the method answers R.1 and leaves R.2 -/
def G (M : Mb) (rm : Room) (R : Option Value × Mm) (μ : Mm) (pc : Nat) (lo : List (Option Value)) (st : List Value) : Prop :=
  ∀ (γ : Cc) (p : Program) (l : Launch) (e : Env) (s : State) (m : MethodId) (args : Array Value) (below : List Frame) (meth : Method) (c : Code), Cx γ M p s m args meth c → ∀ (H : Heap) (locs : List Loc) (ls : Array Slot), Hw γ s H locs μ → Lo γ ls M.2.2.1 lo →
    W p l e rm s m args below meth c H locs 0 0 (MQ below (QR γ R s.heap.size) args s 0 0 (Adr γ.1 s.heap.size)) (F0 m pc ls (st.map (rv γ.1)))
/-- locals at the entry -/
def lo1 : List Value → List (Option Value)
  | [] => []
  | v :: vs => if v.category = 2 then some v :: none :: lo1 vs else some v :: lo1 vs
theorem rv_cat (ad : Nat → Nat) (v : Value) : (rv ad v).category = v.category := by cases v <;> rfl
theorem lo1_args (ad : Nat → Nat) : ∀ (as : List Value) (k i : Nat) (v : Value), (lo1 as)[i]? = some (some v) → (k + i, rv ad v) ∈ lv_args k (as.map (rv ad))
  | [], k, i, v, h => by simp [lo1] at h
  | a :: as, k, i, v, h => by
    simp only [List.map_cons, lv_args, rv_cat]
    unfold lo1 at h
    by_cases hc : a.category = 2
    · rw [if_pos hc] at h
      rw [if_pos hc]
      match i, h with
      | 0, h => cases h; exact List.mem_cons_self
      | 1, h => cases h
      | i + 2, h =>
        have := lo1_args ad as (k + 2) i v h
        rw [show k + (i + 2) = k + 2 + i by omega]
        exact List.mem_cons_of_mem _ this
    · rw [if_neg hc] at h
      rw [if_neg hc]
      match i, h with
      | 0, h => cases h; exact List.mem_cons_self
      | i + 1, h =>
        have := lo1_args ad as (k + 1) i v h
        rw [show k + (i + 1) = k + 1 + i by omega]
        exact List.mem_cons_of_mem _ this
theorem lo1_len (ad : Nat → Nat) : ∀ as : List Value, (lg_sl (as.map (rv ad))).length = (lo1 as).length
  | [] => rfl
  | a :: as => by
    have ih := lo1_len ad as
    unfold lg_sl at ih ⊢
    unfold lo1
    rw [List.map_cons, List.flatMap_cons, List.length_append, ih, rv_cat]
    by_cases hc : a.category = 2
    · rw [if_pos hc, if_pos hc]; simp; omega
    · rw [if_neg hc, if_neg hc]; simp; omega
set_option maxHeartbeats 4000000 in
theorem Ok.of {M : Mb} {rm : Room} {as : List Value} {μ : Mm} {R : Option Value × Mm} (hy : plainName M.1.cls = true) (hn : (lo1 as).length ≤ M.2.2.1) (lo : List (Option Value)) (hlo : lo1 as ++ List.replicate (M.2.2.1 - (lo1 as).length) none = lo) (h : G M rm R μ 0 lo []) : Ok M rm as μ R := by
  intro γ l sz
  refine Met.ofW (cc := M.2.1) (maxL := M.2.2.1) (ret := M.2.2.2) hy rfl ?_
  intro p e s m args below meth c s₁ B hml hv
  obtain ⟨rfl, hsz, hP, hK, hI, hZ⟩ := hv
  subst hsz
  have hts := atoms_spec (ws := wsM M) B.pre
  have hl := lv_entry (as.map (rv γ.1)) (n := M.2.2.1) (by rw [lo1_len]; exact hn)
  rw [lg_entry_eq]
  refine h γ p l e s m _ below meth c ⟨B.exec, B.bytes, B.returns, hml, findClass_of_methodNamed B.named, fun w hw => hts w (List.mem_cons_of_mem _ hw), B.notSynchronized, hK, hI, hZ⟩ s.heap [] _ ⟨hP, va_S.rf⟩ ⟨hl.1, hl.2.1, ?_, ?_⟩
  · rw [← hlo]; simp
    try omega
  · intro i v hi
    rw [← hlo] at hi
    have hi2 : (lo1 as)[i]? = some (some v) := by
      by_cases hlt : i < (lo1 as).length
      · rw [List.getElem?_append_left hlt] at hi; exact hi
      · rw [List.getElem?_append_right (by omega)] at hi
        rw [List.getElem?_replicate] at hi
        split at hi <;> cases hi
    have := lo1_args γ.1 as 0 i v hi2
    rw [Nat.zero_add] at this
    exact hl.2.2 _ this
