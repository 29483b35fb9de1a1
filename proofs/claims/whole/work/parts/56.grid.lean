/-! 'new T[n][k]': the outer row, then the inner ones, one behind the other -/
def gdO (cA : ClassId) (N h i : Nat) : Cell := arrV cA N (fun j => va_rf (if j < i then some (h + 1 + j) else none))
def gdI (cI : ClassId) (K : Nat) (dv : Value) : Cell := { cls := cI, slots := Array.replicate K dv, vm := .none }
def gdS (S : State) (cA cI : ClassId) (N K : Nat) (dv : Value) : Nat → State
  | 0 => S.pushCell (gdO cA N S.heap.size 0)
  | i + 1 => ((gdS S cA cI N K dv i).pushCell (gdI cI K dv)).setCell S.heap.size (gdO cA N S.heap.size (i + 1))
theorem gdO_0 (cA : ClassId) (N h : Nat) : ({ cls := cA, slots := Array.replicate N .null, vm := .none } : Cell) = gdO cA N h 0 := by
  rw [arrV_new]
  exact congrArg (arrV cA N) (funext fun j => by simp [va_rf])
theorem gdO_set (cA : ClassId) (N h i : Nat) : (gdO cA N h i).setSlot i (.ref (h + 1 + i)) = gdO cA N h (i + 1) := by
  unfold gdO
  rw [arrV_store]
  refine congrArg (arrV cA N) (funext fun j => ?_)
  unfold updV
  by_cases e : j = i
  · rw [if_pos e, e, if_pos (Nat.lt_succ_self i)]; rfl
  · rw [if_neg e]
    show va_rf (if j < i then some (h + 1 + j) else none) = va_rf (if j < i + 1 then some (h + 1 + j) else none)
    by_cases h2 : j < i
    · rw [if_pos h2, if_pos (by omega)]
    · rw [if_neg h2, if_neg (by omega)]
theorem gdO_at (cA : ClassId) (N h i : Nat) : (gdO cA N h i).cls = cA ∧ (gdO cA N h i).vm = .none ∧ (gdO cA N h i).slots.size = N := ⟨rfl, rfl, arrV_size _ _ _⟩
theorem gd_all (S : State) (cA cI : ClassId) (N K : Nat) (dv : Value) : ∀ i, ((gdS S cA cI N K dv i).heap.size = S.heap.size + 1 + i ∧ (gdS S cA cI N K dv i).heap[S.heap.size]? = some (gdO cA N S.heap.size i)) ∧ ((gdS S cA cI N K dv i).vm = S.vm ∧ (gdS S cA cI N K dv i).slotsUsed = S.slotsUsed + N + i * K) ∧ (∀ a, a < S.heap.size → (gdS S cA cI N K dv i).heap[a]? = S.heap[a]?) ∧ ∀ j, j < i → (gdS S cA cI N K dv i).heap[S.heap.size + 1 + j]? = some (gdI cI K dv) := by
  intro i
  induction i with
  | zero =>
    refine ⟨⟨by simp [gdS], by simp [gdS]⟩, ⟨rfl, ?_⟩, fun a ha => State.heap_pushCell_of_lt _ _ ha, fun j hj => absurd hj (by omega)⟩
    show (S.pushCell (gdO cA N S.heap.size 0)).slotsUsed = _
    simp [(gdO_at cA N S.heap.size 0).2.2]
  | succ i ih =>
    obtain ⟨⟨z1, z2⟩, ⟨z3, z4⟩, z5, z6⟩ := ih
    have old : ∀ a, a < S.heap.size + 1 + i → ((gdS S cA cI N K dv i).pushCell (gdI cI K dv)).heap[a]? = (gdS S cA cI N K dv i).heap[a]? := fun a ha => State.heap_pushCell_of_lt _ _ (by rw [z1]; exact ha)
    refine ⟨⟨?_, State.heap_setCell_self ((old _ (by omega)).trans z2)⟩, ⟨?_, ?_⟩, fun a ha => ?_, fun j hj => ?_⟩
    · simp [gdS, State.setCell, z1]; omega
    · simp [gdS, z3]
    · simp [gdS, z4, gdI, Nat.succ_mul]; omega
    · show (((gdS S cA cI N K dv i).pushCell (gdI cI K dv)).setCell S.heap.size _).heap[a]? = _
      rw [State.heap_setCell_other (Nat.ne_of_gt ha), old a (by omega)]
      exact z5 a ha
    · show (((gdS S cA cI N K dv i).pushCell (gdI cI K dv)).setCell S.heap.size _).heap[S.heap.size + 1 + j]? = _
      rw [State.heap_setCell_other (show S.heap.size ≠ S.heap.size + 1 + j by omega)]
      by_cases e : j = i
      · rw [e, ← z1]; exact State.heap_pushCell_size _ _
      · rw [old _ (by omega)]; exact z6 j (by omega)
theorem gd_top (S : State) (f : JFrame) (cA cI : ClassId) (N K : Nat) (dv : Value) : ∀ i, gdS (S.setTop f) cA cI N K dv i = (gdS S cA cI N K dv i).setTop f := by
  intro i
  induction i with
  | zero => rfl
  | succ i ih => simp only [gdS, ih, State.heap_setTop, State.pushCell_setTop, State.setCell_setTop]
theorem gd_stand {p : Program} {l : Launch} {e : Env} {R : Room} {s : State} {m : MethodId} {args : Array Value} {below : List Frame} {meth : Method} {c : Code} {T : State} {locs : List Loc} {cells slots : Nat} (X : Stand p l e R s m args below meth c T locs cells slots) (cA cI : ClassId) (N K : Nat) (dv : Value) : ∀ i, Stand p l e R s m args below meth c (gdS T cA cI N K dv i) locs (cells + 1 + i) (slots + N + i * K) := by
  intro i
  induction i with
  | zero =>
    have h := X.pushed (gdO cA N T.heap.size 0)
    rw [(gdO_at cA N T.heap.size 0).2.2] at h
    simpa [gdS] using h
  | succ i ih =>
    obtain ⟨⟨z1, z2⟩, -⟩ := gd_all T cA cI N K dv i
    have h9 : T.heap.size < (gdS T cA cI N K dv i).heap.size := by rw [z1]; omega
    have hc : ((gdS T cA cI N K dv i).pushCell (gdI cI K dv)).heap[T.heap.size]? = some (gdO cA N T.heap.size i) := (State.heap_pushCell_of_lt _ _ h9).trans z2
    have h := (ih.pushed (gdI cI K dv)).stored hc i (.ref (T.heap.size + 1 + i))
    have h2 := Stand.dropFresh h (fun x hx => by
      rw [List.mem_singleton] at hx
      rw [hx]; exact X.heapGrown)
    rw [gdO_set, show (gdI cI K dv).slots.size = K by simp [gdI]] at h2
    rw [show slots + N + (i + 1) * K = slots + N + i * K + K by rw [Nat.succ_mul]; omega]
    exact h2
section
variable {E : CtlPost} {e : Env} {d : Bool} {acts : List Action} {s : State}
theorem gd_fit {t : FieldType} (h : t.isReference = true) (v : Value) (hv : v = .null ∨ ∃ a, v = .ref a) : fits t v = true := by
  rcases hv with rfl | ⟨a, rfl⟩
  · cases t <;> first | rfl | (simp [FieldType.isReference] at h)
  · cases t <;> first | rfl | (simp [FieldType.isReference] at h)
theorem gd_row {cI cc : ClassId} {kc : Class} {ty : FieldType} {k : Int32} (hkc : s.vm.classes[cI]? = some kc) (hkd : kc.kind = .array cc ty) (hk : ¬ k < 0) (hl : ¬ k.toNatClampNeg > e.platform.arrayLengthLimit) (hh : ¬ k.toNatClampNeg * componentBytes ty > e.platform.maxHeapBytes) (hf : fits ty (defaultValue ty) = true) (h1 : s.heap.size < e.platform.maxCells) (h2 : s.slotsUsed + k.toNatClampNeg ≤ e.platform.maxSlots) {Q : Addr → Pre} (hq : ∀ acts', Q s.heap.size d acts' (s.pushCell (gdI cI k.toNatClampNeg (defaultValue ty)))) : wp (multianewarray.make cI [k]) Q E e d acts s := by
  rw [multianewarray.make]
  simp only [wp_bind', W.ite, hk, if_false, wp_pure', W.theClass, hkc, hkd, Option.some.injEq, exists_eq_left']
  exact W.newArray_of hkc hkd hl hh h1 h2 hf hq
theorem gd_make {cA cI cc : ClassId} {kA kc : Class} {t0 ty : FieldType} {n k : Int32} (hkA : s.vm.classes[cA]? = some kA) (hkdA : kA.kind = .array cI t0) (href : t0.isReference = true) (hkc : s.vm.classes[cI]? = some kc) (hkd : kc.kind = .array cc ty) (hn : ¬ n < 0) (hk : ¬ k < 0) (hl1 : ¬ n.toNatClampNeg > e.platform.arrayLengthLimit) (hh1 : ¬ n.toNatClampNeg * componentBytes t0 > e.platform.maxHeapBytes) (hl2 : ¬ k.toNatClampNeg > e.platform.arrayLengthLimit) (hh2 : ¬ k.toNatClampNeg * componentBytes ty > e.platform.maxHeapBytes) (hf : fits ty (defaultValue ty) = true) (hc : s.heap.size + 1 + n.toNatClampNeg ≤ e.platform.maxCells) (hs : s.slotsUsed + n.toNatClampNeg + n.toNatClampNeg * k.toNatClampNeg ≤ e.platform.maxSlots) {Q : Addr → Pre} (hq : ∀ d' acts', Q s.heap.size d' acts' (gdS s cA cI n.toNatClampNeg k.toNatClampNeg (defaultValue ty) n.toNatClampNeg)) : wp (multianewarray.make cA [n, k]) Q E e d acts s := by
  have hnone : ([k].find? (· < 0)) = none := by simp [hk]
  generalize hN : n.toNatClampNeg = N at *
  generalize hK : k.toNatClampNeg = K at *
  rw [multianewarray.make]
  simp only [wp_bind', W.ite, hn, if_false, wp_pure', W.theClass, hkA, hkdA, Option.some.injEq, exists_eq_left', hN]
  refine W.newArray_of hkA hkdA hl1 hh1 (by omega) (by omega) (gd_fit href _ (Or.inl rfl)) (fun acts1 => ?_)
  rw [gdO_0 cA N s.heap.size]
  simp only [hnone]
  rw [ite_self, wp_bind', Std.Legacy.Range.forIn_eq_forIn_range', show ([:N] : Std.Legacy.Range).size = N by simp [Std.Legacy.Range.size]]
  show wp (forIn (List.range' 0 N 1) PUnit.unit _) _ E e d acts1 _
  refine wp_forIn_inv (fun left u => ∃ i, i + left.length = N ∧ left = List.range' i left.length ∧ u = gdS s cA cI N K (defaultValue ty) i) _ _ ⟨0, by simp, by simp, rfl⟩ ?_ ?_
  · rintro x left u d' acts' Q' ⟨i, hi, hl, rfl⟩ go
    have hiN : i < N := by rw [List.length_cons] at hi; omega
    rw [List.length_cons, List.range'_succ] at hl
    obtain ⟨rfl, hleft⟩ : x = i ∧ left = List.range' (i + 1) left.length := ⟨(List.cons.inj hl).1, (List.cons.inj hl).2⟩
    obtain ⟨⟨z1, z2⟩, ⟨z3, z4⟩, -, -⟩ := gd_all s cA cI N K (defaultValue ty) x
    have hm : x * K + K ≤ N * K := by
      have h9 : (x + 1) * K ≤ N * K := Nat.mul_le_mul_right K hiN
      rw [Nat.succ_mul] at h9; exact h9
    simp only [wp_bind']
    refine gd_row (by rw [z3]; exact hkc) hkd hk (by rw [hK]; exact hl2) (by rw [hK]; exact hh2) hf (by rw [z1]; omega) (by rw [z4, hK]; omega) (fun acts2 => ?_)
    rw [hK]
    simp only [wp_bind', W.writeLoc, wp_pure']
    have h9 : s.heap.size < (gdS s cA cI N K (defaultValue ty) x).heap.size := by rw [z1]; omega
    refine ⟨gdO cA N s.heap.size x, (State.heap_pushCell_of_lt _ _ h9).trans z2, by rw [(gdO_at cA N s.heap.size x).2.1]; simp, by rw [(gdO_at cA N s.heap.size x).2.2]; exact hiN, ?_, go _ _ _ ⟨x + 1, by rw [List.length_cons] at hi; omega, hleft, ?_⟩⟩
    · rw [(gdO_at cA N s.heap.size x).1, (gdO_at cA N s.heap.size x).2.1]
      simp [State.fitsSlot, State.slotType?, z3, hkA, hkdA, gd_fit href _ (Or.inr ⟨_, rfl⟩)]
    · rw [z1, gdO_set]; rfl
  · rintro u d' acts' ⟨i, hi, -, rfl⟩
    rw [List.length_nil] at hi
    rw [show i = N by omega]
    simp only [wp_pure']
    exact hq _ _
end
section
variable {p : Program} {l : Launch} {e : Env} {R : Room} {s : State} {m : MethodId} {args : Array Value} {below : List Frame} {meth : Method} {c : Code} {H : Heap} {locs : List Loc} {cells slots : Nat} {Q : State → Prop}
/-- the row of it, over the heap alone -/
theorem gd_W {cc : ByteArray} {pc : Nat} {ls : Array Slot} {rest : List Value} (hexec : p.tables.exec = Jvm.exec) (hb : c.code = cc) {own : String} {index : Nat} {ty : FieldType} (hown : s.vm.findClass own = some m.cls) (hclink : (Cond.classLink own index ("[" ++ (FieldType.array ty).toString)).before args s = true) (hover : (Cond.arrayOver (.array ty)).before args s = true) (harr : (Cond.arrayClass ty).before args s = true) {n k : Int32} {N K : Nat} (hn : ¬ n < 0) (hk : ¬ k < 0) (hN : n.toNatClampNeg = N) (hK : k.toNatClampNeg = K) (hb1 : N * 4 ≤ 536870912) (hb2 : K * componentBytes ty ≤ 536870912) (hb3 : K ≤ 536870912) (hf : fits ty (defaultValue ty) = true) (hcells : cells + (1 + N) ≤ R.cells) (hslots : slots + (N + N * K) ≤ R.slots) (hdg : decode cc pc = .ok (.multianewarray index 2, 4))
    (kk : ∀ (cA cI : ClassId) (H1 : Heap), s.vm.findClass ("[" ++ (FieldType.array ty).toString) = some cA → s.vm.findClass (FieldType.array ty).toString = some cI → H1.size = H.size + 1 + N → H1[H.size]? = some (gdO cA N H.size N) → (∀ a, a < H.size → H1[a]? = H[a]?) → (∀ j, j < N → H1[H.size + 1 + j]? = some (gdI cI K (defaultValue ty))) →
      W p l e R s m args below meth c H1 locs (cells + 1 + N) (slots + N + N * K) Q (F0 m (pc + 4) ls (.ref H.size :: rest))) : W p l e R s m args below meth c H locs cells slots Q (F0 m pc ls (.int k :: .int n :: rest)) := by
  subst hN
  subst hK
  intro T hT X
  subst hT; subst hb
  have hpl : e.platform.magicAccessors = ({} : Platform).magicAccessors := by rw [X.admits.platform]
  obtain ⟨comp, cA, kA, hcomp, -, hkA, hkdA, hnm⟩ := arrayOverA_spec hover
  obtain ⟨comp', kC, cc0, hcomp', hkC, hkdC⟩ := Cond.arrayClass_spec harr
  have ecomp : comp' = comp := Option.some.inj (hcomp'.symm.trans hcomp)
  subst ecomp
  obtain ⟨c0, hf0, hcl⟩ := Cond.classLink_spec hown hclink e.platform hpl
  cases hnm.symm.trans hf0
  obtain ⟨hg1, hw1, hr1⟩ := State.classEntry (e := e) X.warmed hcl
  generalize T.vm.noted m.cls index (.cls cA) = vm1 at hg1 hw1 hr1
  obtain ⟨kA1, hkA1, heA⟩ := hw1.alike.2.2 _ _ hkA
  obtain ⟨kC1, hkC1, heC⟩ := hw1.alike.2.2 _ _ hkC
  have X1 := X.noted hw1
  have XG := gd_stand X1 cA comp' n.toNatClampNeg k.toNatClampNeg (defaultValue ty) n.toNatClampNeg
  obtain ⟨⟨z1, z2⟩, -, z5, z6⟩ := gd_all (T.setVm vm1) cA comp' n.toNatClampNeg k.toNatClampNeg (defaultValue ty) n.toNatClampNeg
  obtain ⟨q1, q2⟩ := X.roomAbove hcells hslots
  obtain ⟨t, a1, b1⟩ := kk cA comp' (gdS (T.setVm vm1) cA comp' n.toNatClampNeg k.toNatClampNeg (defaultValue ty) n.toNatClampNeg).heap hnm hcomp z1 z2 z5 z6 _ rfl XG
  refine ⟨t, ?_, b1⟩
  have l1 : ¬ n.toNatClampNeg > e.platform.arrayLengthLimit := by rw [Launch.admits_arrayLengthLimit X.admits]; omega
  have m1 : ¬ n.toNatClampNeg * componentBytes (.array ty) > e.platform.maxHeapBytes := by
    rw [Launch.admits_maxHeapBytes X.admits]; show ¬ n.toNatClampNeg * 4 > 536870912; omega
  have l2 : ¬ k.toNatClampNeg > e.platform.arrayLengthLimit := by rw [Launch.admits_arrayLengthLimit X.admits]; omega
  have m2 : ¬ k.toNatClampNeg * componentBytes ty > e.platform.maxHeapBytes := by rw [Launch.admits_maxHeapBytes X.admits]; omega
  have hdg' : decode c.code pc = .ok (.multianewarray index 2, 4) := hdg
  generalize hg9 : F0 m pc ls (.int k :: .int n :: rest) = g
  have gm : g.method = m := by rw [← hg9]
  have gp : g.pc = pc := by rw [← hg9]
  have gs : g.stack = .int k :: .int n :: rest := by rw [← hg9]
  have a2 : Steps p.tables e below ((gdS (T.setVm vm1) cA comp' n.toNatClampNeg k.toNatClampNeg (defaultValue ty) n.toNatClampNeg).setTop { g with pc := g.pc + 4, stack := .ref T.heap.size :: rest }) t := by rw [← hg9]; exact a1
  subst gm
  rw [← gp] at hdg'
  jvm_step X.here [hexec, hdg']
  simp only [multianewarray.sem, wp_bind', W.resolveClassAt_links (State.method?_setTop g X.here.top) hg1]
  rw [W.popN, if_neg (by decide)]
  refine ⟨g, State.topJava?_setTop' (s := T.setVm vm1) g X.here.top, [.int n, .int k], rest, rfl, gs, ?_⟩
  simp only [List.mapM_cons, List.mapM_nil, wp_bind', wp_pure']
  refine gd_make (kA := kA1) (kc := kC1) (cI := comp') (cc := cc0) (t0 := .array ty) (ty := ty) hkA1 (by rw [heA]; exact hkdA) rfl hkC1 (by rw [heC]; exact hkdC) hn hk l1 m1 l2 m2 hf (by show T.heap.size + 1 + _ ≤ _; omega) (by show T.slotsUsed + _ + _ ≤ _; omega) (fun d' acts' => ?_)
  have eS : ((T.setTop g).setVm vm1).setTop { g with stack := rest } = (T.setVm vm1).setTop { g with stack := rest } := by
    show ((T.setVm vm1).setTop g).setTop _ = _
    rw [State.setTop_setTop]
  rw [eS, gd_top]
  simp only [wp_bind', W.mark, W.pushRef, State.topJava?_setTop' _ XG.here.top, Option.some.injEq, exists_eq_left', State.setTop_setTop, State.heap_setTop]
  intro acts
  simp [jvm, XG.here.top]
  exact a2
end
