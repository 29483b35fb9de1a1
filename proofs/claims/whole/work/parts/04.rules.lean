/-! THE RULES of the judgement G: one an instruction -/
section
variable {M : Mb} {rm : Room} {R : Option Value × Mm} {μ : Mm} {pc : Nat} {lo : List (Option Value)} {st : List Value}
theorem g_iconst {n : Int} (v : Int32) (d : decode M.2.1 pc = .ok (.iconst n, 1)) (hv : Int32.ofInt n = v) (k : G M rm R μ (pc + 1) lo (.int v :: st)) : G M rm R μ pc lo st :=
  fun γ p l e s m args below meth c C H locs ls hw hl => lv_iconst C.1 C.2.1 d hv (k γ p l e s m args below meth c C H locs ls hw hl)
theorem g_bipush {n : Int} (v : Int32) (d : decode M.2.1 pc = .ok (.bipush n, 2)) (hv : (Int8.ofInt n).toInt32 = v) (k : G M rm R μ (pc + 2) lo (.int v :: st)) : G M rm R μ pc lo st :=
  fun γ p l e s m args below meth c C H locs ls hw hl => lv_bipush C.1 C.2.1 d hv (k γ p l e s m args below meth c C H locs ls hw hl)
theorem g_sipush {n : Int} (v : Int32) (d : decode M.2.1 pc = .ok (.sipush n, 3)) (hv : (Int16.ofInt n).toInt32 = v) (k : G M rm R μ (pc + 3) lo (.int v :: st)) : G M rm R μ pc lo st :=
  fun γ p l e s m args below meth c C H locs ls hw hl => lv_sipush C.1 C.2.1 d hv (k γ p l e s m args below meth c C H locs ls hw hl)
theorem g_lconst {n : Fin 2} (v : Int64) (d : decode M.2.1 pc = .ok (.lconst n, 1)) (hv : Int64.ofNat (n : Nat) = v) (k : G M rm R μ (pc + 1) lo (.long v :: st)) : G M rm R μ pc lo st :=
  fun γ p l e s m args below meth c C H locs ls hw hl => lv_lconst C.1 C.2.1 d hv (k γ p l e s m args below meth c C H locs ls hw hl)
theorem g_ldc {index : Nat} {own : String} (v : Int32) (ho : M.1.cls = own) (hw : Cond.constant own index v ∈ tw) (d : decode M.2.1 pc = .ok (.ldc index, 2)) (k : G M rm R μ (pc + 2) lo (.int v :: st)) : G M rm R μ pc lo st := by
  subst ho
  exact fun γ p l e s m args below meth c C H locs ls hw1 hl => lv_ldc C.1 C.2.1 C.2.2.2.2.1 (C.2.2.2.2.2.1 _ hw) d (k γ p l e s m args below meth c C H locs ls hw1 hl)
theorem g_ldcw {index : Nat} {own : String} (v : Int32) (ho : M.1.cls = own) (hw : Cond.constant own index v ∈ tw) (d : decode M.2.1 pc = .ok (.ldc_w index, 3)) (k : G M rm R μ (pc + 3) lo (.int v :: st)) : G M rm R μ pc lo st := by
  subst ho
  exact fun γ p l e s m args below meth c C H locs ls hw1 hl => lv_ldcw C.1 C.2.1 C.2.2.2.2.1 (C.2.2.2.2.2.1 _ hw) d (k γ p l e s m args below meth c C H locs ls hw1 hl)
theorem g_ldc2 {index : Nat} {own : String} (v : Int64) (ho : M.1.cls = own) (hw : Cond.constantLong own index v ∈ tw) (d : decode M.2.1 pc = .ok (.ldc2_w index, 3)) (k : G M rm R μ (pc + 3) lo (.long v :: st)) : G M rm R μ pc lo st := by
  subst ho
  exact fun γ p l e s m args below meth c C H locs ls hw1 hl => lv_ldc2 C.1 C.2.1 C.2.2.2.2.1 (C.2.2.2.2.2.1 _ hw) d (k γ p l e s m args below meth c C H locs ls hw1 hl)
theorem g_iload_n {q : Fin 4} (i : Nat) (x : Int32) (d : decode M.2.1 pc = .ok (.iload_n q, 1)) (hi : (q : Nat) = i) (h : lo[i]? = some (some (.int x))) (k : G M rm R μ (pc + 1) lo (.int x :: st)) : G M rm R μ pc lo st :=
  fun γ p l e s m args below meth c C H locs ls hw hl => lv_iload_n C.1 C.2.1 d hi (hl.2.2.2 _ _ h) (k γ p l e s m args below meth c C H locs ls hw hl)
theorem g_iload {i : Nat} (x : Int32) (d : decode M.2.1 pc = .ok (.iload i, 2)) (h : lo[i]? = some (some (.int x))) (k : G M rm R μ (pc + 2) lo (.int x :: st)) : G M rm R μ pc lo st :=
  fun γ p l e s m args below meth c C H locs ls hw hl => lv_iload C.1 C.2.1 d (hl.2.2.2 _ _ h) (k γ p l e s m args below meth c C H locs ls hw hl)
theorem g_lload_n {q : Fin 4} (i : Nat) (x : Int64) (d : decode M.2.1 pc = .ok (.lload_n q, 1)) (hi : (q : Nat) = i) (h : lo[i]? = some (some (.long x))) (k : G M rm R μ (pc + 1) lo (.long x :: st)) : G M rm R μ pc lo st :=
  fun γ p l e s m args below meth c C H locs ls hw hl => lv_lload_n C.1 C.2.1 d hi (hl.2.2.2 _ _ h) (k γ p l e s m args below meth c C H locs ls hw hl)
theorem g_lload {i : Nat} (x : Int64) (d : decode M.2.1 pc = .ok (.lload i, 2)) (h : lo[i]? = some (some (.long x))) (k : G M rm R μ (pc + 2) lo (.long x :: st)) : G M rm R μ pc lo st :=
  fun γ p l e s m args below meth c C H locs ls hw hl => lv_lload C.1 C.2.1 d (hl.2.2.2 _ _ h) (k γ p l e s m args below meth c C H locs ls hw hl)
theorem g_aload_n {q : Fin 4} (i : Nat) (x : Nat) (d : decode M.2.1 pc = .ok (.aload_n q, 1)) (hi : (q : Nat) = i) (h : lo[i]? = some (some (.ref x))) (k : G M rm R μ (pc + 1) lo (.ref x :: st)) : G M rm R μ pc lo st :=
  fun γ p l e s m args below meth c C H locs ls hw hl => lv_aload_n C.1 C.2.1 d hi (hl.2.2.2 _ _ h) (k γ p l e s m args below meth c C H locs ls hw hl)
theorem g_aload {i : Nat} (x : Nat) (d : decode M.2.1 pc = .ok (.aload i, 2)) (h : lo[i]? = some (some (.ref x))) (k : G M rm R μ (pc + 2) lo (.ref x :: st)) : G M rm R μ pc lo st :=
  fun γ p l e s m args below meth c C H locs ls hw hl => lv_aload C.1 C.2.1 d (hl.2.2.2 _ _ h) (k γ p l e s m args below meth c C H locs ls hw hl)
/-- a long stands just ahead of i -/
def okS (lo : List (Option Value)) : Nat → Bool
  | 0 => true
  | j + 1 => match lo[j]? with
    | some (some v) => !(v.category == 2)
    | _ => true
def alo (ad : Nat → Nat) (lo : List (Option Value)) : List (Nat × Value) := (List.range lo.length).filterMap (fun i => match lo[i]? with
  | some (some v) => some (i, rv ad v)
  | _ => none)
theorem alo_mem {ad : Nat → Nat} {lo : List (Option Value)} {i : Nat} {v : Value} (h : lo[i]? = some (some v)) : (i, rv ad v) ∈ alo ad lo := by
  have hl : i < lo.length := (List.getElem?_eq_some_iff.mp h).1
  refine List.mem_filterMap.mpr ⟨i, List.mem_range.mpr hl, ?_⟩
  rw [h]
theorem alo_of {ad : Nat → Nat} {lo : List (Option Value)} {q : Nat × Value} (h : q ∈ alo ad lo) : ∃ v, lo[q.1]? = some (some v) ∧ q.2 = rv ad v := by
  obtain ⟨i, hi, hq⟩ := List.mem_filterMap.mp h
  split at hq
  · rename_i v hv
    cases hq
    exact ⟨v, hv, rfl⟩
  · cases hq
theorem Lo.has {γ : Cc} {ls : Array Slot} {n : Nat} {lo : List (Option Value)} (h : Lo γ ls n lo) : lv_has ls n (alo γ.1 lo) := ⟨h.1, h.2.1, fun q hq => by
  obtain ⟨v, h1, h2⟩ := alo_of hq
  rw [h2]
  exact h.2.2.2 _ _ h1⟩
theorem Lo.set1 {γ : Cc} {ls ls' : Array Slot} {n i : Nat} {lo : List (Option Value)} {v : Value} (h : Lo γ ls n lo) (ho : okS lo i = true) (h' : lv_has ls' n ((i, rv γ.1 v) :: (alo γ.1 lo).filter (fun q => !(q.1 == i) && !(q.1 + 1 == i && q.2.category == 2)))) : Lo γ ls' n (lo.set i (some v)) := by
  refine ⟨h'.1, h'.2.1, by rw [List.length_set]; exact h.2.2.1, fun j w hj => ?_⟩
  rw [List.getElem?_set] at hj
  by_cases he : i = j
  · subst he
    simp only [if_true] at hj
    split at hj
    · cases hj
      exact h'.2.2 (i, rv γ.1 v) List.mem_cons_self
    · cases hj
  · rw [if_neg he] at hj
    refine h'.2.2 (j, rv γ.1 w) (List.mem_cons_of_mem _ (List.mem_filter.mpr ⟨alo_mem hj, ?_⟩))
    have e1 : (j == i) = false := by simp; exact fun q => he q.symm
    by_cases e2 : j + 1 = i
    · subst e2
      simp only [okS, hj] at ho
      simp [e1, rv_cat]
      simpa using ho
    · simp [e1, e2]
theorem Lo.set2 {γ : Cc} {ls ls' : Array Slot} {n i : Nat} {lo : List (Option Value)} {v : Value} (h : Lo γ ls n lo) (ho : okS lo i = true) (h' : lv_has ls' n ((i, rv γ.1 v) :: (alo γ.1 lo).filter (fun q => !(q.1 == i) && (!(q.1 == i + 1) && !(q.1 + 1 == i && q.2.category == 2))))) : Lo γ ls' n ((lo.set i (some v)).set (i + 1) none) := by
  refine ⟨h'.1, h'.2.1, by rw [List.length_set, List.length_set]; exact h.2.2.1, fun j w hj => ?_⟩
  rw [List.getElem?_set] at hj
  by_cases he : i + 1 = j
  · subst he
    simp only [if_true] at hj
    split at hj <;> cases hj
  · rw [if_neg he, List.getElem?_set] at hj
    by_cases he1 : i = j
    · subst he1
      simp only [if_true] at hj
      split at hj
      · cases hj
        exact h'.2.2 (i, rv γ.1 v) List.mem_cons_self
      · cases hj
    · rw [if_neg he1] at hj
      refine h'.2.2 (j, rv γ.1 w) (List.mem_cons_of_mem _ (List.mem_filter.mpr ⟨alo_mem hj, ?_⟩))
      have e1 : (j == i) = false := by simp; exact fun q => he1 q.symm
      have e3 : (j == i + 1) = false := by simp; exact fun q => he q.symm
      by_cases e2 : j + 1 = i
      · subst e2
        simp only [okS, hj] at ho
        simp [e1, e3, rv_cat]
        simpa using ho
      · simp [e1, e2, e3]
theorem g_istore_n {q : Fin 4} {i : Nat} {x : Int32} (lo' : List (Option Value)) (d : decode M.2.1 pc = .ok (.istore_n q, 1)) (hi : (q : Nat) = i) (hn : i < M.2.2.1) (ho : okS lo i = true) (h : lo.set i (some (.int x)) = lo') (k : G M rm R μ (pc + 1) lo' st) : G M rm R μ pc lo (.int x :: st) := by
  subst h
  exact fun γ p l e s m args below meth c C H locs ls hw hl => lv_istore_n C.1 C.2.1 d hi hl.has hn rfl (fun ls' hl' => k γ p l e s m args below meth c C H locs ls' hw (hl.set1 (v := .int x) ho hl'))
theorem g_istore {i : Nat} {x : Int32} (lo' : List (Option Value)) (d : decode M.2.1 pc = .ok (.istore i, 2)) (hn : i < M.2.2.1) (ho : okS lo i = true) (h : lo.set i (some (.int x)) = lo') (k : G M rm R μ (pc + 2) lo' st) : G M rm R μ pc lo (.int x :: st) := by
  subst h
  exact fun γ p l e s m args below meth c C H locs ls hw hl => lv_istore C.1 C.2.1 d hl.has hn rfl (fun ls' hl' => k γ p l e s m args below meth c C H locs ls' hw (hl.set1 (v := .int x) ho hl'))
theorem g_astore {i : Nat} {x : Nat} (lo' : List (Option Value)) (d : decode M.2.1 pc = .ok (.astore i, 2)) (hn : i < M.2.2.1) (ho : okS lo i = true) (h : lo.set i (some (.ref x)) = lo') (k : G M rm R μ (pc + 2) lo' st) : G M rm R μ pc lo (.ref x :: st) := by
  subst h
  exact fun γ p l e s m args below meth c C H locs ls hw hl => lv_astore C.1 C.2.1 d hl.has hn rfl (fun ls' hl' => k γ p l e s m args below meth c C H locs ls' hw (hl.set1 (v := .ref x) ho hl'))
theorem g_lstore_n {q : Fin 4} {i : Nat} {x : Int64} (lo' : List (Option Value)) (d : decode M.2.1 pc = .ok (.lstore_n q, 1)) (hi : (q : Nat) = i) (hn : i + 1 < M.2.2.1) (ho : okS lo i = true) (h : (lo.set i (some (.long x))).set (i + 1) none = lo') (k : G M rm R μ (pc + 1) lo' st) : G M rm R μ pc lo (.long x :: st) := by
  subst h
  exact fun γ p l e s m args below meth c C H locs ls hw hl => lv_lstore_n C.1 C.2.1 d hi hl.has hn rfl (fun ls' hl' => k γ p l e s m args below meth c C H locs ls' hw (hl.set2 (v := .long x) ho hl'))
theorem g_lstore {i : Nat} {x : Int64} (lo' : List (Option Value)) (d : decode M.2.1 pc = .ok (.lstore i, 2)) (hn : i + 1 < M.2.2.1) (ho : okS lo i = true) (h : (lo.set i (some (.long x))).set (i + 1) none = lo') (k : G M rm R μ (pc + 2) lo' st) : G M rm R μ pc lo (.long x :: st) := by
  subst h
  exact fun γ p l e s m args below meth c C H locs ls hw hl => lv_lstore C.1 C.2.1 d hl.has hn rfl (fun ls' hl' => k γ p l e s m args below meth c C H locs ls' hw (hl.set2 (v := .long x) ho hl'))
theorem g_iinc {i : Nat} {n : Int} {x v : Int32} (lo' : List (Option Value)) (d : decode M.2.1 pc = .ok (.iinc i n, 3)) (h0 : lo[i]? = some (some (.int x))) (hv : x + Int32.ofInt n = v) (hn : i < M.2.2.1) (ho : okS lo i = true) (h : lo.set i (some (.int v)) = lo') (k : G M rm R μ (pc + 3) lo' st) : G M rm R μ pc lo st := by
  subst h
  exact fun γ p l e s m args below meth c C H locs ls hw hl => by
    obtain ⟨q, hq⟩ := List.getElem?_of_mem (alo_mem (ad := γ.1) h0)
    exact lv_iinc C.1 C.2.1 d hl.has hq hv hn rfl (fun ls' hl' => k γ p l e s m args below meth c C H locs ls' hw (hl.set1 (v := .int v) ho hl'))
theorem g_iadd {x y : Int32} (d : decode M.2.1 pc = .ok (.iadd, 1)) (k : G M rm R μ (pc + 1) lo (.int (x + y) :: st)) : G M rm R μ pc lo (.int y :: .int x :: st) :=
  fun γ p l e s m args below meth c C H locs ls hw hl => lv_iadd C.1 C.2.1 d (k γ p l e s m args below meth c C H locs ls hw hl)
theorem g_isub {x y : Int32} (d : decode M.2.1 pc = .ok (.isub, 1)) (k : G M rm R μ (pc + 1) lo (.int (x - y) :: st)) : G M rm R μ pc lo (.int y :: .int x :: st) :=
  fun γ p l e s m args below meth c C H locs ls hw hl => lv_isub C.1 C.2.1 d (k γ p l e s m args below meth c C H locs ls hw hl)
theorem g_imul {x y : Int32} (d : decode M.2.1 pc = .ok (.imul, 1)) (k : G M rm R μ (pc + 1) lo (.int (x * y) :: st)) : G M rm R μ pc lo (.int y :: .int x :: st) :=
  fun γ p l e s m args below meth c C H locs ls hw hl => lv_imul C.1 C.2.1 d (k γ p l e s m args below meth c C H locs ls hw hl)
theorem g_iand {x y : Int32} (d : decode M.2.1 pc = .ok (.iand, 1)) (k : G M rm R μ (pc + 1) lo (.int (x &&& y) :: st)) : G M rm R μ pc lo (.int y :: .int x :: st) :=
  fun γ p l e s m args below meth c C H locs ls hw hl => lv_iand C.1 C.2.1 d (k γ p l e s m args below meth c C H locs ls hw hl)
theorem g_ior {x y : Int32} (d : decode M.2.1 pc = .ok (.ior, 1)) (k : G M rm R μ (pc + 1) lo (.int (x ||| y) :: st)) : G M rm R μ pc lo (.int y :: .int x :: st) :=
  fun γ p l e s m args below meth c C H locs ls hw hl => lv_ior C.1 C.2.1 d (k γ p l e s m args below meth c C H locs ls hw hl)
theorem g_ixor {x y : Int32} (d : decode M.2.1 pc = .ok (.ixor, 1)) (k : G M rm R μ (pc + 1) lo (.int (x ^^^ y) :: st)) : G M rm R μ pc lo (.int y :: .int x :: st) :=
  fun γ p l e s m args below meth c C H locs ls hw hl => lv_ixor C.1 C.2.1 d (k γ p l e s m args below meth c C H locs ls hw hl)
theorem g_ladd {x y : Int64} (d : decode M.2.1 pc = .ok (.ladd, 1)) (k : G M rm R μ (pc + 1) lo (.long (x + y) :: st)) : G M rm R μ pc lo (.long y :: .long x :: st) :=
  fun γ p l e s m args below meth c C H locs ls hw hl => lv_ladd C.1 C.2.1 d (k γ p l e s m args below meth c C H locs ls hw hl)
theorem g_lsub {x y : Int64} (d : decode M.2.1 pc = .ok (.lsub, 1)) (k : G M rm R μ (pc + 1) lo (.long (x - y) :: st)) : G M rm R μ pc lo (.long y :: .long x :: st) :=
  fun γ p l e s m args below meth c C H locs ls hw hl => lv_lsub C.1 C.2.1 d (k γ p l e s m args below meth c C H locs ls hw hl)
theorem g_lmul {x y : Int64} (d : decode M.2.1 pc = .ok (.lmul, 1)) (k : G M rm R μ (pc + 1) lo (.long (x * y) :: st)) : G M rm R μ pc lo (.long y :: .long x :: st) :=
  fun γ p l e s m args below meth c C H locs ls hw hl => lv_lmul C.1 C.2.1 d (k γ p l e s m args below meth c C H locs ls hw hl)
theorem g_irem {x y : Int32} (d : decode M.2.1 pc = .ok (.irem, 1)) (hne : ¬ y = 0) (k : G M rm R μ (pc + 1) lo (.int (x - x / y * y) :: st)) : G M rm R μ pc lo (.int y :: .int x :: st) :=
  fun γ p l e s m args below meth c C H locs ls hw hl => lv_irem C.1 C.2.1 d hne (k γ p l e s m args below meth c C H locs ls hw hl)
theorem g_ldiv {x y : Int64} (d : decode M.2.1 pc = .ok (.ldiv, 1)) (hne : ¬ y = 0) (k : G M rm R μ (pc + 1) lo (.long (x / y) :: st)) : G M rm R μ pc lo (.long y :: .long x :: st) :=
  fun γ p l e s m args below meth c C H locs ls hw hl => lv_ldiv C.1 C.2.1 d hne (k γ p l e s m args below meth c C H locs ls hw hl)
theorem g_lrem {x y : Int64} (d : decode M.2.1 pc = .ok (.lrem, 1)) (hne : ¬ y = 0) (k : G M rm R μ (pc + 1) lo (.long (x - x / y * y) :: st)) : G M rm R μ pc lo (.long y :: .long x :: st) :=
  fun γ p l e s m args below meth c C H locs ls hw hl => lv_lrem C.1 C.2.1 d hne (k γ p l e s m args below meth c C H locs ls hw hl)
theorem g_ineg {x : Int32} (d : decode M.2.1 pc = .ok (.ineg, 1)) (k : G M rm R μ (pc + 1) lo (.int (-x) :: st)) : G M rm R μ pc lo (.int x :: st) :=
  fun γ p l e s m args below meth c C H locs ls hw hl => lv_ineg C.1 C.2.1 d (k γ p l e s m args below meth c C H locs ls hw hl)
theorem g_lneg {x : Int64} (d : decode M.2.1 pc = .ok (.lneg, 1)) (k : G M rm R μ (pc + 1) lo (.long (-x) :: st)) : G M rm R μ pc lo (.long x :: st) :=
  fun γ p l e s m args below meth c C H locs ls hw hl => lv_lneg C.1 C.2.1 d (k γ p l e s m args below meth c C H locs ls hw hl)
theorem g_ishl {x y : Int32} (d : decode M.2.1 pc = .ok (.ishl, 1)) (k : G M rm R μ (pc + 1) lo (.int (x <<< (y &&& 31)) :: st)) : G M rm R μ pc lo (.int y :: .int x :: st) :=
  fun γ p l e s m args below meth c C H locs ls hw hl => lv_ishl C.1 C.2.1 d (k γ p l e s m args below meth c C H locs ls hw hl)
theorem g_ishr {x y : Int32} (d : decode M.2.1 pc = .ok (.ishr, 1)) (k : G M rm R μ (pc + 1) lo (.int (x >>> (y &&& 31)) :: st)) : G M rm R μ pc lo (.int y :: .int x :: st) :=
  fun γ p l e s m args below meth c C H locs ls hw hl => lv_ishr C.1 C.2.1 d (k γ p l e s m args below meth c C H locs ls hw hl)
theorem g_iushr {x y : Int32} (d : decode M.2.1 pc = .ok (.iushr, 1)) (k : G M rm R μ (pc + 1) lo (.int ((x.toUInt32 >>> (y.toUInt32 &&& Int32.toUInt32 31)).toInt32) :: st)) : G M rm R μ pc lo (.int y :: .int x :: st) :=
  fun γ p l e s m args below meth c C H locs ls hw hl => lv_iushr C.1 C.2.1 d rfl (k γ p l e s m args below meth c C H locs ls hw hl)
theorem g_i2l {x : Int32} (d : decode M.2.1 pc = .ok (.i2l, 1)) (k : G M rm R μ (pc + 1) lo (.long x.toInt64 :: st)) : G M rm R μ pc lo (.int x :: st) :=
  fun γ p l e s m args below meth c C H locs ls hw hl => lv_i2l C.1 C.2.1 d rfl (k γ p l e s m args below meth c C H locs ls hw hl)
theorem g_l2i {x : Int64} (d : decode M.2.1 pc = .ok (.l2i, 1)) (k : G M rm R μ (pc + 1) lo (.int x.toInt32 :: st)) : G M rm R μ pc lo (.long x :: st) :=
  fun γ p l e s m args below meth c C H locs ls hw hl => lv_l2i C.1 C.2.1 d rfl (k γ p l e s m args below meth c C H locs ls hw hl)
theorem g_i2b {x : Int32} (d : decode M.2.1 pc = .ok (.i2b, 1)) (k : G M rm R μ (pc + 1) lo (.int x.toInt8.toInt32 :: st)) : G M rm R μ pc lo (.int x :: st) :=
  fun γ p l e s m args below meth c C H locs ls hw hl => lv_i2b C.1 C.2.1 d rfl (k γ p l e s m args below meth c C H locs ls hw hl)
theorem g_i2s {x : Int32} (d : decode M.2.1 pc = .ok (.i2s, 1)) (k : G M rm R μ (pc + 1) lo (.int x.toInt16.toInt32 :: st)) : G M rm R μ pc lo (.int x :: st) :=
  fun γ p l e s m args below meth c C H locs ls hw hl => lv_i2s C.1 C.2.1 d rfl (k γ p l e s m args below meth c C H locs ls hw hl)
theorem g_lcmp {x y : Int64} (d : decode M.2.1 pc = .ok (.lcmp, 1)) (k : G M rm R μ (pc + 1) lo (.int (lg_cmp x y) :: st)) : G M rm R μ pc lo (.long y :: .long x :: st) :=
  fun γ p l e s m args below meth c C H locs ls hw hl => W.lcmp C.1 C.2.1 d (k γ p l e s m args below meth c C H locs ls hw hl)
theorem g_if_eq {x : Int32} {off : Int} (tgt : Nat) (d : decode M.2.1 pc = .ok (.ifCond .eq off, 3)) (ht : (pc : Int) + off = (tgt : Int)) (kt : x = 0 → G M rm R μ tgt lo st) (kf : ¬ (x = 0) → G M rm R μ (pc + 3) lo st) : G M rm R μ pc lo (.int x :: st) :=
  fun γ p l e s m args below meth c C H locs ls hw hl => lv_if_eq C.1 C.2.1 d ht (fun h => kt h γ p l e s m args below meth c C H locs ls hw hl) (fun h => kf h γ p l e s m args below meth c C H locs ls hw hl)
theorem g_if_ne {x : Int32} {off : Int} (tgt : Nat) (d : decode M.2.1 pc = .ok (.ifCond .ne off, 3)) (ht : (pc : Int) + off = (tgt : Int)) (kt : x ≠ 0 → G M rm R μ tgt lo st) (kf : x = 0 → G M rm R μ (pc + 3) lo st) : G M rm R μ pc lo (.int x :: st) :=
  fun γ p l e s m args below meth c C H locs ls hw hl => lv_if_ne C.1 C.2.1 d ht (fun h => kt h γ p l e s m args below meth c C H locs ls hw hl) (fun h => kf h γ p l e s m args below meth c C H locs ls hw hl)
theorem g_if_lt {x : Int32} {off : Int} (tgt : Nat) (d : decode M.2.1 pc = .ok (.ifCond .lt off, 3)) (ht : (pc : Int) + off = (tgt : Int)) (kt : x < 0 → G M rm R μ tgt lo st) (kf : ¬ (x < 0) → G M rm R μ (pc + 3) lo st) : G M rm R μ pc lo (.int x :: st) :=
  fun γ p l e s m args below meth c C H locs ls hw hl => lv_if_lt C.1 C.2.1 d ht (fun h => kt h γ p l e s m args below meth c C H locs ls hw hl) (fun h => kf h γ p l e s m args below meth c C H locs ls hw hl)
theorem g_if_ge {x : Int32} {off : Int} (tgt : Nat) (d : decode M.2.1 pc = .ok (.ifCond .ge off, 3)) (ht : (pc : Int) + off = (tgt : Int)) (kt : 0 ≤ x → G M rm R μ tgt lo st) (kf : ¬ (0 ≤ x) → G M rm R μ (pc + 3) lo st) : G M rm R μ pc lo (.int x :: st) :=
  fun γ p l e s m args below meth c C H locs ls hw hl => lv_if_ge C.1 C.2.1 d ht (fun h => kt h γ p l e s m args below meth c C H locs ls hw hl) (fun h => kf h γ p l e s m args below meth c C H locs ls hw hl)
theorem g_if_gt {x : Int32} {off : Int} (tgt : Nat) (d : decode M.2.1 pc = .ok (.ifCond .gt off, 3)) (ht : (pc : Int) + off = (tgt : Int)) (kt : 0 < x → G M rm R μ tgt lo st) (kf : ¬ (0 < x) → G M rm R μ (pc + 3) lo st) : G M rm R μ pc lo (.int x :: st) :=
  fun γ p l e s m args below meth c C H locs ls hw hl => lv_if_gt C.1 C.2.1 d ht (fun h => kt h γ p l e s m args below meth c C H locs ls hw hl) (fun h => kf h γ p l e s m args below meth c C H locs ls hw hl)
theorem g_if_le {x : Int32} {off : Int} (tgt : Nat) (d : decode M.2.1 pc = .ok (.ifCond .le off, 3)) (ht : (pc : Int) + off = (tgt : Int)) (kt : x ≤ 0 → G M rm R μ tgt lo st) (kf : ¬ (x ≤ 0) → G M rm R μ (pc + 3) lo st) : G M rm R μ pc lo (.int x :: st) :=
  fun γ p l e s m args below meth c C H locs ls hw hl => lv_if_le C.1 C.2.1 d ht (fun h => kt h γ p l e s m args below meth c C H locs ls hw hl) (fun h => kf h γ p l e s m args below meth c C H locs ls hw hl)
theorem g_icmp_eq {x y : Int32} {off : Int} (tgt : Nat) (d : decode M.2.1 pc = .ok (.if_icmp .eq off, 3)) (ht : (pc : Int) + off = (tgt : Int)) (kt : x = y → G M rm R μ tgt lo st) (kf : ¬ (x = y) → G M rm R μ (pc + 3) lo st) : G M rm R μ pc lo (.int y :: .int x :: st) :=
  fun γ p l e s m args below meth c C H locs ls hw hl => lv_icmp_eq C.1 C.2.1 d ht (fun h => kt h γ p l e s m args below meth c C H locs ls hw hl) (fun h => kf h γ p l e s m args below meth c C H locs ls hw hl)
theorem g_icmp_ne {x y : Int32} {off : Int} (tgt : Nat) (d : decode M.2.1 pc = .ok (.if_icmp .ne off, 3)) (ht : (pc : Int) + off = (tgt : Int)) (kt : x ≠ y → G M rm R μ tgt lo st) (kf : x = y → G M rm R μ (pc + 3) lo st) : G M rm R μ pc lo (.int y :: .int x :: st) :=
  fun γ p l e s m args below meth c C H locs ls hw hl => lv_icmp_ne C.1 C.2.1 d ht (fun h => kt h γ p l e s m args below meth c C H locs ls hw hl) (fun h => kf h γ p l e s m args below meth c C H locs ls hw hl)
theorem g_icmp_lt {x y : Int32} {off : Int} (tgt : Nat) (d : decode M.2.1 pc = .ok (.if_icmp .lt off, 3)) (ht : (pc : Int) + off = (tgt : Int)) (kt : x < y → G M rm R μ tgt lo st) (kf : ¬ (x < y) → G M rm R μ (pc + 3) lo st) : G M rm R μ pc lo (.int y :: .int x :: st) :=
  fun γ p l e s m args below meth c C H locs ls hw hl => lv_icmp_lt C.1 C.2.1 d ht (fun h => kt h γ p l e s m args below meth c C H locs ls hw hl) (fun h => kf h γ p l e s m args below meth c C H locs ls hw hl)
theorem g_icmp_ge {x y : Int32} {off : Int} (tgt : Nat) (d : decode M.2.1 pc = .ok (.if_icmp .ge off, 3)) (ht : (pc : Int) + off = (tgt : Int)) (kt : y ≤ x → G M rm R μ tgt lo st) (kf : ¬ (y ≤ x) → G M rm R μ (pc + 3) lo st) : G M rm R μ pc lo (.int y :: .int x :: st) :=
  fun γ p l e s m args below meth c C H locs ls hw hl => lv_icmp_ge C.1 C.2.1 d ht (fun h => kt h γ p l e s m args below meth c C H locs ls hw hl) (fun h => kf h γ p l e s m args below meth c C H locs ls hw hl)
theorem g_icmp_gt {x y : Int32} {off : Int} (tgt : Nat) (d : decode M.2.1 pc = .ok (.if_icmp .gt off, 3)) (ht : (pc : Int) + off = (tgt : Int)) (kt : y < x → G M rm R μ tgt lo st) (kf : ¬ (y < x) → G M rm R μ (pc + 3) lo st) : G M rm R μ pc lo (.int y :: .int x :: st) :=
  fun γ p l e s m args below meth c C H locs ls hw hl => lv_icmp_gt C.1 C.2.1 d ht (fun h => kt h γ p l e s m args below meth c C H locs ls hw hl) (fun h => kf h γ p l e s m args below meth c C H locs ls hw hl)
theorem g_icmp_le {x y : Int32} {off : Int} (tgt : Nat) (d : decode M.2.1 pc = .ok (.if_icmp .le off, 3)) (ht : (pc : Int) + off = (tgt : Int)) (kt : x ≤ y → G M rm R μ tgt lo st) (kf : ¬ (x ≤ y) → G M rm R μ (pc + 3) lo st) : G M rm R μ pc lo (.int y :: .int x :: st) :=
  fun γ p l e s m args below meth c C H locs ls hw hl => lv_icmp_le C.1 C.2.1 d ht (fun h => kt h γ p l e s m args below meth c C H locs ls hw hl) (fun h => kf h γ p l e s m args below meth c C H locs ls hw hl)
theorem g_goto {off : Int} (tgt : Nat) (d : decode M.2.1 pc = .ok (.goto off, 3)) (ht : (pc : Int) + off = (tgt : Int)) (k : G M rm R μ tgt lo st) : G M rm R μ pc lo st :=
  fun γ p l e s m args below meth c C H locs ls hw hl => lv_goto C.1 C.2.1 d ht (k γ p l e s m args below meth c C H locs ls hw hl)
theorem g_dup {v : Value} (d : decode M.2.1 pc = .ok (.dup, 1)) (hv : v.category = 1) (k : G M rm R μ (pc + 1) lo (v :: v :: st)) : G M rm R μ pc lo (v :: st) :=
  fun γ p l e s m args below meth c C H locs ls hw hl => lv_dup C.1 C.2.1 d (by rw [rv_cat]; exact hv) (k γ p l e s m args below meth c C H locs ls hw hl)
theorem g_dup2 {v w : Value} (d : decode M.2.1 pc = .ok (.dup2, 1)) (hv : v.category = 1) (hw : w.category = 1) (k : G M rm R μ (pc + 1) lo (v :: w :: v :: w :: st)) : G M rm R μ pc lo (v :: w :: st) :=
  fun γ p l e s m args below meth c C H locs ls hw1 hl => lv_dup2_11 C.1 C.2.1 d (by rw [rv_cat]; exact hv) (by rw [rv_cat]; exact hw) (k γ p l e s m args below meth c C H locs ls hw1 hl)
theorem g_pop {v : Value} (d : decode M.2.1 pc = .ok (.pop, 1)) (hv : v.category = 1) (k : G M rm R μ (pc + 1) lo st) : G M rm R μ pc lo (v :: st) :=
  fun γ p l e s m args below meth c C H locs ls hw hl => lv_pop C.1 C.2.1 d (by rw [rv_cat]; exact hv) (k γ p l e s m args below meth c C H locs ls hw hl)
end
