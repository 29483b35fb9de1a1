/-! at: where it answers -/
theorem c_at_ok (μ : Mm) {w j n : Nat} (hn : μ.1 1 2 = nI n) (h60 : n ≤ 60) (hw : w < 3) (hj : j < n) (hv : μ.1 (7 + w) j ≠ nI 1073741824) : Ok mX5_at (rmL 1) [.ref 0, .int (nI w), .int (nI j)] μ (some (.int (μ.1 (7 + w) j)), μ) := by
  refine Ok.of (by decide) (Nat.le_of_ble_eq_true rfl) [some (.ref 0), some (.int (nI w)), some (.int (nI j)), none] rfl ?_
  refine g_iload_n 1 _ dX5_at_0 rfl rfl ?_
  refine g_backi (g_runSN ((c_isRow μ (nI w)).to (by rw [bI_t ⟨nI_pos (by omega), nI_le (by omega) (by omega)⟩])) rfl mw_X1_isRow ms_X1_isRow mn_X5_93 ⟨rfl, rfl, Nat.le_of_ble_eq_true rfl, Nat.le_of_ble_eq_true rfl⟩ rfl rfl (Nat.le_of_ble_eq_true rfl) dX5_at_1) ?_
  refine g_top (w := .int 1) rfl ?_
  refine g_if_eq 18 dX5_at_4 (by decide) (fun h4 => ?_) (fun h4 => ?_)
  · exact absurd h4 (by decide)
  · refine g_aload_n 0 _ dX5_at_7 rfl rfl ?_
    refine gf_X5_10 rfl dX5_at_8 ?_
    refine g_iload_n 2 _ dX5_at_11 rfl rfl ?_
    refine g_backi (g_runVN ((c_has μ (nI j) hn).to (by rw [bI_t ⟨nI_pos (by omega), nI_lt hj (by omega)⟩])) rfl mw_X1_has mi_X1_has mn_X5_96 isO_1 ⟨rfl, rfl, Nat.le_of_ble_eq_true rfl, Nat.le_of_ble_eq_true rfl⟩ rfl rfl (Nat.le_of_ble_eq_true rfl) dX5_at_12) ?_
    refine g_top (w := .int 1) rfl ?_
    refine g_if_ne 28 dX5_at_15 (by decide) (fun h15 => ?_) (fun h15 => ?_)
    · refine g_aload_n 0 _ dX5_at_28 rfl rfl ?_
      refine gf_X5_10 rfl dX5_at_29 ?_
      refine g_iload_n 1 _ dX5_at_32 rfl rfl ?_
      refine g_iload_n 2 _ dX5_at_33 rfl rfl ?_
      refine g_backi (g_runVN (c_get _ hw (show j < 60 by omega)) rfl mw_X1_get mi_X1_get mn_X5_111 isO_1 ⟨rfl, rfl, Nat.le_of_ble_eq_true rfl, Nat.le_of_ble_eq_true rfl⟩ rfl rfl (Nat.le_of_ble_eq_true rfl) dX5_at_34) ?_
      refine g_top (w := .int (μ.1 (7 + w) j)) rfl ?_
      refine g_istore_n [some (.ref 0), some (.int (nI w)), some (.int (nI j)), some (.int (μ.1 (7 + w) j))] dX5_at_37 rfl (Nat.le_of_ble_eq_true rfl) rfl rfl ?_
      refine g_iload_n 3 _ dX5_at_38 rfl rfl ?_
      refine g_at 39 rfl ?_
      refine g_ldc _ rfl kc_X5_103 dX5_at_39 ?_
      refine g_top (w := .int (nI 1073741824)) rfl ?_
      refine g_icmp_ne 54 dX5_at_41 (by decide) (fun h41 => ?_) (fun h41 => ?_)
      · refine g_iload_n 3 _ dX5_at_54 rfl rfl ?_
        exact g_ireturn dX5_at_55 rfl rfl rfl
      · exact absurd h41 hv
    · exact absurd h15 (by decide)
/-! .. and where it throws -/
abbrev NSE : String := "java/util/NoSuchElementException"
abbrev nse2 : List String := ["java/lang/Exception"]
abbrev nseC : ByteArray := prog_17_method_4_code
abbrev nseA : List Cond := kAtS RX5 108 NSE "java/lang/RuntimeException" 13 nseC nse2
abbrev dcl : List MethodName := [Bundle.initS "java/lang/RuntimeException", Bundle.initS "java/lang/Exception", Bundle.initS Bundle.tN]
/-- what a throw of at needs: Throwable's two statics, the two texts, and that the class is its own; A: what may have changed -/
def Za (A : Nat → Prop) (U : State) : Prop := vx_Zq Bundle.tN "UNASSIGNED_STACK" Bundle.steD A U U.heap ∧ vx_Zq Bundle.tN "SUPPRESSED_SENTINEL" Bundle.listD A U U.heap ∧ (∃ sa, vk_R RX5 106 "no such place" sa U) ∧ (∃ sa, vk_R RX5 114 "the reading is missing" sa U) ∧ (Cond.castable NSE NSE).before #[] U = true ∧ ∀ x ∈ dcl, va_Nw (.declares x) U
abbrev Zt (γ : Cc) (sz : Nat) (U : State) : Prop := Za (Adr γ.1 sz) U
theorem cast_warm {a b : String} {A A' : Array Value} {s U : State} (hW : s.WarmedH U.vm) (h : (Cond.castable a b).before A s = true) : (Cond.castable a b).before A' U = true := by
  obtain ⟨c, t, h1, h2, h3⟩ := Cond.castable_spec h
  have e1 : U.vm.findClass a = some c := by rw [hW.alike.findClass]; exact h1
  have e2 : U.vm.findClass b = some t := by rw [hW.alike.findClass]; exact h2
  have e3 : U.vm.assignable c t = true := by rw [hW.alike.assignable]; exact h3
  simp [Cond.before, Cond.holds, Cond.value, e1, e2, e3]
theorem Za.at {A B : Nat → Prop} {s U : State} (h : Za A s) (hW : s.WarmedH U.vm) (hq : ∀ a : Nat, a < s.heap.size → ¬ A a → U.heap[a]? = s.heap[a]?) (hAB : ∀ q, B q → A q) : Za B U := by
  obtain ⟨h1, h2, ⟨x, h3⟩, ⟨y, h4⟩, h5, h6⟩ := h
  exact ⟨((h1.moved hW.alike).kept hq).narrow hAB, ((h2.moved hW.alike).kept hq).narrow hAB, ⟨x, h3.warm hW⟩, ⟨y, h4.warm hW⟩, cast_warm hW h5, fun w hw => va_Nw.warmD hW (h6 w hw)⟩
abbrev XCt (γ : Cc) (μ : Mm) (sz : Nat) : String → State → State → Prop := vx_X (fun _ : Unit => True) (fun E _ t => E = NSE ∧ Wp γ μ t.heap) (Adr γ.1 sz)
abbrev Nev (A : Nat → Prop) : Array Value → State → Outcome → State → Prop := va_Qi (fun (_ : Int32) (_ : Unit) => False) (fun _ _ => True) A
def GX (M : Mb) (rm : Room) (μ : Mm) (pc : Nat) (lo : List (Option Value)) (st : List Value) : Prop :=
  ∀ (γ : Cc) (p : Program) (l : Launch) (e : Env) (s : State) (m : MethodId) (args : Array Value) (below : List Frame) (meth : Method) (c : Code), l.stackTraces = false ∧ Cx γ M p s m args meth c ∧ (∀ x ∈ c.exceptionTable.toList, False) ∧ Zt γ s.heap.size s → ∀ (H : Heap) (locs : List Loc) (ls : Array Slot), Hw γ s H locs μ → Lo γ ls M.2.2.1 lo →
    W p l e rm s m args below meth c H locs 0 0 (vx_MQ below (Nev (Adr γ.1 s.heap.size)) (XCt γ μ s.heap.size) args s 1 6 (Adr γ.1 s.heap.size)) (F0 m pc ls (st.map (rv γ.1)))
section
variable {M : Mb} {rm : Room} {μ : Mm} {pc : Nat} {lo : List (Option Value)} {st : List Value}
theorem x_iload_n {q : Fin 4} (i : Nat) (x : Int32) (d : decode M.2.1 pc = .ok (.iload_n q, 1)) (hi : (q : Nat) = i) (h : lo[i]? = some (some (.int x))) (k : GX M rm μ (pc + 1) lo (.int x :: st)) : GX M rm μ pc lo st :=
  fun γ p l e s m args below meth c C H locs ls hw hl => lv_iload_n C.2.1.1 C.2.1.2.1 d hi (hl.2.2.2 _ _ h) (k γ p l e s m args below meth c C H locs ls hw hl)
theorem x_aload_n {q : Fin 4} (i : Nat) (x : Nat) (d : decode M.2.1 pc = .ok (.aload_n q, 1)) (hi : (q : Nat) = i) (h : lo[i]? = some (some (.ref x))) (k : GX M rm μ (pc + 1) lo (.ref x :: st)) : GX M rm μ pc lo st :=
  fun γ p l e s m args below meth c C H locs ls hw hl => lv_aload_n C.2.1.1 C.2.1.2.1 d hi (hl.2.2.2 _ _ h) (k γ p l e s m args below meth c C H locs ls hw hl)
theorem x_ldc {index : Nat} {own : String} (v : Int32) (ho : M.1.cls = own) (hw : Cond.constant own index v ∈ tw) (d : decode M.2.1 pc = .ok (.ldc index, 2)) (k : GX M rm μ (pc + 2) lo (.int v :: st)) : GX M rm μ pc lo st := by
  subst ho
  exact fun γ p l e s m args below meth c C H locs ls hw1 hl => lv_ldc C.2.1.1 C.2.1.2.1 C.2.1.2.2.2.2.1 (C.2.1.2.2.2.2.2.1 _ hw) d (k γ p l e s m args below meth c C H locs ls hw1 hl)
theorem x_istore_n {q : Fin 4} {i : Nat} {x : Int32} (lo' : List (Option Value)) (d : decode M.2.1 pc = .ok (.istore_n q, 1)) (hi : (q : Nat) = i) (hn : i < M.2.2.1) (ho : okS lo i = true) (h : lo.set i (some (.int x)) = lo') (k : GX M rm μ (pc + 1) lo' st) : GX M rm μ pc lo (.int x :: st) := by
  subst h
  exact fun γ p l e s m args below meth c C H locs ls hw hl => lv_istore_n C.2.1.1 C.2.1.2.1 d hi hl.has hn rfl (fun ls' hl' => k γ p l e s m args below meth c C H locs ls' hw (hl.set1 (v := .int x) ho hl'))
theorem x_if_eq {x : Int32} {off : Int} (tgt : Nat) (d : decode M.2.1 pc = .ok (.ifCond .eq off, 3)) (ht : (pc : Int) + off = (tgt : Int)) (kt : x = 0 → GX M rm μ tgt lo st) (kf : ¬ (x = 0) → GX M rm μ (pc + 3) lo st) : GX M rm μ pc lo (.int x :: st) :=
  fun γ p l e s m args below meth c C H locs ls hw hl => lv_if_eq C.2.1.1 C.2.1.2.1 d ht (fun h => kt h γ p l e s m args below meth c C H locs ls hw hl) (fun h => kf h γ p l e s m args below meth c C H locs ls hw hl)
theorem x_if_ne {x : Int32} {off : Int} (tgt : Nat) (d : decode M.2.1 pc = .ok (.ifCond .ne off, 3)) (ht : (pc : Int) + off = (tgt : Int)) (kt : x ≠ 0 → GX M rm μ tgt lo st) (kf : x = 0 → GX M rm μ (pc + 3) lo st) : GX M rm μ pc lo (.int x :: st) :=
  fun γ p l e s m args below meth c C H locs ls hw hl => lv_if_ne C.2.1.1 C.2.1.2.1 d ht (fun h => kt h γ p l e s m args below meth c C H locs ls hw hl) (fun h => kf h γ p l e s m args below meth c C H locs ls hw hl)
theorem x_icmp_ne {x y : Int32} {off : Int} (tgt : Nat) (d : decode M.2.1 pc = .ok (.if_icmp .ne off, 3)) (ht : (pc : Int) + off = (tgt : Int)) (kt : x ≠ y → GX M rm μ tgt lo st) (kf : x = y → GX M rm μ (pc + 3) lo st) : GX M rm μ pc lo (.int y :: .int x :: st) :=
  fun γ p l e s m args below meth c C H locs ls hw hl => lv_icmp_ne C.2.1.1 C.2.1.2.1 d ht (fun h => kt h γ p l e s m args below meth c C H locs ls hw hl) (fun h => kf h γ p l e s m args below meth c C H locs ls hw hl)
theorem x_circle (ho : M.1.cls = RX5) (d : decode M.2.1 pc = .ok (.getfield 10, 3)) (kk : GX M rm μ (pc + 3) lo (.ref 1 :: st)) : GX M rm μ pc lo (.ref 0 :: st) := by
  intro γ p l e s m args below meth c C H locs ls hw hl
  have h1 := C.2.1.2.2.2.2.1
  rw [ho] at h1
  exact va_get (D := γ.2.1) (ci := 5) (C := RX5) (T := TX5) (N := 6) (v := .ref (γ.1 1)) C.2.1.1 C.2.1.2.1 C.2.1.2.2.2.2.2.1 in_X5 h1 C.2.1.2.2.2.2.2.2.2.1.1 hw.1 0 (by rw [wd_get isF_0.1, isF_0.2]) rfl 0 (by decide) (C.2.1.2.2.2.2.2.1 _ fl_X5_10) (fun _ h => h) rfl d (kk γ p l e s m args below meth c C H locs ls hw hl)
theorem x_backi {x : Int32} {stk : List Value} (hr : Rn M rm μ pc lo stk st (some (.int x), μ)) (k : GX M rm μ (pc + 3) lo (.int x :: st)) : GX M rm μ pc lo stk := by
  intro γ p l e s m args below meth c C H locs ls hw hl
  obtain ⟨a, h⟩ := hr γ p l e s m args below meth c C.2.1 H locs ls hw hl
  refine va_calli (a := a) h hw.2 (fun q _ h => Adr_le hw.2.1 q h) (Adr_le hw.2.1) (fun r u t H1 locs1 ht hvm hp hB hz1 hk1 hS => ?_)
  subst hp
  subst ht
  exact k γ p l e s m args below meth c C t.heap locs1 ls ⟨hB, hS⟩ hl
theorem cast_args {a b : String} {A A' : Array Value} {s : State} (h : (Cond.castable a b).before A s = true) : (Cond.castable a b).before A' s = true := h
theorem nse_words : ∀ w ∈ (nseA).filter goodWord, w ∈ lw_tbl := by decide +kernel
theorem nse_rest : ∀ w ∈ (nseA).filter (fun w => !goodWord w), w ∈ dcl.map Cond.declares := by decide +kernel
theorem nse_ot : ∀ w ∈ Cond.classLink RX5 104 NSE :: Cond.initialized NSE :: nseA, vx_ot w = true := by decide +kernel
theorem tk_X5_104 : Cond.classLink RX5 104 NSE ∈ tw := tw_i 625 (by decide +kernel) (by decide +kernel)
theorem x_throw {is : Nat} {text : String} (hst : (is = 106 ∧ text = "no such place") ∨ (is = 114 ∧ text = "the reading is missing")) (ho : M.1.cls = RX5) (hf : 5 < rm.frames) (hlo : 82 ≤ rm.locals) (hc : rm.cells = 1) (hs : rm.slots = 6) (d0 : decode M.2.1 pc = .ok (.new 104, 3)) (d3 : decode M.2.1 (pc + 3) = .ok (.dup, 1)) (d4 : decode M.2.1 (pc + 4) = .ok (.ldc is, 2)) (d6 : decode M.2.1 (pc + 6) = .ok (.invokespecial 108, 3)) (d9 : decode M.2.1 (pc + 9) = .ok (.athrow, 1)) : GX M rm μ pc lo [] := by
  intro γ p l e s m args below meth c C H locs ls hw hl
  obtain ⟨hlt, C, hT, hZ⟩ := C
  have h1 := C.2.2.2.2.1
  rw [ho] at h1
  have hstr : ∃ sa, vk_R RX5 is text sa s := by
    rcases hst with ⟨rfl, rfl⟩ | ⟨rfl, rfl⟩
    · exact hZ.2.2.1
    · exact hZ.2.2.2.1
  obtain ⟨sa, hstr⟩ := hstr
  have hat : ∀ w ∈ nseA, w.before args s = true := by
    intro w hw9
    by_cases g : goodWord w = true
    · exact C.2.2.2.2.2.1 w (List.mem_filter.mpr ⟨nse_words w (List.mem_filter.mpr ⟨hw9, g⟩), g⟩)
    · obtain ⟨x, hx, rfl⟩ := List.mem_map.mp (nse_rest w (List.mem_filter.mpr ⟨hw9, by rw [Bool.eq_false_iff.mpr g]; rfl⟩))
      exact va_Nw.use rfl (hZ.2.2.2.2.2 x hx)
  refine k_throwS (A := Adr γ.1 s.heap.size) (Y9 := "java/lang/RuntimeException") (r := nse2) (ix := 13) (rx := nseC) (sa := sa) C.1 C.2.1 hlt (by decide +kernel) (by decide +kernel) (by decide +kernel) (by decide +kernel) h1 (by decide +kernel) (by decide +kernel) (by decide +kernel) (C.2.2.2.2.2.1 _ tk_X5_104) (C.2.2.2.2.2.1 _ ti_java_util_NoSuchElementException) hstr hat nse_ot hZ.1 hZ.2.1 hw.2 (hl.1.trans C.2.2.2.1.symm) d0 d3 d4 d6 d9 (fun x hx => absurd (hT x hx) (fun h => h)) hf (by show 0 + (13 * (1 + 2) + 43) ≤ rm.locals; omega) (by omega) (by omega) C.2.2.2.2.2.2.1 (fun t hvm hz hq => ⟨(), trivial, ⟨rfl, ?_⟩, ?_⟩) hw.2.2.2 (by omega) (by omega)
  · exact hw.1.kept (fun k x hx => hq x.1 ((hw.1 k x hx).lt))
  · exact ⟨Nat.le_trans hw.2.1 hz, fun q h2 h3 => (hq q (Nat.lt_of_lt_of_le h2 hw.2.1)).trans (hw.2.2.1 q h2 h3)⟩
end
abbrev rmT : Room := { frames := 6, cells := 1, slots := 6, locals := 128 }
abbrev PreT (γ : Cc) (sz : Nat) (μ : Mm) : State → Prop := fun U => PreW γ sz μ U ∧ Zt γ sz U
/-- the contract of a throw: nothing but the new exception -/
def Xt (M : Mb) (as : List Value) (μ : Mm) : Prop := ∀ (γ : Cc) (l : Launch) (sz : Nat), l.stackTraces = false → vx_Met l M.1 (wsM M) rmT (va_Pc (as.map (rv γ.1)) (PreT γ sz μ)) (Nev (Adr γ.1 sz)) (XCt γ μ sz) 1 6 (Adr γ.1 sz)
set_option maxHeartbeats 4000000 in
theorem Xt.of {M : Mb} {as : List Value} {μ : Mm} (hy : plainName M.1.cls = true) (hn : (lo1 as).length ≤ M.2.2.1) (lo : List (Option Value)) (hlo : lo1 as ++ List.replicate (M.2.2.1 - (lo1 as).length) none = lo) (h : GX M rmT μ 0 lo []) : Xt M as μ := by
  intro γ l sz hlt
  refine vx_ofW (cc := M.2.1) (maxL := M.2.2.1) (ret := M.2.2.2) hy rfl ?_
  intro p e s m args below meth c s₁ B hml hT hv
  obtain ⟨rfl, ⟨hsz, hP, hK, hI, hZ⟩, hZt⟩ := hv
  subst hsz
  have hts := atoms_spec (ws := wsM M) B.pre
  have hl := lv_entry (as.map (rv γ.1)) (n := M.2.2.1) (by rw [lo1_len]; exact hn)
  rw [lg_entry_eq]
  refine h γ p l e s m _ below meth c ⟨hlt, ⟨B.exec, B.bytes, B.returns, hml, findClass_of_methodNamed B.named, fun w hw => hts w (List.mem_cons_of_mem _ hw), B.notSynchronized, hK, hI, hZ⟩, hT, hZt⟩ s.heap [] _ ⟨hP, va_S.rf⟩ ⟨hl.1, hl.2.1, ?_, ?_⟩
  · rw [← hlo]; simp
    try omega
  · intro i v hi
    rw [← hlo] at hi
    have hi2 : (lo1 as)[i]? = some (some v) := by
      by_cases hlt : i < (lo1 as).length
      · rw [List.getElem?_append_left hlt] at hi; exact hi
      · rw [List.getElem?_append_right (by omega)] at hi
        rw [List.getElem?_replicate] at hi
        split at hi <;> cases hi
    have := lo1_args γ.1 as 0 i v hi2
    rw [Nat.zero_add] at this
    exact hl.2.2 _ this
theorem x_18 {μ : Mm} {lo : List (Option Value)} : GX mX5_at rmT μ 18 lo [] := x_throw (Or.inl ⟨rfl, rfl⟩) rfl (by decide) (by decide) rfl rfl dX5_at_18 dX5_at_21 dX5_at_22 dX5_at_24 dX5_at_27
theorem x_44 {μ : Mm} {lo : List (Option Value)} : GX mX5_at rmT μ 44 lo [] := x_throw (Or.inr ⟨rfl, rfl⟩) rfl (by decide) (by decide) rfl rfl dX5_at_44 dX5_at_47 dX5_at_48 dX5_at_50 dX5_at_53
abbrev fitT : Fits (rmL 0) rmT 2 := ⟨rfl, rfl, Nat.le_of_ble_eq_true rfl, Nat.le_of_ble_eq_true rfl⟩
theorem c_at_no (μ : Mm) (a b : Int32) {n : Nat} (hn : μ.1 1 2 = nI n) (h60 : n ≤ 60) (h : ¬ (0 ≤ a.toInt ∧ a.toInt ≤ 2 ∧ 0 ≤ b.toInt ∧ b.toInt < (nI n).toInt)) : Xt mX5_at [.ref 0, .int a, .int b] μ := by
  refine Xt.of (by decide) (Nat.le_of_ble_eq_true rfl) [some (.ref 0), some (.int a), some (.int b), none] rfl ?_
  refine x_iload_n 1 _ dX5_at_0 rfl rfl ?_
  refine x_backi (g_runSN (c_isRow μ a) rfl mw_X1_isRow ms_X1_isRow mn_X5_93 ⟨rfl, rfl, Nat.le_of_ble_eq_true rfl, Nat.le_of_ble_eq_true rfl⟩ rfl rfl (Nat.le_of_ble_eq_true rfl) dX5_at_1) ?_
  refine x_if_eq 18 dX5_at_4 (by decide) (fun _ => x_18) (fun h4 => ?_)
  refine x_aload_n 0 _ dX5_at_7 rfl rfl ?_
  refine x_circle rfl dX5_at_8 ?_
  refine x_iload_n 2 _ dX5_at_11 rfl rfl ?_
  refine x_backi (g_runVN (c_has μ b hn) rfl mw_X1_has mi_X1_has mn_X5_96 isO_1 ⟨rfl, rfl, Nat.le_of_ble_eq_true rfl, Nat.le_of_ble_eq_true rfl⟩ rfl rfl (Nat.le_of_ble_eq_true rfl) dX5_at_12) ?_
  refine x_if_ne 28 dX5_at_15 (by decide) (fun h15 => ?_) (fun _ => x_18)
  exfalso
  have q1 : ¬ a < 0 ∧ a ≤ nI 2 := by
    apply Classical.byContradiction
    intro q
    exact h4 (bI_f q)
  have q2 : ¬ b < 0 ∧ b < nI n := by
    apply Classical.byContradiction
    intro q
    exact h15 (bI_f q)
  rw [fa_lt, fa_le, t0, nt2] at q1
  rw [fa_lt, fa_lt, t0] at q2
  exact h (by omega)
theorem c_at_miss (μ : Mm) {j n : Nat} (hn : μ.1 1 2 = nI n) (h60 : n ≤ 60) (hj : j < n) (hv : μ.1 9 j = nI 1073741824) : Xt mX5_at [.ref 0, .int (nI 2), .int (nI j)] μ := by
  refine Xt.of (by decide) (Nat.le_of_ble_eq_true rfl) [some (.ref 0), some (.int (nI 2)), some (.int (nI j)), none] rfl ?_
  refine x_iload_n 1 _ dX5_at_0 rfl rfl ?_
  refine x_backi (g_runSN (c_isRow μ (nI 2)) rfl mw_X1_isRow ms_X1_isRow mn_X5_93 ⟨rfl, rfl, Nat.le_of_ble_eq_true rfl, Nat.le_of_ble_eq_true rfl⟩ rfl rfl (Nat.le_of_ble_eq_true rfl) dX5_at_1) ?_
  refine x_if_eq 18 dX5_at_4 (by decide) (fun _ => x_18) (fun _ => ?_)
  refine x_aload_n 0 _ dX5_at_7 rfl rfl ?_
  refine x_circle rfl dX5_at_8 ?_
  refine x_iload_n 2 _ dX5_at_11 rfl rfl ?_
  refine x_backi (g_runVN (c_has μ (nI j) hn) rfl mw_X1_has mi_X1_has mn_X5_96 isO_1 ⟨rfl, rfl, Nat.le_of_ble_eq_true rfl, Nat.le_of_ble_eq_true rfl⟩ rfl rfl (Nat.le_of_ble_eq_true rfl) dX5_at_12) ?_
  refine x_if_ne 28 dX5_at_15 (by decide) (fun _ => ?_) (fun _ => x_18)
  refine x_aload_n 0 _ dX5_at_28 rfl rfl ?_
  refine x_circle rfl dX5_at_29 ?_
  refine x_iload_n 1 _ dX5_at_32 rfl rfl ?_
  refine x_iload_n 2 _ dX5_at_33 rfl rfl ?_
  refine x_backi (g_runVN (c_get μ (w := 2) (j := j) (by decide) (by omega)) rfl mw_X1_get mi_X1_get mn_X5_111 isO_1 ⟨rfl, rfl, Nat.le_of_ble_eq_true rfl, Nat.le_of_ble_eq_true rfl⟩ rfl rfl (Nat.le_of_ble_eq_true rfl) dX5_at_34) ?_
  refine x_istore_n [some (.ref 0), some (.int (nI 2)), some (.int (nI j)), some (.int (μ.1 (7 + 2) j))] dX5_at_37 rfl (Nat.le_of_ble_eq_true rfl) rfl rfl ?_
  refine x_iload_n 3 _ dX5_at_38 rfl rfl ?_
  refine x_ldc _ rfl kc_X5_103 dX5_at_39 ?_
  refine x_icmp_ne 54 dX5_at_41 (by decide) (fun h => absurd hv h) (fun _ => x_44)
