/-! THE LAW: its judgement and its rules -/
/-! THE CLAIM OUT OF ONE WALK OF THE LAW'S BODY. Your part is whole_start (and what it stands on); all else here is the same for every law, but numbers. -/
def R_law : String := "HoleMaskLaw"
def lw_P (b : Addr) (xs : List Int32) (args : Array Value) (s : State) : Prop := args = #[.ref b] ∧ s.IntsAt b xs ∧ xs.length ≤ 2560 ∧ (Jvm.Cond.and given_1 narrow_1).before args s = true
def lw_Q (_ : Array Value) (s : State) (o : Outcome) (t : State) : Prop := o = .returned (some (.int 1)) ∧ Framed s o t [] 601024 7293034
def lw_Z (below : List Frame) (a : Array Value) (s : State) : State → Prop := fun t => ∃ o, t.status = .running ∧ Ended t below o ∧ lw_Q a s o t
/-- the law's own end, with 1 on the stack, nothing written that was there before, its room as the claim has it -/
theorem lw_ret {p : Program} {l : Launch} {e : Env} {s : State} {m : MethodId} {below : List Frame} {meth : Method} {c : Code} {b : Nat} (hx : p.tables.exec = Jvm.exec) (hb : c.code = code) (hr : meth.sig.returnType = ret) (hlocks : meth.locks = false) {pc : Nat} {H : Heap} {ls : Array Slot} (hdg : decode code pc = .ok (.ireturn, 1)) : W p l e room_1 s m #[Value.ref b] below meth c H [] 601024 7293034 (lw_Z below #[Value.ref b] s) (F0 m pc ls [.int 1]) := by
  intro T hT X
  obtain ⟨fs, hret, hrun, hended, hW, hframe⟩ := X.leave (v := some (.int 1)) (hlocks := hlocks) (fun h => by rw [hr] at h; cases h)
  have hmeth' : T.vm.method? m = some meth := X.method'
  refine ⟨T.setFrames fs, ?_, .returned (some (.int 1)), hrun, hended, rfl, ⟨_, rfl⟩, hW, hframe⟩
  jvm_step X.here [X.here.top, hx, hb, hdg, hmeth', hr, ret, narrow_b1]
  (try refine ⟨rfl, ?_⟩); (try refine ⟨rfl, ?_⟩)
  first | (intro acts; rw [hret _ acts rfl rfl rfl]) | rw [hret _ _ rfl rfl rfl]
  exact Steps.refl _
/-- what holds at the law's entry: the machine, the code, the tables' words (any of lw_tbl by 'hts w (by decide +kernel)'), the script of L ints xs at the cell b, what the Statement gives of the start (any of its parts by flat_of_before) -/
def lw_At (p : Program) (s : State) (m : MethodId) (meth : Method) (c : Code) (b L : Nat) (xs : Nat → Int32) : Prop :=
  p.tables.exec = Jvm.exec ∧ c.code = code ∧ meth.sig.returnType = ret ∧ c.maxLocals = 7 ∧ s.vm.findClass R_law = some m.cls ∧ (∀ w ∈ lw_tbl, w.before #[Value.ref b] s = true) ∧ va_X b L xs s s.heap ∧ b < s.heap.size ∧ meth.locks = false ∧ (Jvm.Cond.and given_1 narrow_1).before #[Value.ref b] s = true
abbrev LA (s : State) : Nat → Prop := fun q => s.heap.size ≤ q
/-- what stays the same in the law; script is cell 48 -/
def Lc (γ : Cc) (l : Launch) (p : Program) (s : State) (m : MethodId) (meth : Method) (c : Code) (b L : Nat) (xs : Nat → Int32) : Prop :=
  lw_At p s m meth c b L xs ∧ l.stackTraces = false ∧ Kw γ s ∧ Inj γ.1 ∧ (∀ k, k < 47 → s.heap.size ≤ γ.1 k) ∧ γ.1 48 = b ∧ (va_Z "HoleMask$Circle" "LIMITS" "[I" (.ref (γ.1 47)) (LA s) s s.heap ∧ va_T .int (γ.1 47) 3 (fun j => .int (limF j)) (LA s) s s.heap) ∧ Za (LA s) s
/-- from pc with locals lo, stack st, memory μ, ck cells and sk slots made, the law answers true -/
def GL (L : Nat) (xs : Nat → Int32) (ck sk : Nat) (μ : Mm) (pc : Nat) (lo : List (Option Value)) (st : List Value) : Prop :=
  ∀ (γ : Cc) (p : Program) (l : Launch) (e : Env) (s : State) (m : MethodId) (b : Nat) (below : List Frame) (meth : Method) (c : Code), Lc γ l p s m meth c b L xs → ∀ (H : Heap) (locs : List Loc) (ls : Array Slot), Wp γ μ H ∧ va_S (LA s) s.heap H locs → Lo γ ls 7 lo →
    W p l e room_1 s m #[Value.ref b] below meth c H locs ck sk (lw_Z below #[Value.ref b] s) (F0 m pc ls (st.map (rv γ.1)))
section
variable {L : Nat} {xs : Nat → Int32} {ck sk : Nat} {μ : Mm} {pc : Nat} {lo : List (Option Value)} {st : List Value}
theorem l_aload_n {q : Fin 4} (i : Nat) (x : Nat) (d : decode cL_law pc = .ok (.aload_n q, 1)) (hi : (q : Nat) = i) (h : lo[i]? = some (some (.ref x))) (k : GL L xs ck sk μ (pc + 1) lo (.ref x :: st)) : GL L xs ck sk μ pc lo st :=
  fun γ p l e s m b below meth c C H locs ls hw hl => lv_aload_n C.1.1 C.1.2.1 d hi (hl.2.2.2 _ _ h) (k γ p l e s m b below meth c C H locs ls hw hl)
theorem l_iconst {n : Int} (v : Int32) (d : decode cL_law pc = .ok (.iconst n, 1)) (hv : Int32.ofInt n = v) (k : GL L xs ck sk μ (pc + 1) lo (.int v :: st)) : GL L xs ck sk μ pc lo st :=
  fun γ p l e s m b below meth c C H locs ls hw hl => lv_iconst C.1.1 C.1.2.1 d hv (k γ p l e s m b below meth c C H locs ls hw hl)
theorem l_bipush {n : Int} (v : Int32) (d : decode cL_law pc = .ok (.bipush n, 2)) (hv : (Int8.ofInt n).toInt32 = v) (k : GL L xs ck sk μ (pc + 2) lo (.int v :: st)) : GL L xs ck sk μ pc lo st :=
  fun γ p l e s m b below meth c C H locs ls hw hl => lv_bipush C.1.1 C.1.2.1 d hv (k γ p l e s m b below meth c C H locs ls hw hl)
theorem l_iload {i : Nat} (x : Int32) (d : decode cL_law pc = .ok (.iload i, 2)) (h : lo[i]? = some (some (.int x))) (k : GL L xs ck sk μ (pc + 2) lo (.int x :: st)) : GL L xs ck sk μ pc lo st :=
  fun γ p l e s m b below meth c C H locs ls hw hl => lv_iload C.1.1 C.1.2.1 d (hl.2.2.2 _ _ h) (k γ p l e s m b below meth c C H locs ls hw hl)
theorem l_istore {i : Nat} {x : Int32} (lo' : List (Option Value)) (d : decode cL_law pc = .ok (.istore i, 2)) (hn : i < 7) (ho : okS lo i = true) (h : lo.set i (some (.int x)) = lo') (k : GL L xs ck sk μ (pc + 2) lo' st) : GL L xs ck sk μ pc lo (.int x :: st) := by
  subst h
  exact fun γ p l e s m b below meth c C H locs ls hw hl => lv_istore C.1.1 C.1.2.1 d hl.has hn rfl (fun ls' hl' => k γ p l e s m b below meth c C H locs ls' hw (hl.set1 (v := .int x) ho hl'))
theorem l_iinc {i : Nat} {n : Int} {x v : Int32} (lo' : List (Option Value)) (d : decode cL_law pc = .ok (.iinc i n, 3)) (h0 : lo[i]? = some (some (.int x))) (hv : x + Int32.ofInt n = v) (hn : i < 7) (ho : okS lo i = true) (h : lo.set i (some (.int v)) = lo') (k : GL L xs ck sk μ (pc + 3) lo' st) : GL L xs ck sk μ pc lo st := by
  subst h
  exact fun γ p l e s m b below meth c C H locs ls hw hl => by
    obtain ⟨q, hq⟩ := List.getElem?_of_mem (alo_mem (ad := γ.1) h0)
    exact lv_iinc C.1.1 C.1.2.1 d hl.has hq hv hn rfl (fun ls' hl' => k γ p l e s m b below meth c C H locs ls' hw (hl.set1 (v := .int v) ho hl'))
theorem l_iadd {x y : Int32} (d : decode cL_law pc = .ok (.iadd, 1)) (k : GL L xs ck sk μ (pc + 1) lo (.int (x + y) :: st)) : GL L xs ck sk μ pc lo (.int y :: .int x :: st) :=
  fun γ p l e s m b below meth c C H locs ls hw hl => lv_iadd C.1.1 C.1.2.1 d (k γ p l e s m b below meth c C H locs ls hw hl)
theorem l_isub {x y : Int32} (d : decode cL_law pc = .ok (.isub, 1)) (k : GL L xs ck sk μ (pc + 1) lo (.int (x - y) :: st)) : GL L xs ck sk μ pc lo (.int y :: .int x :: st) :=
  fun γ p l e s m b below meth c C H locs ls hw hl => lv_isub C.1.1 C.1.2.1 d (k γ p l e s m b below meth c C H locs ls hw hl)
theorem l_iand {x y : Int32} (d : decode cL_law pc = .ok (.iand, 1)) (k : GL L xs ck sk μ (pc + 1) lo (.int (x &&& y) :: st)) : GL L xs ck sk μ pc lo (.int y :: .int x :: st) :=
  fun γ p l e s m b below meth c C H locs ls hw hl => lv_iand C.1.1 C.1.2.1 d (k γ p l e s m b below meth c C H locs ls hw hl)
theorem l_i2l {x : Int32} (d : decode cL_law pc = .ok (.i2l, 1)) (k : GL L xs ck sk μ (pc + 1) lo (.long x.toInt64 :: st)) : GL L xs ck sk μ pc lo (.int x :: st) :=
  fun γ p l e s m b below meth c C H locs ls hw hl => lv_i2l C.1.1 C.1.2.1 d rfl (k γ p l e s m b below meth c C H locs ls hw hl)
theorem l_lcmp {x y : Int64} (d : decode cL_law pc = .ok (.lcmp, 1)) (k : GL L xs ck sk μ (pc + 1) lo (.int (lg_cmp x y) :: st)) : GL L xs ck sk μ pc lo (.long y :: .long x :: st) :=
  fun γ p l e s m b below meth c C H locs ls hw hl => W.lcmp C.1.1 C.1.2.1 d (k γ p l e s m b below meth c C H locs ls hw hl)
theorem l_if_eq {x : Int32} {off : Int} (tgt : Nat) (d : decode cL_law pc = .ok (.ifCond .eq off, 3)) (ht : (pc : Int) + off = (tgt : Int)) (kt : x = 0 → GL L xs ck sk μ tgt lo st) (kf : ¬ (x = 0) → GL L xs ck sk μ (pc + 3) lo st) : GL L xs ck sk μ pc lo (.int x :: st) :=
  fun γ p l e s m b below meth c C H locs ls hw hl => lv_if_eq C.1.1 C.1.2.1 d ht (fun h => kt h γ p l e s m b below meth c C H locs ls hw hl) (fun h => kf h γ p l e s m b below meth c C H locs ls hw hl)
theorem l_if_ne {x : Int32} {off : Int} (tgt : Nat) (d : decode cL_law pc = .ok (.ifCond .ne off, 3)) (ht : (pc : Int) + off = (tgt : Int)) (kt : x ≠ 0 → GL L xs ck sk μ tgt lo st) (kf : x = 0 → GL L xs ck sk μ (pc + 3) lo st) : GL L xs ck sk μ pc lo (.int x :: st) :=
  fun γ p l e s m b below meth c C H locs ls hw hl => lv_if_ne C.1.1 C.1.2.1 d ht (fun h => kt h γ p l e s m b below meth c C H locs ls hw hl) (fun h => kf h γ p l e s m b below meth c C H locs ls hw hl)
theorem l_icmp_eq {x y : Int32} {off : Int} (tgt : Nat) (d : decode cL_law pc = .ok (.if_icmp .eq off, 3)) (ht : (pc : Int) + off = (tgt : Int)) (kt : x = y → GL L xs ck sk μ tgt lo st) (kf : ¬ (x = y) → GL L xs ck sk μ (pc + 3) lo st) : GL L xs ck sk μ pc lo (.int y :: .int x :: st) :=
  fun γ p l e s m b below meth c C H locs ls hw hl => lv_icmp_eq C.1.1 C.1.2.1 d ht (fun h => kt h γ p l e s m b below meth c C H locs ls hw hl) (fun h => kf h γ p l e s m b below meth c C H locs ls hw hl)
theorem l_icmp_gt {x y : Int32} {off : Int} (tgt : Nat) (d : decode cL_law pc = .ok (.if_icmp .gt off, 3)) (ht : (pc : Int) + off = (tgt : Int)) (kt : y < x → GL L xs ck sk μ tgt lo st) (kf : ¬ (y < x) → GL L xs ck sk μ (pc + 3) lo st) : GL L xs ck sk μ pc lo (.int y :: .int x :: st) :=
  fun γ p l e s m b below meth c C H locs ls hw hl => lv_icmp_gt C.1.1 C.1.2.1 d ht (fun h => kt h γ p l e s m b below meth c C H locs ls hw hl) (fun h => kf h γ p l e s m b below meth c C H locs ls hw hl)
theorem l_goto {off : Int} (tgt : Nat) (d : decode cL_law pc = .ok (.goto off, 3)) (ht : (pc : Int) + off = (tgt : Int)) (k : GL L xs ck sk μ tgt lo st) : GL L xs ck sk μ pc lo st :=
  fun γ p l e s m b below meth c C H locs ls hw hl => lv_goto C.1.1 C.1.2.1 d ht (k γ p l e s m b below meth c C H locs ls hw hl)
theorem l_tableIn {dflt lo9 hi : Int} {offs : Array Int} {len : Nat} {x : Int32} {off : Int} (tgt : Nat) (d : decode cL_law pc = .ok (.tableswitch dflt lo9 hi offs, len)) (h1 : ¬ x.toInt < lo9) (h2 : ¬ hi < x.toInt) (ho : offs[(x.toInt - lo9).toNat]? = some off) (ht : (pc : Int) + off = (tgt : Int)) (kk : GL L xs ck sk μ tgt lo st) : GL L xs ck sk μ pc lo (.int x :: st) :=
  fun γ p l e s m b below meth c C H locs ls hw hl => lv_tableIn C.1.1 C.1.2.1 d h1 h2 ho ht (kk γ p l e s m b below meth c C H locs ls hw hl)
theorem l_tableOut {dflt lo9 hi : Int} {offs : Array Int} {len : Nat} {x : Int32} (tgt : Nat) (d : decode cL_law pc = .ok (.tableswitch dflt lo9 hi offs, len)) (h : x.toInt < lo9 ∨ hi < x.toInt) (ht : (pc : Int) + dflt = (tgt : Int)) (kk : GL L xs ck sk μ tgt lo st) : GL L xs ck sk μ pc lo (.int x :: st) :=
  fun γ p l e s m b below meth c C H locs ls hw hl => lv_tableOut C.1.1 C.1.2.1 d h ht (kk γ p l e s m b below meth c C H locs ls hw hl)
theorem l_tw {γ : Cc} {l : Launch} {p : Program} {s : State} {m : MethodId} {meth : Method} {c : Code} {b : Nat} (C : Lc γ l p s m meth c b L xs) : ∀ w ∈ tw, w.before #[Value.ref b] s = true := fun w hw => C.1.2.2.2.2.2.1 w (List.mem_filter.mp hw).1
theorem l_adr {γ : Cc} {l : Launch} {p : Program} {s : State} {m : MethodId} {meth : Method} {c : Code} {b : Nat} (C : Lc γ l p s m meth c b L xs) {H : Heap} (h : s.heap.size ≤ H.size) : ∀ q, Adr γ.1 H.size q → LA s q := fun q hq => hq.elim (fun ⟨k, h1, h2⟩ => by rw [h2]; exact C.2.2.2.2.1 k h1) (fun h2 => Nat.le_trans h h2)
theorem l_saload {j : Nat} {i : Int32} (hi : i = nI j) (hj : j < L) (hL : L ≤ 2560) (d : decode cL_law pc = .ok (.iaload, 1)) (kk : GL L xs ck sk μ (pc + 1) lo (.int (xs j) :: st)) : GL L xs ck sk μ pc lo (.int i :: .ref 48 :: st) := by
  subst hi
  intro γ p l e s m b below meth c C H locs ls hw hl
  have h := kk γ p l e s m b below meth c C H locs ls hw hl
  show W p l e room_1 s m #[Value.ref b] below meth c H locs ck sk _ (F0 m pc ls (.int (nI j) :: .ref (γ.1 48) :: st.map (rv γ.1)))
  rw [C.2.2.2.2.2.1]
  refine va_sld C.1.1 C.1.2.1 C.1.2.2.2.2.2.2.1 C.1.2.2.2.2.2.2.2.1 (Nat.not_le.mpr C.1.2.2.2.2.2.2.2.1) hw.2 (vp_in_nI hj (by omega)) d ?_
  rw [nI_clamp (by omega)]
  exact h
theorem l_slen (d : decode cL_law pc = .ok (.arraylength, 1)) (kk : GL L xs ck sk μ (pc + 1) lo (.int (nI L) :: st)) : GL L xs ck sk μ pc lo (.ref 48 :: st) := by
  intro γ p l e s m b below meth c C H locs ls hw hl
  have h := kk γ p l e s m b below meth c C H locs ls hw hl
  show W p l e room_1 s m #[Value.ref b] below meth c H locs ck sk _ (F0 m pc ls (.ref (γ.1 48) :: st.map (rv γ.1)))
  rw [C.2.2.2.2.2.1]
  exact va_slen C.1.1 C.1.2.1 C.1.2.2.2.2.2.2.1 C.1.2.2.2.2.2.2.2.1 (Nat.not_le.mpr C.1.2.2.2.2.2.2.2.1) hw.2 d h
theorem l_laload {k n j : Nat} {i : Int32} (hk : isL k n) (hi : i = nI j) (hj : j < n) (hn : n ≤ 1024) (d : decode cL_law pc = .ok (.laload, 1)) (kk : GL L xs ck sk μ (pc + 1) lo (.long (μ.2 k j) :: st)) : GL L xs ck sk μ pc lo (.int i :: .ref k :: st) := by
  subst hi
  intro γ p l e s m b below meth c C H locs ls hw hl
  have h := kk γ p l e s m b below meth c C H locs ls hw hl
  refine va_lald (D := γ.2.1) C.1.1 C.1.2.1 C.2.2.1.1 hw.1 k 1 (by rw [wd_get hk.1, hk.2]) rfl (vp_in_nI hj (by omega)) d ?_
  rw [nI_clamp (by omega)]
  exact h
theorem l_pre {γ : Cc} {l : Launch} {p : Program} {s : State} {m : MethodId} {meth : Method} {c : Code} {b : Nat} (C : Lc γ l p s m meth c b L xs) {H : Heap} {locs : List Loc} (hw : Wp γ μ H ∧ va_S (LA s) s.heap H locs) : ∀ U : State, U.heap = H → s.WarmedH U.vm → PreT γ H.size μ U := by
  intro U hU hW
  subst hU
  have hz := C.2.2.2.2.2.2.1
  exact ⟨⟨rfl, hw.1, C.2.2.1.warm hW, C.2.2.2.1, ((hz.1.moved hW.alike).kept hw.2.2.1).narrow (l_adr C hw.2.1), ((hz.2.moved hW.alike).kept hw.2.2.1).narrow (l_adr C hw.2.1)⟩, C.2.2.2.2.2.2.2.at hW hw.2.2.1 (l_adr C hw.2.1)⟩
abbrev Cap (ck sk : Nat) : Prop := ck + 1 ≤ 601024 ∧ sk + 6 ≤ 7293034
theorem l_run {Mc : Mb} {rmc : Room} {as : List Value} {o n index : Nat} {R1 : Option Value × Mm} {stk : List Value} (hM : Ok Mc rmc (.ref o :: as) μ R1) (hm : Mw Mc n) (hi : Mi Mc) (hlk : Cond.methodLink RL index Mc.1 ∈ tw) (hO : isO o Mc.1.cls) (hF : Fits rmc room_1 Mc.2.2.1) (hn : as.length = n) (hst : stk = as.reverse ++ .ref o :: st) (hc : (st.map fun v => v.category).sum ≤ 8) (hk : Cap ck sk) (d : decode cL_law pc = .ok (.invokevirtual index, 3))
    {γ : Cc} {p : Program} {l : Launch} {e : Env} {s : State} {m : MethodId} {b : Nat} {below : List Frame} {meth : Method} {c : Code} (C : Lc γ l p s m meth c b L xs) {H : Heap} {locs : List Loc} {ls : Array Slot} (hw : Wp γ μ H ∧ va_S (LA s) s.heap H locs) (hl : Lo γ ls 7 lo) :
    ∃ a, va_Run p l e room_1 s m #[Value.ref b] below meth c H locs ck sk 0 0 (F0 m pc ls (stk.map (rv γ.1))) (st.map (rv γ.1)) (QR γ R1 H.size a) (Adr γ.1 H.size) := by
  subst hst
  obtain ⟨ci, F, q, hk9, hcl, hq⟩ := hO
  refine ⟨_, va_runV (As := as.map (rv γ.1)) (C := Mc.1.cls) (nL := 7) ⟨C.1.1, C.1.2.1, C.1.2.2.2.1, C.1.2.2.2.2.1, l_tw C⟩ (hM γ l H.size) ⟨callB_of n (l_tw C) (tw_in hm.1) rfl hF.1 hF.2.1 (l_tw C _ hm.2.1) (l_tw C _ hlk) hm.2.2 hF.2.2, l_tw C _ hi.1, l_tw C _ hi.2⟩ ⟨pre_blind, ?_, fun U hU hW => ⟨rfl, (l_pre C hw U hU hW).1⟩⟩ rfl (by rw [List.length_map]; exact hn) hl.1 (by simp [List.map_append, List.map_reverse, rv]) (by rw [← rv_cats γ.1] at hc; exact lv_room hc) d ⟨Nat.le_trans (Nat.le_succ _) hk.1, Nat.le_trans (Nat.le_add_right _ 6) hk.2⟩⟩
  have h := va_recv (q0 := o) C.2.2.1.1 hw.1 hcl (by rw [wd_get hk9.1, hk9.2])
  rw [hq] at h
  exact h
theorem l_callI {Mc : Mb} {rmc : Room} {as : List Value} {o n index : Nat} {x : Int32} {μ' : Mm} {stk : List Value} (hM : Ok Mc rmc (.ref o :: as) μ (some (.int x), μ')) (hm : Mw Mc n) (hi : Mi Mc) (hlk : Cond.methodLink RL index Mc.1 ∈ tw) (hO : isO o Mc.1.cls) (hF : Fits rmc room_1 Mc.2.2.1) (hn : as.length = n) (hst : stk = as.reverse ++ .ref o :: st) (hc : (st.map fun v => v.category).sum ≤ 8) (hk : Cap ck sk) (d : decode cL_law pc = .ok (.invokevirtual index, 3)) (kk : GL L xs ck sk μ' (pc + 3) lo (.int x :: st)) : GL L xs ck sk μ pc lo stk := by
  intro γ p l e s m b below meth c C H locs ls hw hl
  obtain ⟨a, h⟩ := l_run (e := e) (below := below) hM hm hi hlk hO hF hn hst hc hk d C hw hl
  refine va_calli (a := a) h hw.2 (fun q _ h => l_adr C hw.2.1 q h) (l_adr C hw.2.1) (fun r u t H1 locs1 ht hvm hp hB hz1 hk1 hS => ?_)
  subst hp
  subst ht
  exact kk γ p l e s m b below meth c C t.heap locs1 ls ⟨hB, hS⟩ hl
theorem l_callL {Mc : Mb} {rmc : Room} {as : List Value} {o n index : Nat} {x : Int64} {μ' : Mm} {stk : List Value} (hM : Ok Mc rmc (.ref o :: as) μ (some (.long x), μ')) (hm : Mw Mc n) (hi : Mi Mc) (hlk : Cond.methodLink RL index Mc.1 ∈ tw) (hO : isO o Mc.1.cls) (hF : Fits rmc room_1 Mc.2.2.1) (hn : as.length = n) (hst : stk = as.reverse ++ .ref o :: st) (hc : (st.map fun v => v.category).sum ≤ 8) (hk : Cap ck sk) (d : decode cL_law pc = .ok (.invokevirtual index, 3)) (kk : GL L xs ck sk μ' (pc + 3) lo (.long x :: st)) : GL L xs ck sk μ pc lo stk := by
  intro γ p l e s m b below meth c C H locs ls hw hl
  obtain ⟨a, h⟩ := l_run (e := e) (below := below) hM hm hi hlk hO hF hn hst hc hk d C hw hl
  refine va_calll (a := a) h hw.2 (fun q _ h => l_adr C hw.2.1 q h) (l_adr C hw.2.1) (fun r u t H1 locs1 ht hvm hp hB hz1 hk1 hS => ?_)
  subst hp
  subst ht
  exact kk γ p l e s m b below meth c C t.heap locs1 ls ⟨hB, hS⟩ hl
theorem tk_L_46 : Cond.methodLink RL 46 yL_at ∈ tw := tw_i 617 (by decide +kernel) (by decide +kernel)
theorem tk_L_st : Cond.static yL_at ∈ tw := tw_i 618 (by decide +kernel) (by decide +kernel)
theorem tk_L_in : Cond.initialized RL ∈ tw := by decide +kernel
theorem wsA_in : GoodIn tw (va_wsS RL 46 yL_at wsA) := fun w hw => by
  have hm : w ∈ tw := by
    rcases List.mem_append.mp hw with h | h
    · rcases List.mem_cons.mp h with rfl | h
      · exact tk_L_46
      · rcases List.mem_cons.mp h with rfl | h
        · exact tk_L_st
        · rcases List.mem_cons.mp h with rfl | h
          · exact tk_L_in
          · cases h
    · rcases List.mem_cons.mp h with rfl | h
      · exact tk_L_at
      · exact h
  exact ⟨hm, tw_good w hm⟩
theorem l_at {rmc : Room} {as : List Value} {x : Int32} {μ' : Mm} {stk : List Value} (hM : OkA rmc as μ (some (.int x), μ')) (hF : rmc.frames + 1 ≤ 10 ∧ 8 + (5 + 11) + rmc.locals ≤ 344) (hcm : rmc.cells ≤ 1 ∧ rmc.slots ≤ 6) (hn : as.length = 4) (hst : stk = as.reverse ++ st) (hc : (st.map fun v => v.category).sum ≤ 8) (hk : Cap ck sk) (d : decode cL_law pc = .ok (.invokestatic 46, 3)) (kk : GL L xs (ck + 1) (sk + 6) μ' (pc + 3) lo (.int x :: st)) : GL L xs ck sk μ pc lo stk := by
  subst hst
  intro γ p l e s m b below meth c C H locs ls hw hl
  have h := vx_runSW (p := p) (e := e) (R := room_1) (below := below) (meth := meth) (H := H) (locs := locs) (cells := ck) (slots := sk) (As := as.map (rv γ.1)) (nL := 7) (hh := hhA) (rest := st.map (rv γ.1)) (g := F0 m pc ls ((as.reverse ++ st).map (rv γ.1))) ⟨C.1.1, C.1.2.1, C.1.2.2.2.1, C.1.2.2.2.2.1, l_tw C⟩ (hM γ l H.size C.2.1) (vx_cwSW 4 (l_tw C) wsA_in rfl rfl rfl (by decide +kernel) hF) ⟨preT_blind, fun U hU hW => ⟨rfl, l_pre C hw U hU hW⟩⟩ rfl (by rw [List.length_map]; exact hn) hl.1 (by simp [List.map_append, List.map_reverse]) (by rw [← rv_cats γ.1] at hc; exact lv_room hc) d ⟨Nat.le_trans (Nat.add_le_add_left hcm.1 _) hk.1, Nat.le_trans (Nat.add_le_add_left hcm.2 _) hk.2⟩
  refine va_calli (a := (as.map (rv γ.1)).toArray) h hw.2 (fun q _ h => l_adr C hw.2.1 q h) (l_adr C hw.2.1) (fun r u t H1 locs1 ht hvm hp hB hz1 hk1 hS => ?_)
  subst hp
  subst ht
  exact W.widen (Nat.add_le_add_left hcm.1 _) (Nat.add_le_add_left hcm.2 _) (kk γ p l e s m b below meth c C t.heap locs1 ls ⟨hB, hS⟩ hl)
theorem l_widen {ck' sk' : Nat} (h1 : ck ≤ ck') (h2 : sk ≤ sk') (kk : GL L xs ck' sk' μ pc lo st) : GL L xs ck sk μ pc lo st :=
  fun γ p l e s m b below meth c C H locs ls hw hl => W.widen h1 h2 (kk γ p l e s m b below meth c C H locs ls hw hl)
theorem l_ret (h1 : ck ≤ 601024) (h2 : sk ≤ 7293034) (d : decode cL_law pc = .ok (.ireturn, 1)) : GL L xs ck sk μ pc lo [.int 1] :=
  fun γ p l e s m b below meth c C H locs ls hw hl => va_forget hw.2.2.2 (W.widen h1 h2 (lw_ret C.1.1 C.1.2.1 C.1.2.2.1 C.1.2.2.2.2.2.2.2.2.1 d))
/-- the locals of the loop -/
abbrev LOC (i : Nat) (x y : Option Value) : List (Option Value) := [some (.ref 48), some (.ref 0), some (.ref 33), some (.ref 46), some (.int (nI i)), x, y]
theorem l_arg {i : Nat} {x y : Option Value} {n : Int} (j : Nat) (hi : i + 5 ≤ L) (hL : L ≤ 2560) (hj : j < 5) (d0 : decode cL_law pc = .ok (.aload_n 0, 1)) (d1 : decode cL_law (pc + 1) = .ok (.iload 4, 2)) (d3 : decode cL_law (pc + 3) = .ok (.iconst n, 1)) (hn : Int32.ofInt n = nI j) (d4 : decode cL_law (pc + 4) = .ok (.iadd, 1)) (d5 : decode cL_law (pc + 5) = .ok (.iaload, 1)) (kk : GL L xs ck sk μ (pc + 6) (LOC i x y) (.int (xs (i + j)) :: st)) : GL L xs ck sk μ pc (LOC i x y) st := by
  refine l_aload_n 0 _ d0 rfl rfl ?_
  refine l_iload _ d1 rfl ?_
  refine l_iconst _ d3 hn ?_
  refine l_iadd d4 ?_
  exact l_saload (j := i + j) (nI_add _ _) (by omega) hL d5 kk
theorem fitL {a n : Nat} (ha : a ≤ 6) (hn : n ≤ 100) : Fits (rmL a) room_1 n := ⟨rfl, rfl, show a + 1 ≤ 10 by omega, show 8 + (n + 11) + 32 * a ≤ 344 by omega⟩
end
