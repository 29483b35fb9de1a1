/-! The law's entry: the world is made -/
theorem tk_L_8 : Cond.classLink RL 8 RX5 ∈ tw := tw_i 81 (by decide +kernel) (by decide +kernel)
theorem ml_L_15 : Cond.methodLink RL 15 yX5_init ∈ tw := tw_i 83 (by decide +kernel) (by decide +kernel)
theorem tk_L_16 : Cond.classLink RL 16 RX6 ∈ tw := tw_i 692 (by decide +kernel) (by decide +kernel)
theorem ml_L_18 : Cond.methodLink RL 18 yX6_init ∈ tw := tw_i 694 (by decide +kernel) (by decide +kernel)
theorem arrT_of {s : State} {args : Array Value} {ty : FieldType} (h : (Cond.arrayClass ty).before args s = true) : ∃ c : ClassId, ArrOfT s c ty ∧ s.vm.findClass ("[" ++ ty.toString) = some c := by
  obtain ⟨c, k, comp, h1, h2, h3⟩ := Cond.arrayClass_spec h
  exact ⟨c, fun n z => ⟨fun k h => (by cases h), k, h2, comp, h3⟩, h1⟩
theorem arrT_ov {s : State} {args : Array Value} {ty : FieldType} (h : (Cond.arrayOver (.array ty)).before args s = true) : ∃ c : ClassId, ArrOfT s c (.array ty) ∧ s.vm.findClass ("[" ++ (FieldType.array ty).toString) = some c := by
  obtain ⟨comp, c, k, hc, hi, hk, hkind, hn⟩ := arrayOverA_spec h
  exact ⟨c, fun n z => ⟨fun k h => (by cases h), k, hk, comp, hkind⟩, hn⟩
/-- the classes and the rows' classes -/
theorem k0_K {s : State} {args : Array Value} (hts : ∀ w ∈ lw_tbl, w.before args s = true) : ∃ (D : va_G) (cy : Nat → ClassId), va_K D cl7 (ty5 cy) s := by
  have htw : ∀ w ∈ tw, w.before args s = true := fun w hw => hts w (List.mem_filter.mp hw).1
  obtain ⟨c0, i0, h0⟩ := u_known htw in_X0 (htw _ tq_X0)
  obtain ⟨c1, i1, h1⟩ := u_known htw in_X1 (htw _ tq_X1)
  obtain ⟨c2, i2, h2⟩ := u_known htw in_X2 (htw _ tq_X2)
  obtain ⟨c3, i3, h3⟩ := u_known htw in_X3 (htw _ tq_X3)
  obtain ⟨c4, i4, h4⟩ := u_known htw in_X4 (htw _ tq_X4)
  obtain ⟨c5, i5, h5⟩ := u_known htw in_X5 (htw _ tq_X5)
  obtain ⟨c6, i6, h6⟩ := u_known htw in_X6 (htw _ tq_X6)
  obtain ⟨a0, f0, g0⟩ := arrT_of (htw _ ta_int)
  obtain ⟨a1, f1, g1⟩ := arrT_of (htw _ ta_long)
  obtain ⟨a2, f2, g2⟩ := arrT_of (htw _ ta_boolean)
  obtain ⟨a3, f3, g3⟩ := arrT_ov (hts (Cond.arrayOver (.array .int)) (by decide +kernel))
  obtain ⟨a4, f4, g4⟩ := arrT_ov (hts (Cond.arrayOver (.array .long)) (by decide +kernel))
  refine ⟨(fun k => [c0, c1, c2, c3, c4, c5, c6].getD k c0, fun k => [i0, i1, i2, i3, i4, i5, i6].getD k i0), fun k => [a0, a1, a2, a3, a4].getD k a0, fun c q hq => ?_, fun k q hq => ?_⟩
  · match c, hq with
    | 0, hq => cases hq; exact h0
    | 1, hq => cases hq; exact h1
    | 2, hq => cases hq; exact h2
    | 3, hq => cases hq; exact h3
    | 4, hq => cases hq; exact h4
    | 5, hq => cases hq; exact h5
    | 6, hq => cases hq; exact h6
    | c + 7, hq => cases hq
  · match k, hq with
    | 0, hq => cases hq; exact ⟨f0, g0⟩
    | 1, hq => cases hq; exact ⟨f1, g1⟩
    | 2, hq => cases hq; exact ⟨f2, g2⟩
    | 3, hq => cases hq; exact ⟨f3, g3⟩
    | 4, hq => cases hq; exact ⟨f4, g4⟩
    | k + 5, hq => cases hq
/-- the memory at the start -/
def M0 : Mm := (fun k => if k = 1 then (fun j => if j = 2 then 1 else 0) else if k = 2 then (fun j => if j = 1 then -1 else 0) else if k = 33 then (fun j => if j = 0 then 1 else if j = 5 then -1 else if j = 10 then -1 else 0) else fun _ => 0, fun k => if k = 3 then (fun j => if j = 3 then 1 else 0) else fun _ => 0)
theorem rel0 : Rel M0 := by
  refine ⟨1, by decide, by decide, ⟨rfl, rfl, fun i _ => ?_, rfl⟩, ⟨rfl, Or.inl (fun i _ => ?_)⟩, fun i _ => ⟨Or.inl ⟨rfl, rfl⟩, ?_⟩, rfl, ⟨rfl, Or.inl rfl⟩, Or.inl ⟨rfl, rfl⟩, Or.inl ⟨rfl, rfl⟩, ⟨0, by decide, rfl, rfl, fun j hj => ?_⟩⟩
  · show -1 ≤ (0 : Int32).toInt ∧ (0 : Int32).toInt ≤ 1
    decide
  · show -1000 ≤ (0 : Int32).toInt ∧ (0 : Int32).toInt ≤ 1000
    decide
  · show -500000000 ≤ (0 : Int32).toInt ∧ (0 : Int32).toInt ≤ 500000000
    decide
  · exact absurd hj (by simp)
/-- what the Statement gives of the start -/
theorem k0_Z {s : State} {b : Nat} (hts : ∀ w ∈ lw_tbl, w.before #[Value.ref b] s = true) (hg : (Jvm.Cond.and given_1 narrow_1).before #[Value.ref b] s = true) : (∃ t : Nat, va_Z "HoleMask$Circle" "LIMITS" "[I" (.ref t) (LA s) s s.heap ∧ va_T .int t 3 (fun j => .int (limF j)) (LA s) s s.heap) ∧ Za (LA s) s := by
  have hs := flat_of_before _ hg
  have hA : ∀ a : Nat, a < s.heap.size → ¬ LA s a := fun a h => Nat.not_le.mpr h
  refine ⟨?_, ?_⟩
  · obtain ⟨t, ht, hT⟩ := va_Tof (tm := .static "HoleMask$Circle" "LIMITS" "[I") (ty := .int) (N := 3) (f := fun j => .int (limF j)) (A := LA s) (by decide) (hs (Cond.arrayOf (.static "HoleMask$Circle" "LIMITS" "[I") .int) (by decide +kernel)) (va_eqt (z := 3) (hs _ (by decide +kernel))) (fun j hj => by
      match j, hj with
      | 0, _ => exact va_eqt (z := 1) (hs _ (by decide +kernel))
      | 1, _ => exact va_eqt (z := 1000) (hs _ (by decide +kernel))
      | 2, _ => exact va_eqt (z := 1000000) (hs _ (by decide +kernel))) hA
    exact ⟨t, va_Zof (hts _ (by decide +kernel)) (hts _ (by decide +kernel)) ht hA, hT⟩
  · refine ⟨vx_Zqof (hts _ (by decide +kernel)) (hts _ (by decide +kernel)) (hs _ (by decide +kernel)) hA, vx_Zqof (hts _ (by decide +kernel)) (hts _ (by decide +kernel)) (hs _ (by decide +kernel)) hA, ?_, ?_, cast_args (hts (Cond.castable NSE NSE) (by decide +kernel)), ?_⟩
    · obtain ⟨a, -, -, -, h1, -⟩ := Cond.exactly_spec (hs (Cond.exactly (.string "HoleMask" 106) "java/lang/String") (by decide +kernel))
      exact ⟨a, vk_R.of (hts (Cond.stringRef "HoleMask" 106 "no such place") (by decide +kernel)) h1⟩
    · obtain ⟨a, -, -, -, h1, -⟩ := Cond.exactly_spec (hs (Cond.exactly (.string "HoleMask" 114) "java/lang/String") (by decide +kernel))
      exact ⟨a, vk_R.of (hts (Cond.stringRef "HoleMask" 114 "the reading is missing") (by decide +kernel)) h1⟩
    · intro x hx
      have h9 : ∀ x ∈ dcl, Cond.declares x ∈ lw_tbl := by decide +kernel
      exact va_Nw.of rfl (hts _ (h9 x hx))
theorem k0_nw {s : State} {args : Array Value} (hts : ∀ w ∈ lw_tbl, w.before args s = true) : ∀ w ∈ nw, va_Nw w s := fun w hw => nw_of (List.mem_filter.mp hw).2 (hts w (List.mem_filter.mp hw).1)
def ad0 (h0 : Nat) (q1 : Nat) (q6 : Nat) (r7 : Nat → Nat) (q10 : Nat) (q2 : Nat) (q11 : Nat) (q3 : Nat) (q12 : Nat) (r13 : Nat → Nat) (q27 : Nat) (q28 : Nat) (q4 : Nat) (q29 : Nat) (q30 : Nat) (q31 : Nat) (q5 : Nat) (q32 : Nat) (h33 : Nat) (q34 : Nat) (q35 : Nat) (q36 : Nat) (q37 : Nat) (q38 : Nat) (q39 : Nat) (q40 : Nat) (q41 : Nat) (q42 : Nat) (q43 : Nat) (q44 : Nat) (q45 : Nat) (q46 : Nat) (t b : Nat) : Nat → Nat := fun k => [(h0), (q1), (q2), (q3), (q4), (q5), (q6), (r7 0), (r7 1), (r7 2), (q10), (q11), (q12), (r13 0), (r13 1), (r13 2), (r13 3), (r13 4), (r13 5), (r13 6), (r13 7), (r13 8), (r13 9), (r13 10), (r13 11), (r13 12), (r13 13), (q27), (q28), (q29), (q30), (q31), (q32), (h33), (q34), (q35), (q36), (q37), (q38), (q39), (q40), (q41), (q42), (q43), (q44), (q45), (q46), t, b].getD k 0
def al0 (cy : Nat → ClassId) (h0 : Nat) (q1 : Nat) (q6 : Nat) (r7 : Nat → Nat) (q10 : Nat) (q2 : Nat) (q11 : Nat) (q3 : Nat) (q12 : Nat) (r13 : Nat → Nat) (q27 : Nat) (q28 : Nat) (q4 : Nat) (q29 : Nat) (q30 : Nat) (q31 : Nat) (q5 : Nat) (q32 : Nat) (h33 : Nat) (q34 : Nat) (q35 : Nat) (q36 : Nat) (q37 : Nat) (q38 : Nat) (q39 : Nat) (q40 : Nat) (q41 : Nat) (q42 : Nat) (q43 : Nat) (q44 : Nat) (q45 : Nat) (q46 : Nat) : va_W := [(h0, .inr (5, [.ref q1, .ref q2, .ref q3, .ref q4, .ref q5, .int 0])), (q1, .inr (1, [.ref q6, .ref q10, .int 1])), (q6, outA (cy 3) 3 r7), (r7 0, .inl (cy 0, 60, .inl (fun _ => 0))), (r7 1, .inl (cy 0, 60, .inl (fun _ => 0))), (r7 2, .inl (cy 0, 60, .inl (fun _ => 0))), (q10, .inl (cy 0, 60, .inl (fun _ => 0))), (q2, .inr (3, [.ref q11, .int (-1), .int 0])), (q11, .inl (cy 0, 60, .inl (fun _ => 0))), (q3, .inr (4, [.ref q12, .ref q27, .ref q28, .long 1, .int 0])), (q12, outA (cy 4) 14 r13), (r13 0, .inl (cy 1, 15, .inr (.inl (fun _ => 0)))), (r13 1, .inl (cy 1, 15, .inr (.inl (fun _ => 0)))), (r13 2, .inl (cy 1, 15, .inr (.inl (fun _ => 0)))), (r13 3, .inl (cy 1, 15, .inr (.inl (fun _ => 0)))), (r13 4, .inl (cy 1, 15, .inr (.inl (fun _ => 0)))), (r13 5, .inl (cy 1, 15, .inr (.inl (fun _ => 0)))), (r13 6, .inl (cy 1, 15, .inr (.inl (fun _ => 0)))), (r13 7, .inl (cy 1, 15, .inr (.inl (fun _ => 0)))), (r13 8, .inl (cy 1, 15, .inr (.inl (fun _ => 0)))), (r13 9, .inl (cy 1, 15, .inr (.inl (fun _ => 0)))), (r13 10, .inl (cy 1, 15, .inr (.inl (fun _ => 0)))), (r13 11, .inl (cy 1, 15, .inr (.inl (fun _ => 0)))), (r13 12, .inl (cy 1, 15, .inr (.inl (fun _ => 0)))), (r13 13, .inl (cy 1, 15, .inr (.inl (fun _ => 0)))), (q27, .inl (cy 1, 14, .inr (.inl (fun _ => 0)))), (q28, .inl (cy 1, 14, .inr (.inl (fun _ => 0)))), (q4, .inr (2, [.ref q29, .ref q30, .ref q31, .int 0])), (q29, .inl (cy 0, 300, .inl (fun _ => 0))), (q30, .inl (cy 0, 300, .inl (fun _ => 0))), (q31, .inl (cy 0, 800, .inl (fun _ => 0))), (q5, .inr (0, [.ref q32, .int 0])), (q32, .inl (cy 0, 32, .inl (fun _ => 0))), (h33, .inr (6, [.int 1, .ref q34, .ref q35, .ref q36, .ref q37, .int (-1), .int 0, .ref q38, .long 0, .ref q39, .int (-1), .ref q40, .ref q41, .int 0, .int 0, .int 0, .ref q42, .ref q43, .ref q44, .ref q45, .long 0])), (q34, .inl (cy 0, 60, .inl (fun _ => 0))), (q35, .inl (cy 0, 60, .inl (fun _ => 0))), (q36, .inl (cy 0, 60, .inl (fun _ => 0))), (q37, .inl (cy 2, 60, .inl (fun _ => 0))), (q38, .inl (cy 0, 60, .inl (fun _ => 0))), (q39, .inl (cy 1, 14, .inr (.inl (fun _ => 0)))), (q40, .inl (cy 0, 1024, .inl (fun _ => 0))), (q41, .inl (cy 0, 800, .inl (fun _ => 0))), (q42, .inl (cy 1, 210, .inr (.inl (fun _ => 0)))), (q43, .inl (cy 1, 15, .inr (.inl (fun _ => 0)))), (q44, .inl (cy 1, 14, .inr (.inl (fun _ => 0)))), (q45, .inl (cy 0, 60, .inl (fun _ => 0))), (q46, .inl (cy 1, 1, .inr (.inl (fun _ => 0))))]
def pi0 : Nat → Nat := fun k => [0, 1, 7, 9, 27, 31, 2, 3, 4, 5, 6, 8, 10, 11, 12, 13, 14, 15, 16, 17, 18, 19, 20, 21, 22, 23, 24, 25, 26, 28, 29, 30, 32, 33, 34, 35, 36, 37, 38, 39, 40, 41, 42, 43, 44, 45, 46].getD k 0
theorem pi0_inj : ∀ i, i < 47 → ∀ j, j < 47 → pi0 i = pi0 j → i = j := by decide +kernel
theorem al0_at (cy : Nat → ClassId) (h0 : Nat) (q1 : Nat) (q6 : Nat) (r7 : Nat → Nat) (q10 : Nat) (q2 : Nat) (q11 : Nat) (q3 : Nat) (q12 : Nat) (r13 : Nat → Nat) (q27 : Nat) (q28 : Nat) (q4 : Nat) (q29 : Nat) (q30 : Nat) (q31 : Nat) (q5 : Nat) (q32 : Nat) (h33 : Nat) (q34 : Nat) (q35 : Nat) (q36 : Nat) (q37 : Nat) (q38 : Nat) (q39 : Nat) (q40 : Nat) (q41 : Nat) (q42 : Nat) (q43 : Nat) (q44 : Nat) (q45 : Nat) (q46 : Nat) (t b : Nat) : ∀ k, k < 47 → ∃ e, (al0 cy h0 q1 q6 r7 q10 q2 q11 q3 q12 r13 q27 q28 q4 q29 q30 q31 q5 q32 h33 q34 q35 q36 q37 q38 q39 q40 q41 q42 q43 q44 q45 q46)[pi0 k]? = some (ad0 h0 q1 q6 r7 q10 q2 q11 q3 q12 r13 q27 q28 q4 q29 q30 q31 q5 q32 h33 q34 q35 q36 q37 q38 q39 q40 q41 q42 q43 q44 q45 q46 t b k, e) := by
  intro k hk
  match k, hk with
  | 0, _ => exact ⟨_, rfl⟩
  | 1, _ => exact ⟨_, rfl⟩
  | 2, _ => exact ⟨_, rfl⟩
  | 3, _ => exact ⟨_, rfl⟩
  | 4, _ => exact ⟨_, rfl⟩
  | 5, _ => exact ⟨_, rfl⟩
  | 6, _ => exact ⟨_, rfl⟩
  | 7, _ => exact ⟨_, rfl⟩
  | 8, _ => exact ⟨_, rfl⟩
  | 9, _ => exact ⟨_, rfl⟩
  | 10, _ => exact ⟨_, rfl⟩
  | 11, _ => exact ⟨_, rfl⟩
  | 12, _ => exact ⟨_, rfl⟩
  | 13, _ => exact ⟨_, rfl⟩
  | 14, _ => exact ⟨_, rfl⟩
  | 15, _ => exact ⟨_, rfl⟩
  | 16, _ => exact ⟨_, rfl⟩
  | 17, _ => exact ⟨_, rfl⟩
  | 18, _ => exact ⟨_, rfl⟩
  | 19, _ => exact ⟨_, rfl⟩
  | 20, _ => exact ⟨_, rfl⟩
  | 21, _ => exact ⟨_, rfl⟩
  | 22, _ => exact ⟨_, rfl⟩
  | 23, _ => exact ⟨_, rfl⟩
  | 24, _ => exact ⟨_, rfl⟩
  | 25, _ => exact ⟨_, rfl⟩
  | 26, _ => exact ⟨_, rfl⟩
  | 27, _ => exact ⟨_, rfl⟩
  | 28, _ => exact ⟨_, rfl⟩
  | 29, _ => exact ⟨_, rfl⟩
  | 30, _ => exact ⟨_, rfl⟩
  | 31, _ => exact ⟨_, rfl⟩
  | 32, _ => exact ⟨_, rfl⟩
  | 33, _ => exact ⟨_, rfl⟩
  | 34, _ => exact ⟨_, rfl⟩
  | 35, _ => exact ⟨_, rfl⟩
  | 36, _ => exact ⟨_, rfl⟩
  | 37, _ => exact ⟨_, rfl⟩
  | 38, _ => exact ⟨_, rfl⟩
  | 39, _ => exact ⟨_, rfl⟩
  | 40, _ => exact ⟨_, rfl⟩
  | 41, _ => exact ⟨_, rfl⟩
  | 42, _ => exact ⟨_, rfl⟩
  | 43, _ => exact ⟨_, rfl⟩
  | 44, _ => exact ⟨_, rfl⟩
  | 45, _ => exact ⟨_, rfl⟩
  | 46, _ => exact ⟨_, rfl⟩
  | k + 47, hk => exact absurd hk (by omega)
theorem al0_P {D : va_G} {cy : Nat → ClassId} {H : Heap} {h0 q1 q6 q10 q2 q11 q3 q12 q27 q28 q4 q29 q30 q31 q5 q32 h33 q34 q35 q36 q37 q38 q39 q40 q41 q42 q43 q44 q45 q46 : Nat} {r7 r13 : Nat → Nat} (t b : Nat) (hP : va_P D cl7 (al0 cy h0 q1 q6 r7 q10 q2 q11 q3 q12 r13 q27 q28 q4 q29 q30 q31 q5 q32 h33 q34 q35 q36 q37 q38 q39 q40 q41 q42 q43 q44 q45 q46) H) : va_P D cl7 (wd (ad0 h0 q1 q6 r7 q10 q2 q11 q3 q12 r13 q27 q28 q4 q29 q30 q31 q5 q32 h33 q34 q35 q36 q37 q38 q39 q40 q41 q42 q43 q44 q45 q46 t b) cy M0) H := by
  have e6 : outA (cy 3) 3 r7 = cellOf (ad0 h0 q1 q6 r7 q10 q2 q11 q3 q12 r13 q27 q28 q4 q29 q30 q31 q5 q32 h33 q34 q35 q36 q37 q38 q39 q40 q41 q42 q43 q44 q45 q46 t b) cy 6 (M0.1 6) (M0.2 6) := by
    have e : (fun j => if j < 3 then some (r7 j) else none) = (fun j => if j < 3 then some (ad0 h0 q1 q6 r7 q10 q2 q11 q3 q12 r13 q27 q28 q4 q29 q30 q31 q5 q32 h33 q34 q35 q36 q37 q38 q39 q40 q41 q42 q43 q44 q45 q46 t b (7 + j)) else none) := by
      funext j
      by_cases h : j < 3
      · rw [if_pos h, if_pos h]
        match j, h with
        | 0, _ => rfl
        | 1, _ => rfl
        | 2, _ => rfl
      · rw [if_neg h, if_neg h]
    unfold outA
    rw [e]
    rfl
  have e12 : outA (cy 4) 14 r13 = cellOf (ad0 h0 q1 q6 r7 q10 q2 q11 q3 q12 r13 q27 q28 q4 q29 q30 q31 q5 q32 h33 q34 q35 q36 q37 q38 q39 q40 q41 q42 q43 q44 q45 q46 t b) cy 12 (M0.1 12) (M0.2 12) := by
    have e : (fun j => if j < 14 then some (r13 j) else none) = (fun j => if j < 14 then some (ad0 h0 q1 q6 r7 q10 q2 q11 q3 q12 r13 q27 q28 q4 q29 q30 q31 q5 q32 h33 q34 q35 q36 q37 q38 q39 q40 q41 q42 q43 q44 q45 q46 t b (13 + j)) else none) := by
      funext j
      by_cases h : j < 14
      · rw [if_pos h, if_pos h]
        match j, h with
        | 0, _ => rfl
        | 1, _ => rfl
        | 2, _ => rfl
        | 3, _ => rfl
        | 4, _ => rfl
        | 5, _ => rfl
        | 6, _ => rfl
        | 7, _ => rfl
        | 8, _ => rfl
        | 9, _ => rfl
        | 10, _ => rfl
        | 11, _ => rfl
        | 12, _ => rfl
        | 13, _ => rfl
      · rw [if_neg h, if_neg h]
    unfold outA
    rw [e]
    rfl
  intro k q hq
  by_cases hk : k < 47
  · rw [wd_get hk] at hq
    cases hq
    match k, hk with
    | 0, _ => exact hP 0 _ rfl
    | 1, _ => exact hP 1 _ rfl
    | 2, _ => exact hP 7 _ rfl
    | 3, _ => exact hP 9 _ rfl
    | 4, _ => exact hP 27 _ rfl
    | 5, _ => exact hP 31 _ rfl
    | 6, _ => rw [← e6]; exact hP 2 _ rfl
    | 7, _ => exact hP 3 _ rfl
    | 8, _ => exact hP 4 _ rfl
    | 9, _ => exact hP 5 _ rfl
    | 10, _ => exact hP 6 _ rfl
    | 11, _ => exact hP 8 _ rfl
    | 12, _ => rw [← e12]; exact hP 10 _ rfl
    | 13, _ => exact hP 11 _ rfl
    | 14, _ => exact hP 12 _ rfl
    | 15, _ => exact hP 13 _ rfl
    | 16, _ => exact hP 14 _ rfl
    | 17, _ => exact hP 15 _ rfl
    | 18, _ => exact hP 16 _ rfl
    | 19, _ => exact hP 17 _ rfl
    | 20, _ => exact hP 18 _ rfl
    | 21, _ => exact hP 19 _ rfl
    | 22, _ => exact hP 20 _ rfl
    | 23, _ => exact hP 21 _ rfl
    | 24, _ => exact hP 22 _ rfl
    | 25, _ => exact hP 23 _ rfl
    | 26, _ => exact hP 24 _ rfl
    | 27, _ => exact hP 25 _ rfl
    | 28, _ => exact hP 26 _ rfl
    | 29, _ => exact hP 28 _ rfl
    | 30, _ => exact hP 29 _ rfl
    | 31, _ => exact hP 30 _ rfl
    | 32, _ => exact hP 32 _ rfl
    | 33, _ => exact hP 33 _ rfl
    | 34, _ => exact hP 34 _ rfl
    | 35, _ => exact hP 35 _ rfl
    | 36, _ => exact hP 36 _ rfl
    | 37, _ => exact hP 37 _ rfl
    | 38, _ => exact hP 38 _ rfl
    | 39, _ => exact hP 39 _ rfl
    | 40, _ => exact hP 40 _ rfl
    | 41, _ => exact hP 41 _ rfl
    | 42, _ => exact hP 42 _ rfl
    | 43, _ => exact hP 43 _ rfl
    | 44, _ => exact hP 44 _ rfl
    | 45, _ => exact hP 45 _ rfl
    | 46, _ => exact hP 46 _ rfl
    | k + 47, hk => exact absurd hk (by omega)
  · simp [wd, hk] at hq
