/-! Making the world: new rows of a known class, and the constructors' frame -/
section
variable {p : Program} {l : Launch} {e : Env} {R : Room} {s : State} {m : MethodId} {args : Array Value} {below : List Frame} {meth : Method} {c : Code} {H : Heap} {locs : List Loc} {cells slots : Nat} {Q : State → Prop}
variable {cc : ByteArray} {pc : Nat} {ls : Array Slot} {rest : List Value} {D : va_G} {A : Nat → Prop} {ws : va_W} {H0 : Heap} {cy : Nat → ClassId}
theorem k_newa (hexec : p.tables.exec = Jvm.exec) (hb : c.code = cc) {atype : ArrayType} (harr : (Cond.arrayClass (newarray.typeOf atype)).before args s = true) {ty : FieldType} (hty : newarray.typeOf atype = ty) (hK : va_K D cl7 (ty5 cy) s) (t0 : Nat) {cI : ClassId} (ht : (ty5 cy)[t0]? = some (cI, ty)) (hu : ∀ a b : ClassId, va_RA s a ty → va_RA s b ty → a = b) (hP : va_P D cl7 ws H) (hD : va_D A ws) (hS : va_S A H0 H locs) (hA : ∀ q, H0.size ≤ q → A q)
    {n : Int32} {N' : Nat} {a0 : vp_A} (ha : ∀ cA : ClassId, vp_cell cA a0 = arrV cA N' (fun _ => defaultValue ty)) (hn : ¬ n < 0) (hN : n.toNatClampNeg = N') (hbytes : N' * componentBytes ty ≤ 536870912) (hcells : cells + 1 ≤ R.cells) (hslots : slots + N' ≤ R.slots) (hdg : decode cc pc = .ok (.newarray atype, 2))
    (kk : ∀ (q : Nat) (H1 : Heap), va_P D cl7 (ws ++ [(q, .inl (cI, a0))]) H1 → va_D A (ws ++ [(q, .inl (cI, a0))]) → va_S A H0 H1 locs → W p l e R s m args below meth c H1 locs (cells + 1) (slots + N') Q (F0 m (pc + 2) ls (.ref q :: rest))) : W p l e R s m args below meth c H locs cells slots Q (F0 m pc ls (.int n :: rest)) := by
  refine va_newa hexec hb harr hty hK hP hD hS hA ha hn hN hbytes hcells hslots hdg (fun q cA H1 hK1 hP1 hD1 hS1 => ?_)
  have h1 : (ty5 cy ++ [(cA, ty)])[(ty5 cy).length]? = some (cA, ty) := by simp
  have e9 : cA = cI := hu _ _ (hK1.2 _ _ h1).2 (hK.2 t0 _ ht).2
  subst e9
  exact kk q H1 hP1 hD1 hS1
theorem ra_i (a b : ClassId) (h1 : va_RA s a .int) (h2 : va_RA s b .int) : a = b := Option.some.inj (h1.symm.trans h2)
theorem ra_l (a b : ClassId) (h1 : va_RA s a .long) (h2 : va_RA s b .long) : a = b := Option.some.inj (h1.symm.trans h2)
theorem ra_z (a b : ClassId) (h1 : va_RA s a .boolean) (h2 : va_RA s b .boolean) : a = b := Option.some.inj (h1.symm.trans h2)
theorem D_app {L2 : va_W} {h : Nat} (hD : va_D A ws) (hw : ∀ (k : Nat) (x : Nat × va_E), ws[k]? = some x → x.1 < h) (h2 : ∀ (k : Nat) (x : Nat × va_E), L2[k]? = some x → x.1 = h + k) (hA : ∀ a, h ≤ a → A a) : va_D A (ws ++ L2) := by
  refine ⟨fun i j x y hi hj exy => ?_, fun k x hx => ?_⟩
  · by_cases c1 : i < ws.length
    · rw [List.getElem?_append_left c1] at hi
      by_cases c2 : j < ws.length
      · rw [List.getElem?_append_left c2] at hj
        exact hD.1 i j x y hi hj exy
      · rw [List.getElem?_append_right (by omega)] at hj
        have q1 := hw _ _ hi
        have q2 := h2 _ _ hj
        omega
    · rw [List.getElem?_append_right (by omega)] at hi
      by_cases c2 : j < ws.length
      · rw [List.getElem?_append_left c2] at hj
        have q1 := hw _ _ hj
        have q2 := h2 _ _ hi
        omega
      · rw [List.getElem?_append_right (by omega)] at hj
        have q1 := h2 _ _ hi
        have q2 := h2 _ _ hj
        omega
  · by_cases c1 : k < ws.length
    · rw [List.getElem?_append_left c1] at hx
      exact hD.2 k x hx
    · rw [List.getElem?_append_right (by omega)] at hx
      exact hA _ (by rw [h2 _ _ hx]; omega)
/-- the outer row's cell and the inner ones' -/
def outA (cA : ClassId) (N : Nat) (r : Nat → Nat) : va_E := .inl (cA, N, .inr (.inr (.inr (.inr (fun j => if j < N then some (r j) else none)))))
theorem k_mna (hexec : p.tables.exec = Jvm.exec) (hb : c.code = cc) {own : String} {index : Nat} {ty : FieldType} (hown : s.vm.findClass own = some m.cls) (hclink : (Cond.classLink own index ("[" ++ (FieldType.array ty).toString)).before args s = true) (hover : (Cond.arrayOver (.array ty)).before args s = true) (harr : (Cond.arrayClass ty).before args s = true) {cO cI : ClassId} (hO : s.vm.findClass ("[" ++ (FieldType.array ty).toString) = some cO) (hI : s.vm.findClass (FieldType.array ty).toString = some cI) (hP : va_P D cl7 ws H) (hD : va_D A ws) (hS : va_S A H0 H locs) (hA : ∀ q, H0.size ≤ q → A q)
    {n k : Int32} {N K : Nat} {z : vp_A} (hn : ¬ n < 0) (hk : ¬ k < 0) (hN : n.toNatClampNeg = N) (hKk : k.toNatClampNeg = K) (hb1 : N * 4 ≤ 536870912) (hb2 : K * componentBytes ty ≤ 536870912) (hb3 : K ≤ 536870912) (hf : fits ty (defaultValue ty) = true) (hz : ∀ cA : ClassId, gdI cA K (defaultValue ty) = vp_cell cA z) (hcells : cells + (1 + N) ≤ R.cells) (hslots : slots + (N + N * K) ≤ R.slots) (hdg : decode cc pc = .ok (.multianewarray index 2, 4))
    (kk : ∀ (q : Nat) (r : Nat → Nat) (H1 : Heap), va_P D cl7 (ws ++ (q, outA cO N r) :: (List.range N).map (fun j => (r j, .inl (cI, z)))) H1 → va_D A (ws ++ (q, outA cO N r) :: (List.range N).map (fun j => (r j, .inl (cI, z)))) → va_S A H0 H1 locs → W p l e R s m args below meth c H1 locs (cells + 1 + N) (slots + N + N * K) Q (F0 m (pc + 4) ls (.ref q :: rest))) : W p l e R s m args below meth c H locs cells slots Q (F0 m pc ls (.int k :: .int n :: rest)) := by
  refine gd_W hexec hb hown hclink hover harr hn hk hN hKk hb1 hb2 hb3 hf hcells hslots hdg (fun cA cI' H1 f1 f2 z1 z2 z5 z6 => ?_)
  have e1 : cA = cO := Option.some.inj (f1.symm.trans hO)
  have e2 : cI' = cI := Option.some.inj (f2.symm.trans hI)
  subst e1; subst e2
  have hlt : ∀ (k : Nat) (x : Nat × va_E), ws[k]? = some x → x.1 < H.size := fun k x hx => (hP k x hx).lt
  have hadr : ∀ (k : Nat) (x : Nat × va_E), ((H.size, outA cA N (fun j => H.size + 1 + j)) :: (List.range N).map (fun j => ((H.size + 1 + j, .inl (cI', z)) : Nat × va_E)))[k]? = some x → x.1 = H.size + k := by
    intro k x hx
    cases k with
    | zero => cases hx; rfl
    | succ k =>
      rw [List.getElem?_cons_succ, List.getElem?_map] at hx
      by_cases h9 : k < N
      · rw [List.getElem?_range h9] at hx
        cases hx
        show H.size + 1 + k = H.size + (k + 1)
        omega
      · rw [List.getElem?_eq_none (by rw [List.length_range]; omega)] at hx
        cases hx
  refine kk H.size (fun j => H.size + 1 + j) H1 ?_ (D_app hD hlt hadr (fun a ha => hA a (Nat.le_trans hS.1 ha))) ⟨by rw [z1]; have := hS.1; omega, fun x h1 h2 => (z5 x (Nat.lt_of_lt_of_le h1 hS.1)).trans (hS.2.1 x h1 h2), hS.2.2⟩
  refine (hP.kept (fun k x hx => z5 x.1 (hlt k x hx))).app (fun k x hx => ?_)
  cases k with
  | zero =>
    cases hx
    show H1[H.size]? = some (vp_cell cA _)
    rw [z2, vp_cell_q]; rfl
  | succ k =>
    rw [List.getElem?_cons_succ, List.getElem?_map] at hx
    by_cases h9 : k < N
    · rw [List.getElem?_range h9] at hx
      cases hx
      show H1[H.size + 1 + k]? = some (vp_cell cI' z)
      rw [z6 k h9, hz]
    · rw [List.getElem?_eq_none (by rw [List.length_range]; omega)] at hx
      cases hx
end
/-- what a constructor finds: the classes, and that rows of rows can be made -/
def Kc (γ : Cc) (U : State) : Prop := Kw γ U ∧ (Cond.arrayOver (.array .int)).before #[] U = true ∧ (Cond.arrayOver (.array .long)).before #[] U = true
theorem Kc.warm {γ : Cc} {s U : State} (h : Kc γ s) (hW : s.WarmedH U.vm) : Kc γ U := ⟨h.1.warm hW, over_moved hW.alike h.2.1, over_moved hW.alike h.2.2⟩
theorem Kc.same {γ : Cc} {s U : State} (h : Kc γ s) (hW : s.vm = U.vm) : Kc γ U := ⟨h.1.same hW, over_moved (hW ▸ Vm.Alike.refl s.vm) h.2.1, over_moved (hW ▸ Vm.Alike.refl s.vm) h.2.2⟩
abbrev ow (h0 : Nat) (e0 : va_E) : va_W := [(h0, e0)]
/-- a constructor's contract: the object h0, as new, becomes the world that P tells -/
def Ki (M : Mb) (rm : Room) (e0 : va_E) (P : Cc → Nat → va_W → Prop) : Prop := ∀ (γ : Cc) (l : Launch) (sz h0 : Nat), Met l M.1 (wsM M) rm (va_Pc [.ref h0] (fun U => U.heap.size = sz ∧ va_P γ.2.1 cl7 (ow h0 e0) U.heap ∧ Kc γ U)) (va_Qv (fun w : va_W => P γ h0 w) (fun w t => va_P γ.2.1 cl7 w t.heap ∧ va_D (va_A (ow h0 e0) sz) w) (va_A (ow h0 e0) sz)) rm.cells rm.slots (va_A (ow h0 e0) sz)
theorem ki_blind {γ : Cc} {sz h0 : Nat} {e0 : va_E} : FrameBlind (va_Pc [.ref h0] (fun U => U.heap.size = sz ∧ va_P γ.2.1 cl7 (ow h0 e0) U.heap ∧ Kc γ U)) := by
  intro a U g mk q
  obtain ⟨q0, q1, q2, q3⟩ := q
  exact ⟨q0, q1, q2, q3.same rfl⟩
theorem ow_D {h0 sz : Nat} {e0 : va_E} : va_D (va_A (ow h0 e0) sz) (ow h0 e0) := by
  refine ⟨fun i j x y hi hj _ => ?_, fun k x hx => va_A.in hx⟩
  have h1 : i < 1 := (List.getElem?_eq_some_iff.mp hi).1
  have h2 : j < 1 := (List.getElem?_eq_some_iff.mp hj).1
  omega
