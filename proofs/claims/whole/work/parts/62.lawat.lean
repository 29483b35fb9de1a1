/-! the law's own at: it catches what HoleMask.at throws -/
abbrev mL_at : Mb := (yL_at, cL_at, 5, some .int)
abbrev hhA : List (Nat × Nat × Nat × Nat) := [(0, 10, 13, 13)]
def wsA : List Cond := .codeWith yL_at cL_at 5 (some .int) hhA :: tw
theorem tk_L_at : Cond.codeWith yL_at cL_at 5 (some .int) hhA ∈ tw := tw_i 619 (by decide +kernel) (by decide +kernel)
theorem tk_L_13 : Cond.classLink RL 13 NSE ∈ tw := tw_i 620 (by decide +kernel) (by decide +kernel)
theorem preT_blind {γ : Cc} {as : List Value} {sz : Nat} {μ : Mm} : FrameBlind (va_Pc as (PreT γ sz μ)) := by
  intro a U g mk q
  obtain ⟨q0, q1, q2⟩ := q
  obtain ⟨-, h1⟩ := pre_blind (as := as) (γ := γ) (sz := sz) (μ := μ) a U g mk ⟨q0, q1⟩
  exact ⟨q0, h1, q2.at (State.WarmedH.refl U) (fun _ _ _ => rfl) (fun _ h => h)⟩
theorem lo_in (γ : Cc) {as : List Value} {n : Nat} {lo : List (Option Value)} {ls : Array Slot} (hn : (lo1 as).length ≤ n) (hlo : lo1 as ++ List.replicate (n - (lo1 as).length) none = lo) (hl : lv_has ls n (lv_args 0 (as.map (rv γ.1)))) : Lo γ ls n lo := by
  refine ⟨hl.1, hl.2.1, ?_, ?_⟩
  · rw [← hlo]; simp
    try omega
  · intro i v hi
    rw [← hlo] at hi
    have hi2 : (lo1 as)[i]? = some (some v) := by
      by_cases hlt : i < (lo1 as).length
      · rw [List.getElem?_append_left hlt] at hi; exact hi
      · rw [List.getElem?_append_right (by omega)] at hi
        rw [List.getElem?_replicate] at hi
        split at hi <;> cases hi
    have := lo1_args γ.1 as 0 i v hi2
    rw [Nat.zero_add] at this
    exact hl.2.2 _ this
/-- the law's at, its contract -/
def OkA (rm : Room) (as : List Value) (μ : Mm) (R : Option Value × Mm) : Prop := ∀ (γ : Cc) (l : Launch) (sz : Nat), l.stackTraces = false → Met l yL_at wsA rm (va_Pc (as.map (rv γ.1)) (PreT γ sz μ)) (QR γ R sz) rm.cells rm.slots (Adr γ.1 sz)
abbrev rmA : Room := { frames := 7, cells := 1, slots := 6, locals := 160 }
abbrev rmA0 : Room := { frames := 7, cells := 0, slots := 0, locals := 160 }
theorem OkA.ofG {as : List Value} {μ : Mm} {R : Option Value × Mm} (hn : (lo1 as).length ≤ 5) (lo : List (Option Value)) (hlo : lo1 as ++ List.replicate (5 - (lo1 as).length) none = lo) (h : G mL_at rmA0 R μ 0 lo []) : OkA rmA0 as μ R := by
  intro γ l sz _
  refine va_MetW (cc := cL_at) (maxL := 5) (ret := some .int) (hh := hhA) (by decide) rfl ?_
  intro p e s m args below meth c s₁ B hml hv
  obtain ⟨rfl, ⟨hsz, hP, hK, hI, hZ⟩, -⟩ := hv
  subst hsz
  have hts := atoms_spec (ws := wsA) B.pre
  have hl := lv_entry (as.map (rv γ.1)) (n := 5) (by rw [lo1_len]; exact hn)
  rw [lg_entry_eq]
  exact h γ p l e s m _ below meth c ⟨B.exec, B.bytes, B.returns, hml, findClass_of_methodNamed B.named, fun w hw => hts w (List.mem_cons_of_mem _ hw), B.notSynchronized, hK, hI, hZ⟩ s.heap [] _ ⟨hP, va_S.rf⟩ (lo_in γ hn hlo hl)
theorem a_ok (μ : Mm) {w j n : Nat} (hn : μ.1 1 2 = nI n) (h60 : n ≤ 60) (hw : w < 3) (hj : j < n) (hv : μ.1 (7 + w) j ≠ nI 1073741824) : OkA rmA0 [.ref 0, .int (nI w), .int (nI j), .ref 46] μ (some (.int (nI 0)), sL μ 46 0 (μ.1 (7 + w) j).toInt64) := by
  refine OkA.ofG (Nat.le_of_ble_eq_true rfl) [some (.ref 0), some (.int (nI w)), some (.int (nI j)), some (.ref 46), none] rfl ?_
  refine g_aload_n 3 _ dL_at_0 rfl rfl ?_
  refine g_iconst (nI 0) dL_at_1 rfl ?_
  refine g_aload_n 0 _ dL_at_2 rfl rfl ?_
  refine g_iload_n 1 _ dL_at_3 rfl rfl ?_
  refine g_iload_n 2 _ dL_at_4 rfl rfl ?_
  refine g_backi (g_runV (c_at_ok μ hn h60 hw hj hv) rfl mw_X5_at mi_X5_at ml_L_7 isO_0 ⟨rfl, rfl, Nat.le_of_ble_eq_true rfl, Nat.le_of_ble_eq_true rfl⟩ rfl rfl (Nat.le_of_ble_eq_true rfl) dL_at_5) ?_
  refine g_i2l dL_at_8 ?_
  refine g_lastore (j := 0) isL_46 rfl (by decide) (by decide) dL_at_9 ?_
  refine g_goto 17 dL_at_10 (by decide) ?_
  refine g_iconst (nI 0) dL_at_17 rfl ?_
  exact g_ireturn dL_at_18 rfl rfl rfl
theorem a_no {μ : Mm} {a b : Int32} (hX : Xt mX5_at [.ref 0, .int a, .int b] μ) : OkA rmA [.ref 0, .int a, .int b, .ref 46] μ (some (.int (nI 1)), μ) := by
  intro γ l sz hlt
  refine va_MetW (cc := cL_at) (maxL := 5) (ret := some .int) (hh := hhA) (by decide) rfl ?_
  intro p e s m args below meth c s₁ B hml hv
  obtain ⟨rfl, ⟨hsz, hP, hK, hI, hZ⟩, hZt⟩ := hv
  subst hsz
  have hts := atoms_spec (ws := wsA) B.pre
  have htab : c.exceptionTable.toList = tableOf hhA := vx_table (x := yL_at) B (hts _ List.mem_cons_self)
  have htw : ∀ w ∈ tw, w.before _ s = true := fun w hw => hts w (List.mem_cons_of_mem _ hw)
  have hl := lv_entry ([Value.ref 0, .int a, .int b, .ref 46].map (rv γ.1)) (n := 5) (by rw [lo1_len]; exact Nat.le_of_ble_eq_true rfl)
  rw [lg_entry_eq]
  have hLo := lo_in γ (as := [Value.ref 0, .int a, .int b, .ref 46]) (lo := [some (.ref 0), some (.int a), some (.int b), some (.ref 46), none]) (Nat.le_of_ble_eq_true rfl) rfl hl
  generalize ((lg_sl ([Value.ref 0, .int a, .int b, .ref 46].map (rv γ.1)) ++ List.replicate (5 - (lg_sl ([Value.ref 0, .int a, .int b, .ref 46].map (rv γ.1))).length) Slot.unset).toArray) = ls at hLo
  have C : Cx γ mL_at p s m _ meth c := ⟨B.exec, B.bytes, B.returns, hml, findClass_of_methodNamed B.named, htw, B.notSynchronized, hK, hI, hZ⟩
  have hw : Hw γ s s.heap [] μ := ⟨hP, va_S.rf⟩
  have ho : s.vm.findClass RL = some m.cls := C.2.2.2.2.1
  refine lv_aload_n B.exec B.bytes dL_at_0 rfl (hLo.2.2.2 3 _ rfl) ?_
  refine lv_iconst B.exec B.bytes dL_at_1 (v := nI 0) rfl ?_
  refine lv_aload_n B.exec B.bytes dL_at_2 rfl (hLo.2.2.2 0 _ rfl) ?_
  refine lv_iload_n B.exec B.bytes dL_at_3 rfl (hLo.2.2.2 1 _ rfl) ?_
  refine lv_iload_n B.exec B.bytes dL_at_4 rfl (hLo.2.2.2 2 _ rfl) ?_
  have hr := vx_runV (p := p) (e := e) (R := rmA) (below := below) (meth := meth) (H := s.heap) (locs := []) (cells := 0) (slots := 0) (b := γ.1 0) (As := [.int a, .int b]) (C := RX5) (nL := 5) (rest := [.int (nI 0), .ref (γ.1 46)]) (g := F0 m 5 ls [.int b, .int a, .ref (γ.1 0), .int (nI 0), .ref (γ.1 46)]) ⟨C.1, C.2.1, C.2.2.2.1, ho, htw⟩ (hX γ l s.heap.size hlt) ⟨callB_of 2 htw (tw_in mw_X5_at.1) rfl rfl rfl (htw _ mw_X5_at.2.1) (htw _ ml_L_7) mw_X5_at.2.2 ⟨Nat.le_of_ble_eq_true rfl, Nat.le_of_ble_eq_true rfl⟩, htw _ mi_X5_at.1, htw _ mi_X5_at.2⟩ ⟨preT_blind, va_recv (q0 := 0) C.2.2.2.2.2.2.2.1.1 hw.1 (ci := 5) rfl (by rw [wd_get isF_0.1, isF_0.2]), fun U hU hW => ⟨rfl, pre_at C hw U hU hW, hZt.at hW (fun _ _ _ => by rw [hU]) (fun _ h => h)⟩⟩ rfl rfl hLo.1 rfl (lv_room (Nat.le_of_ble_eq_true rfl)) dL_at_5 ⟨by decide, by decide⟩
  refine vx_calli (A0 := Adr γ.1 s.heap.size) (H0 := s.heap) hr va_S.rf (fun q _ h => h) (fun _ h => h) (fun q _ h => h) (fun E ce q9 u t H1 locs1 ht hvm _ hB _ _ hS hce hcv hcl => ?_) (fun r u t H1 locs1 ht hvm hp _ _ _ _ => hp.elim)
  obtain ⟨rfl, hB⟩ := hB
  subst ht
  refine k_catch (name := NSE) (x := ⟨0, 10, 13, 13⟩) ho htab (by decide) (by decide) (htw _ tk_L_13) (cast_args hZt.2.2.2.2.1) hce hcv hcl ?_
  refine lv_astore B.exec B.bytes dL_at_13 hLo.has (by decide) rfl (fun ls' hl' => ?_)
  refine lv_iconst B.exec B.bytes dL_at_15 (v := nI 1) rfl ?_
  exact W.zret B.exec B.bytes B.returns rfl (fun t' ht' hW' => ⟨⟨nI 1, (), rfl, rfl, by show Wp γ μ t'.heap; rw [ht']; exact hB⟩, hS.F ht'⟩) hS.2.2 dL_at_16 B.notSynchronized
