/-! the static row LIMITS, System.arraycopy, Math -/
theorem tz_24 : Cond.fieldLink RX1 24 "HoleMask$Circle" "LIMITS" "[I" ∈ tw := tw_i 266 (by decide +kernel) (by decide +kernel)
theorem tz_349 : Cond.methodLink RX1 50 arraycopyName ∈ tw := tw_i 349 (by decide +kernel) (by decide +kernel)
theorem tz_350 : Cond.static arraycopyName ∈ tw := tw_i 350 (by decide +kernel) (by decide +kernel)
theorem tz_351 : Cond.native arraycopyName ∈ tw := tw_i 351 (by decide +kernel) (by decide +kernel)
theorem tz_79 : Cond.initialized "java/lang/System" ∈ tw := tw_i 79 (by decide +kernel) (by decide +kernel)
theorem tz_78 : Cond.initialized "java/lang/Math" ∈ tw := tw_i 78 (by decide +kernel) (by decide +kernel)
theorem tz_371 : Cond.methodLink RX5 245 Lib.MathLoose.abs_long.x ∈ tw := tw_i 371 (by decide +kernel) (by decide +kernel)
theorem tz_372 : Cond.static Lib.MathLoose.abs_long.x ∈ tw := tw_i 372 (by decide +kernel) (by decide +kernel)
theorem tz_373 : Cond.code Lib.MathLoose.abs_long.x Lib.MathLoose.abs_long.code 2 (some .long) ∈ tw := tw_i 373 (by decide +kernel) (by decide +kernel)
theorem tz_426 : Cond.methodLink RX4 37 Lib.Math.min.name ∈ tw := tw_i 426 (by decide +kernel) (by decide +kernel)
theorem tz_427 : Cond.static Lib.Math.min.name ∈ tw := tw_i 427 (by decide +kernel) (by decide +kernel)
theorem tz_428 : Cond.code Lib.Math.min.name Lib.Math.min.code 2 (some .int) ∈ tw := tw_i 428 (by decide +kernel) (by decide +kernel)
theorem tz_520 : Cond.methodLink RX2 60 Lib.Math.abs.name ∈ tw := tw_i 520 (by decide +kernel) (by decide +kernel)
theorem tz_521 : Cond.static Lib.Math.abs.name ∈ tw := tw_i 521 (by decide +kernel) (by decide +kernel)
theorem tz_522 : Cond.code Lib.Math.abs.name Lib.Math.abs.code 1 (some .int) ∈ tw := tw_i 522 (by decide +kernel) (by decide +kernel)
theorem tz_523 : Cond.methodLink RX2 66 Lib.Math.max.name ∈ tw := tw_i 523 (by decide +kernel) (by decide +kernel)
theorem tz_524 : Cond.static Lib.Math.max.name ∈ tw := tw_i 524 (by decide +kernel) (by decide +kernel)
theorem tz_525 : Cond.code Lib.Math.max.name Lib.Math.max.code 2 (some .int) ∈ tw := tw_i 525 (by decide +kernel) (by decide +kernel)
theorem tz_526 : Cond.methodLink RX2 69 Lib.Math.min.name ∈ tw := tw_i 526 (by decide +kernel) (by decide +kernel)
theorem tz_612 : Cond.methodLink RX5 222 Lib.Math.min.name ∈ tw := tw_i 612 (by decide +kernel) (by decide +kernel)
def sR (μ : Mm) (k : Nat) (f : Nat → Int32) : Mm := (fun k' => if k' = k then f else μ.1 k', μ.2)
theorem sR_off {μ : Mm} {k : Nat} {f : Nat → Int32} : ∀ k', k' ≠ k → (sR μ k f).1 k' = μ.1 k' ∧ (sR μ k f).2 k' = μ.2 k' := fun k' h => ⟨by simp [sR, h], rfl⟩
theorem sR_at {μ : Mm} {k : Nat} {f : Nat → Int32} : (sR μ k f).1 k = f := by simp [sR]
section
variable {M : Mb} {rm : Room} {R : Option Value × Mm} {μ : Mm} {pc : Nat} {lo : List (Option Value)} {st : List Value}
theorem g_limits (ho : M.1.cls = RX1) (d : decode M.2.1 pc = .ok (.getstatic 24, 3)) (kk : G M rm R μ (pc + 3) lo (.ref 47 :: st)) : G M rm R μ pc lo st := by
  intro γ p l e s m args below meth c C H locs ls hw hl
  have h1 := C.2.2.2.2.1
  rw [ho] at h1
  exact va_gets C.1 C.2.1 C.2.2.2.2.2.2.2.2.2.1 hw.2 h1 (C.2.2.2.2.2.1 _ tz_24) (fun _ h => h) d (kk γ p l e s m args below meth c C H locs ls hw hl)
theorem g_limload {j : Nat} {i : Int32} (hi : i = nI j) (hj : j < 3) (d : decode M.2.1 pc = .ok (.iaload, 1)) (kk : G M rm R μ (pc + 1) lo (.int (limF j) :: st)) : G M rm R μ pc lo (.int i :: .ref 47 :: st) := by
  subst hi
  intro γ p l e s m args below meth c C H locs ls hw hl
  have h := kk γ p l e s m args below meth c C H locs ls hw hl
  exact va_ti C.1 C.2.1 C.2.2.2.2.2.2.2.2.2.2 hw.2 (vp_in_nI hj (by omega)) (v := .int (limF j)) (by rw [nI_clamp (by omega)]) d h
theorem g_copy {k0 k1 n0 n1 n : Nat} {z0 z1 x : Int32} (h0 : isI k0 n0) (h1 : isI k1 n1) (hz0 : z0 = nI 0) (hz1 : z1 = nI 0) (hx : x = nI n) (e0 : n ≤ n0) (e1 : n ≤ n1) (b0 : n0 ≤ 1024) (hf : 1 ≤ rm.frames) (hc : (st.map fun v => v.category).sum + (nativeFrameWords "java/lang/System" "arraycopy" 5 + 11) ≤ rm.locals) (ho : M.1.cls = RX1) (d : decode M.2.1 pc = .ok (.invokestatic 50, 3)) (kk : G M rm R (sR μ k1 (va_cpy (μ.1 k0) (μ.1 k1) 0 0 n)) (pc + 3) lo st) : G M rm R μ pc lo (.int x :: .int z1 :: .ref k1 :: .int z0 :: .ref k0 :: st) := by
  subst hz0; subst hz1; subst hx
  intro γ p l e s m args below meth c C H locs ls hw hl
  have ho1 := C.2.2.2.2.1
  rw [ho] at ho1
  have e2 : (nI n).toNatClampNeg = n := nI_clamp (by omega)
  have e3 : (nI 0).toNatClampNeg = 0 := nI_clamp (by omega)
  refine va_copyi (D := γ.2.1) C.1 C.2.1 (C.2.2.2.1.trans hl.1.symm) ho1 (C.2.2.2.2.2.1 _ tz_349) (C.2.2.2.2.2.1 _ tz_351) (C.2.2.2.2.2.1 _ tz_350) (C.2.2.2.2.2.1 _ tz_79) C.2.2.2.2.2.2.2.1.1 hw.1 (wd_D C.2.2.2.2.2.2.2.2.1) hw.2 k0 k1 0 0 (by rw [wd_get h0.1, h0.2]) (by rw [wd_get h1.1, h1.2]) rfl rfl rfl (nI_pos (n := 0) (by omega)) (nI_pos (n := 0) (by omega)) (nI_pos (n := n) (by omega)) (by rw [e2, e3]; omega) (by rw [e2, e3]; omega) (fun i hi => rfl) hf (by rw [rv_cats]; exact hc) d (fun H1 locs1 hP _ hS => ?_)
  rw [e2, e3, wd_set (μ' := sR μ k1 (va_cpy (μ.1 k0) (μ.1 k1) 0 0 n)) sR_off (by rw [h1.2, sR_at])] at hP
  exact kk γ p l e s m args below meth c C H1 locs1 ls ⟨hP, hS⟩ hl
theorem g_mmin {x y : Int32} {own : String} {index : Nat} (ho : M.1.cls = own) (hlk : Cond.methodLink own index Lib.Math.min.name ∈ tw) (hf : 1 ≤ rm.frames) (hc : (st.map fun v => v.category).sum + 13 ≤ rm.locals) (d : decode M.2.1 pc = .ok (.invokestatic index, 3)) (kk : G M rm R μ (pc + 3) lo (.int (if y < x then y else x) :: st)) : G M rm R μ pc lo (.int y :: .int x :: st) := by
  subst ho
  intro γ p l e s m args below meth c C H locs ls hw hl
  exact va_mmin C.1 C.2.1 (C.2.2.2.1.trans hl.1.symm) C.2.2.2.2.1 (C.2.2.2.2.2.1 _ hlk) (C.2.2.2.2.2.1 _ tz_427) (C.2.2.2.2.2.1 _ tz_78) (C.2.2.2.2.2.1 _ tz_428) hf (by rw [rv_cats]; exact hc) (Nat.zero_le _) (Nat.zero_le _) d (kk γ p l e s m args below meth c C H locs ls hw hl)
theorem g_mmax {x y : Int32} {own : String} {index : Nat} (ho : M.1.cls = own) (hlk : Cond.methodLink own index Lib.Math.max.name ∈ tw) (hf : 1 ≤ rm.frames) (hc : (st.map fun v => v.category).sum + 13 ≤ rm.locals) (d : decode M.2.1 pc = .ok (.invokestatic index, 3)) (kk : G M rm R μ (pc + 3) lo (.int (if x < y then y else x) :: st)) : G M rm R μ pc lo (.int y :: .int x :: st) := by
  subst ho
  intro γ p l e s m args below meth c C H locs ls hw hl
  exact va_mmax C.1 C.2.1 (C.2.2.2.1.trans hl.1.symm) C.2.2.2.2.1 (C.2.2.2.2.2.1 _ hlk) (C.2.2.2.2.2.1 _ tz_524) (C.2.2.2.2.2.1 _ tz_78) (C.2.2.2.2.2.1 _ tz_525) hf (by rw [rv_cats]; exact hc) (Nat.zero_le _) (Nat.zero_le _) d (kk γ p l e s m args below meth c C H locs ls hw hl)
theorem g_mabs {x : Int32} {own : String} {index : Nat} (ho : M.1.cls = own) (hlk : Cond.methodLink own index Lib.Math.abs.name ∈ tw) (hf : 1 ≤ rm.frames) (hc : (st.map fun v => v.category).sum + 13 ≤ rm.locals) (d : decode M.2.1 pc = .ok (.invokestatic index, 3)) (kk : G M rm R μ (pc + 3) lo (.int (if 0 ≤ x then x else 0 - x) :: st)) : G M rm R μ pc lo (.int x :: st) := by
  subst ho
  intro γ p l e s m args below meth c C H locs ls hw hl
  exact va_mabs C.1 C.2.1 (C.2.2.2.1.trans hl.1.symm) C.2.2.2.2.1 (C.2.2.2.2.2.1 _ hlk) (C.2.2.2.2.2.1 _ tz_521) (C.2.2.2.2.2.1 _ tz_78) (C.2.2.2.2.2.1 _ tz_522) hf (by rw [rv_cats]; exact hc) (Nat.zero_le _) (Nat.zero_le _) d (kk γ p l e s m args below meth c C H locs ls hw hl)
theorem g_mabsL {x : Int64} {own : String} {index : Nat} (ho : M.1.cls = own) (hlk : Cond.methodLink own index Lib.MathLoose.abs_long.x ∈ tw) (hf : 1 ≤ rm.frames) (hc : (st.map fun v => v.category).sum + 13 ≤ rm.locals) (d : decode M.2.1 pc = .ok (.invokestatic index, 3)) (kk : G M rm R μ (pc + 3) lo (.long (if 0 < x then x else -x) :: st)) : G M rm R μ pc lo (.long x :: st) := by
  subst ho
  intro γ p l e s m args below meth c C H locs ls hw hl
  exact va_mabs_long C.1 C.2.1 (C.2.2.2.1.trans hl.1.symm) C.2.2.2.2.1 (C.2.2.2.2.2.1 _ hlk) (C.2.2.2.2.2.1 _ tz_372) (C.2.2.2.2.2.1 _ tz_78) (C.2.2.2.2.2.1 _ tz_373) hf (by rw [rv_cats]; exact hc) (Nat.zero_le _) (Nat.zero_le _) d (kk γ p l e s m args below meth c C H locs ls hw hl)
theorem g_tableIn {dflt lo9 hi : Int} {offs : Array Int} {len : Nat} {x : Int32} {off : Int} (tgt : Nat) (d : decode M.2.1 pc = .ok (.tableswitch dflt lo9 hi offs, len)) (h1 : ¬ x.toInt < lo9) (h2 : ¬ hi < x.toInt) (ho : offs[(x.toInt - lo9).toNat]? = some off) (ht : (pc : Int) + off = (tgt : Int)) (kk : G M rm R μ tgt lo st) : G M rm R μ pc lo (.int x :: st) :=
  fun γ p l e s m args below meth c C H locs ls hw hl => lv_tableIn C.1 C.2.1 d h1 h2 ho ht (kk γ p l e s m args below meth c C H locs ls hw hl)
theorem g_tableOut {dflt lo9 hi : Int} {offs : Array Int} {len : Nat} {x : Int32} (tgt : Nat) (d : decode M.2.1 pc = .ok (.tableswitch dflt lo9 hi offs, len)) (h : x.toInt < lo9 ∨ hi < x.toInt) (ht : (pc : Int) + dflt = (tgt : Int)) (kk : G M rm R μ tgt lo st) : G M rm R μ pc lo (.int x :: st) :=
  fun γ p l e s m args below meth c C H locs ls hw hl => lv_tableOut C.1 C.2.1 d h ht (kk γ p l e s m args below meth c C H locs ls hw hl)
/-- the same number by another name -/
theorem g_top {v w : Value} (h : v = w) (kk : G M rm R μ pc lo (w :: st)) : G M rm R μ pc lo (v :: st) := h ▸ kk
theorem g_at (pc' : Nat) (h : pc = pc') (kk : G M rm R μ pc' lo st) : G M rm R μ pc lo st := h ▸ kk
theorem g_mem {μ' : Mm} (h : μ = μ') (kk : G M rm R μ' pc lo st) : G M rm R μ pc lo st := h ▸ kk
end
theorem Ok.to {M : Mb} {rm : Room} {as : List Value} {μ : Mm} {R R' : Option Value × Mm} (h : Ok M rm as μ R) (e : R = R') : Ok M rm as μ R' := e ▸ h
set_option maxHeartbeats 4000000 in
theorem Ok.ofF {M : Mb} {rm : Room} {as : List Value} {μ : Mm} {R : Option Value × Mm} (hy : plainFor M.1 = true) (hn : (lo1 as).length ≤ M.2.2.1) (lo : List (Option Value)) (hlo : lo1 as ++ List.replicate (M.2.2.1 - (lo1 as).length) none = lo) (h : G M rm R μ 0 lo []) : Ok M rm as μ R := by
  intro γ l sz
  refine va_MetF (cc := M.2.1) (maxL := M.2.2.1) (ret := M.2.2.2) hy rfl ?_
  intro p e s m args below meth c s₁ B hml hv
  obtain ⟨rfl, hsz, hP, hK, hI, hZ⟩ := hv
  subst hsz
  have hts := atoms_spec (ws := wsM M) B.pre
  have hl := lv_entry (as.map (rv γ.1)) (n := M.2.2.1) (by rw [lo1_len]; exact hn)
  rw [lg_entry_eq]
  refine h γ p l e s m _ below meth c ⟨B.exec, B.bytes, B.returns, hml, findClass_of_methodNamed B.named, fun w hw => hts w (List.mem_cons_of_mem _ hw), B.notSynchronized, hK, hI, hZ⟩ s.heap [] _ ⟨hP, va_S.rf⟩ ⟨hl.1, hl.2.1, ?_, ?_⟩
  · rw [← hlo]; simp
    try omega
  · intro i v hi
    rw [← hlo] at hi
    have hi2 : (lo1 as)[i]? = some (some v) := by
      by_cases hlt : i < (lo1 as).length
      · rw [List.getElem?_append_left hlt] at hi; exact hi
      · rw [List.getElem?_append_right (by omega)] at hi
        rw [List.getElem?_replicate] at hi
        split at hi <;> cases hi
    have := lo1_args γ.1 as 0 i v hi2
    rw [Nat.zero_add] at this
    exact hl.2.2 _ this
