/-! HoleMaskModel, first part -/
theorem d_start (μ : Mm) : Ok mX6_start (rmL 0) [.ref 33] μ (none, sI μ 33 14 0) := by
  refine Ok.of (by decide) (Nat.le_of_ble_eq_true rfl) [some (.ref 33)] rfl ?_
  refine g_aload_n 0 _ dX6_start_0 rfl rfl ?_
  refine g_iconst (nI 0) dX6_start_1 rfl ?_
  refine gp_X6_61 rfl dX6_start_2 ?_
  exact g_return dX6_start_5 rfl rfl
theorem d_no (μ : Mm) (f : Int32) : Ok mX6_no (rmL 0) [.ref 33, .int f] μ (some (.int (-1)), sI μ 33 14 f) := by
  refine Ok.of (by decide) (Nat.le_of_ble_eq_true rfl) [some (.ref 33), some (.int f)] rfl ?_
  refine g_aload_n 0 _ dX6_no_0 rfl rfl ?_
  refine g_iload_n 1 _ dX6_no_1 rfl rfl ?_
  refine gp_X6_61 rfl dX6_no_2 ?_
  refine g_iconst (-1) dX6_no_5 rfl ?_
  exact g_ireturn dX6_no_6 rfl rfl rfl
theorem d_not (μ : Mm) (f : Int32) : Ok mX6_not (rmL 0) [.ref 33, .int f] μ (some (.int (nI 0)), sI μ 33 14 f) := by
  refine Ok.of (by decide) (Nat.le_of_ble_eq_true rfl) [some (.ref 33), some (.int f)] rfl ?_
  refine g_aload_n 0 _ dX6_not_0 rfl rfl ?_
  refine g_iload_n 1 _ dX6_not_1 rfl rfl ?_
  refine gp_X6_61 rfl dX6_not_2 ?_
  refine g_iconst (nI 0) dX6_not_5 rfl ?_
  exact g_ireturn dX6_not_6 rfl rfl rfl
theorem d_thrown (μ : Mm) : Ok mX6_thrown (rmL 0) [.ref 33] μ (some (.int (μ.1 33 15)), μ) := by
  refine Ok.of (by decide) (Nat.le_of_ble_eq_true rfl) [some (.ref 33)] rfl ?_
  refine g_aload_n 0 _ dX6_thrown_0 rfl rfl ?_
  refine gf_X6_58 rfl dX6_thrown_1 ?_
  exact g_ireturn dX6_thrown_4 rfl rfl rfl
theorem d_fault (μ : Mm) : Ok mX6_fault (rmL 0) [.ref 33] μ (some (.int (μ.1 33 14)), μ) := by
  refine Ok.of (by decide) (Nat.le_of_ble_eq_true rfl) [some (.ref 33)] rfl ?_
  refine g_aload_n 0 _ dX6_fault_0 rfl rfl ?_
  refine gf_X6_61 rfl dX6_fault_1 ?_
  exact g_ireturn dX6_fault_4 rfl rfl rfl
theorem d_isPlace (μ : Mm) (i : Int32) {n : Nat} (hn : μ.1 33 0 = nI n) : Ok mX6_isPlace (rmL 0) [.ref 33, .int i] μ (some (.int (bI (¬ i < 0 ∧ i < nI n))), μ) := by
  refine Ok.of (by decide) (Nat.le_of_ble_eq_true rfl) [some (.ref 33), some (.int i)] rfl ?_
  refine g_iload_n 1 _ dX6_isPlace_0 rfl rfl ?_
  refine g_if_lt 16 dX6_isPlace_1 (by decide) (fun h1 => ?_) (fun h1 => ?_)
  · refine g_iconst (nI 0) dX6_isPlace_16 rfl ?_
    exact g_ireturn dX6_isPlace_17 rfl rfl (by (try unfold bI); (repeat' split) <;> first | rfl | (exfalso; simp only [ne_eq, fa_lt, fa_le, fa_eq, t0, t1, t2, tm1, nt0, nt1, nt2, nt3, nt4, nt5, nt7, nt9, nt10, nt13, nt14, nt30, nt32, nt59, nt60, nt200, nt1000, nt1000000, nt1073741824] at *; omega))
  · refine g_iload_n 1 _ dX6_isPlace_4 rfl rfl ?_
    refine g_aload_n 0 _ dX6_isPlace_5 rfl rfl ?_
    refine gf_X6_7 rfl dX6_isPlace_6 ?_
    refine g_top (w := .int (nI n)) (congrArg Value.int hn) ?_
    refine g_icmp_ge 16 dX6_isPlace_9 (by decide) (fun h9 => ?_) (fun h9 => ?_)
    · refine g_iconst (nI 0) dX6_isPlace_16 rfl ?_
      exact g_ireturn dX6_isPlace_17 rfl rfl (by (try unfold bI); (repeat' split) <;> first | rfl | (exfalso; simp only [ne_eq, fa_lt, fa_le, fa_eq, t0, t1, t2, tm1, nt0, nt1, nt2, nt3, nt4, nt5, nt7, nt9, nt10, nt13, nt14, nt30, nt32, nt59, nt60, nt200, nt1000, nt1000000, nt1073741824] at *; omega))
    · refine g_iconst (nI 1) dX6_isPlace_12 rfl ?_
      refine g_goto 17 dX6_isPlace_13 (by decide) ?_
      exact g_ireturn dX6_isPlace_17 rfl rfl (by (try unfold bI); (repeat' split) <;> first | rfl | (exfalso; simp only [ne_eq, fa_lt, fa_le, fa_eq, t0, t1, t2, tm1, nt0, nt1, nt2, nt3, nt4, nt5, nt7, nt9, nt10, nt13, nt14, nt30, nt32, nt59, nt60, nt200, nt1000, nt1000000, nt1073741824] at *; omega))
/-- four rows of the reference -/
def bg4 (μ : Mm) (a b c d : Nat → Int32) : Mm := (fun k => if k = 34 then a else if k = 35 then b else if k = 36 then c else if k = 37 then d else μ.1 k, μ.2)
theorem bg4_34 (μ : Mm) (a b c d : Nat → Int32) (i : Nat) (x : Int32) : sI (bg4 μ a b c d) 34 i x = bg4 μ (upd a i x) b c d := by
  refine Prod.ext (funext fun k => ?_) rfl
  by_cases h : k = 34
  · subst h; simp [sI, bg4]
  · simp [sI, bg4, h]
theorem bg4_35 (μ : Mm) (a b c d : Nat → Int32) (i : Nat) (x : Int32) : sI (bg4 μ a b c d) 35 i x = bg4 μ a (upd b i x) c d := by
  refine Prod.ext (funext fun k => ?_) rfl
  by_cases h : k = 35
  · subst h; simp [sI, bg4]
  · simp [sI, bg4, h]
theorem bg4_36 (μ : Mm) (a b c d : Nat → Int32) (i : Nat) (x : Int32) : sI (bg4 μ a b c d) 36 i x = bg4 μ a b (upd c i x) d := by
  refine Prod.ext (funext fun k => ?_) rfl
  by_cases h : k = 36
  · subst h; simp [sI, bg4]
  · simp [sI, bg4, h]
theorem bg4_37 (μ : Mm) (a b c d : Nat → Int32) (i : Nat) (x : Int32) : sI (bg4 μ a b c d) 37 i x = bg4 μ a b c (upd d i x) := by
  refine Prod.ext (funext fun k => ?_) rfl
  by_cases h : k = 37
  · subst h; simp [sI, bg4]
  · simp [sI, bg4, h]
theorem bg4_id (μ : Mm) : bg4 μ (μ.1 34) (μ.1 35) (μ.1 36) (μ.1 37) = μ := by
  refine Prod.ext (funext fun k => ?_) rfl
  by_cases h1 : k = 34
  · subst h1; simp [bg4]
  · by_cases h2 : k = 35
    · subst h2; simp [bg4]
    · by_cases h3 : k = 36
      · subst h3; simp [bg4]
      · by_cases h4 : k = 37
        · subst h4; simp [bg4]
        · simp [bg4, h1, h2, h3, h4]
abbrev zf (f : Nat → Int32) (i : Nat) : Nat → Int32 := fil f (fun _ => 0) i
theorem zf_0 (f : Nat → Int32) : zf f 0 = f := fil_0 _ _
def stN (μ : Mm) (p : Int32) : Mm := sL (bg4 (sI μ 33 0 p) (zf (μ.1 34) 60) (zf (μ.1 35) 60) (zf (μ.1 36) 60) (zf (μ.1 37) 60)) 33 8 0
theorem d_begin_l {μ : Mm} (p : Int32) : ∀ (m i : Nat), i ≤ 60 → 60 < i + m → G mX6_begin (rmL 0) (none, sL (bg4 μ (zf (μ.1 34) 60) (zf (μ.1 35) 60) (zf (μ.1 36) 60) (zf (μ.1 37) 60)) 33 8 0) (bg4 μ (zf (μ.1 34) i) (zf (μ.1 35) i) (zf (μ.1 36) i) (zf (μ.1 37) i)) 7 [some (.ref 33), some (.int p), some (.int (nI i))] [] := by
  intro m
  induction m with
  | zero => exact fun i h1 h2 => absurd h2 (by omega)
  | succ m ih =>
    intro i h1 h2
    have e : sI (sI (sI (sI (bg4 μ (zf (μ.1 34) i) (zf (μ.1 35) i) (zf (μ.1 36) i) (zf (μ.1 37) i)) 34 i (nI 0)) 35 i (nI 0)) 36 i (nI 0)) 37 i (nI 0) = bg4 μ (zf (μ.1 34) (i + 1)) (zf (μ.1 35) (i + 1)) (zf (μ.1 36) (i + 1)) (zf (μ.1 37) (i + 1)) := by
      rw [bg4_34, bg4_35, bg4_36, bg4_37]
      have h := fun f => fil_put f (fun _ => (0 : Int32)) i
      have hz : (nI 0) = (0 : Int32) := rfl
      rw [hz, h, h, h, h]
    refine g_iload_n 2 _ dX6_begin_7 rfl rfl ?_
    refine g_bipush (nI 60) dX6_begin_8 rfl ?_
    refine g_icmp_geN 47 (by omega) (by omega) dX6_begin_10 (by decide) (fun h10 => ?_) (fun h10 => ?_)
    · refine g_aload_n 0 _ dX6_begin_47 rfl rfl ?_
      refine g_lconst 0 dX6_begin_48 rfl ?_
      refine gp_X6_64 rfl dX6_begin_49 ?_
      exact g_return dX6_begin_52 rfl (by rw [show i = 60 by omega])
    · refine g_aload_n 0 _ dX6_begin_13 rfl rfl ?_
      refine gf_X6_13 rfl dX6_begin_14 ?_
      refine g_iload_n 2 _ dX6_begin_17 rfl rfl ?_
      refine g_iconst (nI 0) dX6_begin_18 rfl ?_
      refine g_iastore (j := i) isI_34 (rfl) (by omega) (by omega) dX6_begin_19 ?_
      refine g_aload_n 0 _ dX6_begin_20 rfl rfl ?_
      refine gf_X6_17 rfl dX6_begin_21 ?_
      refine g_at 24 rfl ?_
      refine g_iload_n 2 _ dX6_begin_24 rfl rfl ?_
      refine g_iconst (nI 0) dX6_begin_25 rfl ?_
      refine g_iastore (j := i) isI_35 (rfl) (by omega) (by omega) dX6_begin_26 ?_
      refine g_aload_n 0 _ dX6_begin_27 rfl rfl ?_
      refine gf_X6_20 rfl dX6_begin_28 ?_
      refine g_iload_n 2 _ dX6_begin_31 rfl rfl ?_
      refine g_iconst (nI 0) dX6_begin_32 rfl ?_
      refine g_iastore (j := i) isI_36 (rfl) (by omega) (by omega) dX6_begin_33 ?_
      refine g_at 34 rfl ?_
      refine g_aload_n 0 _ dX6_begin_34 rfl rfl ?_
      refine gf_X6_23 rfl dX6_begin_35 ?_
      refine g_iload_n 2 _ dX6_begin_38 rfl rfl ?_
      refine g_iconst (nI 0) dX6_begin_39 rfl ?_
      refine g_bastore (j := i) isZ_37 (rfl) (by omega) (by omega) rfl dX6_begin_40 ?_
      refine g_mem (μ' := bg4 μ (zf (μ.1 34) (i + 1)) (zf (μ.1 35) (i + 1)) (zf (μ.1 36) (i + 1)) (zf (μ.1 37) (i + 1))) e ?_
      refine g_iincN [some (.ref 33), some (.int p), some (.int (nI (i + 1)))] dX6_begin_41 rfl (Nat.le_of_ble_eq_true rfl) rfl rfl ?_
      refine g_goto 7 dX6_begin_44 (by decide) ?_
      exact ih (i + 1) (by omega) (by omega)
theorem d_begin (μ : Mm) (p : Int32) : Ok mX6_begin (rmL 0) [.ref 33, .int p] μ (none, stN μ p) := by
  refine Ok.of (by decide) (Nat.le_of_ble_eq_true rfl) [some (.ref 33), some (.int p), none] rfl ?_
  refine g_aload_n 0 _ dX6_begin_0 rfl rfl ?_
  refine g_iload_n 1 _ dX6_begin_1 rfl rfl ?_
  refine gp_X6_7 rfl dX6_begin_2 ?_
  refine g_iconst (nI 0) dX6_begin_5 rfl ?_
  refine g_istore_n [some (.ref 33), some (.int p), some (.int (nI 0))] dX6_begin_6 rfl (Nat.le_of_ble_eq_true rfl) rfl rfl ?_
  have h := d_begin_l (μ := sI μ 33 0 p) p 61 0 (by omega) (by omega); rw [zf_0, zf_0, zf_0, zf_0, bg4_id] at h; exact h
theorem d_ring_ok (μ : Mm) {n : Nat} (h1 : 1 ≤ n) (h60 : n ≤ 60) : Ok mX6_ring (rmL 1) [.ref 33, .int (nI n)] μ (some (.int (nI 1)), stN (sI μ 33 14 0) (nI n)) := by
  refine Ok.of (by decide) (Nat.le_of_ble_eq_true rfl) [some (.ref 33), some (.int (nI n))] rfl ?_
  refine g_aload_n 0 _ dX6_ring_0 rfl rfl ?_
  refine g_backv (g_runV (d_start μ) rfl mw_X6_start mi_X6_start ml_X6_68 isO_33 ⟨rfl, rfl, Nat.le_of_ble_eq_true rfl, Nat.le_of_ble_eq_true rfl⟩ rfl rfl (Nat.le_of_ble_eq_true rfl) dX6_ring_1) ?_
  refine g_mem (μ' := sI μ 33 14 0) rfl ?_
  refine g_iload_n 1 _ dX6_ring_4 rfl rfl ?_
  refine g_iconst (nI 1) dX6_ring_5 rfl ?_
  refine g_icmp_ltN 15 (by omega) (by omega) dX6_ring_6 (by decide) (fun h6 => ?_) (fun h6 => ?_)
  · exact absurd h6 (by omega)
  · refine g_iload_n 1 _ dX6_ring_9 rfl rfl ?_
    refine g_bipush (nI 60) dX6_ring_10 rfl ?_
    refine g_icmp_leN 21 (by omega) (by omega) dX6_ring_12 (by decide) (fun h12 => ?_) (fun h12 => ?_)
    · refine g_aload_n 0 _ dX6_ring_21 rfl rfl ?_
      refine g_iload_n 1 _ dX6_ring_22 rfl rfl ?_
      refine g_backv (g_runV (d_begin (sI μ 33 14 0) (nI n)) rfl mw_X6_begin mi_X6_begin ml_X6_75 isO_33 ⟨rfl, rfl, Nat.le_of_ble_eq_true rfl, Nat.le_of_ble_eq_true rfl⟩ rfl rfl (Nat.le_of_ble_eq_true rfl) dX6_ring_23) ?_
      refine g_mem (μ' := stN (sI μ 33 14 0) (nI n)) rfl ?_
      refine g_iconst (nI 1) dX6_ring_26 rfl ?_
      exact g_ireturn dX6_ring_27 rfl rfl rfl
    · exact absurd h12 (by omega)
theorem d_ring_no (μ : Mm) (a : Int32) (h : a.toInt < 1 ∨ 60 < a.toInt) : Ok mX6_ring (rmL 1) [.ref 33, .int a] μ (some (.int (nI 0)), sI (sI μ 33 14 0) 33 14 (nI 1)) := by
  refine Ok.of (by decide) (Nat.le_of_ble_eq_true rfl) [some (.ref 33), some (.int a)] rfl ?_
  refine g_aload_n 0 _ dX6_ring_0 rfl rfl ?_
  refine g_backv (g_runV (d_start μ) rfl mw_X6_start mi_X6_start ml_X6_68 isO_33 ⟨rfl, rfl, Nat.le_of_ble_eq_true rfl, Nat.le_of_ble_eq_true rfl⟩ rfl rfl (Nat.le_of_ble_eq_true rfl) dX6_ring_1) ?_
  refine g_mem (μ' := sI μ 33 14 0) rfl ?_
  refine g_iload_n 1 _ dX6_ring_4 rfl rfl ?_
  refine g_iconst (nI 1) dX6_ring_5 rfl ?_
  refine g_icmp_lt 15 dX6_ring_6 (by decide) (fun h6 => ?_) (fun h6 => ?_)
  · refine g_aload_n 0 _ dX6_ring_15 rfl rfl ?_
    refine g_iconst (nI 1) dX6_ring_16 rfl ?_
    refine g_backi (g_runV (d_not (sI μ 33 14 0) (nI 1)) rfl mw_X6_not mi_X6_not ml_X6_71 isO_33 ⟨rfl, rfl, Nat.le_of_ble_eq_true rfl, Nat.le_of_ble_eq_true rfl⟩ rfl rfl (Nat.le_of_ble_eq_true rfl) dX6_ring_17) ?_
    refine g_mem (μ' := sI (sI μ 33 14 0) 33 14 (nI 1)) rfl ?_
    refine g_top (w := .int (nI 0)) rfl ?_
    exact g_ireturn dX6_ring_20 rfl rfl rfl
  · refine g_iload_n 1 _ dX6_ring_9 rfl rfl ?_
    refine g_bipush (nI 60) dX6_ring_10 rfl ?_
    refine g_icmp_le 21 dX6_ring_12 (by decide) (fun h12 => ?_) (fun h12 => ?_)
    · exfalso; simp only [ne_eq, fa_lt, fa_le, fa_eq, t0, t1, t2, tm1, nt0, nt1, nt2, nt3, nt4, nt5, nt7, nt9, nt10, nt13, nt14, nt30, nt32, nt59, nt60, nt200, nt1000, nt1000000, nt1073741824] at *; omega
    · refine g_aload_n 0 _ dX6_ring_15 rfl rfl ?_
      refine g_iconst (nI 1) dX6_ring_16 rfl ?_
      refine g_backi (g_runV (d_not (sI μ 33 14 0) (nI 1)) rfl mw_X6_not mi_X6_not ml_X6_71 isO_33 ⟨rfl, rfl, Nat.le_of_ble_eq_true rfl, Nat.le_of_ble_eq_true rfl⟩ rfl rfl (Nat.le_of_ble_eq_true rfl) dX6_ring_17) ?_
      refine g_mem (μ' := sI (sI μ 33 14 0) 33 14 (nI 1)) rfl ?_
      refine g_top (w := .int (nI 0)) rfl ?_
      exact g_ireturn dX6_ring_20 rfl rfl rfl
theorem d_sheet_no (μ : Mm) (k m : Int32) (h : shF k m ≠ 0) : Ok mX6_sheet (rmL 1) [.ref 33, .int k, .int m] μ (some (.int (-1)), sI (sI μ 33 14 0) 33 14 (shF k m)) := by
  have f3 : (3 : Int32).toInt = 3 := rfl
  have f60 : (60 : Int32).toInt = 60 := rfl
  refine Ok.of (by decide) (Nat.le_of_ble_eq_true rfl) [some (.ref 33), some (.int k), some (.int m), none] rfl ?_
  refine g_aload_n 0 _ dX6_sheet_0 rfl rfl ?_
  refine g_backv (g_runV (d_start μ) rfl mw_X6_start mi_X6_start ml_X6_68 isO_33 ⟨rfl, rfl, Nat.le_of_ble_eq_true rfl, Nat.le_of_ble_eq_true rfl⟩ rfl rfl (Nat.le_of_ble_eq_true rfl) dX6_sheet_1) ?_
  refine g_mem (μ' := sI μ 33 14 0) rfl ?_
  refine g_iload_n 1 _ dX6_sheet_4 rfl rfl ?_
  refine g_if_lt 24 dX6_sheet_5 (by decide) (fun h5 => ?_) (fun h5 => ?_)
  · refine g_aload_n 0 _ dX6_sheet_24 rfl rfl ?_
    refine g_iconst (nI 1) dX6_sheet_25 rfl ?_
    refine g_backi (g_runV (d_no (sI μ 33 14 0) (nI 1)) rfl mw_X6_no mi_X6_no ml_X6_79 isO_33 ⟨rfl, rfl, Nat.le_of_ble_eq_true rfl, Nat.le_of_ble_eq_true rfl⟩ rfl rfl (Nat.le_of_ble_eq_true rfl) dX6_sheet_26) ?_
    refine g_mem (μ' := sI (sI μ 33 14 0) 33 14 (nI 1)) rfl ?_
    refine g_top (w := .int (-1)) rfl ?_
    exact g_ireturn dX6_sheet_29 rfl rfl (by unfold shF; (repeat' split) <;> first | rfl | (exfalso; simp only [ne_eq, fa_lt, fa_le, fa_eq, t0, t1, nt3, nt60, f3, f60] at *; omega))
  · refine g_iload_n 1 _ dX6_sheet_8 rfl rfl ?_
    refine g_iconst (nI 3) dX6_sheet_9 rfl ?_
    refine g_icmp_gt 24 dX6_sheet_10 (by decide) (fun h10 => ?_) (fun h10 => ?_)
    · refine g_aload_n 0 _ dX6_sheet_24 rfl rfl ?_
      refine g_iconst (nI 1) dX6_sheet_25 rfl ?_
      refine g_backi (g_runV (d_no (sI μ 33 14 0) (nI 1)) rfl mw_X6_no mi_X6_no ml_X6_79 isO_33 ⟨rfl, rfl, Nat.le_of_ble_eq_true rfl, Nat.le_of_ble_eq_true rfl⟩ rfl rfl (Nat.le_of_ble_eq_true rfl) dX6_sheet_26) ?_
      refine g_mem (μ' := sI (sI μ 33 14 0) 33 14 (nI 1)) rfl ?_
      refine g_top (w := .int (-1)) rfl ?_
      exact g_ireturn dX6_sheet_29 rfl rfl (by unfold shF; (repeat' split) <;> first | rfl | (exfalso; simp only [ne_eq, fa_lt, fa_le, fa_eq, t0, t1, nt3, nt60, f3, f60] at *; omega))
    · refine g_iload_n 1 _ dX6_sheet_13 rfl rfl ?_
      refine g_iconst (nI 3) dX6_sheet_14 rfl ?_
      refine g_icmp_ge 30 dX6_sheet_15 (by decide) (fun h15 => ?_) (fun h15 => ?_)
      · refine g_iload_n 1 _ dX6_sheet_30 rfl rfl ?_
        refine g_iconst (nI 3) dX6_sheet_31 rfl ?_
        refine g_icmp_ge 45 dX6_sheet_32 (by decide) (fun h32 => ?_) (fun h32 => ?_)
        · exact absurd (show shF k m = 0 by unfold shF; (repeat' split) <;> first | rfl | (exfalso; simp only [ne_eq, fa_lt, fa_le, fa_eq, t0, t1, nt3, nt60, f3, f60] at *; omega)) h
        · refine g_iload_n 2 _ dX6_sheet_35 rfl rfl ?_
          refine g_if_ge 45 dX6_sheet_36 (by decide) (fun h36 => ?_) (fun h36 => ?_)
          · exact absurd (show shF k m = 0 by unfold shF; (repeat' split) <;> first | rfl | (exfalso; simp only [ne_eq, fa_lt, fa_le, fa_eq, t0, t1, nt3, nt60, f3, f60] at *; omega)) h
          · refine g_aload_n 0 _ dX6_sheet_39 rfl rfl ?_
            refine g_iconst (nI 4) dX6_sheet_40 rfl ?_
            refine g_backi (g_runV (d_no (sI μ 33 14 0) (nI 4)) rfl mw_X6_no mi_X6_no ml_X6_79 isO_33 ⟨rfl, rfl, Nat.le_of_ble_eq_true rfl, Nat.le_of_ble_eq_true rfl⟩ rfl rfl (Nat.le_of_ble_eq_true rfl) dX6_sheet_41) ?_
            refine g_mem (μ' := sI (sI μ 33 14 0) 33 14 (nI 4)) rfl ?_
            refine g_top (w := .int (-1)) rfl ?_
            exact g_ireturn dX6_sheet_44 rfl rfl (by unfold shF; (repeat' split) <;> first | rfl | (exfalso; simp only [ne_eq, fa_lt, fa_le, fa_eq, t0, t1, nt3, nt60, f3, f60] at *; omega))
      · refine g_iload_n 2 _ dX6_sheet_18 rfl rfl ?_
        refine g_bipush (nI 60) dX6_sheet_19 rfl ?_
        refine g_icmp_le 30 dX6_sheet_21 (by decide) (fun h21 => ?_) (fun h21 => ?_)
        · refine g_iload_n 1 _ dX6_sheet_30 rfl rfl ?_
          refine g_iconst (nI 3) dX6_sheet_31 rfl ?_
          refine g_icmp_ge 45 dX6_sheet_32 (by decide) (fun h32 => ?_) (fun h32 => ?_)
          · exact absurd (show shF k m = 0 by unfold shF; (repeat' split) <;> first | rfl | (exfalso; simp only [ne_eq, fa_lt, fa_le, fa_eq, t0, t1, nt3, nt60, f3, f60] at *; omega)) h
          · refine g_iload_n 2 _ dX6_sheet_35 rfl rfl ?_
            refine g_if_ge 45 dX6_sheet_36 (by decide) (fun h36 => ?_) (fun h36 => ?_)
            · exact absurd (show shF k m = 0 by unfold shF; (repeat' split) <;> first | rfl | (exfalso; simp only [ne_eq, fa_lt, fa_le, fa_eq, t0, t1, nt3, nt60, f3, f60] at *; omega)) h
            · refine g_aload_n 0 _ dX6_sheet_39 rfl rfl ?_
              refine g_iconst (nI 4) dX6_sheet_40 rfl ?_
              refine g_backi (g_runV (d_no (sI μ 33 14 0) (nI 4)) rfl mw_X6_no mi_X6_no ml_X6_79 isO_33 ⟨rfl, rfl, Nat.le_of_ble_eq_true rfl, Nat.le_of_ble_eq_true rfl⟩ rfl rfl (Nat.le_of_ble_eq_true rfl) dX6_sheet_41) ?_
              refine g_mem (μ' := sI (sI μ 33 14 0) 33 14 (nI 4)) rfl ?_
              refine g_top (w := .int (-1)) rfl ?_
              exact g_ireturn dX6_sheet_44 rfl rfl (by unfold shF; (repeat' split) <;> first | rfl | (exfalso; simp only [ne_eq, fa_lt, fa_le, fa_eq, t0, t1, nt3, nt60, f3, f60] at *; omega))
        · refine g_aload_n 0 _ dX6_sheet_24 rfl rfl ?_
          refine g_iconst (nI 1) dX6_sheet_25 rfl ?_
          refine g_backi (g_runV (d_no (sI μ 33 14 0) (nI 1)) rfl mw_X6_no mi_X6_no ml_X6_79 isO_33 ⟨rfl, rfl, Nat.le_of_ble_eq_true rfl, Nat.le_of_ble_eq_true rfl⟩ rfl rfl (Nat.le_of_ble_eq_true rfl) dX6_sheet_26) ?_
          refine g_mem (μ' := sI (sI μ 33 14 0) 33 14 (nI 1)) rfl ?_
          refine g_top (w := .int (-1)) rfl ?_
          exact g_ireturn dX6_sheet_29 rfl rfl (by unfold shF; (repeat' split) <;> first | rfl | (exfalso; simp only [ne_eq, fa_lt, fa_le, fa_eq, t0, t1, nt3, nt60, f3, f60] at *; omega))
theorem d_sheet_l {μ : Mm} {k m9 : Int32} {v : Int32} (hv : μ.1 33 6 = v) : ∀ (m i : Nat), i ≤ 60 → 60 < i + m → G mX6_sheet (rmL 1) (some (.int v), sR μ 38 (zf (μ.1 38) 60)) (sR μ 38 (zf (μ.1 38) i)) 66 [some (.ref 33), some (.int k), some (.int m9), some (.int (nI i))] [] := by
  intro m
  induction m with
  | zero => exact fun i h1 h2 => absurd h2 (by omega)
  | succ m ih =>
    intro i h1 h2
    refine g_iload_n 3 _ dX6_sheet_66 rfl rfl ?_
    refine g_bipush (nI 60) dX6_sheet_67 rfl ?_
    refine g_icmp_geN 85 (by omega) (by omega) dX6_sheet_69 (by decide) (fun h69 => ?_) (fun h69 => ?_)
    · refine g_aload_n 0 _ dX6_sheet_85 rfl rfl ?_
      refine gf_X6_83 rfl dX6_sheet_86 ?_
      refine g_top (w := .int v) (congrArg Value.int hv) ?_
      exact g_ireturn dX6_sheet_89 rfl rfl (by rw [show i = 60 by omega])
    · refine g_aload_n 0 _ dX6_sheet_72 rfl rfl ?_
      refine gf_X6_30 rfl dX6_sheet_73 ?_
      refine g_iload_n 3 _ dX6_sheet_76 rfl rfl ?_
      refine g_iconst (nI 0) dX6_sheet_77 rfl ?_
      refine g_iastore (j := i) isI_38 (rfl) (by omega) (by omega) dX6_sheet_78 ?_
      refine g_mem (μ' := sR μ 38 (zf (μ.1 38) (i + 1))) (sR_fil μ 38 i _ (fun _ => 0) rfl) ?_
      refine g_iincN [some (.ref 33), some (.int k), some (.int m9), some (.int (nI (i + 1)))] dX6_sheet_79 rfl (Nat.le_of_ble_eq_true rfl) rfl rfl ?_
      refine g_goto 66 dX6_sheet_82 (by decide) ?_
      exact ih (i + 1) (by omega) (by omega)
theorem d_sheet_ok (μ : Mm) (k m : Int32) (h : shF k m = 0) : Ok mX6_sheet (rmL 1) [.ref 33, .int k, .int m] μ (some (.int (if k = 3 then 0 else m)), sR (sI (sI (sI μ 33 14 0) 33 5 k) 33 6 (if k = 3 then 0 else m)) 38 (zf (μ.1 38) 60)) := by
  have f3 : (3 : Int32).toInt = 3 := rfl
  have f60 : (60 : Int32).toInt = 60 := rfl
  refine Ok.of (by decide) (Nat.le_of_ble_eq_true rfl) [some (.ref 33), some (.int k), some (.int m), none] rfl ?_
  have J : ∀ v, v = (if k = 3 then 0 else m) → G mX6_sheet (rmL 1) (some (.int (if k = 3 then 0 else m)), sR (sI (sI (sI μ 33 14 0) 33 5 k) 33 6 (if k = 3 then 0 else m)) 38 (zf (μ.1 38) 60)) (sI (sI μ 33 14 0) 33 5 k) 61 [some (.ref 33), some (.int k), some (.int m), none] [.int v, .ref 33] := by
    intro v hv
    subst hv
    refine gp_X6_83 rfl dX6_sheet_61 ?_
    refine g_iconst (nI 0) dX6_sheet_64 rfl ?_
    refine g_istore_n [some (.ref 33), some (.int k), some (.int m), some (.int (nI 0))] dX6_sheet_65 rfl (Nat.le_of_ble_eq_true rfl) rfl rfl ?_
    have h := d_sheet_l (μ := sI (sI (sI μ 33 14 0) 33 5 k) 33 6 (if k = 3 then 0 else m)) (k := k) (m9 := m) rfl 61 0 (by omega) (by omega); rw [zf_0, sR_id] at h; exact h
  refine g_aload_n 0 _ dX6_sheet_0 rfl rfl ?_
  refine g_backv (g_runV (d_start μ) rfl mw_X6_start mi_X6_start ml_X6_68 isO_33 ⟨rfl, rfl, Nat.le_of_ble_eq_true rfl, Nat.le_of_ble_eq_true rfl⟩ rfl rfl (Nat.le_of_ble_eq_true rfl) dX6_sheet_1) ?_
  refine g_mem (μ' := sI μ 33 14 0) rfl ?_
  refine g_iload_n 1 _ dX6_sheet_4 rfl rfl ?_
  refine g_if_lt 24 dX6_sheet_5 (by decide) (fun h5 => ?_) (fun h5 => ?_)
  · exact absurd (show shF k m ≠ 0 by unfold shF; (repeat' split) <;> first | decide | (exfalso; simp only [ne_eq, fa_lt, fa_le, fa_eq, t0, t1, nt3, nt60, f3, f60] at *; omega)) (fun q => q h)
  · refine g_iload_n 1 _ dX6_sheet_8 rfl rfl ?_
    refine g_iconst (nI 3) dX6_sheet_9 rfl ?_
    refine g_icmp_gt 24 dX6_sheet_10 (by decide) (fun h10 => ?_) (fun h10 => ?_)
    · exact absurd (show shF k m ≠ 0 by unfold shF; (repeat' split) <;> first | decide | (exfalso; simp only [ne_eq, fa_lt, fa_le, fa_eq, t0, t1, nt3, nt60, f3, f60] at *; omega)) (fun q => q h)
    · refine g_iload_n 1 _ dX6_sheet_13 rfl rfl ?_
      refine g_iconst (nI 3) dX6_sheet_14 rfl ?_
      refine g_icmp_ge 30 dX6_sheet_15 (by decide) (fun h15 => ?_) (fun h15 => ?_)
      · refine g_iload_n 1 _ dX6_sheet_30 rfl rfl ?_
        refine g_iconst (nI 3) dX6_sheet_31 rfl ?_
        refine g_icmp_ge 45 dX6_sheet_32 (by decide) (fun h32 => ?_) (fun h32 => ?_)
        · refine g_aload_n 0 _ dX6_sheet_45 rfl rfl ?_
          refine g_iload_n 1 _ dX6_sheet_46 rfl rfl ?_
          refine gp_X6_27 rfl dX6_sheet_47 ?_
          refine g_aload_n 0 _ dX6_sheet_50 rfl rfl ?_
          refine g_iload_n 1 _ dX6_sheet_51 rfl rfl ?_
          refine g_iconst (nI 3) dX6_sheet_52 rfl ?_
          refine g_icmp_ne 60 dX6_sheet_53 (by decide) (fun h53 => ?_) (fun h53 => ?_)
          · refine g_iload_n 2 _ dX6_sheet_60 rfl rfl ?_
            first | exact J _ (by rw [if_pos (show k = 3 from h53)]; rfl) | exact J _ (by rw [if_neg (show ¬ k = 3 from h53)])
          · refine g_iconst (nI 0) dX6_sheet_56 rfl ?_
            refine g_goto 61 dX6_sheet_57 (by decide) ?_
            first | exact J _ (by rw [if_pos (show k = 3 from h53)]; rfl) | exact J _ (by rw [if_neg (show ¬ k = 3 from h53)])
        · refine g_iload_n 2 _ dX6_sheet_35 rfl rfl ?_
          refine g_if_ge 45 dX6_sheet_36 (by decide) (fun h36 => ?_) (fun h36 => ?_)
          · refine g_aload_n 0 _ dX6_sheet_45 rfl rfl ?_
            refine g_iload_n 1 _ dX6_sheet_46 rfl rfl ?_
            refine gp_X6_27 rfl dX6_sheet_47 ?_
            refine g_aload_n 0 _ dX6_sheet_50 rfl rfl ?_
            refine g_iload_n 1 _ dX6_sheet_51 rfl rfl ?_
            refine g_iconst (nI 3) dX6_sheet_52 rfl ?_
            refine g_icmp_ne 60 dX6_sheet_53 (by decide) (fun h53 => ?_) (fun h53 => ?_)
            · refine g_iload_n 2 _ dX6_sheet_60 rfl rfl ?_
              first | exact J _ (by rw [if_pos (show k = 3 from h53)]; rfl) | exact J _ (by rw [if_neg (show ¬ k = 3 from h53)])
            · refine g_iconst (nI 0) dX6_sheet_56 rfl ?_
              refine g_goto 61 dX6_sheet_57 (by decide) ?_
              first | exact J _ (by rw [if_pos (show k = 3 from h53)]; rfl) | exact J _ (by rw [if_neg (show ¬ k = 3 from h53)])
          · exact absurd (show shF k m ≠ 0 by unfold shF; (repeat' split) <;> first | decide | (exfalso; simp only [ne_eq, fa_lt, fa_le, fa_eq, t0, t1, nt3, nt60, f3, f60] at *; omega)) (fun q => q h)
      · refine g_iload_n 2 _ dX6_sheet_18 rfl rfl ?_
        refine g_bipush (nI 60) dX6_sheet_19 rfl ?_
        refine g_icmp_le 30 dX6_sheet_21 (by decide) (fun h21 => ?_) (fun h21 => ?_)
        · refine g_iload_n 1 _ dX6_sheet_30 rfl rfl ?_
          refine g_iconst (nI 3) dX6_sheet_31 rfl ?_
          refine g_icmp_ge 45 dX6_sheet_32 (by decide) (fun h32 => ?_) (fun h32 => ?_)
          · refine g_aload_n 0 _ dX6_sheet_45 rfl rfl ?_
            refine g_iload_n 1 _ dX6_sheet_46 rfl rfl ?_
            refine gp_X6_27 rfl dX6_sheet_47 ?_
            refine g_aload_n 0 _ dX6_sheet_50 rfl rfl ?_
            refine g_iload_n 1 _ dX6_sheet_51 rfl rfl ?_
            refine g_iconst (nI 3) dX6_sheet_52 rfl ?_
            refine g_icmp_ne 60 dX6_sheet_53 (by decide) (fun h53 => ?_) (fun h53 => ?_)
            · refine g_iload_n 2 _ dX6_sheet_60 rfl rfl ?_
              first | exact J _ (by rw [if_pos (show k = 3 from h53)]; rfl) | exact J _ (by rw [if_neg (show ¬ k = 3 from h53)])
            · refine g_iconst (nI 0) dX6_sheet_56 rfl ?_
              refine g_goto 61 dX6_sheet_57 (by decide) ?_
              first | exact J _ (by rw [if_pos (show k = 3 from h53)]; rfl) | exact J _ (by rw [if_neg (show ¬ k = 3 from h53)])
          · refine g_iload_n 2 _ dX6_sheet_35 rfl rfl ?_
            refine g_if_ge 45 dX6_sheet_36 (by decide) (fun h36 => ?_) (fun h36 => ?_)
            · refine g_aload_n 0 _ dX6_sheet_45 rfl rfl ?_
              refine g_iload_n 1 _ dX6_sheet_46 rfl rfl ?_
              refine gp_X6_27 rfl dX6_sheet_47 ?_
              refine g_aload_n 0 _ dX6_sheet_50 rfl rfl ?_
              refine g_iload_n 1 _ dX6_sheet_51 rfl rfl ?_
              refine g_iconst (nI 3) dX6_sheet_52 rfl ?_
              refine g_icmp_ne 60 dX6_sheet_53 (by decide) (fun h53 => ?_) (fun h53 => ?_)
              · refine g_iload_n 2 _ dX6_sheet_60 rfl rfl ?_
                first | exact J _ (by rw [if_pos (show k = 3 from h53)]; rfl) | exact J _ (by rw [if_neg (show ¬ k = 3 from h53)])
              · refine g_iconst (nI 0) dX6_sheet_56 rfl ?_
                refine g_goto 61 dX6_sheet_57 (by decide) ?_
                first | exact J _ (by rw [if_pos (show k = 3 from h53)]; rfl) | exact J _ (by rw [if_neg (show ¬ k = 3 from h53)])
            · exact absurd (show shF k m ≠ 0 by unfold shF; (repeat' split) <;> first | decide | (exfalso; simp only [ne_eq, fa_lt, fa_le, fa_eq, t0, t1, nt3, nt60, f3, f60] at *; omega)) (fun q => q h)
        · exact absurd (show shF k m ≠ 0 by unfold shF; (repeat' split) <;> first | decide | (exfalso; simp only [ne_eq, fa_lt, fa_le, fa_eq, t0, t1, nt3, nt60, f3, f60] at *; omega)) (fun q => q h)
theorem d_entry_no2 (μ : Mm) (i v : Int32) (h : μ.1 33 5 = -1 ∨ μ.1 33 5 = nI 3) : Ok mX6_entry (rmL 1) [.ref 33, .int i, .int v] μ (some (.int (nI 0)), sI (sI μ 33 14 0) 33 14 (nI 2)) := by
  refine Ok.of (by decide) (Nat.le_of_ble_eq_true rfl) [some (.ref 33), some (.int i), some (.int v), none] rfl ?_
  refine g_aload_n 0 _ dX6_entry_0 rfl rfl ?_
  refine g_backv (g_runV (d_start μ) rfl mw_X6_start mi_X6_start ml_X6_68 isO_33 ⟨rfl, rfl, Nat.le_of_ble_eq_true rfl, Nat.le_of_ble_eq_true rfl⟩ rfl rfl (Nat.le_of_ble_eq_true rfl) dX6_entry_1) ?_
  refine g_mem (μ' := sI μ 33 14 0) rfl ?_
  refine g_aload_n 0 _ dX6_entry_4 rfl rfl ?_
  refine gf_X6_27 rfl dX6_entry_5 ?_
  refine g_iconst (-1) dX6_entry_8 rfl ?_
  refine g_icmp_eq 20 dX6_entry_9 (by decide) (fun h9 => ?_) (fun h9 => ?_)
  · refine g_aload_n 0 _ dX6_entry_20 rfl rfl ?_
    refine g_iconst (nI 2) dX6_entry_21 rfl ?_
    refine g_backi (g_runV (d_not (sI μ 33 14 0) (nI 2)) rfl mw_X6_not mi_X6_not ml_X6_71 isO_33 ⟨rfl, rfl, Nat.le_of_ble_eq_true rfl, Nat.le_of_ble_eq_true rfl⟩ rfl rfl (Nat.le_of_ble_eq_true rfl) dX6_entry_22) ?_
    refine g_mem (μ' := sI (sI μ 33 14 0) 33 14 (nI 2)) rfl ?_
    refine g_top (w := .int (nI 0)) rfl ?_
    exact g_ireturn dX6_entry_25 rfl rfl rfl
  · refine g_aload_n 0 _ dX6_entry_12 rfl rfl ?_
    refine gf_X6_27 rfl dX6_entry_13 ?_
    refine g_iconst (nI 3) dX6_entry_16 rfl ?_
    refine g_icmp_ne 26 dX6_entry_17 (by decide) (fun h17 => ?_) (fun h17 => ?_)
    · exact h.elim (fun q => absurd q h9) (fun q => absurd q h17)
    · refine g_aload_n 0 _ dX6_entry_20 rfl rfl ?_
      refine g_iconst (nI 2) dX6_entry_21 rfl ?_
      refine g_backi (g_runV (d_not (sI μ 33 14 0) (nI 2)) rfl mw_X6_not mi_X6_not ml_X6_71 isO_33 ⟨rfl, rfl, Nat.le_of_ble_eq_true rfl, Nat.le_of_ble_eq_true rfl⟩ rfl rfl (Nat.le_of_ble_eq_true rfl) dX6_entry_22) ?_
      refine g_mem (μ' := sI (sI μ 33 14 0) 33 14 (nI 2)) rfl ?_
      refine g_top (w := .int (nI 0)) rfl ?_
      exact g_ireturn dX6_entry_25 rfl rfl rfl
theorem d_entry_no1 (μ : Mm) (i v : Int32) (h1 : μ.1 33 5 ≠ -1) (h3 : μ.1 33 5 ≠ nI 3) (h : i < 0 ∨ μ.1 33 6 ≤ i) : Ok mX6_entry (rmL 1) [.ref 33, .int i, .int v] μ (some (.int (nI 0)), sI (sI μ 33 14 0) 33 14 (nI 1)) := by
  refine Ok.of (by decide) (Nat.le_of_ble_eq_true rfl) [some (.ref 33), some (.int i), some (.int v), none] rfl ?_
  refine g_aload_n 0 _ dX6_entry_0 rfl rfl ?_
  refine g_backv (g_runV (d_start μ) rfl mw_X6_start mi_X6_start ml_X6_68 isO_33 ⟨rfl, rfl, Nat.le_of_ble_eq_true rfl, Nat.le_of_ble_eq_true rfl⟩ rfl rfl (Nat.le_of_ble_eq_true rfl) dX6_entry_1) ?_
  refine g_mem (μ' := sI μ 33 14 0) rfl ?_
  refine g_aload_n 0 _ dX6_entry_4 rfl rfl ?_
  refine gf_X6_27 rfl dX6_entry_5 ?_
  refine g_iconst (-1) dX6_entry_8 rfl ?_
  refine g_icmp_eq 20 dX6_entry_9 (by decide) (fun h9 => ?_) (fun h9 => ?_)
  · exact absurd h9 h1
  · refine g_aload_n 0 _ dX6_entry_12 rfl rfl ?_
    refine gf_X6_27 rfl dX6_entry_13 ?_
    refine g_iconst (nI 3) dX6_entry_16 rfl ?_
    refine g_icmp_ne 26 dX6_entry_17 (by decide) (fun h17 => ?_) (fun h17 => ?_)
    · refine g_iload_n 1 _ dX6_entry_26 rfl rfl ?_
      refine g_if_lt 38 dX6_entry_27 (by decide) (fun h27 => ?_) (fun h27 => ?_)
      · refine g_aload_n 0 _ dX6_entry_38 rfl rfl ?_
        refine g_iconst (nI 1) dX6_entry_39 rfl ?_
        refine g_backi (g_runV (d_not (sI μ 33 14 0) (nI 1)) rfl mw_X6_not mi_X6_not ml_X6_71 isO_33 ⟨rfl, rfl, Nat.le_of_ble_eq_true rfl, Nat.le_of_ble_eq_true rfl⟩ rfl rfl (Nat.le_of_ble_eq_true rfl) dX6_entry_40) ?_
        refine g_mem (μ' := sI (sI μ 33 14 0) 33 14 (nI 1)) rfl ?_
        refine g_top (w := .int (nI 0)) rfl ?_
        exact g_ireturn dX6_entry_43 rfl rfl rfl
      · refine g_iload_n 1 _ dX6_entry_30 rfl rfl ?_
        refine g_aload_n 0 _ dX6_entry_31 rfl rfl ?_
        refine gf_X6_83 rfl dX6_entry_32 ?_
        refine g_icmp_lt 44 dX6_entry_35 (by decide) (fun h35 => ?_) (fun h35 => ?_)
        · have h35' : i < μ.1 33 6 := h35; exfalso; simp only [ne_eq, fa_lt, fa_le, fa_eq, t0, t1, t2, tm1, nt0, nt1, nt2, nt3, nt4, nt5, nt7, nt9, nt10, nt13, nt14, nt30, nt32, nt59, nt60, nt200, nt1000, nt1000000, nt1073741824] at *; omega
        · refine g_aload_n 0 _ dX6_entry_38 rfl rfl ?_
          refine g_iconst (nI 1) dX6_entry_39 rfl ?_
          refine g_backi (g_runV (d_not (sI μ 33 14 0) (nI 1)) rfl mw_X6_not mi_X6_not ml_X6_71 isO_33 ⟨rfl, rfl, Nat.le_of_ble_eq_true rfl, Nat.le_of_ble_eq_true rfl⟩ rfl rfl (Nat.le_of_ble_eq_true rfl) dX6_entry_40) ?_
          refine g_mem (μ' := sI (sI μ 33 14 0) 33 14 (nI 1)) rfl ?_
          refine g_top (w := .int (nI 0)) rfl ?_
          exact g_ireturn dX6_entry_43 rfl rfl rfl
    · exact absurd h17 h3
/-- the reference's cut of a number -/
def cutG (k v : Int32) : Int32 := (v <<< ((nI 32 - (nI 8 <<< (k &&& 31))) &&& 31)) >>> ((nI 32 - (nI 8 <<< (k &&& 31))) &&& 31)
theorem d_entry_ok (μ : Mm) {i n : Nat} (v : Int32) (h1 : μ.1 33 5 ≠ -1) (h3 : μ.1 33 5 ≠ nI 3) (hl : μ.1 33 6 = nI n) (hn : n ≤ 60) (hi : i < n) : Ok mX6_entry (rmL 1) [.ref 33, .int (nI i), .int v] μ (some (.int (nI 1)), sI (sI μ 33 14 0) 38 i (cutG (μ.1 33 5) v)) := by
  refine Ok.of (by decide) (Nat.le_of_ble_eq_true rfl) [some (.ref 33), some (.int (nI i)), some (.int v), none] rfl ?_
  refine g_aload_n 0 _ dX6_entry_0 rfl rfl ?_
  refine g_backv (g_runV (d_start μ) rfl mw_X6_start mi_X6_start ml_X6_68 isO_33 ⟨rfl, rfl, Nat.le_of_ble_eq_true rfl, Nat.le_of_ble_eq_true rfl⟩ rfl rfl (Nat.le_of_ble_eq_true rfl) dX6_entry_1) ?_
  refine g_mem (μ' := sI μ 33 14 0) rfl ?_
  refine g_aload_n 0 _ dX6_entry_4 rfl rfl ?_
  refine gf_X6_27 rfl dX6_entry_5 ?_
  refine g_iconst (-1) dX6_entry_8 rfl ?_
  refine g_icmp_eq 20 dX6_entry_9 (by decide) (fun h9 => ?_) (fun h9 => ?_)
  · exact absurd h9 h1
  · refine g_aload_n 0 _ dX6_entry_12 rfl rfl ?_
    refine gf_X6_27 rfl dX6_entry_13 ?_
    refine g_iconst (nI 3) dX6_entry_16 rfl ?_
    refine g_icmp_ne 26 dX6_entry_17 (by decide) (fun h17 => ?_) (fun h17 => ?_)
    · refine g_iload_n 1 _ dX6_entry_26 rfl rfl ?_
      refine g_if_ltN 38 (by omega) dX6_entry_27 (by decide) ?_
      refine g_iload_n 1 _ dX6_entry_30 rfl rfl ?_
      refine g_aload_n 0 _ dX6_entry_31 rfl rfl ?_
      refine gf_X6_83 rfl dX6_entry_32 ?_
      refine g_top (w := .int (nI n)) (congrArg Value.int hl) ?_
      refine g_icmp_ltN 44 (by omega) (by omega) dX6_entry_35 (by decide) (fun h35 => ?_) (fun h35 => ?_)
      · refine g_bipush (nI 32) dX6_entry_44 rfl ?_
        refine g_bipush (nI 8) dX6_entry_46 rfl ?_
        refine g_aload_n 0 _ dX6_entry_48 rfl rfl ?_
        refine gf_X6_27 rfl dX6_entry_49 ?_
        refine g_ishl dX6_entry_52 ?_
        refine g_isub dX6_entry_53 ?_
        refine g_istore_n [some (.ref 33), some (.int (nI i)), some (.int v), some (.int ((nI 32) - ((nI 8) <<< (((sI μ 33 14 0).1 33 5) &&& 31))))] dX6_entry_54 rfl (Nat.le_of_ble_eq_true rfl) rfl rfl ?_
        refine g_at 55 rfl ?_
        refine g_aload_n 0 _ dX6_entry_55 rfl rfl ?_
        refine gf_X6_30 rfl dX6_entry_56 ?_
        refine g_iload_n 1 _ dX6_entry_59 rfl rfl ?_
        refine g_iload_n 2 _ dX6_entry_60 rfl rfl ?_
        refine g_iload_n 3 _ dX6_entry_61 rfl rfl ?_
        refine g_ishl dX6_entry_62 ?_
        refine g_iload_n 3 _ dX6_entry_63 rfl rfl ?_
        refine g_ishr dX6_entry_64 ?_
        refine g_at 65 rfl ?_
        refine g_iastore (j := i) isI_38 (rfl) (by omega) (by omega) dX6_entry_65 ?_
        refine g_iconst (nI 1) dX6_entry_66 rfl ?_
        exact g_ireturn dX6_entry_67 rfl rfl rfl
      · exact absurd h35 (by omega)
    · exact absurd h17 h3
