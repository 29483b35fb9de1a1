/-! HoleMaskModel: undo, back, noise, layShadow, rank, sure -/
theorem d_undo_no (μ : Mm) {n : Nat} (hn : μ.1 33 0 = nI n) (h60 : n ≤ 60) (h14 : 14 < n) : Ok mX6_undo (rmL 3) [.ref 33] μ (some (.long (-1)), sI (sI μ 33 14 0) 33 14 (nI 1)) := by
  refine Ok.of (by decide) (Nat.le_of_ble_eq_true rfl) [some (.ref 33), none] rfl ?_
  refine g_aload_n 0 _ dX6_undo_0 rfl rfl ?_
  refine g_backv (g_runV (d_start μ) rfl mw_X6_start mi_X6_start ml_X6_68 isO_33 ⟨rfl, rfl, Nat.le_of_ble_eq_true rfl, Nat.le_of_ble_eq_true rfl⟩ rfl rfl (Nat.le_of_ble_eq_true rfl) dX6_undo_1) ?_
  refine g_mem (μ' := sI μ 33 14 0) rfl ?_
  refine g_aload_n 0 _ dX6_undo_4 rfl rfl ?_
  refine gf_X6_7 rfl dX6_undo_5 ?_
  refine g_top (w := .int (nI n)) (congrArg Value.int hn) ?_
  refine g_bipush (nI 14) dX6_undo_8 rfl ?_
  refine g_icmp_leN 20 (by omega) (by omega) dX6_undo_10 (by decide) (fun h10 => ?_) (fun h10 => ?_)
  · exact absurd h10 (by omega)
  · refine g_aload_n 0 _ dX6_undo_13 rfl rfl ?_
    refine g_iconst (nI 1) dX6_undo_14 rfl ?_
    refine g_backi (g_runV (d_no (sI μ 33 14 0) (nI 1)) rfl mw_X6_no mi_X6_no ml_X6_79 isO_33 ⟨rfl, rfl, Nat.le_of_ble_eq_true rfl, Nat.le_of_ble_eq_true rfl⟩ rfl rfl (Nat.le_of_ble_eq_true rfl) dX6_undo_15) ?_
    refine g_mem (μ' := sI (sI μ 33 14 0) 33 14 (nI 1)) rfl ?_
    refine g_top (w := .int (-1)) rfl ?_
    refine g_i2l dX6_undo_18 ?_
    exact g_lreturn dX6_undo_19 rfl rfl
/-- undo's memory when solveBack begins -/
abbrev unB (μ : Mm) : Mm := sL (sI μ 33 14 0) 33 8 0
theorem d_undo_0 (μ : Mm) {n : Nat} (hn : μ.1 33 0 = nI n) (h14 : n ≤ 14) (hr : (sbN (μ.1 34) n (uD μ (n + 1))).1 < n) : Ok mX6_undo (rmL 3) [.ref 33] μ (some (.long 0), sL (mD (unB μ) (n + 1) (sbN (μ.1 34) n (uD μ (n + 1))).2.2) 33 20 (sbN (μ.1 34) n (uD μ (n + 1))).2.1) := by
  refine Ok.of (by decide) (Nat.le_of_ble_eq_true rfl) [some (.ref 33), none] rfl ?_
  refine g_aload_n 0 _ dX6_undo_0 rfl rfl ?_
  refine g_backv (g_runV (d_start μ) rfl mw_X6_start mi_X6_start ml_X6_68 isO_33 ⟨rfl, rfl, Nat.le_of_ble_eq_true rfl, Nat.le_of_ble_eq_true rfl⟩ rfl rfl (Nat.le_of_ble_eq_true rfl) dX6_undo_1) ?_
  refine g_mem (μ' := sI μ 33 14 0) rfl ?_
  refine g_aload_n 0 _ dX6_undo_4 rfl rfl ?_
  refine gf_X6_7 rfl dX6_undo_5 ?_
  refine g_top (w := .int (nI n)) (congrArg Value.int hn) ?_
  refine g_bipush (nI 14) dX6_undo_8 rfl ?_
  refine g_icmp_leN 20 (by omega) (by omega) dX6_undo_10 (by decide) (fun h10 => ?_) (fun h10 => ?_)
  · refine g_aload_n 0 _ dX6_undo_20 rfl rfl ?_
    refine g_lconst 0 dX6_undo_21 rfl ?_
    refine gp_X6_64 rfl dX6_undo_22 ?_
    refine g_aload_n 0 _ dX6_undo_25 rfl rfl ?_
    refine g_backi (g_runV (d_solveBack_no (unB μ) (n := n) hn h14 hr) rfl mw_X6_solveBack mi_X6_solveBack ml_X6_144 isO_33 ⟨rfl, rfl, Nat.le_of_ble_eq_true rfl, Nat.le_of_ble_eq_true rfl⟩ rfl rfl (Nat.le_of_ble_eq_true rfl) dX6_undo_26) ?_
    refine g_mem (μ' := sL (mD (unB μ) (n + 1) (sbN (μ.1 34) n (uD μ (n + 1))).2.2) 33 20 (sbN (μ.1 34) n (uD μ (n + 1))).2.1) rfl ?_
    refine g_top (w := .int (nI 0)) rfl ?_
    refine g_if_neN 34 (by omega) dX6_undo_29 (by decide) (fun h29 => ?_) (fun h29 => ?_)
    · exact absurd h29 (by omega)
    · refine g_lconst 0 dX6_undo_32 rfl ?_
      exact g_lreturn dX6_undo_33 rfl rfl
  · exact absurd h10 (by omega)
def sbQ (n : Nat) (D : Nat × Int64 × Mx) (j : Nat) : Int64 := D.2.2 j n / sbS n D.2.1 D.2.2
def unM (μ : Mm) (n : Nat) (D : Nat × Int64 × Mx) (j : Nat) : Mm := sRL (sL (sbM (unB μ) n D) 33 8 (D.2.1 / sbS n D.2.1 D.2.2)) 39 (fil (μ.2 39) (sbQ n D) j)
theorem d_undo_l {μ : Mm} {n : Nat} {D : Nat × Int64 × Mx} (hn : μ.1 33 0 = nI n) (h14 : n ≤ 14) : ∀ (m j : Nat), j ≤ n → n < j + m → G mX6_undo (rmL 3) (some (.long (D.2.1 / sbS n D.2.1 D.2.2)), unM μ n D n) (unM μ n D j) 44 [some (.ref 33), some (.int (nI j))] [] := by
  intro m
  induction m with
  | zero => exact fun i h1 h2 => absurd h2 (by omega)
  | succ m ih =>
    intro j h1 h2
    have ev : j < n → fil (μ.2 44) (sbQ n D) n j = sbQ n D j := fun h => fil_in h
    refine g_iload_n 1 _ dX6_undo_44 rfl rfl ?_
    refine g_aload_n 0 _ dX6_undo_45 rfl rfl ?_
    refine gf_X6_7 rfl dX6_undo_46 ?_
    refine g_top (w := .int (nI n)) (congrArg Value.int hn) ?_
    refine g_icmp_geN 70 (by omega) (by omega) dX6_undo_49 (by decide) (fun h49 => ?_) (fun h49 => ?_)
    · refine g_aload_n 0 _ dX6_undo_70 rfl rfl ?_
      refine gf_X6_64 rfl dX6_undo_71 ?_
      refine g_top (w := .long (D.2.1 / sbS n D.2.1 D.2.2)) (congrArg Value.long rfl) ?_
      exact g_lreturn dX6_undo_74 rfl (by rw [show j = n by omega])
    · refine g_aload_n 0 _ dX6_undo_52 rfl rfl ?_
      refine gf_X6_33 rfl dX6_undo_53 ?_
      refine g_iload_n 1 _ dX6_undo_56 rfl rfl ?_
      refine g_aload_n 0 _ dX6_undo_57 rfl rfl ?_
      refine gf_X6_52 rfl dX6_undo_58 ?_
      refine g_iload_n 1 _ dX6_undo_61 rfl rfl ?_
      refine g_laload (j := j) isL_44 (rfl) (by omega) (by omega) dX6_undo_62 ?_
      refine g_top (w := .long (sbQ n D j)) (congrArg Value.long (ev (by omega))) ?_
      refine g_at 63 rfl ?_
      refine g_lastore (j := j) isL_39 (rfl) (by omega) (by omega) dX6_undo_63 ?_
      refine g_mem (μ' := unM μ n D (j + 1)) (by exact sRL_fil _ _ _ _ _ rfl) ?_
      refine g_iincN [some (.ref 33), some (.int (nI (j + 1)))] dX6_undo_64 rfl (Nat.le_of_ble_eq_true rfl) rfl rfl ?_
      refine g_goto 44 dX6_undo_67 (by decide) ?_
      exact ih (j + 1) (by omega) (by omega)
theorem d_undo_1 (μ : Mm) {n : Nat} (hn : μ.1 33 0 = nI n) (h14 : n ≤ 14) {D : Nat × Int64 × Mx} (hD : sbN (μ.1 34) n (uD μ (n + 1)) = D) (hr : D.1 = n) (hd : D.2.1.toInt ≠ -9223372036854775808) (h0 : ¬ D.2.1 = 0) (hY : ∀ j, j < n → (D.2.2 j n).toInt ≠ -9223372036854775808) : Ok mX6_undo (rmL 3) [.ref 33] μ (some (.long (D.2.1 / sbS n D.2.1 D.2.2)), unM μ n D n) := by
  refine Ok.of (by decide) (Nat.le_of_ble_eq_true rfl) [some (.ref 33), none] rfl ?_
  have em : sL (sbM (unB μ) n D) 33 8 (D.2.1 / sbS n D.2.1 D.2.2) = unM μ n D 0 := by
    have e : (sL (sbM (unB μ) n D) 33 8 (D.2.1 / sbS n D.2.1 D.2.2)).2 39 = μ.2 39 := rfl
    unfold unM
    rw [fil_0, ← e, sRL_id]
  refine g_aload_n 0 _ dX6_undo_0 rfl rfl ?_
  refine g_backv (g_runV (d_start μ) rfl mw_X6_start mi_X6_start ml_X6_68 isO_33 ⟨rfl, rfl, Nat.le_of_ble_eq_true rfl, Nat.le_of_ble_eq_true rfl⟩ rfl rfl (Nat.le_of_ble_eq_true rfl) dX6_undo_1) ?_
  refine g_mem (μ' := sI μ 33 14 0) rfl ?_
  refine g_aload_n 0 _ dX6_undo_4 rfl rfl ?_
  refine gf_X6_7 rfl dX6_undo_5 ?_
  refine g_top (w := .int (nI n)) (congrArg Value.int hn) ?_
  refine g_bipush (nI 14) dX6_undo_8 rfl ?_
  refine g_icmp_leN 20 (by omega) (by omega) dX6_undo_10 (by decide) (fun h10 => ?_) (fun h10 => ?_)
  · refine g_aload_n 0 _ dX6_undo_20 rfl rfl ?_
    refine g_lconst 0 dX6_undo_21 rfl ?_
    refine gp_X6_64 rfl dX6_undo_22 ?_
    refine g_aload_n 0 _ dX6_undo_25 rfl rfl ?_
    refine g_backi (g_runV (d_solveBack_yes (unB μ) (n := n) hn h14 hD hr hd h0 hY) rfl mw_X6_solveBack mi_X6_solveBack ml_X6_144 isO_33 ⟨rfl, rfl, Nat.le_of_ble_eq_true rfl, Nat.le_of_ble_eq_true rfl⟩ rfl rfl (Nat.le_of_ble_eq_true rfl) dX6_undo_26) ?_
    refine g_mem (μ' := sbM (unB μ) n D) rfl ?_
    refine g_top (w := .int (nI 1)) rfl ?_
    refine g_if_neN 34 (by omega) dX6_undo_29 (by decide) (fun h29 => ?_) (fun h29 => ?_)
    · refine g_aload_n 0 _ dX6_undo_34 rfl rfl ?_
      refine g_aload_n 0 _ dX6_undo_35 rfl rfl ?_
      refine gf_X6_133 rfl dX6_undo_36 ?_
      refine g_top (w := .long (D.2.1 / sbS n D.2.1 D.2.2)) (congrArg Value.long rfl) ?_
      refine gp_X6_64 rfl dX6_undo_39 ?_
      refine g_iconst (nI 0) dX6_undo_42 rfl ?_
      refine g_istore_n [some (.ref 33), some (.int (nI 0))] dX6_undo_43 rfl (Nat.le_of_ble_eq_true rfl) rfl rfl ?_
      exact g_mem em (d_undo_l hn h14 (n + 1) 0 (by omega) (by omega))
    · exact absurd h29 (by omega)
  · exact absurd h10 (by omega)
theorem d_back_no1 (μ : Mm) (j : Int32) {n : Nat} (hn : μ.1 33 0 = nI n) (hj : ¬ (¬ j < 0 ∧ j < nI n)) : Ok mX6_back (rmL 1) [.ref 33, .int j] μ (some (.long 0), sI (sI μ 33 14 0) 33 14 (nI 1)) := by
  refine Ok.of (by decide) (Nat.le_of_ble_eq_true rfl) [some (.ref 33), some (.int j)] rfl ?_
  refine g_aload_n 0 _ dX6_back_0 rfl rfl ?_
  refine g_backv (g_runV (d_start μ) rfl mw_X6_start mi_X6_start ml_X6_68 isO_33 ⟨rfl, rfl, Nat.le_of_ble_eq_true rfl, Nat.le_of_ble_eq_true rfl⟩ rfl rfl (Nat.le_of_ble_eq_true rfl) dX6_back_1) ?_
  refine g_mem (μ' := sI μ 33 14 0) rfl ?_
  refine g_aload_n 0 _ dX6_back_4 rfl rfl ?_
  refine g_iload_n 1 _ dX6_back_5 rfl rfl ?_
  refine g_backi (g_runV ((d_isPlace (sI μ 33 14 0) j (n := n) hn).to (by rw [bI_f hj])) rfl mw_X6_isPlace mi_X6_isPlace ml_X6_94 isO_33 ⟨rfl, rfl, Nat.le_of_ble_eq_true rfl, Nat.le_of_ble_eq_true rfl⟩ rfl rfl (Nat.le_of_ble_eq_true rfl) dX6_back_6) ?_
  refine g_top (w := .int 0) rfl ?_
  refine g_if_eq 21 dX6_back_9 (by decide) (fun h9 => ?_) (fun h9 => ?_)
  · refine g_aload_n 0 _ dX6_back_21 rfl rfl ?_
    refine g_aload_n 0 _ dX6_back_22 rfl rfl ?_
    refine g_iload_n 1 _ dX6_back_23 rfl rfl ?_
    refine g_backi (g_runV ((d_isPlace (sI μ 33 14 0) j (n := n) hn).to (by rw [bI_f hj])) rfl mw_X6_isPlace mi_X6_isPlace ml_X6_94 isO_33 ⟨rfl, rfl, Nat.le_of_ble_eq_true rfl, Nat.le_of_ble_eq_true rfl⟩ rfl rfl (Nat.le_of_ble_eq_true rfl) dX6_back_24) ?_
    refine g_top (w := .int 0) rfl ?_
    refine g_if_eq 34 dX6_back_27 (by decide) (fun h27 => ?_) (fun h27 => ?_)
    · refine g_iconst (nI 1) dX6_back_34 rfl ?_
      refine g_backi (g_runV (d_no (sI μ 33 14 0) (nI 1)) rfl mw_X6_no mi_X6_no ml_X6_79 isO_33 ⟨rfl, rfl, Nat.le_of_ble_eq_true rfl, Nat.le_of_ble_eq_true rfl⟩ rfl rfl (Nat.le_of_ble_eq_true rfl) dX6_back_35) ?_
      refine g_mem (μ' := sI (sI μ 33 14 0) 33 14 (nI 1)) rfl ?_
      refine g_top (w := .int (-1)) rfl ?_
      refine g_pop dX6_back_38 rfl ?_
      refine g_lconst 0 dX6_back_39 rfl ?_
      exact g_lreturn dX6_back_40 rfl rfl
    · exact absurd rfl h27
  · exact absurd rfl h9
theorem d_back_no2 (μ : Mm) (j : Int32) {n : Nat} (hn : μ.1 33 0 = nI n) (hj : ¬ j < 0 ∧ j < nI n) (h0 : μ.2 33 8 = 0) : Ok mX6_back (rmL 1) [.ref 33, .int j] μ (some (.long 0), sI (sI μ 33 14 0) 33 14 (nI 2)) := by
  refine Ok.of (by decide) (Nat.le_of_ble_eq_true rfl) [some (.ref 33), some (.int j)] rfl ?_
  refine g_aload_n 0 _ dX6_back_0 rfl rfl ?_
  refine g_backv (g_runV (d_start μ) rfl mw_X6_start mi_X6_start ml_X6_68 isO_33 ⟨rfl, rfl, Nat.le_of_ble_eq_true rfl, Nat.le_of_ble_eq_true rfl⟩ rfl rfl (Nat.le_of_ble_eq_true rfl) dX6_back_1) ?_
  refine g_mem (μ' := sI μ 33 14 0) rfl ?_
  refine g_aload_n 0 _ dX6_back_4 rfl rfl ?_
  refine g_iload_n 1 _ dX6_back_5 rfl rfl ?_
  refine g_backi (g_runV ((d_isPlace (sI μ 33 14 0) j (n := n) hn).to (by rw [bI_t hj])) rfl mw_X6_isPlace mi_X6_isPlace ml_X6_94 isO_33 ⟨rfl, rfl, Nat.le_of_ble_eq_true rfl, Nat.le_of_ble_eq_true rfl⟩ rfl rfl (Nat.le_of_ble_eq_true rfl) dX6_back_6) ?_
  refine g_top (w := .int 1) rfl ?_
  refine g_if_eq 21 dX6_back_9 (by decide) (fun h9 => ?_) (fun h9 => ?_)
  · exact absurd h9 (by decide)
  · refine g_aload_n 0 _ dX6_back_12 rfl rfl ?_
    refine gf_X6_64 rfl dX6_back_13 ?_
    refine g_lconst 0 dX6_back_16 rfl ?_
    refine g_lcmp dX6_back_17 ?_
    refine g_if_neC 41 dX6_back_18 (by decide) (fun h18 => ?_) (fun h18 => ?_)
    · exact absurd h0 h18
    · refine g_aload_n 0 _ dX6_back_21 rfl rfl ?_
      refine g_aload_n 0 _ dX6_back_22 rfl rfl ?_
      refine g_iload_n 1 _ dX6_back_23 rfl rfl ?_
      refine g_backi (g_runV ((d_isPlace (sI μ 33 14 0) j (n := n) hn).to (by rw [bI_t hj])) rfl mw_X6_isPlace mi_X6_isPlace ml_X6_94 isO_33 ⟨rfl, rfl, Nat.le_of_ble_eq_true rfl, Nat.le_of_ble_eq_true rfl⟩ rfl rfl (Nat.le_of_ble_eq_true rfl) dX6_back_24) ?_
      refine g_top (w := .int 1) rfl ?_
      refine g_if_eq 34 dX6_back_27 (by decide) (fun h27 => ?_) (fun h27 => ?_)
      · exact absurd h27 (by decide)
      · refine g_iconst (nI 2) dX6_back_30 rfl ?_
        refine g_goto 35 dX6_back_31 (by decide) ?_
        refine g_backi (g_runV (d_no (sI μ 33 14 0) (nI 2)) rfl mw_X6_no mi_X6_no ml_X6_79 isO_33 ⟨rfl, rfl, Nat.le_of_ble_eq_true rfl, Nat.le_of_ble_eq_true rfl⟩ rfl rfl (Nat.le_of_ble_eq_true rfl) dX6_back_35) ?_
        refine g_mem (μ' := sI (sI μ 33 14 0) 33 14 (nI 2)) rfl ?_
        refine g_top (w := .int (-1)) rfl ?_
        refine g_pop dX6_back_38 rfl ?_
        refine g_lconst 0 dX6_back_39 rfl ?_
        exact g_lreturn dX6_back_40 rfl rfl
theorem d_back_ok (μ : Mm) {j n : Nat} (hn : μ.1 33 0 = nI n) (h14 : n ≤ 14) (hj : j < n) (h0 : ¬ μ.2 33 8 = 0) : Ok mX6_back (rmL 1) [.ref 33, .int (nI j)] μ (some (.long (μ.2 39 j)), sI μ 33 14 0) := by
  refine Ok.of (by decide) (Nat.le_of_ble_eq_true rfl) [some (.ref 33), some (.int (nI j))] rfl ?_
  refine g_aload_n 0 _ dX6_back_0 rfl rfl ?_
  refine g_backv (g_runV (d_start μ) rfl mw_X6_start mi_X6_start ml_X6_68 isO_33 ⟨rfl, rfl, Nat.le_of_ble_eq_true rfl, Nat.le_of_ble_eq_true rfl⟩ rfl rfl (Nat.le_of_ble_eq_true rfl) dX6_back_1) ?_
  refine g_mem (μ' := sI μ 33 14 0) rfl ?_
  refine g_aload_n 0 _ dX6_back_4 rfl rfl ?_
  refine g_iload_n 1 _ dX6_back_5 rfl rfl ?_
  refine g_backi (g_runV ((d_isPlace (sI μ 33 14 0) (nI j) (n := n) hn).to (by rw [bI_t ⟨nI_pos (by omega), nI_lt hj (by omega)⟩])) rfl mw_X6_isPlace mi_X6_isPlace ml_X6_94 isO_33 ⟨rfl, rfl, Nat.le_of_ble_eq_true rfl, Nat.le_of_ble_eq_true rfl⟩ rfl rfl (Nat.le_of_ble_eq_true rfl) dX6_back_6) ?_
  refine g_top (w := .int 1) rfl ?_
  refine g_if_eq 21 dX6_back_9 (by decide) (fun h9 => ?_) (fun h9 => ?_)
  · exact absurd h9 (by decide)
  · refine g_aload_n 0 _ dX6_back_12 rfl rfl ?_
    refine gf_X6_64 rfl dX6_back_13 ?_
    refine g_lconst 0 dX6_back_16 rfl ?_
    refine g_lcmp dX6_back_17 ?_
    refine g_if_neC 41 dX6_back_18 (by decide) (fun h18 => ?_) (fun h18 => ?_)
    · refine g_aload_n 0 _ dX6_back_41 rfl rfl ?_
      refine gf_X6_33 rfl dX6_back_42 ?_
      refine g_iload_n 1 _ dX6_back_45 rfl rfl ?_
      refine g_laload (j := j) isL_39 (rfl) (by omega) (by omega) dX6_back_46 ?_
      exact g_lreturn dX6_back_47 rfl rfl
    · exact absurd h18 h0
theorem d_noise_no1 (μ : Mm) (w : Int32) (hw : w.toInt < 0 ∨ 1 < w.toInt) : Ok mX6_noise (rmL 2) [.ref 33, .int w] μ (some (.long 0), sI (sI μ 33 14 0) 33 14 (nI 1)) := by
  refine Ok.of (by decide) (Nat.le_of_ble_eq_true rfl) [some (.ref 33), some (.int w), none, none, none, none, none, none] rfl ?_
  refine g_aload_n 0 _ dX6_noise_0 rfl rfl ?_
  refine g_backv (g_runV (d_start μ) rfl mw_X6_start mi_X6_start ml_X6_68 isO_33 ⟨rfl, rfl, Nat.le_of_ble_eq_true rfl, Nat.le_of_ble_eq_true rfl⟩ rfl rfl (Nat.le_of_ble_eq_true rfl) dX6_noise_1) ?_
  refine g_mem (μ' := sI μ 33 14 0) rfl ?_
  refine g_iload_n 1 _ dX6_noise_4 rfl rfl ?_
  refine g_if_lt 22 dX6_noise_5 (by decide) (fun h5 => ?_) (fun h5 => ?_)
  · refine g_aload_n 0 _ dX6_noise_22 rfl rfl ?_
    refine g_iload_n 1 _ dX6_noise_23 rfl rfl ?_
    refine g_if_lt 32 dX6_noise_24 (by decide) (fun h24 => ?_) (fun h24 => ?_)
    · refine g_iconst (nI 1) dX6_noise_32 rfl ?_
      refine g_goto 37 dX6_noise_33 (by decide) ?_
      refine g_backi (g_runV (d_no (sI μ 33 14 0) (nI 1)) rfl mw_X6_no mi_X6_no ml_X6_79 isO_33 ⟨rfl, rfl, Nat.le_of_ble_eq_true rfl, Nat.le_of_ble_eq_true rfl⟩ rfl rfl (Nat.le_of_ble_eq_true rfl) dX6_noise_37) ?_
      refine g_mem (μ' := sI (sI μ 33 14 0) 33 14 (nI 1)) rfl ?_
      refine g_top (w := .int (-1)) rfl ?_
      refine g_pop dX6_noise_40 rfl ?_
      refine g_lconst 0 dX6_noise_41 rfl ?_
      exact g_lreturn dX6_noise_42 rfl rfl
    · refine g_iload_n 1 _ dX6_noise_27 rfl rfl ?_
      refine g_iconst (nI 1) dX6_noise_28 rfl ?_
      refine g_icmp_le 36 dX6_noise_29 (by decide) (fun h29 => ?_) (fun h29 => ?_)
      · exfalso; simp only [ne_eq, fa_lt, fa_le, fa_eq, t0, t1, t2, tm1, nt0, nt1, nt2, nt3, nt4, nt5, nt7, nt9, nt10, nt13, nt14, nt30, nt32, nt59, nt60, nt200, nt1000, nt1000000, nt1073741824] at *; omega
      · refine g_iconst (nI 1) dX6_noise_32 rfl ?_
        refine g_goto 37 dX6_noise_33 (by decide) ?_
        refine g_backi (g_runV (d_no (sI μ 33 14 0) (nI 1)) rfl mw_X6_no mi_X6_no ml_X6_79 isO_33 ⟨rfl, rfl, Nat.le_of_ble_eq_true rfl, Nat.le_of_ble_eq_true rfl⟩ rfl rfl (Nat.le_of_ble_eq_true rfl) dX6_noise_37) ?_
        refine g_mem (μ' := sI (sI μ 33 14 0) 33 14 (nI 1)) rfl ?_
        refine g_top (w := .int (-1)) rfl ?_
        refine g_pop dX6_noise_40 rfl ?_
        refine g_lconst 0 dX6_noise_41 rfl ?_
        exact g_lreturn dX6_noise_42 rfl rfl
  · refine g_iload_n 1 _ dX6_noise_8 rfl rfl ?_
    refine g_iconst (nI 1) dX6_noise_9 rfl ?_
    refine g_icmp_gt 22 dX6_noise_10 (by decide) (fun h10 => ?_) (fun h10 => ?_)
    · refine g_aload_n 0 _ dX6_noise_22 rfl rfl ?_
      refine g_iload_n 1 _ dX6_noise_23 rfl rfl ?_
      refine g_if_lt 32 dX6_noise_24 (by decide) (fun h24 => ?_) (fun h24 => ?_)
      · refine g_iconst (nI 1) dX6_noise_32 rfl ?_
        refine g_goto 37 dX6_noise_33 (by decide) ?_
        refine g_backi (g_runV (d_no (sI μ 33 14 0) (nI 1)) rfl mw_X6_no mi_X6_no ml_X6_79 isO_33 ⟨rfl, rfl, Nat.le_of_ble_eq_true rfl, Nat.le_of_ble_eq_true rfl⟩ rfl rfl (Nat.le_of_ble_eq_true rfl) dX6_noise_37) ?_
        refine g_mem (μ' := sI (sI μ 33 14 0) 33 14 (nI 1)) rfl ?_
        refine g_top (w := .int (-1)) rfl ?_
        refine g_pop dX6_noise_40 rfl ?_
        refine g_lconst 0 dX6_noise_41 rfl ?_
        exact g_lreturn dX6_noise_42 rfl rfl
      · refine g_iload_n 1 _ dX6_noise_27 rfl rfl ?_
        refine g_iconst (nI 1) dX6_noise_28 rfl ?_
        refine g_icmp_le 36 dX6_noise_29 (by decide) (fun h29 => ?_) (fun h29 => ?_)
        · exfalso; simp only [ne_eq, fa_lt, fa_le, fa_eq, t0, t1, t2, tm1, nt0, nt1, nt2, nt3, nt4, nt5, nt7, nt9, nt10, nt13, nt14, nt30, nt32, nt59, nt60, nt200, nt1000, nt1000000, nt1073741824] at *; omega
        · refine g_iconst (nI 1) dX6_noise_32 rfl ?_
          refine g_goto 37 dX6_noise_33 (by decide) ?_
          refine g_backi (g_runV (d_no (sI μ 33 14 0) (nI 1)) rfl mw_X6_no mi_X6_no ml_X6_79 isO_33 ⟨rfl, rfl, Nat.le_of_ble_eq_true rfl, Nat.le_of_ble_eq_true rfl⟩ rfl rfl (Nat.le_of_ble_eq_true rfl) dX6_noise_37) ?_
          refine g_mem (μ' := sI (sI μ 33 14 0) 33 14 (nI 1)) rfl ?_
          refine g_top (w := .int (-1)) rfl ?_
          refine g_pop dX6_noise_40 rfl ?_
          refine g_lconst 0 dX6_noise_41 rfl ?_
          exact g_lreturn dX6_noise_42 rfl rfl
    · exfalso; simp only [ne_eq, fa_lt, fa_le, fa_eq, t0, t1, t2, tm1, nt0, nt1, nt2, nt3, nt4, nt5, nt7, nt9, nt10, nt13, nt14, nt30, nt32, nt59, nt60, nt200, nt1000, nt1000000, nt1073741824] at *; omega
theorem d_noise_no2 (μ : Mm) {w : Nat} (hw : w < 2) (h0 : μ.2 33 8 = 0) : Ok mX6_noise (rmL 2) [.ref 33, .int (nI w)] μ (some (.long 0), sI (sI μ 33 14 0) 33 14 (nI 2)) := by
  refine Ok.of (by decide) (Nat.le_of_ble_eq_true rfl) [some (.ref 33), some (.int (nI w)), none, none, none, none, none, none] rfl ?_
  refine g_aload_n 0 _ dX6_noise_0 rfl rfl ?_
  refine g_backv (g_runV (d_start μ) rfl mw_X6_start mi_X6_start ml_X6_68 isO_33 ⟨rfl, rfl, Nat.le_of_ble_eq_true rfl, Nat.le_of_ble_eq_true rfl⟩ rfl rfl (Nat.le_of_ble_eq_true rfl) dX6_noise_1) ?_
  refine g_mem (μ' := sI μ 33 14 0) rfl ?_
  refine g_iload_n 1 _ dX6_noise_4 rfl rfl ?_
  refine g_if_ltN 22 (by omega) dX6_noise_5 (by decide) ?_
  refine g_iload_n 1 _ dX6_noise_8 rfl rfl ?_
  refine g_iconst (nI 1) dX6_noise_9 rfl ?_
  refine g_icmp_gtN 22 (by omega) (by omega) dX6_noise_10 (by decide) (fun h10 => ?_) (fun h10 => ?_)
  · exact absurd h10 (by omega)
  · refine g_aload_n 0 _ dX6_noise_13 rfl rfl ?_
    refine gf_X6_64 rfl dX6_noise_14 ?_
    refine g_lconst 0 dX6_noise_17 rfl ?_
    refine g_lcmp dX6_noise_18 ?_
    refine g_if_neC 43 dX6_noise_19 (by decide) (fun h19 => ?_) (fun h19 => ?_)
    · exact absurd h0 h19
    · refine g_aload_n 0 _ dX6_noise_22 rfl rfl ?_
      refine g_iload_n 1 _ dX6_noise_23 rfl rfl ?_
      refine g_if_ltN 32 (by omega) dX6_noise_24 (by decide) ?_
      refine g_iload_n 1 _ dX6_noise_27 rfl rfl ?_
      refine g_iconst (nI 1) dX6_noise_28 rfl ?_
      refine g_icmp_leN 36 (by omega) (by omega) dX6_noise_29 (by decide) (fun h29 => ?_) (fun h29 => ?_)
      · refine g_iconst (nI 2) dX6_noise_36 rfl ?_
        refine g_backi (g_runV (d_no (sI μ 33 14 0) (nI 2)) rfl mw_X6_no mi_X6_no ml_X6_79 isO_33 ⟨rfl, rfl, Nat.le_of_ble_eq_true rfl, Nat.le_of_ble_eq_true rfl⟩ rfl rfl (Nat.le_of_ble_eq_true rfl) dX6_noise_37) ?_
        refine g_mem (μ' := sI (sI μ 33 14 0) 33 14 (nI 2)) rfl ?_
        refine g_top (w := .int (-1)) rfl ?_
        refine g_pop dX6_noise_40 rfl ?_
        refine g_lconst 0 dX6_noise_41 rfl ?_
        exact g_lreturn dX6_noise_42 rfl rfl
      · exact absurd h29 (by omega)
def nqF (w : Prop) [Decidable w] (s d : Int64) : Int64 := (if w then s else d * d) / (lN (Nat.gcd s.toInt.natAbs (d * d).toInt.natAbs))
theorem d_noise_l {μ : Mm} {n w : Nat} (hn : μ.1 33 0 = nI n) (h14 : n ≤ 14) (hw : w < 2) (h1 : (ssF (μ.2 39) n).toInt ≠ -9223372036854775808) (h2 : (μ.2 33 8 * μ.2 33 8).toInt ≠ -9223372036854775808) (h3 : ¬ μ.2 33 8 * μ.2 33 8 = 0) : ∀ (m i : Nat), i ≤ n → n < i + m → G mX6_noise (rmL 2) (some (.long (nqF (w = 0) (ssF (μ.2 39) n) (μ.2 33 8))), μ) μ 48 [some (.ref 33), some (.int (nI w)), some (.long (ssF (μ.2 39) i)), none, some (.int (nI i)), none, none, none] [] := by
  intro m
  induction m with
  | zero => exact fun i h1 h2 => absurd h2 (by omega)
  | succ m ih =>
    intro i h4 h5
    have hgc : ¬ lN (Nat.gcd (ssF (μ.2 39) n).toInt.natAbs (μ.2 33 8 * μ.2 33 8).toInt.natAbs) = 0 := lN_ne0 (Nat.gcd_pos_of_pos_right _ (by have : (μ.2 33 8 * μ.2 33 8).toInt ≠ 0 := fun e => h3 (Int64.toInt_inj.mp e); omega)) (gcdL h1 h2)
    by_cases hi : i < n
    · refine g_iload _ dX6_noise_48 rfl ?_
      refine g_aload_n 0 _ dX6_noise_50 rfl rfl ?_
      refine gf_X6_7 rfl dX6_noise_51 ?_
      refine g_top (w := .int (nI n)) (congrArg Value.int hn) ?_
      refine g_icmp_geN 81 (by omega) (by omega) dX6_noise_54 (by decide) (fun h54 => ?_) (fun h54 => ?_)
      · exact absurd h54 (by omega)
      · refine g_lload_n 2 _ dX6_noise_57 rfl rfl ?_
        refine g_aload_n 0 _ dX6_noise_58 rfl rfl ?_
        refine gf_X6_33 rfl dX6_noise_59 ?_
        refine g_iload _ dX6_noise_62 rfl ?_
        refine g_laload (j := i) isL_39 (rfl) (by omega) (by omega) dX6_noise_64 ?_
        refine g_aload_n 0 _ dX6_noise_65 rfl rfl ?_
        refine gf_X6_33 rfl dX6_noise_66 ?_
        refine g_at 69 rfl ?_
        refine g_iload _ dX6_noise_69 rfl ?_
        refine g_laload (j := i) isL_39 (rfl) (by omega) (by omega) dX6_noise_71 ?_
        refine g_lmul dX6_noise_72 ?_
        refine g_ladd dX6_noise_73 ?_
        refine g_lstore_n [some (.ref 33), some (.int (nI w)), some (.long ((ssF (μ.2 39) i) + ((μ.2 39 i) * (μ.2 39 i)))), none, some (.int (nI i)), none, none, none] dX6_noise_74 rfl (Nat.le_of_ble_eq_true rfl) rfl rfl ?_
        refine g_iincN [some (.ref 33), some (.int (nI w)), some (.long ((ssF (μ.2 39) i) + ((μ.2 39 i) * (μ.2 39 i)))), none, some (.int (nI (i + 1))), none, none, none] dX6_noise_75 rfl (Nat.le_of_ble_eq_true rfl) rfl rfl ?_
        refine g_goto 48 dX6_noise_78 (by decide) ?_
        exact ih (i + 1) (by omega) (by omega)
    · have hin : i = n := by omega
      subst hin
      refine g_iload _ dX6_noise_48 rfl ?_
      refine g_aload_n 0 _ dX6_noise_50 rfl rfl ?_
      refine gf_X6_7 rfl dX6_noise_51 ?_
      refine g_top (w := .int (nI i)) (congrArg Value.int hn) ?_
      refine g_icmp_geN 81 (by omega) (by omega) dX6_noise_54 (by decide) (fun h54 => ?_) (fun h54 => ?_)
      · refine g_aload_n 0 _ dX6_noise_81 rfl rfl ?_
        refine gf_X6_64 rfl dX6_noise_82 ?_
        refine g_aload_n 0 _ dX6_noise_85 rfl rfl ?_
        refine gf_X6_64 rfl dX6_noise_86 ?_
        refine g_lmul dX6_noise_89 ?_
        refine g_lstore [some (.ref 33), some (.int (nI w)), some (.long (ssF (μ.2 39) i)), none, some (.long ((μ.2 33 8) * (μ.2 33 8))), none, none, none] dX6_noise_90 (Nat.le_of_ble_eq_true rfl) rfl rfl ?_
        refine g_lload_n 2 _ dX6_noise_92 rfl rfl ?_
        refine g_at 93 rfl ?_
        refine g_lload _ dX6_noise_93 rfl ?_
        refine g_backl (g_runS (d_gcd μ (ssF (μ.2 39) i) ((μ.2 33 8) * (μ.2 33 8)) h1 h2) rfl mw_X6_gcd ms_X6_gcd ml_X6_140 ⟨rfl, rfl, Nat.le_of_ble_eq_true rfl, Nat.le_of_ble_eq_true rfl⟩ rfl rfl (Nat.le_of_ble_eq_true rfl) dX6_noise_95) ?_
        refine g_top (w := .long (lN (Nat.gcd (ssF (μ.2 39) i).toInt.natAbs (μ.2 33 8 * μ.2 33 8).toInt.natAbs))) rfl ?_
        refine g_lstore [some (.ref 33), some (.int (nI w)), some (.long (ssF (μ.2 39) i)), none, some (.long ((μ.2 33 8) * (μ.2 33 8))), none, some (.long (lN (Nat.gcd (ssF (μ.2 39) i).toInt.natAbs (μ.2 33 8 * μ.2 33 8).toInt.natAbs))), none] dX6_noise_98 (Nat.le_of_ble_eq_true rfl) rfl rfl ?_
        refine g_iload_n 1 _ dX6_noise_100 rfl rfl ?_
        refine g_if_neN 108 (by omega) dX6_noise_101 (by decide) (fun h101 => ?_) (fun h101 => ?_)
        · refine g_lload _ dX6_noise_108 rfl ?_
          refine g_lload _ dX6_noise_110 rfl ?_
          refine g_ldiv dX6_noise_112 hgc ?_
          exact g_lreturn dX6_noise_113 rfl (by unfold nqF; first | rw [if_pos (by omega)] | rw [if_neg (by omega)])
        · refine g_lload_n 2 _ dX6_noise_104 rfl rfl ?_
          refine g_goto 110 dX6_noise_105 (by decide) ?_
          refine g_lload _ dX6_noise_110 rfl ?_
          refine g_ldiv dX6_noise_112 hgc ?_
          exact g_lreturn dX6_noise_113 rfl (by unfold nqF; first | rw [if_pos (by omega)] | rw [if_neg (by omega)])
      · exact absurd h54 hi
theorem d_noise_ok (μ : Mm) {w n : Nat} (hn : μ.1 33 0 = nI n) (h14 : n ≤ 14) (hw : w < 2) (h0 : ¬ μ.2 33 8 = 0) (h1 : (ssF (μ.2 39) n).toInt ≠ -9223372036854775808) (h2 : (μ.2 33 8 * μ.2 33 8).toInt ≠ -9223372036854775808) (h3 : ¬ μ.2 33 8 * μ.2 33 8 = 0) : Ok mX6_noise (rmL 2) [.ref 33, .int (nI w)] μ (some (.long (nqF (w = 0) (ssF (μ.2 39) n) (μ.2 33 8))), sI μ 33 14 0) := by
  refine Ok.of (by decide) (Nat.le_of_ble_eq_true rfl) [some (.ref 33), some (.int (nI w)), none, none, none, none, none, none] rfl ?_
  refine g_aload_n 0 _ dX6_noise_0 rfl rfl ?_
  refine g_backv (g_runV (d_start μ) rfl mw_X6_start mi_X6_start ml_X6_68 isO_33 ⟨rfl, rfl, Nat.le_of_ble_eq_true rfl, Nat.le_of_ble_eq_true rfl⟩ rfl rfl (Nat.le_of_ble_eq_true rfl) dX6_noise_1) ?_
  refine g_mem (μ' := sI μ 33 14 0) rfl ?_
  refine g_iload_n 1 _ dX6_noise_4 rfl rfl ?_
  refine g_if_ltN 22 (by omega) dX6_noise_5 (by decide) ?_
  refine g_iload_n 1 _ dX6_noise_8 rfl rfl ?_
  refine g_iconst (nI 1) dX6_noise_9 rfl ?_
  refine g_icmp_gtN 22 (by omega) (by omega) dX6_noise_10 (by decide) (fun h10 => ?_) (fun h10 => ?_)
  · exact absurd h10 (by omega)
  · refine g_aload_n 0 _ dX6_noise_13 rfl rfl ?_
    refine gf_X6_64 rfl dX6_noise_14 ?_
    refine g_lconst 0 dX6_noise_17 rfl ?_
    refine g_lcmp dX6_noise_18 ?_
    refine g_if_neC 43 dX6_noise_19 (by decide) (fun h19 => ?_) (fun h19 => ?_)
    · refine g_lconst 0 dX6_noise_43 rfl ?_
      refine g_lstore_n [some (.ref 33), some (.int (nI w)), some (.long 0), none, none, none, none, none] dX6_noise_44 rfl (Nat.le_of_ble_eq_true rfl) rfl rfl ?_
      refine g_iconst (nI 0) dX6_noise_45 rfl ?_
      refine g_istore [some (.ref 33), some (.int (nI w)), some (.long 0), none, some (.int (nI 0)), none, none, none] dX6_noise_46 (Nat.le_of_ble_eq_true rfl) rfl rfl ?_
      exact d_noise_l (μ := sI μ 33 14 0) hn h14 hw h1 h2 h3 (n + 1) 0 (by omega) (by omega)
    · exact absurd h19 h0
