/-! HoleMask: undo, back, noise, rank, lost, solve, sure -/
abbrev uX (μ : Mm) : Mx := fun r => μ.2 (13 + r)
theorem uX_id (μ : Mm) : μ = mU μ (uX μ) := (mU_id μ).symm
theorem c_undo_no (μ : Mm) {n : Nat} (hn : μ.1 1 2 = nI n) (h60 : n ≤ 60) (h14 : 14 < n) : Ok mX5_undo (rmL 5) [.ref 0] μ (some (.long (-1)), sI μ 0 5 (nI 1)) := by
  refine Ok.of (by decide) (Nat.le_of_ble_eq_true rfl) [some (.ref 0)] rfl ?_
  refine g_aload_n 0 _ dX5_undo_0 rfl rfl ?_
  refine g_aload_n 0 _ dX5_undo_1 rfl rfl ?_
  refine g_backi (g_runV ((c_smallRing μ (n := n) hn h60).to (by rw [if_pos h14])) rfl mw_X5_smallRingFault mi_X5_smallRingFault ml_X5_162 isO_0 ⟨rfl, rfl, Nat.le_of_ble_eq_true rfl, Nat.le_of_ble_eq_true rfl⟩ rfl rfl (Nat.le_of_ble_eq_true rfl) dX5_undo_2) ?_
  refine g_top (w := .int (nI 1)) rfl ?_
  refine g_backi (g_runV (c_refuses1 μ (f := nI 1) (by decide)) rfl mw_X5_refuses mi_X5_refuses ml_X5_48 isO_0 ⟨rfl, rfl, Nat.le_of_ble_eq_true rfl, Nat.le_of_ble_eq_true rfl⟩ rfl rfl (Nat.le_of_ble_eq_true rfl) dX5_undo_5) ?_
  refine g_mem (μ' := sI μ 0 5 (nI 1)) rfl ?_
  refine g_top (w := .int (nI 1)) rfl ?_
  refine g_if_eqN 15 (by omega) dX5_undo_8 (by decide) (fun h8 => ?_) (fun h8 => ?_)
  · exact absurd h8 (by omega)
  · refine g_ldc2 _ rfl kl_X5_165 dX5_undo_11 ?_
    exact g_lreturn dX5_undo_14 rfl rfl
theorem c_undo_0 (μ : Mm) {n : Nat} (hn : μ.1 1 2 = nI n) (h14 : n ≤ 14) (hr : (rdN (μ.1 7) n (uX μ)).1 < n) : Ok mX5_undo (rmL 5) [.ref 0] μ (some (.long 0), sI (mU (sI μ 0 5 0) (rdN (μ.1 7) n (uX μ)).2) 3 4 (nI 0)) := by
  refine Ok.of (by decide) (Nat.le_of_ble_eq_true rfl) [some (.ref 0)] rfl ?_
  refine g_aload_n 0 _ dX5_undo_0 rfl rfl ?_
  refine g_aload_n 0 _ dX5_undo_1 rfl rfl ?_
  refine g_backi (g_runV ((c_smallRing μ (n := n) hn (by omega)).to (by rw [if_neg (by omega)])) rfl mw_X5_smallRingFault mi_X5_smallRingFault ml_X5_162 isO_0 ⟨rfl, rfl, Nat.le_of_ble_eq_true rfl, Nat.le_of_ble_eq_true rfl⟩ rfl rfl (Nat.le_of_ble_eq_true rfl) dX5_undo_2) ?_
  refine g_top (w := .int (nI 0)) rfl ?_
  refine g_backi (g_runV (c_refuses0 μ) rfl mw_X5_refuses mi_X5_refuses ml_X5_48 isO_0 ⟨rfl, rfl, Nat.le_of_ble_eq_true rfl, Nat.le_of_ble_eq_true rfl⟩ rfl rfl (Nat.le_of_ble_eq_true rfl) dX5_undo_5) ?_
  refine g_mem (μ' := sI μ 0 5 0) rfl ?_
  refine g_top (w := .int (nI 0)) rfl ?_
  refine g_if_eqN 15 (by omega) dX5_undo_8 (by decide) (fun h8 => ?_) (fun h8 => ?_)
  · refine g_mem (μ' := mU (sI μ 0 5 0) (uX μ)) (by exact uX_id _) ?_
    refine g_aload_n 0 _ dX5_undo_15 rfl rfl ?_
    refine gf_X5_26 rfl dX5_undo_16 ?_
    refine g_aload_n 0 _ dX5_undo_19 rfl rfl ?_
    refine gf_X5_26 rfl dX5_undo_20 ?_
    refine g_aload_n 0 _ dX5_undo_23 rfl rfl ?_
    refine gf_X5_10 rfl dX5_undo_24 ?_
    refine g_backi (g_runVN (c_invert_no (sI μ 0 5 0) (uX μ) (n := n) hn h14 hr) rfl mw_X4_invert mi_X4_invert mn_X5_167 isO_3 ⟨rfl, rfl, Nat.le_of_ble_eq_true rfl, Nat.le_of_ble_eq_true rfl⟩ rfl rfl (Nat.le_of_ble_eq_true rfl) dX5_undo_27) ?_
    refine g_mem (μ' := mU (sI μ 0 5 0) (rdN (μ.1 7) n (uX μ)).2) rfl ?_
    refine g_top (w := .int (nI 0)) rfl ?_
    refine g_at 30 rfl ?_
    refine gp_X5_138 rfl rfl rfl dX5_undo_30 ?_
    refine g_aload_n 0 _ dX5_undo_33 rfl rfl ?_
    refine gf_X5_26 rfl dX5_undo_34 ?_
    refine gf_X5_138 rfl dX5_undo_37 ?_
    refine g_if_eq 53 dX5_undo_40 (by decide) (fun h40 => ?_) (fun h40 => ?_)
    · refine g_lconst 0 dX5_undo_53 rfl ?_
      exact g_lreturn dX5_undo_54 rfl rfl
    · exact absurd rfl h40
  · exact absurd h8 (by omega)
theorem c_undo_1 (μ : Mm) {n : Nat} (hn : μ.1 1 2 = nI n) (h14 : n ≤ 14) (h0 : 0 < n) (hY : ∀ i j, i < n → j ≤ n → ((rdN (μ.1 7) n (uX μ)).2 i j).toInt ≠ -9223372036854775808) (hr : (rdN (μ.1 7) n (uX μ)).1 = n) : Ok mX5_undo (rmL 5) [.ref 0] μ (some (.long (ivD n (rdN (μ.1 7) n (uX μ)).2)), sI (ivM (sI μ 0 5 0) n (rdN (μ.1 7) n (uX μ)).2) 3 4 (nI 1)) := by
  refine Ok.of (by decide) (Nat.le_of_ble_eq_true rfl) [some (.ref 0)] rfl ?_
  refine g_aload_n 0 _ dX5_undo_0 rfl rfl ?_
  refine g_aload_n 0 _ dX5_undo_1 rfl rfl ?_
  refine g_backi (g_runV ((c_smallRing μ (n := n) hn (by omega)).to (by rw [if_neg (by omega)])) rfl mw_X5_smallRingFault mi_X5_smallRingFault ml_X5_162 isO_0 ⟨rfl, rfl, Nat.le_of_ble_eq_true rfl, Nat.le_of_ble_eq_true rfl⟩ rfl rfl (Nat.le_of_ble_eq_true rfl) dX5_undo_2) ?_
  refine g_top (w := .int (nI 0)) rfl ?_
  refine g_backi (g_runV (c_refuses0 μ) rfl mw_X5_refuses mi_X5_refuses ml_X5_48 isO_0 ⟨rfl, rfl, Nat.le_of_ble_eq_true rfl, Nat.le_of_ble_eq_true rfl⟩ rfl rfl (Nat.le_of_ble_eq_true rfl) dX5_undo_5) ?_
  refine g_mem (μ' := sI μ 0 5 0) rfl ?_
  refine g_top (w := .int (nI 0)) rfl ?_
  refine g_if_eqN 15 (by omega) dX5_undo_8 (by decide) (fun h8 => ?_) (fun h8 => ?_)
  · refine g_mem (μ' := mU (sI μ 0 5 0) (uX μ)) (by exact uX_id _) ?_
    refine g_aload_n 0 _ dX5_undo_15 rfl rfl ?_
    refine gf_X5_26 rfl dX5_undo_16 ?_
    refine g_aload_n 0 _ dX5_undo_19 rfl rfl ?_
    refine gf_X5_26 rfl dX5_undo_20 ?_
    refine g_aload_n 0 _ dX5_undo_23 rfl rfl ?_
    refine gf_X5_10 rfl dX5_undo_24 ?_
    refine g_backi (g_runVN (c_invert_yes (sI μ 0 5 0) (uX μ) (n := n) hn h14 h0 hY hr) rfl mw_X4_invert mi_X4_invert mn_X5_167 isO_3 ⟨rfl, rfl, Nat.le_of_ble_eq_true rfl, Nat.le_of_ble_eq_true rfl⟩ rfl rfl (Nat.le_of_ble_eq_true rfl) dX5_undo_27) ?_
    refine g_mem (μ' := ivM (sI μ 0 5 0) n (rdN (μ.1 7) n (uX μ)).2) rfl ?_
    refine g_top (w := .int (nI 1)) rfl ?_
    refine g_at 30 rfl ?_
    refine gp_X5_138 rfl rfl rfl dX5_undo_30 ?_
    refine g_aload_n 0 _ dX5_undo_33 rfl rfl ?_
    refine gf_X5_26 rfl dX5_undo_34 ?_
    refine gf_X5_138 rfl dX5_undo_37 ?_
    refine g_if_eq 53 dX5_undo_40 (by decide) (fun h40 => ?_) (fun h40 => ?_)
    · exact absurd h40 (by decide)
    · refine g_aload_n 0 _ dX5_undo_43 rfl rfl ?_
      refine gf_X5_26 rfl dX5_undo_44 ?_
      refine gf_X5_171 rfl dX5_undo_47 ?_
      refine g_goto 54 dX5_undo_50 (by decide) ?_
      exact g_lreturn dX5_undo_54 rfl rfl
  · exact absurd h8 (by omega)
