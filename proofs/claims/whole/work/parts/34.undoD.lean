/-! HoleMask: undo, back, noise, rank, lost, solve, sure -/
abbrev uX (μ : Mm) : Mx := fun r => μ.2 (13 + r)
theorem uX_id (μ : Mm) : μ = mU μ (uX μ) := (mU_id μ).symm
theorem c_undo_no (μ : Mm) {n : Nat} (hn : μ.1 1 2 = nI n) (h60 : n ≤ 60) (h14 : 14 < n) : Ok mX5_undo (rmL 5) [.ref 0] μ (some (.long (-1)), sI μ 0 5 (nI 1)) := by
  refine Ok.of (by decide) (Nat.le_of_ble_eq_true rfl) [some (.ref 0)] rfl ?_
  refine g_aload_n 0 _ dX5_undo_0 rfl rfl ?_
  refine g_aload_n 0 _ dX5_undo_1 rfl rfl ?_
  refine g_backi (g_runV ((c_smallRing μ (n := n) hn h60).to (by rw [if_pos h14])) rfl mw_X5_smallRingFault mi_X5_smallRingFault ml_X5_162 isO_0 ⟨rfl, rfl, Nat.le_of_ble_eq_true rfl, Nat.le_of_ble_eq_true rfl⟩ rfl rfl (Nat.le_of_ble_eq_true rfl) dX5_undo_2) ?_
  refine g_top (w := .int (nI 1)) rfl ?_
  refine g_backi (g_runV (c_refuses1 μ (f := nI 1) (by decide)) rfl mw_X5_refuses mi_X5_refuses ml_X5_48 isO_0 ⟨rfl, rfl, Nat.le_of_ble_eq_true rfl, Nat.le_of_ble_eq_true rfl⟩ rfl rfl (Nat.le_of_ble_eq_true rfl) dX5_undo_5) ?_
  refine g_mem (μ' := sI μ 0 5 (nI 1)) rfl ?_
  refine g_top (w := .int (nI 1)) rfl ?_
  refine g_if_eqN 15 (by omega) dX5_undo_8 (by decide) (fun h8 => ?_) (fun h8 => ?_)
  · exact absurd h8 (by omega)
  · refine g_ldc2 _ rfl kl_X5_165 dX5_undo_11 ?_
    exact g_lreturn dX5_undo_14 rfl rfl
theorem c_undo_0 (μ : Mm) {n : Nat} (hn : μ.1 1 2 = nI n) (h14 : n ≤ 14) (hr : (rdN (μ.1 7) n (uX μ)).1 < n) : Ok mX5_undo (rmL 5) [.ref 0] μ (some (.long 0), sI (mU (sI μ 0 5 0) (rdN (μ.1 7) n (uX μ)).2) 3 4 (nI 0)) := by
  refine Ok.of (by decide) (Nat.le_of_ble_eq_true rfl) [some (.ref 0)] rfl ?_
  refine g_aload_n 0 _ dX5_undo_0 rfl rfl ?_
  refine g_aload_n 0 _ dX5_undo_1 rfl rfl ?_
  refine g_backi (g_runV ((c_smallRing μ (n := n) hn (by omega)).to (by rw [if_neg (by omega)])) rfl mw_X5_smallRingFault mi_X5_smallRingFault ml_X5_162 isO_0 ⟨rfl, rfl, Nat.le_of_ble_eq_true rfl, Nat.le_of_ble_eq_true rfl⟩ rfl rfl (Nat.le_of_ble_eq_true rfl) dX5_undo_2) ?_
  refine g_top (w := .int (nI 0)) rfl ?_
  refine g_backi (g_runV (c_refuses0 μ) rfl mw_X5_refuses mi_X5_refuses ml_X5_48 isO_0 ⟨rfl, rfl, Nat.le_of_ble_eq_true rfl, Nat.le_of_ble_eq_true rfl⟩ rfl rfl (Nat.le_of_ble_eq_true rfl) dX5_undo_5) ?_
  refine g_mem (μ' := sI μ 0 5 0) rfl ?_
  refine g_top (w := .int (nI 0)) rfl ?_
  refine g_if_eqN 15 (by omega) dX5_undo_8 (by decide) (fun h8 => ?_) (fun h8 => ?_)
  · refine g_mem (μ' := mU (sI μ 0 5 0) (uX μ)) (by exact uX_id _) ?_
    refine g_aload_n 0 _ dX5_undo_15 rfl rfl ?_
    refine gf_X5_26 rfl dX5_undo_16 ?_
    refine g_aload_n 0 _ dX5_undo_19 rfl rfl ?_
    refine gf_X5_26 rfl dX5_undo_20 ?_
    refine g_aload_n 0 _ dX5_undo_23 rfl rfl ?_
    refine gf_X5_10 rfl dX5_undo_24 ?_
    refine g_backi (g_runVN (c_invert_no (sI μ 0 5 0) (uX μ) (n := n) hn h14 hr) rfl mw_X4_invert mi_X4_invert mn_X5_167 isO_3 ⟨rfl, rfl, Nat.le_of_ble_eq_true rfl, Nat.le_of_ble_eq_true rfl⟩ rfl rfl (Nat.le_of_ble_eq_true rfl) dX5_undo_27) ?_
    refine g_mem (μ' := mU (sI μ 0 5 0) (rdN (μ.1 7) n (uX μ)).2) rfl ?_
    refine g_top (w := .int (nI 0)) rfl ?_
    refine g_at 30 rfl ?_
    refine gp_X5_138 rfl rfl rfl dX5_undo_30 ?_
    refine g_aload_n 0 _ dX5_undo_33 rfl rfl ?_
    refine gf_X5_26 rfl dX5_undo_34 ?_
    refine gf_X5_138 rfl dX5_undo_37 ?_
    refine g_if_eq 53 dX5_undo_40 (by decide) (fun h40 => ?_) (fun h40 => ?_)
    · refine g_lconst 0 dX5_undo_53 rfl ?_
      exact g_lreturn dX5_undo_54 rfl rfl
    · exact absurd rfl h40
  · exact absurd h8 (by omega)
theorem c_undo_1 (μ : Mm) {n : Nat} (hn : μ.1 1 2 = nI n) (h14 : n ≤ 14) (h0 : 0 < n) (hY : ∀ i j, i < n → j ≤ n → ((rdN (μ.1 7) n (uX μ)).2 i j).toInt ≠ -9223372036854775808) (hr : (rdN (μ.1 7) n (uX μ)).1 = n) : Ok mX5_undo (rmL 5) [.ref 0] μ (some (.long (ivD n (rdN (μ.1 7) n (uX μ)).2)), sI (ivM (sI μ 0 5 0) n (rdN (μ.1 7) n (uX μ)).2) 3 4 (nI 1)) := by
  refine Ok.of (by decide) (Nat.le_of_ble_eq_true rfl) [some (.ref 0)] rfl ?_
  refine g_aload_n 0 _ dX5_undo_0 rfl rfl ?_
  refine g_aload_n 0 _ dX5_undo_1 rfl rfl ?_
  refine g_backi (g_runV ((c_smallRing μ (n := n) hn (by omega)).to (by rw [if_neg (by omega)])) rfl mw_X5_smallRingFault mi_X5_smallRingFault ml_X5_162 isO_0 ⟨rfl, rfl, Nat.le_of_ble_eq_true rfl, Nat.le_of_ble_eq_true rfl⟩ rfl rfl (Nat.le_of_ble_eq_true rfl) dX5_undo_2) ?_
  refine g_top (w := .int (nI 0)) rfl ?_
  refine g_backi (g_runV (c_refuses0 μ) rfl mw_X5_refuses mi_X5_refuses ml_X5_48 isO_0 ⟨rfl, rfl, Nat.le_of_ble_eq_true rfl, Nat.le_of_ble_eq_true rfl⟩ rfl rfl (Nat.le_of_ble_eq_true rfl) dX5_undo_5) ?_
  refine g_mem (μ' := sI μ 0 5 0) rfl ?_
  refine g_top (w := .int (nI 0)) rfl ?_
  refine g_if_eqN 15 (by omega) dX5_undo_8 (by decide) (fun h8 => ?_) (fun h8 => ?_)
  · refine g_mem (μ' := mU (sI μ 0 5 0) (uX μ)) (by exact uX_id _) ?_
    refine g_aload_n 0 _ dX5_undo_15 rfl rfl ?_
    refine gf_X5_26 rfl dX5_undo_16 ?_
    refine g_aload_n 0 _ dX5_undo_19 rfl rfl ?_
    refine gf_X5_26 rfl dX5_undo_20 ?_
    refine g_aload_n 0 _ dX5_undo_23 rfl rfl ?_
    refine gf_X5_10 rfl dX5_undo_24 ?_
    refine g_backi (g_runVN (c_invert_yes (sI μ 0 5 0) (uX μ) (n := n) hn h14 h0 hY hr) rfl mw_X4_invert mi_X4_invert mn_X5_167 isO_3 ⟨rfl, rfl, Nat.le_of_ble_eq_true rfl, Nat.le_of_ble_eq_true rfl⟩ rfl rfl (Nat.le_of_ble_eq_true rfl) dX5_undo_27) ?_
    refine g_mem (μ' := ivM (sI μ 0 5 0) n (rdN (μ.1 7) n (uX μ)).2) rfl ?_
    refine g_top (w := .int (nI 1)) rfl ?_
    refine g_at 30 rfl ?_
    refine gp_X5_138 rfl rfl rfl dX5_undo_30 ?_
    refine g_aload_n 0 _ dX5_undo_33 rfl rfl ?_
    refine gf_X5_26 rfl dX5_undo_34 ?_
    refine gf_X5_138 rfl dX5_undo_37 ?_
    refine g_if_eq 53 dX5_undo_40 (by decide) (fun h40 => ?_) (fun h40 => ?_)
    · exact absurd h40 (show ¬ nI 1 = 0 from by decide)
    · refine g_aload_n 0 _ dX5_undo_43 rfl rfl ?_
      refine gf_X5_26 rfl dX5_undo_44 ?_
      refine gf_X5_171 rfl dX5_undo_47 ?_
      refine g_goto 54 dX5_undo_50 (by decide) ?_
      exact g_lreturn dX5_undo_54 rfl rfl
  · exact absurd h8 (by omega)
theorem c_back_no1 (μ : Mm) (j : Int32) {n : Nat} (hn : μ.1 1 2 = nI n) (h60 : n ≤ 60) (hj : ¬ (¬ j < 0 ∧ j < nI n)) : Ok mX5_back (rmL 5) [.ref 0, .int j] μ (some (.long 0), sI μ 0 5 (nI 1)) := by
  refine Ok.of (by decide) (Nat.le_of_ble_eq_true rfl) [some (.ref 0), some (.int j)] rfl ?_
  refine g_aload_n 0 _ dX5_back_0 rfl rfl ?_
  refine g_aload_n 0 _ dX5_back_1 rfl rfl ?_
  refine gf_X5_10 rfl dX5_back_2 ?_
  refine g_iload_n 1 _ dX5_back_5 rfl rfl ?_
  refine g_backi (g_runVN ((c_has μ j (n := n) hn).to (by rw [bI_f hj])) rfl mw_X1_has mi_X1_has mn_X5_96 isO_1 ⟨rfl, rfl, Nat.le_of_ble_eq_true rfl, Nat.le_of_ble_eq_true rfl⟩ rfl rfl (Nat.le_of_ble_eq_true rfl) dX5_back_6) ?_
  refine g_top (w := .int 0) rfl ?_
  refine g_if_ne 16 dX5_back_9 (by decide) (fun h9 => ?_) (fun h9 => ?_)
  · exact absurd rfl h9
  · refine g_iconst (nI 1) dX5_back_12 rfl ?_
    refine g_goto 31 dX5_back_13 (by decide) ?_
    refine g_backi (g_runV (c_refuses1 μ (f := nI 1) (by decide)) rfl mw_X5_refuses mi_X5_refuses ml_X5_48 isO_0 ⟨rfl, rfl, Nat.le_of_ble_eq_true rfl, Nat.le_of_ble_eq_true rfl⟩ rfl rfl (Nat.le_of_ble_eq_true rfl) dX5_back_31) ?_
    refine g_mem (μ' := sI μ 0 5 (nI 1)) rfl ?_
    refine g_top (w := .int (nI 1)) rfl ?_
    refine g_if_eqN 39 (by omega) dX5_back_34 (by decide) (fun h34 => ?_) (fun h34 => ?_)
    · exact absurd h34 (by omega)
    · refine g_lconst 0 dX5_back_37 rfl ?_
      exact g_lreturn dX5_back_38 rfl rfl
theorem c_back_no2 (μ : Mm) (j : Int32) {n : Nat} (hn : μ.1 1 2 = nI n) (h60 : n ≤ 60) (hj : ¬ j < 0 ∧ j < nI n) (ht : μ.1 3 4 = nI 0) : Ok mX5_back (rmL 5) [.ref 0, .int j] μ (some (.long 0), sI μ 0 5 (nI 2)) := by
  refine Ok.of (by decide) (Nat.le_of_ble_eq_true rfl) [some (.ref 0), some (.int j)] rfl ?_
  refine g_aload_n 0 _ dX5_back_0 rfl rfl ?_
  refine g_aload_n 0 _ dX5_back_1 rfl rfl ?_
  refine gf_X5_10 rfl dX5_back_2 ?_
  refine g_iload_n 1 _ dX5_back_5 rfl rfl ?_
  refine g_backi (g_runVN ((c_has μ j (n := n) hn).to (by rw [bI_t hj])) rfl mw_X1_has mi_X1_has mn_X5_96 isO_1 ⟨rfl, rfl, Nat.le_of_ble_eq_true rfl, Nat.le_of_ble_eq_true rfl⟩ rfl rfl (Nat.le_of_ble_eq_true rfl) dX5_back_6) ?_
  refine g_top (w := .int 1) rfl ?_
  refine g_if_ne 16 dX5_back_9 (by decide) (fun h9 => ?_) (fun h9 => ?_)
  · refine g_aload_n 0 _ dX5_back_16 rfl rfl ?_
    refine gf_X5_26 rfl dX5_back_17 ?_
    refine gf_X5_138 rfl dX5_back_20 ?_
    refine g_top (w := .int (nI 0)) (congrArg Value.int ht) ?_
    refine g_if_eqN 30 (by omega) dX5_back_23 (by decide) (fun h23 => ?_) (fun h23 => ?_)
    · refine g_iconst (nI 2) dX5_back_30 rfl ?_
      refine g_backi (g_runV (c_refuses1 μ (f := nI 2) (by decide)) rfl mw_X5_refuses mi_X5_refuses ml_X5_48 isO_0 ⟨rfl, rfl, Nat.le_of_ble_eq_true rfl, Nat.le_of_ble_eq_true rfl⟩ rfl rfl (Nat.le_of_ble_eq_true rfl) dX5_back_31) ?_
      refine g_mem (μ' := sI μ 0 5 (nI 2)) rfl ?_
      refine g_top (w := .int (nI 1)) rfl ?_
      refine g_if_eqN 39 (by omega) dX5_back_34 (by decide) (fun h34 => ?_) (fun h34 => ?_)
      · exact absurd h34 (by omega)
      · refine g_lconst 0 dX5_back_37 rfl ?_
        exact g_lreturn dX5_back_38 rfl rfl
    · exact absurd h23 (by omega)
  · exact absurd h9 (by decide)
theorem c_back_ok (μ : Mm) {j n : Nat} (hn : μ.1 1 2 = nI n) (h60 : n ≤ 14) (hj : j < n) (ht : μ.1 3 4 = nI 1) : Ok mX5_back (rmL 5) [.ref 0, .int (nI j)] μ (some (.long (μ.2 27 j)), sI μ 0 5 0) := by
  refine Ok.of (by decide) (Nat.le_of_ble_eq_true rfl) [some (.ref 0), some (.int (nI j))] rfl ?_
  refine g_aload_n 0 _ dX5_back_0 rfl rfl ?_
  refine g_aload_n 0 _ dX5_back_1 rfl rfl ?_
  refine gf_X5_10 rfl dX5_back_2 ?_
  refine g_iload_n 1 _ dX5_back_5 rfl rfl ?_
  refine g_backi (g_runVN ((c_has μ (nI j) (n := n) hn).to (by rw [bI_t ⟨nI_pos (by omega), nI_lt hj (by omega)⟩])) rfl mw_X1_has mi_X1_has mn_X5_96 isO_1 ⟨rfl, rfl, Nat.le_of_ble_eq_true rfl, Nat.le_of_ble_eq_true rfl⟩ rfl rfl (Nat.le_of_ble_eq_true rfl) dX5_back_6) ?_
  refine g_top (w := .int 1) rfl ?_
  refine g_if_ne 16 dX5_back_9 (by decide) (fun h9 => ?_) (fun h9 => ?_)
  · refine g_aload_n 0 _ dX5_back_16 rfl rfl ?_
    refine gf_X5_26 rfl dX5_back_17 ?_
    refine gf_X5_138 rfl dX5_back_20 ?_
    refine g_top (w := .int (nI 1)) (congrArg Value.int ht) ?_
    refine g_if_eqN 30 (by omega) dX5_back_23 (by decide) (fun h23 => ?_) (fun h23 => ?_)
    · exact absurd h23 (by omega)
    · refine g_iconst (nI 0) dX5_back_26 rfl ?_
      refine g_goto 31 dX5_back_27 (by decide) ?_
      refine g_backi (g_runV (c_refuses0 μ) rfl mw_X5_refuses mi_X5_refuses ml_X5_48 isO_0 ⟨rfl, rfl, Nat.le_of_ble_eq_true rfl, Nat.le_of_ble_eq_true rfl⟩ rfl rfl (Nat.le_of_ble_eq_true rfl) dX5_back_31) ?_
      refine g_mem (μ' := sI μ 0 5 0) rfl ?_
      refine g_top (w := .int (nI 0)) rfl ?_
      refine g_if_eqN 39 (by omega) dX5_back_34 (by decide) (fun h34 => ?_) (fun h34 => ?_)
      · refine g_aload_n 0 _ dX5_back_39 rfl rfl ?_
        refine gf_X5_26 rfl dX5_back_40 ?_
        refine g_iload_n 1 _ dX5_back_43 rfl rfl ?_
        refine g_backl (g_runVN (c_backAt (sI μ 0 5 0) (j := j) (by omega)) rfl mw_X4_backAt mi_X4_backAt mn_X5_175 isO_3 ⟨rfl, rfl, Nat.le_of_ble_eq_true rfl, Nat.le_of_ble_eq_true rfl⟩ rfl rfl (Nat.le_of_ble_eq_true rfl) dX5_back_44) ?_
        refine g_top (w := .long (μ.2 27 j)) rfl ?_
        exact g_lreturn dX5_back_47 rfl rfl
      · exact absurd h34 (by omega)
  · exact absurd h9 (by decide)
theorem c_noise_no1 (μ : Mm) (w : Int32) (hw : w.toInt < 0 ∨ 1 < w.toInt) : Ok mX5_noise (rmL 5) [.ref 0, .int w] μ (some (.long 0), sI μ 0 5 (nI 1)) := by
  refine Ok.of (by decide) (Nat.le_of_ble_eq_true rfl) [some (.ref 0), some (.int w)] rfl ?_
  refine g_aload_n 0 _ dX5_noise_0 rfl rfl ?_
  refine g_iload_n 1 _ dX5_noise_1 rfl rfl ?_
  refine g_if_lt 10 dX5_noise_2 (by decide) (fun h2 => ?_) (fun h2 => ?_)
  · refine g_iconst (nI 1) dX5_noise_10 rfl ?_
    refine g_goto 29 dX5_noise_11 (by decide) ?_
    refine g_backi (g_runV (c_refuses1 μ (f := nI 1) (by decide)) rfl mw_X5_refuses mi_X5_refuses ml_X5_48 isO_0 ⟨rfl, rfl, Nat.le_of_ble_eq_true rfl, Nat.le_of_ble_eq_true rfl⟩ rfl rfl (Nat.le_of_ble_eq_true rfl) dX5_noise_29) ?_
    refine g_mem (μ' := sI μ 0 5 (nI 1)) rfl ?_
    refine g_top (w := .int (nI 1)) rfl ?_
    refine g_if_eqN 37 (by omega) dX5_noise_32 (by decide) (fun h32 => ?_) (fun h32 => ?_)
    · exact absurd h32 (by omega)
    · refine g_lconst 0 dX5_noise_35 rfl ?_
      exact g_lreturn dX5_noise_36 rfl rfl
  · refine g_iload_n 1 _ dX5_noise_5 rfl rfl ?_
    refine g_iconst (nI 1) dX5_noise_6 rfl ?_
    refine g_icmp_le 14 dX5_noise_7 (by decide) (fun h7 => ?_) (fun h7 => ?_)
    · exfalso; simp only [ne_eq, fa_lt, fa_le, fa_eq, t0, t1, t2, tm1, nt0, nt1, nt2, nt3, nt4, nt5, nt7, nt9, nt10, nt13, nt14, nt30, nt32, nt59, nt60, nt200, nt1000, nt1000000, nt1073741824] at *; omega
    · refine g_iconst (nI 1) dX5_noise_10 rfl ?_
      refine g_goto 29 dX5_noise_11 (by decide) ?_
      refine g_backi (g_runV (c_refuses1 μ (f := nI 1) (by decide)) rfl mw_X5_refuses mi_X5_refuses ml_X5_48 isO_0 ⟨rfl, rfl, Nat.le_of_ble_eq_true rfl, Nat.le_of_ble_eq_true rfl⟩ rfl rfl (Nat.le_of_ble_eq_true rfl) dX5_noise_29) ?_
      refine g_mem (μ' := sI μ 0 5 (nI 1)) rfl ?_
      refine g_top (w := .int (nI 1)) rfl ?_
      refine g_if_eqN 37 (by omega) dX5_noise_32 (by decide) (fun h32 => ?_) (fun h32 => ?_)
      · exact absurd h32 (by omega)
      · refine g_lconst 0 dX5_noise_35 rfl ?_
        exact g_lreturn dX5_noise_36 rfl rfl
theorem c_noise_no2 (μ : Mm) {w : Nat} (hw : w < 2) (ht : μ.1 3 4 = nI 0) : Ok mX5_noise (rmL 5) [.ref 0, .int (nI w)] μ (some (.long 0), sI μ 0 5 (nI 2)) := by
  refine Ok.of (by decide) (Nat.le_of_ble_eq_true rfl) [some (.ref 0), some (.int (nI w))] rfl ?_
  refine g_aload_n 0 _ dX5_noise_0 rfl rfl ?_
  refine g_iload_n 1 _ dX5_noise_1 rfl rfl ?_
  refine g_if_ltN 10 (by omega) dX5_noise_2 (by decide) ?_
  refine g_iload_n 1 _ dX5_noise_5 rfl rfl ?_
  refine g_iconst (nI 1) dX5_noise_6 rfl ?_
  refine g_icmp_leN 14 (by omega) (by omega) dX5_noise_7 (by decide) (fun h7 => ?_) (fun h7 => ?_)
  · refine g_aload_n 0 _ dX5_noise_14 rfl rfl ?_
    refine gf_X5_26 rfl dX5_noise_15 ?_
    refine gf_X5_138 rfl dX5_noise_18 ?_
    refine g_top (w := .int (nI 0)) (congrArg Value.int ht) ?_
    refine g_if_eqN 28 (by omega) dX5_noise_21 (by decide) (fun h21 => ?_) (fun h21 => ?_)
    · refine g_iconst (nI 2) dX5_noise_28 rfl ?_
      refine g_backi (g_runV (c_refuses1 μ (f := nI 2) (by decide)) rfl mw_X5_refuses mi_X5_refuses ml_X5_48 isO_0 ⟨rfl, rfl, Nat.le_of_ble_eq_true rfl, Nat.le_of_ble_eq_true rfl⟩ rfl rfl (Nat.le_of_ble_eq_true rfl) dX5_noise_29) ?_
      refine g_mem (μ' := sI μ 0 5 (nI 2)) rfl ?_
      refine g_top (w := .int (nI 1)) rfl ?_
      refine g_if_eqN 37 (by omega) dX5_noise_32 (by decide) (fun h32 => ?_) (fun h32 => ?_)
      · exact absurd h32 (by omega)
      · refine g_lconst 0 dX5_noise_35 rfl ?_
        exact g_lreturn dX5_noise_36 rfl rfl
    · exact absurd h21 (by omega)
  · exact absurd h7 (by omega)
theorem c_noise_ok (μ : Mm) {w n : Nat} (hn : μ.1 1 2 = nI n) (h14 : n ≤ 14) (hw : w < 2) (ht : μ.1 3 4 = nI 1) (h1 : (ssF (μ.2 27) n).toInt ≠ -9223372036854775808) (h2 : (μ.2 3 3 * μ.2 3 3).toInt ≠ -9223372036854775808) : Ok mX5_noise (rmL 5) [.ref 0, .int (nI w)] μ (some (.long (npF (w = 0) (ssF (μ.2 27) n) (μ.2 3 3))), sI μ 0 5 0) := by
  refine Ok.of (by decide) (Nat.le_of_ble_eq_true rfl) [some (.ref 0), some (.int (nI w))] rfl ?_
  refine g_aload_n 0 _ dX5_noise_0 rfl rfl ?_
  refine g_iload_n 1 _ dX5_noise_1 rfl rfl ?_
  refine g_if_ltN 10 (by omega) dX5_noise_2 (by decide) ?_
  refine g_iload_n 1 _ dX5_noise_5 rfl rfl ?_
  refine g_iconst (nI 1) dX5_noise_6 rfl ?_
  refine g_icmp_leN 14 (by omega) (by omega) dX5_noise_7 (by decide) (fun h7 => ?_) (fun h7 => ?_)
  · refine g_aload_n 0 _ dX5_noise_14 rfl rfl ?_
    refine gf_X5_26 rfl dX5_noise_15 ?_
    refine gf_X5_138 rfl dX5_noise_18 ?_
    refine g_top (w := .int (nI 1)) (congrArg Value.int ht) ?_
    refine g_if_eqN 28 (by omega) dX5_noise_21 (by decide) (fun h21 => ?_) (fun h21 => ?_)
    · exact absurd h21 (by omega)
    · refine g_iconst (nI 0) dX5_noise_24 rfl ?_
      refine g_goto 29 dX5_noise_25 (by decide) ?_
      refine g_backi (g_runV (c_refuses0 μ) rfl mw_X5_refuses mi_X5_refuses ml_X5_48 isO_0 ⟨rfl, rfl, Nat.le_of_ble_eq_true rfl, Nat.le_of_ble_eq_true rfl⟩ rfl rfl (Nat.le_of_ble_eq_true rfl) dX5_noise_29) ?_
      refine g_mem (μ' := sI μ 0 5 0) rfl ?_
      refine g_top (w := .int (nI 0)) rfl ?_
      refine g_if_eqN 37 (by omega) dX5_noise_32 (by decide) (fun h32 => ?_) (fun h32 => ?_)
      · refine g_aload_n 0 _ dX5_noise_37 rfl rfl ?_
        refine gf_X5_26 rfl dX5_noise_38 ?_
        refine g_iload_n 1 _ dX5_noise_41 rfl rfl ?_
        refine g_if_neN 49 (by omega) dX5_noise_42 (by decide) (fun h42 => ?_) (fun h42 => ?_)
        · refine g_iconst (nI 0) dX5_noise_49 rfl ?_
          refine g_top (w := .int (bI (w = 0))) (congrArg Value.int (by first | (rw [bI_t (by omega)]; rfl) | (rw [bI_f (by omega)]; rfl))) ?_
          refine g_aload_n 0 _ dX5_noise_50 rfl rfl ?_
          refine gf_X5_10 rfl dX5_noise_51 ?_
          refine gf_X5_77 rfl dX5_noise_54 ?_
          refine g_top (w := .int (nI n)) (congrArg Value.int hn) ?_
          refine g_backl (g_runVN (c_noisePart (sI μ 0 5 0) (n := n) (w = 0) h14 h1 h2) rfl mw_X4_noisePart mi_X4_noisePart mn_X5_179 isO_3 ⟨rfl, rfl, Nat.le_of_ble_eq_true rfl, Nat.le_of_ble_eq_true rfl⟩ rfl rfl (Nat.le_of_ble_eq_true rfl) dX5_noise_57) ?_
          refine g_top (w := .long (npF (w = 0) (ssF (μ.2 27) n) (μ.2 3 3))) rfl ?_
          exact g_lreturn dX5_noise_60 rfl rfl
        · refine g_iconst (nI 1) dX5_noise_45 rfl ?_
          refine g_goto 50 dX5_noise_46 (by decide) ?_
          refine g_top (w := .int (bI (w = 0))) (congrArg Value.int (by first | (rw [bI_t (by omega)]; rfl) | (rw [bI_f (by omega)]; rfl))) ?_
          refine g_aload_n 0 _ dX5_noise_50 rfl rfl ?_
          refine gf_X5_10 rfl dX5_noise_51 ?_
          refine gf_X5_77 rfl dX5_noise_54 ?_
          refine g_top (w := .int (nI n)) (congrArg Value.int hn) ?_
          refine g_backl (g_runVN (c_noisePart (sI μ 0 5 0) (n := n) (w = 0) h14 h1 h2) rfl mw_X4_noisePart mi_X4_noisePart mn_X5_179 isO_3 ⟨rfl, rfl, Nat.le_of_ble_eq_true rfl, Nat.le_of_ble_eq_true rfl⟩ rfl rfl (Nat.le_of_ble_eq_true rfl) dX5_noise_57) ?_
          refine g_top (w := .long (npF (w = 0) (ssF (μ.2 27) n) (μ.2 3 3))) rfl ?_
          exact g_lreturn dX5_noise_60 rfl rfl
      · exact absurd h32 (by omega)
  · exact absurd h7 (by omega)
theorem c_rank_no (μ : Mm) {n : Nat} (hn : μ.1 1 2 = nI n) (h60 : n ≤ 60) (h14 : 14 < n) : Ok mX5_rank (rmL 5) [.ref 0] μ (some (.int (-1)), sI μ 0 5 (nI 1)) := by
  refine Ok.of (by decide) (Nat.le_of_ble_eq_true rfl) [some (.ref 0)] rfl ?_
  refine g_aload_n 0 _ dX5_rank_0 rfl rfl ?_
  refine g_aload_n 0 _ dX5_rank_1 rfl rfl ?_
  refine g_backi (g_runV ((c_smallRing μ (n := n) hn h60).to (by rw [if_pos h14])) rfl mw_X5_smallRingFault mi_X5_smallRingFault ml_X5_162 isO_0 ⟨rfl, rfl, Nat.le_of_ble_eq_true rfl, Nat.le_of_ble_eq_true rfl⟩ rfl rfl (Nat.le_of_ble_eq_true rfl) dX5_rank_2) ?_
  refine g_top (w := .int (nI 1)) rfl ?_
  refine g_backi (g_runV (c_refuses1 μ (f := nI 1) (by decide)) rfl mw_X5_refuses mi_X5_refuses ml_X5_48 isO_0 ⟨rfl, rfl, Nat.le_of_ble_eq_true rfl, Nat.le_of_ble_eq_true rfl⟩ rfl rfl (Nat.le_of_ble_eq_true rfl) dX5_rank_5) ?_
  refine g_mem (μ' := sI μ 0 5 (nI 1)) rfl ?_
  refine g_top (w := .int (nI 1)) rfl ?_
  refine g_if_eqN 13 (by omega) dX5_rank_8 (by decide) (fun h8 => ?_) (fun h8 => ?_)
  · exact absurd h8 (by omega)
  · refine g_iconst (-1) dX5_rank_11 rfl ?_
    exact g_ireturn dX5_rank_12 rfl rfl rfl
theorem c_rank_ok (μ : Mm) {n : Nat} (hn : μ.1 1 2 = nI n) (h14 : n ≤ 14) : Ok mX5_rank (rmL 5) [.ref 0] μ (some (.int (nI (rdN (μ.1 7) n (uX μ)).1)), mU (sI μ 0 5 0) (rdN (μ.1 7) n (uX μ)).2) := by
  refine Ok.of (by decide) (Nat.le_of_ble_eq_true rfl) [some (.ref 0)] rfl ?_
  refine g_aload_n 0 _ dX5_rank_0 rfl rfl ?_
  refine g_aload_n 0 _ dX5_rank_1 rfl rfl ?_
  refine g_backi (g_runV ((c_smallRing μ (n := n) hn (by omega)).to (by rw [if_neg (by omega)])) rfl mw_X5_smallRingFault mi_X5_smallRingFault ml_X5_162 isO_0 ⟨rfl, rfl, Nat.le_of_ble_eq_true rfl, Nat.le_of_ble_eq_true rfl⟩ rfl rfl (Nat.le_of_ble_eq_true rfl) dX5_rank_2) ?_
  refine g_top (w := .int (nI 0)) rfl ?_
  refine g_backi (g_runV (c_refuses0 μ) rfl mw_X5_refuses mi_X5_refuses ml_X5_48 isO_0 ⟨rfl, rfl, Nat.le_of_ble_eq_true rfl, Nat.le_of_ble_eq_true rfl⟩ rfl rfl (Nat.le_of_ble_eq_true rfl) dX5_rank_5) ?_
  refine g_mem (μ' := sI μ 0 5 0) rfl ?_
  refine g_top (w := .int (nI 0)) rfl ?_
  refine g_if_eqN 13 (by omega) dX5_rank_8 (by decide) (fun h8 => ?_) (fun h8 => ?_)
  · refine g_mem (μ' := mU (sI μ 0 5 0) (uX μ)) (by exact uX_id _) ?_
    refine g_aload_n 0 _ dX5_rank_13 rfl rfl ?_
    refine gf_X5_26 rfl dX5_rank_14 ?_
    refine g_aload_n 0 _ dX5_rank_17 rfl rfl ?_
    refine gf_X5_10 rfl dX5_rank_18 ?_
    refine g_backi (g_runVN (c_reduce (sI μ 0 5 0) (uX μ) (n := n) hn h14) rfl mw_X4_reduce mi_X4_reduce mn_X5_183 isO_3 ⟨rfl, rfl, Nat.le_of_ble_eq_true rfl, Nat.le_of_ble_eq_true rfl⟩ rfl rfl (Nat.le_of_ble_eq_true rfl) dX5_rank_21) ?_
    refine g_mem (μ' := mU (sI μ 0 5 0) (rdN (μ.1 7) n (uX μ)).2) rfl ?_
    refine g_top (w := .int (nI ((rdN (μ.1 7) n (uX μ)).1))) rfl ?_
    exact g_ireturn dX5_rank_24 rfl rfl rfl
  · exact absurd h8 (by omega)
theorem c_lost_no (μ : Mm) {n : Nat} (hn : μ.1 1 2 = nI n) (h60 : n ≤ 60) (h14 : 14 < n) : Ok mX5_lost (rmL 5) [.ref 0] μ (some (.int (-1)), sI μ 0 5 (nI 1)) := by
  refine Ok.of (by decide) (Nat.le_of_ble_eq_true rfl) [some (.ref 0), none] rfl ?_
  refine g_aload_n 0 _ dX5_lost_0 rfl rfl ?_
  refine g_aload_n 0 _ dX5_lost_1 rfl rfl ?_
  refine g_backi (g_runV ((c_smallRing μ (n := n) hn h60).to (by rw [if_pos h14])) rfl mw_X5_smallRingFault mi_X5_smallRingFault ml_X5_162 isO_0 ⟨rfl, rfl, Nat.le_of_ble_eq_true rfl, Nat.le_of_ble_eq_true rfl⟩ rfl rfl (Nat.le_of_ble_eq_true rfl) dX5_lost_2) ?_
  refine g_top (w := .int (nI 1)) rfl ?_
  refine g_backi (g_runV (c_refuses1 μ (f := nI 1) (by decide)) rfl mw_X5_refuses mi_X5_refuses ml_X5_48 isO_0 ⟨rfl, rfl, Nat.le_of_ble_eq_true rfl, Nat.le_of_ble_eq_true rfl⟩ rfl rfl (Nat.le_of_ble_eq_true rfl) dX5_lost_5) ?_
  refine g_mem (μ' := sI μ 0 5 (nI 1)) rfl ?_
  refine g_top (w := .int (nI 1)) rfl ?_
  refine g_if_eqN 13 (by omega) dX5_lost_8 (by decide) (fun h8 => ?_) (fun h8 => ?_)
  · exact absurd h8 (by omega)
  · refine g_iconst (-1) dX5_lost_11 rfl ?_
    exact g_ireturn dX5_lost_12 rfl rfl rfl
theorem c_lost_0 (μ : Mm) {n : Nat} (hn : μ.1 1 2 = nI n) (h14 : n ≤ 14) (hr : (rdN (μ.1 7) n (uX μ)).1 = n) : Ok mX5_lost (rmL 5) [.ref 0] μ (some (.int (-1)), mU (sI μ 0 5 0) (rdN (μ.1 7) n (uX μ)).2) := by
  refine Ok.of (by decide) (Nat.le_of_ble_eq_true rfl) [some (.ref 0), none] rfl ?_
  refine g_aload_n 0 _ dX5_lost_0 rfl rfl ?_
  refine g_aload_n 0 _ dX5_lost_1 rfl rfl ?_
  refine g_backi (g_runV ((c_smallRing μ (n := n) hn (by omega)).to (by rw [if_neg (by omega)])) rfl mw_X5_smallRingFault mi_X5_smallRingFault ml_X5_162 isO_0 ⟨rfl, rfl, Nat.le_of_ble_eq_true rfl, Nat.le_of_ble_eq_true rfl⟩ rfl rfl (Nat.le_of_ble_eq_true rfl) dX5_lost_2) ?_
  refine g_top (w := .int (nI 0)) rfl ?_
  refine g_backi (g_runV (c_refuses0 μ) rfl mw_X5_refuses mi_X5_refuses ml_X5_48 isO_0 ⟨rfl, rfl, Nat.le_of_ble_eq_true rfl, Nat.le_of_ble_eq_true rfl⟩ rfl rfl (Nat.le_of_ble_eq_true rfl) dX5_lost_5) ?_
  refine g_mem (μ' := sI μ 0 5 0) rfl ?_
  refine g_top (w := .int (nI 0)) rfl ?_
  refine g_if_eqN 13 (by omega) dX5_lost_8 (by decide) (fun h8 => ?_) (fun h8 => ?_)
  · refine g_mem (μ' := mU (sI μ 0 5 0) (uX μ)) (by exact uX_id _) ?_
    refine g_aload_n 0 _ dX5_lost_13 rfl rfl ?_
    refine gf_X5_26 rfl dX5_lost_14 ?_
    refine g_aload_n 0 _ dX5_lost_17 rfl rfl ?_
    refine gf_X5_10 rfl dX5_lost_18 ?_
    refine g_backi (g_runVN ((c_reduce (sI μ 0 5 0) (uX μ) (n := n) hn h14).to (by rw [show (rdN ((sI μ 0 5 0).1 7) n (uX μ)).1 = n from hr])) rfl mw_X4_reduce mi_X4_reduce mn_X5_183 isO_3 ⟨rfl, rfl, Nat.le_of_ble_eq_true rfl, Nat.le_of_ble_eq_true rfl⟩ rfl rfl (Nat.le_of_ble_eq_true rfl) dX5_lost_21) ?_
    refine g_mem (μ' := mU (sI μ 0 5 0) (rdN (μ.1 7) n (uX μ)).2) rfl ?_
    refine g_top (w := .int (nI n)) rfl ?_
    refine g_istore_n [some (.ref 0), some (.int (nI n))] dX5_lost_24 rfl (Nat.le_of_ble_eq_true rfl) rfl rfl ?_
    refine g_iload_n 1 _ dX5_lost_25 rfl rfl ?_
    refine g_at 26 rfl ?_
    refine g_aload_n 0 _ dX5_lost_26 rfl rfl ?_
    refine gf_X5_10 rfl dX5_lost_27 ?_
    refine gf_X5_77 rfl dX5_lost_30 ?_
    refine g_top (w := .int (nI n)) (congrArg Value.int hn) ?_
    refine g_icmp_ltN 38 (by omega) (by omega) dX5_lost_33 (by decide) (fun h33 => ?_) (fun h33 => ?_)
    · exact absurd h33 (by omega)
    · refine g_iconst (-1) dX5_lost_36 rfl ?_
      exact g_ireturn dX5_lost_37 rfl rfl rfl
  · exact absurd h8 (by omega)
theorem c_lost_1 (μ : Mm) {n l : Nat} (hn : μ.1 1 2 = nI n) (h14 : n ≤ 14) (hr : (rdN (μ.1 7) n (uX μ)).1 = l) (hl : l < n) (h0 : (slL l (rdN (μ.1 7) n (uX μ)).2).toInt ≠ -9223372036854775808) (hY : ∀ i, i < l → ((rdN (μ.1 7) n (uX μ)).2 i l).toInt ≠ -9223372036854775808) : Ok mX5_lost (rmL 5) [.ref 0] μ (some (.int (nI l)), sR (mU (sI μ 0 5 0) (rdN (μ.1 7) n (uX μ)).2) 8 (fil (μ.1 8) (slV l (rdN (μ.1 7) n (uX μ)).2) n)) := by
  refine Ok.of (by decide) (Nat.le_of_ble_eq_true rfl) [some (.ref 0), none] rfl ?_
  refine g_aload_n 0 _ dX5_lost_0 rfl rfl ?_
  refine g_aload_n 0 _ dX5_lost_1 rfl rfl ?_
  refine g_backi (g_runV ((c_smallRing μ (n := n) hn (by omega)).to (by rw [if_neg (by omega)])) rfl mw_X5_smallRingFault mi_X5_smallRingFault ml_X5_162 isO_0 ⟨rfl, rfl, Nat.le_of_ble_eq_true rfl, Nat.le_of_ble_eq_true rfl⟩ rfl rfl (Nat.le_of_ble_eq_true rfl) dX5_lost_2) ?_
  refine g_top (w := .int (nI 0)) rfl ?_
  refine g_backi (g_runV (c_refuses0 μ) rfl mw_X5_refuses mi_X5_refuses ml_X5_48 isO_0 ⟨rfl, rfl, Nat.le_of_ble_eq_true rfl, Nat.le_of_ble_eq_true rfl⟩ rfl rfl (Nat.le_of_ble_eq_true rfl) dX5_lost_5) ?_
  refine g_mem (μ' := sI μ 0 5 0) rfl ?_
  refine g_top (w := .int (nI 0)) rfl ?_
  refine g_if_eqN 13 (by omega) dX5_lost_8 (by decide) (fun h8 => ?_) (fun h8 => ?_)
  · refine g_mem (μ' := mU (sI μ 0 5 0) (uX μ)) (by exact uX_id _) ?_
    refine g_aload_n 0 _ dX5_lost_13 rfl rfl ?_
    refine gf_X5_26 rfl dX5_lost_14 ?_
    refine g_aload_n 0 _ dX5_lost_17 rfl rfl ?_
    refine gf_X5_10 rfl dX5_lost_18 ?_
    refine g_backi (g_runVN ((c_reduce (sI μ 0 5 0) (uX μ) (n := n) hn h14).to (by rw [show (rdN ((sI μ 0 5 0).1 7) n (uX μ)).1 = l from hr])) rfl mw_X4_reduce mi_X4_reduce mn_X5_183 isO_3 ⟨rfl, rfl, Nat.le_of_ble_eq_true rfl, Nat.le_of_ble_eq_true rfl⟩ rfl rfl (Nat.le_of_ble_eq_true rfl) dX5_lost_21) ?_
    refine g_mem (μ' := mU (sI μ 0 5 0) (rdN (μ.1 7) n (uX μ)).2) rfl ?_
    refine g_top (w := .int (nI l)) rfl ?_
    refine g_istore_n [some (.ref 0), some (.int (nI l))] dX5_lost_24 rfl (Nat.le_of_ble_eq_true rfl) rfl rfl ?_
    refine g_iload_n 1 _ dX5_lost_25 rfl rfl ?_
    refine g_at 26 rfl ?_
    refine g_aload_n 0 _ dX5_lost_26 rfl rfl ?_
    refine gf_X5_10 rfl dX5_lost_27 ?_
    refine gf_X5_77 rfl dX5_lost_30 ?_
    refine g_top (w := .int (nI n)) (congrArg Value.int hn) ?_
    refine g_icmp_ltN 38 (by omega) (by omega) dX5_lost_33 (by decide) (fun h33 => ?_) (fun h33 => ?_)
    · refine g_aload_n 0 _ dX5_lost_38 rfl rfl ?_
      refine gf_X5_26 rfl dX5_lost_39 ?_
      refine g_aload_n 0 _ dX5_lost_42 rfl rfl ?_
      refine gf_X5_10 rfl dX5_lost_43 ?_
      refine g_iload_n 1 _ dX5_lost_46 rfl rfl ?_
      refine g_backv (g_runVN (c_showLost (sI μ 0 5 0) (rdN (μ.1 7) n (uX μ)).2 (n := n) (l := l) hn h14 hl h0 hY) rfl mw_X4_showLost mi_X4_showLost mn_X5_187 isO_3 ⟨rfl, rfl, Nat.le_of_ble_eq_true rfl, Nat.le_of_ble_eq_true rfl⟩ rfl rfl (Nat.le_of_ble_eq_true rfl) dX5_lost_47) ?_
      refine g_mem (μ' := sR (mU (sI μ 0 5 0) (rdN (μ.1 7) n (uX μ)).2) 8 (fil (μ.1 8) (slV l (rdN (μ.1 7) n (uX μ)).2) n)) rfl ?_
      refine g_iload_n 1 _ dX5_lost_50 rfl rfl ?_
      refine g_at 51 rfl ?_
      exact g_ireturn dX5_lost_51 rfl rfl rfl
    · exact absurd h33 (by omega)
  · exact absurd h8 (by omega)
abbrev misN (μ : Mm) (n : Nat) : Nat := fa_cnt (fun i => decide (μ.1 (7 + 2) i = 1073741824)) n
theorem c_solve_no1 (μ : Mm) {n : Nat} (hn : μ.1 1 2 = nI n) (h60 : n ≤ 60) (h : 0 < misN μ n) : Ok mX5_solve (rmL 6) [.ref 0] μ (some (.int (-1)), sI μ 0 5 (nI 1)) := by
  refine Ok.of (by decide) (Nat.le_of_ble_eq_true rfl) [some (.ref 0), none] rfl ?_
  have hc : misN μ n ≤ n := fa_cnt_le _ n
  refine g_aload_n 0 _ dX5_solve_0 rfl rfl ?_
  refine gf_X5_10 rfl dX5_solve_1 ?_
  refine g_iconst (nI 2) dX5_solve_4 rfl ?_
  refine g_ldc _ rfl kc_X5_103 dX5_solve_5 ?_
  refine g_top (w := .int (nI 1073741824)) rfl ?_
  refine g_backi (g_runVN (c_tally μ (w := 2) (n := n) 1073741824 hn h60 (by omega)) rfl mw_X1_tally mi_X1_tally mn_X5_116 isO_1 ⟨rfl, rfl, Nat.le_of_ble_eq_true rfl, Nat.le_of_ble_eq_true rfl⟩ rfl rfl (Nat.le_of_ble_eq_true rfl) dX5_solve_7) ?_
  refine g_top (w := .int (nI (misN μ n))) rfl ?_
  refine g_if_leN 17 (by omega) dX5_solve_10 (by decide) (fun h10 => ?_) (fun h10 => ?_)
  · exact absurd h10 (by omega)
  · refine g_iconst (nI 1) dX5_solve_13 rfl ?_
    refine g_goto 18 dX5_solve_14 (by decide) ?_
    refine g_istore_n [some (.ref 0), some (.int (nI 1))] dX5_solve_18 rfl (Nat.le_of_ble_eq_true rfl) rfl rfl ?_
    refine g_aload_n 0 _ dX5_solve_19 rfl rfl ?_
    refine g_iload_n 1 _ dX5_solve_20 rfl rfl ?_
    refine g_if_eqN 28 (by omega) dX5_solve_21 (by decide) (fun h21 => ?_) (fun h21 => ?_)
    · exact absurd h21 (by omega)
    · refine g_iconst (nI 1) dX5_solve_24 rfl ?_
      refine g_goto 32 dX5_solve_25 (by decide) ?_
      refine g_backi (g_runV (c_refuses1 μ (f := nI 1) (by decide)) rfl mw_X5_refuses mi_X5_refuses ml_X5_48 isO_0 ⟨rfl, rfl, Nat.le_of_ble_eq_true rfl, Nat.le_of_ble_eq_true rfl⟩ rfl rfl (Nat.le_of_ble_eq_true rfl) dX5_solve_32) ?_
      refine g_mem (μ' := sI μ 0 5 (nI 1)) rfl ?_
      refine g_top (w := .int (nI 1)) rfl ?_
      refine g_if_eqN 40 (by omega) dX5_solve_35 (by decide) (fun h35 => ?_) (fun h35 => ?_)
      · exact absurd h35 (by omega)
      · refine g_iconst (-1) dX5_solve_38 rfl ?_
        exact g_ireturn dX5_solve_39 rfl rfl rfl
theorem c_solve_no2 (μ : Mm) {n : Nat} (hn : μ.1 1 2 = nI n) (h60 : n ≤ 60) (h : misN μ n = 0) (h14 : 14 < n) : Ok mX5_solve (rmL 6) [.ref 0] μ (some (.int (-1)), sI μ 0 5 (nI 1)) := by
  refine Ok.of (by decide) (Nat.le_of_ble_eq_true rfl) [some (.ref 0), none] rfl ?_
  have hc : misN μ n ≤ n := fa_cnt_le _ n
  refine g_aload_n 0 _ dX5_solve_0 rfl rfl ?_
  refine gf_X5_10 rfl dX5_solve_1 ?_
  refine g_iconst (nI 2) dX5_solve_4 rfl ?_
  refine g_ldc _ rfl kc_X5_103 dX5_solve_5 ?_
  refine g_top (w := .int (nI 1073741824)) rfl ?_
  refine g_backi (g_runVN (c_tally μ (w := 2) (n := n) 1073741824 hn h60 (by omega)) rfl mw_X1_tally mi_X1_tally mn_X5_116 isO_1 ⟨rfl, rfl, Nat.le_of_ble_eq_true rfl, Nat.le_of_ble_eq_true rfl⟩ rfl rfl (Nat.le_of_ble_eq_true rfl) dX5_solve_7) ?_
  refine g_top (w := .int (nI (misN μ n))) rfl ?_
  refine g_if_leN 17 (by omega) dX5_solve_10 (by decide) (fun h10 => ?_) (fun h10 => ?_)
  · refine g_iconst (nI 0) dX5_solve_17 rfl ?_
    refine g_istore_n [some (.ref 0), some (.int (nI 0))] dX5_solve_18 rfl (Nat.le_of_ble_eq_true rfl) rfl rfl ?_
    refine g_aload_n 0 _ dX5_solve_19 rfl rfl ?_
    refine g_iload_n 1 _ dX5_solve_20 rfl rfl ?_
    refine g_if_eqN 28 (by omega) dX5_solve_21 (by decide) (fun h21 => ?_) (fun h21 => ?_)
    · refine g_aload_n 0 _ dX5_solve_28 rfl rfl ?_
      refine g_backi (g_runV ((c_smallRing μ (n := n) hn h60).to (by rw [if_pos (by omega)])) rfl mw_X5_smallRingFault mi_X5_smallRingFault ml_X5_162 isO_0 ⟨rfl, rfl, Nat.le_of_ble_eq_true rfl, Nat.le_of_ble_eq_true rfl⟩ rfl rfl (Nat.le_of_ble_eq_true rfl) dX5_solve_29) ?_
      refine g_top (w := .int (nI 1)) rfl ?_
      refine g_backi (g_runV (c_refuses1 μ (f := nI 1) (by decide)) rfl mw_X5_refuses mi_X5_refuses ml_X5_48 isO_0 ⟨rfl, rfl, Nat.le_of_ble_eq_true rfl, Nat.le_of_ble_eq_true rfl⟩ rfl rfl (Nat.le_of_ble_eq_true rfl) dX5_solve_32) ?_
      refine g_mem (μ' := sI μ 0 5 (nI 1)) rfl ?_
      refine g_top (w := .int (nI 1)) rfl ?_
      refine g_if_eqN 40 (by omega) dX5_solve_35 (by decide) (fun h35 => ?_) (fun h35 => ?_)
      · exact absurd h35 (by omega)
      · refine g_iconst (-1) dX5_solve_38 rfl ?_
        exact g_ireturn dX5_solve_39 rfl rfl rfl
    · exact absurd h21 (by omega)
  · exact absurd h10 (by omega)
theorem c_solve_0 (μ : Mm) {n : Nat} (hn : μ.1 1 2 = nI n) (h14 : n ≤ 14) (hm : misN μ n = 0) (hr : (rdN (μ.1 7) n (uX μ)).1 < n) : Ok mX5_solve (rmL 6) [.ref 0] μ (some (.int (nI 0)), mU (sI μ 0 5 0) (rdN (μ.1 7) n (uX μ)).2) := by
  refine Ok.of (by decide) (Nat.le_of_ble_eq_true rfl) [some (.ref 0), none] rfl ?_
  have hc : misN μ n ≤ n := fa_cnt_le _ n
  refine g_aload_n 0 _ dX5_solve_0 rfl rfl ?_
  refine gf_X5_10 rfl dX5_solve_1 ?_
  refine g_iconst (nI 2) dX5_solve_4 rfl ?_
  refine g_ldc _ rfl kc_X5_103 dX5_solve_5 ?_
  refine g_top (w := .int (nI 1073741824)) rfl ?_
  refine g_backi (g_runVN (c_tally μ (w := 2) (n := n) 1073741824 hn (by omega) (by omega)) rfl mw_X1_tally mi_X1_tally mn_X5_116 isO_1 ⟨rfl, rfl, Nat.le_of_ble_eq_true rfl, Nat.le_of_ble_eq_true rfl⟩ rfl rfl (Nat.le_of_ble_eq_true rfl) dX5_solve_7) ?_
  refine g_top (w := .int (nI (misN μ n))) rfl ?_
  refine g_if_leN 17 (by omega) dX5_solve_10 (by decide) (fun h10 => ?_) (fun h10 => ?_)
  · refine g_iconst (nI 0) dX5_solve_17 rfl ?_
    refine g_istore_n [some (.ref 0), some (.int (nI 0))] dX5_solve_18 rfl (Nat.le_of_ble_eq_true rfl) rfl rfl ?_
    refine g_aload_n 0 _ dX5_solve_19 rfl rfl ?_
    refine g_iload_n 1 _ dX5_solve_20 rfl rfl ?_
    refine g_if_eqN 28 (by omega) dX5_solve_21 (by decide) (fun h21 => ?_) (fun h21 => ?_)
    · refine g_aload_n 0 _ dX5_solve_28 rfl rfl ?_
      refine g_backi (g_runV ((c_smallRing μ (n := n) hn (by omega)).to (by rw [if_neg (by omega)])) rfl mw_X5_smallRingFault mi_X5_smallRingFault ml_X5_162 isO_0 ⟨rfl, rfl, Nat.le_of_ble_eq_true rfl, Nat.le_of_ble_eq_true rfl⟩ rfl rfl (Nat.le_of_ble_eq_true rfl) dX5_solve_29) ?_
      refine g_top (w := .int (nI 0)) rfl ?_
      refine g_backi (g_runV (c_refuses0 μ) rfl mw_X5_refuses mi_X5_refuses ml_X5_48 isO_0 ⟨rfl, rfl, Nat.le_of_ble_eq_true rfl, Nat.le_of_ble_eq_true rfl⟩ rfl rfl (Nat.le_of_ble_eq_true rfl) dX5_solve_32) ?_
      refine g_mem (μ' := sI μ 0 5 0) rfl ?_
      refine g_top (w := .int (nI 0)) rfl ?_
      refine g_if_eqN 40 (by omega) dX5_solve_35 (by decide) (fun h35 => ?_) (fun h35 => ?_)
      · refine g_mem (μ' := mU (sI μ 0 5 0) (uX μ)) (by exact uX_id _) ?_
        refine g_aload_n 0 _ dX5_solve_40 rfl rfl ?_
        refine gf_X5_26 rfl dX5_solve_41 ?_
        refine g_aload_n 0 _ dX5_solve_44 rfl rfl ?_
        refine gf_X5_10 rfl dX5_solve_45 ?_
        refine g_backi (g_runVN (c_invert_no (sI μ 0 5 0) (uX μ) (n := n) hn h14 hr) rfl mw_X4_invert mi_X4_invert mn_X5_167 isO_3 ⟨rfl, rfl, Nat.le_of_ble_eq_true rfl, Nat.le_of_ble_eq_true rfl⟩ rfl rfl (Nat.le_of_ble_eq_true rfl) dX5_solve_48) ?_
        refine g_mem (μ' := mU (sI μ 0 5 0) (rdN (μ.1 7) n (uX μ)).2) rfl ?_
        refine g_top (w := .int (nI 0)) rfl ?_
        refine g_if_neN 56 (by omega) dX5_solve_51 (by decide) (fun h51 => ?_) (fun h51 => ?_)
        · exact absurd h51 (by omega)
        · refine g_iconst (nI 0) dX5_solve_54 rfl ?_
          exact g_ireturn dX5_solve_55 rfl rfl rfl
      · exact absurd h35 (by omega)
    · exact absurd h21 (by omega)
  · exact absurd h10 (by omega)
/-- what solve leaves once the mask is undone -/
abbrev ivN (μ : Mm) (n : Nat) : Mm := ivM (sI μ 0 5 0) n (rdN (μ.1 7) n (uX μ)).2
theorem c_solve_1 (μ : Mm) {n : Nat} (hn : μ.1 1 2 = nI n) (h14 : n ≤ 14) (h0 : 0 < n) (hm : misN μ n = 0) (hY : ∀ i j, i < n → j ≤ n → ((rdN (μ.1 7) n (uX μ)).2 i j).toInt ≠ -9223372036854775808) (hr : (rdN (μ.1 7) n (uX μ)).1 = n) (hO : ∀ s, s < n → svO ((ivN μ n).2 27) ((ivN μ n).1 9) ((ivN μ n).2 3 3) n s) : Ok mX5_solve (rmL 6) [.ref 0] μ (some (.int (nI 1)), sR (svM (ivN μ n) n n) 8 (fil (μ.1 8) (fun s => (svQ ((ivN μ n).2 27) ((ivN μ n).1 9) ((ivN μ n).2 3 3) n s).toInt32) n)) := by
  refine Ok.of (by decide) (Nat.le_of_ble_eq_true rfl) [some (.ref 0), none] rfl ?_
  have hc : misN μ n ≤ n := fa_cnt_le _ n
  refine g_aload_n 0 _ dX5_solve_0 rfl rfl ?_
  refine gf_X5_10 rfl dX5_solve_1 ?_
  refine g_iconst (nI 2) dX5_solve_4 rfl ?_
  refine g_ldc _ rfl kc_X5_103 dX5_solve_5 ?_
  refine g_top (w := .int (nI 1073741824)) rfl ?_
  refine g_backi (g_runVN (c_tally μ (w := 2) (n := n) 1073741824 hn (by omega) (by omega)) rfl mw_X1_tally mi_X1_tally mn_X5_116 isO_1 ⟨rfl, rfl, Nat.le_of_ble_eq_true rfl, Nat.le_of_ble_eq_true rfl⟩ rfl rfl (Nat.le_of_ble_eq_true rfl) dX5_solve_7) ?_
  refine g_top (w := .int (nI (misN μ n))) rfl ?_
  refine g_if_leN 17 (by omega) dX5_solve_10 (by decide) (fun h10 => ?_) (fun h10 => ?_)
  · refine g_iconst (nI 0) dX5_solve_17 rfl ?_
    refine g_istore_n [some (.ref 0), some (.int (nI 0))] dX5_solve_18 rfl (Nat.le_of_ble_eq_true rfl) rfl rfl ?_
    refine g_aload_n 0 _ dX5_solve_19 rfl rfl ?_
    refine g_iload_n 1 _ dX5_solve_20 rfl rfl ?_
    refine g_if_eqN 28 (by omega) dX5_solve_21 (by decide) (fun h21 => ?_) (fun h21 => ?_)
    · refine g_aload_n 0 _ dX5_solve_28 rfl rfl ?_
      refine g_backi (g_runV ((c_smallRing μ (n := n) hn (by omega)).to (by rw [if_neg (by omega)])) rfl mw_X5_smallRingFault mi_X5_smallRingFault ml_X5_162 isO_0 ⟨rfl, rfl, Nat.le_of_ble_eq_true rfl, Nat.le_of_ble_eq_true rfl⟩ rfl rfl (Nat.le_of_ble_eq_true rfl) dX5_solve_29) ?_
      refine g_top (w := .int (nI 0)) rfl ?_
      refine g_backi (g_runV (c_refuses0 μ) rfl mw_X5_refuses mi_X5_refuses ml_X5_48 isO_0 ⟨rfl, rfl, Nat.le_of_ble_eq_true rfl, Nat.le_of_ble_eq_true rfl⟩ rfl rfl (Nat.le_of_ble_eq_true rfl) dX5_solve_32) ?_
      refine g_mem (μ' := sI μ 0 5 0) rfl ?_
      refine g_top (w := .int (nI 0)) rfl ?_
      refine g_if_eqN 40 (by omega) dX5_solve_35 (by decide) (fun h35 => ?_) (fun h35 => ?_)
      · refine g_mem (μ' := mU (sI μ 0 5 0) (uX μ)) (by exact uX_id _) ?_
        refine g_aload_n 0 _ dX5_solve_40 rfl rfl ?_
        refine gf_X5_26 rfl dX5_solve_41 ?_
        refine g_aload_n 0 _ dX5_solve_44 rfl rfl ?_
        refine gf_X5_10 rfl dX5_solve_45 ?_
        refine g_backi (g_runVN (c_invert_yes (sI μ 0 5 0) (uX μ) (n := n) hn h14 h0 hY hr) rfl mw_X4_invert mi_X4_invert mn_X5_167 isO_3 ⟨rfl, rfl, Nat.le_of_ble_eq_true rfl, Nat.le_of_ble_eq_true rfl⟩ rfl rfl (Nat.le_of_ble_eq_true rfl) dX5_solve_48) ?_
        refine g_mem (μ' := ivN μ n) rfl ?_
        refine g_top (w := .int (nI 1)) rfl ?_
        refine g_if_neN 56 (by omega) dX5_solve_51 (by decide) (fun h51 => ?_) (fun h51 => ?_)
        · refine g_aload_n 0 _ dX5_solve_56 rfl rfl ?_
          refine gf_X5_26 rfl dX5_solve_57 ?_
          refine g_aload_n 0 _ dX5_solve_60 rfl rfl ?_
          refine gf_X5_10 rfl dX5_solve_61 ?_
          refine g_backi (g_runVN (c_showSolved_yes (ivN μ n) (n := n) hn h14 hO) rfl mw_X4_showSolved mi_X4_showSolved mn_X5_191 isO_3 ⟨rfl, rfl, Nat.le_of_ble_eq_true rfl, Nat.le_of_ble_eq_true rfl⟩ rfl rfl (Nat.le_of_ble_eq_true rfl) dX5_solve_64) ?_
          refine g_mem (μ' := sR (svM (ivN μ n) n n) 8 (fil (μ.1 8) (fun s => (svQ ((ivN μ n).2 27) ((ivN μ n).1 9) ((ivN μ n).2 3 3) n s).toInt32) n)) rfl ?_
          refine g_top (w := .int (nI 1)) rfl ?_
          refine g_if_eqN 74 (by omega) dX5_solve_67 (by decide) (fun h67 => ?_) (fun h67 => ?_)
          · exact absurd h67 (by omega)
          · refine g_iconst (nI 1) dX5_solve_70 rfl ?_
            refine g_goto 76 dX5_solve_71 (by decide) ?_
            exact g_ireturn dX5_solve_76 rfl rfl rfl
        · exact absurd h51 (by omega)
      · exact absurd h35 (by omega)
    · exact absurd h21 (by omega)
  · exact absurd h10 (by omega)
theorem c_solve_2 (μ : Mm) {n : Nat} (hn : μ.1 1 2 = nI n) (h14 : n ≤ 14) (h0 : 0 < n) (hm : misN μ n = 0) (hY : ∀ i j, i < n → j ≤ n → ((rdN (μ.1 7) n (uX μ)).2 i j).toInt ≠ -9223372036854775808) (hr : (rdN (μ.1 7) n (uX μ)).1 = n) (hO : ¬ ∀ s, s < n → svO ((ivN μ n).2 27) ((ivN μ n).1 9) ((ivN μ n).2 3 3) n s) : ∃ k, Ok mX5_solve (rmL 6) [.ref 0] μ (some (.int (-2)), svM (ivN μ n) n k) := by
  obtain ⟨k, hk⟩ := c_showSolved_no (ivN μ n) (n := n) hn h14 hO
  refine ⟨k, ?_⟩
  refine Ok.of (by decide) (Nat.le_of_ble_eq_true rfl) [some (.ref 0), none] rfl ?_
  have hc : misN μ n ≤ n := fa_cnt_le _ n
  refine g_aload_n 0 _ dX5_solve_0 rfl rfl ?_
  refine gf_X5_10 rfl dX5_solve_1 ?_
  refine g_iconst (nI 2) dX5_solve_4 rfl ?_
  refine g_ldc _ rfl kc_X5_103 dX5_solve_5 ?_
  refine g_top (w := .int (nI 1073741824)) rfl ?_
  refine g_backi (g_runVN (c_tally μ (w := 2) (n := n) 1073741824 hn (by omega) (by omega)) rfl mw_X1_tally mi_X1_tally mn_X5_116 isO_1 ⟨rfl, rfl, Nat.le_of_ble_eq_true rfl, Nat.le_of_ble_eq_true rfl⟩ rfl rfl (Nat.le_of_ble_eq_true rfl) dX5_solve_7) ?_
  refine g_top (w := .int (nI (misN μ n))) rfl ?_
  refine g_if_leN 17 (by omega) dX5_solve_10 (by decide) (fun h10 => ?_) (fun h10 => ?_)
  · refine g_iconst (nI 0) dX5_solve_17 rfl ?_
    refine g_istore_n [some (.ref 0), some (.int (nI 0))] dX5_solve_18 rfl (Nat.le_of_ble_eq_true rfl) rfl rfl ?_
    refine g_aload_n 0 _ dX5_solve_19 rfl rfl ?_
    refine g_iload_n 1 _ dX5_solve_20 rfl rfl ?_
    refine g_if_eqN 28 (by omega) dX5_solve_21 (by decide) (fun h21 => ?_) (fun h21 => ?_)
    · refine g_aload_n 0 _ dX5_solve_28 rfl rfl ?_
      refine g_backi (g_runV ((c_smallRing μ (n := n) hn (by omega)).to (by rw [if_neg (by omega)])) rfl mw_X5_smallRingFault mi_X5_smallRingFault ml_X5_162 isO_0 ⟨rfl, rfl, Nat.le_of_ble_eq_true rfl, Nat.le_of_ble_eq_true rfl⟩ rfl rfl (Nat.le_of_ble_eq_true rfl) dX5_solve_29) ?_
      refine g_top (w := .int (nI 0)) rfl ?_
      refine g_backi (g_runV (c_refuses0 μ) rfl mw_X5_refuses mi_X5_refuses ml_X5_48 isO_0 ⟨rfl, rfl, Nat.le_of_ble_eq_true rfl, Nat.le_of_ble_eq_true rfl⟩ rfl rfl (Nat.le_of_ble_eq_true rfl) dX5_solve_32) ?_
      refine g_mem (μ' := sI μ 0 5 0) rfl ?_
      refine g_top (w := .int (nI 0)) rfl ?_
      refine g_if_eqN 40 (by omega) dX5_solve_35 (by decide) (fun h35 => ?_) (fun h35 => ?_)
      · refine g_mem (μ' := mU (sI μ 0 5 0) (uX μ)) (by exact uX_id _) ?_
        refine g_aload_n 0 _ dX5_solve_40 rfl rfl ?_
        refine gf_X5_26 rfl dX5_solve_41 ?_
        refine g_aload_n 0 _ dX5_solve_44 rfl rfl ?_
        refine gf_X5_10 rfl dX5_solve_45 ?_
        refine g_backi (g_runVN (c_invert_yes (sI μ 0 5 0) (uX μ) (n := n) hn h14 h0 hY hr) rfl mw_X4_invert mi_X4_invert mn_X5_167 isO_3 ⟨rfl, rfl, Nat.le_of_ble_eq_true rfl, Nat.le_of_ble_eq_true rfl⟩ rfl rfl (Nat.le_of_ble_eq_true rfl) dX5_solve_48) ?_
        refine g_mem (μ' := ivN μ n) rfl ?_
        refine g_top (w := .int (nI 1)) rfl ?_
        refine g_if_neN 56 (by omega) dX5_solve_51 (by decide) (fun h51 => ?_) (fun h51 => ?_)
        · refine g_aload_n 0 _ dX5_solve_56 rfl rfl ?_
          refine gf_X5_26 rfl dX5_solve_57 ?_
          refine g_aload_n 0 _ dX5_solve_60 rfl rfl ?_
          refine gf_X5_10 rfl dX5_solve_61 ?_
          refine g_backi (g_runVN (hk) rfl mw_X4_showSolved mi_X4_showSolved mn_X5_191 isO_3 ⟨rfl, rfl, Nat.le_of_ble_eq_true rfl, Nat.le_of_ble_eq_true rfl⟩ rfl rfl (Nat.le_of_ble_eq_true rfl) dX5_solve_64) ?_
          refine g_mem (μ' := svM (ivN μ n) n k) rfl ?_
          refine g_top (w := .int (nI 0)) rfl ?_
          refine g_if_eqN 74 (by omega) dX5_solve_67 (by decide) (fun h67 => ?_) (fun h67 => ?_)
          · refine g_bipush (-2) dX5_solve_74 rfl ?_
            exact g_ireturn dX5_solve_76 rfl rfl rfl
          · exact absurd h67 (by omega)
        · exact absurd h51 (by omega)
      · exact absurd h35 (by omega)
    · exact absurd h21 (by omega)
  · exact absurd h10 (by omega)
theorem c_sure_no (μ : Mm) {n : Nat} (hn : μ.1 1 2 = nI n) (h60 : n ≤ 60) (h14 : 14 < n) : Ok mX5_sure (rmL 5) [.ref 0] μ (some (.int (-1)), sI μ 0 5 (nI 1)) := by
  refine Ok.of (by decide) (Nat.le_of_ble_eq_true rfl) [some (.ref 0), none] rfl ?_
  refine g_aload_n 0 _ dX5_sure_0 rfl rfl ?_
  refine g_aload_n 0 _ dX5_sure_1 rfl rfl ?_
  refine g_backi (g_runV ((c_smallRing μ (n := n) hn h60).to (by rw [if_pos h14])) rfl mw_X5_smallRingFault mi_X5_smallRingFault ml_X5_162 isO_0 ⟨rfl, rfl, Nat.le_of_ble_eq_true rfl, Nat.le_of_ble_eq_true rfl⟩ rfl rfl (Nat.le_of_ble_eq_true rfl) dX5_sure_2) ?_
  refine g_top (w := .int (nI 1)) rfl ?_
  refine g_backi (g_runV (c_refuses1 μ (f := nI 1) (by decide)) rfl mw_X5_refuses mi_X5_refuses ml_X5_48 isO_0 ⟨rfl, rfl, Nat.le_of_ble_eq_true rfl, Nat.le_of_ble_eq_true rfl⟩ rfl rfl (Nat.le_of_ble_eq_true rfl) dX5_sure_5) ?_
  refine g_mem (μ' := sI μ 0 5 (nI 1)) rfl ?_
  refine g_top (w := .int (nI 1)) rfl ?_
  refine g_if_eqN 13 (by omega) dX5_sure_8 (by decide) (fun h8 => ?_) (fun h8 => ?_)
  · exact absurd h8 (by omega)
  · refine g_iconst (-1) dX5_sure_11 rfl ?_
    exact g_ireturn dX5_sure_12 rfl rfl rfl
theorem c_sure_0 (μ : Mm) {n : Nat} (hn : μ.1 1 2 = nI n) (h14 : n ≤ 14) (hm : 0 < misN μ n) : Ok mX5_sure (rmL 5) [.ref 0] μ (some (.int (nI 0)), sI μ 0 5 0) := by
  refine Ok.of (by decide) (Nat.le_of_ble_eq_true rfl) [some (.ref 0), none] rfl ?_
  have hc : misN μ n ≤ n := fa_cnt_le _ n
  refine g_aload_n 0 _ dX5_sure_0 rfl rfl ?_
  refine g_aload_n 0 _ dX5_sure_1 rfl rfl ?_
  refine g_backi (g_runV ((c_smallRing μ (n := n) hn (by omega)).to (by rw [if_neg (by omega)])) rfl mw_X5_smallRingFault mi_X5_smallRingFault ml_X5_162 isO_0 ⟨rfl, rfl, Nat.le_of_ble_eq_true rfl, Nat.le_of_ble_eq_true rfl⟩ rfl rfl (Nat.le_of_ble_eq_true rfl) dX5_sure_2) ?_
  refine g_top (w := .int (nI 0)) rfl ?_
  refine g_backi (g_runV (c_refuses0 μ) rfl mw_X5_refuses mi_X5_refuses ml_X5_48 isO_0 ⟨rfl, rfl, Nat.le_of_ble_eq_true rfl, Nat.le_of_ble_eq_true rfl⟩ rfl rfl (Nat.le_of_ble_eq_true rfl) dX5_sure_5) ?_
  refine g_mem (μ' := sI μ 0 5 0) rfl ?_
  refine g_top (w := .int (nI 0)) rfl ?_
  refine g_if_eqN 13 (by omega) dX5_sure_8 (by decide) (fun h8 => ?_) (fun h8 => ?_)
  · refine g_aload_n 0 _ dX5_sure_13 rfl rfl ?_
    refine gf_X5_10 rfl dX5_sure_14 ?_
    refine g_iconst (nI 2) dX5_sure_17 rfl ?_
    refine g_ldc _ rfl kc_X5_103 dX5_sure_18 ?_
    refine g_top (w := .int (nI 1073741824)) rfl ?_
    refine g_backi (g_runVN (c_tally (sI μ 0 5 0) (w := 2) (n := n) 1073741824 hn (by omega) (by omega)) rfl mw_X1_tally mi_X1_tally mn_X5_116 isO_1 ⟨rfl, rfl, Nat.le_of_ble_eq_true rfl, Nat.le_of_ble_eq_true rfl⟩ rfl rfl (Nat.le_of_ble_eq_true rfl) dX5_sure_20) ?_
    refine g_top (w := .int (nI (misN μ n))) rfl ?_
    refine g_if_neN 30 (by omega) dX5_sure_23 (by decide) (fun h23 => ?_) (fun h23 => ?_)
    · refine g_iconst (nI 0) dX5_sure_30 rfl ?_
      refine g_istore_n [some (.ref 0), some (.int (nI 0))] dX5_sure_31 rfl (Nat.le_of_ble_eq_true rfl) rfl rfl ?_
      refine g_iload_n 1 _ dX5_sure_32 rfl rfl ?_
      refine g_if_eqN 61 (by omega) dX5_sure_33 (by decide) (fun h33 => ?_) (fun h33 => ?_)
      · refine g_iconst (nI 0) dX5_sure_61 rfl ?_
        exact g_ireturn dX5_sure_62 rfl rfl rfl
      · exact absurd h33 (by omega)
    · exact absurd h23 (by omega)
  · exact absurd h8 (by omega)
theorem c_sure_1 (μ : Mm) {n : Nat} (hn : μ.1 1 2 = nI n) (h14 : n ≤ 14) (hm : misN μ n = 0) (hle : (rdN (μ.1 7) n (uX μ)).1 ≤ n) : Ok mX5_sure (rmL 5) [.ref 0] μ (some (.int (if (rdN (μ.1 7) n (uX μ)).1 = n then nI 1 else nI 0)), mU (sI μ 0 5 0) (rdN (μ.1 7) n (uX μ)).2) := by
  refine Ok.of (by decide) (Nat.le_of_ble_eq_true rfl) [some (.ref 0), none] rfl ?_
  have hc : misN μ n ≤ n := fa_cnt_le _ n
  refine g_aload_n 0 _ dX5_sure_0 rfl rfl ?_
  refine g_aload_n 0 _ dX5_sure_1 rfl rfl ?_
  refine g_backi (g_runV ((c_smallRing μ (n := n) hn (by omega)).to (by rw [if_neg (by omega)])) rfl mw_X5_smallRingFault mi_X5_smallRingFault ml_X5_162 isO_0 ⟨rfl, rfl, Nat.le_of_ble_eq_true rfl, Nat.le_of_ble_eq_true rfl⟩ rfl rfl (Nat.le_of_ble_eq_true rfl) dX5_sure_2) ?_
  refine g_top (w := .int (nI 0)) rfl ?_
  refine g_backi (g_runV (c_refuses0 μ) rfl mw_X5_refuses mi_X5_refuses ml_X5_48 isO_0 ⟨rfl, rfl, Nat.le_of_ble_eq_true rfl, Nat.le_of_ble_eq_true rfl⟩ rfl rfl (Nat.le_of_ble_eq_true rfl) dX5_sure_5) ?_
  refine g_mem (μ' := sI μ 0 5 0) rfl ?_
  refine g_top (w := .int (nI 0)) rfl ?_
  refine g_if_eqN 13 (by omega) dX5_sure_8 (by decide) (fun h8 => ?_) (fun h8 => ?_)
  · refine g_aload_n 0 _ dX5_sure_13 rfl rfl ?_
    refine gf_X5_10 rfl dX5_sure_14 ?_
    refine g_iconst (nI 2) dX5_sure_17 rfl ?_
    refine g_ldc _ rfl kc_X5_103 dX5_sure_18 ?_
    refine g_top (w := .int (nI 1073741824)) rfl ?_
    refine g_backi (g_runVN (c_tally (sI μ 0 5 0) (w := 2) (n := n) 1073741824 hn (by omega) (by omega)) rfl mw_X1_tally mi_X1_tally mn_X5_116 isO_1 ⟨rfl, rfl, Nat.le_of_ble_eq_true rfl, Nat.le_of_ble_eq_true rfl⟩ rfl rfl (Nat.le_of_ble_eq_true rfl) dX5_sure_20) ?_
    refine g_top (w := .int (nI (misN μ n))) rfl ?_
    refine g_if_neN 30 (by omega) dX5_sure_23 (by decide) (fun h23 => ?_) (fun h23 => ?_)
    · exact absurd h23 (by omega)
    · refine g_iconst (nI 1) dX5_sure_26 rfl ?_
      refine g_goto 31 dX5_sure_27 (by decide) ?_
      refine g_istore_n [some (.ref 0), some (.int (nI 1))] dX5_sure_31 rfl (Nat.le_of_ble_eq_true rfl) rfl rfl ?_
      refine g_iload_n 1 _ dX5_sure_32 rfl rfl ?_
      refine g_if_eqN 61 (by omega) dX5_sure_33 (by decide) (fun h33 => ?_) (fun h33 => ?_)
      · exact absurd h33 (by omega)
      · refine g_mem (μ' := mU (sI μ 0 5 0) (uX μ)) (by exact uX_id _) ?_
        refine g_aload_n 0 _ dX5_sure_36 rfl rfl ?_
        refine gf_X5_26 rfl dX5_sure_37 ?_
        refine g_aload_n 0 _ dX5_sure_40 rfl rfl ?_
        refine gf_X5_10 rfl dX5_sure_41 ?_
        refine g_backi (g_runVN (c_reduce (sI μ 0 5 0) (uX μ) (n := n) hn h14) rfl mw_X4_reduce mi_X4_reduce mn_X5_183 isO_3 ⟨rfl, rfl, Nat.le_of_ble_eq_true rfl, Nat.le_of_ble_eq_true rfl⟩ rfl rfl (Nat.le_of_ble_eq_true rfl) dX5_sure_44) ?_
        refine g_mem (μ' := mU (sI μ 0 5 0) (rdN (μ.1 7) n (uX μ)).2) rfl ?_
        refine g_top (w := .int (nI ((rdN (μ.1 7) n (uX μ)).1))) rfl ?_
        refine g_aload_n 0 _ dX5_sure_47 rfl rfl ?_
        refine gf_X5_10 rfl dX5_sure_48 ?_
        refine g_at 51 rfl ?_
        refine gf_X5_77 rfl dX5_sure_51 ?_
        refine g_top (w := .int (nI n)) (congrArg Value.int hn) ?_
        refine g_icmp_neN 61 (by omega) (by omega) dX5_sure_54 (by decide) (fun h54 => ?_) (fun h54 => ?_)
        · refine g_iconst (nI 0) dX5_sure_61 rfl ?_
          exact g_ireturn dX5_sure_62 rfl rfl (by first | rw [if_pos (by assumption)] | rw [if_neg (by assumption)])
        · refine g_iconst (nI 1) dX5_sure_57 rfl ?_
          refine g_goto 62 dX5_sure_58 (by decide) ?_
          exact g_ireturn dX5_sure_62 rfl rfl (by first | rw [if_pos (by assumption)] | rw [if_neg (by assumption)])
  · exact absurd h8 (by omega)
