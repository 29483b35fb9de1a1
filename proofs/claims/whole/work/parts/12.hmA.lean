/-! HoleMask: the ring -/
theorem c_ring_ok (μ : Mm) {n : Nat} (h1 : 1 ≤ n) (h60 : n ≤ 60) : Ok mX5_ring (rmL 3) [.ref 0, .int (nI n)] μ (some (.int (nI 1)), sI (stM (sI μ 0 5 0) (nI n)) 3 4 0) := by
  refine Ok.of (by decide) (Nat.le_of_ble_eq_true rfl) [some (.ref 0), some (.int (nI n))] rfl ?_
  refine g_aload_n 0 _ dX5_ring_0 rfl rfl ?_
  refine g_iload_n 1 _ dX5_ring_1 rfl rfl ?_
  refine g_iconst (nI 1) dX5_ring_2 rfl ?_
  refine g_icmp_ltN 12 (by omega) (by omega) dX5_ring_3 (by decide) (fun h3 => ?_) (fun h3 => ?_)
  · exact absurd h3 (by omega)
  · refine g_iload_n 1 _ dX5_ring_6 rfl rfl ?_
    refine g_bipush (nI 60) dX5_ring_7 rfl ?_
    refine g_icmp_leN 16 (by omega) (by omega) dX5_ring_9 (by decide) (fun h9 => ?_) (fun h9 => ?_)
    · refine g_iconst (nI 0) dX5_ring_16 rfl ?_
      refine g_backi (g_runV (c_refuses0 μ) rfl mw_X5_refuses mi_X5_refuses ml_X5_48 isO_0 ⟨rfl, rfl, Nat.le_of_ble_eq_true rfl, Nat.le_of_ble_eq_true rfl⟩ rfl rfl (Nat.le_of_ble_eq_true rfl) dX5_ring_17) ?_
      refine g_if_eqN 25 (by omega) dX5_ring_20 (by decide) (fun h20 => ?_) (fun h20 => ?_)
      · refine g_aload_n 0 _ dX5_ring_25 rfl rfl ?_
        refine g_iload_n 1 _ dX5_ring_26 rfl rfl ?_
        refine g_backv (g_runV (c_startRing (sI μ 0 5 0) (nI n)) rfl mw_X5_startRing mi_X5_startRing ml_X5_52 isO_0 ⟨rfl, rfl, Nat.le_of_ble_eq_true rfl, Nat.le_of_ble_eq_true rfl⟩ rfl rfl (Nat.le_of_ble_eq_true rfl) dX5_ring_27) ?_
        refine g_iconst (nI 1) dX5_ring_30 rfl ?_
        exact g_ireturn dX5_ring_31 rfl rfl rfl
      · exact absurd h20 (by omega)
    · exact absurd h9 (by omega)
theorem c_ring_no (μ : Mm) (a : Int32) (h : a.toInt < 1 ∨ 60 < a.toInt) : Ok mX5_ring (rmL 3) [.ref 0, .int a] μ (some (.int (nI 0)), sI μ 0 5 (nI 1)) := by
  refine Ok.of (by decide) (Nat.le_of_ble_eq_true rfl) [some (.ref 0), some (.int a)] rfl ?_
  refine g_aload_n 0 _ dX5_ring_0 rfl rfl ?_
  refine g_iload_n 1 _ dX5_ring_1 rfl rfl ?_
  refine g_iconst (nI 1) dX5_ring_2 rfl ?_
  refine g_icmp_lt 12 dX5_ring_3 (by decide) (fun h3 => ?_) (fun h3 => ?_)
  · refine g_iconst (nI 1) dX5_ring_12 rfl ?_
    refine g_goto 17 dX5_ring_13 (by decide) ?_
    refine g_backi (g_runV (c_refuses1 μ (f := nI 1) (by decide)) rfl mw_X5_refuses mi_X5_refuses ml_X5_48 isO_0 ⟨rfl, rfl, Nat.le_of_ble_eq_true rfl, Nat.le_of_ble_eq_true rfl⟩ rfl rfl (Nat.le_of_ble_eq_true rfl) dX5_ring_17) ?_
    refine g_if_eqN 25 (by omega) dX5_ring_20 (by decide) (fun h20 => ?_) (fun h20 => ?_)
    · exact absurd h20 (by omega)
    · refine g_iconst (nI 0) dX5_ring_23 rfl ?_
      exact g_ireturn dX5_ring_24 rfl rfl rfl
  · refine g_iload_n 1 _ dX5_ring_6 rfl rfl ?_
    refine g_bipush (nI 60) dX5_ring_7 rfl ?_
    refine g_icmp_le 16 dX5_ring_9 (by decide) (fun h9 => ?_) (fun h9 => ?_)
    · exfalso; simp only [ne_eq, fa_lt, fa_le, fa_eq, t0, t1, t2, tm1, nt0, nt1, nt2, nt3, nt4, nt5, nt7, nt9, nt10, nt13, nt14, nt30, nt32, nt59, nt60, nt200, nt1000, nt1000000, nt1073741824] at *; omega
    · refine g_iconst (nI 1) dX5_ring_12 rfl ?_
      refine g_goto 17 dX5_ring_13 (by decide) ?_
      refine g_backi (g_runV (c_refuses1 μ (f := nI 1) (by decide)) rfl mw_X5_refuses mi_X5_refuses ml_X5_48 isO_0 ⟨rfl, rfl, Nat.le_of_ble_eq_true rfl, Nat.le_of_ble_eq_true rfl⟩ rfl rfl (Nat.le_of_ble_eq_true rfl) dX5_ring_17) ?_
      refine g_if_eqN 25 (by omega) dX5_ring_20 (by decide) (fun h20 => ?_) (fun h20 => ?_)
      · exact absurd h20 (by omega)
      · refine g_iconst (nI 0) dX5_ring_23 rfl ?_
        exact g_ireturn dX5_ring_24 rfl rfl rfl
theorem c_sheet_no (μ : Mm) (k m : Int32) (h : shF k m ≠ 0) : Ok mX5_sheet (rmL 2) [.ref 0, .int k, .int m] μ (some (.int (-1)), sI μ 0 5 (shF k m)) := by
  refine Ok.of (by decide) (Nat.le_of_ble_eq_true rfl) [some (.ref 0), some (.int k), some (.int m)] rfl ?_
  refine g_aload_n 0 _ dX5_sheet_0 rfl rfl ?_
  refine g_iload_n 1 _ dX5_sheet_1 rfl rfl ?_
  refine g_iload_n 2 _ dX5_sheet_2 rfl rfl ?_
  refine g_backi (g_runS (c_sheetFault μ k m) rfl mw_X5_sheetFault ms_X5_sheetFault ml_X5_56 ⟨rfl, rfl, Nat.le_of_ble_eq_true rfl, Nat.le_of_ble_eq_true rfl⟩ rfl rfl (Nat.le_of_ble_eq_true rfl) dX5_sheet_3) ?_
  refine g_backi (g_runV (c_refuses1 μ h) rfl mw_X5_refuses mi_X5_refuses ml_X5_48 isO_0 ⟨rfl, rfl, Nat.le_of_ble_eq_true rfl, Nat.le_of_ble_eq_true rfl⟩ rfl rfl (Nat.le_of_ble_eq_true rfl) dX5_sheet_6) ?_
  refine g_if_eqN 14 (by omega) dX5_sheet_9 (by decide) (fun h9 => ?_) (fun h9 => ?_)
  · exact absurd h9 (by omega)
  · refine g_iconst (-1) dX5_sheet_12 rfl ?_
    exact g_ireturn dX5_sheet_13 rfl rfl rfl
theorem c_sheet_ok (μ : Mm) (k m : Int32) (h : shF k m = 0) : Ok mX5_sheet (rmL 2) [.ref 0, .int k, .int m] μ (some (.int (if k = 3 then 0 else m)), sR (sI (sI (sI μ 0 5 0) 2 1 k) 2 2 (if k = 3 then 0 else m)) 11 (fil (μ.1 11) (fun _ => 0) 60)) := by
  have e3 : nI 3 = 3 := rfl
  refine Ok.of (by decide) (Nat.le_of_ble_eq_true rfl) [some (.ref 0), some (.int k), some (.int m)] rfl ?_
  refine g_aload_n 0 _ dX5_sheet_0 rfl rfl ?_
  refine g_iload_n 1 _ dX5_sheet_1 rfl rfl ?_
  refine g_iload_n 2 _ dX5_sheet_2 rfl rfl ?_
  refine g_backi (g_runS ((c_sheetFault μ k m).to (by rw [h]; try rfl)) rfl mw_X5_sheetFault ms_X5_sheetFault ml_X5_56 ⟨rfl, rfl, Nat.le_of_ble_eq_true rfl, Nat.le_of_ble_eq_true rfl⟩ rfl rfl (Nat.le_of_ble_eq_true rfl) dX5_sheet_3) ?_
  refine g_backi (g_runV (c_refuses0 μ) rfl mw_X5_refuses mi_X5_refuses ml_X5_48 isO_0 ⟨rfl, rfl, Nat.le_of_ble_eq_true rfl, Nat.le_of_ble_eq_true rfl⟩ rfl rfl (Nat.le_of_ble_eq_true rfl) dX5_sheet_6) ?_
  refine g_if_eqN 14 (by omega) dX5_sheet_9 (by decide) (fun h9 => ?_) (fun h9 => ?_)
  · refine g_aload_n 0 _ dX5_sheet_14 rfl rfl ?_
    refine gf_X5_19 rfl dX5_sheet_15 ?_
    refine g_iload_n 1 _ dX5_sheet_18 rfl rfl ?_
    refine g_iload_n 1 _ dX5_sheet_19 rfl rfl ?_
    refine g_iconst (nI 3) dX5_sheet_20 rfl ?_
    refine g_icmp_ne 28 dX5_sheet_21 (by decide) (fun h21 => ?_) (fun h21 => ?_)
    · refine g_iload_n 2 _ dX5_sheet_28 rfl rfl ?_
      refine g_backv (g_runVN (c_take (sI μ 0 5 0) k m) rfl mw_X3_take mi_X3_take mn_X5_60 isO_2 ⟨rfl, rfl, Nat.le_of_ble_eq_true rfl, Nat.le_of_ble_eq_true rfl⟩ rfl rfl (Nat.le_of_ble_eq_true rfl) dX5_sheet_29) ?_
      refine g_aload_n 0 _ dX5_sheet_32 rfl rfl ?_
      refine gf_X5_19 rfl dX5_sheet_33 ?_
      refine gf_X5_64 rfl dX5_sheet_36 ?_
      exact g_ireturn dX5_sheet_39 rfl rfl (by first | rw [if_pos (show k = 3 from h21)]; rfl | rw [if_neg (show ¬ k = 3 from h21)]; rfl)
    · refine g_iconst (nI 0) dX5_sheet_24 rfl ?_
      refine g_goto 29 dX5_sheet_25 (by decide) ?_
      refine g_backv (g_runVN (c_take (sI μ 0 5 0) k (nI 0)) rfl mw_X3_take mi_X3_take mn_X5_60 isO_2 ⟨rfl, rfl, Nat.le_of_ble_eq_true rfl, Nat.le_of_ble_eq_true rfl⟩ rfl rfl (Nat.le_of_ble_eq_true rfl) dX5_sheet_29) ?_
      refine g_aload_n 0 _ dX5_sheet_32 rfl rfl ?_
      refine gf_X5_19 rfl dX5_sheet_33 ?_
      refine gf_X5_64 rfl dX5_sheet_36 ?_
      exact g_ireturn dX5_sheet_39 rfl rfl (by first | rw [if_pos (show k = 3 from h21)]; rfl | rw [if_neg (show ¬ k = 3 from h21)]; rfl)
  · exact absurd h9 (by omega)
theorem c_entry_no2 (μ : Mm) (i v : Int32) (h : μ.1 2 1 = -1 ∨ μ.1 2 1 = nI 3) : Ok mX5_entry (rmL 1) [.ref 0, .int i, .int v] μ (some (.int (nI 0)), sI μ 0 5 (nI 2)) := by
  refine Ok.of (by decide) (Nat.le_of_ble_eq_true rfl) [some (.ref 0), some (.int i), some (.int v), none] rfl ?_
  refine g_aload_n 0 _ dX5_entry_0 rfl rfl ?_
  refine gf_X5_19 rfl dX5_entry_1 ?_
  refine gf_X5_67 rfl dX5_entry_4 ?_
  refine g_iconst (-1) dX5_entry_7 rfl ?_
  refine g_icmp_eq 22 dX5_entry_8 (by decide) (fun h8 => ?_) (fun h8 => ?_)
  · refine g_iconst (nI 2) dX5_entry_22 rfl ?_
    refine g_goto 46 dX5_entry_23 (by decide) ?_
    refine g_istore_n [some (.ref 0), some (.int i), some (.int v), some (.int (nI 2))] dX5_entry_46 rfl (Nat.le_of_ble_eq_true rfl) rfl rfl ?_
    refine g_aload_n 0 _ dX5_entry_47 rfl rfl ?_
    refine g_iload_n 3 _ dX5_entry_48 rfl rfl ?_
    refine g_backi (g_runV (c_refuses1 μ (f := nI 2) (by decide)) rfl mw_X5_refuses mi_X5_refuses ml_X5_48 isO_0 ⟨rfl, rfl, Nat.le_of_ble_eq_true rfl, Nat.le_of_ble_eq_true rfl⟩ rfl rfl (Nat.le_of_ble_eq_true rfl) dX5_entry_49) ?_
    refine g_if_eqN 57 (by omega) dX5_entry_52 (by decide) (fun h52 => ?_) (fun h52 => ?_)
    · exact absurd h52 (by omega)
    · refine g_iconst (nI 0) dX5_entry_55 rfl ?_
      exact g_ireturn dX5_entry_56 rfl rfl rfl
  · refine g_aload_n 0 _ dX5_entry_11 rfl rfl ?_
    refine gf_X5_19 rfl dX5_entry_12 ?_
    refine gf_X5_67 rfl dX5_entry_15 ?_
    refine g_iconst (nI 3) dX5_entry_18 rfl ?_
    refine g_icmp_ne 26 dX5_entry_19 (by decide) (fun h19 => ?_) (fun h19 => ?_)
    · exact h.elim (fun q => absurd q h8) (fun q => absurd q h19)
    · refine g_iconst (nI 2) dX5_entry_22 rfl ?_
      refine g_goto 46 dX5_entry_23 (by decide) ?_
      refine g_istore_n [some (.ref 0), some (.int i), some (.int v), some (.int (nI 2))] dX5_entry_46 rfl (Nat.le_of_ble_eq_true rfl) rfl rfl ?_
      refine g_aload_n 0 _ dX5_entry_47 rfl rfl ?_
      refine g_iload_n 3 _ dX5_entry_48 rfl rfl ?_
      refine g_backi (g_runV (c_refuses1 μ (f := nI 2) (by decide)) rfl mw_X5_refuses mi_X5_refuses ml_X5_48 isO_0 ⟨rfl, rfl, Nat.le_of_ble_eq_true rfl, Nat.le_of_ble_eq_true rfl⟩ rfl rfl (Nat.le_of_ble_eq_true rfl) dX5_entry_49) ?_
      refine g_if_eqN 57 (by omega) dX5_entry_52 (by decide) (fun h52 => ?_) (fun h52 => ?_)
      · exact absurd h52 (by omega)
      · refine g_iconst (nI 0) dX5_entry_55 rfl ?_
        exact g_ireturn dX5_entry_56 rfl rfl rfl
theorem c_entry_no1 (μ : Mm) (i v : Int32) (h1 : μ.1 2 1 ≠ -1) (h3 : μ.1 2 1 ≠ nI 3) (h : i < 0 ∨ μ.1 2 2 ≤ i) : Ok mX5_entry (rmL 1) [.ref 0, .int i, .int v] μ (some (.int (nI 0)), sI μ 0 5 (nI 1)) := by
  refine Ok.of (by decide) (Nat.le_of_ble_eq_true rfl) [some (.ref 0), some (.int i), some (.int v), none] rfl ?_
  refine g_aload_n 0 _ dX5_entry_0 rfl rfl ?_
  refine gf_X5_19 rfl dX5_entry_1 ?_
  refine gf_X5_67 rfl dX5_entry_4 ?_
  refine g_iconst (-1) dX5_entry_7 rfl ?_
  refine g_icmp_eq 22 dX5_entry_8 (by decide) (fun h8 => ?_) (fun h8 => ?_)
  · exact absurd h8 h1
  · refine g_aload_n 0 _ dX5_entry_11 rfl rfl ?_
    refine gf_X5_19 rfl dX5_entry_12 ?_
    refine gf_X5_67 rfl dX5_entry_15 ?_
    refine g_iconst (nI 3) dX5_entry_18 rfl ?_
    refine g_icmp_ne 26 dX5_entry_19 (by decide) (fun h19 => ?_) (fun h19 => ?_)
    · refine g_iload_n 1 _ dX5_entry_26 rfl rfl ?_
      refine g_if_lt 41 dX5_entry_27 (by decide) (fun h27 => ?_) (fun h27 => ?_)
      · refine g_iconst (nI 1) dX5_entry_41 rfl ?_
        refine g_goto 46 dX5_entry_42 (by decide) ?_
        refine g_istore_n [some (.ref 0), some (.int i), some (.int v), some (.int (nI 1))] dX5_entry_46 rfl (Nat.le_of_ble_eq_true rfl) rfl rfl ?_
        refine g_aload_n 0 _ dX5_entry_47 rfl rfl ?_
        refine g_iload_n 3 _ dX5_entry_48 rfl rfl ?_
        refine g_backi (g_runV (c_refuses1 μ (f := nI 1) (by decide)) rfl mw_X5_refuses mi_X5_refuses ml_X5_48 isO_0 ⟨rfl, rfl, Nat.le_of_ble_eq_true rfl, Nat.le_of_ble_eq_true rfl⟩ rfl rfl (Nat.le_of_ble_eq_true rfl) dX5_entry_49) ?_
        refine g_if_eqN 57 (by omega) dX5_entry_52 (by decide) (fun h52 => ?_) (fun h52 => ?_)
        · exact absurd h52 (by omega)
        · refine g_iconst (nI 0) dX5_entry_55 rfl ?_
          exact g_ireturn dX5_entry_56 rfl rfl rfl
      · refine g_iload_n 1 _ dX5_entry_30 rfl rfl ?_
        refine g_aload_n 0 _ dX5_entry_31 rfl rfl ?_
        refine gf_X5_19 rfl dX5_entry_32 ?_
        refine gf_X5_64 rfl dX5_entry_35 ?_
        refine g_icmp_lt 45 dX5_entry_38 (by decide) (fun h38 => ?_) (fun h38 => ?_)
        · exfalso; simp only [ne_eq, fa_lt, fa_le, fa_eq, t0, t1, t2, tm1, nt0, nt1, nt2, nt3, nt4, nt5, nt7, nt9, nt10, nt13, nt14, nt30, nt32, nt59, nt60, nt200, nt1000, nt1000000, nt1073741824] at *; omega
        · refine g_iconst (nI 1) dX5_entry_41 rfl ?_
          refine g_goto 46 dX5_entry_42 (by decide) ?_
          refine g_istore_n [some (.ref 0), some (.int i), some (.int v), some (.int (nI 1))] dX5_entry_46 rfl (Nat.le_of_ble_eq_true rfl) rfl rfl ?_
          refine g_aload_n 0 _ dX5_entry_47 rfl rfl ?_
          refine g_iload_n 3 _ dX5_entry_48 rfl rfl ?_
          refine g_backi (g_runV (c_refuses1 μ (f := nI 1) (by decide)) rfl mw_X5_refuses mi_X5_refuses ml_X5_48 isO_0 ⟨rfl, rfl, Nat.le_of_ble_eq_true rfl, Nat.le_of_ble_eq_true rfl⟩ rfl rfl (Nat.le_of_ble_eq_true rfl) dX5_entry_49) ?_
          refine g_if_eqN 57 (by omega) dX5_entry_52 (by decide) (fun h52 => ?_) (fun h52 => ?_)
          · exact absurd h52 (by omega)
          · refine g_iconst (nI 0) dX5_entry_55 rfl ?_
            exact g_ireturn dX5_entry_56 rfl rfl rfl
    · exact absurd h19 h3
theorem c_entry_ok (μ : Mm) {i n : Nat} (v : Int32) (h1 : μ.1 2 1 ≠ -1) (h3 : μ.1 2 1 ≠ nI 3) (hl : μ.1 2 2 = nI n) (hn : n ≤ 60) (hi : i < n) : Ok mX5_entry (rmL 1) [.ref 0, .int (nI i), .int v] μ (some (.int (nI 1)), sI (sI μ 0 5 0) 11 i (cutF (μ.1 2 1) v)) := by
  refine Ok.of (by decide) (Nat.le_of_ble_eq_true rfl) [some (.ref 0), some (.int (nI i)), some (.int v), none] rfl ?_
  refine g_aload_n 0 _ dX5_entry_0 rfl rfl ?_
  refine gf_X5_19 rfl dX5_entry_1 ?_
  refine gf_X5_67 rfl dX5_entry_4 ?_
  refine g_iconst (-1) dX5_entry_7 rfl ?_
  refine g_icmp_eq 22 dX5_entry_8 (by decide) (fun h8 => ?_) (fun h8 => ?_)
  · exact absurd h8 h1
  · refine g_aload_n 0 _ dX5_entry_11 rfl rfl ?_
    refine gf_X5_19 rfl dX5_entry_12 ?_
    refine gf_X5_67 rfl dX5_entry_15 ?_
    refine g_iconst (nI 3) dX5_entry_18 rfl ?_
    refine g_icmp_ne 26 dX5_entry_19 (by decide) (fun h19 => ?_) (fun h19 => ?_)
    · refine g_iload_n 1 _ dX5_entry_26 rfl rfl ?_
      refine g_if_ltN 41 (by omega) dX5_entry_27 (by decide) ?_
      refine g_iload_n 1 _ dX5_entry_30 rfl rfl ?_
      refine g_aload_n 0 _ dX5_entry_31 rfl rfl ?_
      refine gf_X5_19 rfl dX5_entry_32 ?_
      refine gf_X5_64 rfl dX5_entry_35 ?_
      refine g_top (w := .int (nI n)) (congrArg Value.int hl) ?_
      refine g_icmp_ltN 45 (by omega) (by omega) dX5_entry_38 (by decide) (fun h38 => ?_) (fun h38 => ?_)
      · refine g_iconst (nI 0) dX5_entry_45 rfl ?_
        refine g_istore_n [some (.ref 0), some (.int (nI i)), some (.int v), some (.int (nI 0))] dX5_entry_46 rfl (Nat.le_of_ble_eq_true rfl) rfl rfl ?_
        refine g_aload_n 0 _ dX5_entry_47 rfl rfl ?_
        refine g_iload_n 3 _ dX5_entry_48 rfl rfl ?_
        refine g_backi (g_runV (c_refuses0 μ) rfl mw_X5_refuses mi_X5_refuses ml_X5_48 isO_0 ⟨rfl, rfl, Nat.le_of_ble_eq_true rfl, Nat.le_of_ble_eq_true rfl⟩ rfl rfl (Nat.le_of_ble_eq_true rfl) dX5_entry_49) ?_
        refine g_if_eqN 57 (by omega) dX5_entry_52 (by decide) (fun h52 => ?_) (fun h52 => ?_)
        · refine g_aload_n 0 _ dX5_entry_57 rfl rfl ?_
          refine gf_X5_19 rfl dX5_entry_58 ?_
          refine g_iload_n 1 _ dX5_entry_61 rfl rfl ?_
          refine g_iload_n 2 _ dX5_entry_62 rfl rfl ?_
          refine g_backv (g_runVN (c_write (sI μ 0 5 0) v (show i < 60 by omega)) rfl mw_X3_write mi_X3_write mn_X5_70 isO_2 ⟨rfl, rfl, Nat.le_of_ble_eq_true rfl, Nat.le_of_ble_eq_true rfl⟩ rfl rfl (Nat.le_of_ble_eq_true rfl) dX5_entry_63) ?_
          refine g_iconst (nI 1) dX5_entry_66 rfl ?_
          exact g_ireturn dX5_entry_67 rfl rfl rfl
        · exact absurd h52 (by omega)
      · exact absurd h38 (by omega)
    · exact absurd h19 h3
/-- the sheet as it is read -/
def rdF (f : Nat → Int32) (l : Nat) (i : Nat) : Int32 := if i < l then f i else 0
abbrev fitP (w : Nat) (v : Int32) : Prop := -(limF w) ≤ v ∧ v ≤ limF w
theorem c_layFault_1 (μ : Mm) (a : Int32) (h : a.toInt < 0 ∨ 2 < a.toInt) : Ok mX5_layFault (rmL 1) [.ref 0, .int a] μ (some (.int (nI 1)), μ) := by
  refine Ok.of (by decide) (Nat.le_of_ble_eq_true rfl) [some (.ref 0), some (.int a), none] rfl ?_
  refine g_iload_n 1 _ dX5_layFault_0 rfl rfl ?_
  refine g_backi (g_runSN (c_isRow μ a) rfl mw_X1_isRow ms_X1_isRow mn_X5_93 ⟨rfl, rfl, Nat.le_of_ble_eq_true rfl, Nat.le_of_ble_eq_true rfl⟩ rfl rfl (Nat.le_of_ble_eq_true rfl) dX5_layFault_1) ?_
  refine g_if_neB 9 dX5_layFault_4 (by decide) (fun h4 => ?_) (fun h4 => ?_)
  · exfalso; simp only [ne_eq, fa_lt, fa_le, fa_eq, t0, t1, t2, tm1, nt0, nt1, nt2, nt3, nt4, nt5, nt7, nt9, nt10, nt13, nt14, nt30, nt32, nt59, nt60, nt200, nt1000, nt1000000, nt1073741824] at *; omega
  · refine g_iconst (nI 1) dX5_layFault_7 rfl ?_
    exact g_ireturn dX5_layFault_8 rfl rfl rfl
theorem c_layFault_2 (μ : Mm) {w : Nat} (hw : w < 3) (hk : μ.1 2 1 = -1) : Ok mX5_layFault (rmL 1) [.ref 0, .int (nI w)] μ (some (.int (nI 2)), μ) := by
  refine Ok.of (by decide) (Nat.le_of_ble_eq_true rfl) [some (.ref 0), some (.int (nI w)), none] rfl ?_
  refine g_iload_n 1 _ dX5_layFault_0 rfl rfl ?_
  refine g_backi (g_runSN (c_isRow μ (nI w)) rfl mw_X1_isRow ms_X1_isRow mn_X5_93 ⟨rfl, rfl, Nat.le_of_ble_eq_true rfl, Nat.le_of_ble_eq_true rfl⟩ rfl rfl (Nat.le_of_ble_eq_true rfl) dX5_layFault_1) ?_
  refine g_if_neB 9 dX5_layFault_4 (by decide) (fun h4 => ?_) (fun h4 => ?_)
  · refine g_aload_n 0 _ dX5_layFault_9 rfl rfl ?_
    refine gf_X5_19 rfl dX5_layFault_10 ?_
    refine gf_X5_67 rfl dX5_layFault_13 ?_
    refine g_iconst (-1) dX5_layFault_16 rfl ?_
    refine g_icmp_ne 22 dX5_layFault_17 (by decide) (fun h17 => ?_) (fun h17 => ?_)
    · exact absurd hk h17
    · refine g_iconst (nI 2) dX5_layFault_20 rfl ?_
      exact g_ireturn dX5_layFault_21 rfl rfl rfl
  · exact absurd ⟨nI_pos (by omega), nI_le (by omega) (by omega)⟩ h4
theorem c_layFault_l {μ : Mm} {w n l : Nat} (hn : μ.1 1 2 = nI n) (h60 : n ≤ 60) (hw : w < 3) (hl : μ.1 2 2 = nI l) (hl60 : l ≤ 60) (r : Int32) (hr : r = if (∀ i, i < n → fitP w (rdF (μ.1 11) l i)) then nI 0 else nI 1) : ∀ (m i : Nat), i ≤ n → n < i + m → (∀ j, j < i → fitP w (rdF (μ.1 11) l j)) → G mX5_layFault (rmL 1) (some (.int r), μ) μ 24 [some (.ref 0), some (.int (nI w)), some (.int (nI i))] [] := by
  intro m
  induction m with
  | zero => exact fun i h1 h2 => absurd h2 (by omega)
  | succ m ih =>
    intro i h1 h2 hj
    refine g_iload_n 2 _ dX5_layFault_24 rfl rfl ?_
    refine g_aload_n 0 _ dX5_layFault_25 rfl rfl ?_
    refine gf_X5_10 rfl dX5_layFault_26 ?_
    refine gf_X5_77 rfl dX5_layFault_29 ?_
    refine g_top (w := .int (nI n)) (congrArg Value.int hn) ?_
    refine g_icmp_geN 58 (by omega) (by omega) dX5_layFault_32 (by decide) (fun h32 => ?_) (fun h32 => ?_)
    · refine g_iconst (nI 0) dX5_layFault_58 rfl ?_
      exact g_ireturn dX5_layFault_59 rfl rfl (by rw [hr, if_pos (fun j hj2 => hj j (by omega))])
    · refine g_iload_n 1 _ dX5_layFault_35 rfl rfl ?_
      refine g_aload_n 0 _ dX5_layFault_36 rfl rfl ?_
      refine gf_X5_19 rfl dX5_layFault_37 ?_
      refine g_iload_n 2 _ dX5_layFault_40 rfl rfl ?_
      refine g_backi (g_runVN (c_read μ (i := i) (by omega) hl hl60) rfl mw_X3_read mi_X3_read mn_X5_80 isO_2 ⟨rfl, rfl, Nat.le_of_ble_eq_true rfl, Nat.le_of_ble_eq_true rfl⟩ rfl rfl (Nat.le_of_ble_eq_true rfl) dX5_layFault_41) ?_
      refine g_backi (g_runSN (c_fits μ _ hw) rfl mw_X1_fits ms_X1_fits mn_X5_99 ⟨rfl, rfl, Nat.le_of_ble_eq_true rfl, Nat.le_of_ble_eq_true rfl⟩ rfl rfl (Nat.le_of_ble_eq_true rfl) dX5_layFault_44) ?_
      refine g_if_neB 52 dX5_layFault_47 (by decide) (fun h47 => ?_) (fun h47 => ?_)
      · refine g_iincN [some (.ref 0), some (.int (nI w)), some (.int (nI (i + 1)))] dX5_layFault_52 rfl (Nat.le_of_ble_eq_true rfl) rfl rfl ?_
        refine g_goto 24 dX5_layFault_55 (by decide) ?_
        exact ih (i + 1) (by omega) (by omega) (fun j hj2 => (Nat.lt_succ_iff_lt_or_eq.mp hj2).elim (hj j) (fun e => e ▸ h47))
      · refine g_iconst (nI 1) dX5_layFault_50 rfl ?_
        exact g_ireturn dX5_layFault_51 rfl rfl (by rw [hr, if_neg (fun q => h47 (q i (by omega)))])
theorem c_layFault_3 (μ : Mm) {w n l : Nat} (hn : μ.1 1 2 = nI n) (h60 : n ≤ 60) (hw : w < 3) (hl : μ.1 2 2 = nI l) (hl60 : l ≤ 60) (hk : μ.1 2 1 ≠ -1) : Ok mX5_layFault (rmL 1) [.ref 0, .int (nI w)] μ (some (.int (if (∀ i, i < n → fitP w (rdF (μ.1 11) l i)) then nI 0 else nI 1)), μ) := by
  refine Ok.of (by decide) (Nat.le_of_ble_eq_true rfl) [some (.ref 0), some (.int (nI w)), none] rfl ?_
  refine g_iload_n 1 _ dX5_layFault_0 rfl rfl ?_
  refine g_backi (g_runSN (c_isRow μ (nI w)) rfl mw_X1_isRow ms_X1_isRow mn_X5_93 ⟨rfl, rfl, Nat.le_of_ble_eq_true rfl, Nat.le_of_ble_eq_true rfl⟩ rfl rfl (Nat.le_of_ble_eq_true rfl) dX5_layFault_1) ?_
  refine g_if_neB 9 dX5_layFault_4 (by decide) (fun h4 => ?_) (fun h4 => ?_)
  · refine g_aload_n 0 _ dX5_layFault_9 rfl rfl ?_
    refine gf_X5_19 rfl dX5_layFault_10 ?_
    refine gf_X5_67 rfl dX5_layFault_13 ?_
    refine g_iconst (-1) dX5_layFault_16 rfl ?_
    refine g_icmp_ne 22 dX5_layFault_17 (by decide) (fun h17 => ?_) (fun h17 => ?_)
    · refine g_iconst (nI 0) dX5_layFault_22 rfl ?_
      refine g_istore_n [some (.ref 0), some (.int (nI w)), some (.int (nI 0))] dX5_layFault_23 rfl (Nat.le_of_ble_eq_true rfl) rfl rfl ?_
      exact c_layFault_l hn h60 hw hl hl60 _ rfl (n + 1) 0 (by omega) (by omega) (fun j h => absurd h (by omega))
    · exact absurd h17 hk
  · exact absurd ⟨nI_pos (by omega), nI_le (by omega) (by omega)⟩ h4
theorem c_lay_no (μ : Mm) (a : Int32) {f : Int32} (hf : f ≠ 0) (h : Ok mX5_layFault (rmL 1) [.ref 0, .int a] μ (some (.int f), μ)) : Ok mX5_lay (rmL 2) [.ref 0, .int a] μ (some (.int (nI 0)), sI μ 0 5 f) := by
  refine Ok.of (by decide) (Nat.le_of_ble_eq_true rfl) [some (.ref 0), some (.int a), none] rfl ?_
  refine g_aload_n 0 _ dX5_lay_0 rfl rfl ?_
  refine g_aload_n 0 _ dX5_lay_1 rfl rfl ?_
  refine g_iload_n 1 _ dX5_lay_2 rfl rfl ?_
  refine g_backi (g_runV (h) rfl mw_X5_layFault mi_X5_layFault ml_X5_73 isO_0 ⟨rfl, rfl, Nat.le_of_ble_eq_true rfl, Nat.le_of_ble_eq_true rfl⟩ rfl rfl (Nat.le_of_ble_eq_true rfl) dX5_lay_3) ?_
  refine g_backi (g_runV (c_refuses1 μ hf) rfl mw_X5_refuses mi_X5_refuses ml_X5_48 isO_0 ⟨rfl, rfl, Nat.le_of_ble_eq_true rfl, Nat.le_of_ble_eq_true rfl⟩ rfl rfl (Nat.le_of_ble_eq_true rfl) dX5_lay_6) ?_
  refine g_if_eqN 14 (by omega) dX5_lay_9 (by decide) (fun h9 => ?_) (fun h9 => ?_)
  · exact absurd h9 (by omega)
  · refine g_iconst (nI 0) dX5_lay_12 rfl ?_
    exact g_ireturn dX5_lay_13 rfl rfl rfl
/-- behind lay: drop, forget -/
def layM (μ : Mm) (w : Nat) : Mm := if w = 0 then sI (sI (sI μ 2 1 (-1)) 2 2 0) 3 4 0 else sI (sI μ 2 1 (-1)) 2 2 0
theorem c_lay_z (μ : Mm) {w n : Nat} (hw : w < 3) : G mX5_lay (rmL 2) (some (.int (nI 1)), layM μ w) μ 50 [some (.ref 0), some (.int (nI w)), some (.int (nI n))] [] := by
  by_cases h0 : w = 0
  · subst h0
    refine g_aload_n 0 _ dX5_lay_50 rfl rfl ?_
    refine gf_X5_19 rfl dX5_lay_51 ?_
    refine g_backv (g_runVN (c_drop μ) rfl mw_X3_drop mi_X3_drop mn_X5_87 isO_2 ⟨rfl, rfl, Nat.le_of_ble_eq_true rfl, Nat.le_of_ble_eq_true rfl⟩ rfl rfl (Nat.le_of_ble_eq_true rfl) dX5_lay_54) ?_
    refine g_aload_n 0 _ dX5_lay_57 rfl rfl ?_
    refine g_iload_n 1 _ dX5_lay_58 rfl rfl ?_
    refine g_backv (g_runV (c_forget0 (sI (sI μ 2 1 (-1)) 2 2 0)) rfl mw_X5_forgetBackOf mi_X5_forgetBackOf ml_X5_90 isO_0 ⟨rfl, rfl, Nat.le_of_ble_eq_true rfl, Nat.le_of_ble_eq_true rfl⟩ rfl rfl (Nat.le_of_ble_eq_true rfl) dX5_lay_59) ?_
    refine g_iconst (nI 1) dX5_lay_62 rfl ?_
    refine g_at 63 rfl ?_
    exact g_ireturn dX5_lay_63 rfl rfl rfl
  · refine g_aload_n 0 _ dX5_lay_50 rfl rfl ?_
    refine gf_X5_19 rfl dX5_lay_51 ?_
    refine g_backv (g_runVN (c_drop μ) rfl mw_X3_drop mi_X3_drop mn_X5_87 isO_2 ⟨rfl, rfl, Nat.le_of_ble_eq_true rfl, Nat.le_of_ble_eq_true rfl⟩ rfl rfl (Nat.le_of_ble_eq_true rfl) dX5_lay_54) ?_
    refine g_aload_n 0 _ dX5_lay_57 rfl rfl ?_
    refine g_iload_n 1 _ dX5_lay_58 rfl rfl ?_
    refine g_backv (g_runV (c_forget1 (sI (sI μ 2 1 (-1)) 2 2 0) (w := w) (by omega) hw) rfl mw_X5_forgetBackOf mi_X5_forgetBackOf ml_X5_90 isO_0 ⟨rfl, rfl, Nat.le_of_ble_eq_true rfl, Nat.le_of_ble_eq_true rfl⟩ rfl rfl (Nat.le_of_ble_eq_true rfl) dX5_lay_59) ?_
    refine g_iconst (nI 1) dX5_lay_62 rfl ?_
    refine g_at 63 rfl ?_
    exact g_ireturn dX5_lay_63 rfl rfl (by unfold layM; rw [if_neg h0])
theorem c_lay_l {μ : Mm} {w n l : Nat} (hn : μ.1 1 2 = nI n) (h60 : n ≤ 60) (hw : w < 3) (hl : μ.1 2 2 = nI l) (hl60 : l ≤ 60) : ∀ (m i : Nat), i ≤ n → n < i + m → G mX5_lay (rmL 2) (some (.int (nI 1)), layM (sR μ (7 + w) (fil (μ.1 (7 + w)) (rdF (μ.1 11) l) n)) w) (sR μ (7 + w) (fil (μ.1 (7 + w)) (rdF (μ.1 11) l) i)) 16 [some (.ref 0), some (.int (nI w)), some (.int (nI i))] [] := by
  intro m
  induction m with
  | zero => exact fun i h1 h2 => absurd h2 (by omega)
  | succ m ih =>
    intro i h1 h2
    have e1 : (sR μ (7 + w) (fil (μ.1 (7 + w)) (rdF (μ.1 11) l) i)).1 1 2 = nI n := by rw [sR_1 (by omega)]; exact hn
    have e2 : (sR μ (7 + w) (fil (μ.1 (7 + w)) (rdF (μ.1 11) l) i)).1 2 2 = nI l := by rw [sR_1 (by omega)]; exact hl
    refine g_iload_n 2 _ dX5_lay_16 rfl rfl ?_
    refine g_aload_n 0 _ dX5_lay_17 rfl rfl ?_
    refine gf_X5_10 rfl dX5_lay_18 ?_
    refine gf_X5_77 rfl dX5_lay_21 ?_
    refine g_top (w := .int (nI n)) (congrArg Value.int e1) ?_
    refine g_icmp_geN 50 (by omega) (by omega) dX5_lay_24 (by decide) (fun h24 => ?_) (fun h24 => ?_)
    · rw [show i = n by omega]; exact c_lay_z _ hw
    · refine g_aload_n 0 _ dX5_lay_27 rfl rfl ?_
      refine gf_X5_10 rfl dX5_lay_28 ?_
      refine g_iload_n 1 _ dX5_lay_31 rfl rfl ?_
      refine g_iload_n 2 _ dX5_lay_32 rfl rfl ?_
      refine g_aload_n 0 _ dX5_lay_33 rfl rfl ?_
      refine gf_X5_19 rfl dX5_lay_34 ?_
      refine g_iload_n 2 _ dX5_lay_37 rfl rfl ?_
      refine g_at 38 rfl ?_
      refine g_backi (g_runVN ((c_read _ (i := i) (by omega) e2 hl60).to (by rw [sR_1 (by omega)])) rfl mw_X3_read mi_X3_read mn_X5_80 isO_2 ⟨rfl, rfl, Nat.le_of_ble_eq_true rfl, Nat.le_of_ble_eq_true rfl⟩ rfl rfl (Nat.le_of_ble_eq_true rfl) dX5_lay_38) ?_
      refine g_backv (g_runVN (c_put _ (rdF (μ.1 11) l i) hw (show i < 60 by omega)) rfl mw_X1_put mi_X1_put mn_X5_83 isO_1 ⟨rfl, rfl, Nat.le_of_ble_eq_true rfl, Nat.le_of_ble_eq_true rfl⟩ rfl rfl (Nat.le_of_ble_eq_true rfl) dX5_lay_41) ?_
      refine g_mem (sR_fil μ (7 + w) i _ (rdF (μ.1 11) l) rfl) ?_
      refine g_iincN [some (.ref 0), some (.int (nI w)), some (.int (nI (i + 1)))] dX5_lay_44 rfl (Nat.le_of_ble_eq_true rfl) rfl rfl ?_
      refine g_goto 16 dX5_lay_47 (by decide) ?_
      exact ih (i + 1) (by omega) (by omega)
theorem c_lay_ok (μ : Mm) {w n l : Nat} (hn : μ.1 1 2 = nI n) (h60 : n ≤ 60) (hw : w < 3) (hl : μ.1 2 2 = nI l) (hl60 : l ≤ 60) (hk : μ.1 2 1 ≠ -1) (hf : ∀ i, i < n → fitP w (rdF (μ.1 11) l i)) : Ok mX5_lay (rmL 2) [.ref 0, .int (nI w)] μ (some (.int (nI 1)), layM (sR (sI μ 0 5 0) (7 + w) (fil (μ.1 (7 + w)) (rdF (μ.1 11) l) n)) w) := by
  have e7 : (sI μ 0 5 0).1 (7 + w) = μ.1 (7 + w) := sI_1 (by omega)
  refine Ok.of (by decide) (Nat.le_of_ble_eq_true rfl) [some (.ref 0), some (.int (nI w)), none] rfl ?_
  refine g_aload_n 0 _ dX5_lay_0 rfl rfl ?_
  refine g_aload_n 0 _ dX5_lay_1 rfl rfl ?_
  refine g_iload_n 1 _ dX5_lay_2 rfl rfl ?_
  refine g_backi (g_runV ((c_layFault_3 μ hn h60 hw hl hl60 hk).to (by rw [if_pos hf])) rfl mw_X5_layFault mi_X5_layFault ml_X5_73 isO_0 ⟨rfl, rfl, Nat.le_of_ble_eq_true rfl, Nat.le_of_ble_eq_true rfl⟩ rfl rfl (Nat.le_of_ble_eq_true rfl) dX5_lay_3) ?_
  refine g_backi (g_runV (c_refuses0 μ) rfl mw_X5_refuses mi_X5_refuses ml_X5_48 isO_0 ⟨rfl, rfl, Nat.le_of_ble_eq_true rfl, Nat.le_of_ble_eq_true rfl⟩ rfl rfl (Nat.le_of_ble_eq_true rfl) dX5_lay_6) ?_
  refine g_if_eqN 14 (by omega) dX5_lay_9 (by decide) (fun h9 => ?_) (fun h9 => ?_)
  · refine g_iconst (nI 0) dX5_lay_14 rfl ?_
    refine g_istore_n [some (.ref 0), some (.int (nI w)), some (.int (nI 0))] dX5_lay_15 rfl (Nat.le_of_ble_eq_true rfl) rfl rfl ?_
    have h := c_lay_l (μ := sI μ 0 5 0) hn h60 hw hl hl60 (n + 1) 0 (by omega) (by omega); rw [fil_0, sR_id, e7] at h; exact h
  · exact absurd h9 (by omega)
theorem nat_of {a : Int32} {N : Nat} (h0 : 0 ≤ a.toInt) (h1 : a.toInt ≤ N) (hN : N < 2 ^ 31) : ∃ w : Nat, w ≤ N ∧ a = nI w := ⟨a.toInt.toNat, by omega, i32_ext (by rw [nI_toInt (by omega)]; omega)⟩
theorem c_set_no (μ : Mm) (a b v : Int32) {n : Nat} (hn : μ.1 1 2 = nI n) (h : ¬ (0 ≤ a.toInt ∧ a.toInt ≤ 2 ∧ 0 ≤ b.toInt ∧ b.toInt < (nI n).toInt ∧ fitP a.toNatClampNeg v)) : Ok mX5_set (rmL 1) [.ref 0, .int a, .int b, .int v] μ (some (.int (nI 0)), sI μ 0 5 (nI 1)) := by
  by_cases ha : 0 ≤ a.toInt ∧ a.toInt ≤ 2
  · obtain ⟨w, hw, rfl⟩ := nat_of (N := 2) ha.1 ha.2 (by decide)
    rw [nI_clamp (by omega)] at h
    refine Ok.of (by decide) (Nat.le_of_ble_eq_true rfl) [some (.ref 0), some (.int (nI w)), some (.int b), some (.int v), none] rfl ?_
    refine g_iload_n 1 _ dX5_set_0 rfl rfl ?_
    refine g_backi (g_runSN (c_isRow μ (nI w)) rfl mw_X1_isRow ms_X1_isRow mn_X5_93 ⟨rfl, rfl, Nat.le_of_ble_eq_true rfl, Nat.le_of_ble_eq_true rfl⟩ rfl rfl (Nat.le_of_ble_eq_true rfl) dX5_set_1) ?_
    refine g_if_eqB 30 dX5_set_4 (by decide) (fun h4 => ?_) (fun h4 => ?_)
    · refine g_iconst (nI 0) dX5_set_30 rfl ?_
      refine g_istore [some (.ref 0), some (.int (nI w)), some (.int b), some (.int v), some (.int (nI 0))] dX5_set_31 (Nat.le_of_ble_eq_true rfl) rfl rfl ?_
      refine g_aload_n 0 _ dX5_set_33 rfl rfl ?_
      refine g_iload _ dX5_set_34 rfl ?_
      refine g_if_eqN 43 (by omega) dX5_set_36 (by decide) (fun h36 => ?_) (fun h36 => ?_)
      · refine g_iconst (nI 1) dX5_set_43 rfl ?_
        refine g_backi (g_runV (c_refuses1 μ (f := nI 1) (by decide)) rfl mw_X5_refuses mi_X5_refuses ml_X5_48 isO_0 ⟨rfl, rfl, Nat.le_of_ble_eq_true rfl, Nat.le_of_ble_eq_true rfl⟩ rfl rfl (Nat.le_of_ble_eq_true rfl) dX5_set_44) ?_
        refine g_if_eqN 52 (by omega) dX5_set_47 (by decide) (fun h47 => ?_) (fun h47 => ?_)
        · exact absurd h47 (by omega)
        · refine g_iconst (nI 0) dX5_set_50 rfl ?_
          exact g_ireturn dX5_set_51 rfl rfl rfl
      · exact absurd h36 (by omega)
    · refine g_aload_n 0 _ dX5_set_7 rfl rfl ?_
      refine gf_X5_10 rfl dX5_set_8 ?_
      refine g_iload_n 2 _ dX5_set_11 rfl rfl ?_
      refine g_backi (g_runVN (c_has μ b hn) rfl mw_X1_has mi_X1_has mn_X5_96 isO_1 ⟨rfl, rfl, Nat.le_of_ble_eq_true rfl, Nat.le_of_ble_eq_true rfl⟩ rfl rfl (Nat.le_of_ble_eq_true rfl) dX5_set_12) ?_
      refine g_if_eqB 30 dX5_set_15 (by decide) (fun h15 => ?_) (fun h15 => ?_)
      · refine g_iconst (nI 0) dX5_set_30 rfl ?_
        refine g_istore [some (.ref 0), some (.int (nI w)), some (.int b), some (.int v), some (.int (nI 0))] dX5_set_31 (Nat.le_of_ble_eq_true rfl) rfl rfl ?_
        refine g_aload_n 0 _ dX5_set_33 rfl rfl ?_
        refine g_iload _ dX5_set_34 rfl ?_
        refine g_if_eqN 43 (by omega) dX5_set_36 (by decide) (fun h36 => ?_) (fun h36 => ?_)
        · refine g_iconst (nI 1) dX5_set_43 rfl ?_
          refine g_backi (g_runV (c_refuses1 μ (f := nI 1) (by decide)) rfl mw_X5_refuses mi_X5_refuses ml_X5_48 isO_0 ⟨rfl, rfl, Nat.le_of_ble_eq_true rfl, Nat.le_of_ble_eq_true rfl⟩ rfl rfl (Nat.le_of_ble_eq_true rfl) dX5_set_44) ?_
          refine g_if_eqN 52 (by omega) dX5_set_47 (by decide) (fun h47 => ?_) (fun h47 => ?_)
          · exact absurd h47 (by omega)
          · refine g_iconst (nI 0) dX5_set_50 rfl ?_
            exact g_ireturn dX5_set_51 rfl rfl rfl
        · exact absurd h36 (by omega)
      · refine g_iload_n 1 _ dX5_set_18 rfl rfl ?_
        refine g_iload_n 3 _ dX5_set_19 rfl rfl ?_
        refine g_backi (g_runSN (c_fits μ v (show w < 3 by omega)) rfl mw_X1_fits ms_X1_fits mn_X5_99 ⟨rfl, rfl, Nat.le_of_ble_eq_true rfl, Nat.le_of_ble_eq_true rfl⟩ rfl rfl (Nat.le_of_ble_eq_true rfl) dX5_set_20) ?_
        refine g_if_eqB 30 dX5_set_23 (by decide) (fun h23 => ?_) (fun h23 => ?_)
        · refine g_iconst (nI 0) dX5_set_30 rfl ?_
          refine g_istore [some (.ref 0), some (.int (nI w)), some (.int b), some (.int v), some (.int (nI 0))] dX5_set_31 (Nat.le_of_ble_eq_true rfl) rfl rfl ?_
          refine g_aload_n 0 _ dX5_set_33 rfl rfl ?_
          refine g_iload _ dX5_set_34 rfl ?_
          refine g_if_eqN 43 (by omega) dX5_set_36 (by decide) (fun h36 => ?_) (fun h36 => ?_)
          · refine g_iconst (nI 1) dX5_set_43 rfl ?_
            refine g_backi (g_runV (c_refuses1 μ (f := nI 1) (by decide)) rfl mw_X5_refuses mi_X5_refuses ml_X5_48 isO_0 ⟨rfl, rfl, Nat.le_of_ble_eq_true rfl, Nat.le_of_ble_eq_true rfl⟩ rfl rfl (Nat.le_of_ble_eq_true rfl) dX5_set_44) ?_
            refine g_if_eqN 52 (by omega) dX5_set_47 (by decide) (fun h47 => ?_) (fun h47 => ?_)
            · exact absurd h47 (by omega)
            · refine g_iconst (nI 0) dX5_set_50 rfl ?_
              exact g_ireturn dX5_set_51 rfl rfl rfl
          · exact absurd h36 (by omega)
        · exact absurd ⟨ha.1, ha.2, by have := h15.1; rw [fa_lt, t0] at this; omega, by have := h15.2; rw [fa_lt] at this; exact this, h23⟩ h
  · refine Ok.of (by decide) (Nat.le_of_ble_eq_true rfl) [some (.ref 0), some (.int a), some (.int b), some (.int v), none] rfl ?_
    refine g_iload_n 1 _ dX5_set_0 rfl rfl ?_
    refine g_backi (g_runSN (c_isRow μ a) rfl mw_X1_isRow ms_X1_isRow mn_X5_93 ⟨rfl, rfl, Nat.le_of_ble_eq_true rfl, Nat.le_of_ble_eq_true rfl⟩ rfl rfl (Nat.le_of_ble_eq_true rfl) dX5_set_1) ?_
    refine g_if_eqB 30 dX5_set_4 (by decide) (fun h4 => ?_) (fun h4 => ?_)
    · refine g_iconst (nI 0) dX5_set_30 rfl ?_
      refine g_istore [some (.ref 0), some (.int a), some (.int b), some (.int v), some (.int (nI 0))] dX5_set_31 (Nat.le_of_ble_eq_true rfl) rfl rfl ?_
      refine g_aload_n 0 _ dX5_set_33 rfl rfl ?_
      refine g_iload _ dX5_set_34 rfl ?_
      refine g_if_eqN 43 (by omega) dX5_set_36 (by decide) (fun h36 => ?_) (fun h36 => ?_)
      · refine g_iconst (nI 1) dX5_set_43 rfl ?_
        refine g_backi (g_runV (c_refuses1 μ (f := nI 1) (by decide)) rfl mw_X5_refuses mi_X5_refuses ml_X5_48 isO_0 ⟨rfl, rfl, Nat.le_of_ble_eq_true rfl, Nat.le_of_ble_eq_true rfl⟩ rfl rfl (Nat.le_of_ble_eq_true rfl) dX5_set_44) ?_
        refine g_if_eqN 52 (by omega) dX5_set_47 (by decide) (fun h47 => ?_) (fun h47 => ?_)
        · exact absurd h47 (by omega)
        · refine g_iconst (nI 0) dX5_set_50 rfl ?_
          exact g_ireturn dX5_set_51 rfl rfl rfl
      · exact absurd h36 (by omega)
    · exfalso; simp only [ne_eq, fa_lt, fa_le, fa_eq, t0, t1, t2, tm1, nt0, nt1, nt2, nt3, nt4, nt5, nt7, nt9, nt10, nt13, nt14, nt30, nt32, nt59, nt60, nt200, nt1000, nt1000000, nt1073741824] at *; omega
def setM (μ : Mm) (w j : Nat) (v : Int32) : Mm := if w = 0 then sI (sI (sI μ 0 5 0) 7 j v) 3 4 0 else sI (sI μ 0 5 0) (7 + w) j v
theorem c_set_z (μ : Mm) {w j : Nat} {v : Int32} (hw : w < 3) : G mX5_set (rmL 1) (some (.int (nI 1)), setM μ w j v) (sI (sI μ 0 5 0) (7 + w) j v) 62 [some (.ref 0), some (.int (nI w)), some (.int (nI j)), some (.int v), some (.int (nI 1))] [] := by
  by_cases h0 : w = 0
  · subst h0
    refine g_aload_n 0 _ dX5_set_62 rfl rfl ?_
    refine g_iload_n 1 _ dX5_set_63 rfl rfl ?_
    refine g_backv (g_runV (c_forget0 (sI (sI μ 0 5 0) (7 + 0) j v)) rfl mw_X5_forgetBackOf mi_X5_forgetBackOf ml_X5_90 isO_0 ⟨rfl, rfl, Nat.le_of_ble_eq_true rfl, Nat.le_of_ble_eq_true rfl⟩ rfl rfl (Nat.le_of_ble_eq_true rfl) dX5_set_64) ?_
    refine g_iconst (nI 1) dX5_set_67 rfl ?_
    exact g_ireturn dX5_set_68 rfl rfl rfl
  · refine g_aload_n 0 _ dX5_set_62 rfl rfl ?_
    refine g_iload_n 1 _ dX5_set_63 rfl rfl ?_
    refine g_backv (g_runV (c_forget1 (sI (sI μ 0 5 0) (7 + w) j v) (w := w) (by omega) hw) rfl mw_X5_forgetBackOf mi_X5_forgetBackOf ml_X5_90 isO_0 ⟨rfl, rfl, Nat.le_of_ble_eq_true rfl, Nat.le_of_ble_eq_true rfl⟩ rfl rfl (Nat.le_of_ble_eq_true rfl) dX5_set_64) ?_
    refine g_iconst (nI 1) dX5_set_67 rfl ?_
    exact g_ireturn dX5_set_68 rfl rfl (by unfold setM; rw [if_neg h0])
theorem c_set_ok (μ : Mm) {w j n : Nat} (v : Int32) (hn : μ.1 1 2 = nI n) (h60 : n ≤ 60) (hw : w < 3) (hj : j < n) (hf : fitP w v) : Ok mX5_set (rmL 1) [.ref 0, .int (nI w), .int (nI j), .int v] μ (some (.int (nI 1)), setM μ w j v) := by
  refine Ok.of (by decide) (Nat.le_of_ble_eq_true rfl) [some (.ref 0), some (.int (nI w)), some (.int (nI j)), some (.int v), none] rfl ?_
  refine g_iload_n 1 _ dX5_set_0 rfl rfl ?_
  refine g_backi (g_runSN ((c_isRow μ (nI w)).to (by rw [bI_t ⟨nI_pos (by omega), nI_le (by omega) (by omega)⟩])) rfl mw_X1_isRow ms_X1_isRow mn_X5_93 ⟨rfl, rfl, Nat.le_of_ble_eq_true rfl, Nat.le_of_ble_eq_true rfl⟩ rfl rfl (Nat.le_of_ble_eq_true rfl) dX5_set_1) ?_
  refine g_if_eq 30 dX5_set_4 (by decide) (fun h4 => ?_) (fun h4 => ?_)
  · exact absurd h4 (by decide)
  · refine g_aload_n 0 _ dX5_set_7 rfl rfl ?_
    refine gf_X5_10 rfl dX5_set_8 ?_
    refine g_iload_n 2 _ dX5_set_11 rfl rfl ?_
    refine g_backi (g_runVN ((c_has μ (nI j) hn).to (by rw [bI_t ⟨nI_pos (by omega), nI_lt hj (by omega)⟩])) rfl mw_X1_has mi_X1_has mn_X5_96 isO_1 ⟨rfl, rfl, Nat.le_of_ble_eq_true rfl, Nat.le_of_ble_eq_true rfl⟩ rfl rfl (Nat.le_of_ble_eq_true rfl) dX5_set_12) ?_
    refine g_if_eq 30 dX5_set_15 (by decide) (fun h15 => ?_) (fun h15 => ?_)
    · exact absurd h15 (by decide)
    · refine g_iload_n 1 _ dX5_set_18 rfl rfl ?_
      refine g_iload_n 3 _ dX5_set_19 rfl rfl ?_
      refine g_backi (g_runSN ((c_fits μ v hw).to (by rw [bI_t hf])) rfl mw_X1_fits ms_X1_fits mn_X5_99 ⟨rfl, rfl, Nat.le_of_ble_eq_true rfl, Nat.le_of_ble_eq_true rfl⟩ rfl rfl (Nat.le_of_ble_eq_true rfl) dX5_set_20) ?_
      refine g_if_eq 30 dX5_set_23 (by decide) (fun h23 => ?_) (fun h23 => ?_)
      · exact absurd h23 (by decide)
      · refine g_iconst (nI 1) dX5_set_26 rfl ?_
        refine g_goto 31 dX5_set_27 (by decide) ?_
        refine g_istore [some (.ref 0), some (.int (nI w)), some (.int (nI j)), some (.int v), some (.int (nI 1))] dX5_set_31 (Nat.le_of_ble_eq_true rfl) rfl rfl ?_
        refine g_aload_n 0 _ dX5_set_33 rfl rfl ?_
        refine g_iload _ dX5_set_34 rfl ?_
        refine g_if_eqN 43 (by omega) dX5_set_36 (by decide) (fun h36 => ?_) (fun h36 => ?_)
        · exact absurd h36 (by omega)
        · refine g_iconst (nI 0) dX5_set_39 rfl ?_
          refine g_goto 44 dX5_set_40 (by decide) ?_
          refine g_backi (g_runV (c_refuses0 μ) rfl mw_X5_refuses mi_X5_refuses ml_X5_48 isO_0 ⟨rfl, rfl, Nat.le_of_ble_eq_true rfl, Nat.le_of_ble_eq_true rfl⟩ rfl rfl (Nat.le_of_ble_eq_true rfl) dX5_set_44) ?_
          refine g_if_eqN 52 (by omega) dX5_set_47 (by decide) (fun h47 => ?_) (fun h47 => ?_)
          · refine g_aload_n 0 _ dX5_set_52 rfl rfl ?_
            refine gf_X5_10 rfl dX5_set_53 ?_
            refine g_iload_n 1 _ dX5_set_56 rfl rfl ?_
            refine g_iload_n 2 _ dX5_set_57 rfl rfl ?_
            refine g_iload_n 3 _ dX5_set_58 rfl rfl ?_
            refine g_backv (g_runVN (c_put _ v hw (show j < 60 by omega)) rfl mw_X1_put mi_X1_put mn_X5_83 isO_1 ⟨rfl, rfl, Nat.le_of_ble_eq_true rfl, Nat.le_of_ble_eq_true rfl⟩ rfl rfl (Nat.le_of_ble_eq_true rfl) dX5_set_59) ?_
            exact c_set_z _ hw
          · exact absurd h47 (by omega)
theorem c_miss_no (μ : Mm) (a : Int32) {n : Nat} (hn : μ.1 1 2 = nI n) (h : ¬ (0 ≤ a.toInt ∧ a.toInt < (nI n).toInt)) : Ok mX5_miss (rmL 1) [.ref 0, .int a] μ (some (.int (nI 0)), sI μ 0 5 (nI 1)) := by
  refine Ok.of (by decide) (Nat.le_of_ble_eq_true rfl) [some (.ref 0), some (.int a)] rfl ?_
  refine g_aload_n 0 _ dX5_miss_0 rfl rfl ?_
  refine g_aload_n 0 _ dX5_miss_1 rfl rfl ?_
  refine gf_X5_10 rfl dX5_miss_2 ?_
  refine g_iload_n 1 _ dX5_miss_5 rfl rfl ?_
  refine g_backi (g_runVN (c_has μ a hn) rfl mw_X1_has mi_X1_has mn_X5_96 isO_1 ⟨rfl, rfl, Nat.le_of_ble_eq_true rfl, Nat.le_of_ble_eq_true rfl⟩ rfl rfl (Nat.le_of_ble_eq_true rfl) dX5_miss_6) ?_
  refine g_if_eqB 16 dX5_miss_9 (by decide) (fun h9 => ?_) (fun h9 => ?_)
  · refine g_iconst (nI 1) dX5_miss_16 rfl ?_
    refine g_backi (g_runV (c_refuses1 μ (f := nI 1) (by decide)) rfl mw_X5_refuses mi_X5_refuses ml_X5_48 isO_0 ⟨rfl, rfl, Nat.le_of_ble_eq_true rfl, Nat.le_of_ble_eq_true rfl⟩ rfl rfl (Nat.le_of_ble_eq_true rfl) dX5_miss_17) ?_
    refine g_if_eqN 25 (by omega) dX5_miss_20 (by decide) (fun h20 => ?_) (fun h20 => ?_)
    · exact absurd h20 (by omega)
    · refine g_iconst (nI 0) dX5_miss_23 rfl ?_
      exact g_ireturn dX5_miss_24 rfl rfl rfl
  · exfalso; simp only [ne_eq, fa_lt, fa_le, fa_eq, t0, t1, t2, tm1, nt0, nt1, nt2, nt3, nt4, nt5, nt7, nt9, nt10, nt13, nt14, nt30, nt32, nt59, nt60, nt200, nt1000, nt1000000, nt1073741824] at *; omega
theorem c_miss_ok (μ : Mm) {j n : Nat} (hn : μ.1 1 2 = nI n) (h60 : n ≤ 60) (hj : j < n) : Ok mX5_miss (rmL 1) [.ref 0, .int (nI j)] μ (some (.int (nI 1)), sI (sI μ 0 5 0) 9 j (nI 1073741824)) := by
  refine Ok.of (by decide) (Nat.le_of_ble_eq_true rfl) [some (.ref 0), some (.int (nI j))] rfl ?_
  refine g_aload_n 0 _ dX5_miss_0 rfl rfl ?_
  refine g_aload_n 0 _ dX5_miss_1 rfl rfl ?_
  refine gf_X5_10 rfl dX5_miss_2 ?_
  refine g_iload_n 1 _ dX5_miss_5 rfl rfl ?_
  refine g_backi (g_runVN ((c_has μ (nI j) hn).to (by rw [bI_t ⟨nI_pos (by omega), nI_lt hj (by omega)⟩])) rfl mw_X1_has mi_X1_has mn_X5_96 isO_1 ⟨rfl, rfl, Nat.le_of_ble_eq_true rfl, Nat.le_of_ble_eq_true rfl⟩ rfl rfl (Nat.le_of_ble_eq_true rfl) dX5_miss_6) ?_
  refine g_if_eq 16 dX5_miss_9 (by decide) (fun h9 => ?_) (fun h9 => ?_)
  · exact absurd h9 (by decide)
  · refine g_iconst (nI 0) dX5_miss_12 rfl ?_
    refine g_goto 17 dX5_miss_13 (by decide) ?_
    refine g_backi (g_runV (c_refuses0 μ) rfl mw_X5_refuses mi_X5_refuses ml_X5_48 isO_0 ⟨rfl, rfl, Nat.le_of_ble_eq_true rfl, Nat.le_of_ble_eq_true rfl⟩ rfl rfl (Nat.le_of_ble_eq_true rfl) dX5_miss_17) ?_
    refine g_if_eqN 25 (by omega) dX5_miss_20 (by decide) (fun h20 => ?_) (fun h20 => ?_)
    · refine g_aload_n 0 _ dX5_miss_25 rfl rfl ?_
      refine gf_X5_10 rfl dX5_miss_26 ?_
      refine g_iconst (nI 2) dX5_miss_29 rfl ?_
      refine g_iload_n 1 _ dX5_miss_30 rfl rfl ?_
      refine g_ldc _ rfl kc_X5_103 dX5_miss_31 ?_
      refine g_top (w := .int (nI 1073741824)) rfl ?_
      refine g_backv (g_runVN (c_put (w := 2) _ (nI 1073741824) (by decide) (show j < 60 by omega)) rfl mw_X1_put mi_X1_put mn_X5_83 isO_1 ⟨rfl, rfl, Nat.le_of_ble_eq_true rfl, Nat.le_of_ble_eq_true rfl⟩ rfl rfl (Nat.le_of_ble_eq_true rfl) dX5_miss_33) ?_
      refine g_iconst (nI 1) dX5_miss_36 rfl ?_
      refine g_at 37 rfl ?_
      exact g_ireturn dX5_miss_37 rfl rfl rfl
    · exact absurd h20 (by omega)
theorem c_shadow_no (μ : Mm) (a : Int32) {n : Nat} (hn : μ.1 1 2 = nI n) (h : ¬ (0 ≤ a.toInt ∧ a.toInt < (nI n).toInt)) : Ok mX5_shadow (rmL 3) [.ref 0, .int a] μ (some (.int (nI 0)), sI μ 0 5 (nI 1)) := by
  refine Ok.of (by decide) (Nat.le_of_ble_eq_true rfl) [some (.ref 0), some (.int a)] rfl ?_
  refine g_aload_n 0 _ dX5_shadow_0 rfl rfl ?_
  refine g_aload_n 0 _ dX5_shadow_1 rfl rfl ?_
  refine gf_X5_10 rfl dX5_shadow_2 ?_
  refine g_iload_n 1 _ dX5_shadow_5 rfl rfl ?_
  refine g_backi (g_runVN (c_has μ a hn) rfl mw_X1_has mi_X1_has mn_X5_96 isO_1 ⟨rfl, rfl, Nat.le_of_ble_eq_true rfl, Nat.le_of_ble_eq_true rfl⟩ rfl rfl (Nat.le_of_ble_eq_true rfl) dX5_shadow_6) ?_
  refine g_if_eqB 16 dX5_shadow_9 (by decide) (fun h9 => ?_) (fun h9 => ?_)
  · refine g_iconst (nI 1) dX5_shadow_16 rfl ?_
    refine g_backi (g_runV (c_refuses1 μ (f := nI 1) (by decide)) rfl mw_X5_refuses mi_X5_refuses ml_X5_48 isO_0 ⟨rfl, rfl, Nat.le_of_ble_eq_true rfl, Nat.le_of_ble_eq_true rfl⟩ rfl rfl (Nat.le_of_ble_eq_true rfl) dX5_shadow_17) ?_
    refine g_if_eqN 25 (by omega) dX5_shadow_20 (by decide) (fun h20 => ?_) (fun h20 => ?_)
    · exact absurd h20 (by omega)
    · refine g_iconst (nI 0) dX5_shadow_23 rfl ?_
      exact g_ireturn dX5_shadow_24 rfl rfl rfl
  · exfalso; simp only [ne_eq, fa_lt, fa_le, fa_eq, t0, t1, t2, tm1, nt0, nt1, nt2, nt3, nt4, nt5, nt7, nt9, nt10, nt13, nt14, nt30, nt32, nt59, nt60, nt200, nt1000, nt1000000, nt1073741824] at *; omega
theorem c_shadow_ok (μ : Mm) {j n : Nat} (hn : μ.1 1 2 = nI n) (h60 : n ≤ 60) (hj : j < n) : Ok mX5_shadow (rmL 3) [.ref 0, .int (nI j)] μ (some (.int (thr (μ.1 7) (μ.1 8) n j n)), sI μ 0 5 0) := by
  refine Ok.of (by decide) (Nat.le_of_ble_eq_true rfl) [some (.ref 0), some (.int (nI j))] rfl ?_
  refine g_aload_n 0 _ dX5_shadow_0 rfl rfl ?_
  refine g_aload_n 0 _ dX5_shadow_1 rfl rfl ?_
  refine gf_X5_10 rfl dX5_shadow_2 ?_
  refine g_iload_n 1 _ dX5_shadow_5 rfl rfl ?_
  refine g_backi (g_runVN ((c_has μ (nI j) hn).to (by rw [bI_t ⟨nI_pos (by omega), nI_lt hj (by omega)⟩])) rfl mw_X1_has mi_X1_has mn_X5_96 isO_1 ⟨rfl, rfl, Nat.le_of_ble_eq_true rfl, Nat.le_of_ble_eq_true rfl⟩ rfl rfl (Nat.le_of_ble_eq_true rfl) dX5_shadow_6) ?_
  refine g_if_eq 16 dX5_shadow_9 (by decide) (fun h9 => ?_) (fun h9 => ?_)
  · exact absurd h9 (by decide)
  · refine g_iconst (nI 0) dX5_shadow_12 rfl ?_
    refine g_goto 17 dX5_shadow_13 (by decide) ?_
    refine g_backi (g_runV (c_refuses0 μ) rfl mw_X5_refuses mi_X5_refuses ml_X5_48 isO_0 ⟨rfl, rfl, Nat.le_of_ble_eq_true rfl, Nat.le_of_ble_eq_true rfl⟩ rfl rfl (Nat.le_of_ble_eq_true rfl) dX5_shadow_17) ?_
    refine g_if_eqN 25 (by omega) dX5_shadow_20 (by decide) (fun h20 => ?_) (fun h20 => ?_)
    · refine g_aload_n 0 _ dX5_shadow_25 rfl rfl ?_
      refine gf_X5_10 rfl dX5_shadow_26 ?_
      refine g_iload_n 1 _ dX5_shadow_29 rfl rfl ?_
      refine g_backi (g_runVN (c_shadowAt (sI μ 0 5 0) (n := n) hn h60 hj) rfl mw_X1_shadowAt mi_X1_shadowAt mn_X5_129 isO_1 ⟨rfl, rfl, Nat.le_of_ble_eq_true rfl, Nat.le_of_ble_eq_true rfl⟩ rfl rfl (Nat.le_of_ble_eq_true rfl) dX5_shadow_30) ?_
      exact g_ireturn dX5_shadow_33 rfl rfl rfl
    · exact absurd h20 (by omega)
theorem c_meets_no (μ : Mm) (a : Int32) {n : Nat} (hn : μ.1 1 2 = nI n) (h : ¬ (0 ≤ a.toInt ∧ a.toInt < (nI n).toInt)) : Ok mX5_meets (rmL 3) [.ref 0, .int a] μ (some (.int (nI 0)), sI μ 0 5 (nI 1)) := by
  refine Ok.of (by decide) (Nat.le_of_ble_eq_true rfl) [some (.ref 0), some (.int a)] rfl ?_
  refine g_aload_n 0 _ dX5_meets_0 rfl rfl ?_
  refine g_aload_n 0 _ dX5_meets_1 rfl rfl ?_
  refine gf_X5_10 rfl dX5_meets_2 ?_
  refine g_iload_n 1 _ dX5_meets_5 rfl rfl ?_
  refine g_backi (g_runVN (c_has μ a hn) rfl mw_X1_has mi_X1_has mn_X5_96 isO_1 ⟨rfl, rfl, Nat.le_of_ble_eq_true rfl, Nat.le_of_ble_eq_true rfl⟩ rfl rfl (Nat.le_of_ble_eq_true rfl) dX5_meets_6) ?_
  refine g_if_eqB 16 dX5_meets_9 (by decide) (fun h9 => ?_) (fun h9 => ?_)
  · refine g_iconst (nI 1) dX5_meets_16 rfl ?_
    refine g_backi (g_runV (c_refuses1 μ (f := nI 1) (by decide)) rfl mw_X5_refuses mi_X5_refuses ml_X5_48 isO_0 ⟨rfl, rfl, Nat.le_of_ble_eq_true rfl, Nat.le_of_ble_eq_true rfl⟩ rfl rfl (Nat.le_of_ble_eq_true rfl) dX5_meets_17) ?_
    refine g_if_eqN 25 (by omega) dX5_meets_20 (by decide) (fun h20 => ?_) (fun h20 => ?_)
    · exact absurd h20 (by omega)
    · refine g_iconst (nI 0) dX5_meets_23 rfl ?_
      exact g_ireturn dX5_meets_24 rfl rfl rfl
  · exfalso; simp only [ne_eq, fa_lt, fa_le, fa_eq, t0, t1, t2, tm1, nt0, nt1, nt2, nt3, nt4, nt5, nt7, nt9, nt10, nt13, nt14, nt30, nt32, nt59, nt60, nt200, nt1000, nt1000000, nt1073741824] at *; omega
theorem c_meets_ok (μ : Mm) {j n : Nat} (hn : μ.1 1 2 = nI n) (h60 : n ≤ 60) (hj : j < n) : Ok mX5_meets (rmL 3) [.ref 0, .int (nI j)] μ (some (.int (thr (μ.1 7) (μ.1 7) n j n)), sI μ 0 5 0) := by
  refine Ok.of (by decide) (Nat.le_of_ble_eq_true rfl) [some (.ref 0), some (.int (nI j))] rfl ?_
  refine g_aload_n 0 _ dX5_meets_0 rfl rfl ?_
  refine g_aload_n 0 _ dX5_meets_1 rfl rfl ?_
  refine gf_X5_10 rfl dX5_meets_2 ?_
  refine g_iload_n 1 _ dX5_meets_5 rfl rfl ?_
  refine g_backi (g_runVN ((c_has μ (nI j) hn).to (by rw [bI_t ⟨nI_pos (by omega), nI_lt hj (by omega)⟩])) rfl mw_X1_has mi_X1_has mn_X5_96 isO_1 ⟨rfl, rfl, Nat.le_of_ble_eq_true rfl, Nat.le_of_ble_eq_true rfl⟩ rfl rfl (Nat.le_of_ble_eq_true rfl) dX5_meets_6) ?_
  refine g_if_eq 16 dX5_meets_9 (by decide) (fun h9 => ?_) (fun h9 => ?_)
  · exact absurd h9 (by decide)
  · refine g_iconst (nI 0) dX5_meets_12 rfl ?_
    refine g_goto 17 dX5_meets_13 (by decide) ?_
    refine g_backi (g_runV (c_refuses0 μ) rfl mw_X5_refuses mi_X5_refuses ml_X5_48 isO_0 ⟨rfl, rfl, Nat.le_of_ble_eq_true rfl, Nat.le_of_ble_eq_true rfl⟩ rfl rfl (Nat.le_of_ble_eq_true rfl) dX5_meets_17) ?_
    refine g_if_eqN 25 (by omega) dX5_meets_20 (by decide) (fun h20 => ?_) (fun h20 => ?_)
    · refine g_aload_n 0 _ dX5_meets_25 rfl rfl ?_
      refine gf_X5_10 rfl dX5_meets_26 ?_
      refine g_iload_n 1 _ dX5_meets_29 rfl rfl ?_
      refine g_backi (g_runVN (c_meetsAt (sI μ 0 5 0) (n := n) hn h60 hj) rfl mw_X1_meetsAt mi_X1_meetsAt mn_X5_132 isO_1 ⟨rfl, rfl, Nat.le_of_ble_eq_true rfl, Nat.le_of_ble_eq_true rfl⟩ rfl rfl (Nat.le_of_ble_eq_true rfl) dX5_meets_30) ?_
      exact g_ireturn dX5_meets_33 rfl rfl rfl
    · exact absurd h20 (by omega)
theorem c_off (μ : Mm) {n : Nat} (hn : μ.1 1 2 = nI n) (h60 : n ≤ 60) : Ok mX5_off (rmL 4) [.ref 0] μ (some (.int (offF (μ.1 7) n)), sI μ 0 5 0) := by
  refine Ok.of (by decide) (Nat.le_of_ble_eq_true rfl) [some (.ref 0)] rfl ?_
  refine g_aload_n 0 _ dX5_off_0 rfl rfl ?_
  refine g_iconst (nI 0) dX5_off_1 rfl ?_
  refine gp_X5_44 rfl dX5_off_2 ?_
  refine g_aload_n 0 _ dX5_off_5 rfl rfl ?_
  refine gf_X5_10 rfl dX5_off_6 ?_
  refine g_backi (g_runVN (c_firstOff (sI μ 0 5 0) (n := n) hn h60) rfl mw_X1_firstOff mi_X1_firstOff mn_X5_119 isO_1 ⟨rfl, rfl, Nat.le_of_ble_eq_true rfl, Nat.le_of_ble_eq_true rfl⟩ rfl rfl (Nat.le_of_ble_eq_true rfl) dX5_off_9) ?_
  exact g_ireturn dX5_off_12 rfl rfl rfl
theorem c_turn (μ : Mm) (k : Int32) {n : Nat} (hn : μ.1 1 2 = nI n) (h1 : 1 ≤ n) (h60 : n ≤ 60) : Ok mX5_turn (rmL 2) [.ref 0, .int k] μ (some (.int (nI 1)), sI (sR (sR (sI μ 0 5 0) 10 (fil (μ.1 10) (fun i => μ.1 7 ((i + modN k n) % n)) n)) 7 (fil (μ.1 7) (fun i => μ.1 7 ((i + modN k n) % n)) n)) 3 4 0) := by
  refine Ok.of (by decide) (Nat.le_of_ble_eq_true rfl) [some (.ref 0), some (.int k)] rfl ?_
  refine g_aload_n 0 _ dX5_turn_0 rfl rfl ?_
  refine g_iconst (nI 0) dX5_turn_1 rfl ?_
  refine gp_X5_44 rfl dX5_turn_2 ?_
  refine g_aload_n 0 _ dX5_turn_5 rfl rfl ?_
  refine gf_X5_10 rfl dX5_turn_6 ?_
  refine g_iload_n 1 _ dX5_turn_9 rfl rfl ?_
  refine g_backv (g_runVN (c_turnMask (sI μ 0 5 0) k (n := n) hn h1 h60) rfl mw_X1_turnMask mi_X1_turnMask mn_X5_135 isO_1 ⟨rfl, rfl, Nat.le_of_ble_eq_true rfl, Nat.le_of_ble_eq_true rfl⟩ rfl rfl (Nat.le_of_ble_eq_true rfl) dX5_turn_10) ?_
  refine g_at 13 rfl ?_
  refine g_aload_n 0 _ dX5_turn_13 rfl rfl ?_
  refine gf_X5_26 rfl dX5_turn_14 ?_
  refine g_iconst (nI 0) dX5_turn_17 rfl ?_
  refine gp_X5_138 rfl rfl rfl dX5_turn_18 ?_
  refine g_iconst (nI 1) dX5_turn_21 rfl ?_
  exact g_ireturn dX5_turn_22 rfl rfl rfl
