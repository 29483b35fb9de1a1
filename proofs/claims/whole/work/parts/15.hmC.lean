/-! count, cast, anti, fold, rests, twins, shift -/
theorem c_count_no (μ : Mm) (a : Int32) (h : a.toInt < 0 ∨ 7 < a.toInt) : Ok mX5_count (rmL 4) [.ref 0, .int a] μ (some (.int (-1)), sI μ 0 5 (nI 1)) := by
  refine Ok.of (by decide) (Nat.le_of_ble_eq_true rfl) [some (.ref 0), some (.int a)] rfl ?_
  refine g_aload_n 0 _ dX5_count_0 rfl rfl ?_
  refine g_iload_n 1 _ dX5_count_1 rfl rfl ?_
  refine g_if_lt 11 dX5_count_2 (by decide) (fun h2 => ?_) (fun h2 => ?_)
  · refine g_iconst (nI 1) dX5_count_11 rfl ?_
    refine g_goto 16 dX5_count_12 (by decide) ?_
    refine g_backi (g_runV (c_refuses1 μ (f := nI 1) (by decide)) rfl mw_X5_refuses mi_X5_refuses ml_X5_48 isO_0 ⟨rfl, rfl, Nat.le_of_ble_eq_true rfl, Nat.le_of_ble_eq_true rfl⟩ rfl rfl (Nat.le_of_ble_eq_true rfl) dX5_count_16) ?_
    refine g_mem (μ' := sI μ 0 5 (nI 1)) rfl ?_
    refine g_top (w := .int (nI 1)) rfl ?_
    refine g_if_eqN 24 (by omega) dX5_count_19 (by decide) (fun h19 => ?_) (fun h19 => ?_)
    · exact absurd h19 (by omega)
    · refine g_iconst (-1) dX5_count_22 rfl ?_
      exact g_ireturn dX5_count_23 rfl rfl rfl
  · refine g_iload_n 1 _ dX5_count_5 rfl rfl ?_
    refine g_bipush (nI 7) dX5_count_6 rfl ?_
    refine g_icmp_le 15 dX5_count_8 (by decide) (fun h8 => ?_) (fun h8 => ?_)
    · exfalso; simp only [ne_eq, fa_lt, fa_le, fa_eq, t0, t1, t2, tm1, nt0, nt1, nt2, nt3, nt4, nt5, nt7, nt9, nt10, nt13, nt14, nt30, nt32, nt59, nt60, nt200, nt1000, nt1000000, nt1073741824] at *; omega
    · refine g_iconst (nI 1) dX5_count_11 rfl ?_
      refine g_goto 16 dX5_count_12 (by decide) ?_
      refine g_backi (g_runV (c_refuses1 μ (f := nI 1) (by decide)) rfl mw_X5_refuses mi_X5_refuses ml_X5_48 isO_0 ⟨rfl, rfl, Nat.le_of_ble_eq_true rfl, Nat.le_of_ble_eq_true rfl⟩ rfl rfl (Nat.le_of_ble_eq_true rfl) dX5_count_16) ?_
      refine g_mem (μ' := sI μ 0 5 (nI 1)) rfl ?_
      refine g_top (w := .int (nI 1)) rfl ?_
      refine g_if_eqN 24 (by omega) dX5_count_19 (by decide) (fun h19 => ?_) (fun h19 => ?_)
      · exact absurd h19 (by omega)
      · refine g_iconst (-1) dX5_count_22 rfl ?_
        exact g_ireturn dX5_count_23 rfl rfl rfl
theorem c_count_0 (μ : Mm) : Ok mX5_count (rmL 4) [.ref 0, .int (nI 0)] μ (some (.int (μ.1 1 2)), sI μ 0 5 0) := by
  refine Ok.of (by decide) (Nat.le_of_ble_eq_true rfl) [some (.ref 0), some (.int (nI 0))] rfl ?_
  refine g_aload_n 0 _ dX5_count_0 rfl rfl ?_
  refine g_iload_n 1 _ dX5_count_1 rfl rfl ?_
  refine g_if_ltN 11 (by omega) dX5_count_2 (by decide) ?_
  refine g_iload_n 1 _ dX5_count_5 rfl rfl ?_
  refine g_bipush (nI 7) dX5_count_6 rfl ?_
  refine g_icmp_leN 15 (by omega) (by omega) dX5_count_8 (by decide) (fun h8 => ?_) (fun h8 => ?_)
  · refine g_iconst (nI 0) dX5_count_15 rfl ?_
    refine g_backi (g_runV (c_refuses0 μ) rfl mw_X5_refuses mi_X5_refuses ml_X5_48 isO_0 ⟨rfl, rfl, Nat.le_of_ble_eq_true rfl, Nat.le_of_ble_eq_true rfl⟩ rfl rfl (Nat.le_of_ble_eq_true rfl) dX5_count_16) ?_
    refine g_mem (μ' := sI μ 0 5 0) rfl ?_
    refine g_top (w := .int (nI 0)) rfl ?_
    refine g_if_eqN 24 (by omega) dX5_count_19 (by decide) (fun h19 => ?_) (fun h19 => ?_)
    · refine g_iload_n 1 _ dX5_count_24 rfl rfl ?_
      refine g_tableIn 68 dX5_count_25 (by decide) (by decide) rfl (by decide) ?_
      refine g_aload_n 0 _ dX5_count_68 rfl rfl ?_
      refine gf_X5_10 rfl dX5_count_69 ?_
      refine gf_X5_77 rfl dX5_count_72 ?_
      exact g_ireturn dX5_count_75 rfl rfl rfl
    · exact absurd h19 (by omega)
  · exact absurd h8 (by omega)
theorem c_count_1 (μ : Mm) {n : Nat} (hn : μ.1 1 2 = nI n) (h60 : n ≤ 60) : Ok mX5_count (rmL 4) [.ref 0, .int (nI 1)] μ (some (.int (nI (fa_cnt (fun i => decide (μ.1 7 i = nI 1)) n))), sI μ 0 5 0) := by
  refine Ok.of (by decide) (Nat.le_of_ble_eq_true rfl) [some (.ref 0), some (.int (nI 1))] rfl ?_
  refine g_aload_n 0 _ dX5_count_0 rfl rfl ?_
  refine g_iload_n 1 _ dX5_count_1 rfl rfl ?_
  refine g_if_ltN 11 (by omega) dX5_count_2 (by decide) ?_
  refine g_iload_n 1 _ dX5_count_5 rfl rfl ?_
  refine g_bipush (nI 7) dX5_count_6 rfl ?_
  refine g_icmp_leN 15 (by omega) (by omega) dX5_count_8 (by decide) (fun h8 => ?_) (fun h8 => ?_)
  · refine g_iconst (nI 0) dX5_count_15 rfl ?_
    refine g_backi (g_runV (c_refuses0 μ) rfl mw_X5_refuses mi_X5_refuses ml_X5_48 isO_0 ⟨rfl, rfl, Nat.le_of_ble_eq_true rfl, Nat.le_of_ble_eq_true rfl⟩ rfl rfl (Nat.le_of_ble_eq_true rfl) dX5_count_16) ?_
    refine g_mem (μ' := sI μ 0 5 0) rfl ?_
    refine g_top (w := .int (nI 0)) rfl ?_
    refine g_if_eqN 24 (by omega) dX5_count_19 (by decide) (fun h19 => ?_) (fun h19 => ?_)
    · refine g_iload_n 1 _ dX5_count_24 rfl rfl ?_
      refine g_tableIn 76 dX5_count_25 (by decide) (by decide) rfl (by decide) ?_
      refine g_aload_n 0 _ dX5_count_76 rfl rfl ?_
      refine gf_X5_10 rfl dX5_count_77 ?_
      refine g_iconst (nI 0) dX5_count_80 rfl ?_
      refine g_iconst (nI 1) dX5_count_81 rfl ?_
      refine g_backi (g_runVN (c_tally (w := 0) (n := n) (sI μ 0 5 0) (nI 1) hn h60 (by decide)) rfl mw_X1_tally mi_X1_tally mn_X5_116 isO_1 ⟨rfl, rfl, Nat.le_of_ble_eq_true rfl, Nat.le_of_ble_eq_true rfl⟩ rfl rfl (Nat.le_of_ble_eq_true rfl) dX5_count_82) ?_
      refine g_top (w := .int (nI (fa_cnt (fun i => decide (μ.1 7 i = nI 1)) n))) rfl ?_
      exact g_ireturn dX5_count_85 rfl rfl rfl
    · exact absurd h19 (by omega)
  · exact absurd h8 (by omega)
theorem c_count_2 (μ : Mm) {n : Nat} (hn : μ.1 1 2 = nI n) (h60 : n ≤ 60) : Ok mX5_count (rmL 4) [.ref 0, .int (nI 2)] μ (some (.int (nI (fa_cnt (fun i => decide (μ.1 7 i = -1)) n))), sI μ 0 5 0) := by
  refine Ok.of (by decide) (Nat.le_of_ble_eq_true rfl) [some (.ref 0), some (.int (nI 2))] rfl ?_
  refine g_aload_n 0 _ dX5_count_0 rfl rfl ?_
  refine g_iload_n 1 _ dX5_count_1 rfl rfl ?_
  refine g_if_ltN 11 (by omega) dX5_count_2 (by decide) ?_
  refine g_iload_n 1 _ dX5_count_5 rfl rfl ?_
  refine g_bipush (nI 7) dX5_count_6 rfl ?_
  refine g_icmp_leN 15 (by omega) (by omega) dX5_count_8 (by decide) (fun h8 => ?_) (fun h8 => ?_)
  · refine g_iconst (nI 0) dX5_count_15 rfl ?_
    refine g_backi (g_runV (c_refuses0 μ) rfl mw_X5_refuses mi_X5_refuses ml_X5_48 isO_0 ⟨rfl, rfl, Nat.le_of_ble_eq_true rfl, Nat.le_of_ble_eq_true rfl⟩ rfl rfl (Nat.le_of_ble_eq_true rfl) dX5_count_16) ?_
    refine g_mem (μ' := sI μ 0 5 0) rfl ?_
    refine g_top (w := .int (nI 0)) rfl ?_
    refine g_if_eqN 24 (by omega) dX5_count_19 (by decide) (fun h19 => ?_) (fun h19 => ?_)
    · refine g_iload_n 1 _ dX5_count_24 rfl rfl ?_
      refine g_tableIn 86 dX5_count_25 (by decide) (by decide) rfl (by decide) ?_
      refine g_aload_n 0 _ dX5_count_86 rfl rfl ?_
      refine gf_X5_10 rfl dX5_count_87 ?_
      refine g_iconst (nI 0) dX5_count_90 rfl ?_
      refine g_iconst (-1) dX5_count_91 rfl ?_
      refine g_backi (g_runVN (c_tally (w := 0) (n := n) (sI μ 0 5 0) (-1) hn h60 (by decide)) rfl mw_X1_tally mi_X1_tally mn_X5_116 isO_1 ⟨rfl, rfl, Nat.le_of_ble_eq_true rfl, Nat.le_of_ble_eq_true rfl⟩ rfl rfl (Nat.le_of_ble_eq_true rfl) dX5_count_92) ?_
      refine g_top (w := .int (nI (fa_cnt (fun i => decide (μ.1 7 i = -1)) n))) rfl ?_
      exact g_ireturn dX5_count_95 rfl rfl rfl
    · exact absurd h19 (by omega)
  · exact absurd h8 (by omega)
theorem c_count_3 (μ : Mm) {n : Nat} (hn : μ.1 1 2 = nI n) (h60 : n ≤ 60) : Ok mX5_count (rmL 4) [.ref 0, .int (nI 3)] μ (some (.int (nI (fa_cnt (fun i => decide (μ.1 9 i = nI 1073741824)) n))), sI μ 0 5 0) := by
  refine Ok.of (by decide) (Nat.le_of_ble_eq_true rfl) [some (.ref 0), some (.int (nI 3))] rfl ?_
  refine g_aload_n 0 _ dX5_count_0 rfl rfl ?_
  refine g_iload_n 1 _ dX5_count_1 rfl rfl ?_
  refine g_if_ltN 11 (by omega) dX5_count_2 (by decide) ?_
  refine g_iload_n 1 _ dX5_count_5 rfl rfl ?_
  refine g_bipush (nI 7) dX5_count_6 rfl ?_
  refine g_icmp_leN 15 (by omega) (by omega) dX5_count_8 (by decide) (fun h8 => ?_) (fun h8 => ?_)
  · refine g_iconst (nI 0) dX5_count_15 rfl ?_
    refine g_backi (g_runV (c_refuses0 μ) rfl mw_X5_refuses mi_X5_refuses ml_X5_48 isO_0 ⟨rfl, rfl, Nat.le_of_ble_eq_true rfl, Nat.le_of_ble_eq_true rfl⟩ rfl rfl (Nat.le_of_ble_eq_true rfl) dX5_count_16) ?_
    refine g_mem (μ' := sI μ 0 5 0) rfl ?_
    refine g_top (w := .int (nI 0)) rfl ?_
    refine g_if_eqN 24 (by omega) dX5_count_19 (by decide) (fun h19 => ?_) (fun h19 => ?_)
    · refine g_iload_n 1 _ dX5_count_24 rfl rfl ?_
      refine g_tableIn 96 dX5_count_25 (by decide) (by decide) rfl (by decide) ?_
      refine g_aload_n 0 _ dX5_count_96 rfl rfl ?_
      refine gf_X5_10 rfl dX5_count_97 ?_
      refine g_iconst (nI 2) dX5_count_100 rfl ?_
      refine g_ldc _ rfl kc_X5_103 dX5_count_101 ?_
      refine g_top (w := .int (nI 1073741824)) rfl ?_
      refine g_backi (g_runVN (c_tally (w := 2) (n := n) (sI μ 0 5 0) (nI 1073741824) hn h60 (by decide)) rfl mw_X1_tally mi_X1_tally mn_X5_116 isO_1 ⟨rfl, rfl, Nat.le_of_ble_eq_true rfl, Nat.le_of_ble_eq_true rfl⟩ rfl rfl (Nat.le_of_ble_eq_true rfl) dX5_count_103) ?_
      refine g_top (w := .int (nI (fa_cnt (fun i => decide (μ.1 9 i = nI 1073741824)) n))) rfl ?_
      exact g_ireturn dX5_count_106 rfl rfl rfl
    · exact absurd h19 (by omega)
  · exact absurd h8 (by omega)
theorem c_count_4 (μ : Mm) {n : Nat} (hn : μ.1 1 2 = nI n) (h60 : n ≤ 60) : Ok mX5_count (rmL 4) [.ref 0, .int (nI 4)] μ (some (.int (bI (offF (μ.1 7) n = -1))), sI μ 0 5 0) := by
  refine Ok.of (by decide) (Nat.le_of_ble_eq_true rfl) [some (.ref 0), some (.int (nI 4))] rfl ?_
  refine g_aload_n 0 _ dX5_count_0 rfl rfl ?_
  refine g_iload_n 1 _ dX5_count_1 rfl rfl ?_
  refine g_if_ltN 11 (by omega) dX5_count_2 (by decide) ?_
  refine g_iload_n 1 _ dX5_count_5 rfl rfl ?_
  refine g_bipush (nI 7) dX5_count_6 rfl ?_
  refine g_icmp_leN 15 (by omega) (by omega) dX5_count_8 (by decide) (fun h8 => ?_) (fun h8 => ?_)
  · refine g_iconst (nI 0) dX5_count_15 rfl ?_
    refine g_backi (g_runV (c_refuses0 μ) rfl mw_X5_refuses mi_X5_refuses ml_X5_48 isO_0 ⟨rfl, rfl, Nat.le_of_ble_eq_true rfl, Nat.le_of_ble_eq_true rfl⟩ rfl rfl (Nat.le_of_ble_eq_true rfl) dX5_count_16) ?_
    refine g_mem (μ' := sI μ 0 5 0) rfl ?_
    refine g_top (w := .int (nI 0)) rfl ?_
    refine g_if_eqN 24 (by omega) dX5_count_19 (by decide) (fun h19 => ?_) (fun h19 => ?_)
    · refine g_iload_n 1 _ dX5_count_24 rfl rfl ?_
      refine g_tableIn 107 dX5_count_25 (by decide) (by decide) rfl (by decide) ?_
      refine g_aload_n 0 _ dX5_count_107 rfl rfl ?_
      refine gf_X5_10 rfl dX5_count_108 ?_
      refine g_backi (g_runVN (c_firstOff (sI μ 0 5 0) (n := n) hn h60) rfl mw_X1_firstOff mi_X1_firstOff mn_X5_119 isO_1 ⟨rfl, rfl, Nat.le_of_ble_eq_true rfl, Nat.le_of_ble_eq_true rfl⟩ rfl rfl (Nat.le_of_ble_eq_true rfl) dX5_count_111) ?_
      refine g_top (w := .int (offF (μ.1 7) n)) rfl ?_
      refine g_iconst (-1) dX5_count_114 rfl ?_
      refine g_icmp_ne 122 dX5_count_115 (by decide) (fun h115 => ?_) (fun h115 => ?_)
      · refine g_iconst (nI 0) dX5_count_122 rfl ?_
        exact g_ireturn dX5_count_123 rfl rfl (by first | rw [bI_t h115]; rfl | rw [bI_f h115]; rfl)
      · refine g_iconst (nI 1) dX5_count_118 rfl ?_
        refine g_goto 123 dX5_count_119 (by decide) ?_
        exact g_ireturn dX5_count_123 rfl rfl (by first | rw [bI_t h115]; rfl | rw [bI_f h115]; rfl)
    · exact absurd h19 (by omega)
  · exact absurd h8 (by omega)
theorem c_count_5 (μ : Mm) : Ok mX5_count (rmL 4) [.ref 0, .int (nI 5)] μ (some (.int (if μ.1 5 1 = 0 then -1 else μ.1 5 1)), sI μ 0 5 0) := by
  refine Ok.of (by decide) (Nat.le_of_ble_eq_true rfl) [some (.ref 0), some (.int (nI 5))] rfl ?_
  refine g_aload_n 0 _ dX5_count_0 rfl rfl ?_
  refine g_iload_n 1 _ dX5_count_1 rfl rfl ?_
  refine g_if_ltN 11 (by omega) dX5_count_2 (by decide) ?_
  refine g_iload_n 1 _ dX5_count_5 rfl rfl ?_
  refine g_bipush (nI 7) dX5_count_6 rfl ?_
  refine g_icmp_leN 15 (by omega) (by omega) dX5_count_8 (by decide) (fun h8 => ?_) (fun h8 => ?_)
  · refine g_iconst (nI 0) dX5_count_15 rfl ?_
    refine g_backi (g_runV (c_refuses0 μ) rfl mw_X5_refuses mi_X5_refuses ml_X5_48 isO_0 ⟨rfl, rfl, Nat.le_of_ble_eq_true rfl, Nat.le_of_ble_eq_true rfl⟩ rfl rfl (Nat.le_of_ble_eq_true rfl) dX5_count_16) ?_
    refine g_mem (μ' := sI μ 0 5 0) rfl ?_
    refine g_top (w := .int (nI 0)) rfl ?_
    refine g_if_eqN 24 (by omega) dX5_count_19 (by decide) (fun h19 => ?_) (fun h19 => ?_)
    · refine g_iload_n 1 _ dX5_count_24 rfl rfl ?_
      refine g_tableIn 124 dX5_count_25 (by decide) (by decide) rfl (by decide) ?_
      refine g_aload_n 0 _ dX5_count_124 rfl rfl ?_
      refine gf_X5_40 rfl dX5_count_125 ?_
      refine gf_X5_123 rfl dX5_count_128 ?_
      refine g_if_ne 138 dX5_count_131 (by decide) (fun h131 => ?_) (fun h131 => ?_)
      · refine g_aload_n 0 _ dX5_count_138 rfl rfl ?_
        refine gf_X5_40 rfl dX5_count_139 ?_
        refine gf_X5_123 rfl dX5_count_142 ?_
        exact g_ireturn dX5_count_145 rfl rfl (by first | rw [if_pos (show μ.1 5 1 = 0 from h131)] | rw [if_neg (show ¬ μ.1 5 1 = 0 from h131)]; rfl)
      · refine g_iconst (-1) dX5_count_134 rfl ?_
        refine g_goto 145 dX5_count_135 (by decide) ?_
        exact g_ireturn dX5_count_145 rfl rfl (by first | rw [if_pos (show μ.1 5 1 = 0 from h131)] | rw [if_neg (show ¬ μ.1 5 1 = 0 from h131)]; rfl)
    · exact absurd h19 (by omega)
  · exact absurd h8 (by omega)
theorem c_count_6 (μ : Mm) : Ok mX5_count (rmL 4) [.ref 0, .int (nI 6)] μ (some (.int (if μ.1 2 1 = -1 then -1 else μ.1 2 2)), sI μ 0 5 0) := by
  refine Ok.of (by decide) (Nat.le_of_ble_eq_true rfl) [some (.ref 0), some (.int (nI 6))] rfl ?_
  refine g_aload_n 0 _ dX5_count_0 rfl rfl ?_
  refine g_iload_n 1 _ dX5_count_1 rfl rfl ?_
  refine g_if_ltN 11 (by omega) dX5_count_2 (by decide) ?_
  refine g_iload_n 1 _ dX5_count_5 rfl rfl ?_
  refine g_bipush (nI 7) dX5_count_6 rfl ?_
  refine g_icmp_leN 15 (by omega) (by omega) dX5_count_8 (by decide) (fun h8 => ?_) (fun h8 => ?_)
  · refine g_iconst (nI 0) dX5_count_15 rfl ?_
    refine g_backi (g_runV (c_refuses0 μ) rfl mw_X5_refuses mi_X5_refuses ml_X5_48 isO_0 ⟨rfl, rfl, Nat.le_of_ble_eq_true rfl, Nat.le_of_ble_eq_true rfl⟩ rfl rfl (Nat.le_of_ble_eq_true rfl) dX5_count_16) ?_
    refine g_mem (μ' := sI μ 0 5 0) rfl ?_
    refine g_top (w := .int (nI 0)) rfl ?_
    refine g_if_eqN 24 (by omega) dX5_count_19 (by decide) (fun h19 => ?_) (fun h19 => ?_)
    · refine g_iload_n 1 _ dX5_count_24 rfl rfl ?_
      refine g_tableIn 146 dX5_count_25 (by decide) (by decide) rfl (by decide) ?_
      refine g_aload_n 0 _ dX5_count_146 rfl rfl ?_
      refine gf_X5_19 rfl dX5_count_147 ?_
      refine gf_X5_67 rfl dX5_count_150 ?_
      refine g_iconst (-1) dX5_count_153 rfl ?_
      refine g_icmp_ne 161 dX5_count_154 (by decide) (fun h154 => ?_) (fun h154 => ?_)
      · refine g_aload_n 0 _ dX5_count_161 rfl rfl ?_
        refine gf_X5_19 rfl dX5_count_162 ?_
        refine gf_X5_64 rfl dX5_count_165 ?_
        exact g_ireturn dX5_count_168 rfl rfl (by first | rw [if_pos (show μ.1 2 1 = -1 from h154)] | rw [if_neg (show ¬ μ.1 2 1 = -1 from h154)]; rfl)
      · refine g_iconst (-1) dX5_count_157 rfl ?_
        refine g_goto 168 dX5_count_158 (by decide) ?_
        exact g_ireturn dX5_count_168 rfl rfl (by first | rw [if_pos (show μ.1 2 1 = -1 from h154)] | rw [if_neg (show ¬ μ.1 2 1 = -1 from h154)]; rfl)
    · exact absurd h19 (by omega)
  · exact absurd h8 (by omega)
theorem c_count_7 (μ : Mm) : Ok mX5_count (rmL 4) [.ref 0, .int (nI 7)] μ (some (.int (μ.1 4 3)), sI μ 0 5 0) := by
  refine Ok.of (by decide) (Nat.le_of_ble_eq_true rfl) [some (.ref 0), some (.int (nI 7))] rfl ?_
  refine g_aload_n 0 _ dX5_count_0 rfl rfl ?_
  refine g_iload_n 1 _ dX5_count_1 rfl rfl ?_
  refine g_if_ltN 11 (by omega) dX5_count_2 (by decide) ?_
  refine g_iload_n 1 _ dX5_count_5 rfl rfl ?_
  refine g_bipush (nI 7) dX5_count_6 rfl ?_
  refine g_icmp_leN 15 (by omega) (by omega) dX5_count_8 (by decide) (fun h8 => ?_) (fun h8 => ?_)
  · refine g_iconst (nI 0) dX5_count_15 rfl ?_
    refine g_backi (g_runV (c_refuses0 μ) rfl mw_X5_refuses mi_X5_refuses ml_X5_48 isO_0 ⟨rfl, rfl, Nat.le_of_ble_eq_true rfl, Nat.le_of_ble_eq_true rfl⟩ rfl rfl (Nat.le_of_ble_eq_true rfl) dX5_count_16) ?_
    refine g_mem (μ' := sI μ 0 5 0) rfl ?_
    refine g_top (w := .int (nI 0)) rfl ?_
    refine g_if_eqN 24 (by omega) dX5_count_19 (by decide) (fun h19 => ?_) (fun h19 => ?_)
    · refine g_iload_n 1 _ dX5_count_24 rfl rfl ?_
      refine g_tableOut 169 dX5_count_25 (by decide) (by decide) ?_
      refine g_aload_n 0 _ dX5_count_169 rfl rfl ?_
      refine gf_X5_33 rfl dX5_count_170 ?_
      refine gf_X5_126 rfl dX5_count_173 ?_
      exact g_ireturn dX5_count_176 rfl rfl rfl
    · exact absurd h19 (by omega)
  · exact absurd h8 (by omega)
theorem c_cast_l {μ : Mm} {n : Nat} (hn : μ.1 1 2 = nI n) (h60 : n ≤ 60) : ∀ (m i : Nat), i ≤ n → n < i + m → G mX5_cast (rmL 3) (some (.int (nI 1)), sR μ 9 (fil (μ.1 9) (fun s => thr (μ.1 7) (μ.1 8) n s n) n)) (sR μ 9 (fil (μ.1 9) (fun s => thr (μ.1 7) (μ.1 8) n s n) i)) 7 [some (.ref 0), some (.int (nI i))] [] := by
  intro m
  induction m with
  | zero => exact fun i h1 h2 => absurd h2 (by omega)
  | succ m ih =>
    intro i h1 h2
    refine g_iload_n 1 _ dX5_cast_7 rfl rfl ?_
    refine g_aload_n 0 _ dX5_cast_8 rfl rfl ?_
    refine gf_X5_10 rfl dX5_cast_9 ?_
    refine gf_X5_77 rfl dX5_cast_12 ?_
    refine g_top (w := .int (nI n)) (congrArg Value.int hn) ?_
    refine g_icmp_geN 41 (by omega) (by omega) dX5_cast_15 (by decide) (fun h15 => ?_) (fun h15 => ?_)
    · refine g_iconst (nI 1) dX5_cast_41 rfl ?_
      exact g_ireturn dX5_cast_42 rfl rfl (by rw [show i = n by omega])
    · refine g_aload_n 0 _ dX5_cast_18 rfl rfl ?_
      refine gf_X5_10 rfl dX5_cast_19 ?_
      refine g_iconst (nI 2) dX5_cast_22 rfl ?_
      refine g_iload_n 1 _ dX5_cast_23 rfl rfl ?_
      refine g_aload_n 0 _ dX5_cast_24 rfl rfl ?_
      refine gf_X5_10 rfl dX5_cast_25 ?_
      refine g_iload_n 1 _ dX5_cast_28 rfl rfl ?_
      refine g_at 29 rfl ?_
      refine g_backi (g_runVN (c_shadowAt (sR μ 9 (fil (μ.1 9) (fun s => thr (μ.1 7) (μ.1 8) n s n) i)) (s := i) (n := n) hn h60 (by omega)) rfl mw_X1_shadowAt mi_X1_shadowAt mn_X5_129 isO_1 ⟨rfl, rfl, Nat.le_of_ble_eq_true rfl, Nat.le_of_ble_eq_true rfl⟩ rfl rfl (Nat.le_of_ble_eq_true rfl) dX5_cast_29) ?_
      refine g_top (w := .int (thr (μ.1 7) (μ.1 8) n i n)) rfl ?_
      refine g_backv (g_runVN (c_put (w := 2) _ (thr (μ.1 7) (μ.1 8) n i n) (by decide) (show i < 60 by omega)) rfl mw_X1_put mi_X1_put mn_X5_83 isO_1 ⟨rfl, rfl, Nat.le_of_ble_eq_true rfl, Nat.le_of_ble_eq_true rfl⟩ rfl rfl (Nat.le_of_ble_eq_true rfl) dX5_cast_32) ?_
      refine g_mem (μ' := sI (sR μ 9 (fil (μ.1 9) (fun s => thr (μ.1 7) (μ.1 8) n s n) i)) 9 i (thr (μ.1 7) (μ.1 8) n i n)) rfl ?_
      refine g_mem (sR_fil μ 9 i _ (fun s => thr (μ.1 7) (μ.1 8) n s n) rfl) ?_
      refine g_iincN [some (.ref 0), some (.int (nI (i + 1)))] dX5_cast_35 rfl (Nat.le_of_ble_eq_true rfl) rfl rfl ?_
      refine g_goto 7 dX5_cast_38 (by decide) ?_
      exact ih (i + 1) (by omega) (by omega)
theorem c_cast (μ : Mm) {n : Nat} (hn : μ.1 1 2 = nI n) (h60 : n ≤ 60) : Ok mX5_cast (rmL 3) [.ref 0] μ (some (.int (nI 1)), sR (sI μ 0 5 0) 9 (fil (μ.1 9) (fun s => thr (μ.1 7) (μ.1 8) n s n) n)) := by
  refine Ok.of (by decide) (Nat.le_of_ble_eq_true rfl) [some (.ref 0), none] rfl ?_
  refine g_aload_n 0 _ dX5_cast_0 rfl rfl ?_
  refine g_iconst (nI 0) dX5_cast_1 rfl ?_
  refine gp_X5_44 rfl dX5_cast_2 ?_
  refine g_iconst (nI 0) dX5_cast_5 rfl ?_
  refine g_istore_n [some (.ref 0), some (.int (nI 0))] dX5_cast_6 rfl (Nat.le_of_ble_eq_true rfl) rfl rfl ?_
  have h := c_cast_l (μ := sI μ 0 5 0) hn h60 (n + 1) 0 (by omega) (by omega); rw [fil_0, sR_id] at h; exact h
theorem c_anti_no (μ : Mm) {n : Nat} (hn : μ.1 1 2 = nI n) (h60 : n ≤ 60) (h : 0 < fa_cnt (fun i => decide (μ.1 7 i = -1)) n) : Ok mX5_anti (rmL 1) [.ref 0] μ (some (.int (nI 0)), sI μ 0 5 (nI 1)) := by
  have hc := fa_cnt_le (fun i => decide (μ.1 7 i = -1)) n
  refine Ok.of (by decide) (Nat.le_of_ble_eq_true rfl) [some (.ref 0), none] rfl ?_
  refine g_aload_n 0 _ dX5_anti_0 rfl rfl ?_
  refine g_aload_n 0 _ dX5_anti_1 rfl rfl ?_
  refine gf_X5_10 rfl dX5_anti_2 ?_
  refine g_iconst (nI 0) dX5_anti_5 rfl ?_
  refine g_iconst (-1) dX5_anti_6 rfl ?_
  refine g_backi (g_runVN (c_tally (w := 0) (n := n) μ (-1) hn h60 (by decide)) rfl mw_X1_tally mi_X1_tally mn_X5_116 isO_1 ⟨rfl, rfl, Nat.le_of_ble_eq_true rfl, Nat.le_of_ble_eq_true rfl⟩ rfl rfl (Nat.le_of_ble_eq_true rfl) dX5_anti_7) ?_
  refine g_top (w := .int (nI (fa_cnt (fun i => decide (μ.1 7 i = -1)) n))) rfl ?_
  refine g_if_leN 17 (by omega) dX5_anti_10 (by decide) (fun h10 => ?_) (fun h10 => ?_)
  · exact absurd h10 (by omega)
  · refine g_iconst (nI 1) dX5_anti_13 rfl ?_
    refine g_goto 18 dX5_anti_14 (by decide) ?_
    refine g_backi (g_runV (c_refuses1 μ (f := nI 1) (by decide)) rfl mw_X5_refuses mi_X5_refuses ml_X5_48 isO_0 ⟨rfl, rfl, Nat.le_of_ble_eq_true rfl, Nat.le_of_ble_eq_true rfl⟩ rfl rfl (Nat.le_of_ble_eq_true rfl) dX5_anti_18) ?_
    refine g_mem (μ' := sI μ 0 5 (nI 1)) rfl ?_
    refine g_top (w := .int (nI 1)) rfl ?_
    refine g_if_eqN 26 (by omega) dX5_anti_21 (by decide) (fun h21 => ?_) (fun h21 => ?_)
    · exact absurd h21 (by omega)
    · refine g_iconst (nI 0) dX5_anti_24 rfl ?_
      exact g_ireturn dX5_anti_25 rfl rfl rfl
theorem c_anti_l {μ : Mm} {n : Nat} (hn : μ.1 1 2 = nI n) (h60 : n ≤ 60) : ∀ (m i : Nat), i ≤ n → n < i + m → G mX5_anti (rmL 1) (some (.int (nI 1)), sI (sR μ 7 (fil (μ.1 7) (fun i => nI 1 - μ.1 7 i) n)) 3 4 0) (sR μ 7 (fil (μ.1 7) (fun i => nI 1 - μ.1 7 i) i)) 28 [some (.ref 0), some (.int (nI i))] [] := by
  intro m
  induction m with
  | zero => exact fun i h1 h2 => absurd h2 (by omega)
  | succ m ih =>
    intro i h1 h2
    refine g_iload_n 1 _ dX5_anti_28 rfl rfl ?_
    refine g_aload_n 0 _ dX5_anti_29 rfl rfl ?_
    refine gf_X5_10 rfl dX5_anti_30 ?_
    refine gf_X5_77 rfl dX5_anti_33 ?_
    refine g_top (w := .int (nI n)) (congrArg Value.int hn) ?_
    refine g_icmp_geN 65 (by omega) (by omega) dX5_anti_36 (by decide) (fun h36 => ?_) (fun h36 => ?_)
    · refine g_aload_n 0 _ dX5_anti_65 rfl rfl ?_
      refine gf_X5_26 rfl dX5_anti_66 ?_
      refine g_iconst (nI 0) dX5_anti_69 rfl ?_
      refine gp_X5_138 rfl rfl rfl dX5_anti_70 ?_
      refine g_iconst (nI 1) dX5_anti_73 rfl ?_
      exact g_ireturn dX5_anti_74 rfl rfl (by rw [show i = n by omega]; rfl)
    · refine g_aload_n 0 _ dX5_anti_39 rfl rfl ?_
      refine gf_X5_10 rfl dX5_anti_40 ?_
      refine g_iconst (nI 0) dX5_anti_43 rfl ?_
      refine g_iload_n 1 _ dX5_anti_44 rfl rfl ?_
      refine g_iconst (nI 1) dX5_anti_45 rfl ?_
      refine g_aload_n 0 _ dX5_anti_46 rfl rfl ?_
      refine gf_X5_10 rfl dX5_anti_47 ?_
      refine g_at 50 rfl ?_
      refine g_iconst (nI 0) dX5_anti_50 rfl ?_
      refine g_iload_n 1 _ dX5_anti_51 rfl rfl ?_
      refine g_backi (g_runVN ((c_get (sR μ 7 (fil (μ.1 7) (fun i => nI 1 - μ.1 7 i) i)) (w := 0) (j := i) (by decide) (by omega)).to (by show (some (Value.int ((sR μ 7 _).1 7 i)), _) = _; rw [sR_at, fil_out (Nat.le_refl i)])) rfl mw_X1_get mi_X1_get mn_X5_111 isO_1 ⟨rfl, rfl, Nat.le_of_ble_eq_true rfl, Nat.le_of_ble_eq_true rfl⟩ rfl rfl (Nat.le_of_ble_eq_true rfl) dX5_anti_52) ?_
      refine g_top (w := .int (μ.1 7 i)) rfl ?_
      refine g_isub dX5_anti_55 ?_
      refine g_backv (g_runVN (c_put (w := 0) _ ((nI 1) - (μ.1 7 i)) (by decide) (show i < 60 by omega)) rfl mw_X1_put mi_X1_put mn_X5_83 isO_1 ⟨rfl, rfl, Nat.le_of_ble_eq_true rfl, Nat.le_of_ble_eq_true rfl⟩ rfl rfl (Nat.le_of_ble_eq_true rfl) dX5_anti_56) ?_
      refine g_mem (μ' := sI (sR μ 7 (fil (μ.1 7) (fun i => nI 1 - μ.1 7 i) i)) 7 i ((nI 1) - (μ.1 7 i))) rfl ?_
      refine g_mem (sR_fil μ 7 i _ (fun i => nI 1 - μ.1 7 i) rfl) ?_
      refine g_iincN [some (.ref 0), some (.int (nI (i + 1)))] dX5_anti_59 rfl (Nat.le_of_ble_eq_true rfl) rfl rfl ?_
      refine g_goto 28 dX5_anti_62 (by decide) ?_
      exact ih (i + 1) (by omega) (by omega)
theorem c_anti_ok (μ : Mm) {n : Nat} (hn : μ.1 1 2 = nI n) (h60 : n ≤ 60) (h : fa_cnt (fun i => decide (μ.1 7 i = -1)) n = 0) : Ok mX5_anti (rmL 1) [.ref 0] μ (some (.int (nI 1)), sI (sR (sI μ 0 5 0) 7 (fil (μ.1 7) (fun i => nI 1 - μ.1 7 i) n)) 3 4 0) := by
  refine Ok.of (by decide) (Nat.le_of_ble_eq_true rfl) [some (.ref 0), none] rfl ?_
  refine g_aload_n 0 _ dX5_anti_0 rfl rfl ?_
  refine g_aload_n 0 _ dX5_anti_1 rfl rfl ?_
  refine gf_X5_10 rfl dX5_anti_2 ?_
  refine g_iconst (nI 0) dX5_anti_5 rfl ?_
  refine g_iconst (-1) dX5_anti_6 rfl ?_
  refine g_backi (g_runVN ((c_tally (w := 0) (n := n) μ (-1) hn h60 (by decide)).to (by rw [show fa_cnt (fun i => decide (μ.1 (7 + 0) i = -1)) n = 0 from h])) rfl mw_X1_tally mi_X1_tally mn_X5_116 isO_1 ⟨rfl, rfl, Nat.le_of_ble_eq_true rfl, Nat.le_of_ble_eq_true rfl⟩ rfl rfl (Nat.le_of_ble_eq_true rfl) dX5_anti_7) ?_
  refine g_top (w := .int (nI 0)) rfl ?_
  refine g_if_leN 17 (by omega) dX5_anti_10 (by decide) (fun h10 => ?_) (fun h10 => ?_)
  · refine g_iconst (nI 0) dX5_anti_17 rfl ?_
    refine g_backi (g_runV (c_refuses0 μ) rfl mw_X5_refuses mi_X5_refuses ml_X5_48 isO_0 ⟨rfl, rfl, Nat.le_of_ble_eq_true rfl, Nat.le_of_ble_eq_true rfl⟩ rfl rfl (Nat.le_of_ble_eq_true rfl) dX5_anti_18) ?_
    refine g_mem (μ' := sI μ 0 5 0) rfl ?_
    refine g_top (w := .int (nI 0)) rfl ?_
    refine g_if_eqN 26 (by omega) dX5_anti_21 (by decide) (fun h21 => ?_) (fun h21 => ?_)
    · refine g_iconst (nI 0) dX5_anti_26 rfl ?_
      refine g_istore_n [some (.ref 0), some (.int (nI 0))] dX5_anti_27 rfl (Nat.le_of_ble_eq_true rfl) rfl rfl ?_
      have h := c_anti_l (μ := sI μ 0 5 0) hn h60 (n + 1) 0 (by omega) (by omega); rw [fil_0, sR_id] at h; exact h
    · exact absurd h21 (by omega)
  · exact absurd h10 (by omega)
abbrev foldP (n A B : Nat) (x y : Int32) : Prop := A * B = n ∧ Nat.gcd A B = 1 ∧ (0 ≤ x.toInt ∧ x.toInt < A) ∧ (0 ≤ y.toInt ∧ y.toInt < B)
theorem c_canFold (μ : Mm) {A B n : Nat} (x y : Int32) (hn : μ.1 1 2 = nI n) (h60 : n ≤ 60) (hA : 1 ≤ A) (hA2 : A < 2 ^ 31) (hB : 1 ≤ B) (hB2 : B < 2 ^ 31) : Ok mX5_canFold (rmL 2) [.ref 0, .int (nI A), .int (nI B), .int x, .int y] μ (some (.int (bI (foldP n A B x y))), μ) := by
  have eA : (nI A).toInt64 = lN A := nI_l hA2
  have eB : (nI B).toInt64 = lN B := nI_l hB2
  have en : (nI n).toInt64 = lN n := nI_l (by omega)
  have hAB : A * B < 2 ^ 31 * 2 ^ 31 := Nat.mul_lt_mul'' hA2 hB2
  have hmul : lN A * lN B = lN n ↔ A * B = n := by rw [lN_mul]; exact pk_lEQ (by omega) (by omega)
  have tA : (lN A).toInt = A := pk_lT (by omega)
  have tB : (lN B).toInt = B := pk_lT (by omega)
  have gA : Nat.gcd A B ≤ A := Nat.gcd_le_left B hA
  have hg1 : lN (Nat.gcd A B) = 1 ↔ Nat.gcd A B = 1 := pk_lEQ (b := 1) (by omega) (by decide)
  have iA : (nI A).toInt = A := nI_toInt hA2
  have iB : (nI B).toInt = B := nI_toInt hB2
  refine Ok.of (by decide) (Nat.le_of_ble_eq_true rfl) [some (.ref 0), some (.int (nI A)), some (.int (nI B)), some (.int x), some (.int y)] rfl ?_
  refine g_iload_n 1 _ dX5_canFold_0 rfl rfl ?_
  refine g_iconst (nI 1) dX5_canFold_1 rfl ?_
  refine g_icmp_ltN 63 (by omega) (by omega) dX5_canFold_2 (by decide) (fun h => absurd h (by omega)) (fun _ => ?_)
  refine g_iload_n 2 _ dX5_canFold_5 rfl rfl ?_
  refine g_iconst (nI 1) dX5_canFold_6 rfl ?_
  refine g_icmp_ltN 63 (by omega) (by omega) dX5_canFold_7 (by decide) (fun h => absurd h (by omega)) (fun _ => ?_)
  refine g_iload_n 1 _ dX5_canFold_10 rfl rfl ?_
  refine g_i2l dX5_canFold_11 ?_
  refine g_iload_n 2 _ dX5_canFold_12 rfl rfl ?_
  refine g_i2l dX5_canFold_13 ?_
  refine g_lmul dX5_canFold_14 ?_
  refine g_aload_n 0 _ dX5_canFold_15 rfl rfl ?_
  refine gf_X5_10 rfl dX5_canFold_16 ?_
  refine g_at 19 rfl ?_
  refine gf_X5_77 rfl dX5_canFold_19 ?_
  refine g_top (w := .int (nI n)) (congrArg Value.int hn) ?_
  refine g_i2l dX5_canFold_22 ?_
  refine g_lcmp dX5_canFold_23 ?_
  refine g_if_neC 63 dX5_canFold_24 (by decide) (fun h24 => ?_) (fun h24 => ?_)
  · skip
    refine g_iconst (nI 0) dX5_canFold_63 rfl ?_
    exact g_ireturn dX5_canFold_64 rfl rfl (by rw [eA, eB, en] at h24; first | (rw [bI_t ⟨hmul.mp h24, hg1.mp h36, ⟨by rw [fa_lt, t0] at h40; omega, by rw [fa_le] at h45; omega⟩, by rw [fa_lt, t0] at h50; omega, by rw [fa_le] at h56; omega⟩]; rfl) | (rw [bI_f (fun q => h24 (hmul.mpr q.1))]; rfl) | (rw [bI_f (fun q => h36 (hg1.mpr q.2.1))]; rfl) | (rw [bI_f (fun q => by obtain ⟨-, -, ⟨q1, q2⟩, q3, q4⟩ := q; simp only [fa_lt, fa_le, t0] at *; omega)]; rfl))
  · refine g_iload_n 1 _ dX5_canFold_27 rfl rfl ?_
    refine g_i2l dX5_canFold_28 ?_
    refine g_iload_n 2 _ dX5_canFold_29 rfl rfl ?_
    refine g_i2l dX5_canFold_30 ?_
    refine g_backl (g_runS ((c_commonDivisor μ ((nI A).toInt64) ((nI B).toInt64) (by rw [eA, tA]; omega) (by rw [eB, tB]; omega)).to (by rw [eA, eB, tA, tB]; try rfl)) rfl mw_X5_commonDivisor ms_X5_commonDivisor ml_X5_230 ⟨rfl, rfl, Nat.le_of_ble_eq_true rfl, Nat.le_of_ble_eq_true rfl⟩ rfl rfl (Nat.le_of_ble_eq_true rfl) dX5_canFold_31) ?_
    refine g_top (w := .long (lN (Nat.gcd A B))) rfl ?_
    refine g_lconst 1 dX5_canFold_34 rfl ?_
    refine g_lcmp dX5_canFold_35 ?_
    refine g_at 36 rfl ?_
    refine g_if_neC 63 dX5_canFold_36 (by decide) (fun h36 => ?_) (fun h36 => ?_)
    · skip
      refine g_iconst (nI 0) dX5_canFold_63 rfl ?_
      exact g_ireturn dX5_canFold_64 rfl rfl (by rw [eA, eB, en] at h24; first | (rw [bI_t ⟨hmul.mp h24, hg1.mp h36, ⟨by rw [fa_lt, t0] at h40; omega, by rw [fa_le] at h45; omega⟩, by rw [fa_lt, t0] at h50; omega, by rw [fa_le] at h56; omega⟩]; rfl) | (rw [bI_f (fun q => h24 (hmul.mpr q.1))]; rfl) | (rw [bI_f (fun q => h36 (hg1.mpr q.2.1))]; rfl) | (rw [bI_f (fun q => by obtain ⟨-, -, ⟨q1, q2⟩, q3, q4⟩ := q; simp only [fa_lt, fa_le, t0] at *; omega)]; rfl))
    · refine g_iload_n 3 _ dX5_canFold_39 rfl rfl ?_
      refine g_if_lt 63 dX5_canFold_40 (by decide) (fun h40 => ?_) (fun h40 => ?_)
      · skip
        refine g_iconst (nI 0) dX5_canFold_63 rfl ?_
        exact g_ireturn dX5_canFold_64 rfl rfl (by rw [eA, eB, en] at h24; first | (rw [bI_t ⟨hmul.mp h24, hg1.mp h36, ⟨by rw [fa_lt, t0] at h40; omega, by rw [fa_le] at h45; omega⟩, by rw [fa_lt, t0] at h50; omega, by rw [fa_le] at h56; omega⟩]; rfl) | (rw [bI_f (fun q => h24 (hmul.mpr q.1))]; rfl) | (rw [bI_f (fun q => h36 (hg1.mpr q.2.1))]; rfl) | (rw [bI_f (fun q => by obtain ⟨-, -, ⟨q1, q2⟩, q3, q4⟩ := q; simp only [fa_lt, fa_le, t0] at *; omega)]; rfl))
      · refine g_iload_n 3 _ dX5_canFold_43 rfl rfl ?_
        refine g_iload_n 1 _ dX5_canFold_44 rfl rfl ?_
        refine g_icmp_ge 63 dX5_canFold_45 (by decide) (fun h45 => ?_) (fun h45 => ?_)
        · skip
          refine g_iconst (nI 0) dX5_canFold_63 rfl ?_
          exact g_ireturn dX5_canFold_64 rfl rfl (by rw [eA, eB, en] at h24; first | (rw [bI_t ⟨hmul.mp h24, hg1.mp h36, ⟨by rw [fa_lt, t0] at h40; omega, by rw [fa_le] at h45; omega⟩, by rw [fa_lt, t0] at h50; omega, by rw [fa_le] at h56; omega⟩]; rfl) | (rw [bI_f (fun q => h24 (hmul.mpr q.1))]; rfl) | (rw [bI_f (fun q => h36 (hg1.mpr q.2.1))]; rfl) | (rw [bI_f (fun q => by obtain ⟨-, -, ⟨q1, q2⟩, q3, q4⟩ := q; simp only [fa_lt, fa_le, t0] at *; omega)]; rfl))
        · refine g_iload _ dX5_canFold_48 rfl ?_
          refine g_if_lt 63 dX5_canFold_50 (by decide) (fun h50 => ?_) (fun h50 => ?_)
          · skip
            refine g_iconst (nI 0) dX5_canFold_63 rfl ?_
            exact g_ireturn dX5_canFold_64 rfl rfl (by rw [eA, eB, en] at h24; first | (rw [bI_t ⟨hmul.mp h24, hg1.mp h36, ⟨by rw [fa_lt, t0] at h40; omega, by rw [fa_le] at h45; omega⟩, by rw [fa_lt, t0] at h50; omega, by rw [fa_le] at h56; omega⟩]; rfl) | (rw [bI_f (fun q => h24 (hmul.mpr q.1))]; rfl) | (rw [bI_f (fun q => h36 (hg1.mpr q.2.1))]; rfl) | (rw [bI_f (fun q => by obtain ⟨-, -, ⟨q1, q2⟩, q3, q4⟩ := q; simp only [fa_lt, fa_le, t0] at *; omega)]; rfl))
          · refine g_iload _ dX5_canFold_53 rfl ?_
            refine g_iload_n 2 _ dX5_canFold_55 rfl rfl ?_
            refine g_icmp_ge 63 dX5_canFold_56 (by decide) (fun h56 => ?_) (fun h56 => ?_)
            · skip
              refine g_iconst (nI 0) dX5_canFold_63 rfl ?_
              exact g_ireturn dX5_canFold_64 rfl rfl (by rw [eA, eB, en] at h24; first | (rw [bI_t ⟨hmul.mp h24, hg1.mp h36, ⟨by rw [fa_lt, t0] at h40; omega, by rw [fa_le] at h45; omega⟩, by rw [fa_lt, t0] at h50; omega, by rw [fa_le] at h56; omega⟩]; rfl) | (rw [bI_f (fun q => h24 (hmul.mpr q.1))]; rfl) | (rw [bI_f (fun q => h36 (hg1.mpr q.2.1))]; rfl) | (rw [bI_f (fun q => by obtain ⟨-, -, ⟨q1, q2⟩, q3, q4⟩ := q; simp only [fa_lt, fa_le, t0] at *; omega)]; rfl))
            · refine g_iconst (nI 1) dX5_canFold_59 rfl ?_
              refine g_goto 64 dX5_canFold_60 (by decide) ?_
              exact g_ireturn dX5_canFold_64 rfl rfl (by rw [eA, eB, en] at h24; first | (rw [bI_t ⟨hmul.mp h24, hg1.mp h36, ⟨by rw [fa_lt, t0] at h40; omega, by rw [fa_le] at h45; omega⟩, by rw [fa_lt, t0] at h50; omega, by rw [fa_le] at h56; omega⟩]; rfl) | (rw [bI_f (fun q => h24 (hmul.mpr q.1))]; rfl) | (rw [bI_f (fun q => h36 (hg1.mpr q.2.1))]; rfl) | (rw [bI_f (fun q => by obtain ⟨-, -, ⟨q1, q2⟩, q3, q4⟩ := q; simp only [fa_lt, fa_le, t0] at *; omega)]; rfl))
