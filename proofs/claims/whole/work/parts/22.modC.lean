/-! HoleMaskModel: at, count, turn, anti, common, fold, primes, squares, rests, twins, shift -/
theorem d_at_no (μ : Mm) (a b : Int32) {n : Nat} (hn : μ.1 33 0 = nI n) (h60 : n ≤ 60) (h : ¬ (0 ≤ a.toInt ∧ a.toInt ≤ 2 ∧ 0 ≤ b.toInt ∧ b.toInt < (nI n).toInt)) : Ok mX6_at (rmL 1) [.ref 33, .int a, .int b] μ (some (.int (nI 0)), sI (sI μ 33 15 0) 33 15 (nI 1)) := by
  refine Ok.of (by decide) (Nat.le_of_ble_eq_true rfl) [some (.ref 33), some (.int a), some (.int b)] rfl ?_
  refine g_aload_n 0 _ dX6_at_0 rfl rfl ?_
  refine g_iconst (nI 0) dX6_at_1 rfl ?_
  refine gp_X6_58 rfl dX6_at_2 ?_
  refine g_iload_n 1 _ dX6_at_5 rfl rfl ?_
  refine g_if_lt 36 dX6_at_6 (by decide) (fun h6 => ?_) (fun h6 => ?_)
  · refine g_aload_n 0 _ dX6_at_36 rfl rfl ?_
    refine g_iconst (nI 1) dX6_at_37 rfl ?_
    refine gp_X6_58 rfl dX6_at_38 ?_
    refine g_iconst (nI 0) dX6_at_41 rfl ?_
    exact g_ireturn dX6_at_42 rfl rfl rfl
  · refine g_iload_n 1 _ dX6_at_9 rfl rfl ?_
    refine g_iconst (nI 2) dX6_at_10 rfl ?_
    refine g_icmp_gt 36 dX6_at_11 (by decide) (fun h11 => ?_) (fun h11 => ?_)
    · refine g_aload_n 0 _ dX6_at_36 rfl rfl ?_
      refine g_iconst (nI 1) dX6_at_37 rfl ?_
      refine gp_X6_58 rfl dX6_at_38 ?_
      refine g_iconst (nI 0) dX6_at_41 rfl ?_
      exact g_ireturn dX6_at_42 rfl rfl rfl
    · refine g_aload_n 0 _ dX6_at_14 rfl rfl ?_
      refine g_iload_n 2 _ dX6_at_15 rfl rfl ?_
      refine g_backi (g_runV (d_isPlace (sI μ 33 15 (nI 0)) b (n := n) hn) rfl mw_X6_isPlace mi_X6_isPlace ml_X6_94 isO_33 ⟨rfl, rfl, Nat.le_of_ble_eq_true rfl, Nat.le_of_ble_eq_true rfl⟩ rfl rfl (Nat.le_of_ble_eq_true rfl) dX6_at_16) ?_
      refine g_top (w := .int (bI (¬ b < 0 ∧ b < nI n))) rfl ?_
      refine g_if_eqB 36 dX6_at_19 (by decide) (fun h19 => ?_) (fun h19 => ?_)
      · refine g_aload_n 0 _ dX6_at_36 rfl rfl ?_
        refine g_iconst (nI 1) dX6_at_37 rfl ?_
        refine gp_X6_58 rfl dX6_at_38 ?_
        refine g_iconst (nI 0) dX6_at_41 rfl ?_
        exact g_ireturn dX6_at_42 rfl rfl rfl
      · exfalso; simp only [ne_eq, fa_lt, fa_le, fa_eq, t0, t1, t2, tm1, nt0, nt1, nt2, nt3, nt4, nt5, nt7, nt9, nt10, nt13, nt14, nt30, nt32, nt59, nt60, nt200, nt1000, nt1000000, nt1073741824] at *; omega
theorem d_at_01 (μ : Mm) {w j n : Nat} (hn : μ.1 33 0 = nI n) (h60 : n ≤ 60) (hw : w < 2) (hj : j < n) : Ok mX6_at (rmL 1) [.ref 33, .int (nI w), .int (nI j)] μ (some (.int (μ.1 (34 + w) j)), sI μ 33 15 0) := by
  refine Ok.of (by decide) (Nat.le_of_ble_eq_true rfl) [some (.ref 33), some (.int (nI w)), some (.int (nI j))] rfl ?_
  have e0 : w = 0 → μ.1 34 j = μ.1 (34 + w) j := fun h => by rw [h]
  have e1 : w = 1 → μ.1 35 j = μ.1 (34 + w) j := fun h => by rw [h]
  refine g_aload_n 0 _ dX6_at_0 rfl rfl ?_
  refine g_iconst (nI 0) dX6_at_1 rfl ?_
  refine gp_X6_58 rfl dX6_at_2 ?_
  refine g_iload_n 1 _ dX6_at_5 rfl rfl ?_
  refine g_if_ltN 36 (by omega) dX6_at_6 (by decide) ?_
  refine g_iload_n 1 _ dX6_at_9 rfl rfl ?_
  refine g_iconst (nI 2) dX6_at_10 rfl ?_
  refine g_at 11 rfl ?_
  refine g_icmp_gtN 36 (by omega) (by omega) dX6_at_11 (by decide) (fun h11 => ?_) (fun h11 => ?_)
  · exact absurd h11 (by omega)
  · refine g_aload_n 0 _ dX6_at_14 rfl rfl ?_
    refine g_iload_n 2 _ dX6_at_15 rfl rfl ?_
    refine g_backi (g_runV ((d_isPlace (sI μ 33 15 (nI 0)) (nI j) (n := n) hn).to (by rw [bI_t ⟨nI_pos (by omega), nI_lt hj (by omega)⟩])) rfl mw_X6_isPlace mi_X6_isPlace ml_X6_94 isO_33 ⟨rfl, rfl, Nat.le_of_ble_eq_true rfl, Nat.le_of_ble_eq_true rfl⟩ rfl rfl (Nat.le_of_ble_eq_true rfl) dX6_at_16) ?_
    refine g_top (w := .int 1) rfl ?_
    refine g_if_eq 36 dX6_at_19 (by decide) (fun h19 => ?_) (fun h19 => ?_)
    · exact absurd h19 (by decide)
    · refine g_iload_n 1 _ dX6_at_22 rfl rfl ?_
      refine g_iconst (nI 2) dX6_at_23 rfl ?_
      refine g_icmp_neN 43 (by omega) (by omega) dX6_at_24 (by decide) (fun h24 => ?_) (fun h24 => ?_)
      · refine g_iload_n 1 _ dX6_at_43 rfl rfl ?_
        refine g_if_neN 56 (by omega) dX6_at_44 (by decide) (fun h44 => ?_) (fun h44 => ?_)
        · refine g_iload_n 1 _ dX6_at_56 rfl rfl ?_
          refine g_iconst (nI 1) dX6_at_57 rfl ?_
          refine g_icmp_neN 70 (by omega) (by omega) dX6_at_58 (by decide) (fun h58 => ?_) (fun h58 => ?_)
          · exact absurd h58 (by omega)
          · refine g_aload_n 0 _ dX6_at_61 rfl rfl ?_
            refine gf_X6_17 rfl dX6_at_62 ?_
            refine g_iload_n 2 _ dX6_at_65 rfl rfl ?_
            refine g_iaload (j := j) isI_35 (rfl) (by omega) (by omega) dX6_at_66 ?_
            refine g_goto 76 dX6_at_67 (by decide) ?_
            exact g_ireturn dX6_at_76 rfl rfl (by first | rw [← e0 h44]; rfl | rw [← e1 h58]; rfl)
        · refine g_aload_n 0 _ dX6_at_47 rfl rfl ?_
          refine gf_X6_13 rfl dX6_at_48 ?_
          refine g_iload_n 2 _ dX6_at_51 rfl rfl ?_
          refine g_iaload (j := j) isI_34 (rfl) (by omega) (by omega) dX6_at_52 ?_
          refine g_goto 76 dX6_at_53 (by decide) ?_
          exact g_ireturn dX6_at_76 rfl rfl (by first | rw [← e0 h44]; rfl | rw [← e1 h58]; rfl)
      · exact absurd h24 (by omega)
theorem d_at_2 (μ : Mm) {j n : Nat} (hn : μ.1 33 0 = nI n) (h60 : n ≤ 60) (hj : j < n) (hz : μ.1 37 j = 0) : Ok mX6_at (rmL 1) [.ref 33, .int (nI 2), .int (nI j)] μ (some (.int (μ.1 36 j)), sI μ 33 15 0) := by
  refine Ok.of (by decide) (Nat.le_of_ble_eq_true rfl) [some (.ref 33), some (.int (nI 2)), some (.int (nI j))] rfl ?_
  refine g_aload_n 0 _ dX6_at_0 rfl rfl ?_
  refine g_iconst (nI 0) dX6_at_1 rfl ?_
  refine gp_X6_58 rfl dX6_at_2 ?_
  refine g_iload_n 1 _ dX6_at_5 rfl rfl ?_
  refine g_if_ltN 36 (by omega) dX6_at_6 (by decide) ?_
  refine g_iload_n 1 _ dX6_at_9 rfl rfl ?_
  refine g_iconst (nI 2) dX6_at_10 rfl ?_
  refine g_at 11 rfl ?_
  refine g_icmp_gtN 36 (by omega) (by omega) dX6_at_11 (by decide) (fun h11 => ?_) (fun h11 => ?_)
  · exact absurd h11 (by omega)
  · refine g_aload_n 0 _ dX6_at_14 rfl rfl ?_
    refine g_iload_n 2 _ dX6_at_15 rfl rfl ?_
    refine g_backi (g_runV ((d_isPlace (sI μ 33 15 (nI 0)) (nI j) (n := n) hn).to (by rw [bI_t ⟨nI_pos (by omega), nI_lt hj (by omega)⟩])) rfl mw_X6_isPlace mi_X6_isPlace ml_X6_94 isO_33 ⟨rfl, rfl, Nat.le_of_ble_eq_true rfl, Nat.le_of_ble_eq_true rfl⟩ rfl rfl (Nat.le_of_ble_eq_true rfl) dX6_at_16) ?_
    refine g_top (w := .int 1) rfl ?_
    refine g_if_eq 36 dX6_at_19 (by decide) (fun h19 => ?_) (fun h19 => ?_)
    · exact absurd h19 (by decide)
    · refine g_iload_n 1 _ dX6_at_22 rfl rfl ?_
      refine g_iconst (nI 2) dX6_at_23 rfl ?_
      refine g_icmp_neN 43 (by omega) (by omega) dX6_at_24 (by decide) (fun h24 => ?_) (fun h24 => ?_)
      · exact absurd h24 (by omega)
      · refine g_aload_n 0 _ dX6_at_27 rfl rfl ?_
        refine gf_X6_23 rfl dX6_at_28 ?_
        refine g_iload_n 2 _ dX6_at_31 rfl rfl ?_
        refine g_baload (j := j) isZ_37 (rfl) (by omega) (by omega) dX6_at_32 ?_
        refine g_if_eq 43 dX6_at_33 (by decide) (fun h33 => ?_) (fun h33 => ?_)
        · refine g_iload_n 1 _ dX6_at_43 rfl rfl ?_
          refine g_if_neN 56 (by omega) dX6_at_44 (by decide) (fun h44 => ?_) (fun h44 => ?_)
          · refine g_iload_n 1 _ dX6_at_56 rfl rfl ?_
            refine g_iconst (nI 1) dX6_at_57 rfl ?_
            refine g_icmp_neN 70 (by omega) (by omega) dX6_at_58 (by decide) (fun h58 => ?_) (fun h58 => ?_)
            · refine g_aload_n 0 _ dX6_at_70 rfl rfl ?_
              refine gf_X6_20 rfl dX6_at_71 ?_
              refine g_iload_n 2 _ dX6_at_74 rfl rfl ?_
              refine g_iaload (j := j) isI_36 (rfl) (by omega) (by omega) dX6_at_75 ?_
              exact g_ireturn dX6_at_76 rfl rfl rfl
            · exact absurd h58 (by omega)
          · exact absurd h44 (by omega)
        · exact absurd hz h33
theorem d_at_m (μ : Mm) {j n : Nat} (hn : μ.1 33 0 = nI n) (h60 : n ≤ 60) (hj : j < n) (hz : μ.1 37 j ≠ 0) : Ok mX6_at (rmL 1) [.ref 33, .int (nI 2), .int (nI j)] μ (some (.int (nI 0)), sI (sI μ 33 15 0) 33 15 (nI 1)) := by
  refine Ok.of (by decide) (Nat.le_of_ble_eq_true rfl) [some (.ref 33), some (.int (nI 2)), some (.int (nI j))] rfl ?_
  refine g_aload_n 0 _ dX6_at_0 rfl rfl ?_
  refine g_iconst (nI 0) dX6_at_1 rfl ?_
  refine gp_X6_58 rfl dX6_at_2 ?_
  refine g_iload_n 1 _ dX6_at_5 rfl rfl ?_
  refine g_if_ltN 36 (by omega) dX6_at_6 (by decide) ?_
  refine g_iload_n 1 _ dX6_at_9 rfl rfl ?_
  refine g_iconst (nI 2) dX6_at_10 rfl ?_
  refine g_at 11 rfl ?_
  refine g_icmp_gtN 36 (by omega) (by omega) dX6_at_11 (by decide) (fun h11 => ?_) (fun h11 => ?_)
  · exact absurd h11 (by omega)
  · refine g_aload_n 0 _ dX6_at_14 rfl rfl ?_
    refine g_iload_n 2 _ dX6_at_15 rfl rfl ?_
    refine g_backi (g_runV ((d_isPlace (sI μ 33 15 (nI 0)) (nI j) (n := n) hn).to (by rw [bI_t ⟨nI_pos (by omega), nI_lt hj (by omega)⟩])) rfl mw_X6_isPlace mi_X6_isPlace ml_X6_94 isO_33 ⟨rfl, rfl, Nat.le_of_ble_eq_true rfl, Nat.le_of_ble_eq_true rfl⟩ rfl rfl (Nat.le_of_ble_eq_true rfl) dX6_at_16) ?_
    refine g_top (w := .int 1) rfl ?_
    refine g_if_eq 36 dX6_at_19 (by decide) (fun h19 => ?_) (fun h19 => ?_)
    · exact absurd h19 (by decide)
    · refine g_iload_n 1 _ dX6_at_22 rfl rfl ?_
      refine g_iconst (nI 2) dX6_at_23 rfl ?_
      refine g_icmp_neN 43 (by omega) (by omega) dX6_at_24 (by decide) (fun h24 => ?_) (fun h24 => ?_)
      · exact absurd h24 (by omega)
      · refine g_aload_n 0 _ dX6_at_27 rfl rfl ?_
        refine gf_X6_23 rfl dX6_at_28 ?_
        refine g_iload_n 2 _ dX6_at_31 rfl rfl ?_
        refine g_baload (j := j) isZ_37 (rfl) (by omega) (by omega) dX6_at_32 ?_
        refine g_if_eq 43 dX6_at_33 (by decide) (fun h33 => ?_) (fun h33 => ?_)
        · exact absurd h33 hz
        · refine g_aload_n 0 _ dX6_at_36 rfl rfl ?_
          refine g_iconst (nI 1) dX6_at_37 rfl ?_
          refine gp_X6_58 rfl dX6_at_38 ?_
          refine g_iconst (nI 0) dX6_at_41 rfl ?_
          exact g_ireturn dX6_at_42 rfl rfl rfl
theorem d_count_l1 {μ : Mm} {n : Nat} (hn : μ.1 33 0 = nI n) (h60 : n ≤ 60) : ∀ (m i c : Nat), i ≤ n → n < i + m → c = fa_cnt (fun i => decide (μ.1 34 i = nI 1)) i → G mX6_count (rmL 2) (some (.int (nI (fa_cnt (fun i => decide (μ.1 34 i = nI 1)) n))), μ) μ 59 [some (.ref 33), some (.int (nI 1)), some (.int (nI c)), some (.int (nI i))] [] := by
  intro m
  induction m with
  | zero => exact fun i c h1 h2 => absurd h2 (by omega)
  | succ m ih =>
    intro i c h1 h2 hc
    refine g_iload_n 3 _ dX6_count_59 rfl rfl ?_
    refine g_aload_n 0 _ dX6_count_60 rfl rfl ?_
    refine gf_X6_7 rfl dX6_count_61 ?_
    refine g_top (w := .int (nI n)) (congrArg Value.int hn) ?_
    refine g_icmp_geN 86 (by omega) (by omega) dX6_count_64 (by decide) (fun h64 => ?_) (fun h64 => ?_)
    · refine g_iload_n 2 _ dX6_count_86 rfl rfl ?_
      exact g_ireturn dX6_count_87 rfl rfl (by rw [hc, show i = n by omega])
    · refine g_aload_n 0 _ dX6_count_67 rfl rfl ?_
      refine gf_X6_13 rfl dX6_count_68 ?_
      refine g_iload_n 3 _ dX6_count_71 rfl rfl ?_
      refine g_iaload (j := i) isI_34 (rfl) (by omega) (by omega) dX6_count_72 ?_
      refine g_iconst (nI 1) dX6_count_73 rfl ?_
      refine g_icmp_ne 80 dX6_count_74 (by decide) (fun h74 => ?_) (fun h74 => ?_)
      · refine g_iincN [some (.ref 33), some (.int (nI 1)), some (.int (nI c)), some (.int (nI (i + 1)))] dX6_count_80 rfl (Nat.le_of_ble_eq_true rfl) rfl rfl ?_
        refine g_goto 59 dX6_count_83 (by decide) ?_
        exact ih (i + 1) _ (by omega) (by omega) (by simp_all [fa_cnt])
      · refine g_iincN [some (.ref 33), some (.int (nI 1)), some (.int (nI (c + 1))), some (.int (nI i))] dX6_count_77 rfl (Nat.le_of_ble_eq_true rfl) rfl rfl ?_
        refine g_iincN [some (.ref 33), some (.int (nI 1)), some (.int (nI (c + 1))), some (.int (nI (i + 1)))] dX6_count_80 rfl (Nat.le_of_ble_eq_true rfl) rfl rfl ?_
        refine g_goto 59 dX6_count_83 (by decide) ?_
        exact ih (i + 1) _ (by omega) (by omega) (by simp_all [fa_cnt])
theorem d_count_l2 {μ : Mm} {n : Nat} (hn : μ.1 33 0 = nI n) (h60 : n ≤ 60) : ∀ (m i c : Nat), i ≤ n → n < i + m → c = fa_cnt (fun i => decide (μ.1 34 i = -1)) i → G mX6_count (rmL 2) (some (.int (nI (fa_cnt (fun i => decide (μ.1 34 i = -1)) n))), μ) μ 90 [some (.ref 33), some (.int (nI 2)), some (.int (nI c)), some (.int (nI i))] [] := by
  intro m
  induction m with
  | zero => exact fun i c h1 h2 => absurd h2 (by omega)
  | succ m ih =>
    intro i c h1 h2 hc
    refine g_iload_n 3 _ dX6_count_90 rfl rfl ?_
    refine g_aload_n 0 _ dX6_count_91 rfl rfl ?_
    refine gf_X6_7 rfl dX6_count_92 ?_
    refine g_top (w := .int (nI n)) (congrArg Value.int hn) ?_
    refine g_icmp_geN 117 (by omega) (by omega) dX6_count_95 (by decide) (fun h95 => ?_) (fun h95 => ?_)
    · refine g_iload_n 2 _ dX6_count_117 rfl rfl ?_
      exact g_ireturn dX6_count_118 rfl rfl (by rw [hc, show i = n by omega])
    · refine g_aload_n 0 _ dX6_count_98 rfl rfl ?_
      refine gf_X6_13 rfl dX6_count_99 ?_
      refine g_iload_n 3 _ dX6_count_102 rfl rfl ?_
      refine g_iaload (j := i) isI_34 (rfl) (by omega) (by omega) dX6_count_103 ?_
      refine g_iconst (-1) dX6_count_104 rfl ?_
      refine g_icmp_ne 111 dX6_count_105 (by decide) (fun h105 => ?_) (fun h105 => ?_)
      · refine g_iincN [some (.ref 33), some (.int (nI 2)), some (.int (nI c)), some (.int (nI (i + 1)))] dX6_count_111 rfl (Nat.le_of_ble_eq_true rfl) rfl rfl ?_
        refine g_goto 90 dX6_count_114 (by decide) ?_
        exact ih (i + 1) _ (by omega) (by omega) (by simp_all [fa_cnt])
      · refine g_iincN [some (.ref 33), some (.int (nI 2)), some (.int (nI (c + 1))), some (.int (nI i))] dX6_count_108 rfl (Nat.le_of_ble_eq_true rfl) rfl rfl ?_
        refine g_iincN [some (.ref 33), some (.int (nI 2)), some (.int (nI (c + 1))), some (.int (nI (i + 1)))] dX6_count_111 rfl (Nat.le_of_ble_eq_true rfl) rfl rfl ?_
        refine g_goto 90 dX6_count_114 (by decide) ?_
        exact ih (i + 1) _ (by omega) (by omega) (by simp_all [fa_cnt])
theorem d_count_l3 {μ : Mm} {n : Nat} (hn : μ.1 33 0 = nI n) (h60 : n ≤ 60) : ∀ (m i c : Nat), i ≤ n → n < i + m → c = fa_cnt (fun i => decide (μ.1 37 i ≠ 0)) i → G mX6_count (rmL 2) (some (.int (nI (fa_cnt (fun i => decide (μ.1 37 i ≠ 0)) n))), μ) μ 121 [some (.ref 33), some (.int (nI 3)), some (.int (nI c)), some (.int (nI i))] [] := by
  intro m
  induction m with
  | zero => exact fun i c h1 h2 => absurd h2 (by omega)
  | succ m ih =>
    intro i c h1 h2 hc
    refine g_iload_n 3 _ dX6_count_121 rfl rfl ?_
    refine g_aload_n 0 _ dX6_count_122 rfl rfl ?_
    refine gf_X6_7 rfl dX6_count_123 ?_
    refine g_top (w := .int (nI n)) (congrArg Value.int hn) ?_
    refine g_icmp_geN 147 (by omega) (by omega) dX6_count_126 (by decide) (fun h126 => ?_) (fun h126 => ?_)
    · refine g_iload_n 2 _ dX6_count_147 rfl rfl ?_
      exact g_ireturn dX6_count_148 rfl rfl (by rw [hc, show i = n by omega])
    · refine g_aload_n 0 _ dX6_count_129 rfl rfl ?_
      refine gf_X6_23 rfl dX6_count_130 ?_
      refine g_iload_n 3 _ dX6_count_133 rfl rfl ?_
      refine g_baload (j := i) isZ_37 (rfl) (by omega) (by omega) dX6_count_134 ?_
      refine g_if_eq 141 dX6_count_135 (by decide) (fun h135 => ?_) (fun h135 => ?_)
      · refine g_iincN [some (.ref 33), some (.int (nI 3)), some (.int (nI c)), some (.int (nI (i + 1)))] dX6_count_141 rfl (Nat.le_of_ble_eq_true rfl) rfl rfl ?_
        refine g_goto 121 dX6_count_144 (by decide) ?_
        exact ih (i + 1) _ (by omega) (by omega) (by simp_all [fa_cnt])
      · refine g_iincN [some (.ref 33), some (.int (nI 3)), some (.int (nI (c + 1))), some (.int (nI i))] dX6_count_138 rfl (Nat.le_of_ble_eq_true rfl) rfl rfl ?_
        refine g_iincN [some (.ref 33), some (.int (nI 3)), some (.int (nI (c + 1))), some (.int (nI (i + 1)))] dX6_count_141 rfl (Nat.le_of_ble_eq_true rfl) rfl rfl ?_
        refine g_goto 121 dX6_count_144 (by decide) ?_
        exact ih (i + 1) _ (by omega) (by omega) (by simp_all [fa_cnt])
theorem d_count_no (μ : Mm) (a : Int32) (h : a.toInt < 0 ∨ 7 < a.toInt) : Ok mX6_count (rmL 2) [.ref 33, .int a] μ (some (.int (-1)), sI (sI μ 33 14 0) 33 14 (nI 1)) := by
  refine Ok.of (by decide) (Nat.le_of_ble_eq_true rfl) [some (.ref 33), some (.int a), none, none] rfl ?_
  refine g_aload_n 0 _ dX6_count_0 rfl rfl ?_
  refine g_backv (g_runV (d_start μ) rfl mw_X6_start mi_X6_start ml_X6_68 isO_33 ⟨rfl, rfl, Nat.le_of_ble_eq_true rfl, Nat.le_of_ble_eq_true rfl⟩ rfl rfl (Nat.le_of_ble_eq_true rfl) dX6_count_1) ?_
  refine g_mem (μ' := sI μ 33 14 0) rfl ?_
  refine g_iconst (nI 0) dX6_count_4 rfl ?_
  refine g_istore_n [some (.ref 33), some (.int a), some (.int (nI 0)), none] dX6_count_5 rfl (Nat.le_of_ble_eq_true rfl) rfl rfl ?_
  refine g_iload_n 1 _ dX6_count_6 rfl rfl ?_
  refine g_tableOut 190 dX6_count_7 (by omega) (by decide) ?_
  refine g_aload_n 0 _ dX6_count_190 rfl rfl ?_
  refine g_iconst (nI 1) dX6_count_191 rfl ?_
  refine g_backi (g_runV (d_no (sI μ 33 14 0) (nI 1)) rfl mw_X6_no mi_X6_no ml_X6_79 isO_33 ⟨rfl, rfl, Nat.le_of_ble_eq_true rfl, Nat.le_of_ble_eq_true rfl⟩ rfl rfl (Nat.le_of_ble_eq_true rfl) dX6_count_192) ?_
  refine g_mem (μ' := sI (sI μ 33 14 0) 33 14 (nI 1)) rfl ?_
  refine g_top (w := .int (-1)) rfl ?_
  exact g_ireturn dX6_count_195 rfl rfl rfl
theorem d_count_0 (μ : Mm) : Ok mX6_count (rmL 2) [.ref 33, .int (nI 0)] μ (some (.int (μ.1 33 0)), sI μ 33 14 0) := by
  refine Ok.of (by decide) (Nat.le_of_ble_eq_true rfl) [some (.ref 33), some (.int (nI 0)), none, none] rfl ?_
  refine g_aload_n 0 _ dX6_count_0 rfl rfl ?_
  refine g_backv (g_runV (d_start μ) rfl mw_X6_start mi_X6_start ml_X6_68 isO_33 ⟨rfl, rfl, Nat.le_of_ble_eq_true rfl, Nat.le_of_ble_eq_true rfl⟩ rfl rfl (Nat.le_of_ble_eq_true rfl) dX6_count_1) ?_
  refine g_mem (μ' := sI μ 33 14 0) rfl ?_
  refine g_iconst (nI 0) dX6_count_4 rfl ?_
  refine g_istore_n [some (.ref 33), some (.int (nI 0)), some (.int (nI 0)), none] dX6_count_5 rfl (Nat.le_of_ble_eq_true rfl) rfl rfl ?_
  refine g_iload_n 1 _ dX6_count_6 rfl rfl ?_
  refine g_tableIn 52 dX6_count_7 (by decide) (by decide) rfl (by decide) ?_
  refine g_aload_n 0 _ dX6_count_52 rfl rfl ?_
  refine gf_X6_7 rfl dX6_count_53 ?_
  exact g_ireturn dX6_count_56 rfl rfl rfl
theorem d_count_1 (μ : Mm) {n : Nat} (hn : μ.1 33 0 = nI n) (h60 : n ≤ 60) : Ok mX6_count (rmL 2) [.ref 33, .int (nI 1)] μ (some (.int (nI (fa_cnt (fun i => decide (μ.1 34 i = nI 1)) n))), sI μ 33 14 0) := by
  refine Ok.of (by decide) (Nat.le_of_ble_eq_true rfl) [some (.ref 33), some (.int (nI 1)), none, none] rfl ?_
  refine g_aload_n 0 _ dX6_count_0 rfl rfl ?_
  refine g_backv (g_runV (d_start μ) rfl mw_X6_start mi_X6_start ml_X6_68 isO_33 ⟨rfl, rfl, Nat.le_of_ble_eq_true rfl, Nat.le_of_ble_eq_true rfl⟩ rfl rfl (Nat.le_of_ble_eq_true rfl) dX6_count_1) ?_
  refine g_mem (μ' := sI μ 33 14 0) rfl ?_
  refine g_iconst (nI 0) dX6_count_4 rfl ?_
  refine g_istore_n [some (.ref 33), some (.int (nI 1)), some (.int (nI 0)), none] dX6_count_5 rfl (Nat.le_of_ble_eq_true rfl) rfl rfl ?_
  refine g_iload_n 1 _ dX6_count_6 rfl rfl ?_
  refine g_tableIn 57 dX6_count_7 (by decide) (by decide) rfl (by decide) ?_
  refine g_iconst (nI 0) dX6_count_57 rfl ?_
  refine g_istore_n [some (.ref 33), some (.int (nI 1)), some (.int (nI 0)), some (.int (nI 0))] dX6_count_58 rfl (Nat.le_of_ble_eq_true rfl) rfl rfl ?_
  exact d_count_l1 (μ := sI μ 33 14 0) hn h60 (n + 1) 0 0 (by omega) (by omega) rfl
theorem d_count_2 (μ : Mm) {n : Nat} (hn : μ.1 33 0 = nI n) (h60 : n ≤ 60) : Ok mX6_count (rmL 2) [.ref 33, .int (nI 2)] μ (some (.int (nI (fa_cnt (fun i => decide (μ.1 34 i = -1)) n))), sI μ 33 14 0) := by
  refine Ok.of (by decide) (Nat.le_of_ble_eq_true rfl) [some (.ref 33), some (.int (nI 2)), none, none] rfl ?_
  refine g_aload_n 0 _ dX6_count_0 rfl rfl ?_
  refine g_backv (g_runV (d_start μ) rfl mw_X6_start mi_X6_start ml_X6_68 isO_33 ⟨rfl, rfl, Nat.le_of_ble_eq_true rfl, Nat.le_of_ble_eq_true rfl⟩ rfl rfl (Nat.le_of_ble_eq_true rfl) dX6_count_1) ?_
  refine g_mem (μ' := sI μ 33 14 0) rfl ?_
  refine g_iconst (nI 0) dX6_count_4 rfl ?_
  refine g_istore_n [some (.ref 33), some (.int (nI 2)), some (.int (nI 0)), none] dX6_count_5 rfl (Nat.le_of_ble_eq_true rfl) rfl rfl ?_
  refine g_iload_n 1 _ dX6_count_6 rfl rfl ?_
  refine g_tableIn 88 dX6_count_7 (by decide) (by decide) rfl (by decide) ?_
  refine g_iconst (nI 0) dX6_count_88 rfl ?_
  refine g_istore_n [some (.ref 33), some (.int (nI 2)), some (.int (nI 0)), some (.int (nI 0))] dX6_count_89 rfl (Nat.le_of_ble_eq_true rfl) rfl rfl ?_
  exact d_count_l2 (μ := sI μ 33 14 0) hn h60 (n + 1) 0 0 (by omega) (by omega) rfl
theorem d_count_3 (μ : Mm) {n : Nat} (hn : μ.1 33 0 = nI n) (h60 : n ≤ 60) : Ok mX6_count (rmL 2) [.ref 33, .int (nI 3)] μ (some (.int (nI (fa_cnt (fun i => decide (μ.1 37 i ≠ 0)) n))), sI μ 33 14 0) := by
  refine Ok.of (by decide) (Nat.le_of_ble_eq_true rfl) [some (.ref 33), some (.int (nI 3)), none, none] rfl ?_
  refine g_aload_n 0 _ dX6_count_0 rfl rfl ?_
  refine g_backv (g_runV (d_start μ) rfl mw_X6_start mi_X6_start ml_X6_68 isO_33 ⟨rfl, rfl, Nat.le_of_ble_eq_true rfl, Nat.le_of_ble_eq_true rfl⟩ rfl rfl (Nat.le_of_ble_eq_true rfl) dX6_count_1) ?_
  refine g_mem (μ' := sI μ 33 14 0) rfl ?_
  refine g_iconst (nI 0) dX6_count_4 rfl ?_
  refine g_istore_n [some (.ref 33), some (.int (nI 3)), some (.int (nI 0)), none] dX6_count_5 rfl (Nat.le_of_ble_eq_true rfl) rfl rfl ?_
  refine g_iload_n 1 _ dX6_count_6 rfl rfl ?_
  refine g_tableIn 119 dX6_count_7 (by decide) (by decide) rfl (by decide) ?_
  refine g_iconst (nI 0) dX6_count_119 rfl ?_
  refine g_istore_n [some (.ref 33), some (.int (nI 3)), some (.int (nI 0)), some (.int (nI 0))] dX6_count_120 rfl (Nat.le_of_ble_eq_true rfl) rfl rfl ?_
  exact d_count_l3 (μ := sI μ 33 14 0) hn h60 (n + 1) 0 0 (by omega) (by omega) rfl
theorem d_count_4 (μ : Mm) {n : Nat} (hn : μ.1 33 0 = nI n) (h60 : n ≤ 60) : Ok mX6_count (rmL 2) [.ref 33, .int (nI 4)] μ (some (.int (bI (offF (μ.1 34) n = -1))), sI μ 33 14 0) := by
  refine Ok.of (by decide) (Nat.le_of_ble_eq_true rfl) [some (.ref 33), some (.int (nI 4)), none, none] rfl ?_
  refine g_aload_n 0 _ dX6_count_0 rfl rfl ?_
  refine g_backv (g_runV (d_start μ) rfl mw_X6_start mi_X6_start ml_X6_68 isO_33 ⟨rfl, rfl, Nat.le_of_ble_eq_true rfl, Nat.le_of_ble_eq_true rfl⟩ rfl rfl (Nat.le_of_ble_eq_true rfl) dX6_count_1) ?_
  refine g_mem (μ' := sI μ 33 14 0) rfl ?_
  refine g_iconst (nI 0) dX6_count_4 rfl ?_
  refine g_istore_n [some (.ref 33), some (.int (nI 4)), some (.int (nI 0)), none] dX6_count_5 rfl (Nat.le_of_ble_eq_true rfl) rfl rfl ?_
  refine g_iload_n 1 _ dX6_count_6 rfl rfl ?_
  refine g_tableIn 149 dX6_count_7 (by decide) (by decide) rfl (by decide) ?_
  refine g_aload_n 0 _ dX6_count_149 rfl rfl ?_
  refine g_backi (g_runV (d_firstOff (sI μ 33 14 0) (n := n) hn h60) rfl mw_X6_firstOff mi_X6_firstOff ml_X6_100 isO_33 ⟨rfl, rfl, Nat.le_of_ble_eq_true rfl, Nat.le_of_ble_eq_true rfl⟩ rfl rfl (Nat.le_of_ble_eq_true rfl) dX6_count_150) ?_
  refine g_top (w := .int (offF (μ.1 34) n)) rfl ?_
  refine g_iconst (-1) dX6_count_153 rfl ?_
  refine g_icmp_ne 161 dX6_count_154 (by decide) (fun h154 => ?_) (fun h154 => ?_)
  · refine g_iconst (nI 0) dX6_count_161 rfl ?_
    exact g_ireturn dX6_count_162 rfl rfl (by first | rw [bI_t h154]; rfl | rw [bI_f h154]; rfl)
  · refine g_iconst (nI 1) dX6_count_157 rfl ?_
    refine g_goto 162 dX6_count_158 (by decide) ?_
    exact g_ireturn dX6_count_162 rfl rfl (by first | rw [bI_t h154]; rfl | rw [bI_f h154]; rfl)
theorem d_count_5 (μ : Mm) : Ok mX6_count (rmL 2) [.ref 33, .int (nI 5)] μ (some (.int (μ.1 33 10)), sI μ 33 14 0) := by
  refine Ok.of (by decide) (Nat.le_of_ble_eq_true rfl) [some (.ref 33), some (.int (nI 5)), none, none] rfl ?_
  refine g_aload_n 0 _ dX6_count_0 rfl rfl ?_
  refine g_backv (g_runV (d_start μ) rfl mw_X6_start mi_X6_start ml_X6_68 isO_33 ⟨rfl, rfl, Nat.le_of_ble_eq_true rfl, Nat.le_of_ble_eq_true rfl⟩ rfl rfl (Nat.le_of_ble_eq_true rfl) dX6_count_1) ?_
  refine g_mem (μ' := sI μ 33 14 0) rfl ?_
  refine g_iconst (nI 0) dX6_count_4 rfl ?_
  refine g_istore_n [some (.ref 33), some (.int (nI 5)), some (.int (nI 0)), none] dX6_count_5 rfl (Nat.le_of_ble_eq_true rfl) rfl rfl ?_
  refine g_iload_n 1 _ dX6_count_6 rfl rfl ?_
  refine g_tableIn 163 dX6_count_7 (by decide) (by decide) rfl (by decide) ?_
  refine g_aload_n 0 _ dX6_count_163 rfl rfl ?_
  refine gf_X6_37 rfl dX6_count_164 ?_
  exact g_ireturn dX6_count_167 rfl rfl rfl
theorem d_count_6 (μ : Mm) : Ok mX6_count (rmL 2) [.ref 33, .int (nI 6)] μ (some (.int (if μ.1 33 5 = -1 then -1 else μ.1 33 6)), sI μ 33 14 0) := by
  refine Ok.of (by decide) (Nat.le_of_ble_eq_true rfl) [some (.ref 33), some (.int (nI 6)), none, none] rfl ?_
  refine g_aload_n 0 _ dX6_count_0 rfl rfl ?_
  refine g_backv (g_runV (d_start μ) rfl mw_X6_start mi_X6_start ml_X6_68 isO_33 ⟨rfl, rfl, Nat.le_of_ble_eq_true rfl, Nat.le_of_ble_eq_true rfl⟩ rfl rfl (Nat.le_of_ble_eq_true rfl) dX6_count_1) ?_
  refine g_mem (μ' := sI μ 33 14 0) rfl ?_
  refine g_iconst (nI 0) dX6_count_4 rfl ?_
  refine g_istore_n [some (.ref 33), some (.int (nI 6)), some (.int (nI 0)), none] dX6_count_5 rfl (Nat.le_of_ble_eq_true rfl) rfl rfl ?_
  refine g_iload_n 1 _ dX6_count_6 rfl rfl ?_
  refine g_tableIn 168 dX6_count_7 (by decide) (by decide) rfl (by decide) ?_
  refine g_aload_n 0 _ dX6_count_168 rfl rfl ?_
  refine gf_X6_27 rfl dX6_count_169 ?_
  refine g_iconst (-1) dX6_count_172 rfl ?_
  refine g_icmp_ne 180 dX6_count_173 (by decide) (fun h173 => ?_) (fun h173 => ?_)
  · refine g_aload_n 0 _ dX6_count_180 rfl rfl ?_
    refine gf_X6_83 rfl dX6_count_181 ?_
    exact g_ireturn dX6_count_184 rfl rfl (by first | rw [if_pos (show μ.1 33 5 = -1 from h173)] | rw [if_neg (show ¬ μ.1 33 5 = -1 from h173)]; rfl)
  · refine g_iconst (-1) dX6_count_176 rfl ?_
    refine g_goto 184 dX6_count_177 (by decide) ?_
    exact g_ireturn dX6_count_184 rfl rfl (by first | rw [if_pos (show μ.1 33 5 = -1 from h173)] | rw [if_neg (show ¬ μ.1 33 5 = -1 from h173)]; rfl)
theorem d_count_7 (μ : Mm) : Ok mX6_count (rmL 2) [.ref 33, .int (nI 7)] μ (some (.int (μ.1 33 13)), sI μ 33 14 0) := by
  refine Ok.of (by decide) (Nat.le_of_ble_eq_true rfl) [some (.ref 33), some (.int (nI 7)), none, none] rfl ?_
  refine g_aload_n 0 _ dX6_count_0 rfl rfl ?_
  refine g_backv (g_runV (d_start μ) rfl mw_X6_start mi_X6_start ml_X6_68 isO_33 ⟨rfl, rfl, Nat.le_of_ble_eq_true rfl, Nat.le_of_ble_eq_true rfl⟩ rfl rfl (Nat.le_of_ble_eq_true rfl) dX6_count_1) ?_
  refine g_mem (μ' := sI μ 33 14 0) rfl ?_
  refine g_iconst (nI 0) dX6_count_4 rfl ?_
  refine g_istore_n [some (.ref 33), some (.int (nI 7)), some (.int (nI 0)), none] dX6_count_5 rfl (Nat.le_of_ble_eq_true rfl) rfl rfl ?_
  refine g_iload_n 1 _ dX6_count_6 rfl rfl ?_
  refine g_tableIn 185 dX6_count_7 (by decide) (by decide) rfl (by decide) ?_
  refine g_aload_n 0 _ dX6_count_185 rfl rfl ?_
  refine gf_X6_104 rfl dX6_count_186 ?_
  exact g_ireturn dX6_count_189 rfl rfl rfl
theorem d_turn_l2 {μ : Mm} {b n : Nat} {k : Int32} (g : Nat → Int32) (hn : μ.1 33 0 = nI n) (h60 : n ≤ 60) (hb : b < n) (hg : ∀ i, i < n → μ.1 45 i = g i) : ∀ (m i : Nat), i ≤ n → n < i + m → G mX6_turn (rmL 1) (some (.int (nI 1)), sL (sR μ 34 (fil (μ.1 34) (fun i => g ((i + b) % n)) n)) 33 8 0) (sR μ 34 (fil (μ.1 34) (fun i => g ((i + b) % n)) i)) 64 [some (.ref 33), some (.int k), some (.int (nI b)), some (.int (nI i))] [] := by
  intro m
  induction m with
  | zero => exact fun i h1 h2 => absurd h2 (by omega)
  | succ m ih =>
    intro i h1 h2
    have hm : (i + b) % n < n := Nat.mod_lt _ (by omega)
    refine g_iload_n 3 _ dX6_turn_64 rfl rfl ?_
    refine g_aload_n 0 _ dX6_turn_65 rfl rfl ?_
    refine gf_X6_7 rfl dX6_turn_66 ?_
    refine g_top (w := .int (nI n)) (congrArg Value.int hn) ?_
    refine g_icmp_geN 97 (by omega) (by omega) dX6_turn_69 (by decide) (fun h69 => ?_) (fun h69 => ?_)
    · refine g_aload_n 0 _ dX6_turn_97 rfl rfl ?_
      refine g_lconst 0 dX6_turn_98 rfl ?_
      refine gp_X6_64 rfl dX6_turn_99 ?_
      refine g_iconst (nI 1) dX6_turn_102 rfl ?_
      exact g_ireturn dX6_turn_103 rfl rfl (by rw [show i = n by omega])
    · refine g_aload_n 0 _ dX6_turn_72 rfl rfl ?_
      refine gf_X6_13 rfl dX6_turn_73 ?_
      refine g_iload_n 3 _ dX6_turn_76 rfl rfl ?_
      refine g_aload_n 0 _ dX6_turn_77 rfl rfl ?_
      refine gf_X6_55 rfl dX6_turn_78 ?_
      refine g_iload_n 3 _ dX6_turn_81 rfl rfl ?_
      refine g_iload_n 2 _ dX6_turn_82 rfl rfl ?_
      refine g_at 83 rfl ?_
      refine g_iaddN dX6_turn_83 ?_
      refine g_aload_n 0 _ dX6_turn_84 rfl rfl ?_
      refine gf_X6_7 rfl dX6_turn_85 ?_
      refine g_top (w := .int (nI n)) (congrArg Value.int hn) ?_
      refine g_iremN (by omega) (by omega) (by omega) dX6_turn_88 ?_
      refine g_iaload (j := (i + b) % n) isI_45 (rfl) (by omega) (by omega) dX6_turn_89 ?_
      refine g_top (w := .int (g ((i + b) % n))) (congrArg Value.int (hg _ hm)) ?_
      refine g_iastore (j := i) isI_34 (rfl) (by omega) (by omega) dX6_turn_90 ?_
      refine g_mem (μ' := sR μ 34 (fil (μ.1 34) (fun i => g ((i + b) % n)) (i + 1))) (sR_fil μ 34 i _ (fun i => g ((i + b) % n)) rfl) ?_
      refine g_iincN [some (.ref 33), some (.int k), some (.int (nI b)), some (.int (nI (i + 1)))] dX6_turn_91 rfl (Nat.le_of_ble_eq_true rfl) rfl rfl ?_
      refine g_goto 64 dX6_turn_94 (by decide) ?_
      exact ih (i + 1) (by omega) (by omega)
theorem d_turn_l1 {μ : Mm} {b n : Nat} {k : Int32} (hn : μ.1 33 0 = nI n) (h60 : n ≤ 60) (hb : b < n) : ∀ (m i : Nat), i ≤ n → n < i + m → G mX6_turn (rmL 1) (some (.int (nI 1)), sL (sR (sR μ 45 (fil (μ.1 45) (μ.1 34) n)) 34 (fil (μ.1 34) (fun i => μ.1 34 ((i + b) % n)) n)) 33 8 0) (sR μ 45 (fil (μ.1 45) (μ.1 34) i)) 36 [some (.ref 33), some (.int k), some (.int (nI b)), some (.int (nI i))] [] := by
  intro m
  induction m with
  | zero => exact fun i h1 h2 => absurd h2 (by omega)
  | succ m ih =>
    intro i h1 h2
    have E : G mX6_turn (rmL 1) (some (.int (nI 1)), sL (sR (sR μ 45 (fil (μ.1 45) (μ.1 34) n)) 34 (fil (μ.1 34) (fun i => μ.1 34 ((i + b) % n)) n)) 33 8 0) (sR μ 45 (fil (μ.1 45) (μ.1 34) n)) 64 [some (.ref 33), some (.int k), some (.int (nI b)), some (.int (nI 0))] [] := by
      have h := d_turn_l2 (μ := sR μ 45 (fil (μ.1 45) (μ.1 34) n)) (k := k) (μ.1 34) hn h60 hb (fun i hi => by rw [sR_at, fil_in hi]) (n + 1) 0 (by omega) (by omega)
      rw [fil_0, sR_id] at h
      exact h
    refine g_iload_n 3 _ dX6_turn_36 rfl rfl ?_
    refine g_aload_n 0 _ dX6_turn_37 rfl rfl ?_
    refine gf_X6_7 rfl dX6_turn_38 ?_
    refine g_top (w := .int (nI n)) (congrArg Value.int hn) ?_
    refine g_icmp_geN 62 (by omega) (by omega) dX6_turn_41 (by decide) (fun h41 => ?_) (fun h41 => ?_)
    · refine g_iconst (nI 0) dX6_turn_62 rfl ?_
      refine g_istore_n [some (.ref 33), some (.int k), some (.int (nI b)), some (.int (nI 0))] dX6_turn_63 rfl (Nat.le_of_ble_eq_true rfl) rfl rfl ?_
      rw [show i = n by omega]; exact E
    · refine g_aload_n 0 _ dX6_turn_44 rfl rfl ?_
      refine gf_X6_55 rfl dX6_turn_45 ?_
      refine g_iload_n 3 _ dX6_turn_48 rfl rfl ?_
      refine g_aload_n 0 _ dX6_turn_49 rfl rfl ?_
      refine gf_X6_13 rfl dX6_turn_50 ?_
      refine g_iload_n 3 _ dX6_turn_53 rfl rfl ?_
      refine g_iaload (j := i) isI_34 (rfl) (by omega) (by omega) dX6_turn_54 ?_
      refine g_at 55 rfl ?_
      refine g_iastore (j := i) isI_45 (rfl) (by omega) (by omega) dX6_turn_55 ?_
      refine g_mem (μ' := sR μ 45 (fil (μ.1 45) (μ.1 34) (i + 1))) (sR_fil μ 45 i _ (μ.1 34) rfl) ?_
      refine g_iincN [some (.ref 33), some (.int k), some (.int (nI b)), some (.int (nI (i + 1)))] dX6_turn_56 rfl (Nat.le_of_ble_eq_true rfl) rfl rfl ?_
      refine g_goto 36 dX6_turn_59 (by decide) ?_
      exact ih (i + 1) (by omega) (by omega)
theorem modN_rem {k : Int32} {n : Nat} (h0 : 0 < n) (h60 : n ≤ 60) (h : 0 ≤ k - k / nI n * nI n) : k - k / nI n * nI n = nI (modN k n) := by
  have hlt := modN_lt (k := k) h0
  have hr : (k - k / nI n * nI n).toInt = k.toInt.tmod n := by rw [rem_toInt, nI_toInt (by omega)]
  rw [fa_le, t0, hr] at h
  apply i32_ext
  rw [hr, nI_toInt (by omega)]
  by_cases q : 0 ≤ k.toInt
  · exact modN_pos h0 q
  · rcases modN_neg h0 (show k.toInt < 0 by omega) with h2 | h2 <;> omega
theorem modN_rem2 {k : Int32} {n : Nat} (h0 : 0 < n) (h60 : n ≤ 60) (h : ¬ 0 ≤ k - k / nI n * nI n) : k - k / nI n * nI n + nI n = nI (modN k n) := by
  have hlt := modN_lt (k := k) h0
  have ht : (nI n).toInt = n := nI_toInt (by omega)
  have hr : (k - k / nI n * nI n).toInt = k.toInt.tmod n := by rw [rem_toInt, ht]
  rw [fa_le, t0, hr] at h
  have hk : k.toInt < 0 := by
    by_cases q : 0 ≤ k.toInt
    · have := Int.tmod_nonneg (n : Int) q; omega
    · omega
  apply i32_ext
  rcases modN_neg h0 hk with h2 | h2
  · omega
  · rw [fb_addI, hr, ht, nI_toInt (by omega)]
    · omega
    · rw [hr, ht]; omega
    · rw [hr, ht]; omega
theorem d_turn (μ : Mm) (k : Int32) {n : Nat} (hn : μ.1 33 0 = nI n) (h1 : 1 ≤ n) (h60 : n ≤ 60) : Ok mX6_turn (rmL 1) [.ref 33, .int k] μ (some (.int (nI 1)), sL (sR (sR (sI μ 33 14 0) 45 (fil (μ.1 45) (μ.1 34) n)) 34 (fil (μ.1 34) (fun i => μ.1 34 ((i + modN k n) % n)) n)) 33 8 0) := by
  have hb := modN_lt (k := k) (show 0 < n by omega)
  have hne : ¬ nI n = 0 := nI_ne0 (by omega) (by omega)
  have E : G mX6_turn (rmL 1) (some (.int (nI 1)), sL (sR (sR (sI μ 33 14 0) 45 (fil (μ.1 45) (μ.1 34) n)) 34 (fil (μ.1 34) (fun i => μ.1 34 ((i + modN k n) % n)) n)) 33 8 0) (sI μ 33 14 0) 33 [some (.ref 33), some (.int k), none, none] [.int (nI (modN k n))] := by
    refine g_istore_n [some (.ref 33), some (.int k), some (.int (nI (modN k n))), none] dX6_turn_33 rfl (Nat.le_of_ble_eq_true rfl) rfl rfl ?_
    refine g_iconst (nI 0) dX6_turn_34 rfl ?_
    refine g_istore_n [some (.ref 33), some (.int k), some (.int (nI (modN k n))), some (.int (nI 0))] dX6_turn_35 rfl (Nat.le_of_ble_eq_true rfl) rfl rfl ?_
    have h := d_turn_l1 (μ := sI μ 33 14 0) (k := k) hn h60 hb (n + 1) 0 (by omega) (by omega); rw [fil_0, sR_id] at h; exact h
  refine Ok.of (by decide) (Nat.le_of_ble_eq_true rfl) [some (.ref 33), some (.int k), none, none] rfl ?_
  refine g_aload_n 0 _ dX6_turn_0 rfl rfl ?_
  refine g_backv (g_runV (d_start μ) rfl mw_X6_start mi_X6_start ml_X6_68 isO_33 ⟨rfl, rfl, Nat.le_of_ble_eq_true rfl, Nat.le_of_ble_eq_true rfl⟩ rfl rfl (Nat.le_of_ble_eq_true rfl) dX6_turn_1) ?_
  refine g_mem (μ' := sI μ 33 14 0) rfl ?_
  refine g_iload_n 1 _ dX6_turn_4 rfl rfl ?_
  refine g_aload_n 0 _ dX6_turn_5 rfl rfl ?_
  refine gf_X6_7 rfl dX6_turn_6 ?_
  refine g_top (w := .int (nI n)) (congrArg Value.int hn) ?_
  refine g_irem dX6_turn_9 (by assumption) ?_
  refine g_if_ge 27 dX6_turn_10 (by decide) (fun h10 => ?_) (fun h10 => ?_)
  · refine g_iload_n 1 _ dX6_turn_27 rfl rfl ?_
    refine g_aload_n 0 _ dX6_turn_28 rfl rfl ?_
    refine gf_X6_7 rfl dX6_turn_29 ?_
    refine g_top (w := .int (nI n)) (congrArg Value.int hn) ?_
    refine g_irem dX6_turn_32 (by assumption) ?_
    first | exact g_top (congrArg Value.int (modN_rem (by omega) h60 h10)) E | exact g_top (congrArg Value.int (modN_rem2 (by omega) h60 h10)) E
  · refine g_iload_n 1 _ dX6_turn_13 rfl rfl ?_
    refine g_aload_n 0 _ dX6_turn_14 rfl rfl ?_
    refine gf_X6_7 rfl dX6_turn_15 ?_
    refine g_top (w := .int (nI n)) (congrArg Value.int hn) ?_
    refine g_irem dX6_turn_18 (by assumption) ?_
    refine g_aload_n 0 _ dX6_turn_19 rfl rfl ?_
    refine gf_X6_7 rfl dX6_turn_20 ?_
    refine g_top (w := .int (nI n)) (congrArg Value.int hn) ?_
    refine g_iadd dX6_turn_23 ?_
    refine g_at 24 rfl ?_
    refine g_goto 33 dX6_turn_24 (by decide) ?_
    first | exact g_top (congrArg Value.int (modN_rem (by omega) h60 h10)) E | exact g_top (congrArg Value.int (modN_rem2 (by omega) h60 h10)) E
theorem d_anti_l1 {μ : Mm} {n : Nat} (hn : μ.1 33 0 = nI n) (h60 : n ≤ 60) (h : ∃ j, j < n ∧ μ.1 34 j < 0) : ∀ (m i : Nat), i ≤ n → n < i + m → (∀ j, j < i → ¬ μ.1 34 j < 0) → G mX6_anti (rmL 1) (some (.int (nI 0)), sI μ 33 14 (nI 1)) μ 6 [some (.ref 33), some (.int (nI i))] [] := by
  intro m
  induction m with
  | zero => exact fun i h1 h2 => absurd h2 (by omega)
  | succ m ih =>
    intro i h1 h2 hj
    refine g_iload_n 1 _ dX6_anti_6 rfl rfl ?_
    refine g_aload_n 0 _ dX6_anti_7 rfl rfl ?_
    refine gf_X6_7 rfl dX6_anti_8 ?_
    refine g_top (w := .int (nI n)) (congrArg Value.int hn) ?_
    refine g_icmp_geN 35 (by omega) (by omega) dX6_anti_11 (by decide) (fun h11 => ?_) (fun h11 => ?_)
    · obtain ⟨j, q1, q2⟩ := h; exact absurd q2 (hj j (by omega))
    · refine g_aload_n 0 _ dX6_anti_14 rfl rfl ?_
      refine gf_X6_13 rfl dX6_anti_15 ?_
      refine g_iload_n 1 _ dX6_anti_18 rfl rfl ?_
      refine g_iaload (j := i) isI_34 (rfl) (by omega) (by omega) dX6_anti_19 ?_
      refine g_if_ge 29 dX6_anti_20 (by decide) (fun h20 => ?_) (fun h20 => ?_)
      · refine g_iincN [some (.ref 33), some (.int (nI (i + 1)))] dX6_anti_29 rfl (Nat.le_of_ble_eq_true rfl) rfl rfl ?_
        refine g_goto 6 dX6_anti_32 (by decide) ?_
        exact ih (i + 1) (by omega) (by omega) (fun j hj2 => (Nat.lt_succ_iff_lt_or_eq.mp hj2).elim (hj j) (fun e => e ▸ (by rw [fa_le] at h20; rw [fa_lt]; omega)))
      · refine g_aload_n 0 _ dX6_anti_23 rfl rfl ?_
        refine g_iconst (nI 1) dX6_anti_24 rfl ?_
        refine g_backi (g_runV (d_not μ (nI 1)) rfl mw_X6_not mi_X6_not ml_X6_71 isO_33 ⟨rfl, rfl, Nat.le_of_ble_eq_true rfl, Nat.le_of_ble_eq_true rfl⟩ rfl rfl (Nat.le_of_ble_eq_true rfl) dX6_anti_25) ?_
        refine g_mem (μ' := sI μ 33 14 (nI 1)) rfl ?_
        refine g_top (w := .int (nI 0)) rfl ?_
        exact g_ireturn dX6_anti_28 rfl rfl rfl
theorem d_anti_l3 {μ : Mm} {n : Nat} (hn : μ.1 33 0 = nI n) (h60 : n ≤ 60) : ∀ (m i : Nat), i ≤ n → n < i + m → G mX6_anti (rmL 1) (some (.int (nI 1)), sL (sR μ 34 (fil (μ.1 34) (fun i => nI 1 - μ.1 34 i) n)) 33 8 0) (sR μ 34 (fil (μ.1 34) (fun i => nI 1 - μ.1 34 i) i)) 37 [some (.ref 33), some (.int (nI i))] [] := by
  intro m
  induction m with
  | zero => exact fun i h1 h2 => absurd h2 (by omega)
  | succ m ih =>
    intro i h1 h2
    have e1 : (sR μ 34 (fil (μ.1 34) (fun i => nI 1 - μ.1 34 i) i)).1 34 i = μ.1 34 i := by rw [sR_at, fil_out (Nat.le_refl i)]
    refine g_iload_n 1 _ dX6_anti_37 rfl rfl ?_
    refine g_aload_n 0 _ dX6_anti_38 rfl rfl ?_
    refine gf_X6_7 rfl dX6_anti_39 ?_
    refine g_top (w := .int (nI n)) (congrArg Value.int hn) ?_
    refine g_icmp_geN 65 (by omega) (by omega) dX6_anti_42 (by decide) (fun h42 => ?_) (fun h42 => ?_)
    · refine g_aload_n 0 _ dX6_anti_65 rfl rfl ?_
      refine g_lconst 0 dX6_anti_66 rfl ?_
      refine gp_X6_64 rfl dX6_anti_67 ?_
      refine g_iconst (nI 1) dX6_anti_70 rfl ?_
      exact g_ireturn dX6_anti_71 rfl rfl (by rw [show i = n by omega])
    · refine g_aload_n 0 _ dX6_anti_45 rfl rfl ?_
      refine gf_X6_13 rfl dX6_anti_46 ?_
      refine g_iload_n 1 _ dX6_anti_49 rfl rfl ?_
      refine g_iconst (nI 1) dX6_anti_50 rfl ?_
      refine g_aload_n 0 _ dX6_anti_51 rfl rfl ?_
      refine gf_X6_13 rfl dX6_anti_52 ?_
      refine g_iload_n 1 _ dX6_anti_55 rfl rfl ?_
      refine g_at 56 rfl ?_
      refine g_iaload (j := i) isI_34 (rfl) (by omega) (by omega) dX6_anti_56 ?_
      refine g_top (w := .int (μ.1 34 i)) (congrArg Value.int e1) ?_
      refine g_isub dX6_anti_57 ?_
      refine g_iastore (j := i) isI_34 (rfl) (by omega) (by omega) dX6_anti_58 ?_
      refine g_mem (μ' := sR μ 34 (fil (μ.1 34) (fun i => nI 1 - μ.1 34 i) (i + 1))) (sR_fil μ 34 i _ (fun i => nI 1 - μ.1 34 i) rfl) ?_
      refine g_iincN [some (.ref 33), some (.int (nI (i + 1)))] dX6_anti_59 rfl (Nat.le_of_ble_eq_true rfl) rfl rfl ?_
      refine g_goto 37 dX6_anti_62 (by decide) ?_
      exact ih (i + 1) (by omega) (by omega)
theorem d_anti_l2 {μ : Mm} {n : Nat} (hn : μ.1 33 0 = nI n) (h60 : n ≤ 60) (h : ∀ j, j < n → ¬ μ.1 34 j < 0) : ∀ (m i : Nat), i ≤ n → n < i + m → G mX6_anti (rmL 1) (some (.int (nI 1)), sL (sR μ 34 (fil (μ.1 34) (fun i => nI 1 - μ.1 34 i) n)) 33 8 0) μ 6 [some (.ref 33), some (.int (nI i))] [] := by
  intro m
  induction m with
  | zero => exact fun i h1 h2 => absurd h2 (by omega)
  | succ m ih =>
    intro i h1 h2
    refine g_iload_n 1 _ dX6_anti_6 rfl rfl ?_
    refine g_aload_n 0 _ dX6_anti_7 rfl rfl ?_
    refine gf_X6_7 rfl dX6_anti_8 ?_
    refine g_top (w := .int (nI n)) (congrArg Value.int hn) ?_
    refine g_icmp_geN 35 (by omega) (by omega) dX6_anti_11 (by decide) (fun h11 => ?_) (fun h11 => ?_)
    · refine g_iconst (nI 0) dX6_anti_35 rfl ?_
      refine g_istore_n [some (.ref 33), some (.int (nI 0))] dX6_anti_36 rfl (Nat.le_of_ble_eq_true rfl) rfl rfl ?_
      have h9 := d_anti_l3 (μ := μ) hn h60 (n + 1) 0 (by omega) (by omega); rw [fil_0, sR_id] at h9; exact h9
    · refine g_aload_n 0 _ dX6_anti_14 rfl rfl ?_
      refine gf_X6_13 rfl dX6_anti_15 ?_
      refine g_iload_n 1 _ dX6_anti_18 rfl rfl ?_
      refine g_iaload (j := i) isI_34 (rfl) (by omega) (by omega) dX6_anti_19 ?_
      refine g_if_ge 29 dX6_anti_20 (by decide) (fun h20 => ?_) (fun h20 => ?_)
      · refine g_iincN [some (.ref 33), some (.int (nI (i + 1)))] dX6_anti_29 rfl (Nat.le_of_ble_eq_true rfl) rfl rfl ?_
        refine g_goto 6 dX6_anti_32 (by decide) ?_
        exact ih (i + 1) (by omega) (by omega)
      · exact absurd (show μ.1 34 i < 0 by rw [fa_lt]; rw [fa_le] at h20; omega) (h i (by omega))
theorem d_anti_no (μ : Mm) {n : Nat} (hn : μ.1 33 0 = nI n) (h60 : n ≤ 60) (h : ∃ j, j < n ∧ μ.1 34 j < 0) : Ok mX6_anti (rmL 1) [.ref 33] μ (some (.int (nI 0)), sI (sI μ 33 14 0) 33 14 (nI 1)) := by
  refine Ok.of (by decide) (Nat.le_of_ble_eq_true rfl) [some (.ref 33), none] rfl ?_
  refine g_aload_n 0 _ dX6_anti_0 rfl rfl ?_
  refine g_backv (g_runV (d_start μ) rfl mw_X6_start mi_X6_start ml_X6_68 isO_33 ⟨rfl, rfl, Nat.le_of_ble_eq_true rfl, Nat.le_of_ble_eq_true rfl⟩ rfl rfl (Nat.le_of_ble_eq_true rfl) dX6_anti_1) ?_
  refine g_mem (μ' := sI μ 33 14 0) rfl ?_
  refine g_iconst (nI 0) dX6_anti_4 rfl ?_
  refine g_istore_n [some (.ref 33), some (.int (nI 0))] dX6_anti_5 rfl (Nat.le_of_ble_eq_true rfl) rfl rfl ?_
  exact d_anti_l1 (μ := sI μ 33 14 0) hn h60 h (n + 1) 0 (by omega) (by omega) (fun j q => absurd q (by omega))
theorem d_anti_ok (μ : Mm) {n : Nat} (hn : μ.1 33 0 = nI n) (h60 : n ≤ 60) (h : ∀ j, j < n → ¬ μ.1 34 j < 0) : Ok mX6_anti (rmL 1) [.ref 33] μ (some (.int (nI 1)), sL (sR (sI μ 33 14 0) 34 (fil (μ.1 34) (fun i => nI 1 - μ.1 34 i) n)) 33 8 0) := by
  refine Ok.of (by decide) (Nat.le_of_ble_eq_true rfl) [some (.ref 33), none] rfl ?_
  refine g_aload_n 0 _ dX6_anti_0 rfl rfl ?_
  refine g_backv (g_runV (d_start μ) rfl mw_X6_start mi_X6_start ml_X6_68 isO_33 ⟨rfl, rfl, Nat.le_of_ble_eq_true rfl, Nat.le_of_ble_eq_true rfl⟩ rfl rfl (Nat.le_of_ble_eq_true rfl) dX6_anti_1) ?_
  refine g_mem (μ' := sI μ 33 14 0) rfl ?_
  refine g_iconst (nI 0) dX6_anti_4 rfl ?_
  refine g_istore_n [some (.ref 33), some (.int (nI 0))] dX6_anti_5 rfl (Nat.le_of_ble_eq_true rfl) rfl rfl ?_
  exact d_anti_l2 (μ := sI μ 33 14 0) hn h60 h (n + 1) 0 (by omega) (by omega)
theorem d_common_l {μ : Mm} {a b : Int32} : ∀ (m x y : Nat) (z : Option Value), y < m → x < 2 ^ 31 → y < 2 ^ 31 → (z = none ∨ ∃ v, z = some (.int v)) → G mX6_common (rmL 0) (some (.int (nI (Nat.gcd x y))), μ) μ 4 [some (.int a), some (.int b), some (.int (nI x)), some (.int (nI y)), z] [] := by
  intro m
  induction m with
  | zero => exact fun x y z h1 => absurd h1 (by omega)
  | succ m ih =>
    intro x y z h1 hx hy hz
    refine g_iload_n 3 _ dX6_common_4 rfl rfl ?_
    refine g_if_eqN 21 (by omega) dX6_common_5 (by decide) (fun h5 => ?_) (fun h5 => ?_)
    · subst h5
      refine g_iload_n 2 _ dX6_common_21 rfl rfl ?_
      exact g_ireturn dX6_common_22 rfl rfl (by rw [Nat.gcd_zero_right])
    · have hl : x % y < y := Nat.mod_lt _ h5
      refine g_iload_n 2 _ dX6_common_8 rfl rfl ?_
      refine g_iload_n 3 _ dX6_common_9 rfl rfl ?_
      refine g_iremN (by omega) (by omega) (by omega) dX6_common_10 ?_
      refine g_istore [some (.int a), some (.int b), some (.int (nI x)), some (.int (nI y)), some (.int (nI (x % y)))] dX6_common_11 (Nat.le_of_ble_eq_true rfl) rfl (by rcases hz with rfl | ⟨v, rfl⟩ <;> rfl) ?_
      refine g_iload_n 3 _ dX6_common_13 rfl rfl ?_
      refine g_istore_n [some (.int a), some (.int b), some (.int (nI y)), some (.int (nI y)), some (.int (nI (x % y)))] dX6_common_14 rfl (Nat.le_of_ble_eq_true rfl) rfl rfl ?_
      refine g_iload _ dX6_common_15 rfl ?_
      refine g_istore_n [some (.int a), some (.int b), some (.int (nI y)), some (.int (nI (x % y))), some (.int (nI (x % y)))] dX6_common_17 rfl (Nat.le_of_ble_eq_true rfl) rfl rfl ?_
      refine g_goto 4 dX6_common_18 (by decide) ?_
      rw [← gcd_step]; exact ih y (x % y) _ (by omega) hy (by omega) (Or.inr ⟨_, rfl⟩)
theorem d_common (μ : Mm) {a b : Nat} (ha : a < 2 ^ 31) (hb : b < 2 ^ 31) : Ok mX6_common (rmL 0) [.int (nI a), .int (nI b)] μ (some (.int (nI (Nat.gcd a b))), μ) := by
  refine Ok.of (by decide) (Nat.le_of_ble_eq_true rfl) [some (.int (nI a)), some (.int (nI b)), none, none, none] rfl ?_
  refine g_iload_n 0 _ dX6_common_0 rfl rfl ?_
  refine g_istore_n [some (.int (nI a)), some (.int (nI b)), some (.int (nI a)), none, none] dX6_common_1 rfl (Nat.le_of_ble_eq_true rfl) rfl rfl ?_
  refine g_iload_n 1 _ dX6_common_2 rfl rfl ?_
  refine g_istore_n [some (.int (nI a)), some (.int (nI b)), some (.int (nI a)), some (.int (nI b)), none] dX6_common_3 rfl (Nat.le_of_ble_eq_true rfl) rfl rfl ?_
  exact d_common_l (b + 1) a b none (by omega) ha hb (Or.inl rfl)
theorem d_fold_l {μ : Mm} {A B X Y i0 : Nat} (hA : 1 ≤ A) (hA2 : A ≤ 60) (hB : 1 ≤ B) (hB2 : B ≤ 60) (hX : X < A) (hY : Y < B) (h0 : i0 < 60) (hx : i0 % A = X) (hy : i0 % B = Y) (hmin : ∀ j, j < i0 → ¬ (j % A = X ∧ j % B = Y)) : ∀ (m i : Nat), i ≤ i0 → i0 < i + m → G mX6_fold (rmL 1) (some (.int (μ.1 34 i0)), μ) μ 80 [some (.ref 33), some (.int (nI A)), some (.int (nI B)), some (.int (nI X)), some (.int (nI Y)), some (.int (nI i))] [] := by
  intro m
  induction m with
  | zero => exact fun i h1 h2 => absurd h2 (by omega)
  | succ m ih =>
    intro i h1 h2
    have e1 : i % A < A := Nat.mod_lt _ hA
    have e2 : i % B < B := Nat.mod_lt _ hB
    have e3 : i < i0 ∨ i = i0 := by omega
    refine g_iload _ dX6_fold_80 rfl ?_
    refine g_iload_n 1 _ dX6_fold_82 rfl rfl ?_
    refine g_iremN (by omega) (by omega) (by omega) dX6_fold_83 ?_
    refine g_iload_n 3 _ dX6_fold_84 rfl rfl ?_
    refine g_icmp_neN 97 (by omega) (by omega) dX6_fold_85 (by decide) (fun h85 => ?_) (fun h85 => ?_)
    · refine g_iincN [some (.ref 33), some (.int (nI A)), some (.int (nI B)), some (.int (nI X)), some (.int (nI Y)), some (.int (nI (i + 1)))] dX6_fold_97 rfl (Nat.le_of_ble_eq_true rfl) rfl rfl ?_
      refine g_goto 80 dX6_fold_100 (by decide) ?_
      exact ih (i + 1) (by rcases e3 with q | q; omega; (exfalso; subst q; omega)) (by omega)
    · refine g_iload _ dX6_fold_88 rfl ?_
      refine g_iload_n 2 _ dX6_fold_90 rfl rfl ?_
      refine g_iremN (by omega) (by omega) (by omega) dX6_fold_91 ?_
      refine g_iload _ dX6_fold_92 rfl ?_
      refine g_icmp_eqN 103 (by omega) (by omega) dX6_fold_94 (by decide) (fun h94 => ?_) (fun h94 => ?_)
      · refine g_aload_n 0 _ dX6_fold_103 rfl rfl ?_
        refine gf_X6_13 rfl dX6_fold_104 ?_
        refine g_iload _ dX6_fold_107 rfl ?_
        refine g_iaload (j := i) isI_34 (rfl) (by omega) (by omega) dX6_fold_109 ?_
        exact g_ireturn dX6_fold_110 rfl rfl (by rcases e3 with q | q; exact absurd ⟨h85, h94⟩ (hmin i q); rw [q])
      · refine g_iincN [some (.ref 33), some (.int (nI A)), some (.int (nI B)), some (.int (nI X)), some (.int (nI Y)), some (.int (nI (i + 1)))] dX6_fold_97 rfl (Nat.le_of_ble_eq_true rfl) rfl rfl ?_
        refine g_goto 80 dX6_fold_100 (by decide) ?_
        exact ih (i + 1) (by rcases e3 with q | q; omega; (exfalso; subst q; omega)) (by omega)
theorem d_fold_ok (μ : Mm) {A B X Y n i0 : Nat} (hn : μ.1 33 0 = nI n) (h60 : n ≤ 60) (hA : 1 ≤ A) (hB : 1 ≤ B) (hAB : A * B = n) (hg : Nat.gcd A B = 1) (hX : X < A) (hY : Y < B) (h0 : i0 < n) (hx : i0 % A = X) (hy : i0 % B = Y) (hmin : ∀ j, j < i0 → ¬ (j % A = X ∧ j % B = Y)) : Ok mX6_fold (rmL 1) [.ref 33, .int (nI A), .int (nI B), .int (nI X), .int (nI Y)] μ (some (.int (μ.1 34 i0)), sI μ 33 14 0) := by
  have hA2 : A ≤ n := by have := Nat.le_mul_of_pos_right A hB; omega
  have hB2 : B ≤ n := by have := Nat.le_mul_of_pos_left B hA; omega
  refine Ok.of (by decide) (Nat.le_of_ble_eq_true rfl) [some (.ref 33), some (.int (nI A)), some (.int (nI B)), some (.int (nI X)), some (.int (nI Y)), none] rfl ?_
  refine g_aload_n 0 _ dX6_fold_0 rfl rfl ?_
  refine g_backv (g_runV (d_start μ) rfl mw_X6_start mi_X6_start ml_X6_68 isO_33 ⟨rfl, rfl, Nat.le_of_ble_eq_true rfl, Nat.le_of_ble_eq_true rfl⟩ rfl rfl (Nat.le_of_ble_eq_true rfl) dX6_fold_1) ?_
  refine g_mem (μ' := sI μ 33 14 0) rfl ?_
  refine g_iload_n 1 _ dX6_fold_4 rfl rfl ?_
  refine g_iconst (nI 1) dX6_fold_5 rfl ?_
  refine g_icmp_ltN 69 (by omega) (by omega) dX6_fold_6 (by decide) (fun h6 => ?_) (fun h6 => ?_)
  · exact absurd h6 (by omega)
  · refine g_iload_n 2 _ dX6_fold_9 rfl rfl ?_
    refine g_iconst (nI 1) dX6_fold_10 rfl ?_
    refine g_icmp_ltN 69 (by omega) (by omega) dX6_fold_11 (by decide) (fun h11 => ?_) (fun h11 => ?_)
    · exact absurd h11 (by omega)
    · refine g_iload_n 1 _ dX6_fold_14 rfl rfl ?_
      refine g_aload_n 0 _ dX6_fold_15 rfl rfl ?_
      refine gf_X6_7 rfl dX6_fold_16 ?_
      refine g_top (w := .int (nI n)) (congrArg Value.int hn) ?_
      refine g_icmp_gtN 69 (by omega) (by omega) dX6_fold_19 (by decide) (fun h19 => ?_) (fun h19 => ?_)
      · exact absurd h19 (by omega)
      · refine g_iload_n 2 _ dX6_fold_22 rfl rfl ?_
        refine g_aload_n 0 _ dX6_fold_23 rfl rfl ?_
        refine gf_X6_7 rfl dX6_fold_24 ?_
        refine g_top (w := .int (nI n)) (congrArg Value.int hn) ?_
        refine g_icmp_gtN 69 (by omega) (by omega) dX6_fold_27 (by decide) (fun h27 => ?_) (fun h27 => ?_)
        · exact absurd h27 (by omega)
        · refine g_iload_n 1 _ dX6_fold_30 rfl rfl ?_
          refine g_iload_n 2 _ dX6_fold_31 rfl rfl ?_
          refine g_imulN dX6_fold_32 ?_
          refine g_aload_n 0 _ dX6_fold_33 rfl rfl ?_
          refine gf_X6_7 rfl dX6_fold_34 ?_
          refine g_top (w := .int (nI n)) (congrArg Value.int hn) ?_
          refine g_icmp_neN 69 (by omega) (by omega) dX6_fold_37 (by decide) (fun h37 => ?_) (fun h37 => ?_)
          · exact absurd hAB h37
          · refine g_iload_n 1 _ dX6_fold_40 rfl rfl ?_
            refine g_iload_n 2 _ dX6_fold_41 rfl rfl ?_
            refine g_backi (g_runS ((d_common (sI μ 33 14 0) (a := A) (b := B) (by omega) (by omega)).to (by rw [hg])) rfl mw_X6_common ms_X6_common ml_X6_110 ⟨rfl, rfl, Nat.le_of_ble_eq_true rfl, Nat.le_of_ble_eq_true rfl⟩ rfl rfl (Nat.le_of_ble_eq_true rfl) dX6_fold_42) ?_
            refine g_top (w := .int (nI 1)) rfl ?_
            refine g_iconst (nI 1) dX6_fold_45 rfl ?_
            refine g_icmp_gtN 69 (by omega) (by omega) dX6_fold_46 (by decide) (fun h46 => ?_) (fun h46 => ?_)
            · exact absurd h46 (by omega)
            · refine g_iload_n 3 _ dX6_fold_49 rfl rfl ?_
              refine g_if_ltN 69 (by omega) dX6_fold_50 (by decide) ?_
              refine g_iload_n 3 _ dX6_fold_53 rfl rfl ?_
              refine g_iload_n 1 _ dX6_fold_54 rfl rfl ?_
              refine g_icmp_geN 69 (by omega) (by omega) dX6_fold_55 (by decide) (fun h55 => ?_) (fun h55 => ?_)
              · exact absurd h55 (by omega)
              · refine g_iload _ dX6_fold_58 rfl ?_
                refine g_if_ltN 69 (by omega) dX6_fold_60 (by decide) ?_
                refine g_iload _ dX6_fold_63 rfl ?_
                refine g_iload_n 2 _ dX6_fold_65 rfl rfl ?_
                refine g_icmp_ltN 77 (by omega) (by omega) dX6_fold_66 (by decide) (fun h66 => ?_) (fun h66 => ?_)
                · refine g_iconst (nI 0) dX6_fold_77 rfl ?_
                  refine g_istore [some (.ref 33), some (.int (nI A)), some (.int (nI B)), some (.int (nI X)), some (.int (nI Y)), some (.int (nI 0))] dX6_fold_78 (Nat.le_of_ble_eq_true rfl) rfl rfl ?_
                  exact d_fold_l (μ := sI μ 33 14 0) hA (by omega) hB (by omega) hX hY (by omega) hx hy hmin (i0 + 1) 0 (by omega) (by omega)
                · exact absurd h66 (by omega)
theorem d_fold_no0 (μ : Mm) (a b x y : Int32) {n : Nat} (hn : μ.1 33 0 = nI n) (h60 : n ≤ 60) (h : a.toInt < 1 ∨ b.toInt < 1 ∨ (nI n).toInt < a.toInt ∨ (nI n).toInt < b.toInt) : Ok mX6_fold (rmL 1) [.ref 33, .int a, .int b, .int x, .int y] μ (some (.int (nI 0)), sI (sI μ 33 14 0) 33 14 (nI 1)) := by
  refine Ok.of (by decide) (Nat.le_of_ble_eq_true rfl) [some (.ref 33), some (.int a), some (.int b), some (.int x), some (.int y), none] rfl ?_
  refine g_aload_n 0 _ dX6_fold_0 rfl rfl ?_
  refine g_backv (g_runV (d_start μ) rfl mw_X6_start mi_X6_start ml_X6_68 isO_33 ⟨rfl, rfl, Nat.le_of_ble_eq_true rfl, Nat.le_of_ble_eq_true rfl⟩ rfl rfl (Nat.le_of_ble_eq_true rfl) dX6_fold_1) ?_
  refine g_mem (μ' := sI μ 33 14 0) rfl ?_
  refine g_iload_n 1 _ dX6_fold_4 rfl rfl ?_
  refine g_iconst (nI 1) dX6_fold_5 rfl ?_
  refine g_icmp_lt 69 dX6_fold_6 (by decide) (fun h6 => ?_) (fun h6 => ?_)
  · refine g_aload_n 0 _ dX6_fold_69 rfl rfl ?_
    refine g_iconst (nI 1) dX6_fold_70 rfl ?_
    refine g_backi (g_runV (d_no (sI μ 33 14 0) (nI 1)) rfl mw_X6_no mi_X6_no ml_X6_79 isO_33 ⟨rfl, rfl, Nat.le_of_ble_eq_true rfl, Nat.le_of_ble_eq_true rfl⟩ rfl rfl (Nat.le_of_ble_eq_true rfl) dX6_fold_71) ?_
    refine g_mem (μ' := sI (sI μ 33 14 0) 33 14 (nI 1)) rfl ?_
    refine g_top (w := .int (-1)) rfl ?_
    refine g_pop dX6_fold_74 rfl ?_
    refine g_iconst (nI 0) dX6_fold_75 rfl ?_
    exact g_ireturn dX6_fold_76 rfl rfl rfl
  · refine g_iload_n 2 _ dX6_fold_9 rfl rfl ?_
    refine g_iconst (nI 1) dX6_fold_10 rfl ?_
    refine g_icmp_lt 69 dX6_fold_11 (by decide) (fun h11 => ?_) (fun h11 => ?_)
    · refine g_aload_n 0 _ dX6_fold_69 rfl rfl ?_
      refine g_iconst (nI 1) dX6_fold_70 rfl ?_
      refine g_backi (g_runV (d_no (sI μ 33 14 0) (nI 1)) rfl mw_X6_no mi_X6_no ml_X6_79 isO_33 ⟨rfl, rfl, Nat.le_of_ble_eq_true rfl, Nat.le_of_ble_eq_true rfl⟩ rfl rfl (Nat.le_of_ble_eq_true rfl) dX6_fold_71) ?_
      refine g_mem (μ' := sI (sI μ 33 14 0) 33 14 (nI 1)) rfl ?_
      refine g_top (w := .int (-1)) rfl ?_
      refine g_pop dX6_fold_74 rfl ?_
      refine g_iconst (nI 0) dX6_fold_75 rfl ?_
      exact g_ireturn dX6_fold_76 rfl rfl rfl
    · refine g_iload_n 1 _ dX6_fold_14 rfl rfl ?_
      refine g_aload_n 0 _ dX6_fold_15 rfl rfl ?_
      refine gf_X6_7 rfl dX6_fold_16 ?_
      refine g_top (w := .int (nI n)) (congrArg Value.int hn) ?_
      refine g_icmp_gt 69 dX6_fold_19 (by decide) (fun h19 => ?_) (fun h19 => ?_)
      · refine g_aload_n 0 _ dX6_fold_69 rfl rfl ?_
        refine g_iconst (nI 1) dX6_fold_70 rfl ?_
        refine g_backi (g_runV (d_no (sI μ 33 14 0) (nI 1)) rfl mw_X6_no mi_X6_no ml_X6_79 isO_33 ⟨rfl, rfl, Nat.le_of_ble_eq_true rfl, Nat.le_of_ble_eq_true rfl⟩ rfl rfl (Nat.le_of_ble_eq_true rfl) dX6_fold_71) ?_
        refine g_mem (μ' := sI (sI μ 33 14 0) 33 14 (nI 1)) rfl ?_
        refine g_top (w := .int (-1)) rfl ?_
        refine g_pop dX6_fold_74 rfl ?_
        refine g_iconst (nI 0) dX6_fold_75 rfl ?_
        exact g_ireturn dX6_fold_76 rfl rfl rfl
      · refine g_iload_n 2 _ dX6_fold_22 rfl rfl ?_
        refine g_aload_n 0 _ dX6_fold_23 rfl rfl ?_
        refine gf_X6_7 rfl dX6_fold_24 ?_
        refine g_top (w := .int (nI n)) (congrArg Value.int hn) ?_
        refine g_icmp_gt 69 dX6_fold_27 (by decide) (fun h27 => ?_) (fun h27 => ?_)
        · refine g_aload_n 0 _ dX6_fold_69 rfl rfl ?_
          refine g_iconst (nI 1) dX6_fold_70 rfl ?_
          refine g_backi (g_runV (d_no (sI μ 33 14 0) (nI 1)) rfl mw_X6_no mi_X6_no ml_X6_79 isO_33 ⟨rfl, rfl, Nat.le_of_ble_eq_true rfl, Nat.le_of_ble_eq_true rfl⟩ rfl rfl (Nat.le_of_ble_eq_true rfl) dX6_fold_71) ?_
          refine g_mem (μ' := sI (sI μ 33 14 0) 33 14 (nI 1)) rfl ?_
          refine g_top (w := .int (-1)) rfl ?_
          refine g_pop dX6_fold_74 rfl ?_
          refine g_iconst (nI 0) dX6_fold_75 rfl ?_
          exact g_ireturn dX6_fold_76 rfl rfl rfl
        · exfalso; simp only [ne_eq, fa_lt, fa_le, fa_eq, t0, t1, t2, tm1, nt0, nt1, nt2, nt3, nt4, nt5, nt7, nt9, nt10, nt13, nt14, nt30, nt32, nt59, nt60, nt200, nt1000, nt1000000, nt1073741824] at *; omega
theorem d_fold_no1 (μ : Mm) {A B n : Nat} (x y : Int32) (hn : μ.1 33 0 = nI n) (h60 : n ≤ 60) (hA : 1 ≤ A) (hA2 : A ≤ n) (hB : 1 ≤ B) (hB2 : B ≤ n) (h : ¬ foldP n A B x y) : Ok mX6_fold (rmL 1) [.ref 33, .int (nI A), .int (nI B), .int x, .int y] μ (some (.int (nI 0)), sI (sI μ 33 14 0) 33 14 (nI 1)) := by
  have hAB : A * B ≤ 60 * 60 := Nat.mul_le_mul (by omega) (by omega)
  have gA : Nat.gcd A B ≤ A := Nat.gcd_le_left B hA
  have gp : 0 < Nat.gcd A B := Nat.gcd_pos_of_pos_left B hA
  have iA : (nI A).toInt = A := nI_toInt (by omega)
  have iB : (nI B).toInt = B := nI_toInt (by omega)
  refine Ok.of (by decide) (Nat.le_of_ble_eq_true rfl) [some (.ref 33), some (.int (nI A)), some (.int (nI B)), some (.int x), some (.int y), none] rfl ?_
  refine g_aload_n 0 _ dX6_fold_0 rfl rfl ?_
  refine g_backv (g_runV (d_start μ) rfl mw_X6_start mi_X6_start ml_X6_68 isO_33 ⟨rfl, rfl, Nat.le_of_ble_eq_true rfl, Nat.le_of_ble_eq_true rfl⟩ rfl rfl (Nat.le_of_ble_eq_true rfl) dX6_fold_1) ?_
  refine g_mem (μ' := sI μ 33 14 0) rfl ?_
  refine g_iload_n 1 _ dX6_fold_4 rfl rfl ?_
  refine g_iconst (nI 1) dX6_fold_5 rfl ?_
  refine g_icmp_ltN 69 (by omega) (by omega) dX6_fold_6 (by decide) (fun h6 => ?_) (fun h6 => ?_)
  · refine g_aload_n 0 _ dX6_fold_69 rfl rfl ?_
    refine g_iconst (nI 1) dX6_fold_70 rfl ?_
    refine g_backi (g_runV (d_no (sI μ 33 14 0) (nI 1)) rfl mw_X6_no mi_X6_no ml_X6_79 isO_33 ⟨rfl, rfl, Nat.le_of_ble_eq_true rfl, Nat.le_of_ble_eq_true rfl⟩ rfl rfl (Nat.le_of_ble_eq_true rfl) dX6_fold_71) ?_
    refine g_mem (μ' := sI (sI μ 33 14 0) 33 14 (nI 1)) rfl ?_
    refine g_top (w := .int (-1)) rfl ?_
    refine g_pop dX6_fold_74 rfl ?_
    refine g_iconst (nI 0) dX6_fold_75 rfl ?_
    exact g_ireturn dX6_fold_76 rfl rfl rfl
  · refine g_iload_n 2 _ dX6_fold_9 rfl rfl ?_
    refine g_iconst (nI 1) dX6_fold_10 rfl ?_
    refine g_icmp_ltN 69 (by omega) (by omega) dX6_fold_11 (by decide) (fun h11 => ?_) (fun h11 => ?_)
    · refine g_aload_n 0 _ dX6_fold_69 rfl rfl ?_
      refine g_iconst (nI 1) dX6_fold_70 rfl ?_
      refine g_backi (g_runV (d_no (sI μ 33 14 0) (nI 1)) rfl mw_X6_no mi_X6_no ml_X6_79 isO_33 ⟨rfl, rfl, Nat.le_of_ble_eq_true rfl, Nat.le_of_ble_eq_true rfl⟩ rfl rfl (Nat.le_of_ble_eq_true rfl) dX6_fold_71) ?_
      refine g_mem (μ' := sI (sI μ 33 14 0) 33 14 (nI 1)) rfl ?_
      refine g_top (w := .int (-1)) rfl ?_
      refine g_pop dX6_fold_74 rfl ?_
      refine g_iconst (nI 0) dX6_fold_75 rfl ?_
      exact g_ireturn dX6_fold_76 rfl rfl rfl
    · refine g_iload_n 1 _ dX6_fold_14 rfl rfl ?_
      refine g_aload_n 0 _ dX6_fold_15 rfl rfl ?_
      refine gf_X6_7 rfl dX6_fold_16 ?_
      refine g_top (w := .int (nI n)) (congrArg Value.int hn) ?_
      refine g_icmp_gtN 69 (by omega) (by omega) dX6_fold_19 (by decide) (fun h19 => ?_) (fun h19 => ?_)
      · refine g_aload_n 0 _ dX6_fold_69 rfl rfl ?_
        refine g_iconst (nI 1) dX6_fold_70 rfl ?_
        refine g_backi (g_runV (d_no (sI μ 33 14 0) (nI 1)) rfl mw_X6_no mi_X6_no ml_X6_79 isO_33 ⟨rfl, rfl, Nat.le_of_ble_eq_true rfl, Nat.le_of_ble_eq_true rfl⟩ rfl rfl (Nat.le_of_ble_eq_true rfl) dX6_fold_71) ?_
        refine g_mem (μ' := sI (sI μ 33 14 0) 33 14 (nI 1)) rfl ?_
        refine g_top (w := .int (-1)) rfl ?_
        refine g_pop dX6_fold_74 rfl ?_
        refine g_iconst (nI 0) dX6_fold_75 rfl ?_
        exact g_ireturn dX6_fold_76 rfl rfl rfl
      · refine g_iload_n 2 _ dX6_fold_22 rfl rfl ?_
        refine g_aload_n 0 _ dX6_fold_23 rfl rfl ?_
        refine gf_X6_7 rfl dX6_fold_24 ?_
        refine g_top (w := .int (nI n)) (congrArg Value.int hn) ?_
        refine g_icmp_gtN 69 (by omega) (by omega) dX6_fold_27 (by decide) (fun h27 => ?_) (fun h27 => ?_)
        · refine g_aload_n 0 _ dX6_fold_69 rfl rfl ?_
          refine g_iconst (nI 1) dX6_fold_70 rfl ?_
          refine g_backi (g_runV (d_no (sI μ 33 14 0) (nI 1)) rfl mw_X6_no mi_X6_no ml_X6_79 isO_33 ⟨rfl, rfl, Nat.le_of_ble_eq_true rfl, Nat.le_of_ble_eq_true rfl⟩ rfl rfl (Nat.le_of_ble_eq_true rfl) dX6_fold_71) ?_
          refine g_mem (μ' := sI (sI μ 33 14 0) 33 14 (nI 1)) rfl ?_
          refine g_top (w := .int (-1)) rfl ?_
          refine g_pop dX6_fold_74 rfl ?_
          refine g_iconst (nI 0) dX6_fold_75 rfl ?_
          exact g_ireturn dX6_fold_76 rfl rfl rfl
        · refine g_iload_n 1 _ dX6_fold_30 rfl rfl ?_
          refine g_iload_n 2 _ dX6_fold_31 rfl rfl ?_
          refine g_imulN dX6_fold_32 ?_
          refine g_aload_n 0 _ dX6_fold_33 rfl rfl ?_
          refine gf_X6_7 rfl dX6_fold_34 ?_
          refine g_top (w := .int (nI n)) (congrArg Value.int hn) ?_
          refine g_icmp_neN 69 (by omega) (by omega) dX6_fold_37 (by decide) (fun h37 => ?_) (fun h37 => ?_)
          · refine g_aload_n 0 _ dX6_fold_69 rfl rfl ?_
            refine g_iconst (nI 1) dX6_fold_70 rfl ?_
            refine g_backi (g_runV (d_no (sI μ 33 14 0) (nI 1)) rfl mw_X6_no mi_X6_no ml_X6_79 isO_33 ⟨rfl, rfl, Nat.le_of_ble_eq_true rfl, Nat.le_of_ble_eq_true rfl⟩ rfl rfl (Nat.le_of_ble_eq_true rfl) dX6_fold_71) ?_
            refine g_mem (μ' := sI (sI μ 33 14 0) 33 14 (nI 1)) rfl ?_
            refine g_top (w := .int (-1)) rfl ?_
            refine g_pop dX6_fold_74 rfl ?_
            refine g_iconst (nI 0) dX6_fold_75 rfl ?_
            exact g_ireturn dX6_fold_76 rfl rfl rfl
          · refine g_iload_n 1 _ dX6_fold_40 rfl rfl ?_
            refine g_iload_n 2 _ dX6_fold_41 rfl rfl ?_
            refine g_backi (g_runS (d_common (sI μ 33 14 0) (a := A) (b := B) (by omega) (by omega)) rfl mw_X6_common ms_X6_common ml_X6_110 ⟨rfl, rfl, Nat.le_of_ble_eq_true rfl, Nat.le_of_ble_eq_true rfl⟩ rfl rfl (Nat.le_of_ble_eq_true rfl) dX6_fold_42) ?_
            refine g_top (w := .int (nI (Nat.gcd A B))) rfl ?_
            refine g_iconst (nI 1) dX6_fold_45 rfl ?_
            refine g_icmp_gtN 69 (by omega) (by omega) dX6_fold_46 (by decide) (fun h46 => ?_) (fun h46 => ?_)
            · refine g_aload_n 0 _ dX6_fold_69 rfl rfl ?_
              refine g_iconst (nI 1) dX6_fold_70 rfl ?_
              refine g_backi (g_runV (d_no (sI μ 33 14 0) (nI 1)) rfl mw_X6_no mi_X6_no ml_X6_79 isO_33 ⟨rfl, rfl, Nat.le_of_ble_eq_true rfl, Nat.le_of_ble_eq_true rfl⟩ rfl rfl (Nat.le_of_ble_eq_true rfl) dX6_fold_71) ?_
              refine g_mem (μ' := sI (sI μ 33 14 0) 33 14 (nI 1)) rfl ?_
              refine g_top (w := .int (-1)) rfl ?_
              refine g_pop dX6_fold_74 rfl ?_
              refine g_iconst (nI 0) dX6_fold_75 rfl ?_
              exact g_ireturn dX6_fold_76 rfl rfl rfl
            · refine g_iload_n 3 _ dX6_fold_49 rfl rfl ?_
              refine g_if_lt 69 dX6_fold_50 (by decide) (fun h50 => ?_) (fun h50 => ?_)
              · refine g_aload_n 0 _ dX6_fold_69 rfl rfl ?_
                refine g_iconst (nI 1) dX6_fold_70 rfl ?_
                refine g_backi (g_runV (d_no (sI μ 33 14 0) (nI 1)) rfl mw_X6_no mi_X6_no ml_X6_79 isO_33 ⟨rfl, rfl, Nat.le_of_ble_eq_true rfl, Nat.le_of_ble_eq_true rfl⟩ rfl rfl (Nat.le_of_ble_eq_true rfl) dX6_fold_71) ?_
                refine g_mem (μ' := sI (sI μ 33 14 0) 33 14 (nI 1)) rfl ?_
                refine g_top (w := .int (-1)) rfl ?_
                refine g_pop dX6_fold_74 rfl ?_
                refine g_iconst (nI 0) dX6_fold_75 rfl ?_
                exact g_ireturn dX6_fold_76 rfl rfl rfl
              · refine g_iload_n 3 _ dX6_fold_53 rfl rfl ?_
                refine g_iload_n 1 _ dX6_fold_54 rfl rfl ?_
                refine g_icmp_ge 69 dX6_fold_55 (by decide) (fun h55 => ?_) (fun h55 => ?_)
                · refine g_aload_n 0 _ dX6_fold_69 rfl rfl ?_
                  refine g_iconst (nI 1) dX6_fold_70 rfl ?_
                  refine g_backi (g_runV (d_no (sI μ 33 14 0) (nI 1)) rfl mw_X6_no mi_X6_no ml_X6_79 isO_33 ⟨rfl, rfl, Nat.le_of_ble_eq_true rfl, Nat.le_of_ble_eq_true rfl⟩ rfl rfl (Nat.le_of_ble_eq_true rfl) dX6_fold_71) ?_
                  refine g_mem (μ' := sI (sI μ 33 14 0) 33 14 (nI 1)) rfl ?_
                  refine g_top (w := .int (-1)) rfl ?_
                  refine g_pop dX6_fold_74 rfl ?_
                  refine g_iconst (nI 0) dX6_fold_75 rfl ?_
                  exact g_ireturn dX6_fold_76 rfl rfl rfl
                · refine g_iload _ dX6_fold_58 rfl ?_
                  refine g_if_lt 69 dX6_fold_60 (by decide) (fun h60 => ?_) (fun h60 => ?_)
                  · refine g_aload_n 0 _ dX6_fold_69 rfl rfl ?_
                    refine g_iconst (nI 1) dX6_fold_70 rfl ?_
                    refine g_backi (g_runV (d_no (sI μ 33 14 0) (nI 1)) rfl mw_X6_no mi_X6_no ml_X6_79 isO_33 ⟨rfl, rfl, Nat.le_of_ble_eq_true rfl, Nat.le_of_ble_eq_true rfl⟩ rfl rfl (Nat.le_of_ble_eq_true rfl) dX6_fold_71) ?_
                    refine g_mem (μ' := sI (sI μ 33 14 0) 33 14 (nI 1)) rfl ?_
                    refine g_top (w := .int (-1)) rfl ?_
                    refine g_pop dX6_fold_74 rfl ?_
                    refine g_iconst (nI 0) dX6_fold_75 rfl ?_
                    exact g_ireturn dX6_fold_76 rfl rfl rfl
                  · refine g_iload _ dX6_fold_63 rfl ?_
                    refine g_iload_n 2 _ dX6_fold_65 rfl rfl ?_
                    refine g_icmp_lt 77 dX6_fold_66 (by decide) (fun h66 => ?_) (fun h66 => ?_)
                    · exact absurd (show foldP n A B x y by simp only [fa_lt, fa_le, t0, iA, iB] at *; exact ⟨by omega, by omega, ⟨by omega, by omega⟩, by omega, by omega⟩) h
                    · refine g_aload_n 0 _ dX6_fold_69 rfl rfl ?_
                      refine g_iconst (nI 1) dX6_fold_70 rfl ?_
                      refine g_backi (g_runV (d_no (sI μ 33 14 0) (nI 1)) rfl mw_X6_no mi_X6_no ml_X6_79 isO_33 ⟨rfl, rfl, Nat.le_of_ble_eq_true rfl, Nat.le_of_ble_eq_true rfl⟩ rfl rfl (Nat.le_of_ble_eq_true rfl) dX6_fold_71) ?_
                      refine g_mem (μ' := sI (sI μ 33 14 0) 33 14 (nI 1)) rfl ?_
                      refine g_top (w := .int (-1)) rfl ?_
                      refine g_pop dX6_fold_74 rfl ?_
                      refine g_iconst (nI 0) dX6_fold_75 rfl ?_
                      exact g_ireturn dX6_fold_76 rfl rfl rfl
