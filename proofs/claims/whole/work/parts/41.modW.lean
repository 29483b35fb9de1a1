/-! HoleMaskModel: lost -/
section
variable {μ : Mm} {Y : Mx} {b : Int64} {n l : Nat}
theorem d_lst2 {A C : Nat → Int64} (hn : μ.1 33 0 = nI n) (h14 : n ≤ 14) (hl : l < n) (hA : ∀ k, k ≤ l → A k = lsA9 Y b l k) (hB : ∀ j, j < l + 1 → (lsA9 Y b l j).toInt ≠ -9223372036854775808) (h0 : ¬ b = 0) : ∀ (m k : Nat), k ≤ l + 1 → l + 1 < k + m → G mX6_lost (rmL 2) (some (.int (nI l)), sR (mL μ C A b) 35 (fil (μ.1 35) (lsV Y b l) n)) (mL μ C A b) 155 [some (.ref 33), some (.int (nI l)), some (.int (nI (l + 1))), some (.int (nI n)), none, some (.int (nI 1)), some (.long (gF 0 (lsA9 Y b l) k)), none, some (.int (nI k))] [] := by
  intro m
  induction m with
  | zero => exact fun j h1 h2 => absurd h2 (by omega)
  | succ m ih =>
    intro k h1 h2
    have ev : k ≤ l → (mL μ C A b).2 43 k = lsA9 Y b l k := fun h => hA k h
    have hg : k ≤ l → (gF 0 (lsA9 Y b l) k).toInt ≠ -9223372036854775808 := fun h => gF_ok (by decide) k (fun j hj => hB j (by omega))
    have em : mL μ C A b = sR (mL μ C A b) 35 (fil (μ.1 35) (lsV Y b l) 0) := by
      have e : (mL μ C A b).1 35 = μ.1 35 := rfl
      rw [fil_0, ← e, sR_id]
    have hE := d_lst3 (C := C) hn h14 hl hA (lsS_ne0 hB h0) (n + 1) 0 (by omega) (by omega)
    rw [← em] at hE
    refine g_iload _ dX6_lost_155 rfl ?_
    refine g_iload_n 1 _ dX6_lost_157 rfl rfl ?_
    refine g_icmp_gtN 181 (by omega) (by omega) dX6_lost_158 (by decide) (fun h158 => ?_) (fun h158 => ?_)
    · refine g_aload_n 0 _ dX6_lost_181 rfl rfl ?_
      refine gf_X6_133 rfl dX6_lost_182 ?_
      refine g_top (w := .long b) (congrArg Value.long rfl) ?_
      refine g_lconst 0 dX6_lost_185 rfl ?_
      refine g_lcmp dX6_lost_186 ?_
      refine g_if_geC 195 dX6_lost_187 (by decide) (fun h187 => ?_) (fun h187 => ?_)
      · refine g_iconst (nI 0) dX6_lost_195 rfl ?_
        refine g_istore [some (.ref 33), some (.int (nI l)), some (.int (nI (l + 1))), some (.int (nI n)), none, some (.int (nI 1)), some (.long (gF 0 (lsA9 Y b l) k)), none, some (.int (nI 0))] dX6_lost_196 (Nat.le_of_ble_eq_true rfl) rfl rfl ?_
        first | exact hE | (have e9 : gF 0 (lsA9 Y b l) k = lsS Y b l := by (unfold lsS; rw [show k = l + 1 by omega, if_neg (by assumption)])); rw [e9]; exact hE
      · refine g_lload _ dX6_lost_190 rfl ?_
        refine g_lneg dX6_lost_192 ?_
        refine g_top (w := .long (lsS Y b l)) (congrArg Value.long (by unfold lsS; rw [show k = l + 1 by omega, if_pos (by assumption)])) ?_
        refine g_lstore [some (.ref 33), some (.int (nI l)), some (.int (nI (l + 1))), some (.int (nI n)), none, some (.int (nI 1)), some (.long (lsS Y b l)), none, some (.int (nI k))] dX6_lost_193 (Nat.le_of_ble_eq_true rfl) rfl rfl ?_
        refine g_iconst (nI 0) dX6_lost_195 rfl ?_
        refine g_istore [some (.ref 33), some (.int (nI l)), some (.int (nI (l + 1))), some (.int (nI n)), none, some (.int (nI 1)), some (.long (lsS Y b l)), none, some (.int (nI 0))] dX6_lost_196 (Nat.le_of_ble_eq_true rfl) rfl rfl ?_
        first | exact hE | (have e9 : gF 0 (lsA9 Y b l) k = lsS Y b l := by (unfold lsS; rw [show k = l + 1 by omega, if_neg (by assumption)])); rw [e9]; exact hE
    · refine g_lload _ dX6_lost_161 rfl ?_
      refine g_aload_n 0 _ dX6_lost_163 rfl rfl ?_
      refine gf_X6_49 rfl dX6_lost_164 ?_
      refine g_iload _ dX6_lost_167 rfl ?_
      refine g_laload (j := k) isL_43 (rfl) (by omega) (by omega) dX6_lost_169 ?_
      refine g_top (w := .long (lsA9 Y b l k)) (congrArg Value.long (ev (by omega))) ?_
      refine g_backl (g_runS (d_gcd (mL μ C A b) (gF 0 (lsA9 Y b l) k) (lsA9 Y b l k) (hg (by omega)) (hB k (by omega))) rfl mw_X6_gcd ms_X6_gcd ml_X6_140 ⟨rfl, rfl, Nat.le_of_ble_eq_true rfl, Nat.le_of_ble_eq_true rfl⟩ rfl rfl (Nat.le_of_ble_eq_true rfl) dX6_lost_170) ?_
      refine g_top (w := .long (gF 0 (lsA9 Y b l) (k + 1))) rfl ?_
      refine g_lstore [some (.ref 33), some (.int (nI l)), some (.int (nI (l + 1))), some (.int (nI n)), none, some (.int (nI 1)), some (.long (gF 0 (lsA9 Y b l) (k + 1))), none, some (.int (nI k))] dX6_lost_173 (Nat.le_of_ble_eq_true rfl) rfl rfl ?_
      refine g_at 175 rfl ?_
      refine g_iincN [some (.ref 33), some (.int (nI l)), some (.int (nI (l + 1))), some (.int (nI n)), none, some (.int (nI 1)), some (.long (gF 0 (lsA9 Y b l) (k + 1))), none, some (.int (nI (k + 1)))] dX6_lost_175 rfl (Nat.le_of_ble_eq_true rfl) rfl rfl ?_
      refine g_goto 155 dX6_lost_178 (by decide) ?_
      exact ih (k + 1) (by omega) (by omega)
theorem d_lst1 {A : Nat → Int64} (hn : μ.1 33 0 = nI n) (h14 : n ≤ 14) (hl : l < n) (hw : (l + 1) * n ≤ 210) (hB : ∀ j, j < l + 1 → (lsA9 Y b l j).toInt ≠ -9223372036854775808) (h0 : ¬ b = 0) : ∀ (m k : Nat), k ≤ l → l < k + m → G mX6_lost (rmL 2) (some (.int (nI l)), sR (mL μ (flt (l + 1) Y) (fil A (lsA9 Y b l) (l + 1)) b) 35 (fil (μ.1 35) (lsV Y b l) n)) (mL μ (flt (l + 1) Y) (fil A (lsA9 Y b l) k) b) 108 [some (.ref 33), some (.int (nI l)), some (.int (nI (l + 1))), some (.int (nI n)), none, some (.int (nI 1)), some (.int (nI k)), none, none] [] := by
  intro m
  induction m with
  | zero => exact fun j h1 h2 => absurd h2 (by omega)
  | succ m ih =>
    intro k h1 h2
    have hx := ix_le hw (show k < n by omega)
    have e1 : k < l → lsA9 Y b l k = -(Y k l) := fun h => if_pos h
    have e2 : lsA9 Y b l l = b := if_neg (Nat.lt_irrefl l)
    refine g_iload _ dX6_lost_108 rfl ?_
    refine g_iload_n 1 _ dX6_lost_110 rfl rfl ?_
    refine g_icmp_geN 139 (by omega) (by omega) dX6_lost_111 (by decide) (fun h111 => ?_) (fun h111 => ?_)
    · refine g_aload_n 0 _ dX6_lost_139 rfl rfl ?_
      refine gf_X6_49 rfl dX6_lost_140 ?_
      refine g_iload_n 1 _ dX6_lost_143 rfl rfl ?_
      refine g_aload_n 0 _ dX6_lost_144 rfl rfl ?_
      refine gf_X6_133 rfl dX6_lost_145 ?_
      refine g_top (w := .long b) (congrArg Value.long rfl) ?_
      refine g_lastore (j := l) isL_43 (rfl) (by omega) (by omega) dX6_lost_148 ?_
      refine g_mem (μ' := mL μ (flt (l + 1) Y) (fil A (lsA9 Y b l) (l + 1)) b) (by exact mL_st (by rw [show k = l by omega]; exact (congrArg (vp_updL _ l) e2.symm).trans (fil_putL _ _ _))) ?_
      refine g_lconst 0 dX6_lost_149 rfl ?_
      refine g_at 150 rfl ?_
      refine g_lstore [some (.ref 33), some (.int (nI l)), some (.int (nI (l + 1))), some (.int (nI n)), none, some (.int (nI 1)), some (.long 0), none, none] dX6_lost_150 (Nat.le_of_ble_eq_true rfl) rfl rfl ?_
      refine g_iconst (nI 0) dX6_lost_152 rfl ?_
      refine g_istore [some (.ref 33), some (.int (nI l)), some (.int (nI (l + 1))), some (.int (nI n)), none, some (.int (nI 1)), some (.long 0), none, some (.int (nI 0))] dX6_lost_153 (Nat.le_of_ble_eq_true rfl) rfl rfl ?_
      exact d_lst2 hn h14 hl (fun q hq => fil_in (by omega)) hB h0 (l + 2) 0 (by omega) (by omega)
    · refine g_aload_n 0 _ dX6_lost_114 rfl rfl ?_
      refine gf_X6_49 rfl dX6_lost_115 ?_
      refine g_iload _ dX6_lost_118 rfl ?_
      refine g_aload_n 0 _ dX6_lost_120 rfl rfl ?_
      refine gf_X6_46 rfl dX6_lost_121 ?_
      refine g_iload_n 2 _ dX6_lost_124 rfl rfl ?_
      refine g_iload _ dX6_lost_125 rfl ?_
      refine g_at 127 rfl ?_
      refine g_imulN dX6_lost_127 ?_
      refine g_iload_n 1 _ dX6_lost_128 rfl rfl ?_
      refine g_iaddN dX6_lost_129 ?_
      refine g_laload (j := (l + 1) * k + l) isL_42 (rfl) (by omega) (by omega) dX6_lost_130 ?_
      refine g_top (w := .long (Y k l)) (congrArg Value.long (flt_at (by omega))) ?_
      refine g_lneg dX6_lost_131 ?_
      refine g_lastore (j := k) isL_43 (rfl) (by omega) (by omega) dX6_lost_132 ?_
      refine g_mem (μ' := mL μ (flt (l + 1) Y) (fil A (lsA9 Y b l) (k + 1)) b) (by exact mL_st (by rw [← e1 (by omega), fil_putL])) ?_
      refine g_iincN [some (.ref 33), some (.int (nI l)), some (.int (nI (l + 1))), some (.int (nI n)), none, some (.int (nI 1)), some (.int (nI (k + 1))), none, none] dX6_lost_133 rfl (Nat.le_of_ble_eq_true rfl) rfl rfl ?_
      refine g_goto 108 dX6_lost_136 (by decide) ?_
      exact ih (k + 1) (by omega) (by omega)
end
