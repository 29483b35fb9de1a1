/-! HoleMaskModel: lost -/
section
variable {μ : Mm} {Y : Mx} {b : Int64} {n l : Nat}
theorem d_lst2 {A C : Nat → Int64} (hn : μ.1 33 0 = nI n) (h14 : n ≤ 14) (hl : l < n) (hA : ∀ k, k ≤ l → A k = lsA9 Y b l k) (hB : ∀ j, j < l + 1 → (lsA9 Y b l j).toInt ≠ -9223372036854775808) (h0 : ¬ b = 0) : ∀ (m k : Nat), k ≤ l + 1 → l + 1 < k + m → G mX6_lost (rmL 2) (some (.int (nI l)), sR (mL μ C A b) 35 (fil (μ.1 35) (lsV Y b l) n)) (mL μ C A b) 155 [some (.ref 33), some (.int (nI l)), some (.int (nI (l + 1))), some (.int (nI n)), none, some (.int (nI 1)), some (.long (gF 0 (lsA9 Y b l) k)), none, some (.int (nI k))] [] := by
  intro m
  induction m with
  | zero => exact fun j h1 h2 => absurd h2 (by omega)
  | succ m ih =>
    intro k h1 h2
    have ev : k ≤ l → (mL μ C A b).2 43 k = lsA9 Y b l k := fun h => hA k h
    have hg : k ≤ l → (gF 0 (lsA9 Y b l) k).toInt ≠ -9223372036854775808 := fun h => gF_ok (by decide) k (fun j hj => hB j (by omega))
    have em : mL μ C A b = sR (mL μ C A b) 35 (fil (μ.1 35) (lsV Y b l) 0) := by
      have e : (mL μ C A b).1 35 = μ.1 35 := rfl
      rw [fil_0, ← e, sR_id]
    have hE := d_lst3 (C := C) hn h14 hl hA (lsS_ne0 hB h0) (n + 1) 0 (by omega) (by omega)
    rw [← em] at hE
    refine g_iload _ dX6_lost_155 rfl ?_
    refine g_iload_n 1 _ dX6_lost_157 rfl rfl ?_
    refine g_icmp_gtN 181 (by omega) (by omega) dX6_lost_158 (by decide) (fun h158 => ?_) (fun h158 => ?_)
    · refine g_aload_n 0 _ dX6_lost_181 rfl rfl ?_
      refine gf_X6_133 rfl dX6_lost_182 ?_
      refine g_top (w := .long b) (congrArg Value.long rfl) ?_
      refine g_lconst 0 dX6_lost_185 rfl ?_
      refine g_lcmp dX6_lost_186 ?_
      refine g_if_geC 195 dX6_lost_187 (by decide) (fun h187 => ?_) (fun h187 => ?_)
      · refine g_iconst (nI 0) dX6_lost_195 rfl ?_
        refine g_istore [some (.ref 33), some (.int (nI l)), some (.int (nI (l + 1))), some (.int (nI n)), none, some (.int (nI 1)), some (.long (gF 0 (lsA9 Y b l) k)), none, some (.int (nI 0))] dX6_lost_196 (Nat.le_of_ble_eq_true rfl) rfl rfl ?_
        first | exact hE | (have e9 : gF 0 (lsA9 Y b l) k = lsS Y b l := by (unfold lsS; rw [show k = l + 1 by omega, if_neg (by assumption)])); rw [e9]; exact hE
      · refine g_lload _ dX6_lost_190 rfl ?_
        refine g_lneg dX6_lost_192 ?_
        refine g_top (w := .long (lsS Y b l)) (congrArg Value.long (by unfold lsS; rw [show k = l + 1 by omega, if_pos (by assumption)])) ?_
        refine g_lstore [some (.ref 33), some (.int (nI l)), some (.int (nI (l + 1))), some (.int (nI n)), none, some (.int (nI 1)), some (.long (lsS Y b l)), none, some (.int (nI k))] dX6_lost_193 (Nat.le_of_ble_eq_true rfl) rfl rfl ?_
        refine g_iconst (nI 0) dX6_lost_195 rfl ?_
        refine g_istore [some (.ref 33), some (.int (nI l)), some (.int (nI (l + 1))), some (.int (nI n)), none, some (.int (nI 1)), some (.long (lsS Y b l)), none, some (.int (nI 0))] dX6_lost_196 (Nat.le_of_ble_eq_true rfl) rfl rfl ?_
        first | exact hE | (have e9 : gF 0 (lsA9 Y b l) k = lsS Y b l := by (unfold lsS; rw [show k = l + 1 by omega, if_neg (by assumption)])); rw [e9]; exact hE
    · refine g_lload _ dX6_lost_161 rfl ?_
      refine g_aload_n 0 _ dX6_lost_163 rfl rfl ?_
      refine gf_X6_49 rfl dX6_lost_164 ?_
      refine g_iload _ dX6_lost_167 rfl ?_
      refine g_laload (j := k) isL_43 (rfl) (by omega) (by omega) dX6_lost_169 ?_
      refine g_top (w := .long (lsA9 Y b l k)) (congrArg Value.long (ev (by omega))) ?_
      refine g_backl (g_runS (d_gcd (mL μ C A b) (gF 0 (lsA9 Y b l) k) (lsA9 Y b l k) (hg (by omega)) (hB k (by omega))) rfl mw_X6_gcd ms_X6_gcd ml_X6_140 ⟨rfl, rfl, Nat.le_of_ble_eq_true rfl, Nat.le_of_ble_eq_true rfl⟩ rfl rfl (Nat.le_of_ble_eq_true rfl) dX6_lost_170) ?_
      refine g_top (w := .long (gF 0 (lsA9 Y b l) (k + 1))) rfl ?_
      refine g_lstore [some (.ref 33), some (.int (nI l)), some (.int (nI (l + 1))), some (.int (nI n)), none, some (.int (nI 1)), some (.long (gF 0 (lsA9 Y b l) (k + 1))), none, some (.int (nI k))] dX6_lost_173 (Nat.le_of_ble_eq_true rfl) rfl rfl ?_
      refine g_at 175 rfl ?_
      refine g_iincN [some (.ref 33), some (.int (nI l)), some (.int (nI (l + 1))), some (.int (nI n)), none, some (.int (nI 1)), some (.long (gF 0 (lsA9 Y b l) (k + 1))), none, some (.int (nI (k + 1)))] dX6_lost_175 rfl (Nat.le_of_ble_eq_true rfl) rfl rfl ?_
      refine g_goto 155 dX6_lost_178 (by decide) ?_
      exact ih (k + 1) (by omega) (by omega)
theorem d_lst1 {A : Nat → Int64} (hn : μ.1 33 0 = nI n) (h14 : n ≤ 14) (hl : l < n) (hw : (l + 1) * n ≤ 210) (hB : ∀ j, j < l + 1 → (lsA9 Y b l j).toInt ≠ -9223372036854775808) (h0 : ¬ b = 0) : ∀ (m k : Nat), k ≤ l → l < k + m → G mX6_lost (rmL 2) (some (.int (nI l)), sR (mL μ (flt (l + 1) Y) (fil A (lsA9 Y b l) (l + 1)) b) 35 (fil (μ.1 35) (lsV Y b l) n)) (mL μ (flt (l + 1) Y) (fil A (lsA9 Y b l) k) b) 108 [some (.ref 33), some (.int (nI l)), some (.int (nI (l + 1))), some (.int (nI n)), none, some (.int (nI 1)), some (.int (nI k)), none, none] [] := by
  intro m
  induction m with
  | zero => exact fun j h1 h2 => absurd h2 (by omega)
  | succ m ih =>
    intro k h1 h2
    have hx := ix_le hw (show k < n by omega)
    have e1 : k < l → lsA9 Y b l k = -(Y k l) := fun h => if_pos h
    have e2 : lsA9 Y b l l = b := if_neg (Nat.lt_irrefl l)
    refine g_iload _ dX6_lost_108 rfl ?_
    refine g_iload_n 1 _ dX6_lost_110 rfl rfl ?_
    refine g_icmp_geN 139 (by omega) (by omega) dX6_lost_111 (by decide) (fun h111 => ?_) (fun h111 => ?_)
    · refine g_aload_n 0 _ dX6_lost_139 rfl rfl ?_
      refine gf_X6_49 rfl dX6_lost_140 ?_
      refine g_iload_n 1 _ dX6_lost_143 rfl rfl ?_
      refine g_aload_n 0 _ dX6_lost_144 rfl rfl ?_
      refine gf_X6_133 rfl dX6_lost_145 ?_
      refine g_top (w := .long b) (congrArg Value.long rfl) ?_
      refine g_lastore (j := l) isL_43 (rfl) (by omega) (by omega) dX6_lost_148 ?_
      refine g_mem (μ' := mL μ (flt (l + 1) Y) (fil A (lsA9 Y b l) (l + 1)) b) (by exact mL_st (by rw [show k = l by omega]; exact (congrArg (vp_updL _ l) e2.symm).trans (fil_putL _ _ _))) ?_
      refine g_lconst 0 dX6_lost_149 rfl ?_
      refine g_at 150 rfl ?_
      refine g_lstore [some (.ref 33), some (.int (nI l)), some (.int (nI (l + 1))), some (.int (nI n)), none, some (.int (nI 1)), some (.long 0), none, none] dX6_lost_150 (Nat.le_of_ble_eq_true rfl) rfl rfl ?_
      refine g_iconst (nI 0) dX6_lost_152 rfl ?_
      refine g_istore [some (.ref 33), some (.int (nI l)), some (.int (nI (l + 1))), some (.int (nI n)), none, some (.int (nI 1)), some (.long 0), none, some (.int (nI 0))] dX6_lost_153 (Nat.le_of_ble_eq_true rfl) rfl rfl ?_
      exact d_lst2 hn h14 hl (fun q hq => fil_in (by omega)) hB h0 (l + 2) 0 (by omega) (by omega)
    · refine g_aload_n 0 _ dX6_lost_114 rfl rfl ?_
      refine gf_X6_49 rfl dX6_lost_115 ?_
      refine g_iload _ dX6_lost_118 rfl ?_
      refine g_aload_n 0 _ dX6_lost_120 rfl rfl ?_
      refine gf_X6_46 rfl dX6_lost_121 ?_
      refine g_iload_n 2 _ dX6_lost_124 rfl rfl ?_
      refine g_iload _ dX6_lost_125 rfl ?_
      refine g_at 127 rfl ?_
      refine g_imulN dX6_lost_127 ?_
      refine g_iload_n 1 _ dX6_lost_128 rfl rfl ?_
      refine g_iaddN dX6_lost_129 ?_
      refine g_laload (j := (l + 1) * k + l) isL_42 (rfl) (by omega) (by omega) dX6_lost_130 ?_
      refine g_top (w := .long (Y k l)) (congrArg Value.long (flt_at (by omega))) ?_
      refine g_lneg dX6_lost_131 ?_
      refine g_lastore (j := k) isL_43 (rfl) (by omega) (by omega) dX6_lost_132 ?_
      refine g_mem (μ' := mL μ (flt (l + 1) Y) (fil A (lsA9 Y b l) (k + 1)) b) (by exact mL_st (by rw [← e1 (by omega), fil_putL])) ?_
      refine g_iincN [some (.ref 33), some (.int (nI l)), some (.int (nI (l + 1))), some (.int (nI n)), none, some (.int (nI 1)), some (.int (nI (k + 1))), none, none] dX6_lost_133 rfl (Nat.le_of_ble_eq_true rfl) rfl rfl ?_
      refine g_goto 108 dX6_lost_136 (by decide) ?_
      exact ih (k + 1) (by omega) (by omega)
end
/-- down of the first l columns, the column l beside them -/
def lsN (f : Nat → Int32) (n l : Nat) (X : Mx) : Nat × Int64 × Mx := dnF n (l + 1) l 0 0 1 (lyM f n (l + 1) X n)
def lsZ (n l : Nat) (D : Nat × Int64 × Mx) : Prop := ∀ q, D.1 ≤ q → q < n → D.2.2 q l = 0
theorem ix_l {n l : Nat} (h : n ≤ 14) (hl : l < n) : (l + 1) * n ≤ 210 := Nat.le_trans (Nat.mul_le_mul (show l + 1 ≤ 15 by omega) h) (by decide)
theorem d_lost_none {μ : Mm} {n : Nat} (hn : μ.1 33 0 = nI n) (h14 : n ≤ 14) (hNo : ∀ l, l < n → ∀ X, ¬ lsZ n l (lsN (μ.1 34) n l X)) : ∀ (m l : Nat) (C A : Nat → Int64) (b : Int64), l ≤ n → n < l + m → ∃ (C' A' : Nat → Int64) (b' : Int64), G mX6_lost (rmL 2) (some (.int (-1)), mL μ C' A' b') (mL μ C A b) 21 [some (.ref 33), some (.int (nI l)), none, none, none, none, none, none, none] [] := by
  intro m
  induction m with
  | zero => exact fun l C A b h1 h2 => absurd h2 (by omega)
  | succ m ih =>
    intro l C A b h1 h2
    by_cases hl : l < n
    · have hw := ix_l h14 hl
      generalize hX : uD (mL μ C A b) (l + 1) = X
      generalize hD : lsN (μ.1 34) n l X = D
      have hz := hNo l hl X
      rw [hD] at hz
      have hle : D.1 ≤ n := by rw [← hD]; exact (dnF_le l 0 0 1 _ (by omega)).1
      obtain ⟨C', A', b', hG⟩ := ih (l + 1) (flt (l + 1) D.2.2) A D.2.1 (by omega) (by omega)
      refine ⟨C', A', b', ?_⟩
      have hE : G mX6_lost (rmL 2) (some (.int (-1)), mL μ C' A' b') (mL μ (flt (l + 1) D.2.2) A D.2.1) 97 [some (.ref 33), some (.int (nI l)), some (.int (nI (l + 1))), some (.int (nI n)), none, some (.int (nI 0)), none, none, none] [] := by
        refine g_iload _ dX6_lost_97 rfl ?_
        refine g_if_neN 105 (by omega) dX6_lost_99 (by decide) (fun h99 => ?_) (fun h99 => ?_)
        · exact absurd h99 (by omega)
        · refine g_goto 243 dX6_lost_102 (by decide) ?_
          refine g_iincN [some (.ref 33), some (.int (nI (l + 1))), some (.int (nI (l + 1))), some (.int (nI n)), none, some (.int (nI 0)), none, none, none] dX6_lost_243 rfl (Nat.le_of_ble_eq_true rfl) rfl rfl ?_
          refine g_goto 21 dX6_lost_246 (by decide) ?_
          exact g_drop 2 _ rfl (g_drop 3 _ rfl (g_drop 5 _ rfl hG))
      have hm0 : mL μ C A b = mD (mL μ C A b) (l + 1) X := by rw [← hX]; exact uD_id (Nat.succ_pos l) _
      refine g_iload_n 1 _ dX6_lost_21 rfl rfl ?_
      refine g_aload_n 0 _ dX6_lost_22 rfl rfl ?_
      refine gf_X6_7 rfl dX6_lost_23 ?_
      refine g_top (w := .int (nI n)) (congrArg Value.int hn) ?_
      refine g_icmp_geN 249 (by omega) (by omega) dX6_lost_26 (by decide) (fun h26 => ?_) (fun h26 => ?_)
      · exact absurd h26 (by omega)
      · refine g_iload_n 1 _ dX6_lost_29 rfl rfl ?_
        refine g_iconst (nI 1) dX6_lost_30 rfl ?_
        refine g_iaddN dX6_lost_31 ?_
        refine g_istore_n [some (.ref 33), some (.int (nI l)), some (.int (nI (l + 1))), none, none, none, none, none, none] dX6_lost_32 rfl (Nat.le_of_ble_eq_true rfl) rfl rfl ?_
        refine g_mem (μ' := mD (mL μ C A b) (l + 1) X) (by exact hm0) ?_
        refine g_aload_n 0 _ dX6_lost_33 rfl rfl ?_
        refine g_iconst (nI 1) dX6_lost_34 rfl ?_
        refine g_iload_n 2 _ dX6_lost_35 rfl rfl ?_
        refine g_at 36 rfl ?_
        refine g_iload_n 2 _ dX6_lost_36 rfl rfl ?_
        refine g_backi (g_runV (d_layShadow (mL μ C A b) X (n := n) (cols := l + 1) (w := l + 1) (nI 1) hn h14 hw (Nat.le_refl _) (by omega) (Or.inl (by decide))) rfl mw_X6_layShadow mi_X6_layShadow ml_X6_148 isO_33 ⟨rfl, rfl, Nat.le_of_ble_eq_true rfl, Nat.le_of_ble_eq_true rfl⟩ rfl rfl (Nat.le_of_ble_eq_true rfl) dX6_lost_37) ?_
        refine g_mem (μ' := mD (mL μ C A b) (l + 1) (lyM (μ.1 34) n (l + 1) X n)) rfl ?_
        refine g_top (w := .int (nI n)) rfl ?_
        refine g_istore_n [some (.ref 33), some (.int (nI l)), some (.int (nI (l + 1))), some (.int (nI n)), none, none, none, none, none] dX6_lost_40 rfl (Nat.le_of_ble_eq_true rfl) rfl rfl ?_
        refine g_aload_n 0 _ dX6_lost_41 rfl rfl ?_
        refine g_iload_n 3 _ dX6_lost_42 rfl rfl ?_
        refine g_iload_n 1 _ dX6_lost_43 rfl rfl ?_
        refine g_iload_n 2 _ dX6_lost_44 rfl rfl ?_
        refine g_backi (g_runV ((d_down (mL μ C A b) (lyM (μ.1 34) n (l + 1) X n) (rows := n) (cols := l) (w := l + 1) hw (by omega) h14 (by omega)).to (show (some (Value.int (nI (lsN (μ.1 34) n l X).1)), sL (mD (mL μ C A b) (l + 1) (lsN (μ.1 34) n l X).2.2) 33 20 (lsN (μ.1 34) n l X).2.1) = _ by rw [hD, mL_dn])) rfl mw_X6_down mi_X6_down ml_X6_136 isO_33 ⟨rfl, rfl, Nat.le_of_ble_eq_true rfl, Nat.le_of_ble_eq_true rfl⟩ rfl rfl (Nat.le_of_ble_eq_true rfl) dX6_lost_45) ?_
        refine g_mem (μ' := mL μ (flt (l + 1) D.2.2) A D.2.1) rfl ?_
        refine g_top (w := .int (nI D.1)) rfl ?_
        refine g_at 48 rfl ?_
        refine g_istore [some (.ref 33), some (.int (nI l)), some (.int (nI (l + 1))), some (.int (nI n)), some (.int (nI D.1)), none, none, none, none] dX6_lost_48 (Nat.le_of_ble_eq_true rfl) rfl rfl ?_
        refine g_iconst (nI 1) dX6_lost_50 rfl ?_
        refine g_istore [some (.ref 33), some (.int (nI l)), some (.int (nI (l + 1))), some (.int (nI n)), some (.int (nI D.1)), some (.int (nI 1)), none, none, none] dX6_lost_51 (Nat.le_of_ble_eq_true rfl) rfl rfl ?_
        refine g_iload _ dX6_lost_53 rfl ?_
        refine g_istore [some (.ref 33), some (.int (nI l)), some (.int (nI (l + 1))), some (.int (nI n)), some (.int (nI D.1)), some (.int (nI 1)), some (.int (nI D.1)), none, none] dX6_lost_55 (Nat.le_of_ble_eq_true rfl) rfl rfl ?_
        exact g_drop 4 _ rfl (d_is2 h14 hl hw hE (n + 1) D.1 hle (by omega) hz)
    · refine ⟨C, A, b, ?_⟩
      refine g_iload_n 1 _ dX6_lost_21 rfl rfl ?_
      refine g_aload_n 0 _ dX6_lost_22 rfl rfl ?_
      refine gf_X6_7 rfl dX6_lost_23 ?_
      refine g_top (w := .int (nI n)) (congrArg Value.int hn) ?_
      refine g_icmp_geN 249 (by omega) (by omega) dX6_lost_26 (by decide) (fun h26 => ?_) (fun h26 => ?_)
      · refine g_iconst (-1) dX6_lost_249 rfl ?_
        exact g_ireturn dX6_lost_250 rfl rfl rfl
      · exact absurd h26 hl
theorem d_lost_some {μ : Mm} {n e : Nat} (hn : μ.1 33 0 = nI n) (h14 : n ≤ 14) (he : e < n) (hNo : ∀ l, l < e → ∀ X, ¬ lsZ n l (lsN (μ.1 34) n l X)) (hYes : ∀ X, lsZ n e (lsN (μ.1 34) n e X)) (h0 : ∀ X, ¬ (lsN (μ.1 34) n e X).2.1 = 0) (hB : ∀ X j, j < e + 1 → (lsA9 (lsN (μ.1 34) n e X).2.2 (lsN (μ.1 34) n e X).2.1 e j).toInt ≠ -9223372036854775808) : ∀ (m l : Nat) (C A : Nat → Int64) (b : Int64), l ≤ e → e < l + m → ∃ (X : Mx) (C' A' : Nat → Int64), G mX6_lost (rmL 2) (some (.int (nI e)), sR (mL μ C' A' (lsN (μ.1 34) n e X).2.1) 35 (fil (μ.1 35) (lsV (lsN (μ.1 34) n e X).2.2 (lsN (μ.1 34) n e X).2.1 e) n)) (mL μ C A b) 21 [some (.ref 33), some (.int (nI l)), none, none, none, none, none, none, none] [] := by
  intro m
  induction m with
  | zero => exact fun l C A b h1 h2 => absurd h2 (by omega)
  | succ m ih =>
    intro l C A b h1 h2
    have hl : l < n := by omega
    have hw := ix_l h14 hl
    generalize hX : uD (mL μ C A b) (l + 1) = X
    generalize hD : lsN (μ.1 34) n l X = D
    have hle : D.1 ≤ n := by rw [← hD]; exact (dnF_le l 0 0 1 _ (by omega)).1
    have hm0 : mL μ C A b = mD (mL μ C A b) (l + 1) X := by rw [← hX]; exact uD_id (Nat.succ_pos l) _
    by_cases hle2 : l < e
    · have hz := hNo l hle2 X
      rw [hD] at hz
      obtain ⟨X9, C', A', hG⟩ := ih (l + 1) (flt (l + 1) D.2.2) A D.2.1 (by omega) (by omega)
      refine ⟨X9, C', A', ?_⟩
      generalize (some (Value.int (nI e)), sR (mL μ C' A' (lsN (μ.1 34) n e X9).2.1) 35 (fil (μ.1 35) (lsV (lsN (μ.1 34) n e X9).2.2 (lsN (μ.1 34) n e X9).2.1 e) n)) = RR at *
      have hE : G mX6_lost (rmL 2) RR (mL μ (flt (l + 1) D.2.2) A D.2.1) 97 [some (.ref 33), some (.int (nI l)), some (.int (nI (l + 1))), some (.int (nI n)), none, some (.int (nI 0)), none, none, none] [] := by
        refine g_iload _ dX6_lost_97 rfl ?_
        refine g_if_neN 105 (by omega) dX6_lost_99 (by decide) (fun h99 => ?_) (fun h99 => ?_)
        · exact absurd h99 (by omega)
        · refine g_goto 243 dX6_lost_102 (by decide) ?_
          refine g_iincN [some (.ref 33), some (.int (nI (l + 1))), some (.int (nI (l + 1))), some (.int (nI n)), none, some (.int (nI 0)), none, none, none] dX6_lost_243 rfl (Nat.le_of_ble_eq_true rfl) rfl rfl ?_
          refine g_goto 21 dX6_lost_246 (by decide) ?_
          exact g_drop 2 _ rfl (g_drop 3 _ rfl (g_drop 5 _ rfl hG))
      refine g_iload_n 1 _ dX6_lost_21 rfl rfl ?_
      refine g_aload_n 0 _ dX6_lost_22 rfl rfl ?_
      refine gf_X6_7 rfl dX6_lost_23 ?_
      refine g_top (w := .int (nI n)) (congrArg Value.int hn) ?_
      refine g_icmp_geN 249 (by omega) (by omega) dX6_lost_26 (by decide) (fun h26 => ?_) (fun h26 => ?_)
      · exact absurd h26 (by omega)
      · refine g_iload_n 1 _ dX6_lost_29 rfl rfl ?_
        refine g_iconst (nI 1) dX6_lost_30 rfl ?_
        refine g_iaddN dX6_lost_31 ?_
        refine g_istore_n [some (.ref 33), some (.int (nI l)), some (.int (nI (l + 1))), none, none, none, none, none, none] dX6_lost_32 rfl (Nat.le_of_ble_eq_true rfl) rfl rfl ?_
        refine g_mem (μ' := mD (mL μ C A b) (l + 1) X) (by exact hm0) ?_
        refine g_aload_n 0 _ dX6_lost_33 rfl rfl ?_
        refine g_iconst (nI 1) dX6_lost_34 rfl ?_
        refine g_iload_n 2 _ dX6_lost_35 rfl rfl ?_
        refine g_at 36 rfl ?_
        refine g_iload_n 2 _ dX6_lost_36 rfl rfl ?_
        refine g_backi (g_runV (d_layShadow (mL μ C A b) X (n := n) (cols := l + 1) (w := l + 1) (nI 1) hn h14 hw (Nat.le_refl _) (by omega) (Or.inl (by decide))) rfl mw_X6_layShadow mi_X6_layShadow ml_X6_148 isO_33 ⟨rfl, rfl, Nat.le_of_ble_eq_true rfl, Nat.le_of_ble_eq_true rfl⟩ rfl rfl (Nat.le_of_ble_eq_true rfl) dX6_lost_37) ?_
        refine g_mem (μ' := mD (mL μ C A b) (l + 1) (lyM (μ.1 34) n (l + 1) X n)) rfl ?_
        refine g_top (w := .int (nI n)) rfl ?_
        refine g_istore_n [some (.ref 33), some (.int (nI l)), some (.int (nI (l + 1))), some (.int (nI n)), none, none, none, none, none] dX6_lost_40 rfl (Nat.le_of_ble_eq_true rfl) rfl rfl ?_
        refine g_aload_n 0 _ dX6_lost_41 rfl rfl ?_
        refine g_iload_n 3 _ dX6_lost_42 rfl rfl ?_
        refine g_iload_n 1 _ dX6_lost_43 rfl rfl ?_
        refine g_iload_n 2 _ dX6_lost_44 rfl rfl ?_
        refine g_backi (g_runV ((d_down (mL μ C A b) (lyM (μ.1 34) n (l + 1) X n) (rows := n) (cols := l) (w := l + 1) hw (by omega) h14 (by omega)).to (show (some (Value.int (nI (lsN (μ.1 34) n l X).1)), sL (mD (mL μ C A b) (l + 1) (lsN (μ.1 34) n l X).2.2) 33 20 (lsN (μ.1 34) n l X).2.1) = _ by rw [hD, mL_dn])) rfl mw_X6_down mi_X6_down ml_X6_136 isO_33 ⟨rfl, rfl, Nat.le_of_ble_eq_true rfl, Nat.le_of_ble_eq_true rfl⟩ rfl rfl (Nat.le_of_ble_eq_true rfl) dX6_lost_45) ?_
        refine g_mem (μ' := mL μ (flt (l + 1) D.2.2) A D.2.1) rfl ?_
        refine g_top (w := .int (nI D.1)) rfl ?_
        refine g_at 48 rfl ?_
        refine g_istore [some (.ref 33), some (.int (nI l)), some (.int (nI (l + 1))), some (.int (nI n)), some (.int (nI D.1)), none, none, none, none] dX6_lost_48 (Nat.le_of_ble_eq_true rfl) rfl rfl ?_
        refine g_iconst (nI 1) dX6_lost_50 rfl ?_
        refine g_istore [some (.ref 33), some (.int (nI l)), some (.int (nI (l + 1))), some (.int (nI n)), some (.int (nI D.1)), some (.int (nI 1)), none, none, none] dX6_lost_51 (Nat.le_of_ble_eq_true rfl) rfl rfl ?_
        refine g_iload _ dX6_lost_53 rfl ?_
        refine g_istore [some (.ref 33), some (.int (nI l)), some (.int (nI (l + 1))), some (.int (nI n)), some (.int (nI D.1)), some (.int (nI 1)), some (.int (nI D.1)), none, none] dX6_lost_55 (Nat.le_of_ble_eq_true rfl) rfl rfl ?_
        exact g_drop 4 _ rfl (d_is2 h14 hl hw hE (n + 1) D.1 hle (by omega) hz)
    · have hee : l = e := by omega
      subst hee
      have hz := hYes X
      have hd0 := h0 X
      have hdB := hB X
      refine ⟨X, flt (l + 1) D.2.2, fil A (lsA9 D.2.2 D.2.1 l) (l + 1), ?_⟩
      rw [hD] at hz hd0 hdB ⊢
      have hE0 := d_lst1 (Y := D.2.2) (b := D.2.1) (A := A) hn h14 hl hw hdB hd0 (l + 1) 0 (by omega) (by omega)
      rw [fil_0] at hE0
      generalize (some (Value.int (nI l)), sR (mL μ (flt (l + 1) D.2.2) (fil A (lsA9 D.2.2 D.2.1 l) (l + 1)) D.2.1) 35 (fil (μ.1 35) (lsV D.2.2 D.2.1 l) n)) = RR at *
      have hE : G mX6_lost (rmL 2) RR (mL μ (flt (l + 1) D.2.2) A D.2.1) 97 [some (.ref 33), some (.int (nI l)), some (.int (nI (l + 1))), some (.int (nI n)), none, some (.int (nI 1)), none, none, none] [] := by
        refine g_iload _ dX6_lost_97 rfl ?_
        refine g_if_neN 105 (by omega) dX6_lost_99 (by decide) (fun h99 => ?_) (fun h99 => ?_)
        · refine g_iconst (nI 0) dX6_lost_105 rfl ?_
          refine g_istore [some (.ref 33), some (.int (nI l)), some (.int (nI (l + 1))), some (.int (nI n)), none, some (.int (nI 1)), some (.int (nI 0)), none, none] dX6_lost_106 (Nat.le_of_ble_eq_true rfl) rfl rfl ?_
          exact hE0
        · exact absurd h99 (by omega)
      refine g_iload_n 1 _ dX6_lost_21 rfl rfl ?_
      refine g_aload_n 0 _ dX6_lost_22 rfl rfl ?_
      refine gf_X6_7 rfl dX6_lost_23 ?_
      refine g_top (w := .int (nI n)) (congrArg Value.int hn) ?_
      refine g_icmp_geN 249 (by omega) (by omega) dX6_lost_26 (by decide) (fun h26 => ?_) (fun h26 => ?_)
      · exact absurd h26 (by omega)
      · refine g_iload_n 1 _ dX6_lost_29 rfl rfl ?_
        refine g_iconst (nI 1) dX6_lost_30 rfl ?_
        refine g_iaddN dX6_lost_31 ?_
        refine g_istore_n [some (.ref 33), some (.int (nI l)), some (.int (nI (l + 1))), none, none, none, none, none, none] dX6_lost_32 rfl (Nat.le_of_ble_eq_true rfl) rfl rfl ?_
        refine g_mem (μ' := mD (mL μ C A b) (l + 1) X) (by exact hm0) ?_
        refine g_aload_n 0 _ dX6_lost_33 rfl rfl ?_
        refine g_iconst (nI 1) dX6_lost_34 rfl ?_
        refine g_iload_n 2 _ dX6_lost_35 rfl rfl ?_
        refine g_at 36 rfl ?_
        refine g_iload_n 2 _ dX6_lost_36 rfl rfl ?_
        refine g_backi (g_runV (d_layShadow (mL μ C A b) X (n := n) (cols := l + 1) (w := l + 1) (nI 1) hn h14 hw (Nat.le_refl _) (by omega) (Or.inl (by decide))) rfl mw_X6_layShadow mi_X6_layShadow ml_X6_148 isO_33 ⟨rfl, rfl, Nat.le_of_ble_eq_true rfl, Nat.le_of_ble_eq_true rfl⟩ rfl rfl (Nat.le_of_ble_eq_true rfl) dX6_lost_37) ?_
        refine g_mem (μ' := mD (mL μ C A b) (l + 1) (lyM (μ.1 34) n (l + 1) X n)) rfl ?_
        refine g_top (w := .int (nI n)) rfl ?_
        refine g_istore_n [some (.ref 33), some (.int (nI l)), some (.int (nI (l + 1))), some (.int (nI n)), none, none, none, none, none] dX6_lost_40 rfl (Nat.le_of_ble_eq_true rfl) rfl rfl ?_
        refine g_aload_n 0 _ dX6_lost_41 rfl rfl ?_
        refine g_iload_n 3 _ dX6_lost_42 rfl rfl ?_
        refine g_iload_n 1 _ dX6_lost_43 rfl rfl ?_
        refine g_iload_n 2 _ dX6_lost_44 rfl rfl ?_
        refine g_backi (g_runV ((d_down (mL μ C A b) (lyM (μ.1 34) n (l + 1) X n) (rows := n) (cols := l) (w := l + 1) hw (by omega) h14 (by omega)).to (show (some (Value.int (nI (lsN (μ.1 34) n l X).1)), sL (mD (mL μ C A b) (l + 1) (lsN (μ.1 34) n l X).2.2) 33 20 (lsN (μ.1 34) n l X).2.1) = _ by rw [hD, mL_dn])) rfl mw_X6_down mi_X6_down ml_X6_136 isO_33 ⟨rfl, rfl, Nat.le_of_ble_eq_true rfl, Nat.le_of_ble_eq_true rfl⟩ rfl rfl (Nat.le_of_ble_eq_true rfl) dX6_lost_45) ?_
        refine g_mem (μ' := mL μ (flt (l + 1) D.2.2) A D.2.1) rfl ?_
        refine g_top (w := .int (nI D.1)) rfl ?_
        refine g_at 48 rfl ?_
        refine g_istore [some (.ref 33), some (.int (nI l)), some (.int (nI (l + 1))), some (.int (nI n)), some (.int (nI D.1)), none, none, none, none] dX6_lost_48 (Nat.le_of_ble_eq_true rfl) rfl rfl ?_
        refine g_iconst (nI 1) dX6_lost_50 rfl ?_
        refine g_istore [some (.ref 33), some (.int (nI l)), some (.int (nI (l + 1))), some (.int (nI n)), some (.int (nI D.1)), some (.int (nI 1)), none, none, none] dX6_lost_51 (Nat.le_of_ble_eq_true rfl) rfl rfl ?_
        refine g_iload _ dX6_lost_53 rfl ?_
        refine g_istore [some (.ref 33), some (.int (nI l)), some (.int (nI (l + 1))), some (.int (nI n)), some (.int (nI D.1)), some (.int (nI 1)), some (.int (nI D.1)), none, none] dX6_lost_55 (Nat.le_of_ble_eq_true rfl) rfl rfl ?_
        exact g_drop 4 _ rfl (d_is1 h14 hl hw hE (n + 1) D.1 hle (by omega) hz)
theorem d_lost_no (μ : Mm) {n : Nat} (hn : μ.1 33 0 = nI n) (h60 : n ≤ 60) (h14 : 14 < n) : Ok mX6_lost (rmL 2) [.ref 33] μ (some (.int (-1)), sI (sI μ 33 14 0) 33 14 (nI 1)) := by
  refine Ok.of (by decide) (Nat.le_of_ble_eq_true rfl) [some (.ref 33), none, none, none, none, none, none, none, none] rfl ?_
  refine g_aload_n 0 _ dX6_lost_0 rfl rfl ?_
  refine g_backv (g_runV (d_start μ) rfl mw_X6_start mi_X6_start ml_X6_68 isO_33 ⟨rfl, rfl, Nat.le_of_ble_eq_true rfl, Nat.le_of_ble_eq_true rfl⟩ rfl rfl (Nat.le_of_ble_eq_true rfl) dX6_lost_1) ?_
  refine g_mem (μ' := sI μ 33 14 0) rfl ?_
  refine g_aload_n 0 _ dX6_lost_4 rfl rfl ?_
  refine gf_X6_7 rfl dX6_lost_5 ?_
  refine g_top (w := .int (nI n)) (congrArg Value.int hn) ?_
  refine g_bipush (nI 14) dX6_lost_8 rfl ?_
  refine g_icmp_leN 19 (by omega) (by omega) dX6_lost_10 (by decide) (fun h10 => ?_) (fun h10 => ?_)
  · exact absurd h10 (by omega)
  · refine g_aload_n 0 _ dX6_lost_13 rfl rfl ?_
    refine g_iconst (nI 1) dX6_lost_14 rfl ?_
    refine g_backi (g_runV (d_no (sI μ 33 14 0) (nI 1)) rfl mw_X6_no mi_X6_no ml_X6_79 isO_33 ⟨rfl, rfl, Nat.le_of_ble_eq_true rfl, Nat.le_of_ble_eq_true rfl⟩ rfl rfl (Nat.le_of_ble_eq_true rfl) dX6_lost_15) ?_
    refine g_mem (μ' := sI (sI μ 33 14 0) 33 14 (nI 1)) rfl ?_
    refine g_top (w := .int (-1)) rfl ?_
    exact g_ireturn dX6_lost_18 rfl rfl rfl
theorem d_lost_0 (μ : Mm) {n : Nat} (hn : μ.1 33 0 = nI n) (h14 : n ≤ 14) (hNo : ∀ l, l < n → ∀ X, ¬ lsZ n l (lsN (μ.1 34) n l X)) : ∃ (C A : Nat → Int64) (b : Int64), Ok mX6_lost (rmL 2) [.ref 33] μ (some (.int (-1)), mL (sI μ 33 14 0) C A b) := by
  obtain ⟨C, A, b, hG⟩ := d_lost_none (μ := sI μ 33 14 0) hn h14 hNo (n + 1) 0 (μ.2 42) (μ.2 43) (μ.2 33 20) (by omega) (by omega)
  refine ⟨C, A, b, ?_⟩
  refine Ok.of (by decide) (Nat.le_of_ble_eq_true rfl) [some (.ref 33), none, none, none, none, none, none, none, none] rfl ?_
  refine g_aload_n 0 _ dX6_lost_0 rfl rfl ?_
  refine g_backv (g_runV (d_start μ) rfl mw_X6_start mi_X6_start ml_X6_68 isO_33 ⟨rfl, rfl, Nat.le_of_ble_eq_true rfl, Nat.le_of_ble_eq_true rfl⟩ rfl rfl (Nat.le_of_ble_eq_true rfl) dX6_lost_1) ?_
  refine g_mem (μ' := sI μ 33 14 0) rfl ?_
  refine g_aload_n 0 _ dX6_lost_4 rfl rfl ?_
  refine gf_X6_7 rfl dX6_lost_5 ?_
  refine g_top (w := .int (nI n)) (congrArg Value.int hn) ?_
  refine g_bipush (nI 14) dX6_lost_8 rfl ?_
  refine g_icmp_leN 19 (by omega) (by omega) dX6_lost_10 (by decide) (fun h10 => ?_) (fun h10 => ?_)
  · refine g_iconst (nI 0) dX6_lost_19 rfl ?_
    refine g_istore_n [some (.ref 33), some (.int (nI 0)), none, none, none, none, none, none, none] dX6_lost_20 rfl (Nat.le_of_ble_eq_true rfl) rfl rfl ?_
    exact g_mem (mL_id (sI μ 33 14 0)).symm hG
  · exact absurd h10 (by omega)
theorem d_lost_1 (μ : Mm) {n e : Nat} (hn : μ.1 33 0 = nI n) (h14 : n ≤ 14) (he : e < n) (hNo : ∀ l, l < e → ∀ X, ¬ lsZ n l (lsN (μ.1 34) n l X)) (hYes : ∀ X, lsZ n e (lsN (μ.1 34) n e X)) (h0 : ∀ X, ¬ (lsN (μ.1 34) n e X).2.1 = 0) (hB : ∀ X j, j < e + 1 → (lsA9 (lsN (μ.1 34) n e X).2.2 (lsN (μ.1 34) n e X).2.1 e j).toInt ≠ -9223372036854775808) : ∃ (X : Mx) (C A : Nat → Int64), Ok mX6_lost (rmL 2) [.ref 33] μ (some (.int (nI e)), sR (mL (sI μ 33 14 0) C A (lsN (μ.1 34) n e X).2.1) 35 (fil (μ.1 35) (lsV (lsN (μ.1 34) n e X).2.2 (lsN (μ.1 34) n e X).2.1 e) n)) := by
  obtain ⟨X, C, A, hG⟩ := d_lost_some (μ := sI μ 33 14 0) hn h14 he hNo hYes h0 hB (e + 1) 0 (μ.2 42) (μ.2 43) (μ.2 33 20) (by omega) (by omega)
  refine ⟨X, C, A, ?_⟩
  refine Ok.of (by decide) (Nat.le_of_ble_eq_true rfl) [some (.ref 33), none, none, none, none, none, none, none, none] rfl ?_
  refine g_aload_n 0 _ dX6_lost_0 rfl rfl ?_
  refine g_backv (g_runV (d_start μ) rfl mw_X6_start mi_X6_start ml_X6_68 isO_33 ⟨rfl, rfl, Nat.le_of_ble_eq_true rfl, Nat.le_of_ble_eq_true rfl⟩ rfl rfl (Nat.le_of_ble_eq_true rfl) dX6_lost_1) ?_
  refine g_mem (μ' := sI μ 33 14 0) rfl ?_
  refine g_aload_n 0 _ dX6_lost_4 rfl rfl ?_
  refine gf_X6_7 rfl dX6_lost_5 ?_
  refine g_top (w := .int (nI n)) (congrArg Value.int hn) ?_
  refine g_bipush (nI 14) dX6_lost_8 rfl ?_
  refine g_icmp_leN 19 (by omega) (by omega) dX6_lost_10 (by decide) (fun h10 => ?_) (fun h10 => ?_)
  · refine g_iconst (nI 0) dX6_lost_19 rfl ?_
    refine g_istore_n [some (.ref 33), some (.int (nI 0)), none, none, none, none, none, none, none] dX6_lost_20 rfl (Nat.le_of_ble_eq_true rfl) rfl rfl ?_
    exact g_mem (mL_id (sI μ 33 14 0)).symm hG
  · exact absurd h10 (by omega)
