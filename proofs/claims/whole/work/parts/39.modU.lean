/-! HoleMaskModel: layShadow, rank, sure -/
theorem shC_lt {f : Nat → Int32} {n s j : Nat} (h : j < n) : shC f n s j = (f ((j + n - s) % n)).toInt64 := if_pos h
/-- the row of the reading s, laid as row r -/
theorem d_lyIn {μ : Mm} {X : Mx} {n s r cols w : Nat} {a : Int32} (hn : μ.1 33 0 = nI n) (h14 : n ≤ 14) (hw : w * n ≤ 210) (hcw : cols ≤ w) (hcn : cols ≤ n) (hs : s < n) (hr : r ≤ s) {R : Option Value × Mm} (hE : G mX6_layShadow (rmL 0) R (mD μ w (rwM X r (fil (X r) (shC (μ.1 34) n s) cols))) 80 [some (.ref 33), some (.int a), some (.int (nI cols)), some (.int (nI w)), some (.int (nI r)), some (.int (nI s)), none] []) : ∀ (m j : Nat), j ≤ cols → cols < j + m → G mX6_layShadow (rmL 0) R (mD μ w (rwM X r (fil (X r) (shC (μ.1 34) n s) j))) 35 [some (.ref 33), some (.int a), some (.int (nI cols)), some (.int (nI w)), some (.int (nI r)), some (.int (nI s)), some (.int (nI j))] [] := by
  intro m
  induction m with
  | zero => exact fun j h1 h2 => absurd h2 (by omega)
  | succ m ih =>
    intro j h1 h2
    have hx := ix_le hw (show r < n by omega)
    have hm := Nat.mod_lt (j + n - s) (show 0 < n by omega)
    refine g_iload _ dX6_layShadow_35 rfl ?_
    refine g_iload_n 2 _ dX6_layShadow_37 rfl rfl ?_
    refine g_icmp_geN 80 (by omega) (by omega) dX6_layShadow_38 (by decide) (fun h38 => ?_) (fun h38 => ?_)
    · exact g_drop 6 _ rfl (by rw [show j = cols by omega]; exact hE)
    · refine g_aload_n 0 _ dX6_layShadow_41 rfl rfl ?_
      refine gf_X6_46 rfl dX6_layShadow_42 ?_
      refine g_iload_n 3 _ dX6_layShadow_45 rfl rfl ?_
      refine g_iload _ dX6_layShadow_46 rfl ?_
      refine g_imulN dX6_layShadow_48 ?_
      refine g_iload _ dX6_layShadow_49 rfl ?_
      refine g_iaddN dX6_layShadow_51 ?_
      refine g_at 52 rfl ?_
      refine g_aload_n 0 _ dX6_layShadow_52 rfl rfl ?_
      refine gf_X6_13 rfl dX6_layShadow_53 ?_
      refine g_iload _ dX6_layShadow_56 rfl ?_
      refine g_iload _ dX6_layShadow_58 rfl ?_
      refine g_isub dX6_layShadow_60 ?_
      refine g_aload_n 0 _ dX6_layShadow_61 rfl rfl ?_
      refine gf_X6_7 rfl dX6_layShadow_62 ?_
      refine g_top (w := .int (nI n)) (congrArg Value.int hn) ?_
      refine g_iadd dX6_layShadow_65 ?_
      refine g_top (w := .int (nI (j + n - s))) (congrArg Value.int (sub_add_nI (by omega))) ?_
      refine g_at 66 rfl ?_
      refine g_aload_n 0 _ dX6_layShadow_66 rfl rfl ?_
      refine gf_X6_7 rfl dX6_layShadow_67 ?_
      refine g_top (w := .int (nI n)) (congrArg Value.int hn) ?_
      refine g_iremN (by omega) (by omega) (by omega) dX6_layShadow_70 ?_
      refine g_iaload (j := (j + n - s) % n) isI_34 (rfl) (by omega) (by omega) dX6_layShadow_71 ?_
      refine g_i2l dX6_layShadow_72 ?_
      refine g_lastore (j := w * r + j) isL_42 (rfl) (by omega) (by omega) dX6_layShadow_73 ?_
      refine g_mem (μ' := mD μ w (rwM X r (fil (X r) (shC (μ.1 34) n s) (j + 1)))) (by exact mD_st (by omega) (rwM_put (shC_lt (by omega)).symm)) ?_
      refine g_iincN [some (.ref 33), some (.int a), some (.int (nI cols)), some (.int (nI w)), some (.int (nI r)), some (.int (nI s)), some (.int (nI (j + 1)))] dX6_layShadow_74 rfl (Nat.le_of_ble_eq_true rfl) rfl rfl ?_
      refine g_goto 35 dX6_layShadow_77 (by decide) ?_
      exact ih (j + 1) (by omega) (by omega)
/-- all rows -/
def lyM (f : Nat → Int32) (n cols : Nat) (X : Mx) (i : Nat) : Mx := fil X (fun s => fil (X s) (shC f n s) cols) i
theorem d_lyAll {μ : Mm} {X : Mx} {n cols w : Nat} {a : Int32} (hn : μ.1 33 0 = nI n) (h14 : n ≤ 14) (hw : w * n ≤ 210) (hcw : cols ≤ w) (hcn : cols ≤ n) (ha : ¬ a = 0 ∨ ∀ s, s < n → μ.1 37 s = 0) : ∀ (m s : Nat), s ≤ n → n < s + m → G mX6_layShadow (rmL 0) (some (.int (nI n)), mD μ w (lyM (μ.1 34) n cols X n)) (mD μ w (lyM (μ.1 34) n cols X s)) 6 [some (.ref 33), some (.int a), some (.int (nI cols)), some (.int (nI w)), some (.int (nI s)), some (.int (nI s)), none] [] := by
  intro m
  induction m with
  | zero => exact fun j h1 h2 => absurd h2 (by omega)
  | succ m ih =>
    intro s h1 h2
    have hx : lyM (μ.1 34) n cols X s s = X s := fil_out (Nat.le_refl s)
    have em : lyM (μ.1 34) n cols X s = rwM (lyM (μ.1 34) n cols X s) s (fil (lyM (μ.1 34) n cols X s s) (shC (μ.1 34) n s) 0) := by rw [fil_0, rwM_id rfl]
    have hE : s < n → G mX6_layShadow (rmL 0) (some (.int (nI n)), mD μ w (lyM (μ.1 34) n cols X n)) (mD μ w (rwM (lyM (μ.1 34) n cols X s) s (fil (lyM (μ.1 34) n cols X s s) (shC (μ.1 34) n s) cols))) 80 [some (.ref 33), some (.int a), some (.int (nI cols)), some (.int (nI w)), some (.int (nI s)), some (.int (nI s)), none] [] := by
      intro hs
      rw [hx]
      refine g_mem (μ' := mD μ w (lyM (μ.1 34) n cols X (s + 1))) (congrArg (mD μ w) (rwM_fil rfl)) ?_
      refine g_iincN [some (.ref 33), some (.int a), some (.int (nI cols)), some (.int (nI w)), some (.int (nI (s + 1))), some (.int (nI s)), none] dX6_layShadow_80 rfl (Nat.le_of_ble_eq_true rfl) rfl rfl ?_
      refine g_iincN [some (.ref 33), some (.int a), some (.int (nI cols)), some (.int (nI w)), some (.int (nI (s + 1))), some (.int (nI (s + 1))), none] dX6_layShadow_83 rfl (Nat.le_of_ble_eq_true rfl) rfl rfl ?_
      refine g_goto 6 dX6_layShadow_86 (by decide) ?_
      exact ih (s + 1) (by omega) (by omega)
    refine g_iload _ dX6_layShadow_6 rfl ?_
    refine g_aload_n 0 _ dX6_layShadow_8 rfl rfl ?_
    refine gf_X6_7 rfl dX6_layShadow_9 ?_
    refine g_top (w := .int (nI n)) (congrArg Value.int hn) ?_
    refine g_icmp_geN 89 (by omega) (by omega) dX6_layShadow_12 (by decide) (fun h12 => ?_) (fun h12 => ?_)
    · refine g_iload _ dX6_layShadow_89 rfl ?_
      exact g_ireturn dX6_layShadow_91 rfl rfl (by rw [show s = n by omega])
    · refine g_iload_n 1 _ dX6_layShadow_15 rfl rfl ?_
      refine g_if_ne 32 dX6_layShadow_16 (by decide) (fun h16 => ?_) (fun h16 => ?_)
      · refine g_iconst (nI 0) dX6_layShadow_32 rfl ?_
        refine g_istore [some (.ref 33), some (.int a), some (.int (nI cols)), some (.int (nI w)), some (.int (nI s)), some (.int (nI s)), some (.int (nI 0))] dX6_layShadow_33 (Nat.le_of_ble_eq_true rfl) rfl rfl ?_
        exact g_mem (congrArg (mD μ w) em) (d_lyIn hn h14 hw hcw hcn (by omega) (by omega) (hE (by omega)) (cols + 1) 0 (by omega) (by omega))
      · refine g_aload_n 0 _ dX6_layShadow_19 rfl rfl ?_
        refine gf_X6_23 rfl dX6_layShadow_20 ?_
        refine g_iload _ dX6_layShadow_23 rfl ?_
        refine g_baload (j := s) isZ_37 (rfl) (by omega) (by omega) dX6_layShadow_25 ?_
        refine g_if_eq 32 dX6_layShadow_26 (by decide) (fun h26 => ?_) (fun h26 => ?_)
        · refine g_iconst (nI 0) dX6_layShadow_32 rfl ?_
          refine g_istore [some (.ref 33), some (.int a), some (.int (nI cols)), some (.int (nI w)), some (.int (nI s)), some (.int (nI s)), some (.int (nI 0))] dX6_layShadow_33 (Nat.le_of_ble_eq_true rfl) rfl rfl ?_
          exact g_mem (congrArg (mD μ w) em) (d_lyIn hn h14 hw hcw hcn (by omega) (by omega) (hE (by omega)) (cols + 1) 0 (by omega) (by omega))
        · exact absurd (ha.elim (fun q => absurd h16 q) (fun q => q s (by omega))) h26
theorem d_layShadow (μ : Mm) (X : Mx) {n cols w : Nat} (a : Int32) (hn : μ.1 33 0 = nI n) (h14 : n ≤ 14) (hw : w * n ≤ 210) (hcw : cols ≤ w) (hcn : cols ≤ n) (ha : ¬ a = 0 ∨ ∀ s, s < n → μ.1 37 s = 0) : Ok mX6_layShadow (rmL 0) [.ref 33, .int a, .int (nI cols), .int (nI w)] (mD μ w X) (some (.int (nI n)), mD μ w (lyM (μ.1 34) n cols X n)) := by
  refine Ok.of (by decide) (Nat.le_of_ble_eq_true rfl) [some (.ref 33), some (.int a), some (.int (nI cols)), some (.int (nI w)), none, none, none] rfl ?_
  refine g_iconst (nI 0) dX6_layShadow_0 rfl ?_
  refine g_istore [some (.ref 33), some (.int a), some (.int (nI cols)), some (.int (nI w)), some (.int (nI 0)), none, none] dX6_layShadow_1 (Nat.le_of_ble_eq_true rfl) rfl rfl ?_
  refine g_iconst (nI 0) dX6_layShadow_3 rfl ?_
  refine g_istore [some (.ref 33), some (.int a), some (.int (nI cols)), some (.int (nI w)), some (.int (nI 0)), some (.int (nI 0)), none] dX6_layShadow_4 (Nat.le_of_ble_eq_true rfl) rfl rfl ?_
  exact g_mem (by unfold lyM; rw [fil_0]) (d_lyAll hn h14 hw hcw hcn ha (n + 1) 0 (by omega) (by omega))
/-- with missing readings: fewer rows -/
theorem d_lySome {μ : Mm} {n cols w : Nat} (hn : μ.1 33 0 = nI n) (h14 : n ≤ 14) (hw : w * n ≤ 210) (hcw : cols ≤ w) (hcn : cols ≤ n) : ∀ (m s r : Nat) (X : Mx), s ≤ n → n < s + m → r = fa_cnt (fun i => decide (μ.1 37 i = 0)) s → ∃ Y, G mX6_layShadow (rmL 0) (some (.int (nI (fa_cnt (fun i => decide (μ.1 37 i = 0)) n))), mD μ w Y) (mD μ w X) 6 [some (.ref 33), some (.int 0), some (.int (nI cols)), some (.int (nI w)), some (.int (nI r)), some (.int (nI s)), none] [] := by
  intro m
  induction m with
  | zero => exact fun s r X h1 h2 => absurd h2 (by omega)
  | succ m ih =>
    intro s r X h1 h2 h3
    have hrs : r ≤ s := by rw [h3]; exact fa_cnt_le _ s
    by_cases hs : s < n
    · by_cases hz : μ.1 37 s = 0
      · obtain ⟨Y, hY⟩ := ih (s + 1) (r + 1) (rwM X r (fil (X r) (shC (μ.1 34) n s) cols)) (by omega) (by omega) (by rw [h3]; exact (fa_cnt_yes (by simp [hz])).symm)
        refine ⟨Y, ?_⟩
        have hE : G mX6_layShadow (rmL 0) (some (.int (nI (fa_cnt (fun i => decide (μ.1 37 i = 0)) n))), mD μ w Y) (mD μ w (rwM X r (fil (X r) (shC (μ.1 34) n s) cols))) 80 [some (.ref 33), some (.int 0), some (.int (nI cols)), some (.int (nI w)), some (.int (nI r)), some (.int (nI s)), none] [] := by
          refine g_iincN [some (.ref 33), some (.int 0), some (.int (nI cols)), some (.int (nI w)), some (.int (nI (r + 1))), some (.int (nI s)), none] dX6_layShadow_80 rfl (Nat.le_of_ble_eq_true rfl) rfl rfl ?_
          refine g_iincN [some (.ref 33), some (.int 0), some (.int (nI cols)), some (.int (nI w)), some (.int (nI (r + 1))), some (.int (nI (s + 1))), none] dX6_layShadow_83 rfl (Nat.le_of_ble_eq_true rfl) rfl rfl ?_
          refine g_goto 6 dX6_layShadow_86 (by decide) ?_
          exact hY
        refine g_iload _ dX6_layShadow_6 rfl ?_
        refine g_aload_n 0 _ dX6_layShadow_8 rfl rfl ?_
        refine gf_X6_7 rfl dX6_layShadow_9 ?_
        refine g_top (w := .int (nI n)) (congrArg Value.int hn) ?_
        refine g_icmp_geN 89 (by omega) (by omega) dX6_layShadow_12 (by decide) (fun h12 => ?_) (fun h12 => ?_)
        · exact absurd h12 (by omega)
        · refine g_iload_n 1 _ dX6_layShadow_15 rfl rfl ?_
          refine g_if_ne 32 dX6_layShadow_16 (by decide) (fun h16 => ?_) (fun h16 => ?_)
          · exact absurd rfl h16
          · refine g_aload_n 0 _ dX6_layShadow_19 rfl rfl ?_
            refine gf_X6_23 rfl dX6_layShadow_20 ?_
            refine g_iload _ dX6_layShadow_23 rfl ?_
            refine g_baload (j := s) isZ_37 (rfl) (by omega) (by omega) dX6_layShadow_25 ?_
            refine g_if_eq 32 dX6_layShadow_26 (by decide) (fun h26 => ?_) (fun h26 => ?_)
            · refine g_iconst (nI 0) dX6_layShadow_32 rfl ?_
              refine g_istore [some (.ref 33), some (.int 0), some (.int (nI cols)), some (.int (nI w)), some (.int (nI r)), some (.int (nI s)), some (.int (nI 0))] dX6_layShadow_33 (Nat.le_of_ble_eq_true rfl) rfl rfl ?_
              exact g_mem (by rw [fil_0, rwM_id rfl]) (d_lyIn hn h14 hw hcw hcn hs hrs hE (cols + 1) 0 (by omega) (by omega))
            · exact absurd hz h26
      · obtain ⟨Y, hY⟩ := ih (s + 1) r X (by omega) (by omega) (by rw [h3]; exact (fa_cnt_no (by simp [hz])).symm)
        refine ⟨Y, ?_⟩
        refine g_iload _ dX6_layShadow_6 rfl ?_
        refine g_aload_n 0 _ dX6_layShadow_8 rfl rfl ?_
        refine gf_X6_7 rfl dX6_layShadow_9 ?_
        refine g_top (w := .int (nI n)) (congrArg Value.int hn) ?_
        refine g_icmp_geN 89 (by omega) (by omega) dX6_layShadow_12 (by decide) (fun h12 => ?_) (fun h12 => ?_)
        · exact absurd h12 (by omega)
        · refine g_iload_n 1 _ dX6_layShadow_15 rfl rfl ?_
          refine g_if_ne 32 dX6_layShadow_16 (by decide) (fun h16 => ?_) (fun h16 => ?_)
          · exact absurd rfl h16
          · refine g_aload_n 0 _ dX6_layShadow_19 rfl rfl ?_
            refine gf_X6_23 rfl dX6_layShadow_20 ?_
            refine g_iload _ dX6_layShadow_23 rfl ?_
            refine g_baload (j := s) isZ_37 (rfl) (by omega) (by omega) dX6_layShadow_25 ?_
            refine g_if_eq 32 dX6_layShadow_26 (by decide) (fun h26 => ?_) (fun h26 => ?_)
            · exact absurd h26 hz
            · refine g_goto 83 dX6_layShadow_29 (by decide) ?_
              refine g_iincN [some (.ref 33), some (.int 0), some (.int (nI cols)), some (.int (nI w)), some (.int (nI r)), some (.int (nI (s + 1))), none] dX6_layShadow_83 rfl (Nat.le_of_ble_eq_true rfl) rfl rfl ?_
              refine g_goto 6 dX6_layShadow_86 (by decide) ?_
              exact hY
    · refine ⟨X, ?_⟩
      refine g_iload _ dX6_layShadow_6 rfl ?_
      refine g_aload_n 0 _ dX6_layShadow_8 rfl rfl ?_
      refine gf_X6_7 rfl dX6_layShadow_9 ?_
      refine g_top (w := .int (nI n)) (congrArg Value.int hn) ?_
      refine g_icmp_geN 89 (by omega) (by omega) dX6_layShadow_12 (by decide) (fun h12 => ?_) (fun h12 => ?_)
      · refine g_iload _ dX6_layShadow_89 rfl ?_
        exact g_ireturn dX6_layShadow_91 rfl rfl (by rw [h3, show s = n by omega])
      · exact absurd h12 hs
theorem d_layShadow_some (μ : Mm) (X : Mx) {n cols w : Nat} (hn : μ.1 33 0 = nI n) (h14 : n ≤ 14) (hw : w * n ≤ 210) (hcw : cols ≤ w) (hcn : cols ≤ n) : ∃ Y, Ok mX6_layShadow (rmL 0) [.ref 33, .int 0, .int (nI cols), .int (nI w)] (mD μ w X) (some (.int (nI (fa_cnt (fun i => decide (μ.1 37 i = 0)) n))), mD μ w Y) := by
  obtain ⟨Y, hY⟩ := d_lySome hn h14 hw hcw hcn (n + 1) 0 0 X (by omega) (by omega) rfl
  refine ⟨Y, ?_⟩
  refine Ok.of (by decide) (Nat.le_of_ble_eq_true rfl) [some (.ref 33), some (.int 0), some (.int (nI cols)), some (.int (nI w)), none, none, none] rfl ?_
  refine g_iconst (nI 0) dX6_layShadow_0 rfl ?_
  refine g_istore [some (.ref 33), some (.int 0), some (.int (nI cols)), some (.int (nI w)), some (.int (nI 0)), none, none] dX6_layShadow_1 (Nat.le_of_ble_eq_true rfl) rfl rfl ?_
  refine g_iconst (nI 0) dX6_layShadow_3 rfl ?_
  refine g_istore [some (.ref 33), some (.int 0), some (.int (nI cols)), some (.int (nI w)), some (.int (nI 0)), some (.int (nI 0)), none] dX6_layShadow_4 (Nat.le_of_ble_eq_true rfl) rfl rfl ?_
  exact hY
theorem dnF_le {rows w : Nat} : ∀ (m c k : Nat) (b : Int64) (X : Mx), k ≤ rows → (dnF rows w m c k b X).1 ≤ rows ∧ (dnF rows w m c k b X).1 ≤ k + m := by
  intro m
  induction m with
  | zero => exact fun c k b X h => ⟨h, Nat.le_refl k⟩
  | succ m ih =>
    intro c k b X h
    by_cases hk : k < rows
    · by_cases hp : ldF X c rows (rows + 1) k < rows
      · have e : dnF rows w (m + 1) c k b X = _ := (if_pos hk).trans (if_pos hp)
        rw [e]
        have := ih (c + 1) (k + 1) (swM X (ldF X c rows (rows + 1) k) k w k c) (stD X k c w (ldF X c rows (rows + 1) k) b rows) hk
        exact ⟨this.1, by omega⟩
      · have e : dnF rows w (m + 1) c k b X = _ := (if_pos hk).trans (if_neg hp)
        rw [e]
        have := ih (c + 1) k b X h
        exact ⟨this.1, by omega⟩
    · have e : dnF rows w (m + 1) c k b X = _ := if_neg hk
      rw [e]
      exact ⟨h, Nat.le_add_right k _⟩
theorem d_rank_no (μ : Mm) {n : Nat} (hn : μ.1 33 0 = nI n) (h60 : n ≤ 60) (h14 : 14 < n) : Ok mX6_rank (rmL 2) [.ref 33] μ (some (.int (-1)), sI (sI μ 33 14 0) 33 14 (nI 1)) := by
  refine Ok.of (by decide) (Nat.le_of_ble_eq_true rfl) [some (.ref 33)] rfl ?_
  refine g_aload_n 0 _ dX6_rank_0 rfl rfl ?_
  refine g_backv (g_runV (d_start μ) rfl mw_X6_start mi_X6_start ml_X6_68 isO_33 ⟨rfl, rfl, Nat.le_of_ble_eq_true rfl, Nat.le_of_ble_eq_true rfl⟩ rfl rfl (Nat.le_of_ble_eq_true rfl) dX6_rank_1) ?_
  refine g_mem (μ' := sI μ 33 14 0) rfl ?_
  refine g_aload_n 0 _ dX6_rank_4 rfl rfl ?_
  refine gf_X6_7 rfl dX6_rank_5 ?_
  refine g_top (w := .int (nI n)) (congrArg Value.int hn) ?_
  refine g_bipush (nI 14) dX6_rank_8 rfl ?_
  refine g_icmp_leN 19 (by omega) (by omega) dX6_rank_10 (by decide) (fun h10 => ?_) (fun h10 => ?_)
  · exact absurd h10 (by omega)
  · refine g_aload_n 0 _ dX6_rank_13 rfl rfl ?_
    refine g_iconst (nI 1) dX6_rank_14 rfl ?_
    refine g_backi (g_runV (d_no (sI μ 33 14 0) (nI 1)) rfl mw_X6_no mi_X6_no ml_X6_79 isO_33 ⟨rfl, rfl, Nat.le_of_ble_eq_true rfl, Nat.le_of_ble_eq_true rfl⟩ rfl rfl (Nat.le_of_ble_eq_true rfl) dX6_rank_15) ?_
    refine g_mem (μ' := sI (sI μ 33 14 0) 33 14 (nI 1)) rfl ?_
    refine g_top (w := .int (-1)) rfl ?_
    exact g_ireturn dX6_rank_18 rfl rfl rfl
theorem ix_nn {n : Nat} (h : n ≤ 14) : n * n ≤ 210 := Nat.le_trans (Nat.mul_le_mul h h) (by decide)
/-- the shadow's matrix alone, and down of it -/
def rkN (f : Nat → Int32) (n : Nat) (X : Mx) : Nat × Int64 × Mx := dnF n n n 0 0 1 (lyM f n n X n)
theorem d_rank_ok (μ : Mm) {n : Nat} (hn : μ.1 33 0 = nI n) (h14 : n ≤ 14) (h0 : 0 < n) : Ok mX6_rank (rmL 2) [.ref 33] μ (some (.int (nI (rkN (μ.1 34) n (uD μ n)).1)), sL (mD (sI μ 33 14 0) n (rkN (μ.1 34) n (uD μ n)).2.2) 33 20 (rkN (μ.1 34) n (uD μ n)).2.1) := by
  refine Ok.of (by decide) (Nat.le_of_ble_eq_true rfl) [some (.ref 33)] rfl ?_
  refine g_aload_n 0 _ dX6_rank_0 rfl rfl ?_
  refine g_backv (g_runV (d_start μ) rfl mw_X6_start mi_X6_start ml_X6_68 isO_33 ⟨rfl, rfl, Nat.le_of_ble_eq_true rfl, Nat.le_of_ble_eq_true rfl⟩ rfl rfl (Nat.le_of_ble_eq_true rfl) dX6_rank_1) ?_
  refine g_mem (μ' := sI μ 33 14 0) rfl ?_
  refine g_aload_n 0 _ dX6_rank_4 rfl rfl ?_
  refine gf_X6_7 rfl dX6_rank_5 ?_
  refine g_top (w := .int (nI n)) (congrArg Value.int hn) ?_
  refine g_bipush (nI 14) dX6_rank_8 rfl ?_
  refine g_icmp_leN 19 (by omega) (by omega) dX6_rank_10 (by decide) (fun h10 => ?_) (fun h10 => ?_)
  · refine g_mem (μ' := mD (sI μ 33 14 0) n (uD μ n)) (by exact uD_id h0 _) ?_
    refine g_aload_n 0 _ dX6_rank_19 rfl rfl ?_
    refine g_aload_n 0 _ dX6_rank_20 rfl rfl ?_
    refine g_iconst (nI 1) dX6_rank_21 rfl ?_
    refine g_aload_n 0 _ dX6_rank_22 rfl rfl ?_
    refine gf_X6_7 rfl dX6_rank_23 ?_
    refine g_top (w := .int (nI n)) (congrArg Value.int hn) ?_
    refine g_aload_n 0 _ dX6_rank_26 rfl rfl ?_
    refine gf_X6_7 rfl dX6_rank_27 ?_
    refine g_top (w := .int (nI n)) (congrArg Value.int hn) ?_
    refine g_at 30 rfl ?_
    refine g_backi (g_runV (d_layShadow (sI μ 33 14 0) (uD μ n) (n := n) (cols := n) (w := n) (nI 1) hn h14 (ix_nn h14) (Nat.le_refl n) (Nat.le_refl n) (Or.inl (by decide))) rfl mw_X6_layShadow mi_X6_layShadow ml_X6_148 isO_33 ⟨rfl, rfl, Nat.le_of_ble_eq_true rfl, Nat.le_of_ble_eq_true rfl⟩ rfl rfl (Nat.le_of_ble_eq_true rfl) dX6_rank_30) ?_
    refine g_mem (μ' := mD (sI μ 33 14 0) n (lyM (μ.1 34) n n (uD μ n) n)) rfl ?_
    refine g_top (w := .int (nI n)) rfl ?_
    refine g_aload_n 0 _ dX6_rank_33 rfl rfl ?_
    refine gf_X6_7 rfl dX6_rank_34 ?_
    refine g_top (w := .int (nI n)) (congrArg Value.int hn) ?_
    refine g_aload_n 0 _ dX6_rank_37 rfl rfl ?_
    refine gf_X6_7 rfl dX6_rank_38 ?_
    refine g_top (w := .int (nI n)) (congrArg Value.int hn) ?_
    refine g_backi (g_runV (d_down (sI μ 33 14 0) (lyM (μ.1 34) n n (uD μ n) n) (rows := n) (cols := n) (w := n) (ix_nn h14) (by omega) h14 (Nat.le_refl n)) rfl mw_X6_down mi_X6_down ml_X6_136 isO_33 ⟨rfl, rfl, Nat.le_of_ble_eq_true rfl, Nat.le_of_ble_eq_true rfl⟩ rfl rfl (Nat.le_of_ble_eq_true rfl) dX6_rank_41) ?_
    refine g_mem (μ' := sL (mD (sI μ 33 14 0) n (rkN (μ.1 34) n (uD μ n)).2.2) 33 20 (rkN (μ.1 34) n (uD μ n)).2.1) rfl ?_
    refine g_top (w := .int (nI ((rkN (μ.1 34) n (uD μ n)).1))) rfl ?_
    exact g_ireturn dX6_rank_44 rfl rfl rfl
  · exact absurd h10 (by omega)
theorem d_sure_no (μ : Mm) {n : Nat} (hn : μ.1 33 0 = nI n) (h60 : n ≤ 60) (h14 : 14 < n) : Ok mX6_sure (rmL 2) [.ref 33] μ (some (.int (-1)), sI (sI μ 33 14 0) 33 14 (nI 1)) := by
  refine Ok.of (by decide) (Nat.le_of_ble_eq_true rfl) [some (.ref 33)] rfl ?_
  refine g_aload_n 0 _ dX6_sure_0 rfl rfl ?_
  refine g_backv (g_runV (d_start μ) rfl mw_X6_start mi_X6_start ml_X6_68 isO_33 ⟨rfl, rfl, Nat.le_of_ble_eq_true rfl, Nat.le_of_ble_eq_true rfl⟩ rfl rfl (Nat.le_of_ble_eq_true rfl) dX6_sure_1) ?_
  refine g_mem (μ' := sI μ 33 14 0) rfl ?_
  refine g_aload_n 0 _ dX6_sure_4 rfl rfl ?_
  refine gf_X6_7 rfl dX6_sure_5 ?_
  refine g_top (w := .int (nI n)) (congrArg Value.int hn) ?_
  refine g_bipush (nI 14) dX6_sure_8 rfl ?_
  refine g_icmp_leN 19 (by omega) (by omega) dX6_sure_10 (by decide) (fun h10 => ?_) (fun h10 => ?_)
  · exact absurd h10 (by omega)
  · refine g_aload_n 0 _ dX6_sure_13 rfl rfl ?_
    refine g_iconst (nI 1) dX6_sure_14 rfl ?_
    refine g_backi (g_runV (d_no (sI μ 33 14 0) (nI 1)) rfl mw_X6_no mi_X6_no ml_X6_79 isO_33 ⟨rfl, rfl, Nat.le_of_ble_eq_true rfl, Nat.le_of_ble_eq_true rfl⟩ rfl rfl (Nat.le_of_ble_eq_true rfl) dX6_sure_15) ?_
    refine g_mem (μ' := sI (sI μ 33 14 0) 33 14 (nI 1)) rfl ?_
    refine g_top (w := .int (-1)) rfl ?_
    exact g_ireturn dX6_sure_18 rfl rfl rfl
theorem d_sure_1 (μ : Mm) {n : Nat} (hn : μ.1 33 0 = nI n) (h14 : n ≤ 14) (h0 : 0 < n) (hz : ∀ s, s < n → μ.1 37 s = 0) : Ok mX6_sure (rmL 2) [.ref 33] μ (some (.int (if (rkN (μ.1 34) n (uD μ n)).1 = n then nI 1 else nI 0)), sL (mD (sI μ 33 14 0) n (rkN (μ.1 34) n (uD μ n)).2.2) 33 20 (rkN (μ.1 34) n (uD μ n)).2.1) := by
  refine Ok.of (by decide) (Nat.le_of_ble_eq_true rfl) [some (.ref 33)] rfl ?_
  have hle := (dnF_le (rows := n) (w := n) n 0 0 1 (lyM (μ.1 34) n n (uD μ n) n) (by omega)).1
  have hle2 : (rkN (μ.1 34) n (uD μ n)).1 ≤ n := hle
  refine g_aload_n 0 _ dX6_sure_0 rfl rfl ?_
  refine g_backv (g_runV (d_start μ) rfl mw_X6_start mi_X6_start ml_X6_68 isO_33 ⟨rfl, rfl, Nat.le_of_ble_eq_true rfl, Nat.le_of_ble_eq_true rfl⟩ rfl rfl (Nat.le_of_ble_eq_true rfl) dX6_sure_1) ?_
  refine g_mem (μ' := sI μ 33 14 0) rfl ?_
  refine g_aload_n 0 _ dX6_sure_4 rfl rfl ?_
  refine gf_X6_7 rfl dX6_sure_5 ?_
  refine g_top (w := .int (nI n)) (congrArg Value.int hn) ?_
  refine g_bipush (nI 14) dX6_sure_8 rfl ?_
  refine g_icmp_leN 19 (by omega) (by omega) dX6_sure_10 (by decide) (fun h10 => ?_) (fun h10 => ?_)
  · refine g_mem (μ' := mD (sI μ 33 14 0) n (uD μ n)) (by exact uD_id h0 _) ?_
    refine g_aload_n 0 _ dX6_sure_19 rfl rfl ?_
    refine g_aload_n 0 _ dX6_sure_20 rfl rfl ?_
    refine g_iconst (nI 0) dX6_sure_21 rfl ?_
    refine g_aload_n 0 _ dX6_sure_22 rfl rfl ?_
    refine gf_X6_7 rfl dX6_sure_23 ?_
    refine g_top (w := .int (nI n)) (congrArg Value.int hn) ?_
    refine g_aload_n 0 _ dX6_sure_26 rfl rfl ?_
    refine gf_X6_7 rfl dX6_sure_27 ?_
    refine g_top (w := .int (nI n)) (congrArg Value.int hn) ?_
    refine g_at 30 rfl ?_
    refine g_backi (g_runV (d_layShadow (sI μ 33 14 0) (uD μ n) (n := n) (cols := n) (w := n) (nI 0) hn h14 (ix_nn h14) (Nat.le_refl n) (Nat.le_refl n) (Or.inr hz)) rfl mw_X6_layShadow mi_X6_layShadow ml_X6_148 isO_33 ⟨rfl, rfl, Nat.le_of_ble_eq_true rfl, Nat.le_of_ble_eq_true rfl⟩ rfl rfl (Nat.le_of_ble_eq_true rfl) dX6_sure_30) ?_
    refine g_mem (μ' := mD (sI μ 33 14 0) n (lyM (μ.1 34) n n (uD μ n) n)) rfl ?_
    refine g_top (w := .int (nI n)) rfl ?_
    refine g_aload_n 0 _ dX6_sure_33 rfl rfl ?_
    refine gf_X6_7 rfl dX6_sure_34 ?_
    refine g_top (w := .int (nI n)) (congrArg Value.int hn) ?_
    refine g_aload_n 0 _ dX6_sure_37 rfl rfl ?_
    refine gf_X6_7 rfl dX6_sure_38 ?_
    refine g_top (w := .int (nI n)) (congrArg Value.int hn) ?_
    refine g_backi (g_runV (d_down (sI μ 33 14 0) (lyM (μ.1 34) n n (uD μ n) n) (rows := n) (cols := n) (w := n) (ix_nn h14) (by omega) h14 (Nat.le_refl n)) rfl mw_X6_down mi_X6_down ml_X6_136 isO_33 ⟨rfl, rfl, Nat.le_of_ble_eq_true rfl, Nat.le_of_ble_eq_true rfl⟩ rfl rfl (Nat.le_of_ble_eq_true rfl) dX6_sure_41) ?_
    refine g_mem (μ' := sL (mD (sI μ 33 14 0) n (rkN (μ.1 34) n (uD μ n)).2.2) 33 20 (rkN (μ.1 34) n (uD μ n)).2.1) rfl ?_
    refine g_top (w := .int (nI ((rkN (μ.1 34) n (uD μ n)).1))) rfl ?_
    refine g_aload_n 0 _ dX6_sure_44 rfl rfl ?_
    refine gf_X6_7 rfl dX6_sure_45 ?_
    refine g_top (w := .int (nI n)) (congrArg Value.int hn) ?_
    refine g_at 48 rfl ?_
    refine g_icmp_neN 55 (by omega) (by omega) dX6_sure_48 (by decide) (fun h48 => ?_) (fun h48 => ?_)
    · refine g_iconst (nI 0) dX6_sure_55 rfl ?_
      exact g_ireturn dX6_sure_56 rfl rfl (by first | rw [if_pos (by assumption)] | rw [if_neg (by assumption)])
    · refine g_iconst (nI 1) dX6_sure_51 rfl ?_
      refine g_goto 56 dX6_sure_52 (by decide) ?_
      exact g_ireturn dX6_sure_56 rfl rfl (by first | rw [if_pos (by assumption)] | rw [if_neg (by assumption)])
  · exact absurd h10 (by omega)
theorem d_sure_0 (μ : Mm) {n : Nat} (hn : μ.1 33 0 = nI n) (h14 : n ≤ 14) (h0 : 0 < n) (hz : fa_cnt (fun i => decide (μ.1 37 i = 0)) n < n) : ∃ (Y : Mx) (b : Int64), Ok mX6_sure (rmL 2) [.ref 33] μ (some (.int (nI 0)), sL (mD (sI μ 33 14 0) n Y) 33 20 b) := by
  obtain ⟨Y, hY⟩ := d_layShadow_some (sI μ 33 14 0) (uD μ n) (n := n) (cols := n) (w := n) hn h14 (ix_nn h14) (Nat.le_refl n) (Nat.le_refl n)
  generalize hr : fa_cnt (fun i => decide (μ.1 37 i = 0)) n = r at *
  have hle := (dnF_le (rows := r) (w := n) n 0 0 1 Y (by omega)).1
  refine ⟨(dnF r n n 0 0 1 Y).2.2, (dnF r n n 0 0 1 Y).2.1, ?_⟩
  have hY2 : Ok mX6_layShadow (rmL 0) [.ref 33, .int 0, .int (nI n), .int (nI n)] (mD (sI μ 33 14 0) n (uD μ n)) (some (.int (nI r)), mD (sI μ 33 14 0) n Y) := by rw [← hr]; exact hY
  have hrn : n * r ≤ 210 := Nat.le_trans (Nat.mul_le_mul_left n (Nat.le_of_lt hz)) (ix_nn h14)
  refine Ok.of (by decide) (Nat.le_of_ble_eq_true rfl) [some (.ref 33)] rfl ?_
  refine g_aload_n 0 _ dX6_sure_0 rfl rfl ?_
  refine g_backv (g_runV (d_start μ) rfl mw_X6_start mi_X6_start ml_X6_68 isO_33 ⟨rfl, rfl, Nat.le_of_ble_eq_true rfl, Nat.le_of_ble_eq_true rfl⟩ rfl rfl (Nat.le_of_ble_eq_true rfl) dX6_sure_1) ?_
  refine g_mem (μ' := sI μ 33 14 0) rfl ?_
  refine g_aload_n 0 _ dX6_sure_4 rfl rfl ?_
  refine gf_X6_7 rfl dX6_sure_5 ?_
  refine g_top (w := .int (nI n)) (congrArg Value.int hn) ?_
  refine g_bipush (nI 14) dX6_sure_8 rfl ?_
  refine g_icmp_leN 19 (by omega) (by omega) dX6_sure_10 (by decide) (fun h10 => ?_) (fun h10 => ?_)
  · refine g_mem (μ' := mD (sI μ 33 14 0) n (uD μ n)) (by exact uD_id h0 _) ?_
    refine g_aload_n 0 _ dX6_sure_19 rfl rfl ?_
    refine g_aload_n 0 _ dX6_sure_20 rfl rfl ?_
    refine g_iconst (nI 0) dX6_sure_21 rfl ?_
    refine g_aload_n 0 _ dX6_sure_22 rfl rfl ?_
    refine gf_X6_7 rfl dX6_sure_23 ?_
    refine g_top (w := .int (nI n)) (congrArg Value.int hn) ?_
    refine g_aload_n 0 _ dX6_sure_26 rfl rfl ?_
    refine gf_X6_7 rfl dX6_sure_27 ?_
    refine g_top (w := .int (nI n)) (congrArg Value.int hn) ?_
    refine g_at 30 rfl ?_
    refine g_backi (g_runV (hY2) rfl mw_X6_layShadow mi_X6_layShadow ml_X6_148 isO_33 ⟨rfl, rfl, Nat.le_of_ble_eq_true rfl, Nat.le_of_ble_eq_true rfl⟩ rfl rfl (Nat.le_of_ble_eq_true rfl) dX6_sure_30) ?_
    refine g_mem (μ' := mD (sI μ 33 14 0) n Y) rfl ?_
    refine g_top (w := .int (nI r)) rfl ?_
    refine g_aload_n 0 _ dX6_sure_33 rfl rfl ?_
    refine gf_X6_7 rfl dX6_sure_34 ?_
    refine g_top (w := .int (nI n)) (congrArg Value.int hn) ?_
    refine g_aload_n 0 _ dX6_sure_37 rfl rfl ?_
    refine gf_X6_7 rfl dX6_sure_38 ?_
    refine g_top (w := .int (nI n)) (congrArg Value.int hn) ?_
    refine g_backi (g_runV (d_down (sI μ 33 14 0) Y (rows := r) (cols := n) (w := n) hrn (by omega) (by omega) (Nat.le_refl n)) rfl mw_X6_down mi_X6_down ml_X6_136 isO_33 ⟨rfl, rfl, Nat.le_of_ble_eq_true rfl, Nat.le_of_ble_eq_true rfl⟩ rfl rfl (Nat.le_of_ble_eq_true rfl) dX6_sure_41) ?_
    refine g_mem (μ' := sL (mD (sI μ 33 14 0) n (dnF r n n 0 0 1 Y).2.2) 33 20 (dnF r n n 0 0 1 Y).2.1) rfl ?_
    refine g_top (w := .int (nI ((dnF r n n 0 0 1 Y).1))) rfl ?_
    refine g_aload_n 0 _ dX6_sure_44 rfl rfl ?_
    refine gf_X6_7 rfl dX6_sure_45 ?_
    refine g_top (w := .int (nI n)) (congrArg Value.int hn) ?_
    refine g_at 48 rfl ?_
    refine g_icmp_neN 55 (by omega) (by omega) dX6_sure_48 (by decide) (fun h48 => ?_) (fun h48 => ?_)
    · refine g_iconst (nI 0) dX6_sure_55 rfl ?_
      exact g_ireturn dX6_sure_56 rfl rfl rfl
    · exact absurd h48 (by omega)
  · exact absurd h10 (by omega)
