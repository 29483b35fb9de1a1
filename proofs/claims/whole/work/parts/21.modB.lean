/-! HoleMaskModel: put, lay, set, miss, at, shadows, meets -/
theorem sL_sL (μ : Mm) (k i : Nat) (x y : Int64) : sL (sL μ k i x) k i y = sL μ k i y := by
  refine Prod.ext rfl (funext fun k' => ?_)
  by_cases h : k' = k
  · subst h
    simp only [sL, if_true]
    funext j
    unfold vp_updL
    by_cases hj : j = i <;> simp [hj]
  · simp [sL, h]
theorem d_most (μ : Mm) {w : Nat} (hw : w < 3) : Ok mX6_most (rmL 0) [.int (nI w)] μ (some (.int (limF w)), μ) := by
  refine Ok.of (by decide) (Nat.le_of_ble_eq_true rfl) [some (.int (nI w))] rfl ?_
  refine g_iload_n 0 _ dX6_most_0 rfl rfl ?_
  refine g_if_neN 8 (by omega) dX6_most_1 (by decide) (fun h1 => ?_) (fun h1 => ?_)
  · refine g_iload_n 0 _ dX6_most_8 rfl rfl ?_
    refine g_iconst (nI 1) dX6_most_9 rfl ?_
    refine g_icmp_neN 19 (by omega) (by omega) dX6_most_10 (by decide) (fun h10 => ?_) (fun h10 => ?_)
    · refine g_ldc _ rfl kc_X6_86 dX6_most_19 ?_
      refine g_top (w := .int (nI 1000000)) rfl ?_
      exact g_ireturn dX6_most_21 rfl rfl (by unfold limF; (repeat' split) <;> first | rfl | (exfalso; omega))
    · refine g_sipush (nI 1000) dX6_most_13 rfl ?_
      refine g_goto 21 dX6_most_16 (by decide) ?_
      exact g_ireturn dX6_most_21 rfl rfl (by unfold limF; (repeat' split) <;> first | rfl | (exfalso; omega))
  · refine g_iconst (nI 1) dX6_most_4 rfl ?_
    refine g_goto 21 dX6_most_5 (by decide) ?_
    exact g_ireturn dX6_most_21 rfl rfl (by unfold limF; (repeat' split) <;> first | rfl | (exfalso; omega))
def putN (μ : Mm) (w j : Nat) (v : Int32) : Mm := if w = 0 then sL (sI μ 34 j v) 33 8 0 else if w = 1 then sI μ 35 j v else sI (sI μ 36 j v) 37 j 0
theorem d_put (μ : Mm) {w j : Nat} (v : Int32) (hw : w < 3) (hj : j < 60) : Ok mX6_put (rmL 0) [.ref 33, .int (nI w), .int (nI j), .int v] μ (none, putN μ w j v) := by
  refine Ok.of (by decide) (Nat.le_of_ble_eq_true rfl) [some (.ref 33), some (.int (nI w)), some (.int (nI j)), some (.int v)] rfl ?_
  refine g_iload_n 1 _ dX6_put_0 rfl rfl ?_
  refine g_if_neN 19 (by omega) dX6_put_1 (by decide) (fun h1 => ?_) (fun h1 => ?_)
  · refine g_iload_n 1 _ dX6_put_19 rfl rfl ?_
    refine g_iconst (nI 1) dX6_put_20 rfl ?_
    refine g_icmp_neN 34 (by omega) (by omega) dX6_put_21 (by decide) (fun h21 => ?_) (fun h21 => ?_)
    · refine g_aload_n 0 _ dX6_put_34 rfl rfl ?_
      refine gf_X6_20 rfl dX6_put_35 ?_
      refine g_iload_n 2 _ dX6_put_38 rfl rfl ?_
      refine g_iload_n 3 _ dX6_put_39 rfl rfl ?_
      refine g_iastore (j := j) isI_36 (rfl) (by omega) (by omega) dX6_put_40 ?_
      refine g_aload_n 0 _ dX6_put_41 rfl rfl ?_
      refine gf_X6_23 rfl dX6_put_42 ?_
      refine g_at 45 rfl ?_
      refine g_iload_n 2 _ dX6_put_45 rfl rfl ?_
      refine g_iconst (nI 0) dX6_put_46 rfl ?_
      refine g_bastore (j := j) isZ_37 (rfl) (by omega) (by omega) rfl dX6_put_47 ?_
      exact g_return dX6_put_48 rfl (by unfold putN; (repeat' split) <;> first | rfl | (exfalso; omega))
    · refine g_aload_n 0 _ dX6_put_24 rfl rfl ?_
      refine gf_X6_17 rfl dX6_put_25 ?_
      refine g_iload_n 2 _ dX6_put_28 rfl rfl ?_
      refine g_iload_n 3 _ dX6_put_29 rfl rfl ?_
      refine g_iastore (j := j) isI_35 (rfl) (by omega) (by omega) dX6_put_30 ?_
      refine g_goto 48 dX6_put_31 (by decide) ?_
      exact g_return dX6_put_48 rfl (by unfold putN; (repeat' split) <;> first | rfl | (exfalso; omega))
  · refine g_aload_n 0 _ dX6_put_4 rfl rfl ?_
    refine gf_X6_13 rfl dX6_put_5 ?_
    refine g_iload_n 2 _ dX6_put_8 rfl rfl ?_
    refine g_iload_n 3 _ dX6_put_9 rfl rfl ?_
    refine g_iastore (j := j) isI_34 (rfl) (by omega) (by omega) dX6_put_10 ?_
    refine g_aload_n 0 _ dX6_put_11 rfl rfl ?_
    refine g_lconst 0 dX6_put_12 rfl ?_
    refine g_at 13 rfl ?_
    refine gp_X6_64 rfl dX6_put_13 ?_
    refine g_goto 48 dX6_put_16 (by decide) ?_
    exact g_return dX6_put_48 rfl (by unfold putN; (repeat' split) <;> first | rfl | (exfalso; omega))
/-- rows of the reference behind i puts of g -/
def ptM (μ : Mm) (w : Nat) (g : Nat → Int32) (i : Nat) : Mm := if w = 0 then (if i = 0 then μ else sL (sR μ 34 (fil (μ.1 34) g i)) 33 8 0) else if w = 1 then sR μ 35 (fil (μ.1 35) g i) else bg4 μ (μ.1 34) (μ.1 35) (fil (μ.1 36) g i) (zf (μ.1 37) i)
theorem ptM_0 (μ : Mm) (w : Nat) (g : Nat → Int32) : ptM μ w g 0 = μ := by
  unfold ptM
  split
  · rw [if_pos rfl]
  · split
    · rw [fil_0, sR_id]
    · rw [fil_0, zf_0, bg4_id]
theorem ptM_put (μ : Mm) {w : Nat} (g : Nat → Int32) (i : Nat) (hw : w < 3) : putN (ptM μ w g i) w i (g i) = ptM μ w g (i + 1) := by
  unfold putN ptM
  rcases (show w = 0 ∨ w = 1 ∨ w = 2 by omega) with rfl | rfl | rfl
  · rw [if_pos rfl, if_pos rfl, if_pos rfl, if_neg (show ¬ i + 1 = 0 by omega)]
    by_cases h : i = 0
    · subst h
      rw [if_pos rfl, ← sR_fil μ 34 0 _ g rfl, fil_0, sR_id]
    · rw [if_neg h]
      show sL (sL (sI (sR μ 34 (fil (μ.1 34) g i)) 34 i (g i)) 33 8 0) 33 8 0 = _
      rw [sL_sL, sR_fil μ 34 i _ g rfl]
  · rw [if_neg (by omega), if_pos rfl, if_neg (by omega), if_pos rfl, if_neg (by omega), if_pos rfl, sR_fil μ 35 i _ g rfl]
  · rw [if_neg (by omega), if_neg (by omega), if_neg (by omega), if_neg (by omega), if_neg (by omega), if_neg (by omega), bg4_36, bg4_37, fil_put]
    have h := fil_put (μ.1 37) (fun _ => (0 : Int32)) i
    rw [show upd (zf (μ.1 37) i) i 0 = zf (μ.1 37) (i + 1) from h]
theorem ptM_n {μ : Mm} {w : Nat} {g : Nat → Int32} {i : Nat} : (ptM μ w g i).1 33 = μ.1 33 := by
  unfold ptM
  split
  · split <;> rfl
  · split <;> rfl
theorem ptM_38 {μ : Mm} {w : Nat} {g : Nat → Int32} {i : Nat} : (ptM μ w g i).1 38 = μ.1 38 := by
  unfold ptM
  split
  · split <;> rfl
  · split <;> rfl
theorem d_lay_no1 (μ : Mm) (a : Int32) (h : a.toInt < 0 ∨ 2 < a.toInt) : Ok mX6_lay (rmL 1) [.ref 33, .int a] μ (some (.int (nI 0)), sI (sI μ 33 14 0) 33 14 (nI 1)) := by
  refine Ok.of (by decide) (Nat.le_of_ble_eq_true rfl) [some (.ref 33), some (.int a), none] rfl ?_
  refine g_aload_n 0 _ dX6_lay_0 rfl rfl ?_
  refine g_backv (g_runV (d_start μ) rfl mw_X6_start mi_X6_start ml_X6_68 isO_33 ⟨rfl, rfl, Nat.le_of_ble_eq_true rfl, Nat.le_of_ble_eq_true rfl⟩ rfl rfl (Nat.le_of_ble_eq_true rfl) dX6_lay_1) ?_
  refine g_mem (μ' := sI μ 33 14 0) rfl ?_
  refine g_iload_n 1 _ dX6_lay_4 rfl rfl ?_
  refine g_if_lt 13 dX6_lay_5 (by decide) (fun h5 => ?_) (fun h5 => ?_)
  · refine g_aload_n 0 _ dX6_lay_13 rfl rfl ?_
    refine g_iconst (nI 1) dX6_lay_14 rfl ?_
    refine g_backi (g_runV (d_not (sI μ 33 14 0) (nI 1)) rfl mw_X6_not mi_X6_not ml_X6_71 isO_33 ⟨rfl, rfl, Nat.le_of_ble_eq_true rfl, Nat.le_of_ble_eq_true rfl⟩ rfl rfl (Nat.le_of_ble_eq_true rfl) dX6_lay_15) ?_
    refine g_mem (μ' := sI (sI μ 33 14 0) 33 14 (nI 1)) rfl ?_
    refine g_top (w := .int (nI 0)) rfl ?_
    exact g_ireturn dX6_lay_18 rfl rfl rfl
  · refine g_iload_n 1 _ dX6_lay_8 rfl rfl ?_
    refine g_iconst (nI 2) dX6_lay_9 rfl ?_
    refine g_icmp_le 19 dX6_lay_10 (by decide) (fun h10 => ?_) (fun h10 => ?_)
    · exfalso; simp only [ne_eq, fa_lt, fa_le, fa_eq, t0, t1, t2, tm1, nt0, nt1, nt2, nt3, nt4, nt5, nt7, nt9, nt10, nt13, nt14, nt30, nt32, nt59, nt60, nt200, nt1000, nt1000000, nt1073741824] at *; omega
    · refine g_aload_n 0 _ dX6_lay_13 rfl rfl ?_
      refine g_iconst (nI 1) dX6_lay_14 rfl ?_
      refine g_backi (g_runV (d_not (sI μ 33 14 0) (nI 1)) rfl mw_X6_not mi_X6_not ml_X6_71 isO_33 ⟨rfl, rfl, Nat.le_of_ble_eq_true rfl, Nat.le_of_ble_eq_true rfl⟩ rfl rfl (Nat.le_of_ble_eq_true rfl) dX6_lay_15) ?_
      refine g_mem (μ' := sI (sI μ 33 14 0) 33 14 (nI 1)) rfl ?_
      refine g_top (w := .int (nI 0)) rfl ?_
      exact g_ireturn dX6_lay_18 rfl rfl rfl
theorem d_lay_no2 (μ : Mm) {w : Nat} (hw : w < 3) (hk : μ.1 33 5 = -1) : Ok mX6_lay (rmL 1) [.ref 33, .int (nI w)] μ (some (.int (nI 0)), sI (sI μ 33 14 0) 33 14 (nI 2)) := by
  refine Ok.of (by decide) (Nat.le_of_ble_eq_true rfl) [some (.ref 33), some (.int (nI w)), none] rfl ?_
  refine g_aload_n 0 _ dX6_lay_0 rfl rfl ?_
  refine g_backv (g_runV (d_start μ) rfl mw_X6_start mi_X6_start ml_X6_68 isO_33 ⟨rfl, rfl, Nat.le_of_ble_eq_true rfl, Nat.le_of_ble_eq_true rfl⟩ rfl rfl (Nat.le_of_ble_eq_true rfl) dX6_lay_1) ?_
  refine g_mem (μ' := sI μ 33 14 0) rfl ?_
  refine g_iload_n 1 _ dX6_lay_4 rfl rfl ?_
  refine g_if_ltN 13 (by omega) dX6_lay_5 (by decide) ?_
  refine g_iload_n 1 _ dX6_lay_8 rfl rfl ?_
  refine g_iconst (nI 2) dX6_lay_9 rfl ?_
  refine g_icmp_leN 19 (by omega) (by omega) dX6_lay_10 (by decide) (fun h10 => ?_) (fun h10 => ?_)
  · refine g_aload_n 0 _ dX6_lay_19 rfl rfl ?_
    refine gf_X6_27 rfl dX6_lay_20 ?_
    refine g_iconst (-1) dX6_lay_23 rfl ?_
    refine g_icmp_ne 33 dX6_lay_24 (by decide) (fun h24 => ?_) (fun h24 => ?_)
    · exact absurd hk h24
    · refine g_aload_n 0 _ dX6_lay_27 rfl rfl ?_
      refine g_iconst (nI 2) dX6_lay_28 rfl ?_
      refine g_backi (g_runV (d_not (sI μ 33 14 0) (nI 2)) rfl mw_X6_not mi_X6_not ml_X6_71 isO_33 ⟨rfl, rfl, Nat.le_of_ble_eq_true rfl, Nat.le_of_ble_eq_true rfl⟩ rfl rfl (Nat.le_of_ble_eq_true rfl) dX6_lay_29) ?_
      refine g_mem (μ' := sI (sI μ 33 14 0) 33 14 (nI 2)) rfl ?_
      refine g_top (w := .int (nI 0)) rfl ?_
      exact g_ireturn dX6_lay_32 rfl rfl rfl
  · exact absurd h10 (by omega)
theorem d_lay_l2 {μ : Mm} {w n : Nat} (hn : μ.1 33 0 = nI n) (h60 : n ≤ 60) (hw : w < 3) : ∀ (m i : Nat), i ≤ n → n < i + m → G mX6_lay (rmL 1) (some (.int (nI 1)), sI (ptM μ w (μ.1 38) n) 33 5 (-1)) (ptM μ w (μ.1 38) i) 84 [some (.ref 33), some (.int (nI w)), some (.int (nI i))] [] := by
  intro m
  induction m with
  | zero => exact fun i h1 h2 => absurd h2 (by omega)
  | succ m ih =>
    intro i h1 h2
    have e1 : (ptM μ w (μ.1 38) i).1 33 0 = nI n := by rw [ptM_n]; exact hn
    have e2 : (ptM μ w (μ.1 38) i).1 38 i = μ.1 38 i := by rw [ptM_38]
    refine g_iload_n 2 _ dX6_lay_84 rfl rfl ?_
    refine g_aload_n 0 _ dX6_lay_85 rfl rfl ?_
    refine gf_X6_7 rfl dX6_lay_86 ?_
    refine g_top (w := .int (nI n)) (congrArg Value.int e1) ?_
    refine g_icmp_geN 110 (by omega) (by omega) dX6_lay_89 (by decide) (fun h89 => ?_) (fun h89 => ?_)
    · refine g_aload_n 0 _ dX6_lay_110 rfl rfl ?_
      refine g_iconst (-1) dX6_lay_111 rfl ?_
      refine gp_X6_27 rfl dX6_lay_112 ?_
      refine g_iconst (nI 1) dX6_lay_115 rfl ?_
      exact g_ireturn dX6_lay_116 rfl rfl (by rw [show i = n by omega])
    · refine g_aload_n 0 _ dX6_lay_92 rfl rfl ?_
      refine g_iload_n 1 _ dX6_lay_93 rfl rfl ?_
      refine g_iload_n 2 _ dX6_lay_94 rfl rfl ?_
      refine g_aload_n 0 _ dX6_lay_95 rfl rfl ?_
      refine gf_X6_30 rfl dX6_lay_96 ?_
      refine g_iload_n 2 _ dX6_lay_99 rfl rfl ?_
      refine g_iaload (j := i) isI_38 (rfl) (by omega) (by omega) dX6_lay_100 ?_
      refine g_top (w := .int (μ.1 38 i)) (congrArg Value.int e2) ?_
      refine g_at 101 rfl ?_
      refine g_backv (g_runV (d_put _ (μ.1 38 i) hw (show i < 60 by omega)) rfl mw_X6_put mi_X6_put ml_X6_90 isO_33 ⟨rfl, rfl, Nat.le_of_ble_eq_true rfl, Nat.le_of_ble_eq_true rfl⟩ rfl rfl (Nat.le_of_ble_eq_true rfl) dX6_lay_101) ?_
      refine g_mem (μ' := putN (ptM μ w (μ.1 38) i) w i (μ.1 38 i)) rfl ?_
      refine g_mem (μ' := ptM μ w (μ.1 38) (i + 1)) (ptM_put μ (μ.1 38) i hw) ?_
      refine g_iincN [some (.ref 33), some (.int (nI w)), some (.int (nI (i + 1)))] dX6_lay_104 rfl (Nat.le_of_ble_eq_true rfl) rfl rfl ?_
      refine g_goto 84 dX6_lay_107 (by decide) ?_
      exact ih (i + 1) (by omega) (by omega)
theorem d_lay_m {μ : Mm} {w n i : Nat} (hn : μ.1 33 0 = nI n) (h60 : n ≤ 60) (hw : w < 3) : G mX6_lay (rmL 1) (some (.int (nI 1)), sI (ptM μ w (μ.1 38) n) 33 5 (-1)) μ 82 [some (.ref 33), some (.int (nI w)), some (.int (nI i))] [] := by
  refine g_iconst (nI 0) dX6_lay_82 rfl ?_
  refine g_istore_n [some (.ref 33), some (.int (nI w)), some (.int (nI 0))] dX6_lay_83 rfl (Nat.le_of_ble_eq_true rfl) rfl rfl ?_
  have h := d_lay_l2 (μ := μ) hn h60 hw (n + 1) 0 (by omega) (by omega); rw [ptM_0] at h; exact h
theorem d_lay_l1 {μ : Mm} {w n : Nat} (hn : μ.1 33 0 = nI n) (h60 : n ≤ 60) (hw : w < 3) : ∀ (m i : Nat), i ≤ n → n < i + m → (∀ j, j < i → fitP w (μ.1 38 j)) → G mX6_lay (rmL 1) (if (∀ j, j < n → fitP w (μ.1 38 j)) then (some (.int (nI 1)), sI (ptM μ w (μ.1 38) n) 33 5 (-1)) else (some (.int (nI 0)), sI μ 33 14 (nI 1))) μ 35 [some (.ref 33), some (.int (nI w)), some (.int (nI i))] [] := by
  intro m
  induction m with
  | zero => exact fun i h1 h2 => absurd h2 (by omega)
  | succ m ih =>
    intro i h1 h2 hj
    refine g_iload_n 2 _ dX6_lay_35 rfl rfl ?_
    refine g_aload_n 0 _ dX6_lay_36 rfl rfl ?_
    refine gf_X6_7 rfl dX6_lay_37 ?_
    refine g_top (w := .int (nI n)) (congrArg Value.int hn) ?_
    refine g_icmp_geN 82 (by omega) (by omega) dX6_lay_40 (by decide) (fun h40 => ?_) (fun h40 => ?_)
    · rw [if_pos (fun j hj2 => hj j (by omega))]; exact d_lay_m hn h60 hw
    · refine g_aload_n 0 _ dX6_lay_43 rfl rfl ?_
      refine gf_X6_30 rfl dX6_lay_44 ?_
      refine g_iload_n 2 _ dX6_lay_47 rfl rfl ?_
      refine g_iaload (j := i) isI_38 (rfl) (by omega) (by omega) dX6_lay_48 ?_
      refine g_iload_n 1 _ dX6_lay_49 rfl rfl ?_
      refine g_backi (g_runS (d_most μ hw) rfl mw_X6_most ms_X6_most ml_X6_87 ⟨rfl, rfl, Nat.le_of_ble_eq_true rfl, Nat.le_of_ble_eq_true rfl⟩ rfl rfl (Nat.le_of_ble_eq_true rfl) dX6_lay_50) ?_
      refine g_top (w := .int (limF w)) rfl ?_
      refine g_ineg dX6_lay_53 ?_
      refine g_at 54 rfl ?_
      refine g_icmp_lt 70 dX6_lay_54 (by decide) (fun h54 => ?_) (fun h54 => ?_)
      · refine g_aload_n 0 _ dX6_lay_70 rfl rfl ?_
        refine g_iconst (nI 1) dX6_lay_71 rfl ?_
        refine g_backi (g_runV (d_not μ (nI 1)) rfl mw_X6_not mi_X6_not ml_X6_71 isO_33 ⟨rfl, rfl, Nat.le_of_ble_eq_true rfl, Nat.le_of_ble_eq_true rfl⟩ rfl rfl (Nat.le_of_ble_eq_true rfl) dX6_lay_72) ?_
        refine g_mem (μ' := sI μ 33 14 (nI 1)) rfl ?_
        refine g_top (w := .int (nI 0)) rfl ?_
        exact g_ireturn dX6_lay_75 rfl rfl (by rw [if_neg (fun q => by obtain ⟨q1, q2⟩ := q i (by omega); simp only [fa_lt, fa_le] at *; omega)])
      · refine g_aload_n 0 _ dX6_lay_57 rfl rfl ?_
        refine gf_X6_30 rfl dX6_lay_58 ?_
        refine g_iload_n 2 _ dX6_lay_61 rfl rfl ?_
        refine g_iaload (j := i) isI_38 (rfl) (by omega) (by omega) dX6_lay_62 ?_
        refine g_iload_n 1 _ dX6_lay_63 rfl rfl ?_
        refine g_backi (g_runS (d_most μ hw) rfl mw_X6_most ms_X6_most ml_X6_87 ⟨rfl, rfl, Nat.le_of_ble_eq_true rfl, Nat.le_of_ble_eq_true rfl⟩ rfl rfl (Nat.le_of_ble_eq_true rfl) dX6_lay_64) ?_
        refine g_top (w := .int (limF w)) rfl ?_
        refine g_icmp_le 76 dX6_lay_67 (by decide) (fun h67 => ?_) (fun h67 => ?_)
        · refine g_iincN [some (.ref 33), some (.int (nI w)), some (.int (nI (i + 1)))] dX6_lay_76 rfl (Nat.le_of_ble_eq_true rfl) rfl rfl ?_
          refine g_goto 35 dX6_lay_79 (by decide) ?_
          exact ih (i + 1) (by omega) (by omega) (fun j hj2 => (Nat.lt_succ_iff_lt_or_eq.mp hj2).elim (hj j) (fun e => e ▸ ⟨by rw [fa_lt] at h54; rw [fa_le]; omega, h67⟩))
        · refine g_aload_n 0 _ dX6_lay_70 rfl rfl ?_
          refine g_iconst (nI 1) dX6_lay_71 rfl ?_
          refine g_backi (g_runV (d_not μ (nI 1)) rfl mw_X6_not mi_X6_not ml_X6_71 isO_33 ⟨rfl, rfl, Nat.le_of_ble_eq_true rfl, Nat.le_of_ble_eq_true rfl⟩ rfl rfl (Nat.le_of_ble_eq_true rfl) dX6_lay_72) ?_
          refine g_mem (μ' := sI μ 33 14 (nI 1)) rfl ?_
          refine g_top (w := .int (nI 0)) rfl ?_
          exact g_ireturn dX6_lay_75 rfl rfl (by rw [if_neg (fun q => by obtain ⟨q1, q2⟩ := q i (by omega); simp only [fa_lt, fa_le] at *; omega)])
theorem d_lay (μ : Mm) {w n : Nat} (hn : μ.1 33 0 = nI n) (h60 : n ≤ 60) (hw : w < 3) (hk : μ.1 33 5 ≠ -1) : Ok mX6_lay (rmL 1) [.ref 33, .int (nI w)] μ (if (∀ j, j < n → fitP w (μ.1 38 j)) then (some (.int (nI 1)), sI (ptM (sI μ 33 14 0) w (μ.1 38) n) 33 5 (-1)) else (some (.int (nI 0)), sI (sI μ 33 14 0) 33 14 (nI 1))) := by
  refine Ok.of (by decide) (Nat.le_of_ble_eq_true rfl) [some (.ref 33), some (.int (nI w)), none] rfl ?_
  refine g_aload_n 0 _ dX6_lay_0 rfl rfl ?_
  refine g_backv (g_runV (d_start μ) rfl mw_X6_start mi_X6_start ml_X6_68 isO_33 ⟨rfl, rfl, Nat.le_of_ble_eq_true rfl, Nat.le_of_ble_eq_true rfl⟩ rfl rfl (Nat.le_of_ble_eq_true rfl) dX6_lay_1) ?_
  refine g_mem (μ' := sI μ 33 14 0) rfl ?_
  refine g_iload_n 1 _ dX6_lay_4 rfl rfl ?_
  refine g_if_ltN 13 (by omega) dX6_lay_5 (by decide) ?_
  refine g_iload_n 1 _ dX6_lay_8 rfl rfl ?_
  refine g_iconst (nI 2) dX6_lay_9 rfl ?_
  refine g_icmp_leN 19 (by omega) (by omega) dX6_lay_10 (by decide) (fun h10 => ?_) (fun h10 => ?_)
  · refine g_aload_n 0 _ dX6_lay_19 rfl rfl ?_
    refine gf_X6_27 rfl dX6_lay_20 ?_
    refine g_iconst (-1) dX6_lay_23 rfl ?_
    refine g_icmp_ne 33 dX6_lay_24 (by decide) (fun h24 => ?_) (fun h24 => ?_)
    · refine g_iconst (nI 0) dX6_lay_33 rfl ?_
      refine g_istore_n [some (.ref 33), some (.int (nI w)), some (.int (nI 0))] dX6_lay_34 rfl (Nat.le_of_ble_eq_true rfl) rfl rfl ?_
      exact d_lay_l1 (μ := sI μ 33 14 0) hn h60 hw (n + 1) 0 (by omega) (by omega) (fun j h => absurd h (by omega))
    · exact absurd h24 hk
  · exact absurd h10 (by omega)
theorem d_set_no (μ : Mm) (a b v : Int32) {n : Nat} (hn : μ.1 33 0 = nI n) (h : ¬ (0 ≤ a.toInt ∧ a.toInt ≤ 2 ∧ 0 ≤ b.toInt ∧ b.toInt < (nI n).toInt ∧ fitP a.toNatClampNeg v)) : Ok mX6_set (rmL 1) [.ref 33, .int a, .int b, .int v] μ (some (.int (nI 0)), sI (sI μ 33 14 0) 33 14 (nI 1)) := by
  by_cases ha : 0 ≤ a.toInt ∧ a.toInt ≤ 2
  · obtain ⟨w, hw, rfl⟩ := nat_of (N := 2) ha.1 ha.2 (by decide)
    rw [nI_clamp (by omega)] at h
    refine Ok.of (by decide) (Nat.le_of_ble_eq_true rfl) [some (.ref 33), some (.int (nI w)), some (.int b), some (.int v)] rfl ?_
    refine g_aload_n 0 _ dX6_set_0 rfl rfl ?_
    refine g_backv (g_runV (d_start μ) rfl mw_X6_start mi_X6_start ml_X6_68 isO_33 ⟨rfl, rfl, Nat.le_of_ble_eq_true rfl, Nat.le_of_ble_eq_true rfl⟩ rfl rfl (Nat.le_of_ble_eq_true rfl) dX6_set_1) ?_
    refine g_mem (μ' := sI μ 33 14 0) rfl ?_
    refine g_iload_n 1 _ dX6_set_4 rfl rfl ?_
    refine g_if_ltN 38 (by omega) dX6_set_5 (by decide) ?_
    refine g_iload_n 1 _ dX6_set_8 rfl rfl ?_
    refine g_iconst (nI 2) dX6_set_9 rfl ?_
    refine g_icmp_gtN 38 (by omega) (by omega) dX6_set_10 (by decide) (fun h10 => ?_) (fun h10 => ?_)
    · refine g_aload_n 0 _ dX6_set_38 rfl rfl ?_
      refine g_iconst (nI 1) dX6_set_39 rfl ?_
      refine g_backi (g_runV (d_not (sI μ 33 14 0) (nI 1)) rfl mw_X6_not mi_X6_not ml_X6_71 isO_33 ⟨rfl, rfl, Nat.le_of_ble_eq_true rfl, Nat.le_of_ble_eq_true rfl⟩ rfl rfl (Nat.le_of_ble_eq_true rfl) dX6_set_40) ?_
      refine g_mem (μ' := sI (sI μ 33 14 0) 33 14 (nI 1)) rfl ?_
      refine g_top (w := .int (nI 0)) rfl ?_
      exact g_ireturn dX6_set_43 rfl rfl rfl
    · refine g_aload_n 0 _ dX6_set_13 rfl rfl ?_
      refine g_iload_n 2 _ dX6_set_14 rfl rfl ?_
      refine g_backi (g_runV (d_isPlace (sI μ 33 14 0) b (n := n) hn) rfl mw_X6_isPlace mi_X6_isPlace ml_X6_94 isO_33 ⟨rfl, rfl, Nat.le_of_ble_eq_true rfl, Nat.le_of_ble_eq_true rfl⟩ rfl rfl (Nat.le_of_ble_eq_true rfl) dX6_set_15) ?_
      refine g_top (w := .int (bI (¬ b < 0 ∧ b < nI n))) rfl ?_
      refine g_if_eqB 38 dX6_set_18 (by decide) (fun h18 => ?_) (fun h18 => ?_)
      · refine g_aload_n 0 _ dX6_set_38 rfl rfl ?_
        refine g_iconst (nI 1) dX6_set_39 rfl ?_
        refine g_backi (g_runV (d_not (sI μ 33 14 0) (nI 1)) rfl mw_X6_not mi_X6_not ml_X6_71 isO_33 ⟨rfl, rfl, Nat.le_of_ble_eq_true rfl, Nat.le_of_ble_eq_true rfl⟩ rfl rfl (Nat.le_of_ble_eq_true rfl) dX6_set_40) ?_
        refine g_mem (μ' := sI (sI μ 33 14 0) 33 14 (nI 1)) rfl ?_
        refine g_top (w := .int (nI 0)) rfl ?_
        exact g_ireturn dX6_set_43 rfl rfl rfl
      · refine g_iload_n 3 _ dX6_set_21 rfl rfl ?_
        refine g_iload_n 1 _ dX6_set_22 rfl rfl ?_
        refine g_backi (g_runS (d_most (sI μ 33 14 0) (show w < 3 by omega)) rfl mw_X6_most ms_X6_most ml_X6_87 ⟨rfl, rfl, Nat.le_of_ble_eq_true rfl, Nat.le_of_ble_eq_true rfl⟩ rfl rfl (Nat.le_of_ble_eq_true rfl) dX6_set_23) ?_
        refine g_top (w := .int (limF w)) rfl ?_
        refine g_ineg dX6_set_26 ?_
        refine g_icmp_lt 38 dX6_set_27 (by decide) (fun h27 => ?_) (fun h27 => ?_)
        · refine g_aload_n 0 _ dX6_set_38 rfl rfl ?_
          refine g_iconst (nI 1) dX6_set_39 rfl ?_
          refine g_backi (g_runV (d_not (sI μ 33 14 0) (nI 1)) rfl mw_X6_not mi_X6_not ml_X6_71 isO_33 ⟨rfl, rfl, Nat.le_of_ble_eq_true rfl, Nat.le_of_ble_eq_true rfl⟩ rfl rfl (Nat.le_of_ble_eq_true rfl) dX6_set_40) ?_
          refine g_mem (μ' := sI (sI μ 33 14 0) 33 14 (nI 1)) rfl ?_
          refine g_top (w := .int (nI 0)) rfl ?_
          exact g_ireturn dX6_set_43 rfl rfl rfl
        · refine g_iload_n 3 _ dX6_set_30 rfl rfl ?_
          refine g_iload_n 1 _ dX6_set_31 rfl rfl ?_
          refine g_backi (g_runS (d_most (sI μ 33 14 0) (show w < 3 by omega)) rfl mw_X6_most ms_X6_most ml_X6_87 ⟨rfl, rfl, Nat.le_of_ble_eq_true rfl, Nat.le_of_ble_eq_true rfl⟩ rfl rfl (Nat.le_of_ble_eq_true rfl) dX6_set_32) ?_
          refine g_top (w := .int (limF w)) rfl ?_
          refine g_icmp_le 44 dX6_set_35 (by decide) (fun h35 => ?_) (fun h35 => ?_)
          · exact absurd ⟨ha.1, ha.2, by have := h18.1; rw [fa_lt, t0] at this; omega, by have := h18.2; rw [fa_lt] at this; exact this, by rw [fa_lt] at h27; rw [fa_le]; omega, h35⟩ h
          · refine g_aload_n 0 _ dX6_set_38 rfl rfl ?_
            refine g_iconst (nI 1) dX6_set_39 rfl ?_
            refine g_backi (g_runV (d_not (sI μ 33 14 0) (nI 1)) rfl mw_X6_not mi_X6_not ml_X6_71 isO_33 ⟨rfl, rfl, Nat.le_of_ble_eq_true rfl, Nat.le_of_ble_eq_true rfl⟩ rfl rfl (Nat.le_of_ble_eq_true rfl) dX6_set_40) ?_
            refine g_mem (μ' := sI (sI μ 33 14 0) 33 14 (nI 1)) rfl ?_
            refine g_top (w := .int (nI 0)) rfl ?_
            exact g_ireturn dX6_set_43 rfl rfl rfl
  · refine Ok.of (by decide) (Nat.le_of_ble_eq_true rfl) [some (.ref 33), some (.int a), some (.int b), some (.int v)] rfl ?_
    refine g_aload_n 0 _ dX6_set_0 rfl rfl ?_
    refine g_backv (g_runV (d_start μ) rfl mw_X6_start mi_X6_start ml_X6_68 isO_33 ⟨rfl, rfl, Nat.le_of_ble_eq_true rfl, Nat.le_of_ble_eq_true rfl⟩ rfl rfl (Nat.le_of_ble_eq_true rfl) dX6_set_1) ?_
    refine g_mem (μ' := sI μ 33 14 0) rfl ?_
    refine g_iload_n 1 _ dX6_set_4 rfl rfl ?_
    refine g_if_lt 38 dX6_set_5 (by decide) (fun h5 => ?_) (fun h5 => ?_)
    · refine g_aload_n 0 _ dX6_set_38 rfl rfl ?_
      refine g_iconst (nI 1) dX6_set_39 rfl ?_
      refine g_backi (g_runV (d_not (sI μ 33 14 0) (nI 1)) rfl mw_X6_not mi_X6_not ml_X6_71 isO_33 ⟨rfl, rfl, Nat.le_of_ble_eq_true rfl, Nat.le_of_ble_eq_true rfl⟩ rfl rfl (Nat.le_of_ble_eq_true rfl) dX6_set_40) ?_
      refine g_mem (μ' := sI (sI μ 33 14 0) 33 14 (nI 1)) rfl ?_
      refine g_top (w := .int (nI 0)) rfl ?_
      exact g_ireturn dX6_set_43 rfl rfl rfl
    · refine g_iload_n 1 _ dX6_set_8 rfl rfl ?_
      refine g_iconst (nI 2) dX6_set_9 rfl ?_
      refine g_icmp_gt 38 dX6_set_10 (by decide) (fun h10 => ?_) (fun h10 => ?_)
      · refine g_aload_n 0 _ dX6_set_38 rfl rfl ?_
        refine g_iconst (nI 1) dX6_set_39 rfl ?_
        refine g_backi (g_runV (d_not (sI μ 33 14 0) (nI 1)) rfl mw_X6_not mi_X6_not ml_X6_71 isO_33 ⟨rfl, rfl, Nat.le_of_ble_eq_true rfl, Nat.le_of_ble_eq_true rfl⟩ rfl rfl (Nat.le_of_ble_eq_true rfl) dX6_set_40) ?_
        refine g_mem (μ' := sI (sI μ 33 14 0) 33 14 (nI 1)) rfl ?_
        refine g_top (w := .int (nI 0)) rfl ?_
        exact g_ireturn dX6_set_43 rfl rfl rfl
      · exfalso; simp only [ne_eq, fa_lt, fa_le, fa_eq, t0, t1, t2, tm1, nt0, nt1, nt2, nt3, nt4, nt5, nt7, nt9, nt10, nt13, nt14, nt30, nt32, nt59, nt60, nt200, nt1000, nt1000000, nt1073741824] at *; omega
theorem d_set_ok (μ : Mm) {w j n : Nat} (v : Int32) (hn : μ.1 33 0 = nI n) (h60 : n ≤ 60) (hw : w < 3) (hj : j < n) (hf : fitP w v) : Ok mX6_set (rmL 1) [.ref 33, .int (nI w), .int (nI j), .int v] μ (some (.int (nI 1)), putN (sI μ 33 14 0) w j v) := by
  refine Ok.of (by decide) (Nat.le_of_ble_eq_true rfl) [some (.ref 33), some (.int (nI w)), some (.int (nI j)), some (.int v)] rfl ?_
  refine g_aload_n 0 _ dX6_set_0 rfl rfl ?_
  refine g_backv (g_runV (d_start μ) rfl mw_X6_start mi_X6_start ml_X6_68 isO_33 ⟨rfl, rfl, Nat.le_of_ble_eq_true rfl, Nat.le_of_ble_eq_true rfl⟩ rfl rfl (Nat.le_of_ble_eq_true rfl) dX6_set_1) ?_
  refine g_mem (μ' := sI μ 33 14 0) rfl ?_
  refine g_iload_n 1 _ dX6_set_4 rfl rfl ?_
  refine g_if_ltN 38 (by omega) dX6_set_5 (by decide) ?_
  refine g_iload_n 1 _ dX6_set_8 rfl rfl ?_
  refine g_iconst (nI 2) dX6_set_9 rfl ?_
  refine g_icmp_gtN 38 (by omega) (by omega) dX6_set_10 (by decide) (fun h10 => ?_) (fun h10 => ?_)
  · exact absurd h10 (by omega)
  · refine g_aload_n 0 _ dX6_set_13 rfl rfl ?_
    refine g_iload_n 2 _ dX6_set_14 rfl rfl ?_
    refine g_backi (g_runV ((d_isPlace (sI μ 33 14 0) (nI j) (n := n) hn).to (by rw [bI_t ⟨nI_pos (by omega), nI_lt hj (by omega)⟩])) rfl mw_X6_isPlace mi_X6_isPlace ml_X6_94 isO_33 ⟨rfl, rfl, Nat.le_of_ble_eq_true rfl, Nat.le_of_ble_eq_true rfl⟩ rfl rfl (Nat.le_of_ble_eq_true rfl) dX6_set_15) ?_
    refine g_top (w := .int 1) rfl ?_
    refine g_if_eq 38 dX6_set_18 (by decide) (fun h18 => ?_) (fun h18 => ?_)
    · exact absurd h18 (by decide)
    · refine g_iload_n 3 _ dX6_set_21 rfl rfl ?_
      refine g_iload_n 1 _ dX6_set_22 rfl rfl ?_
      refine g_backi (g_runS (d_most (sI μ 33 14 0) hw) rfl mw_X6_most ms_X6_most ml_X6_87 ⟨rfl, rfl, Nat.le_of_ble_eq_true rfl, Nat.le_of_ble_eq_true rfl⟩ rfl rfl (Nat.le_of_ble_eq_true rfl) dX6_set_23) ?_
      refine g_top (w := .int (limF w)) rfl ?_
      refine g_ineg dX6_set_26 ?_
      refine g_icmp_lt 38 dX6_set_27 (by decide) (fun h27 => ?_) (fun h27 => ?_)
      · have h9 := hf.1; simp only [fa_lt, fa_le] at *; omega
      · refine g_iload_n 3 _ dX6_set_30 rfl rfl ?_
        refine g_iload_n 1 _ dX6_set_31 rfl rfl ?_
        refine g_backi (g_runS (d_most (sI μ 33 14 0) hw) rfl mw_X6_most ms_X6_most ml_X6_87 ⟨rfl, rfl, Nat.le_of_ble_eq_true rfl, Nat.le_of_ble_eq_true rfl⟩ rfl rfl (Nat.le_of_ble_eq_true rfl) dX6_set_32) ?_
        refine g_top (w := .int (limF w)) rfl ?_
        refine g_icmp_le 44 dX6_set_35 (by decide) (fun h35 => ?_) (fun h35 => ?_)
        · refine g_aload_n 0 _ dX6_set_44 rfl rfl ?_
          refine g_iload_n 1 _ dX6_set_45 rfl rfl ?_
          refine g_iload_n 2 _ dX6_set_46 rfl rfl ?_
          refine g_iload_n 3 _ dX6_set_47 rfl rfl ?_
          refine g_backv (g_runV (d_put _ v hw (show j < 60 by omega)) rfl mw_X6_put mi_X6_put ml_X6_90 isO_33 ⟨rfl, rfl, Nat.le_of_ble_eq_true rfl, Nat.le_of_ble_eq_true rfl⟩ rfl rfl (Nat.le_of_ble_eq_true rfl) dX6_set_48) ?_
          refine g_mem (μ' := putN (sI μ 33 14 0) w j v) rfl ?_
          refine g_iconst (nI 1) dX6_set_51 rfl ?_
          exact g_ireturn dX6_set_52 rfl rfl rfl
        · exact absurd hf.2 h35
theorem d_miss_no (μ : Mm) (a : Int32) {n : Nat} (hn : μ.1 33 0 = nI n) (h : ¬ (0 ≤ a.toInt ∧ a.toInt < (nI n).toInt)) : Ok mX6_miss (rmL 1) [.ref 33, .int a] μ (some (.int (nI 0)), sI (sI μ 33 14 0) 33 14 (nI 1)) := by
  refine Ok.of (by decide) (Nat.le_of_ble_eq_true rfl) [some (.ref 33), some (.int a)] rfl ?_
  refine g_aload_n 0 _ dX6_miss_0 rfl rfl ?_
  refine g_backv (g_runV (d_start μ) rfl mw_X6_start mi_X6_start ml_X6_68 isO_33 ⟨rfl, rfl, Nat.le_of_ble_eq_true rfl, Nat.le_of_ble_eq_true rfl⟩ rfl rfl (Nat.le_of_ble_eq_true rfl) dX6_miss_1) ?_
  refine g_mem (μ' := sI μ 33 14 0) rfl ?_
  refine g_aload_n 0 _ dX6_miss_4 rfl rfl ?_
  refine g_iload_n 1 _ dX6_miss_5 rfl rfl ?_
  refine g_backi (g_runV (d_isPlace (sI μ 33 14 0) a (n := n) hn) rfl mw_X6_isPlace mi_X6_isPlace ml_X6_94 isO_33 ⟨rfl, rfl, Nat.le_of_ble_eq_true rfl, Nat.le_of_ble_eq_true rfl⟩ rfl rfl (Nat.le_of_ble_eq_true rfl) dX6_miss_6) ?_
  refine g_top (w := .int (bI (¬ a < 0 ∧ a < nI n))) rfl ?_
  refine g_if_neB 18 dX6_miss_9 (by decide) (fun h9 => ?_) (fun h9 => ?_)
  · exfalso; simp only [ne_eq, fa_lt, fa_le, fa_eq, t0, t1, t2, tm1, nt0, nt1, nt2, nt3, nt4, nt5, nt7, nt9, nt10, nt13, nt14, nt30, nt32, nt59, nt60, nt200, nt1000, nt1000000, nt1073741824] at *; omega
  · refine g_aload_n 0 _ dX6_miss_12 rfl rfl ?_
    refine g_iconst (nI 1) dX6_miss_13 rfl ?_
    refine g_backi (g_runV (d_not (sI μ 33 14 0) (nI 1)) rfl mw_X6_not mi_X6_not ml_X6_71 isO_33 ⟨rfl, rfl, Nat.le_of_ble_eq_true rfl, Nat.le_of_ble_eq_true rfl⟩ rfl rfl (Nat.le_of_ble_eq_true rfl) dX6_miss_14) ?_
    refine g_mem (μ' := sI (sI μ 33 14 0) 33 14 (nI 1)) rfl ?_
    refine g_top (w := .int (nI 0)) rfl ?_
    exact g_ireturn dX6_miss_17 rfl rfl rfl
theorem d_miss_ok (μ : Mm) {j n : Nat} (hn : μ.1 33 0 = nI n) (h60 : n ≤ 60) (hj : j < n) : Ok mX6_miss (rmL 1) [.ref 33, .int (nI j)] μ (some (.int (nI 1)), sI (sI μ 33 14 0) 37 j (nI 1)) := by
  refine Ok.of (by decide) (Nat.le_of_ble_eq_true rfl) [some (.ref 33), some (.int (nI j))] rfl ?_
  refine g_aload_n 0 _ dX6_miss_0 rfl rfl ?_
  refine g_backv (g_runV (d_start μ) rfl mw_X6_start mi_X6_start ml_X6_68 isO_33 ⟨rfl, rfl, Nat.le_of_ble_eq_true rfl, Nat.le_of_ble_eq_true rfl⟩ rfl rfl (Nat.le_of_ble_eq_true rfl) dX6_miss_1) ?_
  refine g_mem (μ' := sI μ 33 14 0) rfl ?_
  refine g_aload_n 0 _ dX6_miss_4 rfl rfl ?_
  refine g_iload_n 1 _ dX6_miss_5 rfl rfl ?_
  refine g_backi (g_runV ((d_isPlace (sI μ 33 14 0) (nI j) (n := n) hn).to (by rw [bI_t ⟨nI_pos (by omega), nI_lt hj (by omega)⟩])) rfl mw_X6_isPlace mi_X6_isPlace ml_X6_94 isO_33 ⟨rfl, rfl, Nat.le_of_ble_eq_true rfl, Nat.le_of_ble_eq_true rfl⟩ rfl rfl (Nat.le_of_ble_eq_true rfl) dX6_miss_6) ?_
  refine g_top (w := .int 1) rfl ?_
  refine g_if_ne 18 dX6_miss_9 (by decide) (fun h9 => ?_) (fun h9 => ?_)
  · refine g_aload_n 0 _ dX6_miss_18 rfl rfl ?_
    refine gf_X6_23 rfl dX6_miss_19 ?_
    refine g_iload_n 1 _ dX6_miss_22 rfl rfl ?_
    refine g_iconst (nI 1) dX6_miss_23 rfl ?_
    refine g_bastore (j := j) isZ_37 (rfl) (by omega) (by omega) rfl dX6_miss_24 ?_
    refine g_iconst (nI 1) dX6_miss_25 rfl ?_
    exact g_ireturn dX6_miss_26 rfl rfl rfl
  · exact absurd h9 (by decide)
theorem d_thr_l {μ : Mm} {s n : Nat} (hn : μ.1 33 0 = nI n) (h60 : n ≤ 60) (hs : s < n) : ∀ (m i : Nat) (c : Int32), i ≤ n → n < i + m → c = thr (μ.1 34) (μ.1 35) n s i → G mX6_shadowAt (rmL 0) (some (.int (thr (μ.1 34) (μ.1 35) n s n)), μ) μ 4 [some (.ref 33), some (.int (nI s)), some (.int c), some (.int (nI i))] [] := by
  intro m
  induction m with
  | zero => exact fun i c h1 h2 => absurd h2 (by omega)
  | succ m ih =>
    intro i c h1 h2 hc
    have hm : (s + i) % n < n := Nat.mod_lt _ (by omega)
    refine g_iload_n 3 _ dX6_shadowAt_4 rfl rfl ?_
    refine g_aload_n 0 _ dX6_shadowAt_5 rfl rfl ?_
    refine gf_X6_7 rfl dX6_shadowAt_6 ?_
    refine g_top (w := .int (nI n)) (congrArg Value.int hn) ?_
    refine g_icmp_geN 41 (by omega) (by omega) dX6_shadowAt_9 (by decide) (fun h9 => ?_) (fun h9 => ?_)
    · refine g_iload_n 2 _ dX6_shadowAt_41 rfl rfl ?_
      exact g_ireturn dX6_shadowAt_42 rfl rfl (by rw [hc, show i = n by omega])
    · refine g_iload_n 2 _ dX6_shadowAt_12 rfl rfl ?_
      refine g_aload_n 0 _ dX6_shadowAt_13 rfl rfl ?_
      refine gf_X6_13 rfl dX6_shadowAt_14 ?_
      refine g_iload_n 3 _ dX6_shadowAt_17 rfl rfl ?_
      refine g_iaload (j := i) isI_34 (rfl) (by omega) (by omega) dX6_shadowAt_18 ?_
      refine g_aload_n 0 _ dX6_shadowAt_19 rfl rfl ?_
      refine gf_X6_17 rfl dX6_shadowAt_20 ?_
      refine g_at 23 rfl ?_
      refine g_iload_n 1 _ dX6_shadowAt_23 rfl rfl ?_
      refine g_iload_n 3 _ dX6_shadowAt_24 rfl rfl ?_
      refine g_iaddN dX6_shadowAt_25 ?_
      refine g_aload_n 0 _ dX6_shadowAt_26 rfl rfl ?_
      refine gf_X6_7 rfl dX6_shadowAt_27 ?_
      refine g_top (w := .int (nI n)) (congrArg Value.int hn) ?_
      refine g_iremN (by omega) (by omega) (by omega) dX6_shadowAt_30 ?_
      refine g_iaload (j := (s + i) % n) isI_35 (rfl) (by omega) (by omega) dX6_shadowAt_31 ?_
      refine g_imul dX6_shadowAt_32 ?_
      refine g_at 33 rfl ?_
      refine g_iadd dX6_shadowAt_33 ?_
      refine g_istore_n [some (.ref 33), some (.int (nI s)), some (.int (c + ((μ.1 34 i) * (μ.1 35 ((s + i) % n))))), some (.int (nI i))] dX6_shadowAt_34 rfl (Nat.le_of_ble_eq_true rfl) rfl rfl ?_
      refine g_iincN [some (.ref 33), some (.int (nI s)), some (.int (c + ((μ.1 34 i) * (μ.1 35 ((s + i) % n))))), some (.int (nI (i + 1)))] dX6_shadowAt_35 rfl (Nat.le_of_ble_eq_true rfl) rfl rfl ?_
      refine g_goto 4 dX6_shadowAt_38 (by decide) ?_
      exact ih (i + 1) _ (by omega) (by omega) (by rw [hc]; rfl)
theorem d_shadowAt (μ : Mm) {s n : Nat} (hn : μ.1 33 0 = nI n) (h60 : n ≤ 60) (hs : s < n) : Ok mX6_shadowAt (rmL 0) [.ref 33, .int (nI s)] μ (some (.int (thr (μ.1 34) (μ.1 35) n s n)), μ) := by
  refine Ok.of (by decide) (Nat.le_of_ble_eq_true rfl) [some (.ref 33), some (.int (nI s)), none, none] rfl ?_
  refine g_iconst (nI 0) dX6_shadowAt_0 rfl ?_
  refine g_istore_n [some (.ref 33), some (.int (nI s)), some (.int (nI 0)), none] dX6_shadowAt_1 rfl (Nat.le_of_ble_eq_true rfl) rfl rfl ?_
  refine g_iconst (nI 0) dX6_shadowAt_2 rfl ?_
  refine g_istore_n [some (.ref 33), some (.int (nI s)), some (.int (nI 0)), some (.int (nI 0))] dX6_shadowAt_3 rfl (Nat.le_of_ble_eq_true rfl) rfl rfl ?_
  exact d_thr_l hn h60 hs (n + 1) 0 _ (by omega) (by omega) rfl
theorem d_met_l {μ : Mm} {s n : Nat} (hn : μ.1 33 0 = nI n) (h60 : n ≤ 60) (hs : s < n) : ∀ (m i : Nat) (c : Int32), i ≤ n → n < i + m → c = thr (μ.1 34) (μ.1 34) n s i → G mX6_meetsAt (rmL 0) (some (.int (thr (μ.1 34) (μ.1 34) n s n)), μ) μ 4 [some (.ref 33), some (.int (nI s)), some (.int c), some (.int (nI i))] [] := by
  intro m
  induction m with
  | zero => exact fun i c h1 h2 => absurd h2 (by omega)
  | succ m ih =>
    intro i c h1 h2 hc
    have hm : (i + s) % n < n := Nat.mod_lt _ (by omega)
    refine g_iload_n 3 _ dX6_meetsAt_4 rfl rfl ?_
    refine g_aload_n 0 _ dX6_meetsAt_5 rfl rfl ?_
    refine gf_X6_7 rfl dX6_meetsAt_6 ?_
    refine g_top (w := .int (nI n)) (congrArg Value.int hn) ?_
    refine g_icmp_geN 41 (by omega) (by omega) dX6_meetsAt_9 (by decide) (fun h9 => ?_) (fun h9 => ?_)
    · refine g_iload_n 2 _ dX6_meetsAt_41 rfl rfl ?_
      exact g_ireturn dX6_meetsAt_42 rfl rfl (by rw [hc, show i = n by omega])
    · refine g_iload_n 2 _ dX6_meetsAt_12 rfl rfl ?_
      refine g_aload_n 0 _ dX6_meetsAt_13 rfl rfl ?_
      refine gf_X6_13 rfl dX6_meetsAt_14 ?_
      refine g_iload_n 3 _ dX6_meetsAt_17 rfl rfl ?_
      refine g_iaload (j := i) isI_34 (rfl) (by omega) (by omega) dX6_meetsAt_18 ?_
      refine g_aload_n 0 _ dX6_meetsAt_19 rfl rfl ?_
      refine gf_X6_13 rfl dX6_meetsAt_20 ?_
      refine g_at 23 rfl ?_
      refine g_iload_n 3 _ dX6_meetsAt_23 rfl rfl ?_
      refine g_iload_n 1 _ dX6_meetsAt_24 rfl rfl ?_
      refine g_iaddN dX6_meetsAt_25 ?_
      refine g_aload_n 0 _ dX6_meetsAt_26 rfl rfl ?_
      refine gf_X6_7 rfl dX6_meetsAt_27 ?_
      refine g_top (w := .int (nI n)) (congrArg Value.int hn) ?_
      refine g_iremN (by omega) (by omega) (by omega) dX6_meetsAt_30 ?_
      refine g_iaload (j := (i + s) % n) isI_34 (rfl) (by omega) (by omega) dX6_meetsAt_31 ?_
      refine g_imul dX6_meetsAt_32 ?_
      refine g_at 33 rfl ?_
      refine g_iadd dX6_meetsAt_33 ?_
      refine g_istore_n [some (.ref 33), some (.int (nI s)), some (.int (c + ((μ.1 34 i) * (μ.1 34 ((i + s) % n))))), some (.int (nI i))] dX6_meetsAt_34 rfl (Nat.le_of_ble_eq_true rfl) rfl rfl ?_
      refine g_iincN [some (.ref 33), some (.int (nI s)), some (.int (c + ((μ.1 34 i) * (μ.1 34 ((i + s) % n))))), some (.int (nI (i + 1)))] dX6_meetsAt_35 rfl (Nat.le_of_ble_eq_true rfl) rfl rfl ?_
      refine g_goto 4 dX6_meetsAt_38 (by decide) ?_
      exact ih (i + 1) _ (by omega) (by omega) (by rw [hc, Nat.add_comm i s]; rfl)
theorem d_meetsAt (μ : Mm) {s n : Nat} (hn : μ.1 33 0 = nI n) (h60 : n ≤ 60) (hs : s < n) : Ok mX6_meetsAt (rmL 0) [.ref 33, .int (nI s)] μ (some (.int (thr (μ.1 34) (μ.1 34) n s n)), μ) := by
  refine Ok.of (by decide) (Nat.le_of_ble_eq_true rfl) [some (.ref 33), some (.int (nI s)), none, none] rfl ?_
  refine g_iconst (nI 0) dX6_meetsAt_0 rfl ?_
  refine g_istore_n [some (.ref 33), some (.int (nI s)), some (.int (nI 0)), none] dX6_meetsAt_1 rfl (Nat.le_of_ble_eq_true rfl) rfl rfl ?_
  refine g_iconst (nI 0) dX6_meetsAt_2 rfl ?_
  refine g_istore_n [some (.ref 33), some (.int (nI s)), some (.int (nI 0)), some (.int (nI 0))] dX6_meetsAt_3 rfl (Nat.le_of_ble_eq_true rfl) rfl rfl ?_
  exact d_met_l hn h60 hs (n + 1) 0 _ (by omega) (by omega) rfl
theorem d_firstOff_l {μ : Mm} {n : Nat} (hn : μ.1 33 0 = nI n) (h60 : n ≤ 60) (r : Int32) : ∀ (m k : Nat), 2 ≤ k ∧ k ≤ 62 → n - k < m → r = fstF (fun k => decide (thr (μ.1 34) (μ.1 34) n k n ≠ thr (μ.1 34) (μ.1 34) n 1 n)) k (n - k) → G mX6_firstOff (rmL 1) (some (.int r), μ) μ 2 [some (.ref 33), some (.int (nI k))] [] := by
  intro m
  induction m with
  | zero => exact fun k h1 h2 => absurd h2 (by omega)
  | succ m ih =>
    intro k h1 h2 hr
    by_cases hk : k < n
    · rw [show n - k = (n - (k + 1)) + 1 by omega, fstF] at hr
      refine g_iload_n 1 _ dX6_firstOff_2 rfl rfl ?_
      refine g_aload_n 0 _ dX6_firstOff_3 rfl rfl ?_
      refine gf_X6_7 rfl dX6_firstOff_4 ?_
      refine g_top (w := .int (nI n)) (congrArg Value.int hn) ?_
      refine g_icmp_geN 31 (by omega) (by omega) dX6_firstOff_7 (by decide) (fun h7 => ?_) (fun h7 => ?_)
      · exact absurd h7 (by omega)
      · refine g_aload_n 0 _ dX6_firstOff_10 rfl rfl ?_
        refine g_iload_n 1 _ dX6_firstOff_11 rfl rfl ?_
        refine g_backi (g_runV (d_meetsAt μ hn h60 hk) rfl mw_X6_meetsAt mi_X6_meetsAt ml_X6_97 isO_33 ⟨rfl, rfl, Nat.le_of_ble_eq_true rfl, Nat.le_of_ble_eq_true rfl⟩ rfl rfl (Nat.le_of_ble_eq_true rfl) dX6_firstOff_12) ?_
        refine g_top (w := .int (thr (μ.1 34) (μ.1 34) n k n)) rfl ?_
        refine g_aload_n 0 _ dX6_firstOff_15 rfl rfl ?_
        refine g_iconst (nI 1) dX6_firstOff_16 rfl ?_
        refine g_backi (g_runV (d_meetsAt μ hn h60 (s := 1) (by omega)) rfl mw_X6_meetsAt mi_X6_meetsAt ml_X6_97 isO_33 ⟨rfl, rfl, Nat.le_of_ble_eq_true rfl, Nat.le_of_ble_eq_true rfl⟩ rfl rfl (Nat.le_of_ble_eq_true rfl) dX6_firstOff_17) ?_
        refine g_top (w := .int (thr (μ.1 34) (μ.1 34) n 1 n)) rfl ?_
        refine g_icmp_eq 25 dX6_firstOff_20 (by decide) (fun h20 => ?_) (fun h20 => ?_)
        · refine g_iincN [some (.ref 33), some (.int (nI (k + 1)))] dX6_firstOff_25 rfl (Nat.le_of_ble_eq_true rfl) rfl rfl ?_
          refine g_goto 2 dX6_firstOff_28 (by decide) ?_
          exact ih (k + 1) (by omega) (by omega) (by rw [hr]; simp [h20])
        · refine g_iload_n 1 _ dX6_firstOff_23 rfl rfl ?_
          exact g_ireturn dX6_firstOff_24 rfl rfl (by rw [hr]; simp [h20])
    · rw [show n - k = 0 by omega, fstF] at hr
      refine g_iload_n 1 _ dX6_firstOff_2 rfl rfl ?_
      refine g_aload_n 0 _ dX6_firstOff_3 rfl rfl ?_
      refine gf_X6_7 rfl dX6_firstOff_4 ?_
      refine g_top (w := .int (nI n)) (congrArg Value.int hn) ?_
      refine g_icmp_geN 31 (by omega) (by omega) dX6_firstOff_7 (by decide) (fun h7 => ?_) (fun h7 => ?_)
      · refine g_iconst (-1) dX6_firstOff_31 rfl ?_
        exact g_ireturn dX6_firstOff_32 rfl rfl (by rw [hr])
      · exact absurd h7 (by omega)
theorem d_firstOff (μ : Mm) {n : Nat} (hn : μ.1 33 0 = nI n) (h60 : n ≤ 60) : Ok mX6_firstOff (rmL 1) [.ref 33] μ (some (.int (offF (μ.1 34) n)), μ) := by
  refine Ok.of (by decide) (Nat.le_of_ble_eq_true rfl) [some (.ref 33), none] rfl ?_
  refine g_iconst (nI 2) dX6_firstOff_0 rfl ?_
  refine g_istore_n [some (.ref 33), some (.int (nI 2))] dX6_firstOff_1 rfl (Nat.le_of_ble_eq_true rfl) rfl rfl ?_
  exact d_firstOff_l hn h60 _ (n + 1) 2 (by omega) (by omega) rfl
theorem d_shadow_no (μ : Mm) (a : Int32) {n : Nat} (hn : μ.1 33 0 = nI n) (h : ¬ (0 ≤ a.toInt ∧ a.toInt < (nI n).toInt)) : Ok mX6_shadow (rmL 1) [.ref 33, .int a] μ (some (.int (nI 0)), sI (sI μ 33 14 0) 33 14 (nI 1)) := by
  refine Ok.of (by decide) (Nat.le_of_ble_eq_true rfl) [some (.ref 33), some (.int a)] rfl ?_
  refine g_aload_n 0 _ dX6_shadow_0 rfl rfl ?_
  refine g_backv (g_runV (d_start μ) rfl mw_X6_start mi_X6_start ml_X6_68 isO_33 ⟨rfl, rfl, Nat.le_of_ble_eq_true rfl, Nat.le_of_ble_eq_true rfl⟩ rfl rfl (Nat.le_of_ble_eq_true rfl) dX6_shadow_1) ?_
  refine g_mem (μ' := sI μ 33 14 0) rfl ?_
  refine g_aload_n 0 _ dX6_shadow_4 rfl rfl ?_
  refine g_iload_n 1 _ dX6_shadow_5 rfl rfl ?_
  refine g_backi (g_runV (d_isPlace (sI μ 33 14 0) a (n := n) hn) rfl mw_X6_isPlace mi_X6_isPlace ml_X6_94 isO_33 ⟨rfl, rfl, Nat.le_of_ble_eq_true rfl, Nat.le_of_ble_eq_true rfl⟩ rfl rfl (Nat.le_of_ble_eq_true rfl) dX6_shadow_6) ?_
  refine g_top (w := .int (bI (¬ a < 0 ∧ a < nI n))) rfl ?_
  refine g_if_neB 20 dX6_shadow_9 (by decide) (fun h9 => ?_) (fun h9 => ?_)
  · exfalso; simp only [ne_eq, fa_lt, fa_le, fa_eq, t0, t1, t2, tm1, nt0, nt1, nt2, nt3, nt4, nt5, nt7, nt9, nt10, nt13, nt14, nt30, nt32, nt59, nt60, nt200, nt1000, nt1000000, nt1073741824] at *; omega
  · refine g_aload_n 0 _ dX6_shadow_12 rfl rfl ?_
    refine g_iconst (nI 1) dX6_shadow_13 rfl ?_
    refine g_backi (g_runV (d_no (sI μ 33 14 0) (nI 1)) rfl mw_X6_no mi_X6_no ml_X6_79 isO_33 ⟨rfl, rfl, Nat.le_of_ble_eq_true rfl, Nat.le_of_ble_eq_true rfl⟩ rfl rfl (Nat.le_of_ble_eq_true rfl) dX6_shadow_14) ?_
    refine g_mem (μ' := sI (sI μ 33 14 0) 33 14 (nI 1)) rfl ?_
    refine g_top (w := .int (-1)) rfl ?_
    refine g_pop dX6_shadow_17 rfl ?_
    refine g_iconst (nI 0) dX6_shadow_18 rfl ?_
    exact g_ireturn dX6_shadow_19 rfl rfl rfl
theorem d_shadow_ok (μ : Mm) {j n : Nat} (hn : μ.1 33 0 = nI n) (h60 : n ≤ 60) (hj : j < n) : Ok mX6_shadow (rmL 1) [.ref 33, .int (nI j)] μ (some (.int (thr (μ.1 34) (μ.1 35) n j n)), sI μ 33 14 0) := by
  refine Ok.of (by decide) (Nat.le_of_ble_eq_true rfl) [some (.ref 33), some (.int (nI j))] rfl ?_
  refine g_aload_n 0 _ dX6_shadow_0 rfl rfl ?_
  refine g_backv (g_runV (d_start μ) rfl mw_X6_start mi_X6_start ml_X6_68 isO_33 ⟨rfl, rfl, Nat.le_of_ble_eq_true rfl, Nat.le_of_ble_eq_true rfl⟩ rfl rfl (Nat.le_of_ble_eq_true rfl) dX6_shadow_1) ?_
  refine g_mem (μ' := sI μ 33 14 0) rfl ?_
  refine g_aload_n 0 _ dX6_shadow_4 rfl rfl ?_
  refine g_iload_n 1 _ dX6_shadow_5 rfl rfl ?_
  refine g_backi (g_runV ((d_isPlace (sI μ 33 14 0) (nI j) (n := n) hn).to (by rw [bI_t ⟨nI_pos (by omega), nI_lt hj (by omega)⟩])) rfl mw_X6_isPlace mi_X6_isPlace ml_X6_94 isO_33 ⟨rfl, rfl, Nat.le_of_ble_eq_true rfl, Nat.le_of_ble_eq_true rfl⟩ rfl rfl (Nat.le_of_ble_eq_true rfl) dX6_shadow_6) ?_
  refine g_top (w := .int 1) rfl ?_
  refine g_if_ne 20 dX6_shadow_9 (by decide) (fun h9 => ?_) (fun h9 => ?_)
  · refine g_aload_n 0 _ dX6_shadow_20 rfl rfl ?_
    refine g_iload_n 1 _ dX6_shadow_21 rfl rfl ?_
    refine g_backi (g_runV (d_shadowAt (sI μ 33 14 0) (n := n) hn h60 hj) rfl mw_X6_shadowAt mi_X6_shadowAt ml_X6_107 isO_33 ⟨rfl, rfl, Nat.le_of_ble_eq_true rfl, Nat.le_of_ble_eq_true rfl⟩ rfl rfl (Nat.le_of_ble_eq_true rfl) dX6_shadow_22) ?_
    refine g_top (w := .int (thr (μ.1 34) (μ.1 35) n j n)) rfl ?_
    exact g_ireturn dX6_shadow_25 rfl rfl rfl
  · exact absurd h9 (by decide)
theorem d_meets_no (μ : Mm) (a : Int32) {n : Nat} (hn : μ.1 33 0 = nI n) (h : ¬ (0 ≤ a.toInt ∧ a.toInt < (nI n).toInt)) : Ok mX6_meets (rmL 1) [.ref 33, .int a] μ (some (.int (nI 0)), sI (sI μ 33 14 0) 33 14 (nI 1)) := by
  refine Ok.of (by decide) (Nat.le_of_ble_eq_true rfl) [some (.ref 33), some (.int a)] rfl ?_
  refine g_aload_n 0 _ dX6_meets_0 rfl rfl ?_
  refine g_backv (g_runV (d_start μ) rfl mw_X6_start mi_X6_start ml_X6_68 isO_33 ⟨rfl, rfl, Nat.le_of_ble_eq_true rfl, Nat.le_of_ble_eq_true rfl⟩ rfl rfl (Nat.le_of_ble_eq_true rfl) dX6_meets_1) ?_
  refine g_mem (μ' := sI μ 33 14 0) rfl ?_
  refine g_iload_n 1 _ dX6_meets_4 rfl rfl ?_
  refine g_if_lt 16 dX6_meets_5 (by decide) (fun h5 => ?_) (fun h5 => ?_)
  · refine g_aload_n 0 _ dX6_meets_16 rfl rfl ?_
    refine g_iconst (nI 1) dX6_meets_17 rfl ?_
    refine g_backi (g_runV (d_no (sI μ 33 14 0) (nI 1)) rfl mw_X6_no mi_X6_no ml_X6_79 isO_33 ⟨rfl, rfl, Nat.le_of_ble_eq_true rfl, Nat.le_of_ble_eq_true rfl⟩ rfl rfl (Nat.le_of_ble_eq_true rfl) dX6_meets_18) ?_
    refine g_mem (μ' := sI (sI μ 33 14 0) 33 14 (nI 1)) rfl ?_
    refine g_top (w := .int (-1)) rfl ?_
    refine g_pop dX6_meets_21 rfl ?_
    refine g_iconst (nI 0) dX6_meets_22 rfl ?_
    exact g_ireturn dX6_meets_23 rfl rfl rfl
  · refine g_iload_n 1 _ dX6_meets_8 rfl rfl ?_
    refine g_aload_n 0 _ dX6_meets_9 rfl rfl ?_
    refine gf_X6_7 rfl dX6_meets_10 ?_
    refine g_top (w := .int (nI n)) (congrArg Value.int hn) ?_
    refine g_icmp_lt 24 dX6_meets_13 (by decide) (fun h13 => ?_) (fun h13 => ?_)
    · exfalso; simp only [ne_eq, fa_lt, fa_le, fa_eq, t0, t1, t2, tm1, nt0, nt1, nt2, nt3, nt4, nt5, nt7, nt9, nt10, nt13, nt14, nt30, nt32, nt59, nt60, nt200, nt1000, nt1000000, nt1073741824] at *; omega
    · refine g_aload_n 0 _ dX6_meets_16 rfl rfl ?_
      refine g_iconst (nI 1) dX6_meets_17 rfl ?_
      refine g_backi (g_runV (d_no (sI μ 33 14 0) (nI 1)) rfl mw_X6_no mi_X6_no ml_X6_79 isO_33 ⟨rfl, rfl, Nat.le_of_ble_eq_true rfl, Nat.le_of_ble_eq_true rfl⟩ rfl rfl (Nat.le_of_ble_eq_true rfl) dX6_meets_18) ?_
      refine g_mem (μ' := sI (sI μ 33 14 0) 33 14 (nI 1)) rfl ?_
      refine g_top (w := .int (-1)) rfl ?_
      refine g_pop dX6_meets_21 rfl ?_
      refine g_iconst (nI 0) dX6_meets_22 rfl ?_
      exact g_ireturn dX6_meets_23 rfl rfl rfl
theorem d_meets_ok (μ : Mm) {j n : Nat} (hn : μ.1 33 0 = nI n) (h60 : n ≤ 60) (hj : j < n) : Ok mX6_meets (rmL 1) [.ref 33, .int (nI j)] μ (some (.int (thr (μ.1 34) (μ.1 34) n j n)), sI μ 33 14 0) := by
  refine Ok.of (by decide) (Nat.le_of_ble_eq_true rfl) [some (.ref 33), some (.int (nI j))] rfl ?_
  refine g_aload_n 0 _ dX6_meets_0 rfl rfl ?_
  refine g_backv (g_runV (d_start μ) rfl mw_X6_start mi_X6_start ml_X6_68 isO_33 ⟨rfl, rfl, Nat.le_of_ble_eq_true rfl, Nat.le_of_ble_eq_true rfl⟩ rfl rfl (Nat.le_of_ble_eq_true rfl) dX6_meets_1) ?_
  refine g_mem (μ' := sI μ 33 14 0) rfl ?_
  refine g_iload_n 1 _ dX6_meets_4 rfl rfl ?_
  refine g_if_ltN 16 (by omega) dX6_meets_5 (by decide) ?_
  refine g_iload_n 1 _ dX6_meets_8 rfl rfl ?_
  refine g_aload_n 0 _ dX6_meets_9 rfl rfl ?_
  refine gf_X6_7 rfl dX6_meets_10 ?_
  refine g_top (w := .int (nI n)) (congrArg Value.int hn) ?_
  refine g_at 13 rfl ?_
  refine g_icmp_ltN 24 (by omega) (by omega) dX6_meets_13 (by decide) (fun h13 => ?_) (fun h13 => ?_)
  · refine g_aload_n 0 _ dX6_meets_24 rfl rfl ?_
    refine g_iload_n 1 _ dX6_meets_25 rfl rfl ?_
    refine g_backi (g_runV (d_meetsAt (sI μ 33 14 0) (n := n) hn h60 hj) rfl mw_X6_meetsAt mi_X6_meetsAt ml_X6_97 isO_33 ⟨rfl, rfl, Nat.le_of_ble_eq_true rfl, Nat.le_of_ble_eq_true rfl⟩ rfl rfl (Nat.le_of_ble_eq_true rfl) dX6_meets_26) ?_
    refine g_top (w := .int (thr (μ.1 34) (μ.1 34) n j n)) rfl ?_
    exact g_ireturn dX6_meets_29 rfl rfl rfl
  · exact absurd h13 (by omega)
theorem d_off (μ : Mm) {n : Nat} (hn : μ.1 33 0 = nI n) (h60 : n ≤ 60) : Ok mX6_off (rmL 2) [.ref 33] μ (some (.int (offF (μ.1 34) n)), sI μ 33 14 0) := by
  refine Ok.of (by decide) (Nat.le_of_ble_eq_true rfl) [some (.ref 33)] rfl ?_
  refine g_aload_n 0 _ dX6_off_0 rfl rfl ?_
  refine g_backv (g_runV (d_start μ) rfl mw_X6_start mi_X6_start ml_X6_68 isO_33 ⟨rfl, rfl, Nat.le_of_ble_eq_true rfl, Nat.le_of_ble_eq_true rfl⟩ rfl rfl (Nat.le_of_ble_eq_true rfl) dX6_off_1) ?_
  refine g_mem (μ' := sI μ 33 14 0) rfl ?_
  refine g_aload_n 0 _ dX6_off_4 rfl rfl ?_
  refine g_backi (g_runV (d_firstOff (sI μ 33 14 0) (n := n) hn h60) rfl mw_X6_firstOff mi_X6_firstOff ml_X6_100 isO_33 ⟨rfl, rfl, Nat.le_of_ble_eq_true rfl, Nat.le_of_ble_eq_true rfl⟩ rfl rfl (Nat.le_of_ble_eq_true rfl) dX6_off_5) ?_
  refine g_top (w := .int (offF (μ.1 34) n)) rfl ?_
  exact g_ireturn dX6_off_8 rfl rfl rfl
theorem d_cast_l {μ : Mm} {n : Nat} (hn : μ.1 33 0 = nI n) (h60 : n ≤ 60) : ∀ (m i : Nat), i ≤ n → n < i + m → G mX6_cast (rmL 1) (some (.int (nI 1)), ptM μ 2 (fun s => thr (μ.1 34) (μ.1 35) n s n) n) (ptM μ 2 (fun s => thr (μ.1 34) (μ.1 35) n s n) i) 6 [some (.ref 33), some (.int (nI i))] [] := by
  intro m
  induction m with
  | zero => exact fun i h1 h2 => absurd h2 (by omega)
  | succ m ih =>
    intro i h1 h2
    have e1 : (ptM μ 2 (fun s => thr (μ.1 34) (μ.1 35) n s n) i).1 33 0 = nI n := by rw [ptM_n]; exact hn
    refine g_iload_n 1 _ dX6_cast_6 rfl rfl ?_
    refine g_aload_n 0 _ dX6_cast_7 rfl rfl ?_
    refine gf_X6_7 rfl dX6_cast_8 ?_
    refine g_top (w := .int (nI n)) (congrArg Value.int e1) ?_
    refine g_icmp_geN 31 (by omega) (by omega) dX6_cast_11 (by decide) (fun h11 => ?_) (fun h11 => ?_)
    · refine g_iconst (nI 1) dX6_cast_31 rfl ?_
      exact g_ireturn dX6_cast_32 rfl rfl (by rw [show i = n by omega])
    · refine g_aload_n 0 _ dX6_cast_14 rfl rfl ?_
      refine g_iconst (nI 2) dX6_cast_15 rfl ?_
      refine g_iload_n 1 _ dX6_cast_16 rfl rfl ?_
      refine g_aload_n 0 _ dX6_cast_17 rfl rfl ?_
      refine g_iload_n 1 _ dX6_cast_18 rfl rfl ?_
      refine g_backi (g_runV (d_shadowAt (ptM μ 2 (fun s => thr (μ.1 34) (μ.1 35) n s n) i) (s := i) (n := n) e1 h60 (by omega)) rfl mw_X6_shadowAt mi_X6_shadowAt ml_X6_107 isO_33 ⟨rfl, rfl, Nat.le_of_ble_eq_true rfl, Nat.le_of_ble_eq_true rfl⟩ rfl rfl (Nat.le_of_ble_eq_true rfl) dX6_cast_19) ?_
      refine g_top (w := .int (thr (μ.1 34) (μ.1 35) n i n)) rfl ?_
      refine g_backv (g_runV (d_put (w := 2) _ (thr (μ.1 34) (μ.1 35) n i n) (by decide) (show i < 60 by omega)) rfl mw_X6_put mi_X6_put ml_X6_90 isO_33 ⟨rfl, rfl, Nat.le_of_ble_eq_true rfl, Nat.le_of_ble_eq_true rfl⟩ rfl rfl (Nat.le_of_ble_eq_true rfl) dX6_cast_22) ?_
      refine g_mem (μ' := putN (ptM μ 2 (fun s => thr (μ.1 34) (μ.1 35) n s n) i) 2 i (thr (μ.1 34) (μ.1 35) n i n)) rfl ?_
      refine g_mem (μ' := ptM μ 2 (fun s => thr (μ.1 34) (μ.1 35) n s n) (i + 1)) (ptM_put μ (fun s => thr (μ.1 34) (μ.1 35) n s n) i (by decide)) ?_
      refine g_at 25 rfl ?_
      refine g_iincN [some (.ref 33), some (.int (nI (i + 1)))] dX6_cast_25 rfl (Nat.le_of_ble_eq_true rfl) rfl rfl ?_
      refine g_goto 6 dX6_cast_28 (by decide) ?_
      exact ih (i + 1) (by omega) (by omega)
theorem d_cast (μ : Mm) {n : Nat} (hn : μ.1 33 0 = nI n) (h60 : n ≤ 60) : Ok mX6_cast (rmL 1) [.ref 33] μ (some (.int (nI 1)), ptM (sI μ 33 14 0) 2 (fun s => thr (μ.1 34) (μ.1 35) n s n) n) := by
  refine Ok.of (by decide) (Nat.le_of_ble_eq_true rfl) [some (.ref 33), none] rfl ?_
  refine g_aload_n 0 _ dX6_cast_0 rfl rfl ?_
  refine g_backv (g_runV (d_start μ) rfl mw_X6_start mi_X6_start ml_X6_68 isO_33 ⟨rfl, rfl, Nat.le_of_ble_eq_true rfl, Nat.le_of_ble_eq_true rfl⟩ rfl rfl (Nat.le_of_ble_eq_true rfl) dX6_cast_1) ?_
  refine g_mem (μ' := sI μ 33 14 0) rfl ?_
  refine g_iconst (nI 0) dX6_cast_4 rfl ?_
  refine g_istore_n [some (.ref 33), some (.int (nI 0))] dX6_cast_5 rfl (Nat.le_of_ble_eq_true rfl) rfl rfl ?_
  have h := d_cast_l (μ := sI μ 33 14 0) hn h60 (n + 1) 0 (by omega) (by omega); rw [ptM_0] at h; exact h
