/-! HoleMask$Circle, Arrays.fill, Math.floorMod -/
abbrev rmL (d : Nat) : Room := rmd d (32 * d)
theorem c_isRow (μ : Mm) (i : Int32) : Ok mX1_isRow (rmL 0) [.int i] μ (some (.int (bI (¬ i < 0 ∧ i ≤ nI 2))), μ) := by
  refine Ok.of (by decide) (Nat.le_of_ble_eq_true rfl) [some (.int i)] rfl ?_
  refine g_iload_n 0 _ dX1_isRow_0 rfl rfl ?_
  refine g_if_lt 13 dX1_isRow_1 (by decide) (fun h1 => ?_) (fun h1 => ?_)
  · refine g_iconst (nI 0) dX1_isRow_13 rfl ?_
    exact g_ireturn dX1_isRow_14 rfl rfl (by (try unfold bI); (repeat' split) <;> first | rfl | (exfalso; simp only [fa_lt, fa_le, fa_eq, t0, t1, t2, tm1] at *; omega))
  · refine g_iload_n 0 _ dX1_isRow_4 rfl rfl ?_
    refine g_iconst (nI 2) dX1_isRow_5 rfl ?_
    refine g_icmp_gt 13 dX1_isRow_6 (by decide) (fun h6 => ?_) (fun h6 => ?_)
    · refine g_iconst (nI 0) dX1_isRow_13 rfl ?_
      exact g_ireturn dX1_isRow_14 rfl rfl (by (try unfold bI); (repeat' split) <;> first | rfl | (exfalso; simp only [fa_lt, fa_le, fa_eq, t0, t1, t2, tm1] at *; omega))
    · refine g_iconst (nI 1) dX1_isRow_9 rfl ?_
      refine g_goto 14 dX1_isRow_10 (by decide) ?_
      exact g_ireturn dX1_isRow_14 rfl rfl (by (try unfold bI); (repeat' split) <;> first | rfl | (exfalso; simp only [fa_lt, fa_le, fa_eq, t0, t1, t2, tm1] at *; omega))
theorem c_fits (μ : Mm) {w : Nat} (v : Int32) (hw : w < 3) : Ok mX1_fits (rmL 0) [.int (nI w), .int v] μ (some (.int (bI (-(limF w) ≤ v ∧ v ≤ limF w))), μ) := by
  refine Ok.of (by decide) (Nat.le_of_ble_eq_true rfl) [some (.int (nI w)), some (.int v)] rfl ?_
  refine g_iload_n 1 _ dX1_fits_0 rfl rfl ?_
  refine g_limits rfl dX1_fits_1 ?_
  refine g_iload_n 0 _ dX1_fits_4 rfl rfl ?_
  refine g_limload (j := w) (rfl) (by omega) dX1_fits_5 ?_
  refine g_ineg dX1_fits_6 ?_
  refine g_icmp_lt 23 dX1_fits_7 (by decide) (fun h7 => ?_) (fun h7 => ?_)
  · refine g_iconst (nI 0) dX1_fits_23 rfl ?_
    exact g_ireturn dX1_fits_24 rfl rfl (by (try unfold bI); (repeat' split) <;> first | rfl | (exfalso; simp only [fa_lt, fa_le, fa_eq, t0, t1, t2, tm1] at *; omega))
  · refine g_iload_n 1 _ dX1_fits_10 rfl rfl ?_
    refine g_limits rfl dX1_fits_11 ?_
    refine g_iload_n 0 _ dX1_fits_14 rfl rfl ?_
    refine g_limload (j := w) (rfl) (by omega) dX1_fits_15 ?_
    refine g_icmp_gt 23 dX1_fits_16 (by decide) (fun h16 => ?_) (fun h16 => ?_)
    · refine g_iconst (nI 0) dX1_fits_23 rfl ?_
      exact g_ireturn dX1_fits_24 rfl rfl (by (try unfold bI); (repeat' split) <;> first | rfl | (exfalso; simp only [fa_lt, fa_le, fa_eq, t0, t1, t2, tm1] at *; omega))
    · refine g_iconst (nI 1) dX1_fits_19 rfl ?_
      refine g_goto 24 dX1_fits_20 (by decide) ?_
      exact g_ireturn dX1_fits_24 rfl rfl (by (try unfold bI); (repeat' split) <;> first | rfl | (exfalso; simp only [fa_lt, fa_le, fa_eq, t0, t1, t2, tm1] at *; omega))
theorem c_has (μ : Mm) (i : Int32) {n : Nat} (hn : μ.1 1 2 = nI n) : Ok mX1_has (rmL 0) [.ref 1, .int i] μ (some (.int (bI (¬ i < 0 ∧ i < nI n))), μ) := by
  refine Ok.of (by decide) (Nat.le_of_ble_eq_true rfl) [some (.ref 1), some (.int i)] rfl ?_
  refine g_iload_n 1 _ dX1_has_0 rfl rfl ?_
  refine g_if_lt 16 dX1_has_1 (by decide) (fun h1 => ?_) (fun h1 => ?_)
  · refine g_iconst (nI 0) dX1_has_16 rfl ?_
    exact g_ireturn dX1_has_17 rfl rfl (by (try unfold bI); (repeat' split) <;> first | rfl | (exfalso; simp only [fa_lt, fa_le, fa_eq, t0, t1, t2, tm1] at *; omega))
  · refine g_iload_n 1 _ dX1_has_4 rfl rfl ?_
    refine g_aload_n 0 _ dX1_has_5 rfl rfl ?_
    refine gf_X1_20 rfl dX1_has_6 ?_
    refine g_top (w := .int (nI n)) (congrArg Value.int hn) ?_
    refine g_icmp_ge 16 dX1_has_9 (by decide) (fun h9 => ?_) (fun h9 => ?_)
    · refine g_iconst (nI 0) dX1_has_16 rfl ?_
      exact g_ireturn dX1_has_17 rfl rfl (by (try unfold bI); (repeat' split) <;> first | rfl | (exfalso; simp only [fa_lt, fa_le, fa_eq, t0, t1, t2, tm1] at *; omega))
    · refine g_iconst (nI 1) dX1_has_12 rfl ?_
      refine g_goto 17 dX1_has_13 (by decide) ?_
      exact g_ireturn dX1_has_17 rfl rfl (by (try unfold bI); (repeat' split) <;> first | rfl | (exfalso; simp only [fa_lt, fa_le, fa_eq, t0, t1, t2, tm1] at *; omega))
theorem c_wrap (μ : Mm) (i : Int32) {n : Nat} (hn : μ.1 1 2 = nI n) : Ok mX1_wrap (rmL 0) [.ref 1, .int i] μ (some (.int (wrF n i)), μ) := by
  refine Ok.of (by decide) (Nat.le_of_ble_eq_true rfl) [some (.ref 1), some (.int i)] rfl ?_
  refine g_iload_n 1 _ dX1_wrap_0 rfl rfl ?_
  refine g_if_ge 13 dX1_wrap_1 (by decide) (fun h1 => ?_) (fun h1 => ?_)
  · refine g_iload_n 1 _ dX1_wrap_13 rfl rfl ?_
    refine g_aload_n 0 _ dX1_wrap_14 rfl rfl ?_
    refine gf_X1_20 rfl dX1_wrap_15 ?_
    refine g_top (w := .int (nI n)) (congrArg Value.int hn) ?_
    refine g_icmp_lt 30 dX1_wrap_18 (by decide) (fun h18 => ?_) (fun h18 => ?_)
    · refine g_iload_n 1 _ dX1_wrap_30 rfl rfl ?_
      exact g_ireturn dX1_wrap_31 rfl rfl (by (try unfold wrF); (try unfold bI); (repeat' split) <;> first | rfl | (exfalso; simp only [fa_lt, fa_le, fa_eq, t0, t1, t2, tm1] at *; omega))
    · refine g_iload_n 1 _ dX1_wrap_21 rfl rfl ?_
      refine g_aload_n 0 _ dX1_wrap_22 rfl rfl ?_
      refine gf_X1_20 rfl dX1_wrap_23 ?_
      refine g_top (w := .int (nI n)) (congrArg Value.int hn) ?_
      refine g_isub dX1_wrap_26 ?_
      refine g_goto 31 dX1_wrap_27 (by decide) ?_
      exact g_ireturn dX1_wrap_31 rfl rfl (by (try unfold wrF); (try unfold bI); (repeat' split) <;> first | rfl | (exfalso; simp only [fa_lt, fa_le, fa_eq, t0, t1, t2, tm1] at *; omega))
  · refine g_iload_n 1 _ dX1_wrap_4 rfl rfl ?_
    refine g_aload_n 0 _ dX1_wrap_5 rfl rfl ?_
    refine gf_X1_20 rfl dX1_wrap_6 ?_
    refine g_top (w := .int (nI n)) (congrArg Value.int hn) ?_
    refine g_iadd dX1_wrap_9 ?_
    refine g_goto 31 dX1_wrap_10 (by decide) ?_
    exact g_ireturn dX1_wrap_31 rfl rfl (by (try unfold wrF); (try unfold bI); (repeat' split) <;> first | rfl | (exfalso; simp only [fa_lt, fa_le, fa_eq, t0, t1, t2, tm1] at *; omega))
theorem c_get (μ : Mm) {w j : Nat} (hw : w < 3) (hj : j < 60) : Ok mX1_get (rmL 0) [.ref 1, .int (nI w), .int (nI j)] μ (some (.int (μ.1 (7 + w) j)), μ) := by
  refine Ok.of (by decide) (Nat.le_of_ble_eq_true rfl) [some (.ref 1), some (.int (nI w)), some (.int (nI j))] rfl ?_
  refine g_aload_n 0 _ dX1_get_0 rfl rfl ?_
  refine gf_X1_11 rfl dX1_get_1 ?_
  refine g_iload_n 1 _ dX1_get_4 rfl rfl ?_
  refine g_aaload (j := w) isQ_6 (Or.inl rfl) (rfl) (by omega) (by omega) dX1_get_5 ?_
  refine g_iload_n 2 _ dX1_get_6 rfl rfl ?_
  refine g_iaload (j := j) (isI_row (w := w) (by omega)) (rfl) (by omega) (by omega) dX1_get_7 ?_
  exact g_ireturn dX1_get_8 rfl rfl rfl
theorem c_put (μ : Mm) {w j : Nat} (v : Int32) (hw : w < 3) (hj : j < 60) : Ok mX1_put (rmL 0) [.ref 1, .int (nI w), .int (nI j), .int v] μ (none, sI μ (7 + w) j v) := by
  refine Ok.of (by decide) (Nat.le_of_ble_eq_true rfl) [some (.ref 1), some (.int (nI w)), some (.int (nI j)), some (.int v)] rfl ?_
  refine g_aload_n 0 _ dX1_put_0 rfl rfl ?_
  refine gf_X1_11 rfl dX1_put_1 ?_
  refine g_iload_n 1 _ dX1_put_4 rfl rfl ?_
  refine g_aaload (j := w) isQ_6 (Or.inl rfl) (rfl) (by omega) (by omega) dX1_put_5 ?_
  refine g_iload_n 2 _ dX1_put_6 rfl rfl ?_
  refine g_iload_n 3 _ dX1_put_7 rfl rfl ?_
  refine g_iastore (j := j) (isI_row (w := w) (by omega)) (rfl) (by omega) (by omega) dX1_put_8 ?_
  refine g_at 9 rfl ?_
  exact g_return dX1_put_9 rfl rfl
/-! Arrays.fill -/
theorem l_fill {μ : Mm} {k n : Nat} {v : Int32} (hk : isI k n) (hb : n ≤ 1024) : ∀ (m i : Nat), i ≤ n → n < i + m → G mJ7_fill_53178 (rmL 0) (none, sR μ k (fil (μ.1 k) (fun _ => v) n)) (sR μ k (fil (μ.1 k) (fun _ => v) i)) 5 [some (.ref k), some (.int v), some (.int (nI i)), some (.int (nI n))] [] := by
  intro m
  induction m with
  | zero => exact fun i h1 h2 => absurd h2 (by omega)
  | succ m ih =>
    intro i h1 h2
    refine g_iload_n 2 _ dJ7_fill_53178_5 rfl rfl ?_
    refine g_iload_n 3 _ dJ7_fill_53178_6 rfl rfl ?_
    refine g_icmp_geN 20 (by omega) (by omega) dJ7_fill_53178_7 (by decide) (fun h7 => ?_) (fun h7 => ?_)
    · exact g_return dJ7_fill_53178_20 rfl (by rw [show i = n by omega])
    · refine g_aload_n 0 _ dJ7_fill_53178_10 rfl rfl ?_
      refine g_iload_n 2 _ dJ7_fill_53178_11 rfl rfl ?_
      refine g_iload_n 1 _ dJ7_fill_53178_12 rfl rfl ?_
      refine g_iastore (j := i) (hk) (rfl) (by omega) (by omega) dJ7_fill_53178_13 ?_
      refine g_mem (sR_fil μ k i _ (fun _ => v) rfl) ?_
      refine g_iincN [some (.ref k), some (.int v), some (.int (nI (i + 1))), some (.int (nI n))] dJ7_fill_53178_14 rfl (Nat.le_of_ble_eq_true rfl) rfl rfl ?_
      refine g_goto 5 dJ7_fill_53178_17 (by decide) ?_
      exact ih (i + 1) (by omega) (by omega)
theorem c_fill (μ : Mm) {k n : Nat} (v : Int32) (hk : isI k n) (hb : n ≤ 1024) : Ok mJ7_fill_53178 (rmL 0) [.ref k, .int v] μ (none, sR μ k (fil (μ.1 k) (fun _ => v) n)) := by
  refine Ok.of (by decide) (Nat.le_of_ble_eq_true rfl) [some (.ref k), some (.int v), none, none] rfl ?_
  refine g_iconst (nI 0) dJ7_fill_53178_0 rfl ?_
  refine g_istore_n [some (.ref k), some (.int v), some (.int (nI 0)), none] dJ7_fill_53178_1 rfl (Nat.le_of_ble_eq_true rfl) rfl rfl ?_
  refine g_aload_n 0 _ dJ7_fill_53178_2 rfl rfl ?_
  refine g_alen (v := nI n) hk rfl dJ7_fill_53178_3 ?_
  refine g_istore_n [some (.ref k), some (.int v), some (.int (nI 0)), some (.int (nI n))] dJ7_fill_53178_4 rfl (Nat.le_of_ble_eq_true rfl) rfl rfl ?_
  have h := l_fill (μ := μ) (v := v) hk hb (n + 1) 0 (by omega) (by omega)
  rw [fil_0, sR_id] at h
  exact h
/-- all three rows of the ring begin anew -/
def stM (μ : Mm) (p : Int32) : Mm := sR (sR (sR (sI μ 1 2 p) 7 (fil (μ.1 7) (fun _ => 0) 60)) 8 (fil (μ.1 8) (fun _ => 0) 60)) 9 (fil (μ.1 9) (fun _ => 0) 60)
theorem c_start (μ : Mm) (p : Int32) : Ok mX1_start (rmL 1) [.ref 1, .int p] μ (none, stM μ p) := by
  refine Ok.of (by decide) (Nat.le_of_ble_eq_true rfl) [some (.ref 1), some (.int p), none] rfl ?_
  refine g_aload_n 0 _ dX1_start_0 rfl rfl ?_
  refine g_iload_n 1 _ dX1_start_1 rfl rfl ?_
  refine gp_X1_20 rfl dX1_start_2 ?_
  refine g_iconst (nI 0) dX1_start_5 rfl ?_
  refine g_istore_n [some (.ref 1), some (.int p), some (.int (nI 0))] dX1_start_6 rfl (Nat.le_of_ble_eq_true rfl) rfl rfl ?_
  refine g_iload_n 2 _ dX1_start_7 rfl rfl ?_
  refine g_iconst (nI 2) dX1_start_8 rfl ?_
  refine g_at 9 rfl ?_
  refine g_icmp_gtN 28 (by omega) (by omega) dX1_start_9 (by decide) (fun h9 => ?_) (fun h9 => ?_)
  · exact absurd h9 (by omega)
  · refine g_aload_n 0 _ dX1_start_12 rfl rfl ?_
    refine gf_X1_11 rfl dX1_start_13 ?_
    refine g_iload_n 2 _ dX1_start_16 rfl rfl ?_
    refine g_aaload (j := 0) isQ_6 (Or.inl rfl) (rfl) (by omega) (by omega) dX1_start_17 ?_
    refine g_iconst (nI 0) dX1_start_18 rfl ?_
    refine g_backv (g_runS (c_fill (sI μ 1 2 p) _ (isI_row (w := 0) (by decide)) (by decide)) rfl mw_J7_fill_53178 ms_J7_fill_53178 ml_X1_27 ⟨rfl, rfl, Nat.le_of_ble_eq_true rfl, Nat.le_of_ble_eq_true rfl⟩ rfl rfl (Nat.le_of_ble_eq_true rfl) dX1_start_19) ?_
    refine g_iincN [some (.ref 1), some (.int p), some (.int (nI 1))] dX1_start_22 rfl (Nat.le_of_ble_eq_true rfl) rfl rfl ?_
    refine g_at 25 rfl ?_
    refine g_goto 7 dX1_start_25 (by decide) ?_
    refine g_iload_n 2 _ dX1_start_7 rfl rfl ?_
    refine g_iconst (nI 2) dX1_start_8 rfl ?_
    refine g_icmp_gtN 28 (by omega) (by omega) dX1_start_9 (by decide) (fun h9 => ?_) (fun h9 => ?_)
    · exact absurd h9 (by omega)
    · refine g_aload_n 0 _ dX1_start_12 rfl rfl ?_
      refine gf_X1_11 rfl dX1_start_13 ?_
      refine g_iload_n 2 _ dX1_start_16 rfl rfl ?_
      refine g_aaload (j := 1) isQ_6 (Or.inl rfl) (rfl) (by omega) (by omega) dX1_start_17 ?_
      refine g_iconst (nI 0) dX1_start_18 rfl ?_
      refine g_backv (g_runS (c_fill (sR (sI μ 1 2 p) 7 (fil ((sI μ 1 2 p).1 7) (fun _ => 0) 60)) _ (isI_row (w := 1) (by decide)) (by decide)) rfl mw_J7_fill_53178 ms_J7_fill_53178 ml_X1_27 ⟨rfl, rfl, Nat.le_of_ble_eq_true rfl, Nat.le_of_ble_eq_true rfl⟩ rfl rfl (Nat.le_of_ble_eq_true rfl) dX1_start_19) ?_
      refine g_iincN [some (.ref 1), some (.int p), some (.int (nI 2))] dX1_start_22 rfl (Nat.le_of_ble_eq_true rfl) rfl rfl ?_
      refine g_at 25 rfl ?_
      refine g_goto 7 dX1_start_25 (by decide) ?_
      refine g_iload_n 2 _ dX1_start_7 rfl rfl ?_
      refine g_iconst (nI 2) dX1_start_8 rfl ?_
      refine g_icmp_gtN 28 (by omega) (by omega) dX1_start_9 (by decide) (fun h9 => ?_) (fun h9 => ?_)
      · exact absurd h9 (by omega)
      · refine g_aload_n 0 _ dX1_start_12 rfl rfl ?_
        refine gf_X1_11 rfl dX1_start_13 ?_
        refine g_iload_n 2 _ dX1_start_16 rfl rfl ?_
        refine g_aaload (j := 2) isQ_6 (Or.inl rfl) (rfl) (by omega) (by omega) dX1_start_17 ?_
        refine g_iconst (nI 0) dX1_start_18 rfl ?_
        refine g_backv (g_runS (c_fill (sR (sR (sI μ 1 2 p) 7 (fil ((sI μ 1 2 p).1 7) (fun _ => 0) 60)) 8 (fil ((sR (sI μ 1 2 p) 7 (fil ((sI μ 1 2 p).1 7) (fun _ => 0) 60)).1 8) (fun _ => 0) 60)) _ (isI_row (w := 2) (by decide)) (by decide)) rfl mw_J7_fill_53178 ms_J7_fill_53178 ml_X1_27 ⟨rfl, rfl, Nat.le_of_ble_eq_true rfl, Nat.le_of_ble_eq_true rfl⟩ rfl rfl (Nat.le_of_ble_eq_true rfl) dX1_start_19) ?_
        refine g_iincN [some (.ref 1), some (.int p), some (.int (nI 3))] dX1_start_22 rfl (Nat.le_of_ble_eq_true rfl) rfl rfl ?_
        refine g_at 25 rfl ?_
        refine g_goto 7 dX1_start_25 (by decide) ?_
        refine g_iload_n 2 _ dX1_start_7 rfl rfl ?_
        refine g_iconst (nI 2) dX1_start_8 rfl ?_
        refine g_icmp_gtN 28 (by omega) (by omega) dX1_start_9 (by decide) (fun h9 => ?_) (fun h9 => ?_)
        · exact g_return dX1_start_28 rfl rfl
        · exact absurd h9 (by omega)
theorem c_tally_l {μ : Mm} {w n : Nat} {v : Int32} (hn : μ.1 1 2 = nI n) (h60 : n ≤ 60) (hw : w < 3) : ∀ (m i c : Nat), i ≤ n → n < i + m → c = fa_cnt (fun i => decide (μ.1 (7 + w) i = v)) i → G mX1_tally (rmL 0) (some (.int (nI (fa_cnt (fun i => decide (μ.1 (7 + w) i = v)) n))), μ) μ 5 [some (.ref 1), some (.int (nI w)), some (.int v), some (.int (nI c)), some (.int (nI i))] [] := by
  intro m
  induction m with
  | zero => exact fun i c h1 h2 => absurd h2 (by omega)
  | succ m ih =>
    intro i c h1 h2 hc
    refine g_iload _ dX1_tally_5 rfl ?_
    refine g_aload_n 0 _ dX1_tally_7 rfl rfl ?_
    refine gf_X1_20 rfl dX1_tally_8 ?_
    refine g_top (w := .int (nI n)) (congrArg Value.int hn) ?_
    refine g_icmp_geN 36 (by omega) (by omega) dX1_tally_11 (by decide) (fun h11 => ?_) (fun h11 => ?_)
    · refine g_iload_n 3 _ dX1_tally_36 rfl rfl ?_
      exact g_ireturn dX1_tally_37 rfl rfl (by rw [hc, show i = n by omega])
    · refine g_aload_n 0 _ dX1_tally_14 rfl rfl ?_
      refine gf_X1_11 rfl dX1_tally_15 ?_
      refine g_iload_n 1 _ dX1_tally_18 rfl rfl ?_
      refine g_aaload (j := w) isQ_6 (Or.inl rfl) (rfl) (by omega) (by omega) dX1_tally_19 ?_
      refine g_iload _ dX1_tally_20 rfl ?_
      refine g_iaload (j := i) (isI_row (w := w) (by omega)) (rfl) (by omega) (by omega) dX1_tally_22 ?_
      refine g_iload_n 2 _ dX1_tally_23 rfl rfl ?_
      refine g_at 24 rfl ?_
      refine g_icmp_ne 30 dX1_tally_24 (by decide) (fun h24 => ?_) (fun h24 => ?_)
      · refine g_iincN [some (.ref 1), some (.int (nI w)), some (.int v), some (.int (nI c)), some (.int (nI (i + 1)))] dX1_tally_30 rfl (Nat.le_of_ble_eq_true rfl) rfl rfl ?_
        refine g_goto 5 dX1_tally_33 (by decide) ?_
        exact ih (i + 1) _ (by omega) (by omega) (by simp_all [fa_cnt])
      · refine g_iincN [some (.ref 1), some (.int (nI w)), some (.int v), some (.int (nI (c + 1))), some (.int (nI i))] dX1_tally_27 rfl (Nat.le_of_ble_eq_true rfl) rfl rfl ?_
        refine g_iincN [some (.ref 1), some (.int (nI w)), some (.int v), some (.int (nI (c + 1))), some (.int (nI (i + 1)))] dX1_tally_30 rfl (Nat.le_of_ble_eq_true rfl) rfl rfl ?_
        refine g_goto 5 dX1_tally_33 (by decide) ?_
        exact ih (i + 1) _ (by omega) (by omega) (by simp_all [fa_cnt])
theorem c_tally (μ : Mm) {w n : Nat} (v : Int32) (hn : μ.1 1 2 = nI n) (h60 : n ≤ 60) (hw : w < 3) : Ok mX1_tally (rmL 0) [.ref 1, .int (nI w), .int v] μ (some (.int (nI (fa_cnt (fun i => decide (μ.1 (7 + w) i = v)) n))), μ) := by
  refine Ok.of (by decide) (Nat.le_of_ble_eq_true rfl) [some (.ref 1), some (.int (nI w)), some (.int v), none, none] rfl ?_
  refine g_iconst (nI 0) dX1_tally_0 rfl ?_
  refine g_istore_n [some (.ref 1), some (.int (nI w)), some (.int v), some (.int (nI 0)), none] dX1_tally_1 rfl (Nat.le_of_ble_eq_true rfl) rfl rfl ?_
  refine g_iconst (nI 0) dX1_tally_2 rfl ?_
  refine g_istore [some (.ref 1), some (.int (nI w)), some (.int v), some (.int (nI 0)), some (.int (nI 0))] dX1_tally_3 (Nat.le_of_ble_eq_true rfl) rfl rfl ?_
  exact c_tally_l hn h60 hw (n + 1) 0 0 (by omega) (by omega) rfl
theorem c_share (μ : Mm) {a s n : Nat} (hn : μ.1 1 2 = nI n) (h60 : n ≤ 60) (ha : a < n) (hs : s < n) : Ok mX1_share (rmL 1) [.ref 1, .int (nI a), .int (nI s)] μ (some (.int (μ.1 7 ((a + n - s) % n))), μ) := by
  have hm : (a + n - s) % n < n := Nat.mod_lt _ (by omega)
  refine Ok.of (by decide) (Nat.le_of_ble_eq_true rfl) [some (.ref 1), some (.int (nI a)), some (.int (nI s))] rfl ?_
  refine g_aload_n 0 _ dX1_share_0 rfl rfl ?_
  refine gf_X1_11 rfl dX1_share_1 ?_
  refine g_iconst (nI 0) dX1_share_4 rfl ?_
  refine g_aaload (j := 0) isQ_6 (Or.inl rfl) (rfl) (by omega) (by omega) dX1_share_5 ?_
  refine g_aload_n 0 _ dX1_share_6 rfl rfl ?_
  refine g_iload_n 1 _ dX1_share_7 rfl rfl ?_
  refine g_iload_n 2 _ dX1_share_8 rfl rfl ?_
  refine g_at 9 rfl ?_
  refine g_isub dX1_share_9 ?_
  refine g_backi (g_runV ((c_wrap μ _ hn).to (by rw [wrF_sub h60 ha hs])) rfl mw_X1_wrap mi_X1_wrap ml_X1_33 isO_1 ⟨rfl, rfl, Nat.le_of_ble_eq_true rfl, Nat.le_of_ble_eq_true rfl⟩ rfl rfl (Nat.le_of_ble_eq_true rfl) dX1_share_10) ?_
  refine g_iaload (j := (a + n - s) % n) (isI_row (w := 0) (by decide)) (rfl) (by omega) (by omega) dX1_share_13 ?_
  exact g_ireturn dX1_share_14 rfl rfl rfl
/-- what is seen through the mask -/
def thr (f g : Nat → Int32) (n s : Nat) : Nat → Int32 := smI (fun i => f i * g ((s + i) % n))
theorem c_thr_l {μ : Mm} {k s n : Nat} (hn : μ.1 1 2 = nI n) (h60 : n ≤ 60) (hs : s < n) (hk : isI k 60) : ∀ (m i : Nat) (c : Int32), i ≤ n → n < i + m → c = thr (μ.1 7) (μ.1 k) n s i → G mX1_throughMask (rmL 1) (some (.int (thr (μ.1 7) (μ.1 k) n s n)), μ) μ 5 [some (.ref 1), some (.ref k), some (.int (nI s)), some (.int c), some (.int (nI i))] [] := by
  intro m
  induction m with
  | zero => exact fun i c h1 h2 => absurd h2 (by omega)
  | succ m ih =>
    intro i c h1 h2 hc
    have hm : (s + i) % n < n := Nat.mod_lt _ (by omega)
    refine g_iload _ dX1_throughMask_5 rfl ?_
    refine g_aload_n 0 _ dX1_throughMask_7 rfl rfl ?_
    refine gf_X1_20 rfl dX1_throughMask_8 ?_
    refine g_top (w := .int (nI n)) (congrArg Value.int hn) ?_
    refine g_icmp_geN 43 (by omega) (by omega) dX1_throughMask_11 (by decide) (fun h11 => ?_) (fun h11 => ?_)
    · refine g_iload_n 3 _ dX1_throughMask_43 rfl rfl ?_
      exact g_ireturn dX1_throughMask_44 rfl rfl (by rw [hc, show i = n by omega])
    · refine g_iload_n 3 _ dX1_throughMask_14 rfl rfl ?_
      refine g_aload_n 0 _ dX1_throughMask_15 rfl rfl ?_
      refine gf_X1_11 rfl dX1_throughMask_16 ?_
      refine g_iconst (nI 0) dX1_throughMask_19 rfl ?_
      refine g_aaload (j := 0) isQ_6 (Or.inl rfl) (rfl) (by omega) (by omega) dX1_throughMask_20 ?_
      refine g_iload _ dX1_throughMask_21 rfl ?_
      refine g_iaload (j := i) (isI_row (w := 0) (by decide)) (rfl) (by omega) (by omega) dX1_throughMask_23 ?_
      refine g_at 24 rfl ?_
      refine g_aload_n 1 _ dX1_throughMask_24 rfl rfl ?_
      refine g_aload_n 0 _ dX1_throughMask_25 rfl rfl ?_
      refine g_iload_n 2 _ dX1_throughMask_26 rfl rfl ?_
      refine g_iload _ dX1_throughMask_27 rfl ?_
      refine g_iaddN dX1_throughMask_29 ?_
      refine g_backi (g_runV ((c_wrap μ _ hn).to (by rw [wrF_add h60 hs (by omega)])) rfl mw_X1_wrap mi_X1_wrap ml_X1_33 isO_1 ⟨rfl, rfl, Nat.le_of_ble_eq_true rfl, Nat.le_of_ble_eq_true rfl⟩ rfl rfl (Nat.le_of_ble_eq_true rfl) dX1_throughMask_30) ?_
      refine g_iaload (j := (s + i) % n) (hk) (rfl) (by omega) (by omega) dX1_throughMask_33 ?_
      refine g_imul dX1_throughMask_34 ?_
      refine g_at 35 rfl ?_
      refine g_iadd dX1_throughMask_35 ?_
      refine g_istore_n [some (.ref 1), some (.ref k), some (.int (nI s)), some (.int (c + ((μ.1 7 i) * (μ.1 k ((s + i) % n))))), some (.int (nI i))] dX1_throughMask_36 rfl (Nat.le_of_ble_eq_true rfl) rfl rfl ?_
      refine g_iincN [some (.ref 1), some (.ref k), some (.int (nI s)), some (.int (c + ((μ.1 7 i) * (μ.1 k ((s + i) % n))))), some (.int (nI (i + 1)))] dX1_throughMask_37 rfl (Nat.le_of_ble_eq_true rfl) rfl rfl ?_
      refine g_goto 5 dX1_throughMask_40 (by decide) ?_
      exact ih (i + 1) _ (by omega) (by omega) (by rw [hc]; rfl)
theorem c_thr (μ : Mm) {k s n : Nat} (hn : μ.1 1 2 = nI n) (h60 : n ≤ 60) (hs : s < n) (hk : isI k 60) : Ok mX1_throughMask (rmL 1) [.ref 1, .ref k, .int (nI s)] μ (some (.int (thr (μ.1 7) (μ.1 k) n s n)), μ) := by
  refine Ok.of (by decide) (Nat.le_of_ble_eq_true rfl) [some (.ref 1), some (.ref k), some (.int (nI s)), none, none] rfl ?_
  refine g_iconst (nI 0) dX1_throughMask_0 rfl ?_
  refine g_istore_n [some (.ref 1), some (.ref k), some (.int (nI s)), some (.int (nI 0)), none] dX1_throughMask_1 rfl (Nat.le_of_ble_eq_true rfl) rfl rfl ?_
  refine g_iconst (nI 0) dX1_throughMask_2 rfl ?_
  refine g_istore [some (.ref 1), some (.ref k), some (.int (nI s)), some (.int (nI 0)), some (.int (nI 0))] dX1_throughMask_3 (Nat.le_of_ble_eq_true rfl) rfl rfl ?_
  exact c_thr_l hn h60 hs hk (n + 1) 0 _ (by omega) (by omega) rfl
theorem c_shadowAt (μ : Mm) {s n : Nat} (hn : μ.1 1 2 = nI n) (h60 : n ≤ 60) (hs : s < n) : Ok mX1_shadowAt (rmL 2) [.ref 1, .int (nI s)] μ (some (.int (thr (μ.1 7) (μ.1 8) n s n)), μ) := by
  refine Ok.of (by decide) (Nat.le_of_ble_eq_true rfl) [some (.ref 1), some (.int (nI s))] rfl ?_
  refine g_aload_n 0 _ dX1_shadowAt_0 rfl rfl ?_
  refine g_aload_n 0 _ dX1_shadowAt_1 rfl rfl ?_
  refine gf_X1_11 rfl dX1_shadowAt_2 ?_
  refine g_iconst (nI 1) dX1_shadowAt_5 rfl ?_
  refine g_aaload (j := 1) isQ_6 (Or.inl rfl) (rfl) (by omega) (by omega) dX1_shadowAt_6 ?_
  refine g_iload_n 1 _ dX1_shadowAt_7 rfl rfl ?_
  refine g_backi (g_runV (c_thr μ hn h60 hs (isI_row (w := 1) (by decide))) rfl mw_X1_throughMask mi_X1_throughMask ml_X1_37 isO_1 ⟨rfl, rfl, Nat.le_of_ble_eq_true rfl, Nat.le_of_ble_eq_true rfl⟩ rfl rfl (Nat.le_of_ble_eq_true rfl) dX1_shadowAt_8) ?_
  refine g_at 11 rfl ?_
  exact g_ireturn dX1_shadowAt_11 rfl rfl rfl
theorem c_meetsAt (μ : Mm) {s n : Nat} (hn : μ.1 1 2 = nI n) (h60 : n ≤ 60) (hs : s < n) : Ok mX1_meetsAt (rmL 2) [.ref 1, .int (nI s)] μ (some (.int (thr (μ.1 7) (μ.1 7) n s n)), μ) := by
  refine Ok.of (by decide) (Nat.le_of_ble_eq_true rfl) [some (.ref 1), some (.int (nI s))] rfl ?_
  refine g_aload_n 0 _ dX1_meetsAt_0 rfl rfl ?_
  refine g_aload_n 0 _ dX1_meetsAt_1 rfl rfl ?_
  refine gf_X1_11 rfl dX1_meetsAt_2 ?_
  refine g_iconst (nI 0) dX1_meetsAt_5 rfl ?_
  refine g_aaload (j := 0) isQ_6 (Or.inl rfl) (rfl) (by omega) (by omega) dX1_meetsAt_6 ?_
  refine g_iload_n 1 _ dX1_meetsAt_7 rfl rfl ?_
  refine g_backi (g_runV (c_thr μ hn h60 hs (isI_row (w := 0) (by decide))) rfl mw_X1_throughMask mi_X1_throughMask ml_X1_37 isO_1 ⟨rfl, rfl, Nat.le_of_ble_eq_true rfl, Nat.le_of_ble_eq_true rfl⟩ rfl rfl (Nat.le_of_ble_eq_true rfl) dX1_meetsAt_8) ?_
  refine g_at 11 rfl ?_
  exact g_ireturn dX1_meetsAt_11 rfl rfl rfl
/-- the first k at which the mask meets itself otherwise than at 1 -/
def offF (f : Nat → Int32) (n : Nat) : Int32 := fstF (fun k => decide (thr f f n k n ≠ thr f f n 1 n)) 2 (n - 2)
theorem c_firstOff_l {μ : Mm} {n : Nat} (hn : μ.1 1 2 = nI n) (h60 : n ≤ 60) (r : Int32) : ∀ (m k : Nat), 2 ≤ k ∧ k ≤ 62 → n - k < m → r = fstF (fun k => decide (thr (μ.1 7) (μ.1 7) n k n ≠ thr (μ.1 7) (μ.1 7) n 1 n)) k (n - k) → G mX1_firstOff (rmL 3) (some (.int r), μ) μ 2 [some (.ref 1), some (.int (nI k))] [] := by
  intro m
  induction m with
  | zero => exact fun k h1 h2 => absurd h2 (by omega)
  | succ m ih =>
    intro k h1 h2 hr
    by_cases hk : k < n
    · rw [show n - k = (n - (k + 1)) + 1 by omega, fstF] at hr
      refine g_iload_n 1 _ dX1_firstOff_2 rfl rfl ?_
      refine g_aload_n 0 _ dX1_firstOff_3 rfl rfl ?_
      refine gf_X1_20 rfl dX1_firstOff_4 ?_
      refine g_top (w := .int (nI n)) (congrArg Value.int hn) ?_
      refine g_icmp_geN 31 (by omega) (by omega) dX1_firstOff_7 (by decide) (fun h7 => ?_) (fun h7 => ?_)
      · exact absurd h7 (by omega)
      · refine g_aload_n 0 _ dX1_firstOff_10 rfl rfl ?_
        refine g_iload_n 1 _ dX1_firstOff_11 rfl rfl ?_
        refine g_backi (g_runV (c_meetsAt μ hn h60 hk) rfl mw_X1_meetsAt mi_X1_meetsAt ml_X1_41 isO_1 ⟨rfl, rfl, Nat.le_of_ble_eq_true rfl, Nat.le_of_ble_eq_true rfl⟩ rfl rfl (Nat.le_of_ble_eq_true rfl) dX1_firstOff_12) ?_
        refine g_aload_n 0 _ dX1_firstOff_15 rfl rfl ?_
        refine g_iconst (nI 1) dX1_firstOff_16 rfl ?_
        refine g_backi (g_runV (c_meetsAt μ hn h60 (s := 1) (by omega)) rfl mw_X1_meetsAt mi_X1_meetsAt ml_X1_41 isO_1 ⟨rfl, rfl, Nat.le_of_ble_eq_true rfl, Nat.le_of_ble_eq_true rfl⟩ rfl rfl (Nat.le_of_ble_eq_true rfl) dX1_firstOff_17) ?_
        refine g_icmp_eq 25 dX1_firstOff_20 (by decide) (fun h20 => ?_) (fun h20 => ?_)
        · refine g_iincN [some (.ref 1), some (.int (nI (k + 1)))] dX1_firstOff_25 rfl (Nat.le_of_ble_eq_true rfl) rfl rfl ?_
          refine g_goto 2 dX1_firstOff_28 (by decide) ?_
          exact ih (k + 1) (by omega) (by omega) (by rw [hr]; simp [h20])
        · refine g_iload_n 1 _ dX1_firstOff_23 rfl rfl ?_
          exact g_ireturn dX1_firstOff_24 rfl rfl (by rw [hr]; simp [h20])
    · rw [show n - k = 0 by omega, fstF] at hr
      refine g_iload_n 1 _ dX1_firstOff_2 rfl rfl ?_
      refine g_aload_n 0 _ dX1_firstOff_3 rfl rfl ?_
      refine gf_X1_20 rfl dX1_firstOff_4 ?_
      refine g_top (w := .int (nI n)) (congrArg Value.int hn) ?_
      refine g_icmp_geN 31 (by omega) (by omega) dX1_firstOff_7 (by decide) (fun h7 => ?_) (fun h7 => ?_)
      · refine g_iconst (-1) dX1_firstOff_31 rfl ?_
        exact g_ireturn dX1_firstOff_32 rfl rfl (by rw [hr])
      · exact absurd h7 (by omega)
theorem c_firstOff (μ : Mm) {n : Nat} (hn : μ.1 1 2 = nI n) (h60 : n ≤ 60) : Ok mX1_firstOff (rmL 3) [.ref 1] μ (some (.int (offF (μ.1 7) n)), μ) := by
  refine Ok.of (by decide) (Nat.le_of_ble_eq_true rfl) [some (.ref 1), none] rfl ?_
  refine g_iconst (nI 2) dX1_firstOff_0 rfl ?_
  refine g_istore_n [some (.ref 1), some (.int (nI 2))] dX1_firstOff_1 rfl (Nat.le_of_ble_eq_true rfl) rfl rfl ?_
  exact c_firstOff_l hn h60 _ (n + 1) 2 (by omega) (by omega) rfl
