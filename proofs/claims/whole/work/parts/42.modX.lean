/-! HoleMaskModel: solve -/
section
variable {μ : Mm} {n : Nat}
theorem d_sv0 (hn : μ.1 33 0 = nI n) (h60 : n ≤ 60) {R : Option Value × Mm} (hG : G mX6_solve (rmL 3) R μ 41 [some (.ref 33), some (.int (nI 0)), none, none, none, none] []) : ∀ (m i : Nat), i ≤ n → n < i + m → G mX6_solve (rmL 3) R μ 8 [some (.ref 33), some (.int (nI 0)), some (.int (nI i)), none, none, none] [] := by
  intro m
  induction m with
  | zero => exact fun j h1 h2 => absurd h2 (by omega)
  | succ m ih =>
    intro i h1 h2
    refine g_iload_n 2 _ dX6_solve_8 rfl rfl ?_
    refine g_aload_n 0 _ dX6_solve_9 rfl rfl ?_
    refine gf_X6_7 rfl dX6_solve_10 ?_
    refine g_top (w := .int (nI n)) (congrArg Value.int hn) ?_
    refine g_icmp_geN 41 (by omega) (by omega) dX6_solve_13 (by decide) (fun h13 => ?_) (fun h13 => ?_)
    · exact g_drop 2 _ rfl hG
    · refine g_iload_n 1 _ dX6_solve_16 rfl rfl ?_
      refine g_if_eqN 33 (by omega) dX6_solve_17 (by decide) (fun h17 => ?_) (fun h17 => ?_)
      · refine g_iconst (nI 0) dX6_solve_33 rfl ?_
        refine g_istore_n [some (.ref 33), some (.int (nI 0)), some (.int (nI i)), none, none, none] dX6_solve_34 rfl (Nat.le_of_ble_eq_true rfl) rfl rfl ?_
        refine g_iincN [some (.ref 33), some (.int (nI 0)), some (.int (nI (i + 1))), none, none, none] dX6_solve_35 rfl (Nat.le_of_ble_eq_true rfl) rfl rfl ?_
        refine g_goto 8 dX6_solve_38 (by decide) ?_
        exact ih (i + 1) (by omega) (by omega)
      · exact absurd h17 (by omega)
theorem d_sv1 (hn : μ.1 33 0 = nI n) (h60 : n ≤ 60) {R : Option Value × Mm} (hG : G mX6_solve (rmL 3) R μ 41 [some (.ref 33), some (.int (nI 1)), none, none, none, none] []) : ∀ (m i : Nat), i ≤ n → n < i + m → (∀ q, i ≤ q → q < n → μ.1 37 q = 0) → G mX6_solve (rmL 3) R μ 8 [some (.ref 33), some (.int (nI 1)), some (.int (nI i)), none, none, none] [] := by
  intro m
  induction m with
  | zero => exact fun j h1 h2 => absurd h2 (by omega)
  | succ m ih =>
    intro i h1 h2 hz
    refine g_iload_n 2 _ dX6_solve_8 rfl rfl ?_
    refine g_aload_n 0 _ dX6_solve_9 rfl rfl ?_
    refine gf_X6_7 rfl dX6_solve_10 ?_
    refine g_top (w := .int (nI n)) (congrArg Value.int hn) ?_
    refine g_icmp_geN 41 (by omega) (by omega) dX6_solve_13 (by decide) (fun h13 => ?_) (fun h13 => ?_)
    · exact g_drop 2 _ rfl hG
    · refine g_iload_n 1 _ dX6_solve_16 rfl rfl ?_
      refine g_if_eqN 33 (by omega) dX6_solve_17 (by decide) (fun h17 => ?_) (fun h17 => ?_)
      · exact absurd h17 (by omega)
      · refine g_aload_n 0 _ dX6_solve_20 rfl rfl ?_
        refine gf_X6_23 rfl dX6_solve_21 ?_
        refine g_iload_n 2 _ dX6_solve_24 rfl rfl ?_
        refine g_baload (j := i) isZ_37 (rfl) (by omega) (by omega) dX6_solve_25 ?_
        refine g_if_ne 33 dX6_solve_26 (by decide) (fun h26 => ?_) (fun h26 => ?_)
        · exact absurd (hz i (Nat.le_refl i) (by omega)) h26
        · refine g_iconst (nI 1) dX6_solve_29 rfl ?_
          refine g_goto 34 dX6_solve_30 (by decide) ?_
          refine g_istore_n [some (.ref 33), some (.int (nI 1)), some (.int (nI i)), none, none, none] dX6_solve_34 rfl (Nat.le_of_ble_eq_true rfl) rfl rfl ?_
          refine g_iincN [some (.ref 33), some (.int (nI 1)), some (.int (nI (i + 1))), none, none, none] dX6_solve_35 rfl (Nat.le_of_ble_eq_true rfl) rfl rfl ?_
          refine g_goto 8 dX6_solve_38 (by decide) ?_
          exact ih (i + 1) (by omega) (by omega) (fun q h3 h4 => hz q (by omega) h4)
theorem d_sv2 (hn : μ.1 33 0 = nI n) (h60 : n ≤ 60) {R : Option Value × Mm} (hG : G mX6_solve (rmL 3) R μ 41 [some (.ref 33), some (.int (nI 0)), none, none, none, none] []) : ∀ (m i : Nat), i ≤ n → n < i + m → (¬ ∀ q, i ≤ q → q < n → μ.1 37 q = 0) → G mX6_solve (rmL 3) R μ 8 [some (.ref 33), some (.int (nI 1)), some (.int (nI i)), none, none, none] [] := by
  intro m
  induction m with
  | zero => exact fun j h1 h2 => absurd h2 (by omega)
  | succ m ih =>
    intro i h1 h2 hz
    have hin : i < n := by
      apply Nat.lt_of_not_le
      intro h
      exact hz (fun q h3 h4 => absurd h4 (by omega))
    by_cases h0 : μ.1 37 i = 0
    · refine g_iload_n 2 _ dX6_solve_8 rfl rfl ?_
      refine g_aload_n 0 _ dX6_solve_9 rfl rfl ?_
      refine gf_X6_7 rfl dX6_solve_10 ?_
      refine g_top (w := .int (nI n)) (congrArg Value.int hn) ?_
      refine g_icmp_geN 41 (by omega) (by omega) dX6_solve_13 (by decide) (fun h13 => ?_) (fun h13 => ?_)
      · exact absurd h13 (by omega)
      · refine g_iload_n 1 _ dX6_solve_16 rfl rfl ?_
        refine g_if_eqN 33 (by omega) dX6_solve_17 (by decide) (fun h17 => ?_) (fun h17 => ?_)
        · exact absurd h17 (by omega)
        · refine g_aload_n 0 _ dX6_solve_20 rfl rfl ?_
          refine gf_X6_23 rfl dX6_solve_21 ?_
          refine g_iload_n 2 _ dX6_solve_24 rfl rfl ?_
          refine g_baload (j := i) isZ_37 (rfl) (by omega) (by omega) dX6_solve_25 ?_
          refine g_if_ne 33 dX6_solve_26 (by decide) (fun h26 => ?_) (fun h26 => ?_)
          · exact absurd h0 h26
          · refine g_iconst (nI 1) dX6_solve_29 rfl ?_
            refine g_goto 34 dX6_solve_30 (by decide) ?_
            refine g_istore_n [some (.ref 33), some (.int (nI 1)), some (.int (nI i)), none, none, none] dX6_solve_34 rfl (Nat.le_of_ble_eq_true rfl) rfl rfl ?_
            refine g_iincN [some (.ref 33), some (.int (nI 1)), some (.int (nI (i + 1))), none, none, none] dX6_solve_35 rfl (Nat.le_of_ble_eq_true rfl) rfl rfl ?_
            refine g_goto 8 dX6_solve_38 (by decide) ?_
            exact ih (i + 1) (by omega) (by omega) (fun q => hz (fun r h3 h4 => if e : r = i then e ▸ h0 else q r (by omega) h4))
    · refine g_iload_n 2 _ dX6_solve_8 rfl rfl ?_
      refine g_aload_n 0 _ dX6_solve_9 rfl rfl ?_
      refine gf_X6_7 rfl dX6_solve_10 ?_
      refine g_top (w := .int (nI n)) (congrArg Value.int hn) ?_
      refine g_icmp_geN 41 (by omega) (by omega) dX6_solve_13 (by decide) (fun h13 => ?_) (fun h13 => ?_)
      · exact absurd h13 (by omega)
      · refine g_iload_n 1 _ dX6_solve_16 rfl rfl ?_
        refine g_if_eqN 33 (by omega) dX6_solve_17 (by decide) (fun h17 => ?_) (fun h17 => ?_)
        · exact absurd h17 (by omega)
        · refine g_aload_n 0 _ dX6_solve_20 rfl rfl ?_
          refine gf_X6_23 rfl dX6_solve_21 ?_
          refine g_iload_n 2 _ dX6_solve_24 rfl rfl ?_
          refine g_baload (j := i) isZ_37 (rfl) (by omega) (by omega) dX6_solve_25 ?_
          refine g_if_ne 33 dX6_solve_26 (by decide) (fun h26 => ?_) (fun h26 => ?_)
          · refine g_iconst (nI 0) dX6_solve_33 rfl ?_
            refine g_istore_n [some (.ref 33), some (.int (nI 0)), some (.int (nI i)), none, none, none] dX6_solve_34 rfl (Nat.le_of_ble_eq_true rfl) rfl rfl ?_
            refine g_iincN [some (.ref 33), some (.int (nI 0)), some (.int (nI (i + 1))), none, none, none] dX6_solve_35 rfl (Nat.le_of_ble_eq_true rfl) rfl rfl ?_
            refine g_goto 8 dX6_solve_38 (by decide) ?_
            exact d_sv0 hn h60 hG (n + 1) (i + 1) (by omega) (by omega)
          · exact absurd h26 h0
theorem d_solve_no1 (μ : Mm) {n : Nat} (hn : μ.1 33 0 = nI n) (h60 : n ≤ 60) (hz : ¬ ∀ q, q < n → μ.1 37 q = 0) : Ok mX6_solve (rmL 3) [.ref 33] μ (some (.int (-1)), sI (sI μ 33 14 0) 33 14 (nI 1)) := by
  refine Ok.of (by decide) (Nat.le_of_ble_eq_true rfl) [some (.ref 33), none, none, none, none, none] rfl ?_
  have hE : G mX6_solve (rmL 3) (some (.int (-1)), sI (sI μ 33 14 0) 33 14 (nI 1)) (sI μ 33 14 0) 41 [some (.ref 33), some (.int (nI 0)), none, none, none, none] [] := by
    refine g_aload_n 0 _ dX6_solve_41 rfl rfl ?_
    refine gf_X6_7 rfl dX6_solve_42 ?_
    refine g_top (w := .int (nI n)) (congrArg Value.int hn) ?_
    refine g_bipush (nI 14) dX6_solve_45 rfl ?_
    refine g_icmp_gtN 54 (by omega) (by omega) dX6_solve_47 (by decide) (fun h47 => ?_) (fun h47 => ?_)
    · refine g_aload_n 0 _ dX6_solve_54 rfl rfl ?_
      refine g_iconst (nI 1) dX6_solve_55 rfl ?_
      refine g_backi (g_runV (d_no (sI μ 33 14 0) (nI 1)) rfl mw_X6_no mi_X6_no ml_X6_79 isO_33 ⟨rfl, rfl, Nat.le_of_ble_eq_true rfl, Nat.le_of_ble_eq_true rfl⟩ rfl rfl (Nat.le_of_ble_eq_true rfl) dX6_solve_56) ?_
      refine g_mem (μ' := sI (sI μ 33 14 0) 33 14 (nI 1)) rfl ?_
      refine g_top (w := .int (-1)) rfl ?_
      exact g_ireturn dX6_solve_59 rfl rfl rfl
    · refine g_iload_n 1 _ dX6_solve_50 rfl rfl ?_
      refine g_if_neN 60 (by omega) dX6_solve_51 (by decide) (fun h51 => ?_) (fun h51 => ?_)
      · exact absurd h51 (by omega)
      · refine g_aload_n 0 _ dX6_solve_54 rfl rfl ?_
        refine g_iconst (nI 1) dX6_solve_55 rfl ?_
        refine g_backi (g_runV (d_no (sI μ 33 14 0) (nI 1)) rfl mw_X6_no mi_X6_no ml_X6_79 isO_33 ⟨rfl, rfl, Nat.le_of_ble_eq_true rfl, Nat.le_of_ble_eq_true rfl⟩ rfl rfl (Nat.le_of_ble_eq_true rfl) dX6_solve_56) ?_
        refine g_mem (μ' := sI (sI μ 33 14 0) 33 14 (nI 1)) rfl ?_
        refine g_top (w := .int (-1)) rfl ?_
        exact g_ireturn dX6_solve_59 rfl rfl rfl
  refine g_aload_n 0 _ dX6_solve_0 rfl rfl ?_
  refine g_backv (g_runV (d_start μ) rfl mw_X6_start mi_X6_start ml_X6_68 isO_33 ⟨rfl, rfl, Nat.le_of_ble_eq_true rfl, Nat.le_of_ble_eq_true rfl⟩ rfl rfl (Nat.le_of_ble_eq_true rfl) dX6_solve_1) ?_
  refine g_mem (μ' := sI μ 33 14 0) rfl ?_
  refine g_iconst (nI 1) dX6_solve_4 rfl ?_
  refine g_istore_n [some (.ref 33), some (.int (nI 1)), none, none, none, none] dX6_solve_5 rfl (Nat.le_of_ble_eq_true rfl) rfl rfl ?_
  refine g_iconst (nI 0) dX6_solve_6 rfl ?_
  refine g_istore_n [some (.ref 33), some (.int (nI 1)), some (.int (nI 0)), none, none, none] dX6_solve_7 rfl (Nat.le_of_ble_eq_true rfl) rfl rfl ?_
  exact d_sv2 (μ := sI μ 33 14 0) hn h60 hE (n + 1) 0 (by omega) (by omega) (fun q => hz (fun r h => q r (by omega) h))
theorem d_solve_no2 (μ : Mm) {n : Nat} (hn : μ.1 33 0 = nI n) (h60 : n ≤ 60) (hz : ∀ q, q < n → μ.1 37 q = 0) (h14 : 14 < n) : Ok mX6_solve (rmL 3) [.ref 33] μ (some (.int (-1)), sI (sI μ 33 14 0) 33 14 (nI 1)) := by
  refine Ok.of (by decide) (Nat.le_of_ble_eq_true rfl) [some (.ref 33), none, none, none, none, none] rfl ?_
  have hE : G mX6_solve (rmL 3) (some (.int (-1)), sI (sI μ 33 14 0) 33 14 (nI 1)) (sI μ 33 14 0) 41 [some (.ref 33), some (.int (nI 1)), none, none, none, none] [] := by
    refine g_aload_n 0 _ dX6_solve_41 rfl rfl ?_
    refine gf_X6_7 rfl dX6_solve_42 ?_
    refine g_top (w := .int (nI n)) (congrArg Value.int hn) ?_
    refine g_bipush (nI 14) dX6_solve_45 rfl ?_
    refine g_icmp_gtN 54 (by omega) (by omega) dX6_solve_47 (by decide) (fun h47 => ?_) (fun h47 => ?_)
    · refine g_aload_n 0 _ dX6_solve_54 rfl rfl ?_
      refine g_iconst (nI 1) dX6_solve_55 rfl ?_
      refine g_backi (g_runV (d_no (sI μ 33 14 0) (nI 1)) rfl mw_X6_no mi_X6_no ml_X6_79 isO_33 ⟨rfl, rfl, Nat.le_of_ble_eq_true rfl, Nat.le_of_ble_eq_true rfl⟩ rfl rfl (Nat.le_of_ble_eq_true rfl) dX6_solve_56) ?_
      refine g_mem (μ' := sI (sI μ 33 14 0) 33 14 (nI 1)) rfl ?_
      refine g_top (w := .int (-1)) rfl ?_
      exact g_ireturn dX6_solve_59 rfl rfl rfl
    · exact absurd h47 (by omega)
  refine g_aload_n 0 _ dX6_solve_0 rfl rfl ?_
  refine g_backv (g_runV (d_start μ) rfl mw_X6_start mi_X6_start ml_X6_68 isO_33 ⟨rfl, rfl, Nat.le_of_ble_eq_true rfl, Nat.le_of_ble_eq_true rfl⟩ rfl rfl (Nat.le_of_ble_eq_true rfl) dX6_solve_1) ?_
  refine g_mem (μ' := sI μ 33 14 0) rfl ?_
  refine g_iconst (nI 1) dX6_solve_4 rfl ?_
  refine g_istore_n [some (.ref 33), some (.int (nI 1)), none, none, none, none] dX6_solve_5 rfl (Nat.le_of_ble_eq_true rfl) rfl rfl ?_
  refine g_iconst (nI 0) dX6_solve_6 rfl ?_
  refine g_istore_n [some (.ref 33), some (.int (nI 1)), some (.int (nI 0)), none, none, none] dX6_solve_7 rfl (Nat.le_of_ble_eq_true rfl) rfl rfl ?_
  exact d_sv1 (μ := sI μ 33 14 0) hn h60 hE (n + 1) 0 (by omega) (by omega) (fun q _ h => hz q h)
theorem d_solve_0 (μ : Mm) {n : Nat} (hn : μ.1 33 0 = nI n) (h14 : n ≤ 14) (hz : ∀ q, q < n → μ.1 37 q = 0) (hr : (sbN (μ.1 34) n (uD μ (n + 1))).1 < n) : Ok mX6_solve (rmL 3) [.ref 33] μ (some (.int (nI 0)), sL (mD (sI μ 33 14 0) (n + 1) (sbN (μ.1 34) n (uD μ (n + 1))).2.2) 33 20 (sbN (μ.1 34) n (uD μ (n + 1))).2.1) := by
  refine Ok.of (by decide) (Nat.le_of_ble_eq_true rfl) [some (.ref 33), none, none, none, none, none] rfl ?_
  have hE : G mX6_solve (rmL 3) (some (.int (nI 0)), sL (mD (sI μ 33 14 0) (n + 1) (sbN (μ.1 34) n (uD μ (n + 1))).2.2) 33 20 (sbN (μ.1 34) n (uD μ (n + 1))).2.1) (sI μ 33 14 0) 41 [some (.ref 33), some (.int (nI 1)), none, none, none, none] [] := by
    refine g_aload_n 0 _ dX6_solve_41 rfl rfl ?_
    refine gf_X6_7 rfl dX6_solve_42 ?_
    refine g_top (w := .int (nI n)) (congrArg Value.int hn) ?_
    refine g_bipush (nI 14) dX6_solve_45 rfl ?_
    refine g_icmp_gtN 54 (by omega) (by omega) dX6_solve_47 (by decide) (fun h47 => ?_) (fun h47 => ?_)
    · exact absurd h47 (by omega)
    · refine g_iload_n 1 _ dX6_solve_50 rfl rfl ?_
      refine g_if_neN 60 (by omega) dX6_solve_51 (by decide) (fun h51 => ?_) (fun h51 => ?_)
      · refine g_aload_n 0 _ dX6_solve_60 rfl rfl ?_
        refine g_backi (g_runV (d_solveBack_no (sI μ 33 14 0) (n := n) hn h14 hr) rfl mw_X6_solveBack mi_X6_solveBack ml_X6_144 isO_33 ⟨rfl, rfl, Nat.le_of_ble_eq_true rfl, Nat.le_of_ble_eq_true rfl⟩ rfl rfl (Nat.le_of_ble_eq_true rfl) dX6_solve_61) ?_
        refine g_mem (μ' := sL (mD (sI μ 33 14 0) (n + 1) (sbN (μ.1 34) n (uD μ (n + 1))).2.2) 33 20 (sbN (μ.1 34) n (uD μ (n + 1))).2.1) rfl ?_
        refine g_top (w := .int (nI 0)) rfl ?_
        refine g_if_neN 69 (by omega) dX6_solve_64 (by decide) (fun h64 => ?_) (fun h64 => ?_)
        · exact absurd h64 (by omega)
        · refine g_iconst (nI 0) dX6_solve_67 rfl ?_
          exact g_ireturn dX6_solve_68 rfl rfl rfl
      · exact absurd h51 (by omega)
  refine g_aload_n 0 _ dX6_solve_0 rfl rfl ?_
  refine g_backv (g_runV (d_start μ) rfl mw_X6_start mi_X6_start ml_X6_68 isO_33 ⟨rfl, rfl, Nat.le_of_ble_eq_true rfl, Nat.le_of_ble_eq_true rfl⟩ rfl rfl (Nat.le_of_ble_eq_true rfl) dX6_solve_1) ?_
  refine g_mem (μ' := sI μ 33 14 0) rfl ?_
  refine g_iconst (nI 1) dX6_solve_4 rfl ?_
  refine g_istore_n [some (.ref 33), some (.int (nI 1)), none, none, none, none] dX6_solve_5 rfl (Nat.le_of_ble_eq_true rfl) rfl rfl ?_
  refine g_iconst (nI 0) dX6_solve_6 rfl ?_
  refine g_istore_n [some (.ref 33), some (.int (nI 1)), some (.int (nI 0)), none, none, none] dX6_solve_7 rfl (Nat.le_of_ble_eq_true rfl) rfl rfl ?_
  exact d_sv1 (μ := sI μ 33 14 0) hn (by omega) hE (n + 1) 0 (by omega) (by omega) (fun q _ h => hz q h)
/-- solve's numbers: the sum at s over found, its quotient -/
def soQ (b : Nat → Int64) (rd : Nat → Int32) (d : Int64) (n s : Nat) : Int64 := svS b rd n s n / d
def soO (b : Nat → Int64) (rd : Nat → Int32) (d : Int64) (n s : Nat) : Prop := svS b rd n s n - svS b rd n s n / d * d = 0 ∧ ¬ soQ b rd d n s < -1000 ∧ ¬ 1000 < soQ b rd d n s
abbrev soM (μ : Mm) (n s : Nat) : Mm := sR μ 45 (fil (μ.1 45) (fun s => (soQ (μ.2 44) (μ.1 36) (μ.2 33 20) n s).toInt32) s)
theorem d_soIn {s : Nat} (hn : μ.1 33 0 = nI n) (h14 : n ≤ 14) (hs : s < n) {R : Option Value × Mm} (hE : G mX6_solve (rmL 3) R μ 125 [some (.ref 33), some (.int (nI 1)), some (.int (nI s)), some (.long (svS (μ.2 44) (μ.1 36) n s n)), none, none] []) : ∀ (m j : Nat), j ≤ n → n < j + m → G mX6_solve (rmL 3) R μ 84 [some (.ref 33), some (.int (nI 1)), some (.int (nI s)), some (.long (svS (μ.2 44) (μ.1 36) n s j)), none, some (.int (nI j))] [] := by
  intro m
  induction m with
  | zero => exact fun j h1 h2 => absurd h2 (by omega)
  | succ m ih =>
    intro j h1 h2
    have em := Nat.mod_lt (s + j) (show 0 < n by omega)
    refine g_iload _ dX6_solve_84 rfl ?_
    refine g_aload_n 0 _ dX6_solve_86 rfl rfl ?_
    refine gf_X6_7 rfl dX6_solve_87 ?_
    refine g_top (w := .int (nI n)) (congrArg Value.int hn) ?_
    refine g_icmp_geN 125 (by omega) (by omega) dX6_solve_90 (by decide) (fun h90 => ?_) (fun h90 => ?_)
    · exact g_drop 5 _ rfl (by rw [show j = n by omega]; exact hE)
    · refine g_lload_n 3 _ dX6_solve_93 rfl rfl ?_
      refine g_aload_n 0 _ dX6_solve_94 rfl rfl ?_
      refine gf_X6_52 rfl dX6_solve_95 ?_
      refine g_iload _ dX6_solve_98 rfl ?_
      refine g_laload (j := j) isL_44 (rfl) (by omega) (by omega) dX6_solve_100 ?_
      refine g_aload_n 0 _ dX6_solve_101 rfl rfl ?_
      refine gf_X6_20 rfl dX6_solve_102 ?_
      refine g_at 105 rfl ?_
      refine g_iload_n 2 _ dX6_solve_105 rfl rfl ?_
      refine g_iload _ dX6_solve_106 rfl ?_
      refine g_iaddN dX6_solve_108 ?_
      refine g_aload_n 0 _ dX6_solve_109 rfl rfl ?_
      refine gf_X6_7 rfl dX6_solve_110 ?_
      refine g_top (w := .int (nI n)) (congrArg Value.int hn) ?_
      refine g_iremN (by omega) (by omega) (by omega) dX6_solve_113 ?_
      refine g_iaload (j := (s + j) % n) isI_36 (rfl) (by omega) (by omega) dX6_solve_114 ?_
      refine g_i2l dX6_solve_115 ?_
      refine g_at 116 rfl ?_
      refine g_lmul dX6_solve_116 ?_
      refine g_ladd dX6_solve_117 ?_
      refine g_lstore_n [some (.ref 33), some (.int (nI 1)), some (.int (nI s)), some (.long ((svS (μ.2 44) (μ.1 36) n s j) + ((μ.2 44 j) * ((μ.1 36 ((s + j) % n)).toInt64)))), none, some (.int (nI j))] dX6_solve_118 rfl (Nat.le_of_ble_eq_true rfl) rfl rfl ?_
      refine g_iincN [some (.ref 33), some (.int (nI 1)), some (.int (nI s)), some (.long ((svS (μ.2 44) (μ.1 36) n s j) + ((μ.2 44 j) * ((μ.1 36 ((s + j) % n)).toInt64)))), none, some (.int (nI (j + 1)))] dX6_solve_119 rfl (Nat.le_of_ble_eq_true rfl) rfl rfl ?_
      refine g_goto 84 dX6_solve_122 (by decide) ?_
      exact ih (j + 1) (by omega) (by omega)
theorem d_soPut {ν : Mm} {f g : Nat → Int32} (hn : ν.1 33 0 = nI n) (h14 : n ≤ 14) (hf : ∀ s, s < n → ν.1 45 s = g s) : ∀ (m s : Nat), s ≤ n → n < s + m → G mX6_solve (rmL 3) (some (.int (nI 1)), sR ν 35 (fil f g n)) (sR ν 35 (fil f g s)) 186 [some (.ref 33), some (.int (nI 1)), some (.int (nI s)), none, none, none] [] := by
  intro m
  induction m with
  | zero => exact fun j h1 h2 => absurd h2 (by omega)
  | succ m ih =>
    intro s h1 h2
    have ev : s < n → (sR ν 35 (fil f g s)).1 45 s = g s := fun h => hf s h
    refine g_iload_n 2 _ dX6_solve_186 rfl rfl ?_
    refine g_aload_n 0 _ dX6_solve_187 rfl rfl ?_
    refine gf_X6_7 rfl dX6_solve_188 ?_
    refine g_top (w := .int (nI n)) (congrArg Value.int hn) ?_
    refine g_icmp_geN 212 (by omega) (by omega) dX6_solve_191 (by decide) (fun h191 => ?_) (fun h191 => ?_)
    · refine g_iconst (nI 1) dX6_solve_212 rfl ?_
      exact g_ireturn dX6_solve_213 rfl rfl (by rw [show s = n by omega])
    · refine g_aload_n 0 _ dX6_solve_194 rfl rfl ?_
      refine gf_X6_17 rfl dX6_solve_195 ?_
      refine g_iload_n 2 _ dX6_solve_198 rfl rfl ?_
      refine g_aload_n 0 _ dX6_solve_199 rfl rfl ?_
      refine gf_X6_55 rfl dX6_solve_200 ?_
      refine g_iload_n 2 _ dX6_solve_203 rfl rfl ?_
      refine g_iaload (j := s) isI_45 (rfl) (by omega) (by omega) dX6_solve_204 ?_
      refine g_top (w := .int (g s)) (congrArg Value.int (ev (by omega))) ?_
      refine g_at 205 rfl ?_
      refine g_iastore (j := s) isI_35 (rfl) (by omega) (by omega) dX6_solve_205 ?_
      refine g_mem (μ' := sR ν 35 (fil f g (s + 1))) (by exact sR_fil _ _ _ _ _ rfl) ?_
      refine g_iincN [some (.ref 33), some (.int (nI 1)), some (.int (nI (s + 1))), none, none, none] dX6_solve_206 rfl (Nat.le_of_ble_eq_true rfl) rfl rfl ?_
      refine g_goto 186 dX6_solve_209 (by decide) ?_
      exact ih (s + 1) (by omega) (by omega)
theorem soM_st {s : Nat} : sI (soM μ n s) 45 s (soQ (μ.2 44) (μ.1 36) (μ.2 33 20) n s).toInt32 = soM μ n (s + 1) := sR_fil _ _ _ _ _ rfl
theorem d_so_yes (hn : μ.1 33 0 = nI n) (h14 : n ≤ 14) (hd : ¬ μ.2 33 20 = 0) (hO : ∀ s, s < n → soO (μ.2 44) (μ.1 36) (μ.2 33 20) n s) : ∀ (m s : Nat) (v w : Option Value), s ≤ n → n < s + m → G mX6_solve (rmL 3) (some (.int (nI 1)), sR (soM μ n n) 35 (fil (μ.1 35) (fun s => (soQ (μ.2 44) (μ.1 36) (μ.2 33 20) n s).toInt32) n)) (soM μ n s) 71 [some (.ref 33), some (.int (nI 1)), some (.int (nI s)), v, none, w] [] := by
  intro m
  induction m with
  | zero => exact fun i v w h1 h2 => absurd h2 (by omega)
  | succ m ih =>
    intro s v w h1 h2
    refine g_drop 3 _ rfl (g_drop 5 _ rfl ?_)
    have em : soM μ n n = sR (soM μ n n) 35 (fil (μ.1 35) (fun s => (soQ (μ.2 44) (μ.1 36) (μ.2 33 20) n s).toInt32) 0) := by
      have e : (soM μ n n).1 35 = μ.1 35 := rfl
      rw [fil_0, ← e, sR_id]
    have hP := d_soPut (ν := soM μ n n) (n := n) (f := μ.1 35) (g := fun s => (soQ (μ.2 44) (μ.1 36) (μ.2 33 20) n s).toInt32) hn h14 (fun s hs => show fil (μ.1 45) (fun s => (soQ (μ.2 44) (μ.1 36) (μ.2 33 20) n s).toInt32) n s = _ from fil_in hs) (n + 1) 0 (by omega) (by omega)
    rw [← em] at hP
    have hE : s < n → G mX6_solve (rmL 3) (some (.int (nI 1)), sR (soM μ n n) 35 (fil (μ.1 35) (fun s => (soQ (μ.2 44) (μ.1 36) (μ.2 33 20) n s).toInt32) n)) (soM μ n s) 125 [some (.ref 33), some (.int (nI 1)), some (.int (nI s)), some (.long (svS ((soM μ n s).2 44) ((soM μ n s).1 36) n s n)), none, none] [] := by
      intro hs
      obtain ⟨o1, o2, o3⟩ := hO s hs
      refine g_lload_n 3 _ dX6_solve_125 rfl rfl ?_
      refine g_aload_n 0 _ dX6_solve_126 rfl rfl ?_
      refine gf_X6_133 rfl dX6_solve_127 ?_
      refine g_top (w := .long (μ.2 33 20)) (congrArg Value.long rfl) ?_
      refine g_lrem dX6_solve_130 hd ?_
      refine g_lconst 0 dX6_solve_131 rfl ?_
      refine g_lcmp dX6_solve_132 ?_
      refine g_if_neC 162 dX6_solve_133 (by decide) (fun h133 => ?_) (fun h133 => ?_)
      · exact absurd o1 h133
      · refine g_lload_n 3 _ dX6_solve_136 rfl rfl ?_
        refine g_aload_n 0 _ dX6_solve_137 rfl rfl ?_
        refine gf_X6_133 rfl dX6_solve_138 ?_
        refine g_top (w := .long (μ.2 33 20)) (congrArg Value.long rfl) ?_
        refine g_ldiv dX6_solve_141 hd ?_
        refine g_ldc2 _ rfl kl_X6_152 dX6_solve_142 ?_
        refine g_lcmp dX6_solve_145 ?_
        refine g_if_ltC 162 dX6_solve_146 (by decide) (fun h146 => ?_) (fun h146 => ?_)
        · exact absurd h146 o2
        · refine g_lload_n 3 _ dX6_solve_149 rfl rfl ?_
          refine g_aload_n 0 _ dX6_solve_150 rfl rfl ?_
          refine gf_X6_133 rfl dX6_solve_151 ?_
          refine g_top (w := .long (μ.2 33 20)) (congrArg Value.long rfl) ?_
          refine g_ldiv dX6_solve_154 hd ?_
          refine g_ldc2 _ rfl kl_X6_154 dX6_solve_155 ?_
          refine g_lcmp dX6_solve_158 ?_
          refine g_if_leC 165 dX6_solve_159 (by decide) (fun h159 => ?_) (fun h159 => ?_)
          · refine g_aload_n 0 _ dX6_solve_165 rfl rfl ?_
            refine gf_X6_55 rfl dX6_solve_166 ?_
            refine g_iload_n 2 _ dX6_solve_169 rfl rfl ?_
            refine g_lload_n 3 _ dX6_solve_170 rfl rfl ?_
            refine g_aload_n 0 _ dX6_solve_171 rfl rfl ?_
            refine gf_X6_133 rfl dX6_solve_172 ?_
            refine g_top (w := .long (μ.2 33 20)) (congrArg Value.long rfl) ?_
            refine g_ldiv dX6_solve_175 hd ?_
            refine g_at 176 rfl ?_
            refine g_l2i dX6_solve_176 ?_
            refine g_iastore (j := s) isI_45 (rfl) (by omega) (by omega) dX6_solve_177 ?_
            refine g_mem (μ' := soM μ n (s + 1)) (by exact soM_st) ?_
            refine g_iincN [some (.ref 33), some (.int (nI 1)), some (.int (nI (s + 1))), some (.long (svS (μ.2 44) (μ.1 36) n s n)), none, none] dX6_solve_178 rfl (Nat.le_of_ble_eq_true rfl) rfl rfl ?_
            refine g_goto 71 dX6_solve_181 (by decide) ?_
            exact ih (s + 1) _ _ (by omega) (by omega)
          · exact absurd h159 o3
    refine g_iload_n 2 _ dX6_solve_71 rfl rfl ?_
    refine g_aload_n 0 _ dX6_solve_72 rfl rfl ?_
    refine gf_X6_7 rfl dX6_solve_73 ?_
    refine g_top (w := .int (nI n)) (congrArg Value.int hn) ?_
    refine g_icmp_geN 184 (by omega) (by omega) dX6_solve_76 (by decide) (fun h76 => ?_) (fun h76 => ?_)
    · refine g_iconst (nI 0) dX6_solve_184 rfl ?_
      refine g_istore_n [some (.ref 33), some (.int (nI 1)), some (.int (nI 0)), none, none, none] dX6_solve_185 rfl (Nat.le_of_ble_eq_true rfl) rfl rfl ?_
      exact g_mem (by rw [show s = n by omega]) hP
    · refine g_lconst 0 dX6_solve_79 rfl ?_
      refine g_lstore_n [some (.ref 33), some (.int (nI 1)), some (.int (nI s)), some (.long 0), none, none] dX6_solve_80 rfl (Nat.le_of_ble_eq_true rfl) rfl rfl ?_
      refine g_iconst (nI 0) dX6_solve_81 rfl ?_
      refine g_istore [some (.ref 33), some (.int (nI 1)), some (.int (nI s)), some (.long 0), none, some (.int (nI 0))] dX6_solve_82 (Nat.le_of_ble_eq_true rfl) rfl rfl ?_
      exact d_soIn (μ := soM μ n s) hn h14 (by omega) (hE (by omega)) (n + 1) 0 (by omega) (by omega)
theorem d_so_no {k : Nat} (hn : μ.1 33 0 = nI n) (h14 : n ≤ 14) (hk : k < n) (hd : ¬ μ.2 33 20 = 0) (hO : ∀ s, s < k → soO (μ.2 44) (μ.1 36) (μ.2 33 20) n s) (hB : ¬ soO (μ.2 44) (μ.1 36) (μ.2 33 20) n k) : ∀ (m s : Nat) (v w : Option Value), s ≤ k → k < s + m → G mX6_solve (rmL 3) (some (.int (-2)), soM μ n k) (soM μ n s) 71 [some (.ref 33), some (.int (nI 1)), some (.int (nI s)), v, none, w] [] := by
  intro m
  induction m with
  | zero => exact fun i v w h1 h2 => absurd h2 (by omega)
  | succ m ih =>
    intro s v w h1 h2
    refine g_drop 3 _ rfl (g_drop 5 _ rfl ?_)
    have hE : G mX6_solve (rmL 3) (some (.int (-2)), soM μ n k) (soM μ n s) 125 [some (.ref 33), some (.int (nI 1)), some (.int (nI s)), some (.long (svS ((soM μ n s).2 44) ((soM μ n s).1 36) n s n)), none, none] [] := by
      by_cases hs : s < k
      · obtain ⟨o1, o2, o3⟩ := hO s hs
        refine g_lload_n 3 _ dX6_solve_125 rfl rfl ?_
        refine g_aload_n 0 _ dX6_solve_126 rfl rfl ?_
        refine gf_X6_133 rfl dX6_solve_127 ?_
        refine g_top (w := .long (μ.2 33 20)) (congrArg Value.long rfl) ?_
        refine g_lrem dX6_solve_130 hd ?_
        refine g_lconst 0 dX6_solve_131 rfl ?_
        refine g_lcmp dX6_solve_132 ?_
        refine g_if_neC 162 dX6_solve_133 (by decide) (fun h133 => ?_) (fun h133 => ?_)
        · exact absurd o1 h133
        · refine g_lload_n 3 _ dX6_solve_136 rfl rfl ?_
          refine g_aload_n 0 _ dX6_solve_137 rfl rfl ?_
          refine gf_X6_133 rfl dX6_solve_138 ?_
          refine g_top (w := .long (μ.2 33 20)) (congrArg Value.long rfl) ?_
          refine g_ldiv dX6_solve_141 hd ?_
          refine g_ldc2 _ rfl kl_X6_152 dX6_solve_142 ?_
          refine g_lcmp dX6_solve_145 ?_
          refine g_if_ltC 162 dX6_solve_146 (by decide) (fun h146 => ?_) (fun h146 => ?_)
          · exact absurd h146 o2
          · refine g_lload_n 3 _ dX6_solve_149 rfl rfl ?_
            refine g_aload_n 0 _ dX6_solve_150 rfl rfl ?_
            refine gf_X6_133 rfl dX6_solve_151 ?_
            refine g_top (w := .long (μ.2 33 20)) (congrArg Value.long rfl) ?_
            refine g_ldiv dX6_solve_154 hd ?_
            refine g_ldc2 _ rfl kl_X6_154 dX6_solve_155 ?_
            refine g_lcmp dX6_solve_158 ?_
            refine g_if_leC 165 dX6_solve_159 (by decide) (fun h159 => ?_) (fun h159 => ?_)
            · refine g_aload_n 0 _ dX6_solve_165 rfl rfl ?_
              refine gf_X6_55 rfl dX6_solve_166 ?_
              refine g_iload_n 2 _ dX6_solve_169 rfl rfl ?_
              refine g_lload_n 3 _ dX6_solve_170 rfl rfl ?_
              refine g_aload_n 0 _ dX6_solve_171 rfl rfl ?_
              refine gf_X6_133 rfl dX6_solve_172 ?_
              refine g_top (w := .long (μ.2 33 20)) (congrArg Value.long rfl) ?_
              refine g_ldiv dX6_solve_175 hd ?_
              refine g_at 176 rfl ?_
              refine g_l2i dX6_solve_176 ?_
              refine g_iastore (j := s) isI_45 (rfl) (by omega) (by omega) dX6_solve_177 ?_
              refine g_mem (μ' := soM μ n (s + 1)) (by exact soM_st) ?_
              refine g_iincN [some (.ref 33), some (.int (nI 1)), some (.int (nI (s + 1))), some (.long (svS (μ.2 44) (μ.1 36) n s n)), none, none] dX6_solve_178 rfl (Nat.le_of_ble_eq_true rfl) rfl rfl ?_
              refine g_goto 71 dX6_solve_181 (by decide) ?_
              exact ih (s + 1) _ _ (by omega) (by omega)
            · exact absurd h159 o3
      · have hsk : s = k := by omega
        subst hsk
        refine g_lload_n 3 _ dX6_solve_125 rfl rfl ?_
        refine g_aload_n 0 _ dX6_solve_126 rfl rfl ?_
        refine gf_X6_133 rfl dX6_solve_127 ?_
        refine g_top (w := .long (μ.2 33 20)) (congrArg Value.long rfl) ?_
        refine g_lrem dX6_solve_130 hd ?_
        refine g_lconst 0 dX6_solve_131 rfl ?_
        refine g_lcmp dX6_solve_132 ?_
        refine g_if_neC 162 dX6_solve_133 (by decide) (fun h133 => ?_) (fun h133 => ?_)
        · refine g_bipush (-2) dX6_solve_162 rfl ?_
          exact g_ireturn dX6_solve_164 rfl rfl rfl
        · refine g_lload_n 3 _ dX6_solve_136 rfl rfl ?_
          refine g_aload_n 0 _ dX6_solve_137 rfl rfl ?_
          refine gf_X6_133 rfl dX6_solve_138 ?_
          refine g_top (w := .long (μ.2 33 20)) (congrArg Value.long rfl) ?_
          refine g_ldiv dX6_solve_141 hd ?_
          refine g_ldc2 _ rfl kl_X6_152 dX6_solve_142 ?_
          refine g_lcmp dX6_solve_145 ?_
          refine g_if_ltC 162 dX6_solve_146 (by decide) (fun h146 => ?_) (fun h146 => ?_)
          · refine g_bipush (-2) dX6_solve_162 rfl ?_
            exact g_ireturn dX6_solve_164 rfl rfl rfl
          · refine g_lload_n 3 _ dX6_solve_149 rfl rfl ?_
            refine g_aload_n 0 _ dX6_solve_150 rfl rfl ?_
            refine gf_X6_133 rfl dX6_solve_151 ?_
            refine g_top (w := .long (μ.2 33 20)) (congrArg Value.long rfl) ?_
            refine g_ldiv dX6_solve_154 hd ?_
            refine g_ldc2 _ rfl kl_X6_154 dX6_solve_155 ?_
            refine g_lcmp dX6_solve_158 ?_
            refine g_if_leC 165 dX6_solve_159 (by decide) (fun h159 => ?_) (fun h159 => ?_)
            · exact absurd ⟨h133, h146, h159⟩ hB
            · refine g_bipush (-2) dX6_solve_162 rfl ?_
              exact g_ireturn dX6_solve_164 rfl rfl rfl
    refine g_iload_n 2 _ dX6_solve_71 rfl rfl ?_
    refine g_aload_n 0 _ dX6_solve_72 rfl rfl ?_
    refine gf_X6_7 rfl dX6_solve_73 ?_
    refine g_top (w := .int (nI n)) (congrArg Value.int hn) ?_
    refine g_icmp_geN 184 (by omega) (by omega) dX6_solve_76 (by decide) (fun h76 => ?_) (fun h76 => ?_)
    · exact absurd h76 (by omega)
    · refine g_lconst 0 dX6_solve_79 rfl ?_
      refine g_lstore_n [some (.ref 33), some (.int (nI 1)), some (.int (nI s)), some (.long 0), none, none] dX6_solve_80 rfl (Nat.le_of_ble_eq_true rfl) rfl rfl ?_
      refine g_iconst (nI 0) dX6_solve_81 rfl ?_
      refine g_istore [some (.ref 33), some (.int (nI 1)), some (.int (nI s)), some (.long 0), none, some (.int (nI 0))] dX6_solve_82 (Nat.le_of_ble_eq_true rfl) rfl rfl ?_
      exact d_soIn (μ := soM μ n s) hn h14 (by omega) hE (n + 1) 0 (by omega) (by omega)
end
theorem soM_0 (μ : Mm) (n : Nat) : μ = soM μ n 0 := by unfold soM; rw [fil_0, sR_id]
theorem d_solve_1 (μ : Mm) {n : Nat} (hn : μ.1 33 0 = nI n) (h14 : n ≤ 14) (hz : ∀ q, q < n → μ.1 37 q = 0) {D : Nat × Int64 × Mx} {ν : Mm} (hν : ν = sbM (sI μ 33 14 0) n D) (hD : sbN (μ.1 34) n (uD μ (n + 1)) = D) (hr : D.1 = n) (hd : D.2.1.toInt ≠ -9223372036854775808) (h0 : ¬ D.2.1 = 0) (hY : ∀ j, j < n → (D.2.2 j n).toInt ≠ -9223372036854775808) (hd0 : ¬ ν.2 33 20 = 0) (hO : ∀ s, s < n → soO (ν.2 44) (ν.1 36) (ν.2 33 20) n s) : Ok mX6_solve (rmL 3) [.ref 33] μ (some (.int (nI 1)), sR (soM ν n n) 35 (fil (ν.1 35) (fun s => (soQ (ν.2 44) (ν.1 36) (ν.2 33 20) n s).toInt32) n)) := by
  refine Ok.of (by decide) (Nat.le_of_ble_eq_true rfl) [some (.ref 33), none, none, none, none, none] rfl ?_
  have hn2 : ν.1 33 0 = nI n := by rw [hν]; exact hn
  have hG := d_so_yes hn2 h14 hd0 hO (n + 1) 0 none none (by omega) (by omega)
  rw [← soM_0] at hG
  generalize (some (Value.int (nI 1)), sR (soM ν n n) 35 (fil (ν.1 35) (fun s => (soQ (ν.2 44) (ν.1 36) (ν.2 33 20) n s).toInt32) n)) = RR at *
  have hE : G mX6_solve (rmL 3) RR (sI μ 33 14 0) 41 [some (.ref 33), some (.int (nI 1)), none, none, none, none] [] := by
    refine g_aload_n 0 _ dX6_solve_41 rfl rfl ?_
    refine gf_X6_7 rfl dX6_solve_42 ?_
    refine g_top (w := .int (nI n)) (congrArg Value.int hn) ?_
    refine g_bipush (nI 14) dX6_solve_45 rfl ?_
    refine g_icmp_gtN 54 (by omega) (by omega) dX6_solve_47 (by decide) (fun h47 => ?_) (fun h47 => ?_)
    · exact absurd h47 (by omega)
    · refine g_iload_n 1 _ dX6_solve_50 rfl rfl ?_
      refine g_if_neN 60 (by omega) dX6_solve_51 (by decide) (fun h51 => ?_) (fun h51 => ?_)
      · refine g_aload_n 0 _ dX6_solve_60 rfl rfl ?_
        refine g_backi (g_runV ((d_solveBack_yes (sI μ 33 14 0) (n := n) hn h14 hD hr hd h0 hY).to (by rw [← hν])) rfl mw_X6_solveBack mi_X6_solveBack ml_X6_144 isO_33 ⟨rfl, rfl, Nat.le_of_ble_eq_true rfl, Nat.le_of_ble_eq_true rfl⟩ rfl rfl (Nat.le_of_ble_eq_true rfl) dX6_solve_61) ?_
        refine g_mem (μ' := ν) rfl ?_
        refine g_top (w := .int (nI 1)) rfl ?_
        refine g_if_neN 69 (by omega) dX6_solve_64 (by decide) (fun h64 => ?_) (fun h64 => ?_)
        · refine g_iconst (nI 0) dX6_solve_69 rfl ?_
          refine g_istore_n [some (.ref 33), some (.int (nI 1)), some (.int (nI 0)), none, none, none] dX6_solve_70 rfl (Nat.le_of_ble_eq_true rfl) rfl rfl ?_
          exact hG
        · exact absurd h64 (by omega)
      · exact absurd h51 (by omega)
  refine g_aload_n 0 _ dX6_solve_0 rfl rfl ?_
  refine g_backv (g_runV (d_start μ) rfl mw_X6_start mi_X6_start ml_X6_68 isO_33 ⟨rfl, rfl, Nat.le_of_ble_eq_true rfl, Nat.le_of_ble_eq_true rfl⟩ rfl rfl (Nat.le_of_ble_eq_true rfl) dX6_solve_1) ?_
  refine g_mem (μ' := sI μ 33 14 0) rfl ?_
  refine g_iconst (nI 1) dX6_solve_4 rfl ?_
  refine g_istore_n [some (.ref 33), some (.int (nI 1)), none, none, none, none] dX6_solve_5 rfl (Nat.le_of_ble_eq_true rfl) rfl rfl ?_
  refine g_iconst (nI 0) dX6_solve_6 rfl ?_
  refine g_istore_n [some (.ref 33), some (.int (nI 1)), some (.int (nI 0)), none, none, none] dX6_solve_7 rfl (Nat.le_of_ble_eq_true rfl) rfl rfl ?_
  exact d_sv1 (μ := sI μ 33 14 0) hn (by omega) hE (n + 1) 0 (by omega) (by omega) (fun q _ h => hz q h)
theorem d_solve_2 (μ : Mm) {n : Nat} (hn : μ.1 33 0 = nI n) (h14 : n ≤ 14) (hz : ∀ q, q < n → μ.1 37 q = 0) {D : Nat × Int64 × Mx} {ν : Mm} (hν : ν = sbM (sI μ 33 14 0) n D) (hD : sbN (μ.1 34) n (uD μ (n + 1)) = D) (hr : D.1 = n) (hd : D.2.1.toInt ≠ -9223372036854775808) (h0 : ¬ D.2.1 = 0) (hY : ∀ j, j < n → (D.2.2 j n).toInt ≠ -9223372036854775808) (hd0 : ¬ ν.2 33 20 = 0) (hO : ¬ ∀ s, s < n → soO (ν.2 44) (ν.1 36) (ν.2 33 20) n s) : ∃ k, Ok mX6_solve (rmL 3) [.ref 33] μ (some (.int (-2)), soM ν n k) := by
  obtain ⟨k, hk, hO2, hB⟩ := first_bad hO
  refine ⟨k, ?_⟩
  refine Ok.of (by decide) (Nat.le_of_ble_eq_true rfl) [some (.ref 33), none, none, none, none, none] rfl ?_
  have hn2 : ν.1 33 0 = nI n := by rw [hν]; exact hn
  have hG := d_so_no hn2 h14 hk hd0 hO2 hB (k + 1) 0 none none (by omega) (by omega)
  rw [← soM_0] at hG
  generalize (some (Value.int (-2)), soM ν n k) = RR at *
  have hE : G mX6_solve (rmL 3) RR (sI μ 33 14 0) 41 [some (.ref 33), some (.int (nI 1)), none, none, none, none] [] := by
    refine g_aload_n 0 _ dX6_solve_41 rfl rfl ?_
    refine gf_X6_7 rfl dX6_solve_42 ?_
    refine g_top (w := .int (nI n)) (congrArg Value.int hn) ?_
    refine g_bipush (nI 14) dX6_solve_45 rfl ?_
    refine g_icmp_gtN 54 (by omega) (by omega) dX6_solve_47 (by decide) (fun h47 => ?_) (fun h47 => ?_)
    · exact absurd h47 (by omega)
    · refine g_iload_n 1 _ dX6_solve_50 rfl rfl ?_
      refine g_if_neN 60 (by omega) dX6_solve_51 (by decide) (fun h51 => ?_) (fun h51 => ?_)
      · refine g_aload_n 0 _ dX6_solve_60 rfl rfl ?_
        refine g_backi (g_runV ((d_solveBack_yes (sI μ 33 14 0) (n := n) hn h14 hD hr hd h0 hY).to (by rw [← hν])) rfl mw_X6_solveBack mi_X6_solveBack ml_X6_144 isO_33 ⟨rfl, rfl, Nat.le_of_ble_eq_true rfl, Nat.le_of_ble_eq_true rfl⟩ rfl rfl (Nat.le_of_ble_eq_true rfl) dX6_solve_61) ?_
        refine g_mem (μ' := ν) rfl ?_
        refine g_top (w := .int (nI 1)) rfl ?_
        refine g_if_neN 69 (by omega) dX6_solve_64 (by decide) (fun h64 => ?_) (fun h64 => ?_)
        · refine g_iconst (nI 0) dX6_solve_69 rfl ?_
          refine g_istore_n [some (.ref 33), some (.int (nI 1)), some (.int (nI 0)), none, none, none] dX6_solve_70 rfl (Nat.le_of_ble_eq_true rfl) rfl rfl ?_
          exact hG
        · exact absurd h64 (by omega)
      · exact absurd h51 (by omega)
  refine g_aload_n 0 _ dX6_solve_0 rfl rfl ?_
  refine g_backv (g_runV (d_start μ) rfl mw_X6_start mi_X6_start ml_X6_68 isO_33 ⟨rfl, rfl, Nat.le_of_ble_eq_true rfl, Nat.le_of_ble_eq_true rfl⟩ rfl rfl (Nat.le_of_ble_eq_true rfl) dX6_solve_1) ?_
  refine g_mem (μ' := sI μ 33 14 0) rfl ?_
  refine g_iconst (nI 1) dX6_solve_4 rfl ?_
  refine g_istore_n [some (.ref 33), some (.int (nI 1)), none, none, none, none] dX6_solve_5 rfl (Nat.le_of_ble_eq_true rfl) rfl rfl ?_
  refine g_iconst (nI 0) dX6_solve_6 rfl ?_
  refine g_istore_n [some (.ref 33), some (.int (nI 1)), some (.int (nI 0)), none, none, none] dX6_solve_7 rfl (Nat.le_of_ble_eq_true rfl) rfl rfl ?_
  exact d_sv1 (μ := sI μ 33 14 0) hn (by omega) hE (n + 1) 0 (by omega) (by omega) (fun q _ h => hz q h)
