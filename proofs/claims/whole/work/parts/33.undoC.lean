/-! Undoer: showLost, showSolved -/
def slL (l : Nat) (Y : Mx) : Int64 := if l = 0 then 1 else Y (l - 1) (l - 1)
def slG (l : Nat) (Y : Mx) (i : Nat) : Int64 := gF (slL l Y) (fun i => Y i l) i
def slS (l : Nat) (Y : Mx) : Int64 := if slL l Y < 0 then -(slG l Y l) else slG l Y l
def slV (l : Nat) (Y : Mx) (i : Nat) : Int32 := (quF (if i < l then -(Y i l) else if i = l then slL l Y else 0) (slS l Y)).toInt32
theorem mSU_at {μ : Mm} {Y : Mx} {f : Nat → Int32} {r : Nat} (h : r < 14) : (sR (mU μ Y) 8 f).2 (13 + r) = Y r := mU_at h
theorem c_showLost_2 {μ : Mm} {Y : Mx} {n l : Nat} {c9 : Int64} (hn : μ.1 1 2 = nI n) (h14 : n ≤ 14) (hl : l < n) : ∀ (m i : Nat) (v : Option Value), i ≤ n → n < i + m → G mX4_showLost (rmL 2) (none, sR (mU μ Y) 8 (fil (μ.1 8) (slV l Y) n)) (sR (mU μ Y) 8 (fil (μ.1 8) (slV l Y) i)) 74 [some (.ref 3), some (.ref 1), some (.int (nI l)), some (.long (slL l Y)), none, some (.long c9), none, some (.long (slS l Y)), none, some (.int (nI i)), v, none] [] := by
  intro m
  induction m with
  | zero => exact fun i v h1 h2 => absurd h2 (by omega)
  | succ m ih =>
    intro i v h1 h2
    refine g_drop 10 _ rfl ?_
    refine g_iload _ dX4_showLost_74 rfl ?_
    refine g_aload_n 1 _ dX4_showLost_76 rfl rfl ?_
    refine gf_X4_31 rfl dX4_showLost_77 ?_
    refine g_top (w := .int (nI n)) (congrArg Value.int hn) ?_
    refine g_icmp_geN 136 (by omega) (by omega) dX4_showLost_80 (by decide) (fun h80 => ?_) (fun h80 => ?_)
    · exact g_return dX4_showLost_136 rfl (by rw [show i = n by omega])
    · refine g_iload _ dX4_showLost_83 rfl ?_
      refine g_iload_n 2 _ dX4_showLost_85 rfl rfl ?_
      refine g_icmp_geN 102 (by omega) (by omega) dX4_showLost_86 (by decide) (fun h86 => ?_) (fun h86 => ?_)
      · refine g_iload _ dX4_showLost_102 rfl ?_
        refine g_iload_n 2 _ dX4_showLost_104 rfl rfl ?_
        refine g_icmp_neN 112 (by omega) (by omega) dX4_showLost_105 (by decide) (fun h105 => ?_) (fun h105 => ?_)
        · refine g_lconst 0 dX4_showLost_112 rfl ?_
          refine g_top (w := .long (if i < l then -(Y i l) else if i = l then slL l Y else 0)) (congrArg Value.long (by first | (rw [if_pos (show i < l by omega)]) | (rw [if_neg (show ¬ i < l by omega), if_pos (show i = l by omega)]) | (rw [if_neg (show ¬ i < l by omega), if_neg (show ¬ i = l by omega)]))) ?_
          refine g_lstore [some (.ref 3), some (.ref 1), some (.int (nI l)), some (.long (slL l Y)), none, some (.long c9), none, some (.long (slS l Y)), none, some (.int (nI i)), some (.long (if i < l then -(Y i l) else if i = l then slL l Y else 0)), none] dX4_showLost_113 (Nat.le_of_ble_eq_true rfl) rfl rfl ?_
          refine g_aload_n 1 _ dX4_showLost_115 rfl rfl ?_
          refine g_iconst (nI 1) dX4_showLost_116 rfl ?_
          refine g_iload _ dX4_showLost_117 rfl ?_
          refine g_lload _ dX4_showLost_119 rfl ?_
          refine g_lload _ dX4_showLost_121 rfl ?_
          refine g_at 123 rfl ?_
          refine g_backl (g_runSN (c_quotient (sR (mU μ Y) 8 (fil (μ.1 8) (slV l Y) i)) (if i < l then -(Y i l) else if i = l then slL l Y else 0) (slS l Y)) rfl mw_X5_quotient ms_X5_quotient mn_X4_61 ⟨rfl, rfl, Nat.le_of_ble_eq_true rfl, Nat.le_of_ble_eq_true rfl⟩ rfl rfl (Nat.le_of_ble_eq_true rfl) dX4_showLost_123) ?_
          refine g_top (w := .long (quF (if i < l then -(Y i l) else if i = l then slL l Y else 0) (slS l Y))) rfl ?_
          refine g_l2i dX4_showLost_126 ?_
          refine g_backv (g_runVN (c_put (sR (mU μ Y) 8 (fil (μ.1 8) (slV l Y) i)) (w := 1) (j := i) ((quF (if i < l then -(Y i l) else if i = l then slL l Y else 0) (slS l Y)).toInt32) (by omega) (by omega)) rfl mw_X1_put mi_X1_put mn_X4_76 isO_1 ⟨rfl, rfl, Nat.le_of_ble_eq_true rfl, Nat.le_of_ble_eq_true rfl⟩ rfl rfl (Nat.le_of_ble_eq_true rfl) dX4_showLost_127) ?_
          refine g_mem (μ' := sI (sR (mU μ Y) 8 (fil (μ.1 8) (slV l Y) i)) 8 i ((quF (if i < l then -(Y i l) else if i = l then slL l Y else 0) (slS l Y)).toInt32)) rfl ?_
          refine g_mem (μ' := sR (mU μ Y) 8 (fil (μ.1 8) (slV l Y) (i + 1))) (by exact sR_fil _ _ _ _ _ rfl) ?_
          refine g_iincN [some (.ref 3), some (.ref 1), some (.int (nI l)), some (.long (slL l Y)), none, some (.long c9), none, some (.long (slS l Y)), none, some (.int (nI (i + 1))), some (.long (if i < l then -(Y i l) else if i = l then slL l Y else 0)), none] dX4_showLost_130 rfl (Nat.le_of_ble_eq_true rfl) rfl rfl ?_
          refine g_goto 74 dX4_showLost_133 (by decide) ?_
          exact ih (i + 1) _ (by omega) (by omega)
        · refine g_lload_n 3 _ dX4_showLost_108 rfl rfl ?_
          refine g_goto 113 dX4_showLost_109 (by decide) ?_
          refine g_top (w := .long (if i < l then -(Y i l) else if i = l then slL l Y else 0)) (congrArg Value.long (by first | (rw [if_pos (show i < l by omega)]) | (rw [if_neg (show ¬ i < l by omega), if_pos (show i = l by omega)]) | (rw [if_neg (show ¬ i < l by omega), if_neg (show ¬ i = l by omega)]))) ?_
          refine g_lstore [some (.ref 3), some (.ref 1), some (.int (nI l)), some (.long (slL l Y)), none, some (.long c9), none, some (.long (slS l Y)), none, some (.int (nI i)), some (.long (if i < l then -(Y i l) else if i = l then slL l Y else 0)), none] dX4_showLost_113 (Nat.le_of_ble_eq_true rfl) rfl rfl ?_
          refine g_aload_n 1 _ dX4_showLost_115 rfl rfl ?_
          refine g_iconst (nI 1) dX4_showLost_116 rfl ?_
          refine g_iload _ dX4_showLost_117 rfl ?_
          refine g_lload _ dX4_showLost_119 rfl ?_
          refine g_lload _ dX4_showLost_121 rfl ?_
          refine g_backl (g_runSN (c_quotient (sR (mU μ Y) 8 (fil (μ.1 8) (slV l Y) i)) (if i < l then -(Y i l) else if i = l then slL l Y else 0) (slS l Y)) rfl mw_X5_quotient ms_X5_quotient mn_X4_61 ⟨rfl, rfl, Nat.le_of_ble_eq_true rfl, Nat.le_of_ble_eq_true rfl⟩ rfl rfl (Nat.le_of_ble_eq_true rfl) dX4_showLost_123) ?_
          refine g_top (w := .long (quF (if i < l then -(Y i l) else if i = l then slL l Y else 0) (slS l Y))) rfl ?_
          refine g_at 126 rfl ?_
          refine g_l2i dX4_showLost_126 ?_
          refine g_backv (g_runVN (c_put (sR (mU μ Y) 8 (fil (μ.1 8) (slV l Y) i)) (w := 1) (j := i) ((quF (if i < l then -(Y i l) else if i = l then slL l Y else 0) (slS l Y)).toInt32) (by omega) (by omega)) rfl mw_X1_put mi_X1_put mn_X4_76 isO_1 ⟨rfl, rfl, Nat.le_of_ble_eq_true rfl, Nat.le_of_ble_eq_true rfl⟩ rfl rfl (Nat.le_of_ble_eq_true rfl) dX4_showLost_127) ?_
          refine g_mem (μ' := sI (sR (mU μ Y) 8 (fil (μ.1 8) (slV l Y) i)) 8 i ((quF (if i < l then -(Y i l) else if i = l then slL l Y else 0) (slS l Y)).toInt32)) rfl ?_
          refine g_mem (μ' := sR (mU μ Y) 8 (fil (μ.1 8) (slV l Y) (i + 1))) (by exact sR_fil _ _ _ _ _ rfl) ?_
          refine g_iincN [some (.ref 3), some (.ref 1), some (.int (nI l)), some (.long (slL l Y)), none, some (.long c9), none, some (.long (slS l Y)), none, some (.int (nI (i + 1))), some (.long (if i < l then -(Y i l) else if i = l then slL l Y else 0)), none] dX4_showLost_130 rfl (Nat.le_of_ble_eq_true rfl) rfl rfl ?_
          refine g_goto 74 dX4_showLost_133 (by decide) ?_
          exact ih (i + 1) _ (by omega) (by omega)
      · refine g_aload_n 0 _ dX4_showLost_89 rfl rfl ?_
        refine gf_X4_13 rfl dX4_showLost_90 ?_
        refine g_iload _ dX4_showLost_93 rfl ?_
        refine g_aaload (j := i) isQ_12 (Or.inr rfl) (rfl) (by omega) (by omega) dX4_showLost_95 ?_
        refine g_iload_n 2 _ dX4_showLost_96 rfl rfl ?_
        refine g_laload (j := l) (isL_row (w := i) (by omega)) (rfl) (by omega) (by omega) dX4_showLost_97 ?_
        refine g_top (w := .long (Y i l)) (congrArg Value.long (by rw [mSU_at (by omega)])) ?_
        refine g_lneg dX4_showLost_98 ?_
        refine g_at 99 rfl ?_
        refine g_goto 113 dX4_showLost_99 (by decide) ?_
        refine g_top (w := .long (if i < l then -(Y i l) else if i = l then slL l Y else 0)) (congrArg Value.long (by first | (rw [if_pos (show i < l by omega)]) | (rw [if_neg (show ¬ i < l by omega), if_pos (show i = l by omega)]) | (rw [if_neg (show ¬ i < l by omega), if_neg (show ¬ i = l by omega)]))) ?_
        refine g_lstore [some (.ref 3), some (.ref 1), some (.int (nI l)), some (.long (slL l Y)), none, some (.long c9), none, some (.long (slS l Y)), none, some (.int (nI i)), some (.long (if i < l then -(Y i l) else if i = l then slL l Y else 0)), none] dX4_showLost_113 (Nat.le_of_ble_eq_true rfl) rfl rfl ?_
        refine g_aload_n 1 _ dX4_showLost_115 rfl rfl ?_
        refine g_iconst (nI 1) dX4_showLost_116 rfl ?_
        refine g_iload _ dX4_showLost_117 rfl ?_
        refine g_lload _ dX4_showLost_119 rfl ?_
        refine g_lload _ dX4_showLost_121 rfl ?_
        refine g_backl (g_runSN (c_quotient (sR (mU μ Y) 8 (fil (μ.1 8) (slV l Y) i)) (if i < l then -(Y i l) else if i = l then slL l Y else 0) (slS l Y)) rfl mw_X5_quotient ms_X5_quotient mn_X4_61 ⟨rfl, rfl, Nat.le_of_ble_eq_true rfl, Nat.le_of_ble_eq_true rfl⟩ rfl rfl (Nat.le_of_ble_eq_true rfl) dX4_showLost_123) ?_
        refine g_top (w := .long (quF (if i < l then -(Y i l) else if i = l then slL l Y else 0) (slS l Y))) rfl ?_
        refine g_at 126 rfl ?_
        refine g_l2i dX4_showLost_126 ?_
        refine g_backv (g_runVN (c_put (sR (mU μ Y) 8 (fil (μ.1 8) (slV l Y) i)) (w := 1) (j := i) ((quF (if i < l then -(Y i l) else if i = l then slL l Y else 0) (slS l Y)).toInt32) (by omega) (by omega)) rfl mw_X1_put mi_X1_put mn_X4_76 isO_1 ⟨rfl, rfl, Nat.le_of_ble_eq_true rfl, Nat.le_of_ble_eq_true rfl⟩ rfl rfl (Nat.le_of_ble_eq_true rfl) dX4_showLost_127) ?_
        refine g_mem (μ' := sI (sR (mU μ Y) 8 (fil (μ.1 8) (slV l Y) i)) 8 i ((quF (if i < l then -(Y i l) else if i = l then slL l Y else 0) (slS l Y)).toInt32)) rfl ?_
        refine g_mem (μ' := sR (mU μ Y) 8 (fil (μ.1 8) (slV l Y) (i + 1))) (by exact sR_fil _ _ _ _ _ rfl) ?_
        refine g_iincN [some (.ref 3), some (.ref 1), some (.int (nI l)), some (.long (slL l Y)), none, some (.long c9), none, some (.long (slS l Y)), none, some (.int (nI (i + 1))), some (.long (if i < l then -(Y i l) else if i = l then slL l Y else 0)), none] dX4_showLost_130 rfl (Nat.le_of_ble_eq_true rfl) rfl rfl ?_
        refine g_goto 74 dX4_showLost_133 (by decide) ?_
        exact ih (i + 1) _ (by omega) (by omega)
theorem c_showLost_1 {μ : Mm} {Y : Mx} {n l : Nat} (hn : μ.1 1 2 = nI n) (h14 : n ≤ 14) (hl : l < n) (h0 : (slL l Y).toInt ≠ -9223372036854775808) (hY : ∀ i, i < l → (Y i l).toInt ≠ -9223372036854775808) : ∀ (m i : Nat), i ≤ l → l < i + m → G mX4_showLost (rmL 2) (none, sR (mU μ Y) 8 (fil (μ.1 8) (slV l Y) n)) (mU μ Y) 27 [some (.ref 3), some (.ref 1), some (.int (nI l)), some (.long (slL l Y)), none, some (.long (slG l Y i)), none, some (.int (nI i)), none, none, none, none] [] := by
  intro m
  induction m with
  | zero => exact fun i h1 h2 => absurd h2 (by omega)
  | succ m ih =>
    intro i h1 h2
    have hg : i < l → (slG l Y i).toInt ≠ -9223372036854775808 := fun hi => gF_ok h0 i (fun j hj => hY j (by omega))
    have em : mU μ Y = sR (mU μ Y) 8 (fil (μ.1 8) (slV l Y) 0) := by
      have e : (mU μ Y).1 8 = μ.1 8 := rfl
      rw [fil_0, ← e, sR_id]
    refine g_iload _ dX4_showLost_27 rfl ?_
    refine g_iload_n 2 _ dX4_showLost_29 rfl rfl ?_
    refine g_icmp_geN 55 (by omega) (by omega) dX4_showLost_30 (by decide) (fun h30 => ?_) (fun h30 => ?_)
    · refine g_lload_n 3 _ dX4_showLost_55 rfl rfl ?_
      refine g_lconst 0 dX4_showLost_56 rfl ?_
      refine g_lcmp dX4_showLost_57 ?_
      refine g_if_geC 67 dX4_showLost_58 (by decide) (fun h58 => ?_) (fun h58 => ?_)
      · refine g_lload _ dX4_showLost_67 rfl ?_
        refine g_top (w := .long (slS l Y)) (congrArg Value.long (by unfold slS; rw [show i = l by omega]; first | rw [if_pos (by assumption)] | rw [if_neg (by assumption)])) ?_
        refine g_lstore [some (.ref 3), some (.ref 1), some (.int (nI l)), some (.long (slL l Y)), none, some (.long (slG l Y i)), none, some (.long (slS l Y)), none, none, none, none] dX4_showLost_69 (Nat.le_of_ble_eq_true rfl) rfl rfl ?_
        refine g_iconst (nI 0) dX4_showLost_71 rfl ?_
        refine g_istore [some (.ref 3), some (.ref 1), some (.int (nI l)), some (.long (slL l Y)), none, some (.long (slG l Y i)), none, some (.long (slS l Y)), none, some (.int (nI 0)), none, none] dX4_showLost_72 (Nat.le_of_ble_eq_true rfl) rfl rfl ?_
        exact g_mem em (c_showLost_2 hn h14 hl (n + 1) 0 _ (by omega) (by omega))
      · refine g_lload _ dX4_showLost_61 rfl ?_
        refine g_lneg dX4_showLost_63 ?_
        refine g_goto 69 dX4_showLost_64 (by decide) ?_
        refine g_top (w := .long (slS l Y)) (congrArg Value.long (by unfold slS; rw [show i = l by omega]; first | rw [if_pos (by assumption)] | rw [if_neg (by assumption)])) ?_
        refine g_lstore [some (.ref 3), some (.ref 1), some (.int (nI l)), some (.long (slL l Y)), none, some (.long (slG l Y i)), none, some (.long (slS l Y)), none, none, none, none] dX4_showLost_69 (Nat.le_of_ble_eq_true rfl) rfl rfl ?_
        refine g_iconst (nI 0) dX4_showLost_71 rfl ?_
        refine g_istore [some (.ref 3), some (.ref 1), some (.int (nI l)), some (.long (slL l Y)), none, some (.long (slG l Y i)), none, some (.long (slS l Y)), none, some (.int (nI 0)), none, none] dX4_showLost_72 (Nat.le_of_ble_eq_true rfl) rfl rfl ?_
        exact g_mem em (c_showLost_2 hn h14 hl (n + 1) 0 _ (by omega) (by omega))
    · refine g_lload _ dX4_showLost_33 rfl ?_
      refine g_aload_n 0 _ dX4_showLost_35 rfl rfl ?_
      refine gf_X4_13 rfl dX4_showLost_36 ?_
      refine g_iload _ dX4_showLost_39 rfl ?_
      refine g_aaload (j := i) isQ_12 (Or.inr rfl) (rfl) (by omega) (by omega) dX4_showLost_41 ?_
      refine g_iload_n 2 _ dX4_showLost_42 rfl rfl ?_
      refine g_laload (j := l) (isL_row (w := i) (by omega)) (rfl) (by omega) (by omega) dX4_showLost_43 ?_
      refine g_top (w := .long (Y i l)) (congrArg Value.long (by rw [mU_at (by omega)])) ?_
      refine g_at 44 rfl ?_
      refine g_backl (g_runSN (c_commonDivisor (mU μ Y) (slG l Y i) (Y i l) (hg (by omega)) (hY _ (by omega))) rfl mw_X5_commonDivisor ms_X5_commonDivisor mn_X4_69 ⟨rfl, rfl, Nat.le_of_ble_eq_true rfl, Nat.le_of_ble_eq_true rfl⟩ rfl rfl (Nat.le_of_ble_eq_true rfl) dX4_showLost_44) ?_
      refine g_top (w := .long (slG l Y (i + 1))) rfl ?_
      refine g_lstore [some (.ref 3), some (.ref 1), some (.int (nI l)), some (.long (slL l Y)), none, some (.long (slG l Y (i + 1))), none, some (.int (nI i)), none, none, none, none] dX4_showLost_47 (Nat.le_of_ble_eq_true rfl) rfl rfl ?_
      refine g_iincN [some (.ref 3), some (.ref 1), some (.int (nI l)), some (.long (slL l Y)), none, some (.long (slG l Y (i + 1))), none, some (.int (nI (i + 1))), none, none, none, none] dX4_showLost_49 rfl (Nat.le_of_ble_eq_true rfl) rfl rfl ?_
      refine g_goto 27 dX4_showLost_52 (by decide) ?_
      exact ih (i + 1) (by omega) (by omega)
theorem c_showLost (μ : Mm) (Y : Mx) {n l : Nat} (hn : μ.1 1 2 = nI n) (h14 : n ≤ 14) (hl : l < n) (h0 : (slL l Y).toInt ≠ -9223372036854775808) (hY : ∀ i, i < l → (Y i l).toInt ≠ -9223372036854775808) : Ok mX4_showLost (rmL 2) [.ref 3, .ref 1, .int (nI l)] (mU μ Y) (none, sR (mU μ Y) 8 (fil (μ.1 8) (slV l Y) n)) := by
  refine Ok.of (by decide) (Nat.le_of_ble_eq_true rfl) [some (.ref 3), some (.ref 1), some (.int (nI l)), none, none, none, none, none, none, none, none, none] rfl ?_
  refine g_iload_n 2 _ dX4_showLost_0 rfl rfl ?_
  refine g_if_neN 8 (by omega) dX4_showLost_1 (by decide) (fun h1 => ?_) (fun h1 => ?_)
  · refine g_aload_n 0 _ dX4_showLost_8 rfl rfl ?_
    refine gf_X4_13 rfl dX4_showLost_9 ?_
    refine g_iload_n 2 _ dX4_showLost_12 rfl rfl ?_
    refine g_iconst (nI 1) dX4_showLost_13 rfl ?_
    refine g_isubN (by omega) dX4_showLost_14 ?_
    refine g_aaload (j := l - 1) isQ_12 (Or.inr rfl) (rfl) (by omega) (by omega) dX4_showLost_15 ?_
    refine g_iload_n 2 _ dX4_showLost_16 rfl rfl ?_
    refine g_at 17 rfl ?_
    refine g_iconst (nI 1) dX4_showLost_17 rfl ?_
    refine g_isubN (by omega) dX4_showLost_18 ?_
    refine g_laload (j := l - 1) (isL_row (w := (l - 1)) (by omega)) (rfl) (by omega) (by omega) dX4_showLost_19 ?_
    refine g_top (w := .long (Y (l - 1) (l - 1))) (congrArg Value.long (by rw [mU_at (by omega)])) ?_
    refine g_top (w := .long (slL l Y)) (congrArg Value.long (by unfold slL; first | rw [if_pos (show l = 0 by omega)] | rw [if_neg (show ¬ l = 0 by omega)])) ?_
    refine g_lstore_n [some (.ref 3), some (.ref 1), some (.int (nI l)), some (.long (slL l Y)), none, none, none, none, none, none, none, none] dX4_showLost_20 rfl (Nat.le_of_ble_eq_true rfl) rfl rfl ?_
    refine g_lload_n 3 _ dX4_showLost_21 rfl rfl ?_
    refine g_lstore [some (.ref 3), some (.ref 1), some (.int (nI l)), some (.long (slL l Y)), none, some (.long (slL l Y)), none, none, none, none, none, none] dX4_showLost_22 (Nat.le_of_ble_eq_true rfl) rfl rfl ?_
    refine g_iconst (nI 0) dX4_showLost_24 rfl ?_
    refine g_istore [some (.ref 3), some (.ref 1), some (.int (nI l)), some (.long (slL l Y)), none, some (.long (slL l Y)), none, some (.int (nI 0)), none, none, none, none] dX4_showLost_25 (Nat.le_of_ble_eq_true rfl) rfl rfl ?_
    exact c_showLost_1 hn h14 hl h0 hY (l + 1) 0 (by omega) (by omega)
  · refine g_lconst 1 dX4_showLost_4 rfl ?_
    refine g_goto 20 dX4_showLost_5 (by decide) ?_
    refine g_top (w := .long (slL l Y)) (congrArg Value.long (by unfold slL; first | rw [if_pos (show l = 0 by omega)] | rw [if_neg (show ¬ l = 0 by omega)])) ?_
    refine g_lstore_n [some (.ref 3), some (.ref 1), some (.int (nI l)), some (.long (slL l Y)), none, none, none, none, none, none, none, none] dX4_showLost_20 rfl (Nat.le_of_ble_eq_true rfl) rfl rfl ?_
    refine g_lload_n 3 _ dX4_showLost_21 rfl rfl ?_
    refine g_lstore [some (.ref 3), some (.ref 1), some (.int (nI l)), some (.long (slL l Y)), none, some (.long (slL l Y)), none, none, none, none, none, none] dX4_showLost_22 (Nat.le_of_ble_eq_true rfl) rfl rfl ?_
    refine g_iconst (nI 0) dX4_showLost_24 rfl ?_
    refine g_istore [some (.ref 3), some (.ref 1), some (.int (nI l)), some (.long (slL l Y)), none, some (.long (slL l Y)), none, some (.int (nI 0)), none, none, none, none] dX4_showLost_25 (Nat.le_of_ble_eq_true rfl) rfl rfl ?_
    exact c_showLost_1 hn h14 hl h0 hY (l + 1) 0 (by omega) (by omega)
/-- the sum at s of backs and readings -/
def svS (b : Nat → Int64) (rd : Nat → Int32) (n s : Nat) : Nat → Int64
  | 0 => 0
  | i + 1 => svS b rd n s i + b i * (rd ((s + i) % n)).toInt64
def svQ (b : Nat → Int64) (rd : Nat → Int32) (d : Int64) (n s : Nat) : Int64 := quF (svS b rd n s n) d
def svO (b : Nat → Int64) (rd : Nat → Int32) (d : Int64) (n s : Nat) : Prop := ¬ svQ b rd d n s < -1000 ∧ ¬ 1000 < svQ b rd d n s ∧ svQ b rd d n s * d = svS b rd n s n
theorem c_solvedIn {μ : Mm} {n s : Nat} (hn : μ.1 1 2 = nI n) (h14 : n ≤ 14) (hs : s < n) {R : Option Value × Mm} (hE : G mX4_showSolved (rmL 2) R μ 62 [some (.ref 3), some (.ref 1), some (.int (nI n)), some (.int (nI s)), some (.long (svS (μ.2 27) (μ.1 9) n s n)), none, none] []) : ∀ (m j : Nat), j ≤ n → n < j + m → G mX4_showSolved (rmL 2) R μ 23 [some (.ref 3), some (.ref 1), some (.int (nI n)), some (.int (nI s)), some (.long (svS (μ.2 27) (μ.1 9) n s j)), none, some (.int (nI j))] [] := by
  intro m
  induction m with
  | zero => exact fun i h1 h2 => absurd h2 (by omega)
  | succ m ih =>
    intro j h1 h2
    have em : (s + j) % n < 60 := by have := Nat.mod_lt (s + j) (show 0 < n by omega); omega
    refine g_iload _ dX4_showSolved_23 rfl ?_
    refine g_iload_n 2 _ dX4_showSolved_25 rfl rfl ?_
    refine g_icmp_geN 62 (by omega) (by omega) dX4_showSolved_26 (by decide) (fun h26 => ?_) (fun h26 => ?_)
    · exact g_drop 6 _ rfl (by rw [show j = n by omega]; exact hE)
    · refine g_lload _ dX4_showSolved_29 rfl ?_
      refine g_aload_n 0 _ dX4_showSolved_31 rfl rfl ?_
      refine gf_X4_16 rfl dX4_showSolved_32 ?_
      refine g_iload _ dX4_showSolved_35 rfl ?_
      refine g_laload (j := j) isL_27 (rfl) (by omega) (by omega) dX4_showSolved_37 ?_
      refine g_aload_n 1 _ dX4_showSolved_38 rfl rfl ?_
      refine g_iconst (nI 2) dX4_showSolved_39 rfl ?_
      refine g_at 40 rfl ?_
      refine g_aload_n 1 _ dX4_showSolved_40 rfl rfl ?_
      refine g_iload_n 3 _ dX4_showSolved_41 rfl rfl ?_
      refine g_iload _ dX4_showSolved_42 rfl ?_
      refine g_iaddN dX4_showSolved_44 ?_
      refine g_backi (g_runVN ((c_wrap μ (nI (s + j)) (n := n) hn).to (by rw [wrF_add (by omega) (by omega) (by omega)])) rfl mw_X1_wrap mi_X1_wrap mn_X4_72 isO_1 ⟨rfl, rfl, Nat.le_of_ble_eq_true rfl, Nat.le_of_ble_eq_true rfl⟩ rfl rfl (Nat.le_of_ble_eq_true rfl) dX4_showSolved_45) ?_
      refine g_top (w := .int (nI ((s + j) % n))) rfl ?_
      refine g_backi (g_runVN (c_get μ (w := 2) (j := (s + j) % n) (by omega) em) rfl mw_X1_get mi_X1_get mn_X4_79 isO_1 ⟨rfl, rfl, Nat.le_of_ble_eq_true rfl, Nat.le_of_ble_eq_true rfl⟩ rfl rfl (Nat.le_of_ble_eq_true rfl) dX4_showSolved_48) ?_
      refine g_top (w := .int (μ.1 9 ((s + j) % n))) rfl ?_
      refine g_i2l dX4_showSolved_51 ?_
      refine g_lmul dX4_showSolved_52 ?_
      refine g_at 53 rfl ?_
      refine g_ladd dX4_showSolved_53 ?_
      refine g_lstore [some (.ref 3), some (.ref 1), some (.int (nI n)), some (.int (nI s)), some (.long ((svS (μ.2 27) (μ.1 9) n s j) + ((μ.2 27 j) * ((μ.1 9 ((s + j) % n)).toInt64)))), none, some (.int (nI j))] dX4_showSolved_54 (Nat.le_of_ble_eq_true rfl) rfl rfl ?_
      refine g_iincN [some (.ref 3), some (.ref 1), some (.int (nI n)), some (.int (nI s)), some (.long ((svS (μ.2 27) (μ.1 9) n s j) + ((μ.2 27 j) * ((μ.1 9 ((s + j) % n)).toInt64)))), none, some (.int (nI (j + 1)))] dX4_showSolved_56 rfl (Nat.le_of_ble_eq_true rfl) rfl rfl ?_
      refine g_goto 23 dX4_showSolved_59 (by decide) ?_
      exact ih (j + 1) (by omega) (by omega)
abbrev svM (μ : Mm) (n s : Nat) : Mm := sRL μ 28 (fil (μ.2 28) (svQ (μ.2 27) (μ.1 9) (μ.2 3 3) n) s)
theorem c_solved_put {μ : Mm} {n : Nat} (hn : μ.1 1 2 = nI n) (h14 : n ≤ 14) {R : Option Value × Mm} (hR : R = (some (.int (nI 1)), sR (svM μ n n) 8 (fil (μ.1 8) (fun s => (svQ (μ.2 27) (μ.1 9) (μ.2 3 3) n s).toInt32) n))) : ∀ (m s : Nat), s ≤ n → n < s + m → G mX4_showSolved (rmL 2) R (sR (svM μ n n) 8 (fil (μ.1 8) (fun s => (svQ (μ.2 27) (μ.1 9) (μ.2 3 3) n s).toInt32) s)) 142 [some (.ref 3), some (.ref 1), some (.int (nI n)), some (.int (nI s)), none, none, none] [] := by
  intro m
  induction m with
  | zero => exact fun i h1 h2 => absurd h2 (by omega)
  | succ m ih =>
    intro s h1 h2
    have ev : s < n → fil (μ.2 28) (svQ (μ.2 27) (μ.1 9) (μ.2 3 3) n) n s = svQ (μ.2 27) (μ.1 9) (μ.2 3 3) n s := fun h => fil_in h
    refine g_iload_n 3 _ dX4_showSolved_142 rfl rfl ?_
    refine g_iload_n 2 _ dX4_showSolved_143 rfl rfl ?_
    refine g_icmp_geN 166 (by omega) (by omega) dX4_showSolved_144 (by decide) (fun h144 => ?_) (fun h144 => ?_)
    · refine g_iconst (nI 1) dX4_showSolved_166 rfl ?_
      exact g_ireturn dX4_showSolved_167 rfl rfl (by rw [hR, show s = n by omega])
    · refine g_aload_n 1 _ dX4_showSolved_147 rfl rfl ?_
      refine g_iconst (nI 1) dX4_showSolved_148 rfl ?_
      refine g_iload_n 3 _ dX4_showSolved_149 rfl rfl ?_
      refine g_aload_n 0 _ dX4_showSolved_150 rfl rfl ?_
      refine gf_X4_20 rfl dX4_showSolved_151 ?_
      refine g_iload_n 3 _ dX4_showSolved_154 rfl rfl ?_
      refine g_laload (j := s) isL_28 (rfl) (by omega) (by omega) dX4_showSolved_155 ?_
      refine g_top (w := .long (svQ (μ.2 27) (μ.1 9) (μ.2 3 3) n s)) (congrArg Value.long (ev (by omega))) ?_
      refine g_at 156 rfl ?_
      refine g_l2i dX4_showSolved_156 ?_
      refine g_backv (g_runVN (c_put (sR (svM μ n n) 8 (fil (μ.1 8) (fun s => (svQ (μ.2 27) (μ.1 9) (μ.2 3 3) n s).toInt32) s)) (w := 1) (j := s) ((svQ (μ.2 27) (μ.1 9) (μ.2 3 3) n s).toInt32) (by omega) (by omega)) rfl mw_X1_put mi_X1_put mn_X4_76 isO_1 ⟨rfl, rfl, Nat.le_of_ble_eq_true rfl, Nat.le_of_ble_eq_true rfl⟩ rfl rfl (Nat.le_of_ble_eq_true rfl) dX4_showSolved_157) ?_
      refine g_mem (μ' := sI (sR (svM μ n n) 8 (fil (μ.1 8) (fun s => (svQ (μ.2 27) (μ.1 9) (μ.2 3 3) n s).toInt32) s)) 8 s ((svQ (μ.2 27) (μ.1 9) (μ.2 3 3) n s).toInt32)) rfl ?_
      refine g_mem (μ' := sR (svM μ n n) 8 (fil (μ.1 8) (fun s => (svQ (μ.2 27) (μ.1 9) (μ.2 3 3) n s).toInt32) (s + 1))) (by exact sR_fil _ _ _ _ _ rfl) ?_
      refine g_iincN [some (.ref 3), some (.ref 1), some (.int (nI n)), some (.int (nI (s + 1))), none, none, none] dX4_showSolved_160 rfl (Nat.le_of_ble_eq_true rfl) rfl rfl ?_
      refine g_goto 142 dX4_showSolved_163 (by decide) ?_
      exact ih (s + 1) (by omega) (by omega)
theorem svM_st {μ : Mm} {n s : Nat} : sL (svM μ n s) 28 s (svQ (μ.2 27) (μ.1 9) (μ.2 3 3) n s) = svM μ n (s + 1) := sRL_fil _ _ _ _ _ rfl
theorem svM_at {μ : Mm} {n s : Nat} : (svM μ n (s + 1)).2 28 s = svQ (μ.2 27) (μ.1 9) (μ.2 3 3) n s := fil_in (Nat.lt_succ_self s)
theorem c_solved_yes {μ : Mm} {n : Nat} (hn : μ.1 1 2 = nI n) (h14 : n ≤ 14) (hO : ∀ s, s < n → svO (μ.2 27) (μ.1 9) (μ.2 3 3) n s) {R : Option Value × Mm} (hR : R = (some (.int (nI 1)), sR (svM μ n n) 8 (fil (μ.1 8) (fun s => (svQ (μ.2 27) (μ.1 9) (μ.2 3 3) n s).toInt32) n))) : ∀ (m s : Nat) (v w : Option Value), s ≤ n → n < s + m → G mX4_showSolved (rmL 2) R (svM μ n s) 12 [some (.ref 3), some (.ref 1), some (.int (nI n)), some (.int (nI s)), v, none, w] [] := by
  intro m
  induction m with
  | zero => exact fun i v w h1 h2 => absurd h2 (by omega)
  | succ m ih =>
    intro s v w h1 h2
    refine g_drop 4 _ rfl (g_drop 6 _ rfl ?_)
    have em : svM μ n n = sR (svM μ n n) 8 (fil (μ.1 8) (fun s => (svQ (μ.2 27) (μ.1 9) (μ.2 3 3) n s).toInt32) 0) := by
      have e : (svM μ n n).1 8 = μ.1 8 := rfl
      rw [fil_0, ← e, sR_id]
    have hE : s < n → G mX4_showSolved (rmL 2) R (svM μ n s) 62 [some (.ref 3), some (.ref 1), some (.int (nI n)), some (.int (nI s)), some (.long (svS ((svM μ n s).2 27) ((svM μ n s).1 9) n s n)), none, none] [] := by
      intro hs
      obtain ⟨o1, o2, o3⟩ := hO s hs
      refine g_aload_n 0 _ dX4_showSolved_62 rfl rfl ?_
      refine gf_X4_20 rfl dX4_showSolved_63 ?_
      refine g_iload_n 3 _ dX4_showSolved_66 rfl rfl ?_
      refine g_lload _ dX4_showSolved_67 rfl ?_
      refine g_aload_n 0 _ dX4_showSolved_69 rfl rfl ?_
      refine gf_X4_23 rfl dX4_showSolved_70 ?_
      refine g_top (w := .long (μ.2 3 3)) (congrArg Value.long rfl) ?_
      refine g_backl (g_runSN (c_quotient (svM μ n s) (svS (μ.2 27) (μ.1 9) n s n) (μ.2 3 3)) rfl mw_X5_quotient ms_X5_quotient mn_X4_61 ⟨rfl, rfl, Nat.le_of_ble_eq_true rfl, Nat.le_of_ble_eq_true rfl⟩ rfl rfl (Nat.le_of_ble_eq_true rfl) dX4_showSolved_73) ?_
      refine g_top (w := .long (svQ (μ.2 27) (μ.1 9) (μ.2 3 3) n s)) rfl ?_
      refine g_at 76 rfl ?_
      refine g_lastore (j := s) isL_28 (rfl) (by omega) (by omega) dX4_showSolved_76 ?_
      refine g_mem (μ' := svM μ n (s + 1)) (by exact svM_st) ?_
      refine g_aload_n 0 _ dX4_showSolved_77 rfl rfl ?_
      refine gf_X4_20 rfl dX4_showSolved_78 ?_
      refine g_iload_n 3 _ dX4_showSolved_81 rfl rfl ?_
      refine g_laload (j := s) isL_28 (rfl) (by omega) (by omega) dX4_showSolved_82 ?_
      refine g_top (w := .long (svQ (μ.2 27) (μ.1 9) (μ.2 3 3) n s)) (congrArg Value.long svM_at) ?_
      refine g_ldc2 _ rfl kl_X4_82 dX4_showSolved_83 ?_
      refine g_lcmp dX4_showSolved_86 ?_
      refine g_if_ltC 107 dX4_showSolved_87 (by decide) (fun h87 => ?_) (fun h87 => ?_)
      · exact absurd h87 o1
      · refine g_aload_n 0 _ dX4_showSolved_90 rfl rfl ?_
        refine gf_X4_20 rfl dX4_showSolved_91 ?_
        refine g_iload_n 3 _ dX4_showSolved_94 rfl rfl ?_
        refine g_laload (j := s) isL_28 (rfl) (by omega) (by omega) dX4_showSolved_95 ?_
        refine g_top (w := .long (svQ (μ.2 27) (μ.1 9) (μ.2 3 3) n s)) (congrArg Value.long svM_at) ?_
        refine g_ldc2 _ rfl kl_X4_84 dX4_showSolved_96 ?_
        refine g_lcmp dX4_showSolved_99 ?_
        refine g_if_gtC 107 dX4_showSolved_100 (by decide) (fun h100 => ?_) (fun h100 => ?_)
        · exact absurd h100 o2
        · refine g_iconst (nI 1) dX4_showSolved_103 rfl ?_
          refine g_goto 108 dX4_showSolved_104 (by decide) ?_
          refine g_istore [some (.ref 3), some (.ref 1), some (.int (nI n)), some (.int (nI s)), some (.long (svS (μ.2 27) (μ.1 9) n s n)), none, some (.int (nI 1))] dX4_showSolved_108 (Nat.le_of_ble_eq_true rfl) rfl rfl ?_
          refine g_iload _ dX4_showSolved_110 rfl ?_
          refine g_if_eqN 132 (by omega) dX4_showSolved_112 (by decide) (fun h112 => ?_) (fun h112 => ?_)
          · exact absurd h112 (by omega)
          · refine g_aload_n 0 _ dX4_showSolved_115 rfl rfl ?_
            refine gf_X4_20 rfl dX4_showSolved_116 ?_
            refine g_iload_n 3 _ dX4_showSolved_119 rfl rfl ?_
            refine g_laload (j := s) isL_28 (rfl) (by omega) (by omega) dX4_showSolved_120 ?_
            refine g_top (w := .long (svQ (μ.2 27) (μ.1 9) (μ.2 3 3) n s)) (congrArg Value.long svM_at) ?_
            refine g_aload_n 0 _ dX4_showSolved_121 rfl rfl ?_
            refine gf_X4_23 rfl dX4_showSolved_122 ?_
            refine g_top (w := .long (μ.2 3 3)) (congrArg Value.long rfl) ?_
            refine g_lmul dX4_showSolved_125 ?_
            refine g_at 126 rfl ?_
            refine g_lload _ dX4_showSolved_126 rfl ?_
            refine g_lcmp dX4_showSolved_128 ?_
            refine g_if_eqC 134 dX4_showSolved_129 (by decide) (fun h129 => ?_) (fun h129 => ?_)
            · refine g_iincN [some (.ref 3), some (.ref 1), some (.int (nI n)), some (.int (nI (s + 1))), some (.long (svS (μ.2 27) (μ.1 9) n s n)), none, some (.int (nI 1))] dX4_showSolved_134 rfl (Nat.le_of_ble_eq_true rfl) rfl rfl ?_
              refine g_goto 12 dX4_showSolved_137 (by decide) ?_
              exact ih (s + 1) _ _ (by omega) (by omega)
            · exact absurd o3 h129
    refine g_iload_n 3 _ dX4_showSolved_12 rfl rfl ?_
    refine g_iload_n 2 _ dX4_showSolved_13 rfl rfl ?_
    refine g_icmp_geN 140 (by omega) (by omega) dX4_showSolved_14 (by decide) (fun hh14 => ?_) (fun hh14 => ?_)
    · refine g_iconst (nI 0) dX4_showSolved_140 rfl ?_
      refine g_istore_n [some (.ref 3), some (.ref 1), some (.int (nI n)), some (.int (nI 0)), none, none, none] dX4_showSolved_141 rfl (Nat.le_of_ble_eq_true rfl) rfl rfl ?_
      exact g_mem (by rw [show s = n by omega]; exact em) (c_solved_put hn h14 hR (n + 1) 0 (by omega) (by omega))
    · refine g_lconst 0 dX4_showSolved_17 rfl ?_
      refine g_lstore [some (.ref 3), some (.ref 1), some (.int (nI n)), some (.int (nI s)), some (.long 0), none, none] dX4_showSolved_18 (Nat.le_of_ble_eq_true rfl) rfl rfl ?_
      refine g_iconst (nI 0) dX4_showSolved_20 rfl ?_
      refine g_istore [some (.ref 3), some (.ref 1), some (.int (nI n)), some (.int (nI s)), some (.long 0), none, some (.int (nI 0))] dX4_showSolved_21 (Nat.le_of_ble_eq_true rfl) rfl rfl ?_
      exact c_solvedIn (μ := svM μ n s) hn h14 (by omega) (hE (by omega)) (n + 1) 0 (by omega) (by omega)
theorem c_solved_no {μ : Mm} {n k : Nat} (hn : μ.1 1 2 = nI n) (h14 : n ≤ 14) (hk : k < n) (hO : ∀ s, s < k → svO (μ.2 27) (μ.1 9) (μ.2 3 3) n s) (hB : ¬ svO (μ.2 27) (μ.1 9) (μ.2 3 3) n k) {R : Option Value × Mm} (hR : R = (some (.int (nI 0)), svM μ n (k + 1))) : ∀ (m s : Nat) (v w : Option Value), s ≤ k → k < s + m → G mX4_showSolved (rmL 2) R (svM μ n s) 12 [some (.ref 3), some (.ref 1), some (.int (nI n)), some (.int (nI s)), v, none, w] [] := by
  intro m
  induction m with
  | zero => exact fun i v w h1 h2 => absurd h2 (by omega)
  | succ m ih =>
    intro s v w h1 h2
    refine g_drop 4 _ rfl (g_drop 6 _ rfl ?_)
    have hE : G mX4_showSolved (rmL 2) R (svM μ n s) 62 [some (.ref 3), some (.ref 1), some (.int (nI n)), some (.int (nI s)), some (.long (svS ((svM μ n s).2 27) ((svM μ n s).1 9) n s n)), none, none] [] := by
      by_cases hs : s < k
      · obtain ⟨o1, o2, o3⟩ := hO s hs
        refine g_aload_n 0 _ dX4_showSolved_62 rfl rfl ?_
        refine gf_X4_20 rfl dX4_showSolved_63 ?_
        refine g_iload_n 3 _ dX4_showSolved_66 rfl rfl ?_
        refine g_lload _ dX4_showSolved_67 rfl ?_
        refine g_aload_n 0 _ dX4_showSolved_69 rfl rfl ?_
        refine gf_X4_23 rfl dX4_showSolved_70 ?_
        refine g_top (w := .long (μ.2 3 3)) (congrArg Value.long rfl) ?_
        refine g_backl (g_runSN (c_quotient (svM μ n s) (svS (μ.2 27) (μ.1 9) n s n) (μ.2 3 3)) rfl mw_X5_quotient ms_X5_quotient mn_X4_61 ⟨rfl, rfl, Nat.le_of_ble_eq_true rfl, Nat.le_of_ble_eq_true rfl⟩ rfl rfl (Nat.le_of_ble_eq_true rfl) dX4_showSolved_73) ?_
        refine g_top (w := .long (svQ (μ.2 27) (μ.1 9) (μ.2 3 3) n s)) rfl ?_
        refine g_at 76 rfl ?_
        refine g_lastore (j := s) isL_28 (rfl) (by omega) (by omega) dX4_showSolved_76 ?_
        refine g_mem (μ' := svM μ n (s + 1)) (by exact svM_st) ?_
        refine g_aload_n 0 _ dX4_showSolved_77 rfl rfl ?_
        refine gf_X4_20 rfl dX4_showSolved_78 ?_
        refine g_iload_n 3 _ dX4_showSolved_81 rfl rfl ?_
        refine g_laload (j := s) isL_28 (rfl) (by omega) (by omega) dX4_showSolved_82 ?_
        refine g_top (w := .long (svQ (μ.2 27) (μ.1 9) (μ.2 3 3) n s)) (congrArg Value.long svM_at) ?_
        refine g_ldc2 _ rfl kl_X4_82 dX4_showSolved_83 ?_
        refine g_lcmp dX4_showSolved_86 ?_
        refine g_if_ltC 107 dX4_showSolved_87 (by decide) (fun h87 => ?_) (fun h87 => ?_)
        · exact absurd h87 o1
        · refine g_aload_n 0 _ dX4_showSolved_90 rfl rfl ?_
          refine gf_X4_20 rfl dX4_showSolved_91 ?_
          refine g_iload_n 3 _ dX4_showSolved_94 rfl rfl ?_
          refine g_laload (j := s) isL_28 (rfl) (by omega) (by omega) dX4_showSolved_95 ?_
          refine g_top (w := .long (svQ (μ.2 27) (μ.1 9) (μ.2 3 3) n s)) (congrArg Value.long svM_at) ?_
          refine g_ldc2 _ rfl kl_X4_84 dX4_showSolved_96 ?_
          refine g_lcmp dX4_showSolved_99 ?_
          refine g_if_gtC 107 dX4_showSolved_100 (by decide) (fun h100 => ?_) (fun h100 => ?_)
          · exact absurd h100 o2
          · refine g_iconst (nI 1) dX4_showSolved_103 rfl ?_
            refine g_goto 108 dX4_showSolved_104 (by decide) ?_
            refine g_istore [some (.ref 3), some (.ref 1), some (.int (nI n)), some (.int (nI s)), some (.long (svS (μ.2 27) (μ.1 9) n s n)), none, some (.int (nI 1))] dX4_showSolved_108 (Nat.le_of_ble_eq_true rfl) rfl rfl ?_
            refine g_iload _ dX4_showSolved_110 rfl ?_
            refine g_if_eqN 132 (by omega) dX4_showSolved_112 (by decide) (fun h112 => ?_) (fun h112 => ?_)
            · exact absurd h112 (by omega)
            · refine g_aload_n 0 _ dX4_showSolved_115 rfl rfl ?_
              refine gf_X4_20 rfl dX4_showSolved_116 ?_
              refine g_iload_n 3 _ dX4_showSolved_119 rfl rfl ?_
              refine g_laload (j := s) isL_28 (rfl) (by omega) (by omega) dX4_showSolved_120 ?_
              refine g_top (w := .long (svQ (μ.2 27) (μ.1 9) (μ.2 3 3) n s)) (congrArg Value.long svM_at) ?_
              refine g_aload_n 0 _ dX4_showSolved_121 rfl rfl ?_
              refine gf_X4_23 rfl dX4_showSolved_122 ?_
              refine g_top (w := .long (μ.2 3 3)) (congrArg Value.long rfl) ?_
              refine g_lmul dX4_showSolved_125 ?_
              refine g_at 126 rfl ?_
              refine g_lload _ dX4_showSolved_126 rfl ?_
              refine g_lcmp dX4_showSolved_128 ?_
              refine g_if_eqC 134 dX4_showSolved_129 (by decide) (fun h129 => ?_) (fun h129 => ?_)
              · refine g_iincN [some (.ref 3), some (.ref 1), some (.int (nI n)), some (.int (nI (s + 1))), some (.long (svS (μ.2 27) (μ.1 9) n s n)), none, some (.int (nI 1))] dX4_showSolved_134 rfl (Nat.le_of_ble_eq_true rfl) rfl rfl ?_
                refine g_goto 12 dX4_showSolved_137 (by decide) ?_
                exact ih (s + 1) _ _ (by omega) (by omega)
              · exact absurd o3 h129
      · have hsk : s = k := by omega
        subst hsk
        refine g_aload_n 0 _ dX4_showSolved_62 rfl rfl ?_
        refine gf_X4_20 rfl dX4_showSolved_63 ?_
        refine g_iload_n 3 _ dX4_showSolved_66 rfl rfl ?_
        refine g_lload _ dX4_showSolved_67 rfl ?_
        refine g_aload_n 0 _ dX4_showSolved_69 rfl rfl ?_
        refine gf_X4_23 rfl dX4_showSolved_70 ?_
        refine g_top (w := .long (μ.2 3 3)) (congrArg Value.long rfl) ?_
        refine g_backl (g_runSN (c_quotient (svM μ n s) (svS (μ.2 27) (μ.1 9) n s n) (μ.2 3 3)) rfl mw_X5_quotient ms_X5_quotient mn_X4_61 ⟨rfl, rfl, Nat.le_of_ble_eq_true rfl, Nat.le_of_ble_eq_true rfl⟩ rfl rfl (Nat.le_of_ble_eq_true rfl) dX4_showSolved_73) ?_
        refine g_top (w := .long (svQ (μ.2 27) (μ.1 9) (μ.2 3 3) n s)) rfl ?_
        refine g_at 76 rfl ?_
        refine g_lastore (j := s) isL_28 (rfl) (by omega) (by omega) dX4_showSolved_76 ?_
        refine g_mem (μ' := svM μ n (s + 1)) (by exact svM_st) ?_
        refine g_aload_n 0 _ dX4_showSolved_77 rfl rfl ?_
        refine gf_X4_20 rfl dX4_showSolved_78 ?_
        refine g_iload_n 3 _ dX4_showSolved_81 rfl rfl ?_
        refine g_laload (j := s) isL_28 (rfl) (by omega) (by omega) dX4_showSolved_82 ?_
        refine g_top (w := .long (svQ (μ.2 27) (μ.1 9) (μ.2 3 3) n s)) (congrArg Value.long svM_at) ?_
        refine g_ldc2 _ rfl kl_X4_82 dX4_showSolved_83 ?_
        refine g_lcmp dX4_showSolved_86 ?_
        refine g_if_ltC 107 dX4_showSolved_87 (by decide) (fun h87 => ?_) (fun h87 => ?_)
        · refine g_iconst (nI 0) dX4_showSolved_107 rfl ?_
          refine g_istore [some (.ref 3), some (.ref 1), some (.int (nI n)), some (.int (nI s)), some (.long (svS (μ.2 27) (μ.1 9) n s n)), none, some (.int (nI 0))] dX4_showSolved_108 (Nat.le_of_ble_eq_true rfl) rfl rfl ?_
          refine g_iload _ dX4_showSolved_110 rfl ?_
          refine g_if_eqN 132 (by omega) dX4_showSolved_112 (by decide) (fun h112 => ?_) (fun h112 => ?_)
          · refine g_iconst (nI 0) dX4_showSolved_132 rfl ?_
            exact g_ireturn dX4_showSolved_133 rfl rfl hR
          · exact absurd h112 (by omega)
        · refine g_aload_n 0 _ dX4_showSolved_90 rfl rfl ?_
          refine gf_X4_20 rfl dX4_showSolved_91 ?_
          refine g_iload_n 3 _ dX4_showSolved_94 rfl rfl ?_
          refine g_laload (j := s) isL_28 (rfl) (by omega) (by omega) dX4_showSolved_95 ?_
          refine g_top (w := .long (svQ (μ.2 27) (μ.1 9) (μ.2 3 3) n s)) (congrArg Value.long svM_at) ?_
          refine g_ldc2 _ rfl kl_X4_84 dX4_showSolved_96 ?_
          refine g_lcmp dX4_showSolved_99 ?_
          refine g_if_gtC 107 dX4_showSolved_100 (by decide) (fun h100 => ?_) (fun h100 => ?_)
          · refine g_iconst (nI 0) dX4_showSolved_107 rfl ?_
            refine g_istore [some (.ref 3), some (.ref 1), some (.int (nI n)), some (.int (nI s)), some (.long (svS (μ.2 27) (μ.1 9) n s n)), none, some (.int (nI 0))] dX4_showSolved_108 (Nat.le_of_ble_eq_true rfl) rfl rfl ?_
            refine g_iload _ dX4_showSolved_110 rfl ?_
            refine g_if_eqN 132 (by omega) dX4_showSolved_112 (by decide) (fun h112 => ?_) (fun h112 => ?_)
            · refine g_iconst (nI 0) dX4_showSolved_132 rfl ?_
              exact g_ireturn dX4_showSolved_133 rfl rfl hR
            · exact absurd h112 (by omega)
          · refine g_iconst (nI 1) dX4_showSolved_103 rfl ?_
            refine g_goto 108 dX4_showSolved_104 (by decide) ?_
            refine g_istore [some (.ref 3), some (.ref 1), some (.int (nI n)), some (.int (nI s)), some (.long (svS (μ.2 27) (μ.1 9) n s n)), none, some (.int (nI 1))] dX4_showSolved_108 (Nat.le_of_ble_eq_true rfl) rfl rfl ?_
            refine g_iload _ dX4_showSolved_110 rfl ?_
            refine g_if_eqN 132 (by omega) dX4_showSolved_112 (by decide) (fun h112 => ?_) (fun h112 => ?_)
            · exact absurd h112 (by omega)
            · refine g_aload_n 0 _ dX4_showSolved_115 rfl rfl ?_
              refine gf_X4_20 rfl dX4_showSolved_116 ?_
              refine g_iload_n 3 _ dX4_showSolved_119 rfl rfl ?_
              refine g_laload (j := s) isL_28 (rfl) (by omega) (by omega) dX4_showSolved_120 ?_
              refine g_top (w := .long (svQ (μ.2 27) (μ.1 9) (μ.2 3 3) n s)) (congrArg Value.long svM_at) ?_
              refine g_aload_n 0 _ dX4_showSolved_121 rfl rfl ?_
              refine gf_X4_23 rfl dX4_showSolved_122 ?_
              refine g_top (w := .long (μ.2 3 3)) (congrArg Value.long rfl) ?_
              refine g_lmul dX4_showSolved_125 ?_
              refine g_at 126 rfl ?_
              refine g_lload _ dX4_showSolved_126 rfl ?_
              refine g_lcmp dX4_showSolved_128 ?_
              refine g_if_eqC 134 dX4_showSolved_129 (by decide) (fun h129 => ?_) (fun h129 => ?_)
              · exact absurd ⟨h87, h100, h129⟩ hB
              · refine g_iconst (nI 0) dX4_showSolved_132 rfl ?_
                exact g_ireturn dX4_showSolved_133 rfl rfl hR
    refine g_iload_n 3 _ dX4_showSolved_12 rfl rfl ?_
    refine g_iload_n 2 _ dX4_showSolved_13 rfl rfl ?_
    refine g_icmp_geN 140 (by omega) (by omega) dX4_showSolved_14 (by decide) (fun hh14 => ?_) (fun hh14 => ?_)
    · exact absurd hh14 (by omega)
    · refine g_lconst 0 dX4_showSolved_17 rfl ?_
      refine g_lstore [some (.ref 3), some (.ref 1), some (.int (nI n)), some (.int (nI s)), some (.long 0), none, none] dX4_showSolved_18 (Nat.le_of_ble_eq_true rfl) rfl rfl ?_
      refine g_iconst (nI 0) dX4_showSolved_20 rfl ?_
      refine g_istore [some (.ref 3), some (.ref 1), some (.int (nI n)), some (.int (nI s)), some (.long 0), none, some (.int (nI 0))] dX4_showSolved_21 (Nat.le_of_ble_eq_true rfl) rfl rfl ?_
      exact c_solvedIn (μ := svM μ n s) hn h14 (by omega) hE (n + 1) 0 (by omega) (by omega)
theorem first_bad {P : Nat → Prop} {n : Nat} (h : ¬ ∀ s, s < n → P s) : ∃ k, k < n ∧ (∀ s, s < k → P s) ∧ ¬ P k := by
  induction n with
  | zero => exact absurd (fun s hs => absurd hs (Nat.not_lt_zero s)) h
  | succ n ih =>
    by_cases h1 : ∀ s, s < n → P s
    · refine ⟨n, Nat.lt_succ_self n, h1, fun hp => h (fun s hs => ?_)⟩
      by_cases e : s = n
      · exact e ▸ hp
      · exact h1 s (by omega)
    · obtain ⟨k, h2, h3, h4⟩ := ih h1
      exact ⟨k, by omega, h3, h4⟩
theorem c_showSolved_yes (μ : Mm) {n : Nat} (hn : μ.1 1 2 = nI n) (h14 : n ≤ 14) (hO : ∀ s, s < n → svO (μ.2 27) (μ.1 9) (μ.2 3 3) n s) : Ok mX4_showSolved (rmL 2) [.ref 3, .ref 1] μ (some (.int (nI 1)), sR (svM μ n n) 8 (fil (μ.1 8) (fun s => (svQ (μ.2 27) (μ.1 9) (μ.2 3 3) n s).toInt32) n)) := by
  refine Ok.of (by decide) (Nat.le_of_ble_eq_true rfl) [some (.ref 3), some (.ref 1), none, none, none, none, none] rfl ?_
  refine g_aload_n 1 _ dX4_showSolved_0 rfl rfl ?_
  refine gf_X4_31 rfl dX4_showSolved_1 ?_
  refine g_top (w := .int (nI n)) (congrArg Value.int hn) ?_
  refine g_bipush (nI 14) dX4_showSolved_4 rfl ?_
  refine g_mmin rfl tz_426 (Nat.le_of_ble_eq_true rfl) (Nat.le_of_ble_eq_true rfl) dX4_showSolved_6 ?_
  refine g_top (w := .int (nI n)) (congrArg Value.int (min14 h14)) ?_
  refine g_istore_n [some (.ref 3), some (.ref 1), some (.int (nI n)), none, none, none, none] dX4_showSolved_9 rfl (Nat.le_of_ble_eq_true rfl) rfl rfl ?_
  refine g_iconst (nI 0) dX4_showSolved_10 rfl ?_
  refine g_istore_n [some (.ref 3), some (.ref 1), some (.int (nI n)), some (.int (nI 0)), none, none, none] dX4_showSolved_11 rfl (Nat.le_of_ble_eq_true rfl) rfl rfl ?_
  exact g_mem (by unfold svM; rw [fil_0, sRL_id]) (c_solved_yes hn h14 hO rfl (n + 1) 0 _ _ (by omega) (by omega))
theorem c_showSolved_no (μ : Mm) {n : Nat} (hn : μ.1 1 2 = nI n) (h14 : n ≤ 14) (hO : ¬ ∀ s, s < n → svO (μ.2 27) (μ.1 9) (μ.2 3 3) n s) : ∃ k, Ok mX4_showSolved (rmL 2) [.ref 3, .ref 1] μ (some (.int (nI 0)), svM μ n k) := by
  obtain ⟨k, h1, h2, h3⟩ := first_bad hO
  refine ⟨k + 1, ?_⟩
  refine Ok.of (by decide) (Nat.le_of_ble_eq_true rfl) [some (.ref 3), some (.ref 1), none, none, none, none, none] rfl ?_
  refine g_aload_n 1 _ dX4_showSolved_0 rfl rfl ?_
  refine gf_X4_31 rfl dX4_showSolved_1 ?_
  refine g_top (w := .int (nI n)) (congrArg Value.int hn) ?_
  refine g_bipush (nI 14) dX4_showSolved_4 rfl ?_
  refine g_mmin rfl tz_426 (Nat.le_of_ble_eq_true rfl) (Nat.le_of_ble_eq_true rfl) dX4_showSolved_6 ?_
  refine g_top (w := .int (nI n)) (congrArg Value.int (min14 h14)) ?_
  refine g_istore_n [some (.ref 3), some (.ref 1), some (.int (nI n)), none, none, none, none] dX4_showSolved_9 rfl (Nat.le_of_ble_eq_true rfl) rfl rfl ?_
  refine g_iconst (nI 0) dX4_showSolved_10 rfl ?_
  refine g_istore_n [some (.ref 3), some (.ref 1), some (.int (nI n)), some (.int (nI 0)), none, none, none] dX4_showSolved_11 rfl (Nat.le_of_ble_eq_true rfl) rfl rfl ?_
  exact g_mem (by unfold svM; rw [fil_0, sRL_id]) (c_solved_no hn h14 h1 h2 h3 rfl (k + 1) 0 _ _ (by omega) (by omega))
