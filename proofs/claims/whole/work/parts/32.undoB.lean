/-! Undoer: invert, back, noise -/
theorem lN_big {n : Nat} (h : n < 2 ^ 63) : (lN n).toInt = (n : Int) := Int64.toInt_ofNat_of_lt h
def MINL : Int := -9223372036854775808
theorem gcdL {a b : Int64} (ha : a.toInt ≠ -9223372036854775808) (hb : b.toInt ≠ -9223372036854775808) : Nat.gcd a.toInt.natAbs b.toInt.natAbs < 2 ^ 63 := by
  have h1 := a.toInt_lt
  have h2 := a.le_toInt
  have h3 := b.toInt_lt
  have h4 := b.le_toInt
  by_cases h : a.toInt.natAbs = 0
  · rw [h, Nat.gcd_zero_left]; omega
  · have := Nat.gcd_le_left b.toInt.natAbs (Nat.pos_of_ne_zero h)
    omega
/-- common divisors, one after the other -/
def gF (x : Int64) (f : Nat → Int64) : Nat → Int64
  | 0 => x
  | i + 1 => lN (Nat.gcd (gF x f i).toInt.natAbs (f i).toInt.natAbs)
theorem gF_ok {x : Int64} {f : Nat → Int64} (hx : x.toInt ≠ -9223372036854775808) : ∀ (i : Nat), (∀ j, j < i → (f j).toInt ≠ -9223372036854775808) → (gF x f i).toInt ≠ -9223372036854775808 := by
  intro i
  induction i with
  | zero => exact fun _ => hx
  | succ i ih =>
    intro h
    have h1 := gcdL (ih (fun j hj => h j (by omega))) (h i (by omega))
    show (lN _).toInt ≠ _
    rw [lN_big h1]
    omega
def ivS (n : Nat) (Y : Mx) : Int64 := if Y (n - 1) (n - 1) < 0 then -(gF (Y (n - 1) (n - 1)) (fun j => Y j n) n) else gF (Y (n - 1) (n - 1)) (fun j => Y j n) n
def ivD (n : Nat) (Y : Mx) : Int64 := quF (Y (n - 1) (n - 1)) (ivS n Y)
def ivB (n : Nat) (Y : Mx) (j : Nat) : Int64 := quF (Y ((n - j) % n) n) (ivS n Y)
def mV (μ : Mm) (Y : Mx) (d : Int64) (f : Nat → Int64) : Mm := sRL (sL (mU μ Y) 3 3 d) 27 f
theorem mV_at {μ : Mm} {Y : Mx} {d : Int64} {f : Nat → Int64} {r : Nat} (h : r < 14) : (mV μ Y d f).2 (13 + r) = Y r := by
  show (if 13 + r = 27 then f else if 13 + r = 3 then _ else (mU μ Y).2 (13 + r)) = _
  rw [if_neg (by omega), if_neg (by omega), mU_at h]
theorem c_invert_2 {μ : Mm} {Y : Mx} {n : Nat} {x9 c9 : Int64} (hn : μ.1 1 2 = nI n) (h14 : n ≤ 14) : ∀ (m j : Nat), j ≤ n → n < j + m → G mX4_invert (rmL 4) (some (.int (nI 1)), mV μ Y (ivD n Y) (fil (μ.2 27) (ivB n Y) n)) (mV μ Y (ivD n Y) (fil (μ.2 27) (ivB n Y) j)) 97 [some (.ref 3), some (.ref 1), some (.int (nI n)), some (.long x9), none, some (.long c9), none, some (.long (ivS n Y)), none, some (.int (nI j))] [] := by
  intro m
  induction m with
  | zero => exact fun j h1 h2 => absurd h2 (by omega)
  | succ m ih =>
    intro j h1 h2
    have ew : j < n → wrF n (-(nI j)) = nI ((n - j) % n) := fun hj => by
      have e := wrF_sub (n := n) (a := 0) (b := j) (by omega) (by omega) hj
      rw [show nI 0 - nI j = -(nI j) from Int32.zero_sub _, Nat.zero_add] at e
      exact e
    have em : j < n → (n - j) % n < 14 := fun hj => by have := Nat.mod_lt (n - j) (show 0 < n by omega); omega
    refine g_iload _ dX4_invert_97 rfl ?_
    refine g_iload_n 2 _ dX4_invert_99 rfl rfl ?_
    refine g_icmp_geN 135 (by omega) (by omega) dX4_invert_100 (by decide) (fun h100 => ?_) (fun h100 => ?_)
    · refine g_iconst (nI 1) dX4_invert_135 rfl ?_
      exact g_ireturn dX4_invert_136 rfl rfl (by rw [show j = n by omega])
    · refine g_aload_n 0 _ dX4_invert_103 rfl rfl ?_
      refine gf_X4_16 rfl dX4_invert_104 ?_
      refine g_iload _ dX4_invert_107 rfl ?_
      refine g_aload_n 0 _ dX4_invert_109 rfl rfl ?_
      refine gf_X4_13 rfl dX4_invert_110 ?_
      refine g_aload_n 1 _ dX4_invert_113 rfl rfl ?_
      refine g_iload _ dX4_invert_114 rfl ?_
      refine g_at 116 rfl ?_
      refine g_ineg dX4_invert_116 ?_
      refine g_backi (g_runVN ((c_wrap (mV μ Y (ivD n Y) (fil (μ.2 27) (ivB n Y) j)) (-(nI j)) (n := n) hn).to (by rw [ew (by omega)])) rfl mw_X1_wrap mi_X1_wrap mn_X4_72 isO_1 ⟨rfl, rfl, Nat.le_of_ble_eq_true rfl, Nat.le_of_ble_eq_true rfl⟩ rfl rfl (Nat.le_of_ble_eq_true rfl) dX4_invert_117) ?_
      refine g_top (w := .int (nI ((n - j) % n))) rfl ?_
      refine g_aaload (j := (n - j) % n) isQ_12 (Or.inr rfl) (rfl) (em (by omega)) (by omega) dX4_invert_120 ?_
      refine g_iload_n 2 _ dX4_invert_121 rfl rfl ?_
      refine g_laload (j := n) (isL_row (w := ((n - j) % n)) (by omega)) (rfl) (by omega) (by omega) dX4_invert_122 ?_
      refine g_top (w := .long (Y ((n - j) % n) n)) (congrArg Value.long (by rw [mV_at (em (by omega))])) ?_
      refine g_lload _ dX4_invert_123 rfl ?_
      refine g_backl (g_runSN (c_quotient (mV μ Y (ivD n Y) (fil (μ.2 27) (ivB n Y) j)) (Y ((n - j) % n) n) (ivS n Y)) rfl mw_X5_quotient ms_X5_quotient mn_X4_61 ⟨rfl, rfl, Nat.le_of_ble_eq_true rfl, Nat.le_of_ble_eq_true rfl⟩ rfl rfl (Nat.le_of_ble_eq_true rfl) dX4_invert_125) ?_
      refine g_top (w := .long (ivB n Y j)) rfl ?_
      refine g_lastore (j := j) isL_27 (rfl) (by omega) (by omega) dX4_invert_128 ?_
      refine g_mem (μ' := mV μ Y (ivD n Y) (fil (μ.2 27) (ivB n Y) (j + 1))) (by exact sRL_fil _ _ _ _ _ rfl) ?_
      refine g_at 129 rfl ?_
      refine g_iincN [some (.ref 3), some (.ref 1), some (.int (nI n)), some (.long x9), none, some (.long c9), none, some (.long (ivS n Y)), none, some (.int (nI (j + 1)))] dX4_invert_129 rfl (Nat.le_of_ble_eq_true rfl) rfl rfl ?_
      refine g_goto 97 dX4_invert_132 (by decide) ?_
      exact ih (j + 1) (by omega) (by omega)
theorem c_invert_1 {μ : Mm} {Y : Mx} {n : Nat} (hn : μ.1 1 2 = nI n) (h14 : n ≤ 14) (h0 : 0 < n) (hY : ∀ i j, i < n → j ≤ n → (Y i j).toInt ≠ -9223372036854775808) : ∀ (m j : Nat), j ≤ n → n < j + m → G mX4_invert (rmL 4) (some (.int (nI 1)), mV μ Y (ivD n Y) (fil (μ.2 27) (ivB n Y) n)) (mU μ Y) 40 [some (.ref 3), some (.ref 1), some (.int (nI n)), some (.long (Y (n - 1) (n - 1))), none, some (.long (gF (Y (n - 1) (n - 1)) (fun j => Y j n) j)), none, some (.int (nI j)), none, none] [] := by
  intro m
  induction m with
  | zero => exact fun j h1 h2 => absurd h2 (by omega)
  | succ m ih =>
    intro j h1 h2
    have hg : j < n → (gF (Y (n - 1) (n - 1)) (fun j => Y j n) j).toInt ≠ -9223372036854775808 := fun hj => gF_ok (hY _ _ (by omega) (by omega)) j (fun i hi => hY _ _ (by omega) (by omega))
    have em : sL (mU μ Y) 3 3 (ivD n Y) = mV μ Y (ivD n Y) (fil (μ.2 27) (ivB n Y) 0) := by
      have e : (sL (mU μ Y) 3 3 (ivD n Y)).2 27 = μ.2 27 := rfl
      unfold mV
      rw [fil_0, ← e, sRL_id]
    refine g_iload _ dX4_invert_40 rfl ?_
    refine g_iload_n 2 _ dX4_invert_42 rfl rfl ?_
    refine g_icmp_geN 68 (by omega) (by omega) dX4_invert_43 (by decide) (fun h43 => ?_) (fun h43 => ?_)
    · refine g_lload_n 3 _ dX4_invert_68 rfl rfl ?_
      refine g_lconst 0 dX4_invert_69 rfl ?_
      refine g_lcmp dX4_invert_70 ?_
      refine g_if_geC 80 dX4_invert_71 (by decide) (fun h71 => ?_) (fun h71 => ?_)
      · refine g_lload _ dX4_invert_80 rfl ?_
        refine g_top (w := .long (ivS n Y)) (congrArg Value.long (by unfold ivS; rw [show j = n by omega]; first | rw [if_pos (by assumption)] | rw [if_neg (by assumption)])) ?_
        refine g_lstore [some (.ref 3), some (.ref 1), some (.int (nI n)), some (.long (Y (n - 1) (n - 1))), none, some (.long (gF (Y (n - 1) (n - 1)) (fun j => Y j n) j)), none, some (.long (ivS n Y)), none, none] dX4_invert_82 (Nat.le_of_ble_eq_true rfl) rfl rfl ?_
        refine g_aload_n 0 _ dX4_invert_84 rfl rfl ?_
        refine g_lload_n 3 _ dX4_invert_85 rfl rfl ?_
        refine g_lload _ dX4_invert_86 rfl ?_
        refine g_backl (g_runSN (c_quotient (mU μ Y) (Y (n - 1) (n - 1)) (ivS n Y)) rfl mw_X5_quotient ms_X5_quotient mn_X4_61 ⟨rfl, rfl, Nat.le_of_ble_eq_true rfl, Nat.le_of_ble_eq_true rfl⟩ rfl rfl (Nat.le_of_ble_eq_true rfl) dX4_invert_88) ?_
        refine g_top (w := .long (ivD n Y)) rfl ?_
        refine gp_X4_23 rfl dX4_invert_91 ?_
        refine g_at 94 rfl ?_
        refine g_iconst (nI 0) dX4_invert_94 rfl ?_
        refine g_istore [some (.ref 3), some (.ref 1), some (.int (nI n)), some (.long (Y (n - 1) (n - 1))), none, some (.long (gF (Y (n - 1) (n - 1)) (fun j => Y j n) j)), none, some (.long (ivS n Y)), none, some (.int (nI 0))] dX4_invert_95 (Nat.le_of_ble_eq_true rfl) rfl rfl ?_
        exact g_mem em (c_invert_2 hn h14 (n + 1) 0 (by omega) (by omega))
      · refine g_lload _ dX4_invert_74 rfl ?_
        refine g_lneg dX4_invert_76 ?_
        refine g_goto 82 dX4_invert_77 (by decide) ?_
        refine g_top (w := .long (ivS n Y)) (congrArg Value.long (by unfold ivS; rw [show j = n by omega]; first | rw [if_pos (by assumption)] | rw [if_neg (by assumption)])) ?_
        refine g_lstore [some (.ref 3), some (.ref 1), some (.int (nI n)), some (.long (Y (n - 1) (n - 1))), none, some (.long (gF (Y (n - 1) (n - 1)) (fun j => Y j n) j)), none, some (.long (ivS n Y)), none, none] dX4_invert_82 (Nat.le_of_ble_eq_true rfl) rfl rfl ?_
        refine g_aload_n 0 _ dX4_invert_84 rfl rfl ?_
        refine g_lload_n 3 _ dX4_invert_85 rfl rfl ?_
        refine g_lload _ dX4_invert_86 rfl ?_
        refine g_backl (g_runSN (c_quotient (mU μ Y) (Y (n - 1) (n - 1)) (ivS n Y)) rfl mw_X5_quotient ms_X5_quotient mn_X4_61 ⟨rfl, rfl, Nat.le_of_ble_eq_true rfl, Nat.le_of_ble_eq_true rfl⟩ rfl rfl (Nat.le_of_ble_eq_true rfl) dX4_invert_88) ?_
        refine g_top (w := .long (ivD n Y)) rfl ?_
        refine gp_X4_23 rfl dX4_invert_91 ?_
        refine g_iconst (nI 0) dX4_invert_94 rfl ?_
        refine g_at 95 rfl ?_
        refine g_istore [some (.ref 3), some (.ref 1), some (.int (nI n)), some (.long (Y (n - 1) (n - 1))), none, some (.long (gF (Y (n - 1) (n - 1)) (fun j => Y j n) j)), none, some (.long (ivS n Y)), none, some (.int (nI 0))] dX4_invert_95 (Nat.le_of_ble_eq_true rfl) rfl rfl ?_
        exact g_mem em (c_invert_2 hn h14 (n + 1) 0 (by omega) (by omega))
    · refine g_lload _ dX4_invert_46 rfl ?_
      refine g_aload_n 0 _ dX4_invert_48 rfl rfl ?_
      refine gf_X4_13 rfl dX4_invert_49 ?_
      refine g_iload _ dX4_invert_52 rfl ?_
      refine g_aaload (j := j) isQ_12 (Or.inr rfl) (rfl) (by omega) (by omega) dX4_invert_54 ?_
      refine g_iload_n 2 _ dX4_invert_55 rfl rfl ?_
      refine g_laload (j := n) (isL_row (w := j) (by omega)) (rfl) (by omega) (by omega) dX4_invert_56 ?_
      refine g_top (w := .long (Y j n)) (congrArg Value.long (by rw [mU_at (by omega)])) ?_
      refine g_at 57 rfl ?_
      refine g_backl (g_runSN (c_commonDivisor (mU μ Y) (gF (Y (n - 1) (n - 1)) (fun j => Y j n) j) (Y j n) (hg (by omega)) (hY _ _ (by omega) (by omega))) rfl mw_X5_commonDivisor ms_X5_commonDivisor mn_X4_69 ⟨rfl, rfl, Nat.le_of_ble_eq_true rfl, Nat.le_of_ble_eq_true rfl⟩ rfl rfl (Nat.le_of_ble_eq_true rfl) dX4_invert_57) ?_
      refine g_top (w := .long (gF (Y (n - 1) (n - 1)) (fun j => Y j n) (j + 1))) rfl ?_
      refine g_lstore [some (.ref 3), some (.ref 1), some (.int (nI n)), some (.long (Y (n - 1) (n - 1))), none, some (.long (gF (Y (n - 1) (n - 1)) (fun j => Y j n) (j + 1))), none, some (.int (nI j)), none, none] dX4_invert_60 (Nat.le_of_ble_eq_true rfl) rfl rfl ?_
      refine g_iincN [some (.ref 3), some (.ref 1), some (.int (nI n)), some (.long (Y (n - 1) (n - 1))), none, some (.long (gF (Y (n - 1) (n - 1)) (fun j => Y j n) (j + 1))), none, some (.int (nI (j + 1))), none, none] dX4_invert_62 rfl (Nat.le_of_ble_eq_true rfl) rfl rfl ?_
      refine g_goto 40 dX4_invert_65 (by decide) ?_
      exact ih (j + 1) (by omega) (by omega)
/-- what invert leaves -/
def ivM (μ : Mm) (n : Nat) (Y : Mx) : Mm := mV μ Y (ivD n Y) (fil (μ.2 27) (ivB n Y) n)
theorem min14 {n : Nat} (h14 : n ≤ 14) : (if nI 14 < nI n then nI 14 else nI n) = nI n := by rw [if_neg (by rw [nI_ltI (by omega) (by omega)]; omega)]
theorem c_invert_yes (μ : Mm) (X : Mx) {n : Nat} (hn : μ.1 1 2 = nI n) (h14 : n ≤ 14) (h0 : 0 < n) (hY : ∀ i j, i < n → j ≤ n → ((rdN (μ.1 7) n X).2 i j).toInt ≠ -9223372036854775808) (hr : (rdN (μ.1 7) n X).1 = n) : Ok mX4_invert (rmL 4) [.ref 3, .ref 1] (mU μ X) (some (.int (nI 1)), ivM μ n (rdN (μ.1 7) n X).2) := by
  refine Ok.of (by decide) (Nat.le_of_ble_eq_true rfl) [some (.ref 3), some (.ref 1), none, none, none, none, none, none, none, none] rfl ?_
  refine g_aload_n 1 _ dX4_invert_0 rfl rfl ?_
  refine gf_X4_31 rfl dX4_invert_1 ?_
  refine g_top (w := .int (nI n)) (congrArg Value.int hn) ?_
  refine g_bipush (nI 14) dX4_invert_4 rfl ?_
  refine g_mmin rfl tz_426 (Nat.le_of_ble_eq_true rfl) (Nat.le_of_ble_eq_true rfl) dX4_invert_6 ?_
  refine g_top (w := .int (nI n)) (congrArg Value.int (min14 h14)) ?_
  refine g_istore_n [some (.ref 3), some (.ref 1), some (.int (nI n)), none, none, none, none, none, none, none] dX4_invert_9 rfl (Nat.le_of_ble_eq_true rfl) rfl rfl ?_
  refine g_aload_n 0 _ dX4_invert_10 rfl rfl ?_
  refine g_aload_n 1 _ dX4_invert_11 rfl rfl ?_
  refine g_at 12 rfl ?_
  refine g_backi (g_runV ((c_reduce μ X (n := n) hn h14).to (by rw [hr])) rfl mw_X4_reduce mi_X4_reduce ml_X4_65 isO_3 ⟨rfl, rfl, Nat.le_of_ble_eq_true rfl, Nat.le_of_ble_eq_true rfl⟩ rfl rfl (Nat.le_of_ble_eq_true rfl) dX4_invert_12) ?_
  refine g_mem (μ' := mU μ (rdN (μ.1 7) n X).2) rfl ?_
  refine g_top (w := .int (nI n)) rfl ?_
  refine g_iload_n 2 _ dX4_invert_15 rfl rfl ?_
  refine g_icmp_geN 21 (by omega) (by omega) dX4_invert_16 (by decide) (fun h16 => ?_) (fun h16 => ?_)
  · refine g_aload_n 0 _ dX4_invert_21 rfl rfl ?_
    refine gf_X4_13 rfl dX4_invert_22 ?_
    refine g_iload_n 2 _ dX4_invert_25 rfl rfl ?_
    refine g_iconst (nI 1) dX4_invert_26 rfl ?_
    refine g_isubN (by omega) dX4_invert_27 ?_
    refine g_aaload (j := n - 1) isQ_12 (Or.inr rfl) (rfl) (by omega) (by omega) dX4_invert_28 ?_
    refine g_iload_n 2 _ dX4_invert_29 rfl rfl ?_
    refine g_at 30 rfl ?_
    refine g_iconst (nI 1) dX4_invert_30 rfl ?_
    refine g_isubN (by omega) dX4_invert_31 ?_
    refine g_laload (j := n - 1) (isL_row (w := (n - 1)) (by omega)) (rfl) (by omega) (by omega) dX4_invert_32 ?_
    refine g_top (w := .long ((rdN (μ.1 7) n X).2 (n - 1) (n - 1))) (congrArg Value.long (by rw [mU_at (by omega)])) ?_
    refine g_lstore_n [some (.ref 3), some (.ref 1), some (.int (nI n)), some (.long ((rdN (μ.1 7) n X).2 (n - 1) (n - 1))), none, none, none, none, none, none] dX4_invert_33 rfl (Nat.le_of_ble_eq_true rfl) rfl rfl ?_
    refine g_lload_n 3 _ dX4_invert_34 rfl rfl ?_
    refine g_lstore [some (.ref 3), some (.ref 1), some (.int (nI n)), some (.long ((rdN (μ.1 7) n X).2 (n - 1) (n - 1))), none, some (.long ((rdN (μ.1 7) n X).2 (n - 1) (n - 1))), none, none, none, none] dX4_invert_35 (Nat.le_of_ble_eq_true rfl) rfl rfl ?_
    refine g_iconst (nI 0) dX4_invert_37 rfl ?_
    refine g_istore [some (.ref 3), some (.ref 1), some (.int (nI n)), some (.long ((rdN (μ.1 7) n X).2 (n - 1) (n - 1))), none, some (.long ((rdN (μ.1 7) n X).2 (n - 1) (n - 1))), none, some (.int (nI 0)), none, none] dX4_invert_38 (Nat.le_of_ble_eq_true rfl) rfl rfl ?_
    exact c_invert_1 hn h14 h0 hY (n + 1) 0 (by omega) (by omega)
  · exact absurd h16 (by omega)
theorem c_invert_no (μ : Mm) (X : Mx) {n : Nat} (hn : μ.1 1 2 = nI n) (h14 : n ≤ 14) (hr : (rdN (μ.1 7) n X).1 < n) : Ok mX4_invert (rmL 4) [.ref 3, .ref 1] (mU μ X) (some (.int (nI 0)), mU μ (rdN (μ.1 7) n X).2) := by
  refine Ok.of (by decide) (Nat.le_of_ble_eq_true rfl) [some (.ref 3), some (.ref 1), none, none, none, none, none, none, none, none] rfl ?_
  refine g_aload_n 1 _ dX4_invert_0 rfl rfl ?_
  refine gf_X4_31 rfl dX4_invert_1 ?_
  refine g_top (w := .int (nI n)) (congrArg Value.int hn) ?_
  refine g_bipush (nI 14) dX4_invert_4 rfl ?_
  refine g_mmin rfl tz_426 (Nat.le_of_ble_eq_true rfl) (Nat.le_of_ble_eq_true rfl) dX4_invert_6 ?_
  refine g_top (w := .int (nI n)) (congrArg Value.int (min14 h14)) ?_
  refine g_istore_n [some (.ref 3), some (.ref 1), some (.int (nI n)), none, none, none, none, none, none, none] dX4_invert_9 rfl (Nat.le_of_ble_eq_true rfl) rfl rfl ?_
  refine g_aload_n 0 _ dX4_invert_10 rfl rfl ?_
  refine g_aload_n 1 _ dX4_invert_11 rfl rfl ?_
  refine g_at 12 rfl ?_
  refine g_backi (g_runV (c_reduce μ X (n := n) hn h14) rfl mw_X4_reduce mi_X4_reduce ml_X4_65 isO_3 ⟨rfl, rfl, Nat.le_of_ble_eq_true rfl, Nat.le_of_ble_eq_true rfl⟩ rfl rfl (Nat.le_of_ble_eq_true rfl) dX4_invert_12) ?_
  refine g_mem (μ' := mU μ (rdN (μ.1 7) n X).2) rfl ?_
  refine g_top (w := .int (nI ((rdN (μ.1 7) n X).1))) rfl ?_
  refine g_iload_n 2 _ dX4_invert_15 rfl rfl ?_
  refine g_icmp_geN 21 (by omega) (by omega) dX4_invert_16 (by decide) (fun h16 => ?_) (fun h16 => ?_)
  · exact absurd h16 (by omega)
  · refine g_iconst (nI 0) dX4_invert_19 rfl ?_
    exact g_ireturn dX4_invert_20 rfl rfl rfl
theorem c_backAt (μ : Mm) {j : Nat} (hj : j < 14) : Ok mX4_backAt (rmL 0) [.ref 3, .int (nI j)] μ (some (.long (μ.2 27 j)), μ) := by
  refine Ok.of (by decide) (Nat.le_of_ble_eq_true rfl) [some (.ref 3), some (.int (nI j))] rfl ?_
  refine g_iload_n 1 _ dX4_backAt_0 rfl rfl ?_
  refine g_if_ltN 19 (by omega) dX4_backAt_1 (by decide) ?_
  refine g_iload_n 1 _ dX4_backAt_4 rfl rfl ?_
  refine g_bipush (nI 14) dX4_backAt_5 rfl ?_
  refine g_icmp_geN 19 (by omega) (by omega) dX4_backAt_7 (by decide) (fun h7 => ?_) (fun h7 => ?_)
  · exact absurd h7 (by omega)
  · refine g_aload_n 0 _ dX4_backAt_10 rfl rfl ?_
    refine gf_X4_16 rfl dX4_backAt_11 ?_
    refine g_iload_n 1 _ dX4_backAt_14 rfl rfl ?_
    refine g_laload (j := j) isL_27 (rfl) (by omega) (by omega) dX4_backAt_15 ?_
    refine g_goto 20 dX4_backAt_16 (by decide) ?_
    exact g_lreturn dX4_backAt_20 rfl rfl
def ssF (f : Nat → Int64) : Nat → Int64
  | 0 => 0
  | i + 1 => ssF f i + f i * f i
def npF (w : Prop) [Decidable w] (s d : Int64) : Int64 := quF (if w then s else d * d) (lN (Nat.gcd s.toInt.natAbs (d * d).toInt.natAbs))
theorem c_noisePart_l {μ : Mm} {n : Nat} (w : Prop) [Decidable w] (h14 : n ≤ 14) (h1 : (ssF (μ.2 27) n).toInt ≠ -9223372036854775808) (h2 : (μ.2 3 3 * μ.2 3 3).toInt ≠ -9223372036854775808) : ∀ (m i : Nat), i ≤ n → n < i + m → G mX4_noisePart (rmL 2) (some (.long (npF w (ssF (μ.2 27) n) (μ.2 3 3))), μ) μ 5 [some (.ref 3), some (.int (bI w)), some (.int (nI n)), some (.long (ssF (μ.2 27) i)), none, some (.int (nI i)), none] [] := by
  intro m
  induction m with
  | zero => exact fun j h1 h2 => absurd h2 (by omega)
  | succ m ih =>
    intro i h3 h4
    by_cases hi : i < n
    · refine g_iload _ dX4_noisePart_5 rfl ?_
      refine g_iload_n 2 _ dX4_noisePart_7 rfl rfl ?_
      refine g_icmp_geN 42 (by omega) (by omega) dX4_noisePart_8 (by decide) (fun h8 => ?_) (fun h8 => ?_)
      · exact absurd h8 (by omega)
      · refine g_iload _ dX4_noisePart_11 rfl ?_
        refine g_bipush (nI 14) dX4_noisePart_13 rfl ?_
        refine g_icmp_geN 42 (by omega) (by omega) dX4_noisePart_15 (by decide) (fun h15 => ?_) (fun h15 => ?_)
        · exact absurd h15 (by omega)
        · refine g_lload_n 3 _ dX4_noisePart_18 rfl rfl ?_
          refine g_aload_n 0 _ dX4_noisePart_19 rfl rfl ?_
          refine gf_X4_16 rfl dX4_noisePart_20 ?_
          refine g_iload _ dX4_noisePart_23 rfl ?_
          refine g_laload (j := i) isL_27 (rfl) (by omega) (by omega) dX4_noisePart_25 ?_
          refine g_aload_n 0 _ dX4_noisePart_26 rfl rfl ?_
          refine gf_X4_16 rfl dX4_noisePart_27 ?_
          refine g_at 30 rfl ?_
          refine g_iload _ dX4_noisePart_30 rfl ?_
          refine g_laload (j := i) isL_27 (rfl) (by omega) (by omega) dX4_noisePart_32 ?_
          refine g_lmul dX4_noisePart_33 ?_
          refine g_ladd dX4_noisePart_34 ?_
          refine g_lstore_n [some (.ref 3), some (.int (bI w)), some (.int (nI n)), some (.long ((ssF (μ.2 27) i) + ((μ.2 27 i) * (μ.2 27 i)))), none, some (.int (nI i)), none] dX4_noisePart_35 rfl (Nat.le_of_ble_eq_true rfl) rfl rfl ?_
          refine g_iincN [some (.ref 3), some (.int (bI w)), some (.int (nI n)), some (.long ((ssF (μ.2 27) i) + ((μ.2 27 i) * (μ.2 27 i)))), none, some (.int (nI (i + 1))), none] dX4_noisePart_36 rfl (Nat.le_of_ble_eq_true rfl) rfl rfl ?_
          refine g_goto 5 dX4_noisePart_39 (by decide) ?_
          exact ih (i + 1) (by omega) (by omega)
    · have hin : i = n := by omega
      subst hin
      refine g_iload _ dX4_noisePart_5 rfl ?_
      refine g_iload_n 2 _ dX4_noisePart_7 rfl rfl ?_
      refine g_icmp_geN 42 (by omega) (by omega) dX4_noisePart_8 (by decide) (fun h8 => ?_) (fun h8 => ?_)
      · refine g_aload_n 0 _ dX4_noisePart_42 rfl rfl ?_
        refine gf_X4_23 rfl dX4_noisePart_43 ?_
        refine g_aload_n 0 _ dX4_noisePart_46 rfl rfl ?_
        refine gf_X4_23 rfl dX4_noisePart_47 ?_
        refine g_lmul dX4_noisePart_50 ?_
        refine g_lstore [some (.ref 3), some (.int (bI w)), some (.int (nI i)), some (.long (ssF (μ.2 27) i)), none, some (.long ((μ.2 3 3) * (μ.2 3 3))), none] dX4_noisePart_51 (Nat.le_of_ble_eq_true rfl) rfl rfl ?_
        refine g_iload_n 1 _ dX4_noisePart_53 rfl rfl ?_
        refine g_at 54 rfl ?_
        refine g_if_eqB 61 dX4_noisePart_54 (by decide) (fun h54 => ?_) (fun h54 => ?_)
        · refine g_lload _ dX4_noisePart_61 rfl ?_
          refine g_lload_n 3 _ dX4_noisePart_63 rfl rfl ?_
          refine g_lload _ dX4_noisePart_64 rfl ?_
          refine g_backl (g_runSN (c_commonDivisor μ (ssF (μ.2 27) i) ((μ.2 3 3) * (μ.2 3 3)) h1 h2) rfl mw_X5_commonDivisor ms_X5_commonDivisor mn_X4_69 ⟨rfl, rfl, Nat.le_of_ble_eq_true rfl, Nat.le_of_ble_eq_true rfl⟩ rfl rfl (Nat.le_of_ble_eq_true rfl) dX4_noisePart_66) ?_
          refine g_top (w := .long (lN (Nat.gcd (ssF (μ.2 27) i).toInt.natAbs (μ.2 3 3 * μ.2 3 3).toInt.natAbs))) rfl ?_
          refine g_backl (g_runSN (c_quotient μ ((μ.2 3 3) * (μ.2 3 3)) (lN (Nat.gcd (ssF (μ.2 27) i).toInt.natAbs (μ.2 3 3 * μ.2 3 3).toInt.natAbs))) rfl mw_X5_quotient ms_X5_quotient mn_X4_61 ⟨rfl, rfl, Nat.le_of_ble_eq_true rfl, Nat.le_of_ble_eq_true rfl⟩ rfl rfl (Nat.le_of_ble_eq_true rfl) dX4_noisePart_69) ?_
          refine g_top (w := .long (quF ((μ.2 3 3) * (μ.2 3 3)) (lN (Nat.gcd (ssF (μ.2 27) i).toInt.natAbs (μ.2 3 3 * μ.2 3 3).toInt.natAbs)))) rfl ?_
          exact g_lreturn dX4_noisePart_72 rfl (by unfold npF; first | rw [if_pos (by assumption)] | rw [if_neg (by assumption)])
        · refine g_lload_n 3 _ dX4_noisePart_57 rfl rfl ?_
          refine g_goto 63 dX4_noisePart_58 (by decide) ?_
          refine g_lload_n 3 _ dX4_noisePart_63 rfl rfl ?_
          refine g_lload _ dX4_noisePart_64 rfl ?_
          refine g_backl (g_runSN (c_commonDivisor μ (ssF (μ.2 27) i) ((μ.2 3 3) * (μ.2 3 3)) h1 h2) rfl mw_X5_commonDivisor ms_X5_commonDivisor mn_X4_69 ⟨rfl, rfl, Nat.le_of_ble_eq_true rfl, Nat.le_of_ble_eq_true rfl⟩ rfl rfl (Nat.le_of_ble_eq_true rfl) dX4_noisePart_66) ?_
          refine g_top (w := .long (lN (Nat.gcd (ssF (μ.2 27) i).toInt.natAbs (μ.2 3 3 * μ.2 3 3).toInt.natAbs))) rfl ?_
          refine g_backl (g_runSN (c_quotient μ (ssF (μ.2 27) i) (lN (Nat.gcd (ssF (μ.2 27) i).toInt.natAbs (μ.2 3 3 * μ.2 3 3).toInt.natAbs))) rfl mw_X5_quotient ms_X5_quotient mn_X4_61 ⟨rfl, rfl, Nat.le_of_ble_eq_true rfl, Nat.le_of_ble_eq_true rfl⟩ rfl rfl (Nat.le_of_ble_eq_true rfl) dX4_noisePart_69) ?_
          refine g_top (w := .long (quF (ssF (μ.2 27) i) (lN (Nat.gcd (ssF (μ.2 27) i).toInt.natAbs (μ.2 3 3 * μ.2 3 3).toInt.natAbs)))) rfl ?_
          exact g_lreturn dX4_noisePart_72 rfl (by unfold npF; first | rw [if_pos (by assumption)] | rw [if_neg (by assumption)])
      · exact absurd h8 hi
theorem c_noisePart (μ : Mm) {n : Nat} (w : Prop) [Decidable w] (h14 : n ≤ 14) (h1 : (ssF (μ.2 27) n).toInt ≠ -9223372036854775808) (h2 : (μ.2 3 3 * μ.2 3 3).toInt ≠ -9223372036854775808) : Ok mX4_noisePart (rmL 2) [.ref 3, .int (bI w), .int (nI n)] μ (some (.long (npF w (ssF (μ.2 27) n) (μ.2 3 3))), μ) := by
  refine Ok.of (by decide) (Nat.le_of_ble_eq_true rfl) [some (.ref 3), some (.int (bI w)), some (.int (nI n)), none, none, none, none] rfl ?_
  refine g_lconst 0 dX4_noisePart_0 rfl ?_
  refine g_lstore_n [some (.ref 3), some (.int (bI w)), some (.int (nI n)), some (.long 0), none, none, none] dX4_noisePart_1 rfl (Nat.le_of_ble_eq_true rfl) rfl rfl ?_
  refine g_iconst (nI 0) dX4_noisePart_2 rfl ?_
  refine g_istore [some (.ref 3), some (.int (bI w)), some (.int (nI n)), some (.long 0), none, some (.int (nI 0)), none] dX4_noisePart_3 (Nat.le_of_ble_eq_true rfl) rfl rfl ?_
  exact c_noisePart_l w h14 h1 h2 (n + 1) 0 (by omega) (by omega)
