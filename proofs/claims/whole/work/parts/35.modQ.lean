/-! HoleMaskModel: gcd, down -/
theorem absN {a : Int64} (ha : a.toInt ≠ -9223372036854775808) (h : a < 0) : -a = lN a.toInt.natAbs := by
  have e := absL ha
  have h0 : ¬ 0 < a := by rw [fa_lt64] at h ⊢; omega
  rw [if_neg h0] at e
  exact e
theorem absP {a : Int64} (ha : a.toInt ≠ -9223372036854775808) (h : ¬ a < 0) : a = lN a.toInt.natAbs := by
  have e := absL ha
  by_cases h0 : 0 < a
  · rw [if_pos h0] at e; exact e
  · have h1 : a = 0 := by
      apply Int64.toInt_inj.mp
      rw [fa_lt64] at h h0
      have : (0 : Int64).toInt = 0 := by decide
      omega
    subst h1
    decide
theorem lN_ne0 {n : Nat} (h0 : 0 < n) (h : n < 2 ^ 63) : ¬ lN n = 0 := fun e => by
  have h1 := congrArg Int64.toInt e
  rw [lN_big h, show (0 : Int64).toInt = 0 from by decide] at h1
  omega
theorem d_gcd_l {μ : Mm} {a b : Int64} {e : Nat} : ∀ (m x y : Nat) (v : Option Value), y < m → x < 2 ^ 63 → y < 2 ^ 63 → Nat.gcd x y = e → G mX6_gcd (rmL 0) (some (.long (lN e)), μ) μ 28 [some (.long a), none, some (.long b), none, some (.long (lN x)), none, some (.long (lN y)), none, v, none] [] := by
  intro m
  induction m with
  | zero => exact fun x y v h1 => absurd h1 (by omega)
  | succ m ih =>
    intro x y v h1 h2 h3 h4
    refine g_drop 8 _ rfl ?_
    by_cases hy : y = 0
    · subst hy
      rw [Nat.gcd_zero_right] at h4
      subst h4
      refine g_lload _ dX6_gcd_28 rfl ?_
      refine g_lconst 0 dX6_gcd_30 rfl ?_
      refine g_lcmp dX6_gcd_31 ?_
      refine g_if_eqC 53 dX6_gcd_32 (by decide) (fun h32 => ?_) (fun h32 => ?_)
      · refine g_lload _ dX6_gcd_53 rfl ?_
        exact g_lreturn dX6_gcd_55 rfl rfl
      · exact absurd h32 (by decide)
    · have hm := Nat.mod_lt x (show 0 < y by omega)
      refine g_lload _ dX6_gcd_28 rfl ?_
      refine g_lconst 0 dX6_gcd_30 rfl ?_
      refine g_lcmp dX6_gcd_31 ?_
      refine g_if_eqC 53 dX6_gcd_32 (by decide) (fun h32 => ?_) (fun h32 => ?_)
      · exact absurd h32 (lN_ne0 (by omega) (by omega))
      · refine g_lload _ dX6_gcd_35 rfl ?_
        refine g_lload _ dX6_gcd_37 rfl ?_
        refine g_lremM (by omega) (by omega) (by omega) dX6_gcd_39 ?_
        refine g_lstore [some (.long a), none, some (.long b), none, some (.long (lN x)), none, some (.long (lN y)), none, some (.long (lN (x % y))), none] dX6_gcd_40 (Nat.le_of_ble_eq_true rfl) rfl rfl ?_
        refine g_lload _ dX6_gcd_42 rfl ?_
        refine g_lstore [some (.long a), none, some (.long b), none, some (.long (lN y)), none, some (.long (lN y)), none, some (.long (lN (x % y))), none] dX6_gcd_44 (Nat.le_of_ble_eq_true rfl) rfl rfl ?_
        refine g_lload _ dX6_gcd_46 rfl ?_
        refine g_at 48 rfl ?_
        refine g_lstore [some (.long a), none, some (.long b), none, some (.long (lN y)), none, some (.long (lN (x % y))), none, some (.long (lN (x % y))), none] dX6_gcd_48 (Nat.le_of_ble_eq_true rfl) rfl rfl ?_
        refine g_goto 28 dX6_gcd_50 (by decide) ?_
        exact ih _ _ _ (by omega) h3 (by omega) (by rw [gcd_step]; exact h4)
theorem d_gcd (μ : Mm) (a b : Int64) (ha : a.toInt ≠ -9223372036854775808) (hb : b.toInt ≠ -9223372036854775808) : Ok mX6_gcd (rmL 0) [.long a, .long b] μ (some (.long (lN (Nat.gcd a.toInt.natAbs b.toInt.natAbs))), μ) := by
  have h1 := fb_rngL a
  have h2 := fb_rngL b
  refine Ok.of (by decide) (Nat.le_of_ble_eq_true rfl) [some (.long a), none, some (.long b), none, none, none, none, none, none, none] rfl ?_
  refine g_lload_n 0 _ dX6_gcd_0 rfl rfl ?_
  refine g_lconst 0 dX6_gcd_1 rfl ?_
  refine g_lcmp dX6_gcd_2 ?_
  refine g_if_geC 11 dX6_gcd_3 (by decide) (fun h3 => ?_) (fun h3 => ?_)
  · refine g_lload_n 0 _ dX6_gcd_11 rfl rfl ?_
    refine g_top (w := .long (lN a.toInt.natAbs)) (congrArg Value.long (by first | exact absN ha (by assumption) | exact absP ha (by assumption))) ?_
    refine g_lstore [some (.long a), none, some (.long b), none, some (.long (lN a.toInt.natAbs)), none, none, none, none, none] dX6_gcd_12 (Nat.le_of_ble_eq_true rfl) rfl rfl ?_
    refine g_lload_n 2 _ dX6_gcd_14 rfl rfl ?_
    refine g_lconst 0 dX6_gcd_15 rfl ?_
    refine g_lcmp dX6_gcd_16 ?_
    refine g_if_geC 25 dX6_gcd_17 (by decide) (fun h17 => ?_) (fun h17 => ?_)
    · refine g_lload_n 2 _ dX6_gcd_25 rfl rfl ?_
      refine g_top (w := .long (lN b.toInt.natAbs)) (congrArg Value.long (by first | exact absN hb (by assumption) | exact absP hb (by assumption))) ?_
      refine g_lstore [some (.long a), none, some (.long b), none, some (.long (lN a.toInt.natAbs)), none, some (.long (lN b.toInt.natAbs)), none, none, none] dX6_gcd_26 (Nat.le_of_ble_eq_true rfl) rfl rfl ?_
      exact d_gcd_l _ _ _ _ (Nat.lt_succ_self _) (by omega) (by omega) rfl
    · refine g_lload_n 2 _ dX6_gcd_20 rfl rfl ?_
      refine g_lneg dX6_gcd_21 ?_
      refine g_goto 26 dX6_gcd_22 (by decide) ?_
      refine g_top (w := .long (lN b.toInt.natAbs)) (congrArg Value.long (by first | exact absN hb (by assumption) | exact absP hb (by assumption))) ?_
      refine g_lstore [some (.long a), none, some (.long b), none, some (.long (lN a.toInt.natAbs)), none, some (.long (lN b.toInt.natAbs)), none, none, none] dX6_gcd_26 (Nat.le_of_ble_eq_true rfl) rfl rfl ?_
      exact d_gcd_l _ _ _ _ (Nat.lt_succ_self _) (by omega) (by omega) rfl
  · refine g_lload_n 0 _ dX6_gcd_6 rfl rfl ?_
    refine g_lneg dX6_gcd_7 ?_
    refine g_goto 12 dX6_gcd_8 (by decide) ?_
    refine g_top (w := .long (lN a.toInt.natAbs)) (congrArg Value.long (by first | exact absN ha (by assumption) | exact absP ha (by assumption))) ?_
    refine g_lstore [some (.long a), none, some (.long b), none, some (.long (lN a.toInt.natAbs)), none, none, none, none, none] dX6_gcd_12 (Nat.le_of_ble_eq_true rfl) rfl rfl ?_
    refine g_lload_n 2 _ dX6_gcd_14 rfl rfl ?_
    refine g_lconst 0 dX6_gcd_15 rfl ?_
    refine g_lcmp dX6_gcd_16 ?_
    refine g_if_geC 25 dX6_gcd_17 (by decide) (fun h17 => ?_) (fun h17 => ?_)
    · refine g_lload_n 2 _ dX6_gcd_25 rfl rfl ?_
      refine g_top (w := .long (lN b.toInt.natAbs)) (congrArg Value.long (by first | exact absN hb (by assumption) | exact absP hb (by assumption))) ?_
      refine g_lstore [some (.long a), none, some (.long b), none, some (.long (lN a.toInt.natAbs)), none, some (.long (lN b.toInt.natAbs)), none, none, none] dX6_gcd_26 (Nat.le_of_ble_eq_true rfl) rfl rfl ?_
      exact d_gcd_l _ _ _ _ (Nat.lt_succ_self _) (by omega) (by omega) rfl
    · refine g_lload_n 2 _ dX6_gcd_20 rfl rfl ?_
      refine g_lneg dX6_gcd_21 ?_
      refine g_goto 26 dX6_gcd_22 (by decide) ?_
      refine g_top (w := .long (lN b.toInt.natAbs)) (congrArg Value.long (by first | exact absN hb (by assumption) | exact absP hb (by assumption))) ?_
      refine g_lstore [some (.long a), none, some (.long b), none, some (.long (lN a.toInt.natAbs)), none, some (.long (lN b.toInt.natAbs)), none, none, none] dX6_gcd_26 (Nat.le_of_ble_eq_true rfl) rfl rfl ?_
      exact d_gcd_l _ _ _ _ (Nat.lt_succ_self _) (by omega) (by omega) rfl
/-- cells as one row -/
def flt (w : Nat) (X : Mx) : Nat → Int64 := fun q => X (q / w) (q % w)
theorem flt_dm {w i k : Nat} (h : k < w) : (w * i + k) / w = i ∧ (w * i + k) % w = k := by
  refine ⟨?_, ?_⟩
  · rw [Nat.mul_add_div (by omega), Nat.div_eq_of_lt h, Nat.add_zero]
  · rw [Nat.mul_add_mod, Nat.mod_eq_of_lt h]
theorem flt_at {w i k : Nat} {X : Mx} (h : k < w) : flt w X (w * i + k) = X i k := by
  unfold flt; rw [(flt_dm h).1, (flt_dm h).2]
theorem flt_put {w i k : Nat} {X : Mx} {x : Int64} (h : k < w) : vp_updL (flt w X) (w * i + k) x = flt w (rwM X i (vp_updL (X i) k x)) := by
  funext q
  unfold vp_updL flt rwM
  by_cases h1 : q = w * i + k
  · subst h1
    rw [if_pos rfl, (flt_dm h).1, (flt_dm h).2, if_pos rfl, if_pos rfl]
  · rw [if_neg h1]
    by_cases h2 : q / w = i
    · rw [if_pos h2, if_neg (fun h3 => h1 (by rw [← h2, ← h3, Nat.div_add_mod])), h2]
    · rw [if_neg h2]
theorem flt_id {w : Nat} (h : 0 < w) (f : Nat → Int64) : flt w (fun i k => f (w * i + k)) = f := by
  funext q
  show f (w * (q / w) + q % w) = f q
  rw [Nat.div_add_mod]
def mD (μ : Mm) (w : Nat) (X : Mx) : Mm := sRL μ 42 (flt w X)
theorem mD_at {μ : Mm} {w i k : Nat} {X : Mx} (h : k < w) : (mD μ w X).2 42 (w * i + k) = X i k := flt_at h
theorem mD_st {μ : Mm} {w i k : Nat} {X Y : Mx} {x : Int64} (h : k < w) (e : rwM X i (vp_updL (X i) k x) = Y) : sL (mD μ w X) 42 (w * i + k) x = mD μ w Y := by
  subst e
  unfold mD
  rw [sL_sRL, flt_put h]
theorem mD_id {w : Nat} (h : 0 < w) (μ : Mm) : mD μ w (fun i k => μ.2 42 (w * i + k)) = μ := by
  unfold mD
  rw [flt_id h, sRL_id]
theorem mD_mD (μ : Mm) (w v : Nat) (X Y : Mx) : mD (mD μ w X) v Y = mD μ v Y := by
  unfold mD sRL
  show (μ.1, _) = (μ.1, _)
  congr 1
  funext k
  by_cases h : k = 42
  · rw [if_pos h, if_pos h]
  · rw [if_neg h, if_neg h]; exact if_neg h
theorem ix_le {w i r : Nat} (h : w * r ≤ 210) (hi : i < r) : w * i + w ≤ 210 := by
  have : w * (i + 1) ≤ w * r := Nat.mul_le_mul_left w hi
  rw [Nat.mul_succ] at this
  omega
def cdQ (X : Mx) (k c : Nat) (b : Int64) (i j : Nat) : Int64 := (X k c * X i j - X i c * X k j) / b
def cdR (X : Mx) (k c w : Nat) (b : Int64) (i : Nat) : Nat → Int64 := if i = k then X k else fil (X i) (cdQ X k c b i) w
def cdM (X : Mx) (k c w : Nat) (b : Int64) (r : Nat) : Mx := fil X (cdR X k c w b) r
theorem cdM_k {X : Mx} {k c w : Nat} {b : Int64} {i : Nat} : cdM X k c w b i k = X k := by
  unfold cdM fil cdR
  by_cases h : k < i
  · rw [if_pos h, if_pos rfl]
  · rw [if_neg h]
theorem cdM_i {X : Mx} {k c w : Nat} {b : Int64} {i : Nat} : cdM X k c w b i i = X i := fil_out (Nat.le_refl i)
theorem d_dnP {μ : Mm} {X : Mx} {rows cols w k c : Nat} {b : Int64} (hw : w * rows ≤ 210) (hr : rows ≤ 14) (hc : c < w) {R : Option Value × Mm} : ∀ (m p : Nat), k ≤ p → p ≤ rows → rows < p + m → G mX6_down (rmL 0) R (mD μ w X) 54 [some (.ref 33), some (.int (nI rows)), some (.int (nI cols)), some (.int (nI w)), some (.int (nI k)), some (.long b), none, some (.int (nI c)), some (.int (nI (ldF X c rows m p))), none, none, none, none, none, none] [] → G mX6_down (rmL 0) R (mD μ w X) 25 [some (.ref 33), some (.int (nI rows)), some (.int (nI cols)), some (.int (nI w)), some (.int (nI k)), some (.long b), none, some (.int (nI c)), some (.int (nI p)), none, none, none, none, none, none] [] := by
  intro m
  induction m with
  | zero => exact fun r h1 h2 h3 => absurd h3 (by omega)
  | succ m ih =>
    intro p h1 h2 h3 hG
    by_cases h : p < rows
    · have hb := ix_le hw h
      by_cases hx : X p c = 0
      · have e : ldF X c rows (m + 1) p = ldF X c rows m (p + 1) := (if_pos h).trans (if_pos hx)
        rw [e] at hG
        refine g_iload _ dX6_down_25 rfl ?_
        refine g_iload_n 1 _ dX6_down_27 rfl rfl ?_
        refine g_icmp_geN 54 (by omega) (by omega) dX6_down_28 (by decide) (fun h28 => ?_) (fun h28 => ?_)
        · exact absurd h28 (by omega)
        · refine g_aload_n 0 _ dX6_down_31 rfl rfl ?_
          refine gf_X6_46 rfl dX6_down_32 ?_
          refine g_iload_n 3 _ dX6_down_35 rfl rfl ?_
          refine g_iload _ dX6_down_36 rfl ?_
          refine g_imulN dX6_down_38 ?_
          refine g_iload _ dX6_down_39 rfl ?_
          refine g_iaddN dX6_down_41 ?_
          refine g_at 42 rfl ?_
          refine g_laload (j := w * p + c) isL_42 (rfl) (by omega) (by omega) dX6_down_42 ?_
          refine g_top (w := .long (X p c)) (congrArg Value.long (mD_at hc)) ?_
          refine g_lconst 0 dX6_down_43 rfl ?_
          refine g_lcmp dX6_down_44 ?_
          refine g_if_neC 54 dX6_down_45 (by decide) (fun h45 => ?_) (fun h45 => ?_)
          · exact absurd hx h45
          · refine g_iincN [some (.ref 33), some (.int (nI rows)), some (.int (nI cols)), some (.int (nI w)), some (.int (nI k)), some (.long b), none, some (.int (nI c)), some (.int (nI (p + 1))), none, none, none, none, none, none] dX6_down_48 rfl (Nat.le_of_ble_eq_true rfl) rfl rfl ?_
            refine g_goto 25 dX6_down_51 (by decide) ?_
            exact ih (p + 1) (by omega) (by omega) (by omega) hG
      · have e : ldF X c rows (m + 1) p = p := (if_pos h).trans (if_neg hx)
        rw [e] at hG
        refine g_iload _ dX6_down_25 rfl ?_
        refine g_iload_n 1 _ dX6_down_27 rfl rfl ?_
        refine g_icmp_geN 54 (by omega) (by omega) dX6_down_28 (by decide) (fun h28 => ?_) (fun h28 => ?_)
        · exact absurd h28 (by omega)
        · refine g_aload_n 0 _ dX6_down_31 rfl rfl ?_
          refine gf_X6_46 rfl dX6_down_32 ?_
          refine g_iload_n 3 _ dX6_down_35 rfl rfl ?_
          refine g_iload _ dX6_down_36 rfl ?_
          refine g_imulN dX6_down_38 ?_
          refine g_iload _ dX6_down_39 rfl ?_
          refine g_iaddN dX6_down_41 ?_
          refine g_at 42 rfl ?_
          refine g_laload (j := w * p + c) isL_42 (rfl) (by omega) (by omega) dX6_down_42 ?_
          refine g_top (w := .long (X p c)) (congrArg Value.long (mD_at hc)) ?_
          refine g_lconst 0 dX6_down_43 rfl ?_
          refine g_lcmp dX6_down_44 ?_
          refine g_if_neC 54 dX6_down_45 (by decide) (fun h45 => ?_) (fun h45 => ?_)
          · exact hG
          · exact absurd h45 hx
    · have e : ldF X c rows (m + 1) p = rows := if_neg h
      rw [e] at hG
      refine g_iload _ dX6_down_25 rfl ?_
      refine g_iload_n 1 _ dX6_down_27 rfl rfl ?_
      refine g_icmp_geN 54 (by omega) (by omega) dX6_down_28 (by decide) (fun h28 => ?_) (fun h28 => ?_)
      · rw [show p = rows by omega]; exact hG
      · exact absurd h28 h
theorem d_dnS {μ : Mm} {X : Mx} {rows cols w k c p : Nat} {b : Int64} (hw : w * rows ≤ 210) (hw15 : w ≤ 15) (hr : rows ≤ 14) (hk : k < rows) (hp : p < rows) {R : Option Value × Mm} (hG : G mX6_down (rmL 0) R (mD μ w (swM X p k w)) 130 [some (.ref 33), some (.int (nI rows)), some (.int (nI cols)), some (.int (nI w)), some (.int (nI k)), some (.long b), none, some (.int (nI c)), some (.int (nI p)), none, none, none, none, none, none] []) : ∀ (m j : Nat) (v : Option Value), j ≤ w → w < j + m → G mX6_down (rmL 0) R (mD μ w (swM X p k j)) 66 [some (.ref 33), some (.int (nI rows)), some (.int (nI cols)), some (.int (nI w)), some (.int (nI k)), some (.long b), none, some (.int (nI c)), some (.int (nI p)), some (.int (nI j)), v, none, none, none, none] [] := by
  intro m
  induction m with
  | zero => exact fun r v h1 h2 => absurd h2 (by omega)
  | succ m ih =>
    intro j v h1 h2
    refine g_drop 10 _ rfl ?_
    have hb := ix_le hw hk
    have hb2 := ix_le hw hp
    refine g_iload _ dX6_down_66 rfl ?_
    refine g_iload_n 3 _ dX6_down_68 rfl rfl ?_
    refine g_icmp_geN 130 (by omega) (by omega) dX6_down_69 (by decide) (fun h69 => ?_) (fun h69 => ?_)
    · exact g_drop 9 _ rfl (by rw [show j = w by omega]; exact hG)
    · refine g_aload_n 0 _ dX6_down_72 rfl rfl ?_
      refine gf_X6_46 rfl dX6_down_73 ?_
      refine g_iload_n 3 _ dX6_down_76 rfl rfl ?_
      refine g_iload _ dX6_down_77 rfl ?_
      refine g_imulN dX6_down_79 ?_
      refine g_iload _ dX6_down_80 rfl ?_
      refine g_iaddN dX6_down_82 ?_
      refine g_at 83 rfl ?_
      refine g_laload (j := w * p + j) isL_42 (rfl) (by omega) (by omega) dX6_down_83 ?_
      refine g_top (w := .long (X p j)) (congrArg Value.long (by rw [mD_at (by omega), swM_a])) ?_
      refine g_lstore [some (.ref 33), some (.int (nI rows)), some (.int (nI cols)), some (.int (nI w)), some (.int (nI k)), some (.long b), none, some (.int (nI c)), some (.int (nI p)), some (.int (nI j)), some (.long (X p j)), none, none, none, none] dX6_down_84 (Nat.le_of_ble_eq_true rfl) rfl rfl ?_
      refine g_aload_n 0 _ dX6_down_86 rfl rfl ?_
      refine gf_X6_46 rfl dX6_down_87 ?_
      refine g_iload_n 3 _ dX6_down_90 rfl rfl ?_
      refine g_iload _ dX6_down_91 rfl ?_
      refine g_imulN dX6_down_93 ?_
      refine g_iload _ dX6_down_94 rfl ?_
      refine g_at 96 rfl ?_
      refine g_iaddN dX6_down_96 ?_
      refine g_aload_n 0 _ dX6_down_97 rfl rfl ?_
      refine gf_X6_46 rfl dX6_down_98 ?_
      refine g_iload_n 3 _ dX6_down_101 rfl rfl ?_
      refine g_iload _ dX6_down_102 rfl ?_
      refine g_imulN dX6_down_104 ?_
      refine g_iload _ dX6_down_105 rfl ?_
      refine g_iaddN dX6_down_107 ?_
      refine g_at 108 rfl ?_
      refine g_laload (j := w * k + j) isL_42 (rfl) (by omega) (by omega) dX6_down_108 ?_
      refine g_top (w := .long (X k j)) (congrArg Value.long (by rw [mD_at (by omega), swM_b])) ?_
      refine g_lastore (j := w * p + j) isL_42 (rfl) (by omega) (by omega) dX6_down_109 ?_
      refine g_mem (μ' := mD μ w (rwM (swM X p k j) p (vp_updL (swM X p k j p) j (X k j)))) (by exact mD_st (by omega) rfl) ?_
      refine g_aload_n 0 _ dX6_down_110 rfl rfl ?_
      refine gf_X6_46 rfl dX6_down_111 ?_
      refine g_iload_n 3 _ dX6_down_114 rfl rfl ?_
      refine g_iload _ dX6_down_115 rfl ?_
      refine g_imulN dX6_down_117 ?_
      refine g_iload _ dX6_down_118 rfl ?_
      refine g_at 120 rfl ?_
      refine g_iaddN dX6_down_120 ?_
      refine g_lload _ dX6_down_121 rfl ?_
      refine g_lastore (j := w * k + j) isL_42 (rfl) (by omega) (by omega) dX6_down_123 ?_
      refine g_mem (μ' := mD μ w (swM X p k (j + 1))) (by exact mD_st (by omega) (swM_put rfl)) ?_
      refine g_iincN [some (.ref 33), some (.int (nI rows)), some (.int (nI cols)), some (.int (nI w)), some (.int (nI k)), some (.long b), none, some (.int (nI c)), some (.int (nI p)), some (.int (nI (j + 1))), some (.long (X p j)), none, none, none, none] dX6_down_124 rfl (Nat.le_of_ble_eq_true rfl) rfl rfl ?_
      refine g_goto 66 dX6_down_127 (by decide) ?_
      exact ih (j + 1) _ (by omega) (by omega)
