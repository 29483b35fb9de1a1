/-! common divisors, quotient, count, cast, anti, fold, rests, twins, shift -/
section
variable {M : Mb} {rm : Room} {R : Option Value × Mm} {μ : Mm} {pc : Nat} {lo : List (Option Value)} {st : List Value}
theorem g_lremM {a b : Nat} (ha : a < 2 ^ 63) (h0 : 0 < b) (hb : b < 2 ^ 63) (d : decode M.2.1 pc = .ok (.lrem, 1)) (k : G M rm R μ (pc + 1) lo (.long (lN (a % b)) :: st)) : G M rm R μ pc lo (.long (lN b) :: .long (lN a) :: st) := g_lrem d (fun q => by have := (pk_lEQ (a := b) (b := 0) hb (by decide)).mp q; omega) (by rw [pk_lRem ha h0 hb]; exact k)
end
theorem l64_ext {x y : Int64} (h : x.toInt = y.toInt) : x = y := Int64.toInt_inj.mp h
theorem absL {a : Int64} (h : a.toInt ≠ -9223372036854775808) : (if 0 < a then a else -a) = lN a.toInt.natAbs := by
  have hr := fb_rngL a
  apply l64_ext
  rw [pk_lT (by omega)]
  by_cases h0 : 0 < a
  · rw [if_pos h0]; rw [Int64.lt_iff_toInt_lt] at h0; change (0 : Int) < a.toInt at h0; omega
  · rw [if_neg h0, Int64.toInt_neg, fb_bmodL (by omega) (by omega)]
    rw [Int64.lt_iff_toInt_lt] at h0; change ¬ (0 : Int) < a.toInt at h0; omega
def gyS : Nat → Nat → Nat → Nat
  | 0, _, y => y
  | k + 1, x, y => if y = 0 then 0 else gyS k y (x % y)
def fibP : Nat → Nat × Nat
  | 0 => (0, 1)
  | n + 1 => ((fibP n).2, (fibP n).1 + (fibP n).2)
theorem gyS_lame : ∀ (k x y : Nat), y ≤ x → gyS k x y ≠ 0 → (fibP k).2 ≤ y ∧ (fibP (k + 1)).2 ≤ x
  | 0, x, y, h, h2 => by
    simp only [gyS] at h2
    simp [fibP]; omega
  | k + 1, x, y, h, h2 => by
    simp only [gyS] at h2
    by_cases hy : y = 0
    · rw [if_pos hy] at h2; exact absurd rfl h2
    · rw [if_neg hy] at h2
      have hl : x % y < y := Nat.mod_lt _ (by omega)
      obtain ⟨h3, h4⟩ := gyS_lame k y (x % y) (by omega) h2
      refine ⟨h4, ?_⟩
      have h5 : y * (x / y) + x % y = x := Nat.div_add_mod x y
      have h6 : y * 1 ≤ y * (x / y) := Nat.mul_le_mul (Nat.le_refl y) (Nat.div_pos h (by omega))
      show (fibP (k + 1)).1 + (fibP (k + 1)).2 ≤ x
      have h7 : (fibP (k + 1)).1 = (fibP k).2 := rfl
      omega
theorem fib100 : 2 ^ 63 ≤ (fibP 99).2 := by decide +kernel
theorem gyS_100 {x y : Nat} (hx : x < 2 ^ 63) (hy : y < 2 ^ 63) : gyS 100 x y = 0 := by
  show (if y = 0 then 0 else gyS 99 y (x % y)) = 0
  by_cases h : y = 0
  · rw [if_pos h]
  · rw [if_neg h]
    have hl : x % y < y := Nat.mod_lt _ (by omega)
    by_cases h2 : gyS 99 y (x % y) = 0
    · exact h2
    · have h3 := (gyS_lame 99 y (x % y) (by omega) h2).1
      have := fib100
      omega
theorem gcd_step {x y : Nat} : Nat.gcd y (x % y) = Nat.gcd x y := by
  rw [Nat.gcd_comm x y, Nat.gcd_rec y x, Nat.gcd_comm]
theorem c_cd_l {μ : Mm} {a b : Int64} (rv9 : Option Value) : ∀ (m s x y : Nat), s + m = 100 → x < 2 ^ 63 → y < 2 ^ 63 → gyS m x y = 0 → (∀ e, Nat.gcd x y = e → G mX5_commonDivisor (rmL 1) (some (.long (lN e)), μ) μ 15 [some (.long a), none, some (.long b), none, some (.long (lN x)), none, some (.long (lN y)), none, some (.int (nI s)), rv9, none] []) := by
  intro m
  induction m generalizing rv9 with
  | zero =>
    intro s x y hs hx hy hg e he
    have hy0 : y = 0 := hg
    subst hy0
    rw [Nat.gcd_zero_right] at he
    subst he
    refine g_iload _ dX5_commonDivisor_15 rfl ?_
    refine g_bipush (nI 100) dX5_commonDivisor_17 rfl ?_
    refine g_icmp_geN 50 (by omega) (by omega) dX5_commonDivisor_19 (by decide) (fun h => ?_) (fun h => absurd h (by omega))
    refine g_lload _ dX5_commonDivisor_50 rfl ?_
    exact g_lreturn dX5_commonDivisor_52 rfl rfl
  | succ m ih =>
    intro s x y hs hx hy hg e he
    have hm : x % y ≤ x := Nat.mod_le x y
    refine g_iload _ dX5_commonDivisor_15 rfl ?_
    refine g_bipush (nI 100) dX5_commonDivisor_17 rfl ?_
    refine g_icmp_geN 50 (by omega) (by omega) dX5_commonDivisor_19 (by decide) (fun h => absurd h (by omega)) (fun h19 => ?_)
    refine g_lload _ dX5_commonDivisor_22 rfl ?_
    refine g_lconst 0 dX5_commonDivisor_24 rfl ?_
    refine g_lcmp dX5_commonDivisor_25 ?_
    refine g_if_eqC 50 dX5_commonDivisor_26 (by decide) (fun h26 => ?_) (fun h26 => ?_)
    · have hy0 : y = 0 := (pk_lEQ (a := y) (b := 0) hy (by decide)).mp h26
      subst hy0
      rw [Nat.gcd_zero_right] at he
      subst he
      refine g_lload _ dX5_commonDivisor_50 rfl ?_
      exact g_lreturn dX5_commonDivisor_52 rfl rfl
    · have hy0 : 0 < y := Nat.pos_of_ne_zero (fun q => h26 (by rw [q]; rfl))
      have hl : x % y < y := Nat.mod_lt _ hy0
      rw [gyS, if_neg (by omega)] at hg
      refine g_lload _ dX5_commonDivisor_29 rfl ?_
      refine g_lload _ dX5_commonDivisor_31 rfl ?_
      refine g_lremM (by omega) (by omega) (by omega) dX5_commonDivisor_33 ?_
      refine g_lstore [some (.long a), none, some (.long b), none, some (.long (lN x)), none, some (.long (lN y)), none, some (.int (nI s)), some (.long (lN (x % y))), none] dX5_commonDivisor_34 (Nat.le_of_ble_eq_true rfl) rfl rfl ?_
      refine g_lload _ dX5_commonDivisor_36 rfl ?_
      refine g_lstore [some (.long a), none, some (.long b), none, some (.long (lN y)), none, some (.long (lN y)), none, some (.int (nI s)), some (.long (lN (x % y))), none] dX5_commonDivisor_38 (Nat.le_of_ble_eq_true rfl) rfl rfl ?_
      refine g_lload _ dX5_commonDivisor_40 rfl ?_
      refine g_lstore [some (.long a), none, some (.long b), none, some (.long (lN y)), none, some (.long (lN (x % y))), none, some (.int (nI s)), some (.long (lN (x % y))), none] dX5_commonDivisor_42 (Nat.le_of_ble_eq_true rfl) rfl rfl ?_
      refine g_iincN [some (.long a), none, some (.long b), none, some (.long (lN y)), none, some (.long (lN (x % y))), none, some (.int (nI (s + 1))), some (.long (lN (x % y))), none] dX5_commonDivisor_44 rfl (Nat.le_of_ble_eq_true rfl) rfl rfl ?_
      refine g_goto 15 dX5_commonDivisor_47 (by decide) ?_
      exact ih _ (s + 1) y (x % y) (by omega) hy (by omega) hg e (by rw [gcd_step]; exact he)
theorem c_commonDivisor (μ : Mm) (a b : Int64) (ha : a.toInt ≠ -9223372036854775808) (hb : b.toInt ≠ -9223372036854775808) : Ok mX5_commonDivisor (rmL 1) [.long a, .long b] μ (some (.long (lN (Nat.gcd a.toInt.natAbs b.toInt.natAbs))), μ) := by
  have h1 := fb_rngL a
  have h2 := fb_rngL b
  refine Ok.of (by decide) (Nat.le_of_ble_eq_true rfl) [some (.long a), none, some (.long b), none, none, none, none, none, none, none, none] rfl ?_
  refine g_lload_n 0 _ dX5_commonDivisor_0 rfl rfl ?_
  refine g_mabsL rfl tz_371 (Nat.le_of_ble_eq_true rfl) (Nat.le_of_ble_eq_true rfl) dX5_commonDivisor_1 ?_
  refine g_top (w := .long (lN a.toInt.natAbs)) (congrArg Value.long (absL ha)) ?_
  refine g_lstore [some (.long a), none, some (.long b), none, some (.long (lN a.toInt.natAbs)), none, none, none, none, none, none] dX5_commonDivisor_4 (Nat.le_of_ble_eq_true rfl) rfl rfl ?_
  refine g_lload_n 2 _ dX5_commonDivisor_6 rfl rfl ?_
  refine g_mabsL rfl tz_371 (Nat.le_of_ble_eq_true rfl) (Nat.le_of_ble_eq_true rfl) dX5_commonDivisor_7 ?_
  refine g_top (w := .long (lN b.toInt.natAbs)) (congrArg Value.long (absL hb)) ?_
  refine g_lstore [some (.long a), none, some (.long b), none, some (.long (lN a.toInt.natAbs)), none, some (.long (lN b.toInt.natAbs)), none, none, none, none] dX5_commonDivisor_10 (Nat.le_of_ble_eq_true rfl) rfl rfl ?_
  refine g_iconst (nI 0) dX5_commonDivisor_12 rfl ?_
  refine g_at 13 rfl ?_
  refine g_istore [some (.long a), none, some (.long b), none, some (.long (lN a.toInt.natAbs)), none, some (.long (lN b.toInt.natAbs)), none, some (.int (nI 0)), none, none] dX5_commonDivisor_13 (Nat.le_of_ble_eq_true rfl) rfl rfl ?_
  exact c_cd_l none 100 0 _ _ (by omega) (by omega) (by omega) (gyS_100 (by omega) (by omega)) _ rfl
def quF (x d : Int64) : Int64 := if d = 0 then 0 else x / d
theorem c_quotient (μ : Mm) (x d : Int64) : Ok mX5_quotient (rmL 0) [.long x, .long d] μ (some (.long (quF x d)), μ) := by
  refine Ok.of (by decide) (Nat.le_of_ble_eq_true rfl) [some (.long x), none, some (.long d), none] rfl ?_
  refine g_lload_n 2 _ dX5_quotient_0 rfl rfl ?_
  refine g_lconst 0 dX5_quotient_1 rfl ?_
  refine g_lcmp dX5_quotient_2 ?_
  refine g_if_neC 10 dX5_quotient_3 (by decide) (fun h3 => ?_) (fun h3 => ?_)
  · refine g_lload_n 0 _ dX5_quotient_10 rfl rfl ?_
    refine g_lload_n 2 _ dX5_quotient_11 rfl rfl ?_
    refine g_ldiv dX5_quotient_12 h3 ?_
    exact g_lreturn dX5_quotient_13 rfl (by unfold quF; first | rw [if_pos h3] | rw [if_neg h3])
  · refine g_lconst 0 dX5_quotient_6 rfl ?_
    refine g_goto 13 dX5_quotient_7 (by decide) ?_
    exact g_lreturn dX5_quotient_13 rfl (by unfold quF; first | rw [if_pos h3] | rw [if_neg h3])
