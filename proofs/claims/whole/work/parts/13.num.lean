/-! numbers: primes, squares, shift rows, common divisors -/
abbrev prP (p : Nat) : Prop := 2 ≤ p ∧ ∀ d, d < p → 2 ≤ d → p % d ≠ 0
theorem c_isPrime_l {μ : Mm} {p : Nat} (hp : p ≤ 70) (r : Int32) (hr : r = bI (prP p)) : ∀ (m d : Nat), 2 ≤ d → d ≤ 70 → p < d + m → (∀ j, j < d → 2 ≤ j → p % j ≠ 0) → G mX5_isPrime (rmL 0) (some (.int r), μ) μ 2 [some (.int (nI p)), some (.int (nI d))] [] := by
  intro m
  induction m with
  | zero =>
    intro d h2 h70 hm hj
    refine g_iload_n 1 _ dX5_isPrime_2 rfl rfl ?_
    refine g_iload_n 0 _ dX5_isPrime_3 rfl rfl ?_
    refine g_icmp_geN 21 (by omega) (by omega) dX5_isPrime_4 (by decide) (fun h4 => ?_) (fun h4 => ?_)
    · refine g_iload_n 0 _ dX5_isPrime_21 rfl rfl ?_
      refine g_iconst (nI 2) dX5_isPrime_22 rfl ?_
      refine g_icmp_ltN 30 (by omega) (by omega) dX5_isPrime_23 (by decide) (fun h23 => ?_) (fun h23 => ?_)
      · refine g_iconst (nI 0) dX5_isPrime_30 rfl ?_
        exact g_ireturn dX5_isPrime_31 rfl rfl (by rw [hr]; first | rw [bI_t ⟨by omega, fun j h1 h3 => hj j (by omega) h3⟩]; rfl | rw [bI_f (fun q => by have := q.1; omega)]; rfl)
      · refine g_iconst (nI 1) dX5_isPrime_26 rfl ?_
        refine g_goto 31 dX5_isPrime_27 (by decide) ?_
        exact g_ireturn dX5_isPrime_31 rfl rfl (by rw [hr]; first | rw [bI_t ⟨by omega, fun j h1 h3 => hj j (by omega) h3⟩]; rfl | rw [bI_f (fun q => by have := q.1; omega)]; rfl)
    · exact absurd h4 (by omega)
  | succ m ih =>
    intro d h2 h70 hm hj
    have hmod := Nat.mod_le p d
    refine g_iload_n 1 _ dX5_isPrime_2 rfl rfl ?_
    refine g_iload_n 0 _ dX5_isPrime_3 rfl rfl ?_
    refine g_icmp_geN 21 (by omega) (by omega) dX5_isPrime_4 (by decide) (fun h4 => ?_) (fun h4 => ?_)
    · refine g_iload_n 0 _ dX5_isPrime_21 rfl rfl ?_
      refine g_iconst (nI 2) dX5_isPrime_22 rfl ?_
      refine g_icmp_ltN 30 (by omega) (by omega) dX5_isPrime_23 (by decide) (fun h23 => ?_) (fun h23 => ?_)
      · refine g_iconst (nI 0) dX5_isPrime_30 rfl ?_
        exact g_ireturn dX5_isPrime_31 rfl rfl (by rw [hr]; first | rw [bI_t ⟨by omega, fun j h1 h3 => hj j (by omega) h3⟩]; rfl | rw [bI_f (fun q => by have := q.1; omega)]; rfl | rw [bI_f (fun q => q.2 d (by omega) h2 (by omega))]; rfl)
      · refine g_iconst (nI 1) dX5_isPrime_26 rfl ?_
        refine g_goto 31 dX5_isPrime_27 (by decide) ?_
        exact g_ireturn dX5_isPrime_31 rfl rfl (by rw [hr]; first | rw [bI_t ⟨by omega, fun j h1 h3 => hj j (by omega) h3⟩]; rfl | rw [bI_f (fun q => by have := q.1; omega)]; rfl | rw [bI_f (fun q => q.2 d (by omega) h2 (by omega))]; rfl)
    · refine g_iload_n 0 _ dX5_isPrime_7 rfl rfl ?_
      refine g_iload_n 1 _ dX5_isPrime_8 rfl rfl ?_
      refine g_iremN (by omega) (by omega) (by omega) dX5_isPrime_9 ?_
      refine g_if_neN 15 (by omega) dX5_isPrime_10 (by decide) (fun h10 => ?_) (fun h10 => ?_)
      · refine g_iincN [some (.int (nI p)), some (.int (nI (d + 1)))] dX5_isPrime_15 rfl (Nat.le_of_ble_eq_true rfl) rfl rfl ?_
        refine g_goto 2 dX5_isPrime_18 (by decide) ?_
        exact ih (d + 1) (by omega) (by omega) (by omega) (fun j h1 h3 => (Nat.lt_succ_iff_lt_or_eq.mp h1).elim (fun h => hj j h h3) (fun e => e ▸ (by omega)))
      · refine g_iconst (nI 0) dX5_isPrime_13 rfl ?_
        exact g_ireturn dX5_isPrime_14 rfl rfl (by rw [hr]; first | rw [bI_t ⟨by omega, fun j h1 h3 => hj j (by omega) h3⟩]; rfl | rw [bI_f (fun q => by have := q.1; omega)]; rfl | rw [bI_f (fun q => q.2 d (by omega) h2 (by omega))]; rfl)
theorem c_isPrime (μ : Mm) {p : Nat} (hp : p ≤ 70) : Ok mX5_isPrime (rmL 0) [.int (nI p)] μ (some (.int (bI (prP p))), μ) := by
  refine Ok.of (by decide) (Nat.le_of_ble_eq_true rfl) [some (.int (nI p)), none] rfl ?_
  refine g_iconst (nI 2) dX5_isPrime_0 rfl ?_
  refine g_istore_n [some (.int (nI p)), some (.int (nI 2))] dX5_isPrime_1 rfl (Nat.le_of_ble_eq_true rfl) rfl rfl ?_
  exact c_isPrime_l hp _ rfl p 2 (by omega) (by omega) (by omega) (fun j h1 h2 => absurd h1 (by omega))
abbrev rstP (p : Nat) : Prop := 3 ≤ p ∧ p < 60 ∧ p % 4 = 3 ∧ prP p
theorem c_isRestPrime (μ : Mm) {p : Nat} (hp : p ≤ 60) : Ok mX5_isRestPrime (rmL 1) [.int (nI p)] μ (some (.int (bI (rstP p))), μ) := by
  refine Ok.of (by decide) (Nat.le_of_ble_eq_true rfl) [some (.int (nI p))] rfl ?_
  refine g_iload_n 0 _ dX5_isRestPrime_0 rfl rfl ?_
  refine g_iconst (nI 3) dX5_isRestPrime_1 rfl ?_
  refine g_icmp_ltN 29 (by omega) (by omega) dX5_isRestPrime_2 (by decide) (fun h2 => ?_) (fun h2 => ?_)
  · refine g_iconst (nI 0) dX5_isRestPrime_29 rfl ?_
    exact g_ireturn dX5_isRestPrime_30 rfl rfl (by first | rw [bI_t ⟨by omega, by omega, by omega, h22⟩]; rfl | rw [bI_f (fun q => h22 q.2.2.2)]; rfl | rw [bI_f (fun q => by have h1 := q.1; have h2 := q.2.1; have h3 := q.2.2.1; omega)]; rfl)
  · refine g_iload_n 0 _ dX5_isRestPrime_5 rfl rfl ?_
    refine g_bipush (nI 60) dX5_isRestPrime_6 rfl ?_
    refine g_icmp_geN 29 (by omega) (by omega) dX5_isRestPrime_8 (by decide) (fun h8 => ?_) (fun h8 => ?_)
    · refine g_iconst (nI 0) dX5_isRestPrime_29 rfl ?_
      exact g_ireturn dX5_isRestPrime_30 rfl rfl (by first | rw [bI_t ⟨by omega, by omega, by omega, h22⟩]; rfl | rw [bI_f (fun q => h22 q.2.2.2)]; rfl | rw [bI_f (fun q => by have h1 := q.1; have h2 := q.2.1; have h3 := q.2.2.1; omega)]; rfl)
    · refine g_iload_n 0 _ dX5_isRestPrime_11 rfl rfl ?_
      refine g_iconst (nI 4) dX5_isRestPrime_12 rfl ?_
      refine g_iremN (by omega) (by omega) (by omega) dX5_isRestPrime_13 ?_
      refine g_iconst (nI 3) dX5_isRestPrime_14 rfl ?_
      refine g_icmp_neN 29 (by omega) (by omega) dX5_isRestPrime_15 (by decide) (fun h15 => ?_) (fun h15 => ?_)
      · refine g_iconst (nI 0) dX5_isRestPrime_29 rfl ?_
        exact g_ireturn dX5_isRestPrime_30 rfl rfl (by first | rw [bI_t ⟨by omega, by omega, by omega, h22⟩]; rfl | rw [bI_f (fun q => h22 q.2.2.2)]; rfl | rw [bI_f (fun q => by have h1 := q.1; have h2 := q.2.1; have h3 := q.2.2.1; omega)]; rfl)
      · refine g_iload_n 0 _ dX5_isRestPrime_18 rfl rfl ?_
        refine g_backi (g_runS (c_isPrime μ (p := p) (by omega)) rfl mw_X5_isPrime ms_X5_isPrime ml_X5_234 ⟨rfl, rfl, Nat.le_of_ble_eq_true rfl, Nat.le_of_ble_eq_true rfl⟩ rfl rfl (Nat.le_of_ble_eq_true rfl) dX5_isRestPrime_19) ?_
        refine g_if_eqB 29 dX5_isRestPrime_22 (by decide) (fun h22 => ?_) (fun h22 => ?_)
        · refine g_iconst (nI 0) dX5_isRestPrime_29 rfl ?_
          exact g_ireturn dX5_isRestPrime_30 rfl rfl (by first | rw [bI_t ⟨by omega, by omega, by omega, h22⟩]; rfl | rw [bI_f (fun q => h22 q.2.2.2)]; rfl | rw [bI_f (fun q => by have h1 := q.1; have h2 := q.2.1; have h3 := q.2.2.1; omega)]; rfl)
        · refine g_iconst (nI 1) dX5_isRestPrime_25 rfl ?_
          refine g_goto 30 dX5_isRestPrime_26 (by decide) ?_
          exact g_ireturn dX5_isRestPrime_30 rfl rfl (by first | rw [bI_t ⟨by omega, by omega, by omega, h22⟩]; rfl | rw [bI_f (fun q => h22 q.2.2.2)]; rfl | rw [bI_f (fun q => by have h1 := q.1; have h2 := q.2.1; have h3 := q.2.2.1; omega)]; rfl)
theorem c_isRestPrime_no (μ : Mm) (a : Int32) (h : a.toInt < 0 ∨ 60 ≤ a.toInt) : Ok mX5_isRestPrime (rmL 1) [.int a] μ (some (.int (nI 0)), μ) := by
  refine Ok.of (by decide) (Nat.le_of_ble_eq_true rfl) [some (.int a)] rfl ?_
  refine g_iload_n 0 _ dX5_isRestPrime_0 rfl rfl ?_
  refine g_iconst (nI 3) dX5_isRestPrime_1 rfl ?_
  refine g_icmp_lt 29 dX5_isRestPrime_2 (by decide) (fun h2 => ?_) (fun h2 => ?_)
  · refine g_iconst (nI 0) dX5_isRestPrime_29 rfl ?_
    exact g_ireturn dX5_isRestPrime_30 rfl rfl rfl
  · refine g_iload_n 0 _ dX5_isRestPrime_5 rfl rfl ?_
    refine g_bipush (nI 60) dX5_isRestPrime_6 rfl ?_
    refine g_icmp_ge 29 dX5_isRestPrime_8 (by decide) (fun h8 => ?_) (fun h8 => ?_)
    · refine g_iconst (nI 0) dX5_isRestPrime_29 rfl ?_
      exact g_ireturn dX5_isRestPrime_30 rfl rfl rfl
    · exfalso; simp only [ne_eq, fa_lt, fa_le, fa_eq, t0, t1, t2, tm1, nt0, nt1, nt2, nt3, nt4, nt5, nt7, nt9, nt10, nt13, nt14, nt30, nt32, nt59, nt60, nt200, nt1000, nt1000000, nt1073741824] at *; omega
/-- twin primes whose product is at most 60 -/
abbrev twP (p : Nat) : Prop := 2 ≤ p ∧ p < 60 ∧ p * (p + 2) ≤ 60 ∧ prP p ∧ prP (p + 2)
theorem c_isTwinPrime (μ : Mm) {p : Nat} (hp : p ≤ 60) : Ok mX5_isTwinPrime (rmL 1) [.int (nI p)] μ (some (.int (bI (twP p))), μ) := by
  have hq : p * (p + 2) ≤ 60 * 62 := Nat.mul_le_mul hp (by omega)
  refine Ok.of (by decide) (Nat.le_of_ble_eq_true rfl) [some (.int (nI p))] rfl ?_
  refine g_iload_n 0 _ dX5_isTwinPrime_0 rfl rfl ?_
  refine g_iconst (nI 2) dX5_isTwinPrime_1 rfl ?_
  refine g_icmp_ltN 41 (by omega) (by omega) dX5_isTwinPrime_2 (by decide) (fun h2 => ?_) (fun h2 => ?_)
  · refine g_iconst (nI 0) dX5_isTwinPrime_41 rfl ?_
    exact g_ireturn dX5_isTwinPrime_42 rfl rfl (by first | rw [bI_t ⟨by omega, by omega, by omega, h25, h34⟩]; rfl | rw [bI_f (fun q => h25 q.2.2.2.1)]; rfl | rw [bI_f (fun q => h34 q.2.2.2.2)]; rfl | rw [bI_f (fun q => by have h1 := q.1; have h2 := q.2.1; have h3 := q.2.2.1; omega)]; rfl)
  · refine g_iload_n 0 _ dX5_isTwinPrime_5 rfl rfl ?_
    refine g_bipush (nI 60) dX5_isTwinPrime_6 rfl ?_
    refine g_icmp_geN 41 (by omega) (by omega) dX5_isTwinPrime_8 (by decide) (fun h8 => ?_) (fun h8 => ?_)
    · refine g_iconst (nI 0) dX5_isTwinPrime_41 rfl ?_
      exact g_ireturn dX5_isTwinPrime_42 rfl rfl (by first | rw [bI_t ⟨by omega, by omega, by omega, h25, h34⟩]; rfl | rw [bI_f (fun q => h25 q.2.2.2.1)]; rfl | rw [bI_f (fun q => h34 q.2.2.2.2)]; rfl | rw [bI_f (fun q => by have h1 := q.1; have h2 := q.2.1; have h3 := q.2.2.1; omega)]; rfl)
    · refine g_iload_n 0 _ dX5_isTwinPrime_11 rfl rfl ?_
      refine g_iload_n 0 _ dX5_isTwinPrime_12 rfl rfl ?_
      refine g_iconst (nI 2) dX5_isTwinPrime_13 rfl ?_
      refine g_iaddN dX5_isTwinPrime_14 ?_
      refine g_imulN dX5_isTwinPrime_15 ?_
      refine g_bipush (nI 60) dX5_isTwinPrime_16 rfl ?_
      refine g_icmp_gtN 41 (by omega) (by omega) dX5_isTwinPrime_18 (by decide) (fun h18 => ?_) (fun h18 => ?_)
      · refine g_iconst (nI 0) dX5_isTwinPrime_41 rfl ?_
        exact g_ireturn dX5_isTwinPrime_42 rfl rfl (by first | rw [bI_t ⟨by omega, by omega, by omega, h25, h34⟩]; rfl | rw [bI_f (fun q => h25 q.2.2.2.1)]; rfl | rw [bI_f (fun q => h34 q.2.2.2.2)]; rfl | rw [bI_f (fun q => by have h1 := q.1; have h2 := q.2.1; have h3 := q.2.2.1; omega)]; rfl)
      · refine g_iload_n 0 _ dX5_isTwinPrime_21 rfl rfl ?_
        refine g_backi (g_runS (c_isPrime μ (p := p) (by omega)) rfl mw_X5_isPrime ms_X5_isPrime ml_X5_234 ⟨rfl, rfl, Nat.le_of_ble_eq_true rfl, Nat.le_of_ble_eq_true rfl⟩ rfl rfl (Nat.le_of_ble_eq_true rfl) dX5_isTwinPrime_22) ?_
        refine g_if_eqB 41 dX5_isTwinPrime_25 (by decide) (fun h25 => ?_) (fun h25 => ?_)
        · refine g_iconst (nI 0) dX5_isTwinPrime_41 rfl ?_
          exact g_ireturn dX5_isTwinPrime_42 rfl rfl (by first | rw [bI_t ⟨by omega, by omega, by omega, h25, h34⟩]; rfl | rw [bI_f (fun q => h25 q.2.2.2.1)]; rfl | rw [bI_f (fun q => h34 q.2.2.2.2)]; rfl | rw [bI_f (fun q => by have h1 := q.1; have h2 := q.2.1; have h3 := q.2.2.1; omega)]; rfl)
        · refine g_iload_n 0 _ dX5_isTwinPrime_28 rfl rfl ?_
          refine g_iconst (nI 2) dX5_isTwinPrime_29 rfl ?_
          refine g_iaddN dX5_isTwinPrime_30 ?_
          refine g_backi (g_runS (c_isPrime μ (p := p + 2) (by omega)) rfl mw_X5_isPrime ms_X5_isPrime ml_X5_234 ⟨rfl, rfl, Nat.le_of_ble_eq_true rfl, Nat.le_of_ble_eq_true rfl⟩ rfl rfl (Nat.le_of_ble_eq_true rfl) dX5_isTwinPrime_31) ?_
          refine g_if_eqB 41 dX5_isTwinPrime_34 (by decide) (fun h34 => ?_) (fun h34 => ?_)
          · refine g_iconst (nI 0) dX5_isTwinPrime_41 rfl ?_
            exact g_ireturn dX5_isTwinPrime_42 rfl rfl (by first | rw [bI_t ⟨by omega, by omega, by omega, h25, h34⟩]; rfl | rw [bI_f (fun q => h25 q.2.2.2.1)]; rfl | rw [bI_f (fun q => h34 q.2.2.2.2)]; rfl | rw [bI_f (fun q => by have h1 := q.1; have h2 := q.2.1; have h3 := q.2.2.1; omega)]; rfl)
          · refine g_iconst (nI 1) dX5_isTwinPrime_37 rfl ?_
            refine g_goto 42 dX5_isTwinPrime_38 (by decide) ?_
            exact g_ireturn dX5_isTwinPrime_42 rfl rfl (by first | rw [bI_t ⟨by omega, by omega, by omega, h25, h34⟩]; rfl | rw [bI_f (fun q => h25 q.2.2.2.1)]; rfl | rw [bI_f (fun q => h34 q.2.2.2.2)]; rfl | rw [bI_f (fun q => by have h1 := q.1; have h2 := q.2.1; have h3 := q.2.2.1; omega)]; rfl)
theorem c_isTwinPrime_no (μ : Mm) (a : Int32) (h : a.toInt < 0 ∨ 60 ≤ a.toInt) : Ok mX5_isTwinPrime (rmL 1) [.int a] μ (some (.int (nI 0)), μ) := by
  refine Ok.of (by decide) (Nat.le_of_ble_eq_true rfl) [some (.int a)] rfl ?_
  refine g_iload_n 0 _ dX5_isTwinPrime_0 rfl rfl ?_
  refine g_iconst (nI 2) dX5_isTwinPrime_1 rfl ?_
  refine g_icmp_lt 41 dX5_isTwinPrime_2 (by decide) (fun h2 => ?_) (fun h2 => ?_)
  · refine g_iconst (nI 0) dX5_isTwinPrime_41 rfl ?_
    exact g_ireturn dX5_isTwinPrime_42 rfl rfl rfl
  · refine g_iload_n 0 _ dX5_isTwinPrime_5 rfl rfl ?_
    refine g_bipush (nI 60) dX5_isTwinPrime_6 rfl ?_
    refine g_icmp_ge 41 dX5_isTwinPrime_8 (by decide) (fun h8 => ?_) (fun h8 => ?_)
    · refine g_iconst (nI 0) dX5_isTwinPrime_41 rfl ?_
      exact g_ireturn dX5_isTwinPrime_42 rfl rfl rfl
    · exfalso; simp only [ne_eq, fa_lt, fa_le, fa_eq, t0, t1, t2, tm1, nt0, nt1, nt2, nt3, nt4, nt5, nt7, nt9, nt10, nt13, nt14, nt30, nt32, nt59, nt60, nt200, nt1000, nt1000000, nt1073741824] at *; omega
abbrev sqP (x p : Nat) : Prop := x % p ≠ 0 ∧ ∃ r, r < p ∧ (1 ≤ r ∧ r * r % p = x % p)
theorem sq_rem {a x p : Nat} (hp : 0 < p) (hp2 : p < 2 ^ 30) (ha : a < 2 ^ 30) (hx : x < 2 ^ 30) : (nI a - nI x) - (nI a - nI x) / nI p * nI p = 0 ↔ a % p = x % p := by
  rw [fa_eq, t0, rem_toInt, pk_sub_toInt ha hx, nI_toInt (by omega)]
  rw [← Int.dvd_iff_tmod_eq_zero]
  constructor
  · intro h
    have h2 := Int.emod_eq_emod_iff_emod_sub_eq_zero.mpr (Int.emod_eq_zero_of_dvd h)
    omega
  · intro h
    have h1 : (a : Int) % (p : Int) = (x : Int) % (p : Int) := by omega
    exact Int.dvd_of_emod_eq_zero (Int.emod_eq_emod_iff_emod_sub_eq_zero.mp h1)
theorem c_isSquare_l {μ : Mm} {x p : Nat} (hp0 : 0 < p) (hp : p ≤ 60) (hx : x ≤ 200) (r : Int32) (hr : r = bI (sqP x p)) : ∀ (m d : Nat), 1 ≤ d → d ≤ 61 → p < d + m → (∀ j, j < d → 1 ≤ j → j * j % p ≠ x % p) → G mX5_isSquare (rmL 0) (some (.int r), μ) μ 2 [some (.int (nI x)), some (.int (nI p)), some (.int (nI d))] [] := by
  intro m
  induction m with
  | zero =>
    intro d h2 h70 hm hj
    refine g_iload_n 2 _ dX5_isSquare_2 rfl rfl ?_
    refine g_iload_n 1 _ dX5_isSquare_3 rfl rfl ?_
    refine g_icmp_geN 35 (by omega) (by omega) dX5_isSquare_4 (by decide) (fun h4 => ?_) (fun h4 => ?_)
    · refine g_iconst (nI 0) dX5_isSquare_35 rfl ?_
      exact g_ireturn dX5_isSquare_36 rfl rfl (by rw [hr, bI_f (fun q => by obtain ⟨-, j, h1, h3, h4⟩ := q; exact hj j (by omega) h3 h4)]; rfl)
    · exact absurd h4 (by omega)
  | succ m ih =>
    intro d h2 h70 hm hj
    have hmod := Nat.mod_le x p
    have hdd : d * d ≤ 61 * 61 := Nat.mul_le_mul h70 h70
    have hq := sq_rem (a := d * d) (x := x) hp0 (by omega) (by omega) (by omega)
    refine g_iload_n 2 _ dX5_isSquare_2 rfl rfl ?_
    refine g_iload_n 1 _ dX5_isSquare_3 rfl rfl ?_
    refine g_icmp_geN 35 (by omega) (by omega) dX5_isSquare_4 (by decide) (fun h4 => ?_) (fun h4 => ?_)
    · refine g_iconst (nI 0) dX5_isSquare_35 rfl ?_
      exact g_ireturn dX5_isSquare_36 rfl rfl (by rw [hr, bI_f (fun q => by obtain ⟨-, j, h1, h3, h4⟩ := q; exact hj j (by omega) h3 h4)]; rfl)
    · refine g_iload_n 2 _ dX5_isSquare_7 rfl rfl ?_
      refine g_iload_n 2 _ dX5_isSquare_8 rfl rfl ?_
      refine g_imulN dX5_isSquare_9 ?_
      refine g_iload_n 0 _ dX5_isSquare_10 rfl rfl ?_
      refine g_isub dX5_isSquare_11 ?_
      refine g_iload_n 1 _ dX5_isSquare_12 rfl rfl ?_
      refine g_irem dX5_isSquare_13 (nI_ne0 hp0 (by omega)) ?_
      refine g_at 14 rfl ?_
      refine g_if_ne 29 dX5_isSquare_14 (by decide) (fun h14 => ?_) (fun h14 => ?_)
      · refine g_iincN [some (.int (nI x)), some (.int (nI p)), some (.int (nI (d + 1)))] dX5_isSquare_29 rfl (Nat.le_of_ble_eq_true rfl) rfl rfl ?_
        refine g_goto 2 dX5_isSquare_32 (by decide) ?_
        exact ih (d + 1) (by omega) (by omega) (by omega) (fun j h1 h3 => (Nat.lt_succ_iff_lt_or_eq.mp h1).elim (fun h => hj j h h3) (fun e => e ▸ (fun q => h14 (hq.mpr q))))
      · refine g_iload_n 0 _ dX5_isSquare_17 rfl rfl ?_
        refine g_iload_n 1 _ dX5_isSquare_18 rfl rfl ?_
        refine g_iremN (by omega) (by omega) (by omega) dX5_isSquare_19 ?_
        refine g_if_eqN 27 (by omega) dX5_isSquare_20 (by decide) (fun h20 => ?_) (fun h20 => ?_)
        · refine g_iconst (nI 0) dX5_isSquare_27 rfl ?_
          exact g_ireturn dX5_isSquare_28 rfl rfl (by rw [hr]; first | rw [bI_t ⟨by omega, d, by omega, h2, hq.mp h14⟩]; rfl | rw [bI_f (fun q => q.1 (by omega))]; rfl)
        · refine g_iconst (nI 1) dX5_isSquare_23 rfl ?_
          refine g_goto 28 dX5_isSquare_24 (by decide) ?_
          exact g_ireturn dX5_isSquare_28 rfl rfl (by rw [hr]; first | rw [bI_t ⟨by omega, d, by omega, h2, hq.mp h14⟩]; rfl | rw [bI_f (fun q => q.1 (by omega))]; rfl)
theorem c_isSquare (μ : Mm) {x p : Nat} (hp0 : 0 < p) (hp : p ≤ 60) (hx : x ≤ 200) : Ok mX5_isSquare (rmL 0) [.int (nI x), .int (nI p)] μ (some (.int (bI (sqP x p))), μ) := by
  refine Ok.of (by decide) (Nat.le_of_ble_eq_true rfl) [some (.int (nI x)), some (.int (nI p)), none] rfl ?_
  refine g_iconst (nI 1) dX5_isSquare_0 rfl ?_
  refine g_istore_n [some (.int (nI x)), some (.int (nI p)), some (.int (nI 1))] dX5_isSquare_1 rfl (Nat.le_of_ble_eq_true rfl) rfl rfl ?_
  exact c_isSquare_l hp0 hp hx _ rfl p 1 (by omega) (by omega) (by omega) (fun j h1 h2 => absurd h1 (by omega))
/-- how many ones, as the library counts them -/
def bc1 (x : Int32) : Int32 := x - ((x.toUInt32 >>> ((nI 1).toUInt32 &&& Int32.toUInt32 31)).toInt32 &&& nI 1431655765)
def bc2 (x : Int32) : Int32 := (x &&& nI 858993459) + ((x.toUInt32 >>> ((nI 2).toUInt32 &&& Int32.toUInt32 31)).toInt32 &&& nI 858993459)
def bc3 (x : Int32) : Int32 := (x + (x.toUInt32 >>> ((nI 4).toUInt32 &&& Int32.toUInt32 31)).toInt32) &&& nI 252645135
def bc4 (x : Int32) : Int32 := x + (x.toUInt32 >>> ((nI 8).toUInt32 &&& Int32.toUInt32 31)).toInt32
def bc5 (x : Int32) : Int32 := x + (x.toUInt32 >>> ((nI 16).toUInt32 &&& Int32.toUInt32 31)).toInt32
def bcF (x : Int32) : Int32 := bc5 (bc4 (bc3 (bc2 (bc1 x)))) &&& nI 63
theorem c_bitCount (μ : Mm) (x : Int32) : Ok mJ6_bitCount_0f7a4 (rmL 0) [.int x] μ (some (.int (bcF x)), μ) := by
  refine Ok.ofF (by decide +kernel) (Nat.le_of_ble_eq_true rfl) [some (.int x)] rfl ?_
  refine g_iload_n 0 _ dJ6_bitCount_0f7a4_0 rfl rfl ?_
  refine g_iload_n 0 _ dJ6_bitCount_0f7a4_1 rfl rfl ?_
  refine g_iconst (nI 1) dJ6_bitCount_0f7a4_2 rfl ?_
  refine g_iushr dJ6_bitCount_0f7a4_3 ?_
  refine g_ldcw _ rfl kc_J6_265 dJ6_bitCount_0f7a4_4 ?_
  refine g_top (w := .int (nI 1431655765)) rfl ?_
  refine g_iand dJ6_bitCount_0f7a4_7 ?_
  refine g_isub dJ6_bitCount_0f7a4_8 ?_
  refine g_at 9 rfl ?_
  refine g_istore_n [some (.int (x - (((x.toUInt32 >>> ((nI 1).toUInt32 &&& Int32.toUInt32 31)).toInt32) &&& (nI 1431655765))))] dJ6_bitCount_0f7a4_9 rfl (Nat.le_of_ble_eq_true rfl) rfl rfl ?_
  refine g_iload_n 0 _ dJ6_bitCount_0f7a4_10 rfl rfl ?_
  refine g_ldcw _ rfl kc_J6_266 dJ6_bitCount_0f7a4_11 ?_
  refine g_top (w := .int (nI 858993459)) rfl ?_
  refine g_iand dJ6_bitCount_0f7a4_14 ?_
  refine g_iload_n 0 _ dJ6_bitCount_0f7a4_15 rfl rfl ?_
  refine g_iconst (nI 2) dJ6_bitCount_0f7a4_16 rfl ?_
  refine g_iushr dJ6_bitCount_0f7a4_17 ?_
  refine g_ldcw _ rfl kc_J6_266 dJ6_bitCount_0f7a4_18 ?_
  refine g_top (w := .int (nI 858993459)) rfl ?_
  refine g_at 21 rfl ?_
  refine g_iand dJ6_bitCount_0f7a4_21 ?_
  refine g_iadd dJ6_bitCount_0f7a4_22 ?_
  refine g_istore_n [some (.int (((x - (((x.toUInt32 >>> ((nI 1).toUInt32 &&& Int32.toUInt32 31)).toInt32) &&& (nI 1431655765))) &&& (nI 858993459)) + ((((x - (((x.toUInt32 >>> ((nI 1).toUInt32 &&& Int32.toUInt32 31)).toInt32) &&& (nI 1431655765))).toUInt32 >>> ((nI 2).toUInt32 &&& Int32.toUInt32 31)).toInt32) &&& (nI 858993459))))] dJ6_bitCount_0f7a4_23 rfl (Nat.le_of_ble_eq_true rfl) rfl rfl ?_
  refine g_iload_n 0 _ dJ6_bitCount_0f7a4_24 rfl rfl ?_
  refine g_iload_n 0 _ dJ6_bitCount_0f7a4_25 rfl rfl ?_
  refine g_iconst (nI 4) dJ6_bitCount_0f7a4_26 rfl ?_
  refine g_iushr dJ6_bitCount_0f7a4_27 ?_
  refine g_iadd dJ6_bitCount_0f7a4_28 ?_
  refine g_at 29 rfl ?_
  refine g_ldcw _ rfl kc_J6_267 dJ6_bitCount_0f7a4_29 ?_
  refine g_top (w := .int (nI 252645135)) rfl ?_
  refine g_iand dJ6_bitCount_0f7a4_32 ?_
  refine g_istore_n [some (.int (((((x - (((x.toUInt32 >>> ((nI 1).toUInt32 &&& Int32.toUInt32 31)).toInt32) &&& (nI 1431655765))) &&& (nI 858993459)) + ((((x - (((x.toUInt32 >>> ((nI 1).toUInt32 &&& Int32.toUInt32 31)).toInt32) &&& (nI 1431655765))).toUInt32 >>> ((nI 2).toUInt32 &&& Int32.toUInt32 31)).toInt32) &&& (nI 858993459))) + (((((x - (((x.toUInt32 >>> ((nI 1).toUInt32 &&& Int32.toUInt32 31)).toInt32) &&& (nI 1431655765))) &&& (nI 858993459)) + ((((x - (((x.toUInt32 >>> ((nI 1).toUInt32 &&& Int32.toUInt32 31)).toInt32) &&& (nI 1431655765))).toUInt32 >>> ((nI 2).toUInt32 &&& Int32.toUInt32 31)).toInt32) &&& (nI 858993459))).toUInt32 >>> ((nI 4).toUInt32 &&& Int32.toUInt32 31)).toInt32)) &&& (nI 252645135)))] dJ6_bitCount_0f7a4_33 rfl (Nat.le_of_ble_eq_true rfl) rfl rfl ?_
  refine g_iload_n 0 _ dJ6_bitCount_0f7a4_34 rfl rfl ?_
  refine g_iload_n 0 _ dJ6_bitCount_0f7a4_35 rfl rfl ?_
  refine g_bipush (nI 8) dJ6_bitCount_0f7a4_36 rfl ?_
  refine g_iushr dJ6_bitCount_0f7a4_38 ?_
  refine g_iadd dJ6_bitCount_0f7a4_39 ?_
  refine g_at 40 rfl ?_
  refine g_istore_n [some (.int ((((((x - (((x.toUInt32 >>> ((nI 1).toUInt32 &&& Int32.toUInt32 31)).toInt32) &&& (nI 1431655765))) &&& (nI 858993459)) + ((((x - (((x.toUInt32 >>> ((nI 1).toUInt32 &&& Int32.toUInt32 31)).toInt32) &&& (nI 1431655765))).toUInt32 >>> ((nI 2).toUInt32 &&& Int32.toUInt32 31)).toInt32) &&& (nI 858993459))) + (((((x - (((x.toUInt32 >>> ((nI 1).toUInt32 &&& Int32.toUInt32 31)).toInt32) &&& (nI 1431655765))) &&& (nI 858993459)) + ((((x - (((x.toUInt32 >>> ((nI 1).toUInt32 &&& Int32.toUInt32 31)).toInt32) &&& (nI 1431655765))).toUInt32 >>> ((nI 2).toUInt32 &&& Int32.toUInt32 31)).toInt32) &&& (nI 858993459))).toUInt32 >>> ((nI 4).toUInt32 &&& Int32.toUInt32 31)).toInt32)) &&& (nI 252645135)) + (((((((x - (((x.toUInt32 >>> ((nI 1).toUInt32 &&& Int32.toUInt32 31)).toInt32) &&& (nI 1431655765))) &&& (nI 858993459)) + ((((x - (((x.toUInt32 >>> ((nI 1).toUInt32 &&& Int32.toUInt32 31)).toInt32) &&& (nI 1431655765))).toUInt32 >>> ((nI 2).toUInt32 &&& Int32.toUInt32 31)).toInt32) &&& (nI 858993459))) + (((((x - (((x.toUInt32 >>> ((nI 1).toUInt32 &&& Int32.toUInt32 31)).toInt32) &&& (nI 1431655765))) &&& (nI 858993459)) + ((((x - (((x.toUInt32 >>> ((nI 1).toUInt32 &&& Int32.toUInt32 31)).toInt32) &&& (nI 1431655765))).toUInt32 >>> ((nI 2).toUInt32 &&& Int32.toUInt32 31)).toInt32) &&& (nI 858993459))).toUInt32 >>> ((nI 4).toUInt32 &&& Int32.toUInt32 31)).toInt32)) &&& (nI 252645135)).toUInt32 >>> ((nI 8).toUInt32 &&& Int32.toUInt32 31)).toInt32)))] dJ6_bitCount_0f7a4_40 rfl (Nat.le_of_ble_eq_true rfl) rfl rfl ?_
  refine g_iload_n 0 _ dJ6_bitCount_0f7a4_41 rfl rfl ?_
  refine g_iload_n 0 _ dJ6_bitCount_0f7a4_42 rfl rfl ?_
  refine g_bipush (nI 16) dJ6_bitCount_0f7a4_43 rfl ?_
  refine g_iushr dJ6_bitCount_0f7a4_45 ?_
  refine g_iadd dJ6_bitCount_0f7a4_46 ?_
  refine g_istore_n [some (.int (((((((x - (((x.toUInt32 >>> ((nI 1).toUInt32 &&& Int32.toUInt32 31)).toInt32) &&& (nI 1431655765))) &&& (nI 858993459)) + ((((x - (((x.toUInt32 >>> ((nI 1).toUInt32 &&& Int32.toUInt32 31)).toInt32) &&& (nI 1431655765))).toUInt32 >>> ((nI 2).toUInt32 &&& Int32.toUInt32 31)).toInt32) &&& (nI 858993459))) + (((((x - (((x.toUInt32 >>> ((nI 1).toUInt32 &&& Int32.toUInt32 31)).toInt32) &&& (nI 1431655765))) &&& (nI 858993459)) + ((((x - (((x.toUInt32 >>> ((nI 1).toUInt32 &&& Int32.toUInt32 31)).toInt32) &&& (nI 1431655765))).toUInt32 >>> ((nI 2).toUInt32 &&& Int32.toUInt32 31)).toInt32) &&& (nI 858993459))).toUInt32 >>> ((nI 4).toUInt32 &&& Int32.toUInt32 31)).toInt32)) &&& (nI 252645135)) + (((((((x - (((x.toUInt32 >>> ((nI 1).toUInt32 &&& Int32.toUInt32 31)).toInt32) &&& (nI 1431655765))) &&& (nI 858993459)) + ((((x - (((x.toUInt32 >>> ((nI 1).toUInt32 &&& Int32.toUInt32 31)).toInt32) &&& (nI 1431655765))).toUInt32 >>> ((nI 2).toUInt32 &&& Int32.toUInt32 31)).toInt32) &&& (nI 858993459))) + (((((x - (((x.toUInt32 >>> ((nI 1).toUInt32 &&& Int32.toUInt32 31)).toInt32) &&& (nI 1431655765))) &&& (nI 858993459)) + ((((x - (((x.toUInt32 >>> ((nI 1).toUInt32 &&& Int32.toUInt32 31)).toInt32) &&& (nI 1431655765))).toUInt32 >>> ((nI 2).toUInt32 &&& Int32.toUInt32 31)).toInt32) &&& (nI 858993459))).toUInt32 >>> ((nI 4).toUInt32 &&& Int32.toUInt32 31)).toInt32)) &&& (nI 252645135)).toUInt32 >>> ((nI 8).toUInt32 &&& Int32.toUInt32 31)).toInt32)) + ((((((((x - (((x.toUInt32 >>> ((nI 1).toUInt32 &&& Int32.toUInt32 31)).toInt32) &&& (nI 1431655765))) &&& (nI 858993459)) + ((((x - (((x.toUInt32 >>> ((nI 1).toUInt32 &&& Int32.toUInt32 31)).toInt32) &&& (nI 1431655765))).toUInt32 >>> ((nI 2).toUInt32 &&& Int32.toUInt32 31)).toInt32) &&& (nI 858993459))) + (((((x - (((x.toUInt32 >>> ((nI 1).toUInt32 &&& Int32.toUInt32 31)).toInt32) &&& (nI 1431655765))) &&& (nI 858993459)) + ((((x - (((x.toUInt32 >>> ((nI 1).toUInt32 &&& Int32.toUInt32 31)).toInt32) &&& (nI 1431655765))).toUInt32 >>> ((nI 2).toUInt32 &&& Int32.toUInt32 31)).toInt32) &&& (nI 858993459))).toUInt32 >>> ((nI 4).toUInt32 &&& Int32.toUInt32 31)).toInt32)) &&& (nI 252645135)) + (((((((x - (((x.toUInt32 >>> ((nI 1).toUInt32 &&& Int32.toUInt32 31)).toInt32) &&& (nI 1431655765))) &&& (nI 858993459)) + ((((x - (((x.toUInt32 >>> ((nI 1).toUInt32 &&& Int32.toUInt32 31)).toInt32) &&& (nI 1431655765))).toUInt32 >>> ((nI 2).toUInt32 &&& Int32.toUInt32 31)).toInt32) &&& (nI 858993459))) + (((((x - (((x.toUInt32 >>> ((nI 1).toUInt32 &&& Int32.toUInt32 31)).toInt32) &&& (nI 1431655765))) &&& (nI 858993459)) + ((((x - (((x.toUInt32 >>> ((nI 1).toUInt32 &&& Int32.toUInt32 31)).toInt32) &&& (nI 1431655765))).toUInt32 >>> ((nI 2).toUInt32 &&& Int32.toUInt32 31)).toInt32) &&& (nI 858993459))).toUInt32 >>> ((nI 4).toUInt32 &&& Int32.toUInt32 31)).toInt32)) &&& (nI 252645135)).toUInt32 >>> ((nI 8).toUInt32 &&& Int32.toUInt32 31)).toInt32)).toUInt32 >>> ((nI 16).toUInt32 &&& Int32.toUInt32 31)).toInt32)))] dJ6_bitCount_0f7a4_47 rfl (Nat.le_of_ble_eq_true rfl) rfl rfl ?_
  refine g_iload_n 0 _ dJ6_bitCount_0f7a4_48 rfl rfl ?_
  refine g_at 49 rfl ?_
  refine g_bipush (nI 63) dJ6_bitCount_0f7a4_49 rfl ?_
  refine g_iand dJ6_bitCount_0f7a4_51 ?_
  exact g_ireturn dJ6_bitCount_0f7a4_52 rfl rfl rfl
def nsF (s t r : Int32) : Int32 := (s >>> (nI 1 &&& 31)) ||| ((bcF (s &&& t) &&& nI 1) <<< ((r - nI 1) &&& 31))
theorem c_nextState (μ : Mm) (s t r : Int32) : Ok mX5_nextState (rmL 1) [.int s, .int t, .int r] μ (some (.int (nsF s t r)), μ) := by
  refine Ok.of (by decide) (Nat.le_of_ble_eq_true rfl) [some (.int s), some (.int t), some (.int r), none] rfl ?_
  refine g_iload_n 0 _ dX5_nextState_0 rfl rfl ?_
  refine g_iload_n 1 _ dX5_nextState_1 rfl rfl ?_
  refine g_iand dX5_nextState_2 ?_
  refine g_backi (g_runS (c_bitCount μ (s &&& t)) rfl mw_J6_bitCount_0f7a4 ms_J6_bitCount_0f7a4 ml_X5_237 ⟨rfl, rfl, Nat.le_of_ble_eq_true rfl, Nat.le_of_ble_eq_true rfl⟩ rfl rfl (Nat.le_of_ble_eq_true rfl) dX5_nextState_3) ?_
  refine g_iconst (nI 1) dX5_nextState_6 rfl ?_
  refine g_iand dX5_nextState_7 ?_
  refine g_istore_n [some (.int s), some (.int t), some (.int r), some (.int ((bcF (s &&& t)) &&& (nI 1)))] dX5_nextState_8 rfl (Nat.le_of_ble_eq_true rfl) rfl rfl ?_
  refine g_at 9 rfl ?_
  refine g_iload_n 0 _ dX5_nextState_9 rfl rfl ?_
  refine g_iconst (nI 1) dX5_nextState_10 rfl ?_
  refine g_ishr dX5_nextState_11 ?_
  refine g_iload_n 3 _ dX5_nextState_12 rfl rfl ?_
  refine g_iload_n 2 _ dX5_nextState_13 rfl rfl ?_
  refine g_iconst (nI 1) dX5_nextState_14 rfl ?_
  refine g_isub dX5_nextState_15 ?_
  refine g_ishl dX5_nextState_16 ?_
  refine g_at 17 rfl ?_
  refine g_ior dX5_nextState_17 ?_
  exact g_ireturn dX5_nextState_18 rfl rfl rfl
/-- steps until the state is f again, from step k on, m left -/
def spF (t r f : Int32) : Nat → Nat → Int32 → Int32
  | 0, _, _ => -1
  | m + 1, k, s => if nsF s t r = f then nI k else spF t r f m (k + 1) (nsF s t r)
theorem c_steps_l {μ : Mm} {t r f : Int32} {n : Nat} (hn : n ≤ 40) (v : Int32) : ∀ (m k : Nat) (s : Int32), k + m = n + 1 → v = spF t r f m k s → G mX5_stepsRound (rmL 2) (some (.int v), μ) μ 12 [some (.int t), some (.int r), some (.int (nI n)), some (.int f), some (.int s), some (.int (nI k))] [] := by
  intro m
  induction m with
  | zero =>
    intro k s hk hv
    refine g_iload _ dX5_stepsRound_12 rfl ?_
    refine g_iload_n 2 _ dX5_stepsRound_14 rfl rfl ?_
    refine g_icmp_gtN 42 (by omega) (by omega) dX5_stepsRound_15 (by decide) (fun h15 => ?_) (fun h15 => ?_)
    · refine g_iconst (-1) dX5_stepsRound_42 rfl ?_
      exact g_ireturn dX5_stepsRound_43 rfl rfl (by rw [hv]; rfl)
    · exact absurd h15 (by omega)
  | succ m ih =>
    intro k s hk hv
    refine g_iload _ dX5_stepsRound_12 rfl ?_
    refine g_iload_n 2 _ dX5_stepsRound_14 rfl rfl ?_
    refine g_icmp_gtN 42 (by omega) (by omega) dX5_stepsRound_15 (by decide) (fun h15 => ?_) (fun h15 => ?_)
    · exact absurd h15 (by omega)
    · refine g_iload _ dX5_stepsRound_18 rfl ?_
      refine g_iload_n 0 _ dX5_stepsRound_20 rfl rfl ?_
      refine g_iload_n 1 _ dX5_stepsRound_21 rfl rfl ?_
      refine g_backi (g_runS (c_nextState μ s t r) rfl mw_X5_nextState ms_X5_nextState ml_X5_158 ⟨rfl, rfl, Nat.le_of_ble_eq_true rfl, Nat.le_of_ble_eq_true rfl⟩ rfl rfl (Nat.le_of_ble_eq_true rfl) dX5_stepsRound_22) ?_
      refine g_istore [some (.int t), some (.int r), some (.int (nI n)), some (.int f), some (.int (nsF s t r)), some (.int (nI k))] dX5_stepsRound_25 (Nat.le_of_ble_eq_true rfl) rfl rfl ?_
      refine g_iload _ dX5_stepsRound_27 rfl ?_
      refine g_iload_n 3 _ dX5_stepsRound_29 rfl rfl ?_
      refine g_at 30 rfl ?_
      refine g_icmp_ne 36 dX5_stepsRound_30 (by decide) (fun h30 => ?_) (fun h30 => ?_)
      · refine g_iincN [some (.int t), some (.int r), some (.int (nI n)), some (.int f), some (.int (nsF s t r)), some (.int (nI (k + 1)))] dX5_stepsRound_36 rfl (Nat.le_of_ble_eq_true rfl) rfl rfl ?_
        refine g_goto 12 dX5_stepsRound_39 (by decide) ?_
        exact ih (k + 1) _ (by omega) (by rw [hv, spF, if_neg h30])
      · refine g_iload _ dX5_stepsRound_33 rfl ?_
        exact g_ireturn dX5_stepsRound_35 rfl rfl (by rw [hv, spF, if_pos h30])
theorem c_stepsRound (μ : Mm) (t r : Int32) {n : Nat} (hn : n ≤ 40) : Ok mX5_stepsRound (rmL 2) [.int t, .int r, .int (nI n)] μ (some (.int (spF t r (nI 1 <<< ((r - nI 1) &&& 31)) n 1 (nI 1 <<< ((r - nI 1) &&& 31)))), μ) := by
  refine Ok.of (by decide) (Nat.le_of_ble_eq_true rfl) [some (.int t), some (.int r), some (.int (nI n)), none, none, none] rfl ?_
  refine g_iconst (nI 1) dX5_stepsRound_0 rfl ?_
  refine g_iload_n 1 _ dX5_stepsRound_1 rfl rfl ?_
  refine g_iconst (nI 1) dX5_stepsRound_2 rfl ?_
  refine g_isub dX5_stepsRound_3 ?_
  refine g_ishl dX5_stepsRound_4 ?_
  refine g_istore_n [some (.int t), some (.int r), some (.int (nI n)), some (.int ((nI 1) <<< ((r - (nI 1)) &&& 31))), none, none] dX5_stepsRound_5 rfl (Nat.le_of_ble_eq_true rfl) rfl rfl ?_
  refine g_iload_n 3 _ dX5_stepsRound_6 rfl rfl ?_
  refine g_at 7 rfl ?_
  refine g_istore [some (.int t), some (.int r), some (.int (nI n)), some (.int ((nI 1) <<< ((r - (nI 1)) &&& 31))), some (.int ((nI 1) <<< ((r - (nI 1)) &&& 31))), none] dX5_stepsRound_7 (Nat.le_of_ble_eq_true rfl) rfl rfl ?_
  refine g_iconst (nI 1) dX5_stepsRound_9 rfl ?_
  refine g_istore [some (.int t), some (.int r), some (.int (nI n)), some (.int ((nI 1) <<< ((r - (nI 1)) &&& 31))), some (.int ((nI 1) <<< ((r - (nI 1)) &&& 31))), some (.int (nI 1))] dX5_stepsRound_10 (Nat.le_of_ble_eq_true rfl) rfl rfl ?_
  exact c_steps_l hn _ n 1 _ (by omega) rfl
def ltF (r : Int32) (n : Nat) : Nat → Nat → Int32
  | 0, _ => -1
  | m + 1, t => if n < t then -1 else if spF (nI t) r (nI 1 <<< ((r - nI 1) &&& 31)) n 1 (nI 1 <<< ((r - nI 1) &&& 31)) = nI n then nI t else ltF r n m (t + 2)
theorem c_least_l {μ : Mm} {r : Int32} {n : Nat} (hn : n ≤ 40) (v : Int32) : ∀ (m t : Nat), n < t + 2 * m → t ≤ 42 → v = ltF r n (m + 1) t → G mX5_leastTaps (rmL 3) (some (.int v), μ) μ 2 [some (.int r), some (.int (nI n)), some (.int (nI t))] [] := by
  intro m
  induction m with
  | zero =>
    intro t ht h42 hv
    refine g_iload_n 2 _ dX5_leastTaps_2 rfl rfl ?_
    refine g_iload_n 1 _ dX5_leastTaps_3 rfl rfl ?_
    refine g_icmp_gtN 25 (by omega) (by omega) dX5_leastTaps_4 (by decide) (fun h4 => ?_) (fun h4 => ?_)
    · refine g_iconst (-1) dX5_leastTaps_25 rfl ?_
      exact g_ireturn dX5_leastTaps_26 rfl rfl (by rw [hv, ltF, if_pos (by omega)])
    · exact absurd h4 (by omega)
  | succ m ih =>
    intro t ht h42 hv
    refine g_iload_n 2 _ dX5_leastTaps_2 rfl rfl ?_
    refine g_iload_n 1 _ dX5_leastTaps_3 rfl rfl ?_
    refine g_icmp_gtN 25 (by omega) (by omega) dX5_leastTaps_4 (by decide) (fun h4 => ?_) (fun h4 => ?_)
    · refine g_iconst (-1) dX5_leastTaps_25 rfl ?_
      exact g_ireturn dX5_leastTaps_26 rfl rfl (by rw [hv, ltF, if_pos (by omega)])
    · refine g_iload_n 2 _ dX5_leastTaps_7 rfl rfl ?_
      refine g_iload_n 0 _ dX5_leastTaps_8 rfl rfl ?_
      refine g_iload_n 1 _ dX5_leastTaps_9 rfl rfl ?_
      refine g_backi (g_runS (c_stepsRound μ (nI t) r hn) rfl mw_X5_stepsRound ms_X5_stepsRound ml_X5_242 ⟨rfl, rfl, Nat.le_of_ble_eq_true rfl, Nat.le_of_ble_eq_true rfl⟩ rfl rfl (Nat.le_of_ble_eq_true rfl) dX5_leastTaps_10) ?_
      refine g_iload_n 1 _ dX5_leastTaps_13 rfl rfl ?_
      refine g_icmp_ne 19 dX5_leastTaps_14 (by decide) (fun h14 => ?_) (fun h14 => ?_)
      · refine g_iinc [some (.int r), some (.int (nI n)), some (.int (nI (t + 2)))] dX5_leastTaps_19 rfl (nI_add _ 2) (Nat.le_of_ble_eq_true rfl) rfl rfl ?_
        refine g_goto 2 dX5_leastTaps_22 (by decide) ?_
        exact ih (t + 2) (by omega) (by omega) (by rw [hv, ltF, if_neg (by omega), if_neg h14])
      · refine g_iload_n 2 _ dX5_leastTaps_17 rfl rfl ?_
        exact g_ireturn dX5_leastTaps_18 rfl rfl (by rw [hv, ltF, if_neg (by omega), if_pos h14])
theorem c_leastTaps (μ : Mm) (r : Int32) {n : Nat} (hn : n ≤ 40) : Ok mX5_leastTaps (rmL 3) [.int r, .int (nI n)] μ (some (.int (ltF r n 21 1)), μ) := by
  refine Ok.of (by decide) (Nat.le_of_ble_eq_true rfl) [some (.int r), some (.int (nI n)), none] rfl ?_
  refine g_iconst (nI 1) dX5_leastTaps_0 rfl ?_
  refine g_istore_n [some (.int r), some (.int (nI n)), some (.int (nI 1))] dX5_leastTaps_1 rfl (Nat.le_of_ble_eq_true rfl) rfl rfl ?_
  exact c_least_l hn _ 20 1 (by omega) (by omega) rfl
