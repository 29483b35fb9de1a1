/-! HoleMaskModel: primes, squares, rests, twins, shift -/
theorem d_isPrime_l {μ : Mm} {p : Nat} (hp : p ≤ 70) (r : Int32) (hr : r = bI (prP p)) : ∀ (m d : Nat), 2 ≤ d → d ≤ 70 → p < d + m → (∀ j, j < d → 2 ≤ j → p % j ≠ 0) → G mX6_isPrime (rmL 0) (some (.int r), μ) μ 2 [some (.int (nI p)), some (.int (nI d))] [] := by
  intro m
  induction m with
  | zero =>
    intro d h2 h70 hm hj
    refine g_iload_n 1 _ dX6_isPrime_2 rfl rfl ?_
    refine g_iload_n 0 _ dX6_isPrime_3 rfl rfl ?_
    refine g_icmp_geN 21 (by omega) (by omega) dX6_isPrime_4 (by decide) (fun h4 => ?_) (fun h4 => ?_)
    · refine g_iload_n 0 _ dX6_isPrime_21 rfl rfl ?_
      refine g_iconst (nI 1) dX6_isPrime_22 rfl ?_
      refine g_icmp_leN 30 (by omega) (by omega) dX6_isPrime_23 (by decide) (fun h23 => ?_) (fun h23 => ?_)
      · refine g_iconst (nI 0) dX6_isPrime_30 rfl ?_
        exact g_ireturn dX6_isPrime_31 rfl rfl (by rw [hr]; first | rw [bI_t ⟨by omega, fun j h1 h3 => hj j (by omega) h3⟩]; rfl | rw [bI_f (fun q => by have := q.1; omega)]; rfl)
      · refine g_iconst (nI 1) dX6_isPrime_26 rfl ?_
        refine g_goto 31 dX6_isPrime_27 (by decide) ?_
        exact g_ireturn dX6_isPrime_31 rfl rfl (by rw [hr]; first | rw [bI_t ⟨by omega, fun j h1 h3 => hj j (by omega) h3⟩]; rfl | rw [bI_f (fun q => by have := q.1; omega)]; rfl)
    · exact absurd h4 (by omega)
  | succ m ih =>
    intro d h2 h70 hm hj
    have hmod := Nat.mod_le p d
    refine g_iload_n 1 _ dX6_isPrime_2 rfl rfl ?_
    refine g_iload_n 0 _ dX6_isPrime_3 rfl rfl ?_
    refine g_icmp_geN 21 (by omega) (by omega) dX6_isPrime_4 (by decide) (fun h4 => ?_) (fun h4 => ?_)
    · refine g_iload_n 0 _ dX6_isPrime_21 rfl rfl ?_
      refine g_iconst (nI 1) dX6_isPrime_22 rfl ?_
      refine g_icmp_leN 30 (by omega) (by omega) dX6_isPrime_23 (by decide) (fun h23 => ?_) (fun h23 => ?_)
      · refine g_iconst (nI 0) dX6_isPrime_30 rfl ?_
        exact g_ireturn dX6_isPrime_31 rfl rfl (by rw [hr]; first | rw [bI_t ⟨by omega, fun j h1 h3 => hj j (by omega) h3⟩]; rfl | rw [bI_f (fun q => by have := q.1; omega)]; rfl | rw [bI_f (fun q => q.2 d (by omega) h2 (by omega))]; rfl)
      · refine g_iconst (nI 1) dX6_isPrime_26 rfl ?_
        refine g_goto 31 dX6_isPrime_27 (by decide) ?_
        exact g_ireturn dX6_isPrime_31 rfl rfl (by rw [hr]; first | rw [bI_t ⟨by omega, fun j h1 h3 => hj j (by omega) h3⟩]; rfl | rw [bI_f (fun q => by have := q.1; omega)]; rfl | rw [bI_f (fun q => q.2 d (by omega) h2 (by omega))]; rfl)
    · refine g_iload_n 0 _ dX6_isPrime_7 rfl rfl ?_
      refine g_iload_n 1 _ dX6_isPrime_8 rfl rfl ?_
      refine g_iremN (by omega) (by omega) (by omega) dX6_isPrime_9 ?_
      refine g_if_neN 15 (by omega) dX6_isPrime_10 (by decide) (fun h10 => ?_) (fun h10 => ?_)
      · refine g_iincN [some (.int (nI p)), some (.int (nI (d + 1)))] dX6_isPrime_15 rfl (Nat.le_of_ble_eq_true rfl) rfl rfl ?_
        refine g_goto 2 dX6_isPrime_18 (by decide) ?_
        exact ih (d + 1) (by omega) (by omega) (by omega) (fun j h1 h3 => (Nat.lt_succ_iff_lt_or_eq.mp h1).elim (fun h => hj j h h3) (fun e => e ▸ (by omega)))
      · refine g_iconst (nI 0) dX6_isPrime_13 rfl ?_
        exact g_ireturn dX6_isPrime_14 rfl rfl (by rw [hr]; first | rw [bI_t ⟨by omega, fun j h1 h3 => hj j (by omega) h3⟩]; rfl | rw [bI_f (fun q => by have := q.1; omega)]; rfl | rw [bI_f (fun q => q.2 d (by omega) h2 (by omega))]; rfl)
theorem d_isPrime (μ : Mm) {p : Nat} (hp : p ≤ 70) : Ok mX6_isPrime (rmL 0) [.int (nI p)] μ (some (.int (bI (prP p))), μ) := by
  refine Ok.of (by decide) (Nat.le_of_ble_eq_true rfl) [some (.int (nI p)), none] rfl ?_
  refine g_iconst (nI 2) dX6_isPrime_0 rfl ?_
  refine g_istore_n [some (.int (nI p)), some (.int (nI 2))] dX6_isPrime_1 rfl (Nat.le_of_ble_eq_true rfl) rfl rfl ?_
  exact d_isPrime_l hp _ rfl p 2 (by omega) (by omega) (by omega) (fun j h1 h2 => absurd h1 (by omega))
theorem d_isSquare_l {μ : Mm} {y p : Nat} {v : Int32} (hp0 : 0 < p) (hp : p ≤ 60) (r : Int32) (hr : r = bI (sqP y p)) : ∀ (m d : Nat), 1 ≤ d → d ≤ 61 → p < d + m → (∀ j, j < d → 1 ≤ j → j * j % p ≠ y % p) → G mX6_isSquare (rmL 0) (some (.int r), μ) μ 10 [some (.int v), some (.int (nI p)), some (.int (nI (y % p))), some (.int (nI d))] [] := by
  have hy : y % p < p := Nat.mod_lt _ hp0
  intro m
  induction m with
  | zero =>
    intro d h2 h70 hm hj
    refine g_iload_n 3 _ dX6_isSquare_10 rfl rfl ?_
    refine g_iload_n 1 _ dX6_isSquare_11 rfl rfl ?_
    refine g_icmp_geN 40 (by omega) (by omega) dX6_isSquare_12 (by decide) (fun h12 => ?_) (fun h12 => ?_)
    · refine g_iconst (nI 0) dX6_isSquare_40 rfl ?_
      exact g_ireturn dX6_isSquare_41 rfl rfl (by rw [hr, bI_f (fun q => by obtain ⟨-, j, h1, h3, h4⟩ := q; exact hj j (by omega) h3 h4)]; rfl)
    · exact absurd h12 (by omega)
  | succ m ih =>
    intro d h2 h70 hm hj
    have hdd : d * d ≤ 61 * 61 := Nat.mul_le_mul h70 h70
    have hd : d * d % p < p := Nat.mod_lt _ hp0
    refine g_iload_n 3 _ dX6_isSquare_10 rfl rfl ?_
    refine g_iload_n 1 _ dX6_isSquare_11 rfl rfl ?_
    refine g_icmp_geN 40 (by omega) (by omega) dX6_isSquare_12 (by decide) (fun h12 => ?_) (fun h12 => ?_)
    · refine g_iconst (nI 0) dX6_isSquare_40 rfl ?_
      exact g_ireturn dX6_isSquare_41 rfl rfl (by rw [hr, bI_f (fun q => by obtain ⟨-, j, h1, h3, h4⟩ := q; exact hj j (by omega) h3 h4)]; rfl)
    · refine g_iload_n 3 _ dX6_isSquare_15 rfl rfl ?_
      refine g_iload_n 3 _ dX6_isSquare_16 rfl rfl ?_
      refine g_imulN dX6_isSquare_17 ?_
      refine g_iload_n 1 _ dX6_isSquare_18 rfl rfl ?_
      refine g_iremN (by omega) (by omega) (by omega) dX6_isSquare_19 ?_
      refine g_iload_n 2 _ dX6_isSquare_20 rfl rfl ?_
      refine g_icmp_neN 34 (by omega) (by omega) dX6_isSquare_21 (by decide) (fun h21 => ?_) (fun h21 => ?_)
      · refine g_iincN [some (.int v), some (.int (nI p)), some (.int (nI (y % p))), some (.int (nI (d + 1)))] dX6_isSquare_34 rfl (Nat.le_of_ble_eq_true rfl) rfl rfl ?_
        refine g_goto 10 dX6_isSquare_37 (by decide) ?_
        exact ih (d + 1) (by omega) (by omega) (by omega) (fun j h1 h3 => (Nat.lt_succ_iff_lt_or_eq.mp h1).elim (fun h => hj j h h3) (fun e => e ▸ h21))
      · refine g_iload_n 2 _ dX6_isSquare_24 rfl rfl ?_
        refine g_if_eqN 32 (by omega) dX6_isSquare_25 (by decide) (fun h25 => ?_) (fun h25 => ?_)
        · refine g_iconst (nI 0) dX6_isSquare_32 rfl ?_
          exact g_ireturn dX6_isSquare_33 rfl rfl (by rw [hr]; first | rw [bI_t ⟨by omega, d, by omega, h2, h21⟩]; rfl | rw [bI_f (fun q => q.1 (by omega))]; rfl)
        · refine g_iconst (nI 1) dX6_isSquare_28 rfl ?_
          refine g_goto 33 dX6_isSquare_29 (by decide) ?_
          exact g_ireturn dX6_isSquare_33 rfl rfl (by rw [hr]; first | rw [bI_t ⟨by omega, d, by omega, h2, h21⟩]; rfl | rw [bI_f (fun q => q.1 (by omega))]; rfl)
theorem sq_top {v : Int32} {y p : Nat} (hp0 : 0 < p) (hp : p ≤ 60) (hv : v.toInt = (y : Int) - p) (hy : y ≤ 200) : (v - v / nI p * nI p + nI p) - (v - v / nI p * nI p + nI p) / nI p * nI p = nI (y % p) := by
  have ht : (nI p).toInt = p := nI_toInt (by omega)
  have hl : y % p < p := Nat.mod_lt _ hp0
  have h1 : (v - v / nI p * nI p).toInt = v.toInt.tmod p := by rw [rem_toInt, ht]
  have b1 := Int.tmod_lt_of_pos v.toInt (show (0 : Int) < p by omega)
  have b2 := Int.lt_tmod_of_pos v.toInt (show (0 : Int) < p by omega)
  have h2 : (v - v / nI p * nI p + nI p).toInt = v.toInt.tmod p + p := by
    rw [fb_addI, h1, ht]
    · rw [h1, ht]; omega
    · rw [h1, ht]; omega
  apply i32_ext
  rw [rem_toInt, h2, ht, nI_toInt (by omega), Int.tmod_eq_emod_of_nonneg (by omega), Int.add_emod_right]
  have e := Int.tmod_eq_emod (a := v.toInt) (b := p)
  have e2 : v.toInt % (p : Int) = (y % p : Nat) := by
    rw [hv, Int.sub_emod_right]; omega
  split at e
  · rw [e]; simp; rw [e2]; omega
  · rw [e]; simp; rw [e2]
    omega
theorem d_isSquare (μ : Mm) (v : Int32) {y p : Nat} (hp0 : 0 < p) (hp : p ≤ 60) (hv : v.toInt = (y : Int) - p) (hy : y ≤ 200) : Ok mX6_isSquare (rmL 0) [.int v, .int (nI p)] μ (some (.int (bI (sqP y p))), μ) := by
  have hne : ¬ nI p = 0 := nI_ne0 hp0 (by omega)
  refine Ok.of (by decide) (Nat.le_of_ble_eq_true rfl) [some (.int v), some (.int (nI p)), none, none] rfl ?_
  refine g_iload_n 0 _ dX6_isSquare_0 rfl rfl ?_
  refine g_iload_n 1 _ dX6_isSquare_1 rfl rfl ?_
  refine g_irem dX6_isSquare_2 (by assumption) ?_
  refine g_iload_n 1 _ dX6_isSquare_3 rfl rfl ?_
  refine g_iadd dX6_isSquare_4 ?_
  refine g_iload_n 1 _ dX6_isSquare_5 rfl rfl ?_
  refine g_irem dX6_isSquare_6 (by assumption) ?_
  refine g_top (w := .int (nI (y % p))) (congrArg Value.int (sq_top hp0 hp hv hy)) ?_
  refine g_at 7 rfl ?_
  refine g_istore_n [some (.int v), some (.int (nI p)), some (.int (nI (y % p))), none] dX6_isSquare_7 rfl (Nat.le_of_ble_eq_true rfl) rfl rfl ?_
  refine g_iconst (nI 1) dX6_isSquare_8 rfl ?_
  refine g_istore_n [some (.int v), some (.int (nI p)), some (.int (nI (y % p))), some (.int (nI 1))] dX6_isSquare_9 rfl (Nat.le_of_ble_eq_true rfl) rfl rfl ?_
  exact d_isSquare_l hp0 hp _ rfl p 1 (by omega) (by omega) (by omega) (fun j h1 h2 => absurd h1 (by omega))
theorem sqP_add {x p : Nat} : sqP (x + p) p ↔ sqP x p := by
  unfold sqP; rw [Nat.add_mod_right]
theorem d_isSquareN (μ : Mm) {x p : Nat} (hp0 : 0 < p) (hp : p ≤ 60) (hx : x ≤ 100) : Ok mX6_isSquare (rmL 0) [.int (nI x), .int (nI p)] μ (some (.int (bI (sqP x p))), μ) :=
  (d_isSquare μ (nI x) (y := x + p) hp0 hp (by rw [nI_toInt (by omega)]; omega) (by omega)).to (by rw [bI_iff sqP_add])
theorem d_holes_l {μ : Mm} {n : Nat} (hn : μ.1 33 0 = nI n) (h60 : n ≤ 60) : ∀ (m i c : Nat), i ≤ n → n < i + m → c = fa_cnt (fun i => decide (μ.1 34 i = nI 1)) i → G mX6_holes (rmL 0) (some (.int (nI (fa_cnt (fun i => decide (μ.1 34 i = nI 1)) n))), μ) μ 4 [some (.ref 33), some (.int (nI c)), some (.int (nI i))] [] := by
  intro m
  induction m with
  | zero => exact fun i c h1 h2 => absurd h2 (by omega)
  | succ m ih =>
    intro i c h1 h2 hc
    refine g_iload_n 2 _ dX6_holes_4 rfl rfl ?_
    refine g_aload_n 0 _ dX6_holes_5 rfl rfl ?_
    refine gf_X6_7 rfl dX6_holes_6 ?_
    refine g_top (w := .int (nI n)) (congrArg Value.int hn) ?_
    refine g_icmp_geN 36 (by omega) (by omega) dX6_holes_9 (by decide) (fun h9 => ?_) (fun h9 => ?_)
    · refine g_iload_n 1 _ dX6_holes_36 rfl rfl ?_
      exact g_ireturn dX6_holes_37 rfl rfl (by rw [hc, show i = n by omega])
    · refine g_iload_n 1 _ dX6_holes_12 rfl rfl ?_
      refine g_aload_n 0 _ dX6_holes_13 rfl rfl ?_
      refine gf_X6_13 rfl dX6_holes_14 ?_
      refine g_iload_n 2 _ dX6_holes_17 rfl rfl ?_
      refine g_iaload (j := i) isI_34 (rfl) (by omega) (by omega) dX6_holes_18 ?_
      refine g_iconst (nI 1) dX6_holes_19 rfl ?_
      refine g_icmp_ne 27 dX6_holes_20 (by decide) (fun h20 => ?_) (fun h20 => ?_)
      · refine g_iconst (nI 0) dX6_holes_27 rfl ?_
        refine g_iaddN dX6_holes_28 ?_
        refine g_istore_n [some (.ref 33), some (.int (nI (c + 0))), some (.int (nI i))] dX6_holes_29 rfl (Nat.le_of_ble_eq_true rfl) rfl rfl ?_
        refine g_iincN [some (.ref 33), some (.int (nI (c + 0))), some (.int (nI (i + 1)))] dX6_holes_30 rfl (Nat.le_of_ble_eq_true rfl) rfl rfl ?_
        refine g_goto 4 dX6_holes_33 (by decide) ?_
        exact ih (i + 1) _ (by omega) (by omega) (by simp_all [fa_cnt])
      · refine g_iconst (nI 1) dX6_holes_23 rfl ?_
        refine g_goto 28 dX6_holes_24 (by decide) ?_
        refine g_iaddN dX6_holes_28 ?_
        refine g_istore_n [some (.ref 33), some (.int (nI (c + 1))), some (.int (nI i))] dX6_holes_29 rfl (Nat.le_of_ble_eq_true rfl) rfl rfl ?_
        refine g_iincN [some (.ref 33), some (.int (nI (c + 1))), some (.int (nI (i + 1)))] dX6_holes_30 rfl (Nat.le_of_ble_eq_true rfl) rfl rfl ?_
        refine g_goto 4 dX6_holes_33 (by decide) ?_
        exact ih (i + 1) _ (by omega) (by omega) (by simp_all [fa_cnt])
theorem d_holes (μ : Mm) {n : Nat} (hn : μ.1 33 0 = nI n) (h60 : n ≤ 60) : Ok mX6_holes (rmL 0) [.ref 33] μ (some (.int (nI (fa_cnt (fun i => decide (μ.1 34 i = nI 1)) n))), μ) := by
  refine Ok.of (by decide) (Nat.le_of_ble_eq_true rfl) [some (.ref 33), none, none] rfl ?_
  refine g_iconst (nI 0) dX6_holes_0 rfl ?_
  refine g_istore_n [some (.ref 33), some (.int (nI 0)), none] dX6_holes_1 rfl (Nat.le_of_ble_eq_true rfl) rfl rfl ?_
  refine g_iconst (nI 0) dX6_holes_2 rfl ?_
  refine g_istore_n [some (.ref 33), some (.int (nI 0)), some (.int (nI 0))] dX6_holes_3 rfl (Nat.le_of_ble_eq_true rfl) rfl rfl ?_
  exact d_holes_l hn h60 (n + 1) 0 0 (by omega) (by omega) rfl
theorem d_rests_no (μ : Mm) (a : Int32) (h : ∀ p : Nat, a = nI p → ¬ rstP p) : Ok mX6_rests (rmL 1) [.ref 33, .int a] μ (some (.int (-1)), sI (sI μ 33 14 0) 33 14 (nI 1)) := by
  by_cases hA : 0 ≤ a.toInt ∧ a.toInt ≤ 59
  · obtain ⟨p, hp, rfl⟩ := nat_of (N := 59) hA.1 hA.2 (by decide)
    have hr := h p rfl
    refine Ok.of (by decide) (Nat.le_of_ble_eq_true rfl) [some (.ref 33), some (.int (nI p)), none] rfl ?_
    refine g_aload_n 0 _ dX6_rests_0 rfl rfl ?_
    refine g_backv (g_runV (d_start μ) rfl mw_X6_start mi_X6_start ml_X6_68 isO_33 ⟨rfl, rfl, Nat.le_of_ble_eq_true rfl, Nat.le_of_ble_eq_true rfl⟩ rfl rfl (Nat.le_of_ble_eq_true rfl) dX6_rests_1) ?_
    refine g_mem (μ' := sI μ 33 14 0) rfl ?_
    refine g_iload_n 1 _ dX6_rests_4 rfl rfl ?_
    refine g_iconst (nI 3) dX6_rests_5 rfl ?_
    refine g_icmp_ltN 29 (by omega) (by omega) dX6_rests_6 (by decide) (fun h6 => ?_) (fun h6 => ?_)
    · refine g_aload_n 0 _ dX6_rests_29 rfl rfl ?_
      refine g_iconst (nI 1) dX6_rests_30 rfl ?_
      refine g_backi (g_runV (d_no (sI μ 33 14 0) (nI 1)) rfl mw_X6_no mi_X6_no ml_X6_79 isO_33 ⟨rfl, rfl, Nat.le_of_ble_eq_true rfl, Nat.le_of_ble_eq_true rfl⟩ rfl rfl (Nat.le_of_ble_eq_true rfl) dX6_rests_31) ?_
      refine g_mem (μ' := sI (sI μ 33 14 0) 33 14 (nI 1)) rfl ?_
      refine g_top (w := .int (-1)) rfl ?_
      exact g_ireturn dX6_rests_34 rfl rfl rfl
    · refine g_iload_n 1 _ dX6_rests_9 rfl rfl ?_
      refine g_bipush (nI 59) dX6_rests_10 rfl ?_
      refine g_icmp_gtN 29 (by omega) (by omega) dX6_rests_12 (by decide) (fun h12 => ?_) (fun h12 => ?_)
      · refine g_aload_n 0 _ dX6_rests_29 rfl rfl ?_
        refine g_iconst (nI 1) dX6_rests_30 rfl ?_
        refine g_backi (g_runV (d_no (sI μ 33 14 0) (nI 1)) rfl mw_X6_no mi_X6_no ml_X6_79 isO_33 ⟨rfl, rfl, Nat.le_of_ble_eq_true rfl, Nat.le_of_ble_eq_true rfl⟩ rfl rfl (Nat.le_of_ble_eq_true rfl) dX6_rests_31) ?_
        refine g_mem (μ' := sI (sI μ 33 14 0) 33 14 (nI 1)) rfl ?_
        refine g_top (w := .int (-1)) rfl ?_
        exact g_ireturn dX6_rests_34 rfl rfl rfl
      · refine g_iload_n 1 _ dX6_rests_15 rfl rfl ?_
        refine g_iconst (nI 4) dX6_rests_16 rfl ?_
        refine g_iremN (by omega) (by omega) (by omega) dX6_rests_17 ?_
        refine g_iconst (nI 3) dX6_rests_18 rfl ?_
        refine g_icmp_neN 29 (by omega) (by omega) dX6_rests_19 (by decide) (fun h19 => ?_) (fun h19 => ?_)
        · refine g_aload_n 0 _ dX6_rests_29 rfl rfl ?_
          refine g_iconst (nI 1) dX6_rests_30 rfl ?_
          refine g_backi (g_runV (d_no (sI μ 33 14 0) (nI 1)) rfl mw_X6_no mi_X6_no ml_X6_79 isO_33 ⟨rfl, rfl, Nat.le_of_ble_eq_true rfl, Nat.le_of_ble_eq_true rfl⟩ rfl rfl (Nat.le_of_ble_eq_true rfl) dX6_rests_31) ?_
          refine g_mem (μ' := sI (sI μ 33 14 0) 33 14 (nI 1)) rfl ?_
          refine g_top (w := .int (-1)) rfl ?_
          exact g_ireturn dX6_rests_34 rfl rfl rfl
        · refine g_iload_n 1 _ dX6_rests_22 rfl rfl ?_
          refine g_backi (g_runS (d_isPrime (sI μ 33 14 0) (p := p) (by omega)) rfl mw_X6_isPrime ms_X6_isPrime ml_X6_114 ⟨rfl, rfl, Nat.le_of_ble_eq_true rfl, Nat.le_of_ble_eq_true rfl⟩ rfl rfl (Nat.le_of_ble_eq_true rfl) dX6_rests_23) ?_
          refine g_top (w := .int (bI (prP p))) rfl ?_
          refine g_if_neB 35 dX6_rests_26 (by decide) (fun h26 => ?_) (fun h26 => ?_)
          · exact absurd ⟨by omega, by omega, by omega, h26⟩ hr
          · refine g_aload_n 0 _ dX6_rests_29 rfl rfl ?_
            refine g_iconst (nI 1) dX6_rests_30 rfl ?_
            refine g_backi (g_runV (d_no (sI μ 33 14 0) (nI 1)) rfl mw_X6_no mi_X6_no ml_X6_79 isO_33 ⟨rfl, rfl, Nat.le_of_ble_eq_true rfl, Nat.le_of_ble_eq_true rfl⟩ rfl rfl (Nat.le_of_ble_eq_true rfl) dX6_rests_31) ?_
            refine g_mem (μ' := sI (sI μ 33 14 0) 33 14 (nI 1)) rfl ?_
            refine g_top (w := .int (-1)) rfl ?_
            exact g_ireturn dX6_rests_34 rfl rfl rfl
  · refine Ok.of (by decide) (Nat.le_of_ble_eq_true rfl) [some (.ref 33), some (.int a), none] rfl ?_
    refine g_aload_n 0 _ dX6_rests_0 rfl rfl ?_
    refine g_backv (g_runV (d_start μ) rfl mw_X6_start mi_X6_start ml_X6_68 isO_33 ⟨rfl, rfl, Nat.le_of_ble_eq_true rfl, Nat.le_of_ble_eq_true rfl⟩ rfl rfl (Nat.le_of_ble_eq_true rfl) dX6_rests_1) ?_
    refine g_mem (μ' := sI μ 33 14 0) rfl ?_
    refine g_iload_n 1 _ dX6_rests_4 rfl rfl ?_
    refine g_iconst (nI 3) dX6_rests_5 rfl ?_
    refine g_icmp_lt 29 dX6_rests_6 (by decide) (fun h6 => ?_) (fun h6 => ?_)
    · refine g_aload_n 0 _ dX6_rests_29 rfl rfl ?_
      refine g_iconst (nI 1) dX6_rests_30 rfl ?_
      refine g_backi (g_runV (d_no (sI μ 33 14 0) (nI 1)) rfl mw_X6_no mi_X6_no ml_X6_79 isO_33 ⟨rfl, rfl, Nat.le_of_ble_eq_true rfl, Nat.le_of_ble_eq_true rfl⟩ rfl rfl (Nat.le_of_ble_eq_true rfl) dX6_rests_31) ?_
      refine g_mem (μ' := sI (sI μ 33 14 0) 33 14 (nI 1)) rfl ?_
      refine g_top (w := .int (-1)) rfl ?_
      exact g_ireturn dX6_rests_34 rfl rfl rfl
    · refine g_iload_n 1 _ dX6_rests_9 rfl rfl ?_
      refine g_bipush (nI 59) dX6_rests_10 rfl ?_
      refine g_icmp_gt 29 dX6_rests_12 (by decide) (fun h12 => ?_) (fun h12 => ?_)
      · refine g_aload_n 0 _ dX6_rests_29 rfl rfl ?_
        refine g_iconst (nI 1) dX6_rests_30 rfl ?_
        refine g_backi (g_runV (d_no (sI μ 33 14 0) (nI 1)) rfl mw_X6_no mi_X6_no ml_X6_79 isO_33 ⟨rfl, rfl, Nat.le_of_ble_eq_true rfl, Nat.le_of_ble_eq_true rfl⟩ rfl rfl (Nat.le_of_ble_eq_true rfl) dX6_rests_31) ?_
        refine g_mem (μ' := sI (sI μ 33 14 0) 33 14 (nI 1)) rfl ?_
        refine g_top (w := .int (-1)) rfl ?_
        exact g_ireturn dX6_rests_34 rfl rfl rfl
      · exfalso; simp only [ne_eq, fa_lt, fa_le, fa_eq, t0, t1, t2, tm1, nt0, nt1, nt2, nt3, nt4, nt5, nt7, nt9, nt10, nt13, nt14, nt30, nt32, nt59, nt60, nt200, nt1000, nt1000000, nt1073741824] at *; omega
theorem d_rests_l {μ : Mm} {p : Nat} (hn : μ.1 33 0 = nI p) (h3 : 3 ≤ p) (h60 : p < 60) : ∀ (m i : Nat), i ≤ p → p < i + m → G mX6_rests (rmL 1) (some (.int (nI (fa_cnt (fun i => decide (fil (μ.1 34) (fun i => bI (sqP i p)) p i = nI 1)) p))), sR μ 34 (fil (μ.1 34) (fun i => bI (sqP i p)) p)) (sR μ 34 (fil (μ.1 34) (fun i => bI (sqP i p)) i)) 42 [some (.ref 33), some (.int (nI p)), some (.int (nI i))] [] := by
  intro m
  induction m with
  | zero => exact fun i h1 h2 => absurd h2 (by omega)
  | succ m ih =>
    intro i h1 h2
    refine g_iload_n 2 _ dX6_rests_42 rfl rfl ?_
    refine g_iload_n 1 _ dX6_rests_43 rfl rfl ?_
    refine g_icmp_geN 72 (by omega) (by omega) dX6_rests_44 (by decide) (fun h44 => ?_) (fun h44 => ?_)
    · refine g_aload_n 0 _ dX6_rests_72 rfl rfl ?_
      refine g_backi (g_runV ((d_holes (sR μ 34 (fil (μ.1 34) (fun i => bI (sqP i p)) i)) (n := p) hn (by omega)).to (by rw [show i = p by omega])) rfl mw_X6_holes mi_X6_holes ml_X6_121 isO_33 ⟨rfl, rfl, Nat.le_of_ble_eq_true rfl, Nat.le_of_ble_eq_true rfl⟩ rfl rfl (Nat.le_of_ble_eq_true rfl) dX6_rests_73) ?_
      refine g_mem (μ' := sR μ 34 (fil (μ.1 34) (fun i => bI (sqP i p)) p)) rfl ?_
      refine g_top (w := .int (nI (fa_cnt (fun i => decide (fil (μ.1 34) (fun i => bI (sqP i p)) p i = nI 1)) p))) rfl ?_
      exact g_ireturn dX6_rests_76 rfl rfl rfl
    · refine g_aload_n 0 _ dX6_rests_47 rfl rfl ?_
      refine gf_X6_13 rfl dX6_rests_48 ?_
      refine g_iload_n 2 _ dX6_rests_51 rfl rfl ?_
      refine g_iload_n 2 _ dX6_rests_52 rfl rfl ?_
      refine g_iload_n 1 _ dX6_rests_53 rfl rfl ?_
      refine g_backi (g_runS (d_isSquareN (sR μ 34 (fil (μ.1 34) (fun i => bI (sqP i p)) i)) (x := i) (p := p) (by omega) (by omega) (by omega)) rfl mw_X6_isSquare ms_X6_isSquare ml_X6_117 ⟨rfl, rfl, Nat.le_of_ble_eq_true rfl, Nat.le_of_ble_eq_true rfl⟩ rfl rfl (Nat.le_of_ble_eq_true rfl) dX6_rests_54) ?_
      refine g_top (w := .int (bI (sqP i p))) rfl ?_
      refine g_if_eqB 64 dX6_rests_57 (by decide) (fun h57 => ?_) (fun h57 => ?_)
      · refine g_iconst (nI 0) dX6_rests_64 rfl ?_
        refine g_iastore (j := i) isI_34 (rfl) (by omega) (by omega) dX6_rests_65 ?_
        refine g_mem (sR_fil μ 34 i _ (fun i => bI (sqP i p)) (by first | exact (bI_t h57).symm | exact (bI_f h57).symm)) ?_
        refine g_iincN [some (.ref 33), some (.int (nI p)), some (.int (nI (i + 1)))] dX6_rests_66 rfl (Nat.le_of_ble_eq_true rfl) rfl rfl ?_
        refine g_goto 42 dX6_rests_69 (by decide) ?_
        exact ih (i + 1) (by omega) (by omega)
      · refine g_iconst (nI 1) dX6_rests_60 rfl ?_
        refine g_goto 65 dX6_rests_61 (by decide) ?_
        refine g_iastore (j := i) isI_34 (rfl) (by omega) (by omega) dX6_rests_65 ?_
        refine g_mem (sR_fil μ 34 i _ (fun i => bI (sqP i p)) (by first | exact (bI_t h57).symm | exact (bI_f h57).symm)) ?_
        refine g_iincN [some (.ref 33), some (.int (nI p)), some (.int (nI (i + 1)))] dX6_rests_66 rfl (Nat.le_of_ble_eq_true rfl) rfl rfl ?_
        refine g_goto 42 dX6_rests_69 (by decide) ?_
        exact ih (i + 1) (by omega) (by omega)
theorem d_rests_ok (μ : Mm) {p : Nat} (hp : rstP p) : Ok mX6_rests (rmL 1) [.ref 33, .int (nI p)] μ (some (.int (nI (fa_cnt (fun i => decide (fil ((stN (sI μ 33 14 0) (nI p)).1 34) (fun i => bI (sqP i p)) p i = nI 1)) p))), sR (stN (sI μ 33 14 0) (nI p)) 34 (fil ((stN (sI μ 33 14 0) (nI p)).1 34) (fun i => bI (sqP i p)) p)) := by
  have h3 := hp.1
  have h60 := hp.2.1
  have h4 := hp.2.2.1
  refine Ok.of (by decide) (Nat.le_of_ble_eq_true rfl) [some (.ref 33), some (.int (nI p)), none] rfl ?_
  refine g_aload_n 0 _ dX6_rests_0 rfl rfl ?_
  refine g_backv (g_runV (d_start μ) rfl mw_X6_start mi_X6_start ml_X6_68 isO_33 ⟨rfl, rfl, Nat.le_of_ble_eq_true rfl, Nat.le_of_ble_eq_true rfl⟩ rfl rfl (Nat.le_of_ble_eq_true rfl) dX6_rests_1) ?_
  refine g_mem (μ' := sI μ 33 14 0) rfl ?_
  refine g_iload_n 1 _ dX6_rests_4 rfl rfl ?_
  refine g_iconst (nI 3) dX6_rests_5 rfl ?_
  refine g_icmp_ltN 29 (by omega) (by omega) dX6_rests_6 (by decide) (fun h6 => ?_) (fun h6 => ?_)
  · exact absurd h6 (by omega)
  · refine g_iload_n 1 _ dX6_rests_9 rfl rfl ?_
    refine g_bipush (nI 59) dX6_rests_10 rfl ?_
    refine g_icmp_gtN 29 (by omega) (by omega) dX6_rests_12 (by decide) (fun h12 => ?_) (fun h12 => ?_)
    · exact absurd h12 (by omega)
    · refine g_iload_n 1 _ dX6_rests_15 rfl rfl ?_
      refine g_iconst (nI 4) dX6_rests_16 rfl ?_
      refine g_iremN (by omega) (by omega) (by omega) dX6_rests_17 ?_
      refine g_iconst (nI 3) dX6_rests_18 rfl ?_
      refine g_icmp_neN 29 (by omega) (by omega) dX6_rests_19 (by decide) (fun h19 => ?_) (fun h19 => ?_)
      · exact absurd h4 h19
      · refine g_iload_n 1 _ dX6_rests_22 rfl rfl ?_
        refine g_backi (g_runS ((d_isPrime (sI μ 33 14 0) (p := p) (by omega)).to (by rw [bI_t hp.2.2.2])) rfl mw_X6_isPrime ms_X6_isPrime ml_X6_114 ⟨rfl, rfl, Nat.le_of_ble_eq_true rfl, Nat.le_of_ble_eq_true rfl⟩ rfl rfl (Nat.le_of_ble_eq_true rfl) dX6_rests_23) ?_
        refine g_top (w := .int 1) rfl ?_
        refine g_if_ne 35 dX6_rests_26 (by decide) (fun h26 => ?_) (fun h26 => ?_)
        · refine g_aload_n 0 _ dX6_rests_35 rfl rfl ?_
          refine g_iload_n 1 _ dX6_rests_36 rfl rfl ?_
          refine g_backv (g_runV (d_begin (sI μ 33 14 0) (nI p)) rfl mw_X6_begin mi_X6_begin ml_X6_75 isO_33 ⟨rfl, rfl, Nat.le_of_ble_eq_true rfl, Nat.le_of_ble_eq_true rfl⟩ rfl rfl (Nat.le_of_ble_eq_true rfl) dX6_rests_37) ?_
          refine g_mem (μ' := stN (sI μ 33 14 0) (nI p)) rfl ?_
          refine g_iconst (nI 0) dX6_rests_40 rfl ?_
          refine g_istore_n [some (.ref 33), some (.int (nI p)), some (.int (nI 0))] dX6_rests_41 rfl (Nat.le_of_ble_eq_true rfl) rfl rfl ?_
          have h := d_rests_l (μ := stN (sI μ 33 14 0) (nI p)) rfl h3 h60 (p + 1) 0 (by omega) (by omega); rw [fil_0, sR_id] at h; exact h
        · exact absurd h26 (by decide)
theorem d_twins_no (μ : Mm) (a : Int32) (h3 : a ≠ nI 3) (h5 : a ≠ nI 5) : Ok mX6_twins (rmL 1) [.ref 33, .int a] μ (some (.int (-1)), sI (sI μ 33 14 0) 33 14 (nI 1)) := by
  refine Ok.of (by decide) (Nat.le_of_ble_eq_true rfl) [some (.ref 33), some (.int a), none, none, none] rfl ?_
  refine g_aload_n 0 _ dX6_twins_0 rfl rfl ?_
  refine g_backv (g_runV (d_start μ) rfl mw_X6_start mi_X6_start ml_X6_68 isO_33 ⟨rfl, rfl, Nat.le_of_ble_eq_true rfl, Nat.le_of_ble_eq_true rfl⟩ rfl rfl (Nat.le_of_ble_eq_true rfl) dX6_twins_1) ?_
  refine g_mem (μ' := sI μ 33 14 0) rfl ?_
  refine g_iload_n 1 _ dX6_twins_4 rfl rfl ?_
  refine g_iconst (nI 3) dX6_twins_5 rfl ?_
  refine g_icmp_eq 20 dX6_twins_6 (by decide) (fun h6 => ?_) (fun h6 => ?_)
  · exact absurd h6 h3
  · refine g_iload_n 1 _ dX6_twins_9 rfl rfl ?_
    refine g_iconst (nI 5) dX6_twins_10 rfl ?_
    refine g_icmp_eq 20 dX6_twins_11 (by decide) (fun h11 => ?_) (fun h11 => ?_)
    · exact absurd h11 h5
    · refine g_aload_n 0 _ dX6_twins_14 rfl rfl ?_
      refine g_iconst (nI 1) dX6_twins_15 rfl ?_
      refine g_backi (g_runV (d_no (sI μ 33 14 0) (nI 1)) rfl mw_X6_no mi_X6_no ml_X6_79 isO_33 ⟨rfl, rfl, Nat.le_of_ble_eq_true rfl, Nat.le_of_ble_eq_true rfl⟩ rfl rfl (Nat.le_of_ble_eq_true rfl) dX6_twins_16) ?_
      refine g_mem (μ' := sI (sI μ 33 14 0) 33 14 (nI 1)) rfl ?_
      refine g_top (w := .int (-1)) rfl ?_
      exact g_ireturn dX6_twins_19 rfl rfl rfl
theorem d_twins_l {μ : Mm} {p n : Nat} (hn : μ.1 33 0 = nI n) (h3 : 3 ≤ p) (h5 : p ≤ 5) (h60 : n ≤ 60) : ∀ (m i : Nat) (z : Option Value), i ≤ n → n < i + m → (z = none ∨ ∃ v, z = some (.int v)) → G mX6_twins (rmL 1) (some (.int (nI (fa_cnt (fun i => decide (fil (μ.1 34) (fun i => bI (twR p i)) n i = nI 1)) n))), sR μ 34 (fil (μ.1 34) (fun i => bI (twR p i)) n)) (sR μ 34 (fil (μ.1 34) (fun i => bI (twR p i)) i)) 33 [some (.ref 33), some (.int (nI p)), some (.int (nI (p + 2))), some (.int (nI i)), z] [] := by
  intro m
  induction m with
  | zero => exact fun i z h1 h2 => absurd h2 (by omega)
  | succ m ih =>
    intro i z h1 h2 hz
    have e1 : i % p < p := Nat.mod_lt _ (by omega)
    have e2 : i % (p + 2) < p + 2 := Nat.mod_lt _ (by omega)
    have J : ∀ (c : Prop) (hc : Decidable c), (c ↔ twR p i) → i < n → G mX6_twins (rmL 1) (some (.int (nI (fa_cnt (fun i => decide (fil (μ.1 34) (fun i => bI (twR p i)) n i = nI 1)) n))), sR μ 34 (fil (μ.1 34) (fun i => bI (twR p i)) n)) (sR μ 34 (fil (μ.1 34) (fun i => bI (twR p i)) i)) 73 [some (.ref 33), some (.int (nI p)), some (.int (nI (p + 2))), some (.int (nI i)), some (.int (bI c))] [] := by
      intro c hc hcc hin
      refine g_aload_n 0 _ dX6_twins_73 rfl rfl ?_
      refine gf_X6_13 rfl dX6_twins_74 ?_
      refine g_iload_n 3 _ dX6_twins_77 rfl rfl ?_
      refine g_iload _ dX6_twins_78 rfl ?_
      refine g_if_eqB 87 dX6_twins_80 (by decide) (fun h80 => ?_) (fun h80 => ?_)
      · refine g_iconst (nI 0) dX6_twins_87 rfl ?_
        refine g_iastore (j := i) isI_34 (rfl) (by omega) (by omega) dX6_twins_88 ?_
        refine g_mem (sR_fil μ 34 i _ (fun i => bI (twR p i)) (by first | exact (bI_t (hcc.mp h80)).symm | exact (bI_f (fun q => h80 (hcc.mpr q))).symm)) ?_
        refine g_iincN [some (.ref 33), some (.int (nI p)), some (.int (nI (p + 2))), some (.int (nI (i + 1))), some (.int (bI c))] dX6_twins_89 rfl (Nat.le_of_ble_eq_true rfl) rfl rfl ?_
        refine g_goto 33 dX6_twins_92 (by decide) ?_
        exact ih (i + 1) _ (by omega) (by omega) (Or.inr ⟨_, rfl⟩)
      · refine g_iconst (nI 1) dX6_twins_83 rfl ?_
        refine g_goto 88 dX6_twins_84 (by decide) ?_
        refine g_iastore (j := i) isI_34 (rfl) (by omega) (by omega) dX6_twins_88 ?_
        refine g_mem (sR_fil μ 34 i _ (fun i => bI (twR p i)) (by first | exact (bI_t (hcc.mp h80)).symm | exact (bI_f (fun q => h80 (hcc.mpr q))).symm)) ?_
        refine g_iincN [some (.ref 33), some (.int (nI p)), some (.int (nI (p + 2))), some (.int (nI (i + 1))), some (.int (bI c))] dX6_twins_89 rfl (Nat.le_of_ble_eq_true rfl) rfl rfl ?_
        refine g_goto 33 dX6_twins_92 (by decide) ?_
        exact ih (i + 1) _ (by omega) (by omega) (Or.inr ⟨_, rfl⟩)
    rcases hz with rfl | ⟨v, rfl⟩
    · refine g_iload_n 3 _ dX6_twins_33 rfl rfl ?_
      refine g_aload_n 0 _ dX6_twins_34 rfl rfl ?_
      refine gf_X6_7 rfl dX6_twins_35 ?_
      refine g_top (w := .int (nI n)) (congrArg Value.int hn) ?_
      refine g_icmp_geN 95 (by omega) (by omega) dX6_twins_38 (by decide) (fun h38 => ?_) (fun h38 => ?_)
      · refine g_aload_n 0 _ dX6_twins_95 rfl rfl ?_
        refine g_backi (g_runV ((d_holes (sR μ 34 (fil (μ.1 34) (fun i => bI (twR p i)) i)) (n := n) hn (by omega)).to (by rw [show i = n by omega])) rfl mw_X6_holes mi_X6_holes ml_X6_121 isO_33 ⟨rfl, rfl, Nat.le_of_ble_eq_true rfl, Nat.le_of_ble_eq_true rfl⟩ rfl rfl (Nat.le_of_ble_eq_true rfl) dX6_twins_96) ?_
        refine g_mem (μ' := sR μ 34 (fil (μ.1 34) (fun i => bI (twR p i)) n)) rfl ?_
        refine g_top (w := .int (nI (fa_cnt (fun i => decide (fil (μ.1 34) (fun i => bI (twR p i)) n i = nI 1)) n))) rfl ?_
        exact g_ireturn dX6_twins_99 rfl rfl rfl
      · refine g_iload_n 3 _ dX6_twins_41 rfl rfl ?_
        refine g_iload_n 2 _ dX6_twins_42 rfl rfl ?_
        refine g_iremN (by omega) (by omega) (by omega) dX6_twins_43 ?_
        refine g_if_eqN 66 (by omega) dX6_twins_44 (by decide) (fun h44 => ?_) (fun h44 => ?_)
        · refine g_iconst (nI 1) dX6_twins_66 rfl ?_
          refine g_goto 71 dX6_twins_67 (by decide) ?_
          refine g_istore [some (.ref 33), some (.int (nI p)), some (.int (nI (p + 2))), some (.int (nI i)), some (.int (nI 1))] dX6_twins_71 (Nat.le_of_ble_eq_true rfl) rfl rfl ?_
          first | exact J True inferInstance ⟨fun _ => Or.inl h44, fun _ => trivial⟩ (by omega) | exact J True inferInstance ⟨fun _ => Or.inr ⟨by omega, bI_inj.mp h63⟩, fun _ => trivial⟩ (by omega) | exact J False inferInstance ⟨fun q => q.elim, fun q => q.elim (fun q => by omega) (fun q => h63 (bI_inj.mpr q.2))⟩ (by omega) | exact J False inferInstance ⟨fun q => q.elim, fun q => q.elim (fun q => by omega) (fun q => q.1 h50)⟩ (by omega)
        · refine g_iload_n 3 _ dX6_twins_47 rfl rfl ?_
          refine g_iload_n 1 _ dX6_twins_48 rfl rfl ?_
          refine g_iremN (by omega) (by omega) (by omega) dX6_twins_49 ?_
          refine g_if_eqN 70 (by omega) dX6_twins_50 (by decide) (fun h50 => ?_) (fun h50 => ?_)
          · refine g_iconst (nI 0) dX6_twins_70 rfl ?_
            refine g_istore [some (.ref 33), some (.int (nI p)), some (.int (nI (p + 2))), some (.int (nI i)), some (.int (nI 0))] dX6_twins_71 (Nat.le_of_ble_eq_true rfl) rfl rfl ?_
            first | exact J True inferInstance ⟨fun _ => Or.inl h44, fun _ => trivial⟩ (by omega) | exact J True inferInstance ⟨fun _ => Or.inr ⟨by omega, bI_inj.mp h63⟩, fun _ => trivial⟩ (by omega) | exact J False inferInstance ⟨fun q => q.elim, fun q => q.elim (fun q => by omega) (fun q => h63 (bI_inj.mpr q.2))⟩ (by omega) | exact J False inferInstance ⟨fun q => q.elim, fun q => q.elim (fun q => by omega) (fun q => q.1 h50)⟩ (by omega)
          · refine g_iload_n 3 _ dX6_twins_53 rfl rfl ?_
            refine g_iload_n 1 _ dX6_twins_54 rfl rfl ?_
            refine g_backi (g_runS (d_isSquareN (sR μ 34 (fil (μ.1 34) (fun i => bI (twR p i)) i)) (x := i) (p := p) (by omega) (by omega) (by omega)) rfl mw_X6_isSquare ms_X6_isSquare ml_X6_117 ⟨rfl, rfl, Nat.le_of_ble_eq_true rfl, Nat.le_of_ble_eq_true rfl⟩ rfl rfl (Nat.le_of_ble_eq_true rfl) dX6_twins_55) ?_
            refine g_top (w := .int (bI (sqP i p))) rfl ?_
            refine g_iload_n 3 _ dX6_twins_58 rfl rfl ?_
            refine g_iload_n 2 _ dX6_twins_59 rfl rfl ?_
            refine g_backi (g_runS (d_isSquareN (sR μ 34 (fil (μ.1 34) (fun i => bI (twR p i)) i)) (x := i) (p := p + 2) (by omega) (by omega) (by omega)) rfl mw_X6_isSquare ms_X6_isSquare ml_X6_117 ⟨rfl, rfl, Nat.le_of_ble_eq_true rfl, Nat.le_of_ble_eq_true rfl⟩ rfl rfl (Nat.le_of_ble_eq_true rfl) dX6_twins_60) ?_
            refine g_top (w := .int (bI (sqP i (p + 2)))) rfl ?_
            refine g_icmp_ne 70 dX6_twins_63 (by decide) (fun h63 => ?_) (fun h63 => ?_)
            · refine g_iconst (nI 0) dX6_twins_70 rfl ?_
              refine g_istore [some (.ref 33), some (.int (nI p)), some (.int (nI (p + 2))), some (.int (nI i)), some (.int (nI 0))] dX6_twins_71 (Nat.le_of_ble_eq_true rfl) rfl rfl ?_
              first | exact J True inferInstance ⟨fun _ => Or.inl h44, fun _ => trivial⟩ (by omega) | exact J True inferInstance ⟨fun _ => Or.inr ⟨by omega, bI_inj.mp h63⟩, fun _ => trivial⟩ (by omega) | exact J False inferInstance ⟨fun q => q.elim, fun q => q.elim (fun q => by omega) (fun q => h63 (bI_inj.mpr q.2))⟩ (by omega) | exact J False inferInstance ⟨fun q => q.elim, fun q => q.elim (fun q => by omega) (fun q => q.1 h50)⟩ (by omega)
            · refine g_iconst (nI 1) dX6_twins_66 rfl ?_
              refine g_goto 71 dX6_twins_67 (by decide) ?_
              refine g_istore [some (.ref 33), some (.int (nI p)), some (.int (nI (p + 2))), some (.int (nI i)), some (.int (nI 1))] dX6_twins_71 (Nat.le_of_ble_eq_true rfl) rfl rfl ?_
              first | exact J True inferInstance ⟨fun _ => Or.inl h44, fun _ => trivial⟩ (by omega) | exact J True inferInstance ⟨fun _ => Or.inr ⟨by omega, bI_inj.mp h63⟩, fun _ => trivial⟩ (by omega) | exact J False inferInstance ⟨fun q => q.elim, fun q => q.elim (fun q => by omega) (fun q => h63 (bI_inj.mpr q.2))⟩ (by omega) | exact J False inferInstance ⟨fun q => q.elim, fun q => q.elim (fun q => by omega) (fun q => q.1 h50)⟩ (by omega)
    · refine g_iload_n 3 _ dX6_twins_33 rfl rfl ?_
      refine g_aload_n 0 _ dX6_twins_34 rfl rfl ?_
      refine gf_X6_7 rfl dX6_twins_35 ?_
      refine g_top (w := .int (nI n)) (congrArg Value.int hn) ?_
      refine g_icmp_geN 95 (by omega) (by omega) dX6_twins_38 (by decide) (fun h38 => ?_) (fun h38 => ?_)
      · refine g_aload_n 0 _ dX6_twins_95 rfl rfl ?_
        refine g_backi (g_runV ((d_holes (sR μ 34 (fil (μ.1 34) (fun i => bI (twR p i)) i)) (n := n) hn (by omega)).to (by rw [show i = n by omega])) rfl mw_X6_holes mi_X6_holes ml_X6_121 isO_33 ⟨rfl, rfl, Nat.le_of_ble_eq_true rfl, Nat.le_of_ble_eq_true rfl⟩ rfl rfl (Nat.le_of_ble_eq_true rfl) dX6_twins_96) ?_
        refine g_mem (μ' := sR μ 34 (fil (μ.1 34) (fun i => bI (twR p i)) n)) rfl ?_
        refine g_top (w := .int (nI (fa_cnt (fun i => decide (fil (μ.1 34) (fun i => bI (twR p i)) n i = nI 1)) n))) rfl ?_
        exact g_ireturn dX6_twins_99 rfl rfl rfl
      · refine g_iload_n 3 _ dX6_twins_41 rfl rfl ?_
        refine g_iload_n 2 _ dX6_twins_42 rfl rfl ?_
        refine g_iremN (by omega) (by omega) (by omega) dX6_twins_43 ?_
        refine g_if_eqN 66 (by omega) dX6_twins_44 (by decide) (fun h44 => ?_) (fun h44 => ?_)
        · refine g_iconst (nI 1) dX6_twins_66 rfl ?_
          refine g_goto 71 dX6_twins_67 (by decide) ?_
          refine g_istore [some (.ref 33), some (.int (nI p)), some (.int (nI (p + 2))), some (.int (nI i)), some (.int (nI 1))] dX6_twins_71 (Nat.le_of_ble_eq_true rfl) rfl rfl ?_
          first | exact J True inferInstance ⟨fun _ => Or.inl h44, fun _ => trivial⟩ (by omega) | exact J True inferInstance ⟨fun _ => Or.inr ⟨by omega, bI_inj.mp h63⟩, fun _ => trivial⟩ (by omega) | exact J False inferInstance ⟨fun q => q.elim, fun q => q.elim (fun q => by omega) (fun q => h63 (bI_inj.mpr q.2))⟩ (by omega) | exact J False inferInstance ⟨fun q => q.elim, fun q => q.elim (fun q => by omega) (fun q => q.1 h50)⟩ (by omega)
        · refine g_iload_n 3 _ dX6_twins_47 rfl rfl ?_
          refine g_iload_n 1 _ dX6_twins_48 rfl rfl ?_
          refine g_iremN (by omega) (by omega) (by omega) dX6_twins_49 ?_
          refine g_if_eqN 70 (by omega) dX6_twins_50 (by decide) (fun h50 => ?_) (fun h50 => ?_)
          · refine g_iconst (nI 0) dX6_twins_70 rfl ?_
            refine g_istore [some (.ref 33), some (.int (nI p)), some (.int (nI (p + 2))), some (.int (nI i)), some (.int (nI 0))] dX6_twins_71 (Nat.le_of_ble_eq_true rfl) rfl rfl ?_
            first | exact J True inferInstance ⟨fun _ => Or.inl h44, fun _ => trivial⟩ (by omega) | exact J True inferInstance ⟨fun _ => Or.inr ⟨by omega, bI_inj.mp h63⟩, fun _ => trivial⟩ (by omega) | exact J False inferInstance ⟨fun q => q.elim, fun q => q.elim (fun q => by omega) (fun q => h63 (bI_inj.mpr q.2))⟩ (by omega) | exact J False inferInstance ⟨fun q => q.elim, fun q => q.elim (fun q => by omega) (fun q => q.1 h50)⟩ (by omega)
          · refine g_iload_n 3 _ dX6_twins_53 rfl rfl ?_
            refine g_iload_n 1 _ dX6_twins_54 rfl rfl ?_
            refine g_backi (g_runS (d_isSquareN (sR μ 34 (fil (μ.1 34) (fun i => bI (twR p i)) i)) (x := i) (p := p) (by omega) (by omega) (by omega)) rfl mw_X6_isSquare ms_X6_isSquare ml_X6_117 ⟨rfl, rfl, Nat.le_of_ble_eq_true rfl, Nat.le_of_ble_eq_true rfl⟩ rfl rfl (Nat.le_of_ble_eq_true rfl) dX6_twins_55) ?_
            refine g_top (w := .int (bI (sqP i p))) rfl ?_
            refine g_iload_n 3 _ dX6_twins_58 rfl rfl ?_
            refine g_iload_n 2 _ dX6_twins_59 rfl rfl ?_
            refine g_backi (g_runS (d_isSquareN (sR μ 34 (fil (μ.1 34) (fun i => bI (twR p i)) i)) (x := i) (p := p + 2) (by omega) (by omega) (by omega)) rfl mw_X6_isSquare ms_X6_isSquare ml_X6_117 ⟨rfl, rfl, Nat.le_of_ble_eq_true rfl, Nat.le_of_ble_eq_true rfl⟩ rfl rfl (Nat.le_of_ble_eq_true rfl) dX6_twins_60) ?_
            refine g_top (w := .int (bI (sqP i (p + 2)))) rfl ?_
            refine g_icmp_ne 70 dX6_twins_63 (by decide) (fun h63 => ?_) (fun h63 => ?_)
            · refine g_iconst (nI 0) dX6_twins_70 rfl ?_
              refine g_istore [some (.ref 33), some (.int (nI p)), some (.int (nI (p + 2))), some (.int (nI i)), some (.int (nI 0))] dX6_twins_71 (Nat.le_of_ble_eq_true rfl) rfl rfl ?_
              first | exact J True inferInstance ⟨fun _ => Or.inl h44, fun _ => trivial⟩ (by omega) | exact J True inferInstance ⟨fun _ => Or.inr ⟨by omega, bI_inj.mp h63⟩, fun _ => trivial⟩ (by omega) | exact J False inferInstance ⟨fun q => q.elim, fun q => q.elim (fun q => by omega) (fun q => h63 (bI_inj.mpr q.2))⟩ (by omega) | exact J False inferInstance ⟨fun q => q.elim, fun q => q.elim (fun q => by omega) (fun q => q.1 h50)⟩ (by omega)
            · refine g_iconst (nI 1) dX6_twins_66 rfl ?_
              refine g_goto 71 dX6_twins_67 (by decide) ?_
              refine g_istore [some (.ref 33), some (.int (nI p)), some (.int (nI (p + 2))), some (.int (nI i)), some (.int (nI 1))] dX6_twins_71 (Nat.le_of_ble_eq_true rfl) rfl rfl ?_
              first | exact J True inferInstance ⟨fun _ => Or.inl h44, fun _ => trivial⟩ (by omega) | exact J True inferInstance ⟨fun _ => Or.inr ⟨by omega, bI_inj.mp h63⟩, fun _ => trivial⟩ (by omega) | exact J False inferInstance ⟨fun q => q.elim, fun q => q.elim (fun q => by omega) (fun q => h63 (bI_inj.mpr q.2))⟩ (by omega) | exact J False inferInstance ⟨fun q => q.elim, fun q => q.elim (fun q => by omega) (fun q => q.1 h50)⟩ (by omega)
theorem d_twins_ok (μ : Mm) {p n : Nat} (hp : p = 3 ∨ p = 5) (hpn : p * (p + 2) = n) : Ok mX6_twins (rmL 1) [.ref 33, .int (nI p)] μ (some (.int (nI (fa_cnt (fun i => decide (fil ((stN (sI μ 33 14 0) (nI n)).1 34) (fun i => bI (twR p i)) n i = nI 1)) n))), sR (stN (sI μ 33 14 0) (nI n)) 34 (fil ((stN (sI μ 33 14 0) (nI n)).1 34) (fun i => bI (twR p i)) n)) := by
  have hn60 : n ≤ 60 := by rcases hp with rfl | rfl <;> omega
  refine Ok.of (by decide) (Nat.le_of_ble_eq_true rfl) [some (.ref 33), some (.int (nI p)), none, none, none] rfl ?_
  refine g_aload_n 0 _ dX6_twins_0 rfl rfl ?_
  refine g_backv (g_runV (d_start μ) rfl mw_X6_start mi_X6_start ml_X6_68 isO_33 ⟨rfl, rfl, Nat.le_of_ble_eq_true rfl, Nat.le_of_ble_eq_true rfl⟩ rfl rfl (Nat.le_of_ble_eq_true rfl) dX6_twins_1) ?_
  refine g_mem (μ' := sI μ 33 14 0) rfl ?_
  refine g_iload_n 1 _ dX6_twins_4 rfl rfl ?_
  refine g_iconst (nI 3) dX6_twins_5 rfl ?_
  refine g_icmp_eqN 20 (by omega) (by omega) dX6_twins_6 (by decide) (fun h6 => ?_) (fun h6 => ?_)
  · refine g_iload_n 1 _ dX6_twins_20 rfl rfl ?_
    refine g_iconst (nI 2) dX6_twins_21 rfl ?_
    refine g_iaddN dX6_twins_22 ?_
    refine g_istore_n [some (.ref 33), some (.int (nI p)), some (.int (nI (p + 2))), none, none] dX6_twins_23 rfl (Nat.le_of_ble_eq_true rfl) rfl rfl ?_
    refine g_aload_n 0 _ dX6_twins_24 rfl rfl ?_
    refine g_iload_n 1 _ dX6_twins_25 rfl rfl ?_
    refine g_iload_n 2 _ dX6_twins_26 rfl rfl ?_
    refine g_at 27 rfl ?_
    refine g_imulN dX6_twins_27 ?_
    refine g_backv (g_runV ((d_begin (sI μ 33 14 0) (nI (p * (p + 2)))).to (by rw [hpn])) rfl mw_X6_begin mi_X6_begin ml_X6_75 isO_33 ⟨rfl, rfl, Nat.le_of_ble_eq_true rfl, Nat.le_of_ble_eq_true rfl⟩ rfl rfl (Nat.le_of_ble_eq_true rfl) dX6_twins_28) ?_
    refine g_mem (μ' := stN (sI μ 33 14 0) (nI n)) rfl ?_
    refine g_iconst (nI 0) dX6_twins_31 rfl ?_
    refine g_istore_n [some (.ref 33), some (.int (nI p)), some (.int (nI (p + 2))), some (.int (nI 0)), none] dX6_twins_32 rfl (Nat.le_of_ble_eq_true rfl) rfl rfl ?_
    have h := d_twins_l (μ := stN (sI μ 33 14 0) (nI n)) (p := p) rfl (by omega) (by omega) hn60 (n + 1) 0 none (by omega) (by omega) (Or.inl rfl); rw [fil_0, sR_id] at h; exact h
  · refine g_iload_n 1 _ dX6_twins_9 rfl rfl ?_
    refine g_iconst (nI 5) dX6_twins_10 rfl ?_
    refine g_icmp_eqN 20 (by omega) (by omega) dX6_twins_11 (by decide) (fun h11 => ?_) (fun h11 => ?_)
    · refine g_iload_n 1 _ dX6_twins_20 rfl rfl ?_
      refine g_iconst (nI 2) dX6_twins_21 rfl ?_
      refine g_iaddN dX6_twins_22 ?_
      refine g_istore_n [some (.ref 33), some (.int (nI p)), some (.int (nI (p + 2))), none, none] dX6_twins_23 rfl (Nat.le_of_ble_eq_true rfl) rfl rfl ?_
      refine g_aload_n 0 _ dX6_twins_24 rfl rfl ?_
      refine g_iload_n 1 _ dX6_twins_25 rfl rfl ?_
      refine g_iload_n 2 _ dX6_twins_26 rfl rfl ?_
      refine g_at 27 rfl ?_
      refine g_imulN dX6_twins_27 ?_
      refine g_backv (g_runV ((d_begin (sI μ 33 14 0) (nI (p * (p + 2)))).to (by rw [hpn])) rfl mw_X6_begin mi_X6_begin ml_X6_75 isO_33 ⟨rfl, rfl, Nat.le_of_ble_eq_true rfl, Nat.le_of_ble_eq_true rfl⟩ rfl rfl (Nat.le_of_ble_eq_true rfl) dX6_twins_28) ?_
      refine g_mem (μ' := stN (sI μ 33 14 0) (nI n)) rfl ?_
      refine g_iconst (nI 0) dX6_twins_31 rfl ?_
      refine g_istore_n [some (.ref 33), some (.int (nI p)), some (.int (nI (p + 2))), some (.int (nI 0)), none] dX6_twins_32 rfl (Nat.le_of_ble_eq_true rfl) rfl rfl ?_
      have h := d_twins_l (μ := stN (sI μ 33 14 0) (nI n)) (p := p) rfl (by omega) (by omega) hn60 (n + 1) 0 none (by omega) (by omega) (Or.inl rfl); rw [fil_0, sR_id] at h; exact h
    · exact absurd h11 (by omega)
/-- the reference's round: steps until the state is f again, from k on, m left -/
def rdS (t r : Int32) (N : Nat) : Nat → Nat → Nat
  | 0, _ => N + 1
  | m + 1, k => if shS t r (k + 1) = nI 1 <<< ((r - nI 1) &&& 31) then k + 1 else rdS t r N m (k + 1)
theorem rdS_le (t r : Int32) (N : Nat) : ∀ m k, k + m = N → rdS t r N m k ≤ N + 1
  | 0, k, h => Nat.le_refl _
  | m + 1, k, h => by
    unfold rdS; split
    · omega
    · exact rdS_le t r N m (k + 1) (by omega)
theorem d_round_l {μ : Mm} {t r : Int32} {N : Nat} (hN : N ≤ 40) (e : Nat) : ∀ (m k : Nat) (z : Option Value), k + m = N → rdS t r N m k = e → (z = none ∨ ∃ v, z = some (.int v)) → G mX6_round (rmL 1) (some (.int (nI e)), sR μ 34 (fil (μ.1 34) (fun i => shS t r i &&& nI 1) (min e N))) (sR μ 34 (fil (μ.1 34) (fun i => shS t r i &&& nI 1) k)) 10 [some (.ref 33), some (.int r), some (.int t), some (.ref 34), some (.int (nI N)), some (.int (shS t r k)), some (.int (nI k)), z] [] := by
  intro m
  induction m with
  | zero =>
    intro k z hk he hz
    have he2 : N + 1 = e := he
    refine g_iload _ dX6_round_10 rfl ?_
    refine g_iload _ dX6_round_12 rfl ?_
    refine g_icmp_geN 70 (by omega) (by omega) dX6_round_14 (by decide) (fun h14 => ?_) (fun h14 => absurd h14 (by omega))
    refine g_iload _ dX6_round_70 rfl ?_
    refine g_iconst (nI 1) dX6_round_72 rfl ?_
    refine g_iaddN dX6_round_73 ?_
    exact g_ireturn dX6_round_74 rfl rfl (by rw [← he2, Nat.min_eq_right (by omega), show k = N by omega])
  | succ m ih =>
    intro k z hk he hz
    unfold rdS at he
    have e9 : shS t r (k + 1) = nsF (shS t r k) t r := rfl
    have X : ∀ z, (z = none ∨ ∃ v, z = some (.int v)) → G mX6_round (rmL 1) (some (.int (nI e)), sR μ 34 (fil (μ.1 34) (fun i => shS t r i &&& nI 1) (min e N))) (sR μ 34 (fil (μ.1 34) (fun i => shS t r i &&& nI 1) (k + 1))) 34 [some (.ref 33), some (.int r), some (.int t), some (.ref 34), some (.int (nI N)), some (.int (shS t r k)), some (.int (nI k)), z] [.int (bcF (shS t r k &&& t) &&& nI 1)] := by
      intro z hz
      refine g_istore [some (.ref 33), some (.int r), some (.int t), some (.ref 34), some (.int (nI N)), some (.int (shS t r k)), some (.int (nI k)), some (.int (bcF (shS t r k &&& t) &&& nI 1))] dX6_round_34 (Nat.le_of_ble_eq_true rfl) rfl (by rcases hz with rfl | ⟨v, rfl⟩ <;> rfl) ?_
      refine g_iload _ dX6_round_36 rfl ?_
      refine g_iconst (nI 1) dX6_round_38 rfl ?_
      refine g_ishr dX6_round_39 ?_
      refine g_iload _ dX6_round_40 rfl ?_
      refine g_iload_n 1 _ dX6_round_42 rfl rfl ?_
      refine g_iconst (nI 1) dX6_round_43 rfl ?_
      refine g_isub dX6_round_44 ?_
      refine g_at 45 rfl ?_
      refine g_ishl dX6_round_45 ?_
      refine g_ior dX6_round_46 ?_
      refine g_istore [some (.ref 33), some (.int r), some (.int t), some (.ref 34), some (.int (nI N)), some (.int (((shS t r k) >>> ((nI 1) &&& 31)) ||| ((bcF (shS t r k &&& t) &&& nI 1) <<< ((r - (nI 1)) &&& 31)))), some (.int (nI k)), some (.int (bcF (shS t r k &&& t) &&& nI 1))] dX6_round_47 (Nat.le_of_ble_eq_true rfl) rfl rfl ?_
      refine g_iload _ dX6_round_49 rfl ?_
      refine g_iconst (nI 1) dX6_round_51 rfl ?_
      refine g_iload_n 1 _ dX6_round_52 rfl rfl ?_
      refine g_iconst (nI 1) dX6_round_53 rfl ?_
      refine g_isub dX6_round_54 ?_
      refine g_at 55 rfl ?_
      refine g_ishl dX6_round_55 ?_
      refine g_icmp_ne 64 dX6_round_56 (by decide) (fun h56 => ?_) (fun h56 => ?_)
      · refine g_iincN [some (.ref 33), some (.int r), some (.int t), some (.ref 34), some (.int (nI N)), some (.int (((shS t r k) >>> ((nI 1) &&& 31)) ||| ((bcF (shS t r k &&& t) &&& nI 1) <<< ((r - (nI 1)) &&& 31)))), some (.int (nI (k + 1))), some (.int (bcF (shS t r k &&& t) &&& nI 1))] dX6_round_64 rfl (Nat.le_of_ble_eq_true rfl) rfl rfl ?_
        refine g_goto 10 dX6_round_67 (by decide) ?_
        rw [if_neg (show ¬ shS t r (k + 1) = _ from h56)] at he; exact ih (k + 1) _ (by omega) he (Or.inr ⟨_, rfl⟩)
      · refine g_iload _ dX6_round_59 rfl ?_
        refine g_iconst (nI 1) dX6_round_61 rfl ?_
        refine g_iaddN dX6_round_62 ?_
        exact g_ireturn dX6_round_63 rfl rfl (by rw [if_pos (show shS t r (k + 1) = _ from h56)] at he; rw [← he, Nat.min_eq_left (by omega)])
    refine g_iload _ dX6_round_10 rfl ?_
    refine g_iload _ dX6_round_12 rfl ?_
    refine g_icmp_geN 70 (by omega) (by omega) dX6_round_14 (by decide) (fun h14 => absurd h14 (by omega)) (fun h14 => ?_)
    refine g_aload_n 3 _ dX6_round_17 rfl rfl ?_
    refine g_iload _ dX6_round_18 rfl ?_
    refine g_iload _ dX6_round_20 rfl ?_
    refine g_iconst (nI 1) dX6_round_22 rfl ?_
    refine g_iand dX6_round_23 ?_
    refine g_iastore (j := k) isI_34 rfl (by omega) (by omega) dX6_round_24 ?_
    refine g_mem (sR_fil μ 34 k _ (fun i => shS t r i &&& nI 1) rfl) ?_
    refine g_iload _ dX6_round_25 rfl ?_
    refine g_iload_n 2 _ dX6_round_27 rfl rfl ?_
    refine g_iand dX6_round_28 ?_
    refine g_backi (g_runS (c_bitCount _ _) rfl mw_J6_bitCount_0f7a4 ms_J6_bitCount_0f7a4 ml_X6_124 ⟨rfl, rfl, Nat.le_of_ble_eq_true rfl, Nat.le_of_ble_eq_true rfl⟩ rfl rfl (Nat.le_of_ble_eq_true rfl) dX6_round_29) ?_
    refine g_iconst (nI 1) dX6_round_32 rfl ?_
    refine g_iand dX6_round_33 ?_
    exact X z hz
theorem d_round (μ : Mm) (t r : Int32) {N : Nat} (hN : N ≤ 40) : Ok mX6_round (rmL 1) [.ref 33, .int r, .int t, .ref 34, .int (nI N)] μ (some (.int (nI (rdS t r N N 0))), sR μ 34 (fil (μ.1 34) (fun i => shS t r i &&& nI 1) (min (rdS t r N N 0) N))) := by
  refine Ok.of (by decide) (Nat.le_of_ble_eq_true rfl) [some (.ref 33), some (.int r), some (.int t), some (.ref 34), some (.int (nI N)), none, none, none] rfl ?_
  refine g_iconst (nI 1) dX6_round_0 rfl ?_
  refine g_iload_n 1 _ dX6_round_1 rfl rfl ?_
  refine g_iconst (nI 1) dX6_round_2 rfl ?_
  refine g_isub dX6_round_3 ?_
  refine g_ishl dX6_round_4 ?_
  refine g_istore [some (.ref 33), some (.int r), some (.int t), some (.ref 34), some (.int (nI N)), some (.int ((nI 1) <<< ((r - (nI 1)) &&& 31))), none, none] dX6_round_5 (Nat.le_of_ble_eq_true rfl) rfl rfl ?_
  refine g_iconst (nI 0) dX6_round_7 rfl ?_
  refine g_at 8 rfl ?_
  refine g_istore [some (.ref 33), some (.int r), some (.int t), some (.ref 34), some (.int (nI N)), some (.int ((nI 1) <<< ((r - (nI 1)) &&& 31))), some (.int (nI 0)), none] dX6_round_8 (Nat.le_of_ble_eq_true rfl) rfl rfl ?_
  have h := d_round_l (μ := μ) (t := t) (r := r) hN _ N 0 none (by omega) rfl (Or.inl rfl); rw [fil_0, sR_id] at h; exact h
theorem d_shift_no (μ : Mm) (a : Int32) (h : a.toInt < 2 ∨ 5 < a.toInt) : Ok mX6_shift (rmL 2) [.ref 33, .int a] μ (some (.int (-1)), sI (sI μ 33 14 0) 33 14 (nI 1)) := by
  refine Ok.of (by decide) (Nat.le_of_ble_eq_true rfl) [some (.ref 33), some (.int a), none, none] rfl ?_
  refine g_aload_n 0 _ dX6_shift_0 rfl rfl ?_
  refine g_backv (g_runV (d_start μ) rfl mw_X6_start mi_X6_start ml_X6_68 isO_33 ⟨rfl, rfl, Nat.le_of_ble_eq_true rfl, Nat.le_of_ble_eq_true rfl⟩ rfl rfl (Nat.le_of_ble_eq_true rfl) dX6_shift_1) ?_
  refine g_mem (μ' := sI μ 33 14 0) rfl ?_
  refine g_iload_n 1 _ dX6_shift_4 rfl rfl ?_
  refine g_iconst (nI 2) dX6_shift_5 rfl ?_
  refine g_icmp_lt 14 dX6_shift_6 (by decide) (fun h6 => ?_) (fun h6 => ?_)
  · refine g_aload_n 0 _ dX6_shift_14 rfl rfl ?_
    refine g_iconst (nI 1) dX6_shift_15 rfl ?_
    refine g_backi (g_runV (d_no (sI μ 33 14 0) (nI 1)) rfl mw_X6_no mi_X6_no ml_X6_79 isO_33 ⟨rfl, rfl, Nat.le_of_ble_eq_true rfl, Nat.le_of_ble_eq_true rfl⟩ rfl rfl (Nat.le_of_ble_eq_true rfl) dX6_shift_16) ?_
    refine g_mem (μ' := sI (sI μ 33 14 0) 33 14 (nI 1)) rfl ?_
    refine g_top (w := .int (-1)) rfl ?_
    exact g_ireturn dX6_shift_19 rfl rfl rfl
  · refine g_iload_n 1 _ dX6_shift_9 rfl rfl ?_
    refine g_iconst (nI 5) dX6_shift_10 rfl ?_
    refine g_icmp_le 20 dX6_shift_11 (by decide) (fun h11 => ?_) (fun h11 => ?_)
    · exfalso; simp only [ne_eq, fa_lt, fa_le, fa_eq, t0, t1, t2, tm1, nt0, nt1, nt2, nt3, nt4, nt5, nt7, nt9, nt10, nt13, nt14, nt30, nt32, nt59, nt60, nt200, nt1000, nt1000000, nt1073741824] at *; omega
    · refine g_aload_n 0 _ dX6_shift_14 rfl rfl ?_
      refine g_iconst (nI 1) dX6_shift_15 rfl ?_
      refine g_backi (g_runV (d_no (sI μ 33 14 0) (nI 1)) rfl mw_X6_no mi_X6_no ml_X6_79 isO_33 ⟨rfl, rfl, Nat.le_of_ble_eq_true rfl, Nat.le_of_ble_eq_true rfl⟩ rfl rfl (Nat.le_of_ble_eq_true rfl) dX6_shift_16) ?_
      refine g_mem (μ' := sI (sI μ 33 14 0) 33 14 (nI 1)) rfl ?_
      refine g_top (w := .int (-1)) rfl ?_
      exact g_ireturn dX6_shift_19 rfl rfl rfl
theorem d_shift_l {μ : Mm} {r N T : Nat} (hN : N ≤ 40) (h1 : nI 1 <<< (nI r &&& 31) = nI (N + 1)) (hT : rdS (nI T) (nI r) N N 0 = N) (hT2 : T ≤ N) : ∀ (m t : Nat) (f : Nat → Int32), t + 2 * m = T → (∀ j, j < m → rdS (nI (t + 2 * j)) (nI r) N N 0 ≠ N) → (∀ j, N ≤ j → f j = μ.1 34 j) → G mX6_shift (rmL 2) (some (.int (nI T)), sR μ 34 (fil (μ.1 34) (fun i => shS (nI T) (nI r) i &&& nI 1) N)) (sR μ 34 f) 33 [some (.ref 33), some (.int (nI r)), some (.int (nI N)), some (.int (nI t))] [] := by
  intro m
  induction m with
  | zero =>
    intro t f ht hno hf
    have htT : t = T := by omega
    subst htT
    have hm : sR (sR μ 34 f) 34 (fil f (fun i => shS (nI t) (nI r) i &&& nI 1) N) = sR μ 34 (fil (μ.1 34) (fun i => shS (nI t) (nI r) i &&& nI 1) N) := by
      rw [sR_sR]
      congr 1
      funext j
      by_cases hj : j < N
      · rw [fil_in hj, fil_in hj]
      · rw [fil_out (by omega), fil_out (by omega), hf j (by omega)]
    refine g_iload_n 3 _ dX6_shift_33 rfl rfl ?_
    refine g_iconst (nI 1) dX6_shift_34 rfl ?_
    refine g_iload_n 1 _ dX6_shift_35 rfl rfl ?_
    refine g_ishl dX6_shift_36 ?_
    refine g_top (w := .int (nI (N + 1))) (congrArg Value.int h1) ?_
    refine g_icmp_geN 63 (by omega) (by omega) dX6_shift_37 (by decide) (fun h37 => ?_) (fun h37 => ?_)
    · exact absurd h37 (by omega)
    · refine g_aload_n 0 _ dX6_shift_40 rfl rfl ?_
      refine g_iload_n 1 _ dX6_shift_41 rfl rfl ?_
      refine g_iload_n 3 _ dX6_shift_42 rfl rfl ?_
      refine g_aload_n 0 _ dX6_shift_43 rfl rfl ?_
      refine gf_X6_13 rfl dX6_shift_44 ?_
      refine g_iload_n 2 _ dX6_shift_47 rfl rfl ?_
      refine g_backi (g_runV ((d_round (sR μ 34 f) (nI t) (nI r) hN).to (by rw [hT, Nat.min_self, sR_at, hm])) rfl mw_X6_round mi_X6_round ml_X6_129 isO_33 ⟨rfl, rfl, Nat.le_of_ble_eq_true rfl, Nat.le_of_ble_eq_true rfl⟩ rfl rfl (Nat.le_of_ble_eq_true rfl) dX6_shift_48) ?_
      refine g_mem (μ' := sR μ 34 (fil (μ.1 34) (fun i => shS (nI t) (nI r) i &&& nI 1) N)) rfl ?_
      refine g_top (w := .int (nI N)) rfl ?_
      refine g_at 51 rfl ?_
      refine g_iload_n 2 _ dX6_shift_51 rfl rfl ?_
      refine g_icmp_neN 57 (by omega) (by omega) dX6_shift_52 (by decide) (fun h52 => ?_) (fun h52 => ?_)
      · exact absurd rfl h52
      · refine g_iload_n 3 _ dX6_shift_55 rfl rfl ?_
        exact g_ireturn dX6_shift_56 rfl rfl rfl
  | succ m ih =>
    intro t f ht hno hf
    have hn0 := hno 0 (by omega)
    rw [show t + 2 * 0 = t by omega] at hn0
    have hle := rdS_le (nI t) (nI r) N N 0 (by omega)
    refine g_iload_n 3 _ dX6_shift_33 rfl rfl ?_
    refine g_iconst (nI 1) dX6_shift_34 rfl ?_
    refine g_iload_n 1 _ dX6_shift_35 rfl rfl ?_
    refine g_ishl dX6_shift_36 ?_
    refine g_top (w := .int (nI (N + 1))) (congrArg Value.int h1) ?_
    refine g_icmp_geN 63 (by omega) (by omega) dX6_shift_37 (by decide) (fun h37 => ?_) (fun h37 => ?_)
    · exact absurd h37 (by omega)
    · refine g_aload_n 0 _ dX6_shift_40 rfl rfl ?_
      refine g_iload_n 1 _ dX6_shift_41 rfl rfl ?_
      refine g_iload_n 3 _ dX6_shift_42 rfl rfl ?_
      refine g_aload_n 0 _ dX6_shift_43 rfl rfl ?_
      refine gf_X6_13 rfl dX6_shift_44 ?_
      refine g_iload_n 2 _ dX6_shift_47 rfl rfl ?_
      refine g_backi (g_runV ((d_round (sR μ 34 f) (nI t) (nI r) hN).to (by rw [sR_sR, sR_at])) rfl mw_X6_round mi_X6_round ml_X6_129 isO_33 ⟨rfl, rfl, Nat.le_of_ble_eq_true rfl, Nat.le_of_ble_eq_true rfl⟩ rfl rfl (Nat.le_of_ble_eq_true rfl) dX6_shift_48) ?_
      refine g_mem (μ' := sR μ 34 (fil f (fun i => shS (nI t) (nI r) i &&& nI 1) (min (rdS (nI t) (nI r) N N 0) N))) rfl ?_
      refine g_top (w := .int (nI (rdS (nI t) (nI r) N N 0))) rfl ?_
      refine g_at 51 rfl ?_
      refine g_iload_n 2 _ dX6_shift_51 rfl rfl ?_
      refine g_icmp_neN 57 (by omega) (by omega) dX6_shift_52 (by decide) (fun h52 => ?_) (fun h52 => ?_)
      · refine g_iinc [some (.ref 33), some (.int (nI r)), some (.int (nI N)), some (.int (nI (t + 2)))] dX6_shift_57 rfl (nI_add _ 2) (Nat.le_of_ble_eq_true rfl) rfl rfl ?_
        refine g_goto 33 dX6_shift_60 (by decide) ?_
        exact ih (t + 2) _ (by omega) (fun j hj => by have := hno (j + 1) (by omega); rw [show t + 2 * (j + 1) = t + 2 + 2 * j by omega] at this; exact this) (fun j hj => by rw [fil_out (by omega)]; exact hf j hj)
      · exact absurd h52 hn0
theorem d_shift_ok (μ : Mm) {r N T m : Nat} (h2 : 2 ≤ r) (h5 : r ≤ 5) (hN : N ≤ 40) (h1 : nI 1 <<< (nI r &&& 31) = nI (N + 1)) (hT : rdS (nI T) (nI r) N N 0 = N) (hT2 : T ≤ N) (hm : 1 + 2 * m = T) (hno : ∀ j, j < m → rdS (nI (1 + 2 * j)) (nI r) N N 0 ≠ N) : Ok mX6_shift (rmL 2) [.ref 33, .int (nI r)] μ (some (.int (nI T)), sR (stN (sI μ 33 14 0) (nI N)) 34 (fil ((stN (sI μ 33 14 0) (nI N)).1 34) (fun i => shS (nI T) (nI r) i &&& nI 1) N)) := by
  refine Ok.of (by decide) (Nat.le_of_ble_eq_true rfl) [some (.ref 33), some (.int (nI r)), none, none] rfl ?_
  refine g_aload_n 0 _ dX6_shift_0 rfl rfl ?_
  refine g_backv (g_runV (d_start μ) rfl mw_X6_start mi_X6_start ml_X6_68 isO_33 ⟨rfl, rfl, Nat.le_of_ble_eq_true rfl, Nat.le_of_ble_eq_true rfl⟩ rfl rfl (Nat.le_of_ble_eq_true rfl) dX6_shift_1) ?_
  refine g_mem (μ' := sI μ 33 14 0) rfl ?_
  refine g_iload_n 1 _ dX6_shift_4 rfl rfl ?_
  refine g_iconst (nI 2) dX6_shift_5 rfl ?_
  refine g_icmp_ltN 14 (by omega) (by omega) dX6_shift_6 (by decide) (fun h6 => ?_) (fun h6 => ?_)
  · exact absurd h6 (by omega)
  · refine g_iload_n 1 _ dX6_shift_9 rfl rfl ?_
    refine g_iconst (nI 5) dX6_shift_10 rfl ?_
    refine g_icmp_leN 20 (by omega) (by omega) dX6_shift_11 (by decide) (fun h11 => ?_) (fun h11 => ?_)
    · refine g_iconst (nI 1) dX6_shift_20 rfl ?_
      refine g_iload_n 1 _ dX6_shift_21 rfl rfl ?_
      refine g_ishl dX6_shift_22 ?_
      refine g_top (w := .int (nI (N + 1))) (congrArg Value.int h1) ?_
      refine g_iconst (nI 1) dX6_shift_23 rfl ?_
      refine g_isubN (by omega) dX6_shift_24 ?_
      refine g_top (w := .int (nI N)) (congrArg Value.int (by rw [show N + 1 - 1 = N by omega])) ?_
      refine g_istore_n [some (.ref 33), some (.int (nI r)), some (.int (nI N)), none] dX6_shift_25 rfl (Nat.le_of_ble_eq_true rfl) rfl rfl ?_
      refine g_aload_n 0 _ dX6_shift_26 rfl rfl ?_
      refine g_at 27 rfl ?_
      refine g_iload_n 2 _ dX6_shift_27 rfl rfl ?_
      refine g_backv (g_runV (d_begin (sI μ 33 14 0) (nI N)) rfl mw_X6_begin mi_X6_begin ml_X6_75 isO_33 ⟨rfl, rfl, Nat.le_of_ble_eq_true rfl, Nat.le_of_ble_eq_true rfl⟩ rfl rfl (Nat.le_of_ble_eq_true rfl) dX6_shift_28) ?_
      refine g_mem (μ' := stN (sI μ 33 14 0) (nI N)) rfl ?_
      refine g_iconst (nI 1) dX6_shift_31 rfl ?_
      refine g_istore_n [some (.ref 33), some (.int (nI r)), some (.int (nI N)), some (.int (nI 1))] dX6_shift_32 rfl (Nat.le_of_ble_eq_true rfl) rfl rfl ?_
      have h := d_shift_l (μ := stN (sI μ 33 14 0) (nI N)) hN h1 hT hT2 m 1 ((stN (sI μ 33 14 0) (nI N)).1 34) hm hno (fun _ _ => rfl); rw [sR_id] at h; exact h
    · exact absurd h11 (by omega)
