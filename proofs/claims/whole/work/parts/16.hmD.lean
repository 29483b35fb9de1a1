/-! fold, rests, twins, shift -/
theorem c_canFold_no (μ : Mm) (a b x y : Int32) (h : a.toInt < 1 ∨ b.toInt < 1) : Ok mX5_canFold (rmL 2) [.ref 0, .int a, .int b, .int x, .int y] μ (some (.int (nI 0)), μ) := by
  refine Ok.of (by decide) (Nat.le_of_ble_eq_true rfl) [some (.ref 0), some (.int a), some (.int b), some (.int x), some (.int y)] rfl ?_
  refine g_iload_n 1 _ dX5_canFold_0 rfl rfl ?_
  refine g_iconst (nI 1) dX5_canFold_1 rfl ?_
  refine g_icmp_lt 63 dX5_canFold_2 (by decide) (fun h2 => ?_) (fun h2 => ?_)
  · refine g_iconst (nI 0) dX5_canFold_63 rfl ?_
    exact g_ireturn dX5_canFold_64 rfl rfl rfl
  · refine g_iload_n 2 _ dX5_canFold_5 rfl rfl ?_
    refine g_iconst (nI 1) dX5_canFold_6 rfl ?_
    refine g_icmp_lt 63 dX5_canFold_7 (by decide) (fun h7 => ?_) (fun h7 => ?_)
    · refine g_iconst (nI 0) dX5_canFold_63 rfl ?_
      exact g_ireturn dX5_canFold_64 rfl rfl rfl
    · exfalso; simp only [ne_eq, fa_lt, fa_le, fa_eq, t0, t1, t2, tm1, nt0, nt1, nt2, nt3, nt4, nt5, nt7, nt9, nt10, nt13, nt14, nt30, nt32, nt59, nt60, nt200, nt1000, nt1000000, nt1073741824] at *; omega
theorem c_fold_no (μ : Mm) (a b x y : Int32) (h : Ok mX5_canFold (rmL 2) [.ref 0, .int a, .int b, .int x, .int y] μ (some (.int (nI 0)), μ)) : Ok mX5_fold (rmL 3) [.ref 0, .int a, .int b, .int x, .int y] μ (some (.int (nI 0)), sI μ 0 5 (nI 1)) := by
  refine Ok.of (by decide) (Nat.le_of_ble_eq_true rfl) [some (.ref 0), some (.int a), some (.int b), some (.int x), some (.int y), none] rfl ?_
  refine g_aload_n 0 _ dX5_fold_0 rfl rfl ?_
  refine g_aload_n 0 _ dX5_fold_1 rfl rfl ?_
  refine g_iload_n 1 _ dX5_fold_2 rfl rfl ?_
  refine g_iload_n 2 _ dX5_fold_3 rfl rfl ?_
  refine g_iload_n 3 _ dX5_fold_4 rfl rfl ?_
  refine g_iload _ dX5_fold_5 rfl ?_
  refine g_backi (g_runV (h) rfl mw_X5_canFold mi_X5_canFold ml_X5_142 isO_0 ⟨rfl, rfl, Nat.le_of_ble_eq_true rfl, Nat.le_of_ble_eq_true rfl⟩ rfl rfl (Nat.le_of_ble_eq_true rfl) dX5_fold_7) ?_
  refine g_top (w := .int (nI 0)) rfl ?_
  refine g_at 10 rfl ?_
  refine g_if_eqN 17 (by omega) dX5_fold_10 (by decide) (fun h10 => ?_) (fun h10 => ?_)
  · refine g_iconst (nI 1) dX5_fold_17 rfl ?_
    refine g_backi (g_runV (c_refuses1 μ (f := nI 1) (by decide)) rfl mw_X5_refuses mi_X5_refuses ml_X5_48 isO_0 ⟨rfl, rfl, Nat.le_of_ble_eq_true rfl, Nat.le_of_ble_eq_true rfl⟩ rfl rfl (Nat.le_of_ble_eq_true rfl) dX5_fold_18) ?_
    refine g_mem (μ' := sI μ 0 5 (nI 1)) rfl ?_
    refine g_top (w := .int (nI 1)) rfl ?_
    refine g_if_eqN 26 (by omega) dX5_fold_21 (by decide) (fun h21 => ?_) (fun h21 => ?_)
    · exact absurd h21 (by omega)
    · refine g_iconst (nI 0) dX5_fold_24 rfl ?_
      exact g_ireturn dX5_fold_25 rfl rfl rfl
  · exact absurd h10 (by omega)
theorem c_fold_l {μ : Mm} {A B X Y n i0 : Nat} (hn : μ.1 1 2 = nI n) (h60 : n ≤ 60) (hA : 1 ≤ A) (hA2 : A ≤ 60) (hB : 1 ≤ B) (hB2 : B ≤ 60) (hX : X < A) (hY : Y < B) (h0 : i0 < n) (hx : i0 % A = X) (hy : i0 % B = Y) (hmin : ∀ j, j < i0 → ¬ (j % A = X ∧ j % B = Y)) : ∀ (m i : Nat), i ≤ i0 → i0 < i + m → G mX5_fold (rmL 3) (some (.int (μ.1 7 i0)), μ) μ 29 [some (.ref 0), some (.int (nI A)), some (.int (nI B)), some (.int (nI X)), some (.int (nI Y)), some (.int (nI i))] [] := by
  intro m
  induction m with
  | zero => exact fun i h1 h2 => absurd h2 (by omega)
  | succ m ih =>
    intro i h1 h2
    have e1 : i % A < A := Nat.mod_lt _ hA
    have e2 : i % B < B := Nat.mod_lt _ hB
    have e3 : i < i0 ∨ i = i0 := by omega
    refine g_iload _ dX5_fold_29 rfl ?_
    refine g_aload_n 0 _ dX5_fold_31 rfl rfl ?_
    refine gf_X5_10 rfl dX5_fold_32 ?_
    refine gf_X5_77 rfl dX5_fold_35 ?_
    refine g_top (w := .int (nI n)) (congrArg Value.int hn) ?_
    refine g_icmp_geN 75 (by omega) (by omega) dX5_fold_38 (by decide) (fun h38 => ?_) (fun h38 => ?_)
    · exact absurd h38 (by omega)
    · refine g_iload _ dX5_fold_41 rfl ?_
      refine g_iload_n 1 _ dX5_fold_43 rfl rfl ?_
      refine g_iremN (by omega) (by omega) (by omega) dX5_fold_44 ?_
      refine g_iload_n 3 _ dX5_fold_45 rfl rfl ?_
      refine g_icmp_neN 69 (by omega) (by omega) dX5_fold_46 (by decide) (fun h46 => ?_) (fun h46 => ?_)
      · refine g_iincN [some (.ref 0), some (.int (nI A)), some (.int (nI B)), some (.int (nI X)), some (.int (nI Y)), some (.int (nI (i + 1)))] dX5_fold_69 rfl (Nat.le_of_ble_eq_true rfl) rfl rfl ?_
        refine g_goto 29 dX5_fold_72 (by decide) ?_
        exact ih (i + 1) (by rcases e3 with q | q; omega; (exfalso; subst q; omega)) (by omega)
      · refine g_iload _ dX5_fold_49 rfl ?_
        refine g_iload_n 2 _ dX5_fold_51 rfl rfl ?_
        refine g_iremN (by omega) (by omega) (by omega) dX5_fold_52 ?_
        refine g_iload _ dX5_fold_53 rfl ?_
        refine g_icmp_neN 69 (by omega) (by omega) dX5_fold_55 (by decide) (fun h55 => ?_) (fun h55 => ?_)
        · refine g_iincN [some (.ref 0), some (.int (nI A)), some (.int (nI B)), some (.int (nI X)), some (.int (nI Y)), some (.int (nI (i + 1)))] dX5_fold_69 rfl (Nat.le_of_ble_eq_true rfl) rfl rfl ?_
          refine g_goto 29 dX5_fold_72 (by decide) ?_
          exact ih (i + 1) (by rcases e3 with q | q; omega; (exfalso; subst q; omega)) (by omega)
        · refine g_aload_n 0 _ dX5_fold_58 rfl rfl ?_
          refine gf_X5_10 rfl dX5_fold_59 ?_
          refine g_iconst (nI 0) dX5_fold_62 rfl ?_
          refine g_iload _ dX5_fold_63 rfl ?_
          refine g_backi (g_runVN (c_get μ (w := 0) (j := i) (by decide) (by omega)) rfl mw_X1_get mi_X1_get mn_X5_111 isO_1 ⟨rfl, rfl, Nat.le_of_ble_eq_true rfl, Nat.le_of_ble_eq_true rfl⟩ rfl rfl (Nat.le_of_ble_eq_true rfl) dX5_fold_65) ?_
          refine g_top (w := .int (μ.1 7 i)) rfl ?_
          exact g_ireturn dX5_fold_68 rfl rfl (by rcases e3 with q | q; exact absurd ⟨h46, h55⟩ (hmin i q); rw [q])
theorem c_fold_ok (μ : Mm) {A B X Y n i0 : Nat} (hn : μ.1 1 2 = nI n) (h60 : n ≤ 60) (hA : 1 ≤ A) (hB : 1 ≤ B) (hAB : A * B = n) (hg : Nat.gcd A B = 1) (hX : X < A) (hY : Y < B) (h0 : i0 < n) (hx : i0 % A = X) (hy : i0 % B = Y) (hmin : ∀ j, j < i0 → ¬ (j % A = X ∧ j % B = Y)) : Ok mX5_fold (rmL 3) [.ref 0, .int (nI A), .int (nI B), .int (nI X), .int (nI Y)] μ (some (.int (μ.1 7 i0)), sI μ 0 5 0) := by
  have hA2 : A ≤ 60 := by have := Nat.le_mul_of_pos_right A hB; omega
  have hB2 : B ≤ 60 := by have := Nat.le_mul_of_pos_left B hA; omega
  have hf : foldP n A B (nI X) (nI Y) := ⟨hAB, hg, by rw [nI_toInt (by omega)]; omega, by rw [nI_toInt (by omega)]; omega⟩
  refine Ok.of (by decide) (Nat.le_of_ble_eq_true rfl) [some (.ref 0), some (.int (nI A)), some (.int (nI B)), some (.int (nI X)), some (.int (nI Y)), none] rfl ?_
  refine g_aload_n 0 _ dX5_fold_0 rfl rfl ?_
  refine g_aload_n 0 _ dX5_fold_1 rfl rfl ?_
  refine g_iload_n 1 _ dX5_fold_2 rfl rfl ?_
  refine g_iload_n 2 _ dX5_fold_3 rfl rfl ?_
  refine g_iload_n 3 _ dX5_fold_4 rfl rfl ?_
  refine g_iload _ dX5_fold_5 rfl ?_
  refine g_backi (g_runV ((c_canFold μ (nI X) (nI Y) hn h60 hA (by omega) hB (by omega)).to (by rw [bI_t hf])) rfl mw_X5_canFold mi_X5_canFold ml_X5_142 isO_0 ⟨rfl, rfl, Nat.le_of_ble_eq_true rfl, Nat.le_of_ble_eq_true rfl⟩ rfl rfl (Nat.le_of_ble_eq_true rfl) dX5_fold_7) ?_
  refine g_top (w := .int 1) rfl ?_
  refine g_at 10 rfl ?_
  refine g_if_eq 17 dX5_fold_10 (by decide) (fun h10 => ?_) (fun h10 => ?_)
  · exact absurd h10 (by decide)
  · refine g_iconst (nI 0) dX5_fold_13 rfl ?_
    refine g_goto 18 dX5_fold_14 (by decide) ?_
    refine g_backi (g_runV (c_refuses0 μ) rfl mw_X5_refuses mi_X5_refuses ml_X5_48 isO_0 ⟨rfl, rfl, Nat.le_of_ble_eq_true rfl, Nat.le_of_ble_eq_true rfl⟩ rfl rfl (Nat.le_of_ble_eq_true rfl) dX5_fold_18) ?_
    refine g_mem (μ' := sI μ 0 5 0) rfl ?_
    refine g_top (w := .int (nI 0)) rfl ?_
    refine g_if_eqN 26 (by omega) dX5_fold_21 (by decide) (fun h21 => ?_) (fun h21 => ?_)
    · refine g_iconst (nI 0) dX5_fold_26 rfl ?_
      refine g_istore [some (.ref 0), some (.int (nI A)), some (.int (nI B)), some (.int (nI X)), some (.int (nI Y)), some (.int (nI 0))] dX5_fold_27 (Nat.le_of_ble_eq_true rfl) rfl rfl ?_
      exact c_fold_l (μ := sI μ 0 5 0) hn h60 hA hA2 hB hB2 hX hY h0 hx hy hmin (n + 1) 0 (by omega) (by omega)
    · exact absurd h21 (by omega)
theorem c_rests_no (μ : Mm) (a : Int32) (h : Ok mX5_isRestPrime (rmL 1) [.int a] μ (some (.int (nI 0)), μ)) : Ok mX5_rests (rmL 3) [.ref 0, .int a] μ (some (.int (-1)), sI μ 0 5 (nI 1)) := by
  refine Ok.of (by decide) (Nat.le_of_ble_eq_true rfl) [some (.ref 0), some (.int a), none] rfl ?_
  refine g_aload_n 0 _ dX5_rests_0 rfl rfl ?_
  refine g_iload_n 1 _ dX5_rests_1 rfl rfl ?_
  refine g_backi (g_runS (h) rfl mw_X5_isRestPrime ms_X5_isRestPrime ml_X5_146 ⟨rfl, rfl, Nat.le_of_ble_eq_true rfl, Nat.le_of_ble_eq_true rfl⟩ rfl rfl (Nat.le_of_ble_eq_true rfl) dX5_rests_2) ?_
  refine g_top (w := .int (nI 0)) rfl ?_
  refine g_if_eqN 12 (by omega) dX5_rests_5 (by decide) (fun h5 => ?_) (fun h5 => ?_)
  · refine g_iconst (nI 1) dX5_rests_12 rfl ?_
    refine g_backi (g_runV (c_refuses1 μ (f := nI 1) (by decide)) rfl mw_X5_refuses mi_X5_refuses ml_X5_48 isO_0 ⟨rfl, rfl, Nat.le_of_ble_eq_true rfl, Nat.le_of_ble_eq_true rfl⟩ rfl rfl (Nat.le_of_ble_eq_true rfl) dX5_rests_13) ?_
    refine g_mem (μ' := sI μ 0 5 (nI 1)) rfl ?_
    refine g_top (w := .int (nI 1)) rfl ?_
    refine g_if_eqN 21 (by omega) dX5_rests_16 (by decide) (fun h16 => ?_) (fun h16 => ?_)
    · exact absurd h16 (by omega)
    · refine g_iconst (-1) dX5_rests_19 rfl ?_
      exact g_ireturn dX5_rests_20 rfl rfl rfl
  · exact absurd h5 (by omega)
theorem c_rests_l {μ : Mm} {p : Nat} (hn : μ.1 1 2 = nI p) (h3 : 3 ≤ p) (h60 : p < 60) : ∀ (m i : Nat), i ≤ p → p < i + m → G mX5_rests (rmL 3) (some (.int (nI (fa_cnt (fun i => decide (fil (μ.1 7) (fun i => bI (sqP i p)) p i = nI 1)) p))), sR μ 7 (fil (μ.1 7) (fun i => bI (sqP i p)) p)) (sR μ 7 (fil (μ.1 7) (fun i => bI (sqP i p)) i)) 28 [some (.ref 0), some (.int (nI p)), some (.int (nI i))] [] := by
  intro m
  induction m with
  | zero => exact fun i h1 h2 => absurd h2 (by omega)
  | succ m ih =>
    intro i h1 h2
    refine g_iload_n 2 _ dX5_rests_28 rfl rfl ?_
    refine g_iload_n 1 _ dX5_rests_29 rfl rfl ?_
    refine g_icmp_geN 61 (by omega) (by omega) dX5_rests_30 (by decide) (fun h30 => ?_) (fun h30 => ?_)
    · refine g_aload_n 0 _ dX5_rests_61 rfl rfl ?_
      refine gf_X5_10 rfl dX5_rests_62 ?_
      refine g_iconst (nI 0) dX5_rests_65 rfl ?_
      refine g_iconst (nI 1) dX5_rests_66 rfl ?_
      refine g_backi (g_runVN ((c_tally (w := 0) (n := p) (sR μ 7 (fil (μ.1 7) (fun i => bI (sqP i p)) i)) (nI 1) hn (by omega) (by decide)).to (by rw [show i = p by omega])) rfl mw_X1_tally mi_X1_tally mn_X5_116 isO_1 ⟨rfl, rfl, Nat.le_of_ble_eq_true rfl, Nat.le_of_ble_eq_true rfl⟩ rfl rfl (Nat.le_of_ble_eq_true rfl) dX5_rests_67) ?_
      refine g_mem (μ' := sR μ 7 (fil (μ.1 7) (fun i => bI (sqP i p)) p)) rfl ?_
      refine g_top (w := .int (nI (fa_cnt (fun i => decide (fil (μ.1 7) (fun i => bI (sqP i p)) p i = nI 1)) p))) rfl ?_
      exact g_ireturn dX5_rests_70 rfl rfl rfl
    · refine g_aload_n 0 _ dX5_rests_33 rfl rfl ?_
      refine gf_X5_10 rfl dX5_rests_34 ?_
      refine g_iconst (nI 0) dX5_rests_37 rfl ?_
      refine g_iload_n 2 _ dX5_rests_38 rfl rfl ?_
      refine g_iload_n 2 _ dX5_rests_39 rfl rfl ?_
      refine g_iload_n 1 _ dX5_rests_40 rfl rfl ?_
      refine g_backi (g_runS (c_isSquare (sR μ 7 (fil (μ.1 7) (fun i => bI (sqP i p)) i)) (x := i) (p := p) (by omega) (by omega) (by omega)) rfl mw_X5_isSquare ms_X5_isSquare ml_X5_149 ⟨rfl, rfl, Nat.le_of_ble_eq_true rfl, Nat.le_of_ble_eq_true rfl⟩ rfl rfl (Nat.le_of_ble_eq_true rfl) dX5_rests_41) ?_
      refine g_top (w := .int (bI (sqP i p))) rfl ?_
      refine g_at 44 rfl ?_
      refine g_if_eqB 51 dX5_rests_44 (by decide) (fun h44 => ?_) (fun h44 => ?_)
      · refine g_iconst (nI 0) dX5_rests_51 rfl ?_
        refine g_backv (g_runVN (c_put (w := 0) _ (nI 0) (by decide) (show i < 60 by omega)) rfl mw_X1_put mi_X1_put mn_X5_83 isO_1 ⟨rfl, rfl, Nat.le_of_ble_eq_true rfl, Nat.le_of_ble_eq_true rfl⟩ rfl rfl (Nat.le_of_ble_eq_true rfl) dX5_rests_52) ?_
        refine g_mem (μ' := sI (sR μ 7 (fil (μ.1 7) (fun i => bI (sqP i p)) i)) 7 i (nI 0)) rfl ?_
        refine g_mem (sR_fil μ 7 i _ (fun i => bI (sqP i p)) (by first | exact (bI_t h44).symm | exact (bI_f h44).symm)) ?_
        refine g_iincN [some (.ref 0), some (.int (nI p)), some (.int (nI (i + 1)))] dX5_rests_55 rfl (Nat.le_of_ble_eq_true rfl) rfl rfl ?_
        refine g_goto 28 dX5_rests_58 (by decide) ?_
        exact ih (i + 1) (by omega) (by omega)
      · refine g_iconst (nI 1) dX5_rests_47 rfl ?_
        refine g_goto 52 dX5_rests_48 (by decide) ?_
        refine g_backv (g_runVN (c_put (w := 0) _ (nI 1) (by decide) (show i < 60 by omega)) rfl mw_X1_put mi_X1_put mn_X5_83 isO_1 ⟨rfl, rfl, Nat.le_of_ble_eq_true rfl, Nat.le_of_ble_eq_true rfl⟩ rfl rfl (Nat.le_of_ble_eq_true rfl) dX5_rests_52) ?_
        refine g_mem (μ' := sI (sR μ 7 (fil (μ.1 7) (fun i => bI (sqP i p)) i)) 7 i (nI 1)) rfl ?_
        refine g_mem (sR_fil μ 7 i _ (fun i => bI (sqP i p)) (by first | exact (bI_t h44).symm | exact (bI_f h44).symm)) ?_
        refine g_iincN [some (.ref 0), some (.int (nI p)), some (.int (nI (i + 1)))] dX5_rests_55 rfl (Nat.le_of_ble_eq_true rfl) rfl rfl ?_
        refine g_goto 28 dX5_rests_58 (by decide) ?_
        exact ih (i + 1) (by omega) (by omega)
theorem c_rests_ok (μ : Mm) {p : Nat} (hp : rstP p) : Ok mX5_rests (rmL 3) [.ref 0, .int (nI p)] μ (some (.int (nI (fa_cnt (fun i => decide (fil ((stM (sI μ 0 5 0) (nI p)).1 7) (fun i => bI (sqP i p)) p i = nI 1)) p))), sR (sI (stM (sI μ 0 5 0) (nI p)) 3 4 0) 7 (fil ((stM (sI μ 0 5 0) (nI p)).1 7) (fun i => bI (sqP i p)) p)) := by
  have h3 := hp.1
  have h60 := hp.2.1
  refine Ok.of (by decide) (Nat.le_of_ble_eq_true rfl) [some (.ref 0), some (.int (nI p)), none] rfl ?_
  refine g_aload_n 0 _ dX5_rests_0 rfl rfl ?_
  refine g_iload_n 1 _ dX5_rests_1 rfl rfl ?_
  refine g_backi (g_runS ((c_isRestPrime μ (p := p) (by omega)).to (by rw [bI_t hp])) rfl mw_X5_isRestPrime ms_X5_isRestPrime ml_X5_146 ⟨rfl, rfl, Nat.le_of_ble_eq_true rfl, Nat.le_of_ble_eq_true rfl⟩ rfl rfl (Nat.le_of_ble_eq_true rfl) dX5_rests_2) ?_
  refine g_top (w := .int 1) rfl ?_
  refine g_if_eq 12 dX5_rests_5 (by decide) (fun h5 => ?_) (fun h5 => ?_)
  · exact absurd h5 (by decide)
  · refine g_iconst (nI 0) dX5_rests_8 rfl ?_
    refine g_goto 13 dX5_rests_9 (by decide) ?_
    refine g_backi (g_runV (c_refuses0 μ) rfl mw_X5_refuses mi_X5_refuses ml_X5_48 isO_0 ⟨rfl, rfl, Nat.le_of_ble_eq_true rfl, Nat.le_of_ble_eq_true rfl⟩ rfl rfl (Nat.le_of_ble_eq_true rfl) dX5_rests_13) ?_
    refine g_mem (μ' := sI μ 0 5 0) rfl ?_
    refine g_top (w := .int (nI 0)) rfl ?_
    refine g_if_eqN 21 (by omega) dX5_rests_16 (by decide) (fun h16 => ?_) (fun h16 => ?_)
    · refine g_aload_n 0 _ dX5_rests_21 rfl rfl ?_
      refine g_iload_n 1 _ dX5_rests_22 rfl rfl ?_
      refine g_backv (g_runV (c_startRing (sI μ 0 5 0) (nI p)) rfl mw_X5_startRing mi_X5_startRing ml_X5_52 isO_0 ⟨rfl, rfl, Nat.le_of_ble_eq_true rfl, Nat.le_of_ble_eq_true rfl⟩ rfl rfl (Nat.le_of_ble_eq_true rfl) dX5_rests_23) ?_
      refine g_mem (μ' := sI (stM (sI μ 0 5 0) (nI p)) 3 4 0) rfl ?_
      refine g_iconst (nI 0) dX5_rests_26 rfl ?_
      refine g_istore_n [some (.ref 0), some (.int (nI p)), some (.int (nI 0))] dX5_rests_27 rfl (Nat.le_of_ble_eq_true rfl) rfl rfl ?_
      have h := c_rests_l (μ := sI (stM (sI μ 0 5 0) (nI p)) 3 4 0) rfl h3 h60 (p + 1) 0 (by omega) (by omega); rw [fil_0, sR_id] at h; exact h
    · exact absurd h16 (by omega)
theorem c_twins_no (μ : Mm) (a : Int32) (h : Ok mX5_isTwinPrime (rmL 1) [.int a] μ (some (.int (nI 0)), μ)) : Ok mX5_twins (rmL 3) [.ref 0, .int a] μ (some (.int (-1)), sI μ 0 5 (nI 1)) := by
  refine Ok.of (by decide) (Nat.le_of_ble_eq_true rfl) [some (.ref 0), some (.int a), none, none, none] rfl ?_
  refine g_aload_n 0 _ dX5_twins_0 rfl rfl ?_
  refine g_iload_n 1 _ dX5_twins_1 rfl rfl ?_
  refine g_backi (g_runS (h) rfl mw_X5_isTwinPrime ms_X5_isTwinPrime ml_X5_152 ⟨rfl, rfl, Nat.le_of_ble_eq_true rfl, Nat.le_of_ble_eq_true rfl⟩ rfl rfl (Nat.le_of_ble_eq_true rfl) dX5_twins_2) ?_
  refine g_top (w := .int (nI 0)) rfl ?_
  refine g_if_eqN 12 (by omega) dX5_twins_5 (by decide) (fun h5 => ?_) (fun h5 => ?_)
  · refine g_iconst (nI 1) dX5_twins_12 rfl ?_
    refine g_backi (g_runV (c_refuses1 μ (f := nI 1) (by decide)) rfl mw_X5_refuses mi_X5_refuses ml_X5_48 isO_0 ⟨rfl, rfl, Nat.le_of_ble_eq_true rfl, Nat.le_of_ble_eq_true rfl⟩ rfl rfl (Nat.le_of_ble_eq_true rfl) dX5_twins_13) ?_
    refine g_mem (μ' := sI μ 0 5 (nI 1)) rfl ?_
    refine g_top (w := .int (nI 1)) rfl ?_
    refine g_if_eqN 21 (by omega) dX5_twins_16 (by decide) (fun h16 => ?_) (fun h16 => ?_)
    · exact absurd h16 (by omega)
    · refine g_iconst (-1) dX5_twins_19 rfl ?_
      exact g_ireturn dX5_twins_20 rfl rfl rfl
  · exact absurd h5 (by omega)
theorem bI_inj {a b : Prop} [Decidable a] [Decidable b] : bI a = bI b ↔ (a ↔ b) := by
  by_cases ha : a <;> by_cases hb : b <;> simp [bI, ha, hb]
abbrev twR (p i : Nat) : Prop := i % (p + 2) = 0 ∨ (i % p ≠ 0 ∧ (sqP i p ↔ sqP i (p + 2)))
theorem c_twins_l {μ : Mm} {p n : Nat} (hn : μ.1 1 2 = nI n) (hpn : p * (p + 2) = n) (h3 : 2 ≤ p) (h5 : p ≤ 58) (h60 : n ≤ 60) : ∀ (m i : Nat) (z : Option Value), i ≤ n → n < i + m → (z = none ∨ ∃ v, z = some (.int v)) → G mX5_twins (rmL 3) (some (.int (nI (fa_cnt (fun i => decide (fil (μ.1 7) (fun i => bI (twR p i)) n i = nI 1)) n))), sR μ 7 (fil (μ.1 7) (fun i => bI (twR p i)) n)) (sR μ 7 (fil (μ.1 7) (fun i => bI (twR p i)) i)) 34 [some (.ref 0), some (.int (nI p)), some (.int (nI (p + 2))), some (.int (nI i)), z] [] := by
  intro m
  induction m with
  | zero => exact fun i z h1 h2 => absurd h2 (by omega)
  | succ m ih =>
    intro i z h1 h2 hz
    have e1 : i % p < p := Nat.mod_lt _ (by omega)
    have e2 : i % (p + 2) < p + 2 := Nat.mod_lt _ (by omega)
    refine g_iload_n 3 _ dX5_twins_34 rfl rfl ?_
    refine g_iload_n 1 _ dX5_twins_35 rfl rfl ?_
    refine g_iload_n 2 _ dX5_twins_36 rfl rfl ?_
    refine g_imulN dX5_twins_37 ?_
    refine g_top (w := .int (nI n)) (by rw [hpn]) ?_
    refine g_icmp_geN 98 (by omega) (by omega) dX5_twins_38 (by decide) (fun h38 => ?_) (fun h38 => ?_)
    · refine g_aload_n 0 _ dX5_twins_98 rfl rfl ?_
      refine gf_X5_10 rfl dX5_twins_99 ?_
      refine g_iconst (nI 0) dX5_twins_102 rfl ?_
      refine g_iconst (nI 1) dX5_twins_103 rfl ?_
      refine g_backi (g_runVN ((c_tally (w := 0) (n := n) (sR μ 7 (fil (μ.1 7) (fun i => bI (twR p i)) i)) (nI 1) hn h60 (by decide)).to (by rw [show i = n by omega])) rfl mw_X1_tally mi_X1_tally mn_X5_116 isO_1 ⟨rfl, rfl, Nat.le_of_ble_eq_true rfl, Nat.le_of_ble_eq_true rfl⟩ rfl rfl (Nat.le_of_ble_eq_true rfl) dX5_twins_104) ?_
      exact g_ireturn dX5_twins_107 rfl rfl rfl
    · have J : ∀ (c : Prop) (hc : Decidable c), (c ↔ (i % p ≠ 0 ∧ (sqP i p ↔ sqP i (p + 2)))) → G mX5_twins (rmL 3) (some (.int (nI (fa_cnt (fun i => decide (fil (μ.1 7) (fun i => bI (twR p i)) n i = nI 1)) n))), sR μ 7 (fil (μ.1 7) (fun i => bI (twR p i)) n)) (sR μ 7 (fil (μ.1 7) (fun i => bI (twR p i)) i)) 67 [some (.ref 0), some (.int (nI p)), some (.int (nI (p + 2))), some (.int (nI i)), some (.int (bI c))] [] := by
        intro c hc hcc
        refine g_aload_n 0 _ dX5_twins_67 rfl rfl ?_
        refine gf_X5_10 rfl dX5_twins_68 ?_
        refine g_iconst (nI 0) dX5_twins_71 rfl ?_
        refine g_iload_n 3 _ dX5_twins_72 rfl rfl ?_
        refine g_iload_n 3 _ dX5_twins_73 rfl rfl ?_
        refine g_iload_n 2 _ dX5_twins_74 rfl rfl ?_
        refine g_iremN (by omega) (by omega) (by omega) dX5_twins_75 ?_
        refine g_at 76 rfl ?_
        refine g_if_eqN 84 (by omega) dX5_twins_76 (by decide) (fun h76 => ?_) (fun h76 => ?_)
        · refine g_iconst (nI 1) dX5_twins_84 rfl ?_
          refine g_goto 89 dX5_twins_85 (by decide) ?_
          refine g_backv (g_runVN (c_put (w := 0) _ (nI 1) (by decide) (show i < 60 by omega)) rfl mw_X1_put mi_X1_put mn_X5_83 isO_1 ⟨rfl, rfl, Nat.le_of_ble_eq_true rfl, Nat.le_of_ble_eq_true rfl⟩ rfl rfl (Nat.le_of_ble_eq_true rfl) dX5_twins_89) ?_
          refine g_mem (μ' := sI (sR μ 7 (fil (μ.1 7) (fun i => bI (twR p i)) i)) 7 i (nI 1)) rfl ?_
          refine g_mem (sR_fil μ 7 i _ (fun i => bI (twR p i)) (by first | exact (bI_t (Or.inl h76)).symm | exact (bI_t (Or.inr (hcc.mp h81))).symm | exact (bI_f (fun q => q.elim (fun q => by omega) (fun q => h81 (hcc.mpr q)))).symm)) ?_
          refine g_iincN [some (.ref 0), some (.int (nI p)), some (.int (nI (p + 2))), some (.int (nI (i + 1))), some (.int (bI c))] dX5_twins_92 rfl (Nat.le_of_ble_eq_true rfl) rfl rfl ?_
          refine g_goto 34 dX5_twins_95 (by decide) ?_
          exact ih (i + 1) _ (by omega) (by omega) (Or.inr ⟨_, rfl⟩)
        · refine g_iload _ dX5_twins_79 rfl ?_
          refine g_if_eqB 88 dX5_twins_81 (by decide) (fun h81 => ?_) (fun h81 => ?_)
          · refine g_iconst (nI 0) dX5_twins_88 rfl ?_
            refine g_backv (g_runVN (c_put (w := 0) _ (nI 0) (by decide) (show i < 60 by omega)) rfl mw_X1_put mi_X1_put mn_X5_83 isO_1 ⟨rfl, rfl, Nat.le_of_ble_eq_true rfl, Nat.le_of_ble_eq_true rfl⟩ rfl rfl (Nat.le_of_ble_eq_true rfl) dX5_twins_89) ?_
            refine g_mem (μ' := sI (sR μ 7 (fil (μ.1 7) (fun i => bI (twR p i)) i)) 7 i (nI 0)) rfl ?_
            refine g_mem (sR_fil μ 7 i _ (fun i => bI (twR p i)) (by first | exact (bI_t (Or.inl h76)).symm | exact (bI_t (Or.inr (hcc.mp h81))).symm | exact (bI_f (fun q => q.elim (fun q => by omega) (fun q => h81 (hcc.mpr q)))).symm)) ?_
            refine g_iincN [some (.ref 0), some (.int (nI p)), some (.int (nI (p + 2))), some (.int (nI (i + 1))), some (.int (bI c))] dX5_twins_92 rfl (Nat.le_of_ble_eq_true rfl) rfl rfl ?_
            refine g_goto 34 dX5_twins_95 (by decide) ?_
            exact ih (i + 1) _ (by omega) (by omega) (Or.inr ⟨_, rfl⟩)
          · refine g_iconst (nI 1) dX5_twins_84 rfl ?_
            refine g_goto 89 dX5_twins_85 (by decide) ?_
            refine g_backv (g_runVN (c_put (w := 0) _ (nI 1) (by decide) (show i < 60 by omega)) rfl mw_X1_put mi_X1_put mn_X5_83 isO_1 ⟨rfl, rfl, Nat.le_of_ble_eq_true rfl, Nat.le_of_ble_eq_true rfl⟩ rfl rfl (Nat.le_of_ble_eq_true rfl) dX5_twins_89) ?_
            refine g_mem (μ' := sI (sR μ 7 (fil (μ.1 7) (fun i => bI (twR p i)) i)) 7 i (nI 1)) rfl ?_
            refine g_mem (sR_fil μ 7 i _ (fun i => bI (twR p i)) (by first | exact (bI_t (Or.inl h76)).symm | exact (bI_t (Or.inr (hcc.mp h81))).symm | exact (bI_f (fun q => q.elim (fun q => by omega) (fun q => h81 (hcc.mpr q)))).symm)) ?_
            refine g_iincN [some (.ref 0), some (.int (nI p)), some (.int (nI (p + 2))), some (.int (nI (i + 1))), some (.int (bI c))] dX5_twins_92 rfl (Nat.le_of_ble_eq_true rfl) rfl rfl ?_
            refine g_goto 34 dX5_twins_95 (by decide) ?_
            exact ih (i + 1) _ (by omega) (by omega) (Or.inr ⟨_, rfl⟩)
      rcases hz with rfl | ⟨v, rfl⟩
      · refine g_iload_n 3 _ dX5_twins_41 rfl rfl ?_
        refine g_iload_n 1 _ dX5_twins_42 rfl rfl ?_
        refine g_iremN (by omega) (by omega) (by omega) dX5_twins_43 ?_
        refine g_if_eqN 64 (by omega) dX5_twins_44 (by decide) (fun h44 => ?_) (fun h44 => ?_)
        · refine g_iconst (nI 0) dX5_twins_64 rfl ?_
          refine g_istore [some (.ref 0), some (.int (nI p)), some (.int (nI (p + 2))), some (.int (nI i)), some (.int (nI 0))] dX5_twins_65 (Nat.le_of_ble_eq_true rfl) rfl rfl ?_
          first | exact J True inferInstance ⟨fun _ => ⟨by omega, bI_inj.mp h57⟩, fun _ => trivial⟩ | exact J False inferInstance ⟨fun q => q.elim, fun q => h57 (bI_inj.mpr q.2)⟩ | exact J False inferInstance ⟨fun q => q.elim, fun q => q.1 h44⟩
        · refine g_iload_n 3 _ dX5_twins_47 rfl rfl ?_
          refine g_iload_n 1 _ dX5_twins_48 rfl rfl ?_
          refine g_backi (g_runS (c_isSquare (sR μ 7 (fil (μ.1 7) (fun i => bI (twR p i)) i)) (x := i) (p := p) (by omega) (by omega) (by omega)) rfl mw_X5_isSquare ms_X5_isSquare ml_X5_149 ⟨rfl, rfl, Nat.le_of_ble_eq_true rfl, Nat.le_of_ble_eq_true rfl⟩ rfl rfl (Nat.le_of_ble_eq_true rfl) dX5_twins_49) ?_
          refine g_top (w := .int (bI (sqP i p))) rfl ?_
          refine g_iload_n 3 _ dX5_twins_52 rfl rfl ?_
          refine g_iload_n 2 _ dX5_twins_53 rfl rfl ?_
          refine g_backi (g_runS (c_isSquare (sR μ 7 (fil (μ.1 7) (fun i => bI (twR p i)) i)) (x := i) (p := p + 2) (by omega) (by omega) (by omega)) rfl mw_X5_isSquare ms_X5_isSquare ml_X5_149 ⟨rfl, rfl, Nat.le_of_ble_eq_true rfl, Nat.le_of_ble_eq_true rfl⟩ rfl rfl (Nat.le_of_ble_eq_true rfl) dX5_twins_54) ?_
          refine g_top (w := .int (bI (sqP i (p + 2)))) rfl ?_
          refine g_icmp_ne 64 dX5_twins_57 (by decide) (fun h57 => ?_) (fun h57 => ?_)
          · refine g_iconst (nI 0) dX5_twins_64 rfl ?_
            refine g_istore [some (.ref 0), some (.int (nI p)), some (.int (nI (p + 2))), some (.int (nI i)), some (.int (nI 0))] dX5_twins_65 (Nat.le_of_ble_eq_true rfl) rfl rfl ?_
            first | exact J True inferInstance ⟨fun _ => ⟨by omega, bI_inj.mp h57⟩, fun _ => trivial⟩ | exact J False inferInstance ⟨fun q => q.elim, fun q => h57 (bI_inj.mpr q.2)⟩ | exact J False inferInstance ⟨fun q => q.elim, fun q => q.1 h44⟩
          · refine g_iconst (nI 1) dX5_twins_60 rfl ?_
            refine g_goto 65 dX5_twins_61 (by decide) ?_
            refine g_istore [some (.ref 0), some (.int (nI p)), some (.int (nI (p + 2))), some (.int (nI i)), some (.int (nI 1))] dX5_twins_65 (Nat.le_of_ble_eq_true rfl) rfl rfl ?_
            first | exact J True inferInstance ⟨fun _ => ⟨by omega, bI_inj.mp h57⟩, fun _ => trivial⟩ | exact J False inferInstance ⟨fun q => q.elim, fun q => h57 (bI_inj.mpr q.2)⟩ | exact J False inferInstance ⟨fun q => q.elim, fun q => q.1 h44⟩
      · refine g_iload_n 3 _ dX5_twins_41 rfl rfl ?_
        refine g_iload_n 1 _ dX5_twins_42 rfl rfl ?_
        refine g_iremN (by omega) (by omega) (by omega) dX5_twins_43 ?_
        refine g_if_eqN 64 (by omega) dX5_twins_44 (by decide) (fun h44 => ?_) (fun h44 => ?_)
        · refine g_iconst (nI 0) dX5_twins_64 rfl ?_
          refine g_istore [some (.ref 0), some (.int (nI p)), some (.int (nI (p + 2))), some (.int (nI i)), some (.int (nI 0))] dX5_twins_65 (Nat.le_of_ble_eq_true rfl) rfl rfl ?_
          first | exact J True inferInstance ⟨fun _ => ⟨by omega, bI_inj.mp h57⟩, fun _ => trivial⟩ | exact J False inferInstance ⟨fun q => q.elim, fun q => h57 (bI_inj.mpr q.2)⟩ | exact J False inferInstance ⟨fun q => q.elim, fun q => q.1 h44⟩
        · refine g_iload_n 3 _ dX5_twins_47 rfl rfl ?_
          refine g_iload_n 1 _ dX5_twins_48 rfl rfl ?_
          refine g_backi (g_runS (c_isSquare (sR μ 7 (fil (μ.1 7) (fun i => bI (twR p i)) i)) (x := i) (p := p) (by omega) (by omega) (by omega)) rfl mw_X5_isSquare ms_X5_isSquare ml_X5_149 ⟨rfl, rfl, Nat.le_of_ble_eq_true rfl, Nat.le_of_ble_eq_true rfl⟩ rfl rfl (Nat.le_of_ble_eq_true rfl) dX5_twins_49) ?_
          refine g_top (w := .int (bI (sqP i p))) rfl ?_
          refine g_iload_n 3 _ dX5_twins_52 rfl rfl ?_
          refine g_iload_n 2 _ dX5_twins_53 rfl rfl ?_
          refine g_backi (g_runS (c_isSquare (sR μ 7 (fil (μ.1 7) (fun i => bI (twR p i)) i)) (x := i) (p := p + 2) (by omega) (by omega) (by omega)) rfl mw_X5_isSquare ms_X5_isSquare ml_X5_149 ⟨rfl, rfl, Nat.le_of_ble_eq_true rfl, Nat.le_of_ble_eq_true rfl⟩ rfl rfl (Nat.le_of_ble_eq_true rfl) dX5_twins_54) ?_
          refine g_top (w := .int (bI (sqP i (p + 2)))) rfl ?_
          refine g_icmp_ne 64 dX5_twins_57 (by decide) (fun h57 => ?_) (fun h57 => ?_)
          · refine g_iconst (nI 0) dX5_twins_64 rfl ?_
            refine g_istore [some (.ref 0), some (.int (nI p)), some (.int (nI (p + 2))), some (.int (nI i)), some (.int (nI 0))] dX5_twins_65 (Nat.le_of_ble_eq_true rfl) rfl rfl ?_
            first | exact J True inferInstance ⟨fun _ => ⟨by omega, bI_inj.mp h57⟩, fun _ => trivial⟩ | exact J False inferInstance ⟨fun q => q.elim, fun q => h57 (bI_inj.mpr q.2)⟩ | exact J False inferInstance ⟨fun q => q.elim, fun q => q.1 h44⟩
          · refine g_iconst (nI 1) dX5_twins_60 rfl ?_
            refine g_goto 65 dX5_twins_61 (by decide) ?_
            refine g_istore [some (.ref 0), some (.int (nI p)), some (.int (nI (p + 2))), some (.int (nI i)), some (.int (nI 1))] dX5_twins_65 (Nat.le_of_ble_eq_true rfl) rfl rfl ?_
            first | exact J True inferInstance ⟨fun _ => ⟨by omega, bI_inj.mp h57⟩, fun _ => trivial⟩ | exact J False inferInstance ⟨fun q => q.elim, fun q => h57 (bI_inj.mpr q.2)⟩ | exact J False inferInstance ⟨fun q => q.elim, fun q => q.1 h44⟩
theorem c_twins_ok (μ : Mm) {p n : Nat} (hp : twP p) (hpn : p * (p + 2) = n) : Ok mX5_twins (rmL 3) [.ref 0, .int (nI p)] μ (some (.int (nI (fa_cnt (fun i => decide (fil ((stM (sI μ 0 5 0) (nI n)).1 7) (fun i => bI (twR p i)) n i = nI 1)) n))), sR (sI (stM (sI μ 0 5 0) (nI n)) 3 4 0) 7 (fil ((stM (sI μ 0 5 0) (nI n)).1 7) (fun i => bI (twR p i)) n)) := by
  have h2 := hp.1
  have h60 := hp.2.1
  have hn60 := hp.2.2.1
  have h58 : p ≤ 58 := by
    have := Nat.mul_le_mul h2 (Nat.le_refl (p + 2))
    omega
  refine Ok.of (by decide) (Nat.le_of_ble_eq_true rfl) [some (.ref 0), some (.int (nI p)), none, none, none] rfl ?_
  refine g_aload_n 0 _ dX5_twins_0 rfl rfl ?_
  refine g_iload_n 1 _ dX5_twins_1 rfl rfl ?_
  refine g_backi (g_runS ((c_isTwinPrime μ (p := p) (by omega)).to (by rw [bI_t hp])) rfl mw_X5_isTwinPrime ms_X5_isTwinPrime ml_X5_152 ⟨rfl, rfl, Nat.le_of_ble_eq_true rfl, Nat.le_of_ble_eq_true rfl⟩ rfl rfl (Nat.le_of_ble_eq_true rfl) dX5_twins_2) ?_
  refine g_top (w := .int 1) rfl ?_
  refine g_if_eq 12 dX5_twins_5 (by decide) (fun h5 => ?_) (fun h5 => ?_)
  · exact absurd h5 (by decide)
  · refine g_iconst (nI 0) dX5_twins_8 rfl ?_
    refine g_goto 13 dX5_twins_9 (by decide) ?_
    refine g_backi (g_runV (c_refuses0 μ) rfl mw_X5_refuses mi_X5_refuses ml_X5_48 isO_0 ⟨rfl, rfl, Nat.le_of_ble_eq_true rfl, Nat.le_of_ble_eq_true rfl⟩ rfl rfl (Nat.le_of_ble_eq_true rfl) dX5_twins_13) ?_
    refine g_mem (μ' := sI μ 0 5 0) rfl ?_
    refine g_top (w := .int (nI 0)) rfl ?_
    refine g_if_eqN 21 (by omega) dX5_twins_16 (by decide) (fun h16 => ?_) (fun h16 => ?_)
    · refine g_iload_n 1 _ dX5_twins_21 rfl rfl ?_
      refine g_iconst (nI 2) dX5_twins_22 rfl ?_
      refine g_iaddN dX5_twins_23 ?_
      refine g_istore_n [some (.ref 0), some (.int (nI p)), some (.int (nI (p + 2))), none, none] dX5_twins_24 rfl (Nat.le_of_ble_eq_true rfl) rfl rfl ?_
      refine g_aload_n 0 _ dX5_twins_25 rfl rfl ?_
      refine g_iload_n 1 _ dX5_twins_26 rfl rfl ?_
      refine g_iload_n 2 _ dX5_twins_27 rfl rfl ?_
      refine g_at 28 rfl ?_
      refine g_imulN dX5_twins_28 ?_
      refine g_backv (g_runV ((c_startRing (sI μ 0 5 0) (nI (p * (p + 2)))).to (by rw [hpn])) rfl mw_X5_startRing mi_X5_startRing ml_X5_52 isO_0 ⟨rfl, rfl, Nat.le_of_ble_eq_true rfl, Nat.le_of_ble_eq_true rfl⟩ rfl rfl (Nat.le_of_ble_eq_true rfl) dX5_twins_29) ?_
      refine g_mem (μ' := sI (stM (sI μ 0 5 0) (nI n)) 3 4 0) rfl ?_
      refine g_iconst (nI 0) dX5_twins_32 rfl ?_
      refine g_istore_n [some (.ref 0), some (.int (nI p)), some (.int (nI (p + 2))), some (.int (nI 0)), none] dX5_twins_33 rfl (Nat.le_of_ble_eq_true rfl) rfl rfl ?_
      have h := c_twins_l (μ := sI (stM (sI μ 0 5 0) (nI n)) 3 4 0) rfl hpn h2 h58 (by omega) (n + 1) 0 none (by omega) (by omega) (Or.inl rfl); rw [fil_0, sR_id] at h; exact h
    · exact absurd h16 (by omega)
theorem c_shift_no (μ : Mm) (a : Int32) (h : a.toInt < 2 ∨ 5 < a.toInt) : Ok mX5_shift (rmL 4) [.ref 0, .int a] μ (some (.int (-1)), sI μ 0 5 (nI 1)) := by
  refine Ok.of (by decide) (Nat.le_of_ble_eq_true rfl) [some (.ref 0), some (.int a), none, none, none, none] rfl ?_
  refine g_aload_n 0 _ dX5_shift_0 rfl rfl ?_
  refine g_iload_n 1 _ dX5_shift_1 rfl rfl ?_
  refine g_iconst (nI 2) dX5_shift_2 rfl ?_
  refine g_icmp_lt 11 dX5_shift_3 (by decide) (fun h3 => ?_) (fun h3 => ?_)
  · refine g_iconst (nI 1) dX5_shift_11 rfl ?_
    refine g_goto 16 dX5_shift_12 (by decide) ?_
    refine g_backi (g_runV (c_refuses1 μ (f := nI 1) (by decide)) rfl mw_X5_refuses mi_X5_refuses ml_X5_48 isO_0 ⟨rfl, rfl, Nat.le_of_ble_eq_true rfl, Nat.le_of_ble_eq_true rfl⟩ rfl rfl (Nat.le_of_ble_eq_true rfl) dX5_shift_16) ?_
    refine g_mem (μ' := sI μ 0 5 (nI 1)) rfl ?_
    refine g_top (w := .int (nI 1)) rfl ?_
    refine g_if_eqN 24 (by omega) dX5_shift_19 (by decide) (fun h19 => ?_) (fun h19 => ?_)
    · exact absurd h19 (by omega)
    · refine g_iconst (-1) dX5_shift_22 rfl ?_
      exact g_ireturn dX5_shift_23 rfl rfl rfl
  · refine g_iload_n 1 _ dX5_shift_6 rfl rfl ?_
    refine g_iconst (nI 5) dX5_shift_7 rfl ?_
    refine g_icmp_le 15 dX5_shift_8 (by decide) (fun h8 => ?_) (fun h8 => ?_)
    · exfalso; simp only [ne_eq, fa_lt, fa_le, fa_eq, t0, t1, t2, tm1, nt0, nt1, nt2, nt3, nt4, nt5, nt7, nt9, nt10, nt13, nt14, nt30, nt32, nt59, nt60, nt200, nt1000, nt1000000, nt1073741824] at *; omega
    · refine g_iconst (nI 1) dX5_shift_11 rfl ?_
      refine g_goto 16 dX5_shift_12 (by decide) ?_
      refine g_backi (g_runV (c_refuses1 μ (f := nI 1) (by decide)) rfl mw_X5_refuses mi_X5_refuses ml_X5_48 isO_0 ⟨rfl, rfl, Nat.le_of_ble_eq_true rfl, Nat.le_of_ble_eq_true rfl⟩ rfl rfl (Nat.le_of_ble_eq_true rfl) dX5_shift_16) ?_
      refine g_mem (μ' := sI μ 0 5 (nI 1)) rfl ?_
      refine g_top (w := .int (nI 1)) rfl ?_
      refine g_if_eqN 24 (by omega) dX5_shift_19 (by decide) (fun h19 => ?_) (fun h19 => ?_)
      · exact absurd h19 (by omega)
      · refine g_iconst (-1) dX5_shift_22 rfl ?_
        exact g_ireturn dX5_shift_23 rfl rfl rfl
def shS (t r : Int32) : Nat → Int32
  | 0 => nI 1 <<< ((r - nI 1) &&& 31)
  | i + 1 => nsF (shS t r i) t r
theorem c_shift_l {μ : Mm} {n : Nat} {r t : Int32} (hn : μ.1 1 2 = nI n) (h60 : n ≤ 60) : ∀ (m i : Nat), i ≤ n → n < i + m → G mX5_shift (rmL 4) (some (.int t), sR μ 7 (fil (μ.1 7) (fun i => shS t r i &&& nI 1) n)) (sR μ 7 (fil (μ.1 7) (fun i => shS t r i &&& nI 1) i)) 51 [some (.ref 0), some (.int r), some (.int (nI n)), some (.int t), some (.int (shS t r i)), some (.int (nI i))] [] := by
  intro m
  induction m with
  | zero => exact fun i h1 h2 => absurd h2 (by omega)
  | succ m ih =>
    intro i h1 h2
    refine g_iload _ dX5_shift_51 rfl ?_
    refine g_iload_n 2 _ dX5_shift_53 rfl rfl ?_
    refine g_icmp_geN 86 (by omega) (by omega) dX5_shift_54 (by decide) (fun h54 => ?_) (fun h54 => ?_)
    · refine g_iload_n 3 _ dX5_shift_86 rfl rfl ?_
      exact g_ireturn dX5_shift_87 rfl rfl (by rw [show i = n by omega])
    · refine g_aload_n 0 _ dX5_shift_57 rfl rfl ?_
      refine gf_X5_10 rfl dX5_shift_58 ?_
      refine g_iconst (nI 0) dX5_shift_61 rfl ?_
      refine g_iload _ dX5_shift_62 rfl ?_
      refine g_iload _ dX5_shift_64 rfl ?_
      refine g_iconst (nI 1) dX5_shift_66 rfl ?_
      refine g_iand dX5_shift_67 ?_
      refine g_at 68 rfl ?_
      refine g_backv (g_runVN (c_put (w := 0) _ ((shS t r i) &&& (nI 1)) (by decide) (show i < 60 by omega)) rfl mw_X1_put mi_X1_put mn_X5_83 isO_1 ⟨rfl, rfl, Nat.le_of_ble_eq_true rfl, Nat.le_of_ble_eq_true rfl⟩ rfl rfl (Nat.le_of_ble_eq_true rfl) dX5_shift_68) ?_
      refine g_mem (μ' := sI (sR μ 7 (fil (μ.1 7) (fun i => shS t r i &&& nI 1) i)) 7 i ((shS t r i) &&& (nI 1))) rfl ?_
      refine g_mem (sR_fil μ 7 i _ (fun i => shS t r i &&& nI 1) rfl) ?_
      refine g_iload _ dX5_shift_71 rfl ?_
      refine g_iload_n 3 _ dX5_shift_73 rfl rfl ?_
      refine g_iload_n 1 _ dX5_shift_74 rfl rfl ?_
      refine g_backi (g_runS (c_nextState _ (shS t r i) t r) rfl mw_X5_nextState ms_X5_nextState ml_X5_158 ⟨rfl, rfl, Nat.le_of_ble_eq_true rfl, Nat.le_of_ble_eq_true rfl⟩ rfl rfl (Nat.le_of_ble_eq_true rfl) dX5_shift_75) ?_
      refine g_top (w := .int (nsF (shS t r i) t r)) rfl ?_
      refine g_istore [some (.ref 0), some (.int r), some (.int (nI n)), some (.int t), some (.int (nsF (shS t r i) t r)), some (.int (nI i))] dX5_shift_78 (Nat.le_of_ble_eq_true rfl) rfl rfl ?_
      refine g_iincN [some (.ref 0), some (.int r), some (.int (nI n)), some (.int t), some (.int (nsF (shS t r i) t r)), some (.int (nI (i + 1)))] dX5_shift_80 rfl (Nat.le_of_ble_eq_true rfl) rfl rfl ?_
      refine g_goto 51 dX5_shift_83 (by decide) ?_
      exact ih (i + 1) (by omega) (by omega)
theorem c_shift_m (μ : Mm) {r n : Nat} {t : Int32} (h40 : n ≤ 40) (ht : ltF (nI r) n 21 1 = t) : G mX5_shift (rmL 4) (some (.int t), sR (sI (stM (sI μ 0 5 0) (nI n)) 3 4 0) 7 (fil ((stM (sI μ 0 5 0) (nI n)).1 7) (fun i => shS t (nI r) i &&& nI 1) n)) (sI μ 0 5 0) 29 [some (.ref 0), some (.int (nI r)), none, none, none, none] [.int (nI n)] := by
  refine g_istore_n [some (.ref 0), some (.int (nI r)), some (.int (nI n)), none, none, none] dX5_shift_29 rfl (Nat.le_of_ble_eq_true rfl) rfl rfl ?_
  refine g_iload_n 1 _ dX5_shift_30 rfl rfl ?_
  refine g_iload_n 2 _ dX5_shift_31 rfl rfl ?_
  refine g_backi (g_runS ((c_leastTaps (sI μ 0 5 0) (nI r) h40).to (by rw [ht])) rfl mw_X5_leastTaps ms_X5_leastTaps ml_X5_155 ⟨rfl, rfl, Nat.le_of_ble_eq_true rfl, Nat.le_of_ble_eq_true rfl⟩ rfl rfl (Nat.le_of_ble_eq_true rfl) dX5_shift_32) ?_
  refine g_top (w := .int t) rfl ?_
  refine g_istore_n [some (.ref 0), some (.int (nI r)), some (.int (nI n)), some (.int t), none, none] dX5_shift_35 rfl (Nat.le_of_ble_eq_true rfl) rfl rfl ?_
  refine g_aload_n 0 _ dX5_shift_36 rfl rfl ?_
  refine g_iload_n 2 _ dX5_shift_37 rfl rfl ?_
  refine g_at 38 rfl ?_
  refine g_backv (g_runV (c_startRing (sI μ 0 5 0) (nI n)) rfl mw_X5_startRing mi_X5_startRing ml_X5_52 isO_0 ⟨rfl, rfl, Nat.le_of_ble_eq_true rfl, Nat.le_of_ble_eq_true rfl⟩ rfl rfl (Nat.le_of_ble_eq_true rfl) dX5_shift_38) ?_
  refine g_mem (μ' := sI (stM (sI μ 0 5 0) (nI n)) 3 4 0) rfl ?_
  refine g_iconst (nI 1) dX5_shift_41 rfl ?_
  refine g_iload_n 1 _ dX5_shift_42 rfl rfl ?_
  refine g_iconst (nI 1) dX5_shift_43 rfl ?_
  refine g_isub dX5_shift_44 ?_
  refine g_ishl dX5_shift_45 ?_
  refine g_istore [some (.ref 0), some (.int (nI r)), some (.int (nI n)), some (.int t), some (.int ((nI 1) <<< (((nI r) - (nI 1)) &&& 31))), none] dX5_shift_46 (Nat.le_of_ble_eq_true rfl) rfl rfl ?_
  refine g_iconst (nI 0) dX5_shift_48 rfl ?_
  refine g_at 49 rfl ?_
  refine g_istore [some (.ref 0), some (.int (nI r)), some (.int (nI n)), some (.int t), some (.int ((nI 1) <<< (((nI r) - (nI 1)) &&& 31))), some (.int (nI 0))] dX5_shift_49 (Nat.le_of_ble_eq_true rfl) rfl rfl ?_
  have h := c_shift_l (μ := sI (stM (sI μ 0 5 0) (nI n)) 3 4 0) (r := nI r) (t := t) rfl (show n ≤ 60 by omega) (n + 1) 0 (by omega) (by omega); rw [fil_0, sR_id] at h; exact h
theorem c_shift_ok (μ : Mm) {r n : Nat} {t : Int32} (h2 : 2 ≤ r) (h5 : r ≤ 5) (hn : (nI 1 <<< (nI r &&& 31)) - nI 1 = nI n) (h40 : n ≤ 40) (ht : ltF (nI r) n 21 1 = t) : Ok mX5_shift (rmL 4) [.ref 0, .int (nI r)] μ (some (.int t), sR (sI (stM (sI μ 0 5 0) (nI n)) 3 4 0) 7 (fil ((stM (sI μ 0 5 0) (nI n)).1 7) (fun i => shS t (nI r) i &&& nI 1) n)) := by
  refine Ok.of (by decide) (Nat.le_of_ble_eq_true rfl) [some (.ref 0), some (.int (nI r)), none, none, none, none] rfl ?_
  refine g_aload_n 0 _ dX5_shift_0 rfl rfl ?_
  refine g_iload_n 1 _ dX5_shift_1 rfl rfl ?_
  refine g_iconst (nI 2) dX5_shift_2 rfl ?_
  refine g_icmp_ltN 11 (by omega) (by omega) dX5_shift_3 (by decide) (fun h3 => ?_) (fun h3 => ?_)
  · exact absurd h3 (by omega)
  · refine g_iload_n 1 _ dX5_shift_6 rfl rfl ?_
    refine g_iconst (nI 5) dX5_shift_7 rfl ?_
    refine g_icmp_leN 15 (by omega) (by omega) dX5_shift_8 (by decide) (fun h8 => ?_) (fun h8 => ?_)
    · refine g_iconst (nI 0) dX5_shift_15 rfl ?_
      refine g_backi (g_runV (c_refuses0 μ) rfl mw_X5_refuses mi_X5_refuses ml_X5_48 isO_0 ⟨rfl, rfl, Nat.le_of_ble_eq_true rfl, Nat.le_of_ble_eq_true rfl⟩ rfl rfl (Nat.le_of_ble_eq_true rfl) dX5_shift_16) ?_
      refine g_mem (μ' := sI μ 0 5 0) rfl ?_
      refine g_top (w := .int (nI 0)) rfl ?_
      refine g_if_eqN 24 (by omega) dX5_shift_19 (by decide) (fun h19 => ?_) (fun h19 => ?_)
      · refine g_iconst (nI 1) dX5_shift_24 rfl ?_
        refine g_iload_n 1 _ dX5_shift_25 rfl rfl ?_
        refine g_ishl dX5_shift_26 ?_
        refine g_iconst (nI 1) dX5_shift_27 rfl ?_
        refine g_isub dX5_shift_28 ?_
        exact g_top (congrArg Value.int hn) (c_shift_m μ h40 ht)
      · exact absurd h19 (by omega)
    · exact absurd h8 (by omega)
