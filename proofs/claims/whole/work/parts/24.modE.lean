/-! HoleMaskModel: tables -/
theorem d_isRow (μ : Mm) (i : Int32) : Ok mX6_isRow (rmL 0) [.ref 33, .int i] μ (some (.int (bI (¬ i < 0 ∧ i < μ.1 33 10))), μ) := by
  refine Ok.of (by decide) (Nat.le_of_ble_eq_true rfl) [some (.ref 33), some (.int i)] rfl ?_
  refine g_iload_n 1 _ dX6_isRow_0 rfl rfl ?_
  refine g_if_lt 16 dX6_isRow_1 (by decide) (fun h1 => ?_) (fun h1 => ?_)
  · refine g_iconst (nI 0) dX6_isRow_16 rfl ?_
    exact g_ireturn dX6_isRow_17 rfl rfl (by (try unfold bI); (repeat' split) <;> first | rfl | (exfalso; simp only [ne_eq, fa_lt, fa_le, fa_eq, t0, t1, t2, tm1, nt0, nt1, nt2, nt3, nt4, nt5, nt7, nt9, nt10, nt13, nt14, nt30, nt32, nt59, nt60, nt200, nt1000, nt1000000, nt1073741824] at *; omega))
  · refine g_iload_n 1 _ dX6_isRow_4 rfl rfl ?_
    refine g_aload_n 0 _ dX6_isRow_5 rfl rfl ?_
    refine gf_X6_37 rfl dX6_isRow_6 ?_
    refine g_icmp_ge 16 dX6_isRow_9 (by decide) (fun h9 => ?_) (fun h9 => ?_)
    · refine g_iconst (nI 0) dX6_isRow_16 rfl ?_
      exact g_ireturn dX6_isRow_17 rfl rfl (by (try unfold bI); (repeat' split) <;> first | rfl | (exfalso; simp only [ne_eq, fa_lt, fa_le, fa_eq, t0, t1, t2, tm1, nt0, nt1, nt2, nt3, nt4, nt5, nt7, nt9, nt10, nt13, nt14, nt30, nt32, nt59, nt60, nt200, nt1000, nt1000000, nt1073741824] at *; omega))
    · refine g_iconst (nI 1) dX6_isRow_12 rfl ?_
      refine g_goto 17 dX6_isRow_13 (by decide) ?_
      exact g_ireturn dX6_isRow_17 rfl rfl (by (try unfold bI); (repeat' split) <;> first | rfl | (exfalso; simp only [ne_eq, fa_lt, fa_le, fa_eq, t0, t1, t2, tm1, nt0, nt1, nt2, nt3, nt4, nt5, nt7, nt9, nt10, nt13, nt14, nt30, nt32, nt59, nt60, nt200, nt1000, nt1000000, nt1073741824] at *; omega))
theorem inB_ri {s : Nat} {a : Int32} (h32 : s ≤ 32) : (¬ a < 0 ∧ a < nI s) ↔ inB s a := by
  unfold inB; rw [fa_lt, fa_lt, t0, nI_toInt (by omega)]; omega
theorem d_isRowS (μ : Mm) (i : Int32) {s : Nat} (hs : μ.1 33 10 = nI s) (h32 : s ≤ 32) : Ok mX6_isRow (rmL 0) [.ref 33, .int i] μ (some (.int (bI (inB s i))), μ) :=
  (d_isRow μ i).to (by rw [hs, bI_iff (inB_ri h32)])
theorem d_isRow_none (μ : Mm) (i : Int32) (hs : μ.1 33 10 = -1) : Ok mX6_isRow (rmL 0) [.ref 33, .int i] μ (some (.int (nI 0)), μ) :=
  (d_isRow μ i).to (by rw [hs, bI_f (fun q => by obtain ⟨q1, q2⟩ := q; rw [fa_lt, t0] at q1; rw [fa_lt, tm1] at q2; omega)]; rfl)
theorem d_sign_none (μ : Mm) (a b : Int32) (hs : μ.1 33 10 = -1) : Ok mX6_sign (rmL 1) [.ref 33, .int a, .int b] μ (some (.int (nI 0)), sI μ 33 14 0) := by
  refine Ok.of (by decide) (Nat.le_of_ble_eq_true rfl) [some (.ref 33), some (.int a), some (.int b)] rfl ?_
  refine g_aload_n 0 _ dX6_sign_0 rfl rfl ?_
  refine g_backv (g_runV (d_start μ) rfl mw_X6_start mi_X6_start ml_X6_68 isO_33 ⟨rfl, rfl, Nat.le_of_ble_eq_true rfl, Nat.le_of_ble_eq_true rfl⟩ rfl rfl (Nat.le_of_ble_eq_true rfl) dX6_sign_1) ?_
  refine g_mem (μ' := sI μ 33 14 0) rfl ?_
  refine g_aload_n 0 _ dX6_sign_4 rfl rfl ?_
  refine g_iload_n 1 _ dX6_sign_5 rfl rfl ?_
  refine g_backi (g_runV (d_isRow_none (sI μ 33 14 0) a hs) rfl mw_X6_isRow mi_X6_isRow ml_X6_164 isO_33 ⟨rfl, rfl, Nat.le_of_ble_eq_true rfl, Nat.le_of_ble_eq_true rfl⟩ rfl rfl (Nat.le_of_ble_eq_true rfl) dX6_sign_6) ?_
  refine g_top (w := .int (nI 0)) rfl ?_
  refine g_if_eqN 34 (by omega) dX6_sign_9 (by decide) (fun h9 => ?_) (fun h9 => ?_)
  · refine g_iconst (nI 0) dX6_sign_34 rfl ?_
    exact g_ireturn dX6_sign_35 rfl rfl rfl
  · exact absurd h9 (by omega)
theorem d_sign_no (μ : Mm) (a b : Int32) {s : Nat} (hs : μ.1 33 10 = nI s) (h32 : s ≤ 32) (h : ¬ (inB s a ∧ inB s b)) : Ok mX6_sign (rmL 1) [.ref 33, .int a, .int b] μ (some (.int (nI 0)), sI μ 33 14 0) := by
  refine Ok.of (by decide) (Nat.le_of_ble_eq_true rfl) [some (.ref 33), some (.int a), some (.int b)] rfl ?_
  refine g_aload_n 0 _ dX6_sign_0 rfl rfl ?_
  refine g_backv (g_runV (d_start μ) rfl mw_X6_start mi_X6_start ml_X6_68 isO_33 ⟨rfl, rfl, Nat.le_of_ble_eq_true rfl, Nat.le_of_ble_eq_true rfl⟩ rfl rfl (Nat.le_of_ble_eq_true rfl) dX6_sign_1) ?_
  refine g_mem (μ' := sI μ 33 14 0) rfl ?_
  refine g_aload_n 0 _ dX6_sign_4 rfl rfl ?_
  refine g_iload_n 1 _ dX6_sign_5 rfl rfl ?_
  refine g_backi (g_runV (d_isRowS (sI μ 33 14 0) a (s := s) hs h32) rfl mw_X6_isRow mi_X6_isRow ml_X6_164 isO_33 ⟨rfl, rfl, Nat.le_of_ble_eq_true rfl, Nat.le_of_ble_eq_true rfl⟩ rfl rfl (Nat.le_of_ble_eq_true rfl) dX6_sign_6) ?_
  refine g_top (w := .int (bI (inB s a))) rfl ?_
  refine g_if_eqB 34 dX6_sign_9 (by decide) (fun h9 => ?_) (fun h9 => ?_)
  · refine g_iconst (nI 0) dX6_sign_34 rfl ?_
    exact g_ireturn dX6_sign_35 rfl rfl rfl
  · refine g_aload_n 0 _ dX6_sign_12 rfl rfl ?_
    refine g_iload_n 2 _ dX6_sign_13 rfl rfl ?_
    refine g_backi (g_runV (d_isRowS (sI μ 33 14 0) b (s := s) hs h32) rfl mw_X6_isRow mi_X6_isRow ml_X6_164 isO_33 ⟨rfl, rfl, Nat.le_of_ble_eq_true rfl, Nat.le_of_ble_eq_true rfl⟩ rfl rfl (Nat.le_of_ble_eq_true rfl) dX6_sign_14) ?_
    refine g_top (w := .int (bI (inB s b))) rfl ?_
    refine g_if_eqB 34 dX6_sign_17 (by decide) (fun h17 => ?_) (fun h17 => ?_)
    · refine g_iconst (nI 0) dX6_sign_34 rfl ?_
      exact g_ireturn dX6_sign_35 rfl rfl rfl
    · exact absurd ⟨h9, h17⟩ h
theorem d_sign_ok (μ : Mm) {a b s : Nat} (hs : μ.1 33 10 = nI s) (h32 : s ≤ 32) (ha : a < s) (hb : b < s) : Ok mX6_sign (rmL 1) [.ref 33, .int (nI a), .int (nI b)] μ (some (.int (μ.1 40 (32 * a + b))), sI μ 33 14 0) := by
  refine Ok.of (by decide) (Nat.le_of_ble_eq_true rfl) [some (.ref 33), some (.int (nI a)), some (.int (nI b))] rfl ?_
  refine g_aload_n 0 _ dX6_sign_0 rfl rfl ?_
  refine g_backv (g_runV (d_start μ) rfl mw_X6_start mi_X6_start ml_X6_68 isO_33 ⟨rfl, rfl, Nat.le_of_ble_eq_true rfl, Nat.le_of_ble_eq_true rfl⟩ rfl rfl (Nat.le_of_ble_eq_true rfl) dX6_sign_1) ?_
  refine g_mem (μ' := sI μ 33 14 0) rfl ?_
  refine g_aload_n 0 _ dX6_sign_4 rfl rfl ?_
  refine g_iload_n 1 _ dX6_sign_5 rfl rfl ?_
  refine g_backi (g_runV ((d_isRowS (sI μ 33 14 0) (nI a) (s := s) hs h32).to (by rw [bI_t (inB_nI ha h32)])) rfl mw_X6_isRow mi_X6_isRow ml_X6_164 isO_33 ⟨rfl, rfl, Nat.le_of_ble_eq_true rfl, Nat.le_of_ble_eq_true rfl⟩ rfl rfl (Nat.le_of_ble_eq_true rfl) dX6_sign_6) ?_
  refine g_top (w := .int 1) rfl ?_
  refine g_if_eq 34 dX6_sign_9 (by decide) (fun h9 => ?_) (fun h9 => ?_)
  · exact absurd h9 (by decide)
  · refine g_aload_n 0 _ dX6_sign_12 rfl rfl ?_
    refine g_iload_n 2 _ dX6_sign_13 rfl rfl ?_
    refine g_backi (g_runV ((d_isRowS (sI μ 33 14 0) (nI b) (s := s) hs h32).to (by rw [bI_t (inB_nI hb h32)])) rfl mw_X6_isRow mi_X6_isRow ml_X6_164 isO_33 ⟨rfl, rfl, Nat.le_of_ble_eq_true rfl, Nat.le_of_ble_eq_true rfl⟩ rfl rfl (Nat.le_of_ble_eq_true rfl) dX6_sign_14) ?_
    refine g_top (w := .int 1) rfl ?_
    refine g_if_eq 34 dX6_sign_17 (by decide) (fun h17 => ?_) (fun h17 => ?_)
    · exact absurd h17 (by decide)
    · refine g_aload_n 0 _ dX6_sign_20 rfl rfl ?_
      refine gf_X6_40 rfl dX6_sign_21 ?_
      refine g_bipush (nI 32) dX6_sign_24 rfl ?_
      refine g_iload_n 1 _ dX6_sign_26 rfl rfl ?_
      refine g_imulN dX6_sign_27 ?_
      refine g_iload_n 2 _ dX6_sign_28 rfl rfl ?_
      refine g_iaddN dX6_sign_29 ?_
      refine g_at 30 rfl ?_
      refine g_iaload (j := 32 * a + b) isI_40 (rfl) (by omega) (by omega) dX6_sign_30 ?_
      refine g_goto 35 dX6_sign_31 (by decide) ?_
      exact g_ireturn dX6_sign_35 rfl rfl rfl
theorem d_product_2 (μ : Mm) (a b : Int32) (hs : μ.1 33 10 = -1) : Ok mX6_product (rmL 1) [.ref 33, .int a, .int b] μ (some (.int (nI 0)), sI (sI μ 33 14 0) 33 14 (nI 2)) := by
  refine Ok.of (by decide) (Nat.le_of_ble_eq_true rfl) [some (.ref 33), some (.int a), some (.int b), none, none] rfl ?_
  refine g_aload_n 0 _ dX6_product_0 rfl rfl ?_
  refine g_backv (g_runV (d_start μ) rfl mw_X6_start mi_X6_start ml_X6_68 isO_33 ⟨rfl, rfl, Nat.le_of_ble_eq_true rfl, Nat.le_of_ble_eq_true rfl⟩ rfl rfl (Nat.le_of_ble_eq_true rfl) dX6_product_1) ?_
  refine g_mem (μ' := sI μ 33 14 0) rfl ?_
  refine g_aload_n 0 _ dX6_product_4 rfl rfl ?_
  refine gf_X6_37 rfl dX6_product_5 ?_
  refine g_iconst (-1) dX6_product_8 rfl ?_
  refine g_icmp_eq 28 dX6_product_9 (by decide) (fun h9 => ?_) (fun h9 => ?_)
  · refine g_aload_n 0 _ dX6_product_28 rfl rfl ?_
    refine g_aload_n 0 _ dX6_product_29 rfl rfl ?_
    refine gf_X6_37 rfl dX6_product_30 ?_
    refine g_iconst (-1) dX6_product_33 rfl ?_
    refine g_icmp_ne 41 dX6_product_34 (by decide) (fun h34 => ?_) (fun h34 => ?_)
    · exact absurd hs h34
    · refine g_iconst (nI 2) dX6_product_37 rfl ?_
      refine g_goto 42 dX6_product_38 (by decide) ?_
      refine g_backi (g_runV (d_no (sI μ 33 14 0) (nI 2)) rfl mw_X6_no mi_X6_no ml_X6_79 isO_33 ⟨rfl, rfl, Nat.le_of_ble_eq_true rfl, Nat.le_of_ble_eq_true rfl⟩ rfl rfl (Nat.le_of_ble_eq_true rfl) dX6_product_42) ?_
      refine g_mem (μ' := sI (sI μ 33 14 0) 33 14 (nI 2)) rfl ?_
      refine g_top (w := .int (-1)) rfl ?_
      refine g_pop dX6_product_45 rfl ?_
      refine g_iconst (nI 0) dX6_product_46 rfl ?_
      exact g_ireturn dX6_product_47 rfl rfl rfl
  · exact absurd hs h9
theorem d_product_1 (μ : Mm) (a b : Int32) {s : Nat} (hs : μ.1 33 10 = nI s) (h0 : 0 < s) (h32 : s ≤ 32) (h : ¬ (inB s a ∧ inB s b)) : Ok mX6_product (rmL 1) [.ref 33, .int a, .int b] μ (some (.int (nI 0)), sI (sI μ 33 14 0) 33 14 (nI 1)) := by
  have hne : μ.1 33 10 ≠ -1 := by rw [hs, ne_eq, fa_eq, nI_toInt (by omega), tm1]; omega
  refine Ok.of (by decide) (Nat.le_of_ble_eq_true rfl) [some (.ref 33), some (.int a), some (.int b), none, none] rfl ?_
  refine g_aload_n 0 _ dX6_product_0 rfl rfl ?_
  refine g_backv (g_runV (d_start μ) rfl mw_X6_start mi_X6_start ml_X6_68 isO_33 ⟨rfl, rfl, Nat.le_of_ble_eq_true rfl, Nat.le_of_ble_eq_true rfl⟩ rfl rfl (Nat.le_of_ble_eq_true rfl) dX6_product_1) ?_
  refine g_mem (μ' := sI μ 33 14 0) rfl ?_
  refine g_aload_n 0 _ dX6_product_4 rfl rfl ?_
  refine gf_X6_37 rfl dX6_product_5 ?_
  refine g_iconst (-1) dX6_product_8 rfl ?_
  refine g_icmp_eq 28 dX6_product_9 (by decide) (fun h9 => ?_) (fun h9 => ?_)
  · exact absurd h9 hne
  · refine g_aload_n 0 _ dX6_product_12 rfl rfl ?_
    refine g_iload_n 1 _ dX6_product_13 rfl rfl ?_
    refine g_backi (g_runV (d_isRowS (sI μ 33 14 0) a (s := s) hs h32) rfl mw_X6_isRow mi_X6_isRow ml_X6_164 isO_33 ⟨rfl, rfl, Nat.le_of_ble_eq_true rfl, Nat.le_of_ble_eq_true rfl⟩ rfl rfl (Nat.le_of_ble_eq_true rfl) dX6_product_14) ?_
    refine g_top (w := .int (bI (inB s a))) rfl ?_
    refine g_if_eqB 28 dX6_product_17 (by decide) (fun h17 => ?_) (fun h17 => ?_)
    · refine g_aload_n 0 _ dX6_product_28 rfl rfl ?_
      refine g_aload_n 0 _ dX6_product_29 rfl rfl ?_
      refine gf_X6_37 rfl dX6_product_30 ?_
      refine g_iconst (-1) dX6_product_33 rfl ?_
      refine g_icmp_ne 41 dX6_product_34 (by decide) (fun h34 => ?_) (fun h34 => ?_)
      · refine g_iconst (nI 1) dX6_product_41 rfl ?_
        refine g_backi (g_runV (d_no (sI μ 33 14 0) (nI 1)) rfl mw_X6_no mi_X6_no ml_X6_79 isO_33 ⟨rfl, rfl, Nat.le_of_ble_eq_true rfl, Nat.le_of_ble_eq_true rfl⟩ rfl rfl (Nat.le_of_ble_eq_true rfl) dX6_product_42) ?_
        refine g_mem (μ' := sI (sI μ 33 14 0) 33 14 (nI 1)) rfl ?_
        refine g_top (w := .int (-1)) rfl ?_
        refine g_pop dX6_product_45 rfl ?_
        refine g_iconst (nI 0) dX6_product_46 rfl ?_
        exact g_ireturn dX6_product_47 rfl rfl rfl
      · exact absurd h34 hne
    · refine g_aload_n 0 _ dX6_product_20 rfl rfl ?_
      refine g_iload_n 2 _ dX6_product_21 rfl rfl ?_
      refine g_backi (g_runV (d_isRowS (sI μ 33 14 0) b (s := s) hs h32) rfl mw_X6_isRow mi_X6_isRow ml_X6_164 isO_33 ⟨rfl, rfl, Nat.le_of_ble_eq_true rfl, Nat.le_of_ble_eq_true rfl⟩ rfl rfl (Nat.le_of_ble_eq_true rfl) dX6_product_22) ?_
      refine g_top (w := .int (bI (inB s b))) rfl ?_
      refine g_if_neB 48 dX6_product_25 (by decide) (fun h25 => ?_) (fun h25 => ?_)
      · exact absurd ⟨h17, h25⟩ h
      · refine g_aload_n 0 _ dX6_product_28 rfl rfl ?_
        refine g_aload_n 0 _ dX6_product_29 rfl rfl ?_
        refine gf_X6_37 rfl dX6_product_30 ?_
        refine g_iconst (-1) dX6_product_33 rfl ?_
        refine g_icmp_ne 41 dX6_product_34 (by decide) (fun h34 => ?_) (fun h34 => ?_)
        · refine g_iconst (nI 1) dX6_product_41 rfl ?_
          refine g_backi (g_runV (d_no (sI μ 33 14 0) (nI 1)) rfl mw_X6_no mi_X6_no ml_X6_79 isO_33 ⟨rfl, rfl, Nat.le_of_ble_eq_true rfl, Nat.le_of_ble_eq_true rfl⟩ rfl rfl (Nat.le_of_ble_eq_true rfl) dX6_product_42) ?_
          refine g_mem (μ' := sI (sI μ 33 14 0) 33 14 (nI 1)) rfl ?_
          refine g_top (w := .int (-1)) rfl ?_
          refine g_pop dX6_product_45 rfl ?_
          refine g_iconst (nI 0) dX6_product_46 rfl ?_
          exact g_ireturn dX6_product_47 rfl rfl rfl
        · exact absurd h34 hne
theorem d_product_l {μ : Mm} {a b s : Nat} (hs : μ.1 33 10 = nI s) (h32 : s ≤ 32) (ha : a < s) (hb : b < s) : ∀ (m j : Nat) (c : Int32), j ≤ s → s < j + m → c = smI (fun j => μ.1 40 (32 * a + j) * μ.1 40 (32 * b + j)) j → G mX6_product (rmL 1) (some (.int (smI (fun j => μ.1 40 (32 * a + j) * μ.1 40 (32 * b + j)) s)), μ) μ 53 [some (.ref 33), some (.int (nI a)), some (.int (nI b)), some (.int c), some (.int (nI j))] [] := by
  intro m
  induction m with
  | zero => exact fun j c h1 h2 => absurd h2 (by omega)
  | succ m ih =>
    intro j c h1 h2 hc
    refine g_iload _ dX6_product_53 rfl ?_
    refine g_aload_n 0 _ dX6_product_55 rfl rfl ?_
    refine gf_X6_37 rfl dX6_product_56 ?_
    refine g_top (w := .int (nI s)) (congrArg Value.int hs) ?_
    refine g_icmp_geN 96 (by omega) (by omega) dX6_product_59 (by decide) (fun h59 => ?_) (fun h59 => ?_)
    · refine g_iload_n 3 _ dX6_product_96 rfl rfl ?_
      exact g_ireturn dX6_product_97 rfl rfl (by rw [hc, show j = s by omega])
    · refine g_iload_n 3 _ dX6_product_62 rfl rfl ?_
      refine g_aload_n 0 _ dX6_product_63 rfl rfl ?_
      refine gf_X6_40 rfl dX6_product_64 ?_
      refine g_bipush (nI 32) dX6_product_67 rfl ?_
      refine g_iload_n 1 _ dX6_product_69 rfl rfl ?_
      refine g_imulN dX6_product_70 ?_
      refine g_iload _ dX6_product_71 rfl ?_
      refine g_at 73 rfl ?_
      refine g_iaddN dX6_product_73 ?_
      refine g_iaload (j := 32 * a + j) isI_40 (rfl) (by omega) (by omega) dX6_product_74 ?_
      refine g_aload_n 0 _ dX6_product_75 rfl rfl ?_
      refine gf_X6_40 rfl dX6_product_76 ?_
      refine g_bipush (nI 32) dX6_product_79 rfl ?_
      refine g_iload_n 2 _ dX6_product_81 rfl rfl ?_
      refine g_imulN dX6_product_82 ?_
      refine g_iload _ dX6_product_83 rfl ?_
      refine g_at 85 rfl ?_
      refine g_iaddN dX6_product_85 ?_
      refine g_iaload (j := 32 * b + j) isI_40 (rfl) (by omega) (by omega) dX6_product_86 ?_
      refine g_imul dX6_product_87 ?_
      refine g_iadd dX6_product_88 ?_
      refine g_istore_n [some (.ref 33), some (.int (nI a)), some (.int (nI b)), some (.int (c + ((μ.1 40 (32 * a + j)) * (μ.1 40 (32 * b + j))))), some (.int (nI j))] dX6_product_89 rfl (Nat.le_of_ble_eq_true rfl) rfl rfl ?_
      refine g_iincN [some (.ref 33), some (.int (nI a)), some (.int (nI b)), some (.int (c + ((μ.1 40 (32 * a + j)) * (μ.1 40 (32 * b + j))))), some (.int (nI (j + 1)))] dX6_product_90 rfl (Nat.le_of_ble_eq_true rfl) rfl rfl ?_
      refine g_goto 53 dX6_product_93 (by decide) ?_
      exact ih (j + 1) _ (by omega) (by omega) (by rw [hc]; rfl)
theorem d_product_ok (μ : Mm) {a b s : Nat} (hs : μ.1 33 10 = nI s) (h32 : s ≤ 32) (ha : a < s) (hb : b < s) : Ok mX6_product (rmL 1) [.ref 33, .int (nI a), .int (nI b)] μ (some (.int (smI (fun j => μ.1 40 (32 * a + j) * μ.1 40 (32 * b + j)) s)), sI μ 33 14 0) := by
  have hne : μ.1 33 10 ≠ -1 := by rw [hs, ne_eq, fa_eq, nI_toInt (by omega), tm1]; omega
  refine Ok.of (by decide) (Nat.le_of_ble_eq_true rfl) [some (.ref 33), some (.int (nI a)), some (.int (nI b)), none, none] rfl ?_
  refine g_aload_n 0 _ dX6_product_0 rfl rfl ?_
  refine g_backv (g_runV (d_start μ) rfl mw_X6_start mi_X6_start ml_X6_68 isO_33 ⟨rfl, rfl, Nat.le_of_ble_eq_true rfl, Nat.le_of_ble_eq_true rfl⟩ rfl rfl (Nat.le_of_ble_eq_true rfl) dX6_product_1) ?_
  refine g_mem (μ' := sI μ 33 14 0) rfl ?_
  refine g_aload_n 0 _ dX6_product_4 rfl rfl ?_
  refine gf_X6_37 rfl dX6_product_5 ?_
  refine g_iconst (-1) dX6_product_8 rfl ?_
  refine g_icmp_eq 28 dX6_product_9 (by decide) (fun h9 => ?_) (fun h9 => ?_)
  · exact absurd h9 hne
  · refine g_aload_n 0 _ dX6_product_12 rfl rfl ?_
    refine g_iload_n 1 _ dX6_product_13 rfl rfl ?_
    refine g_backi (g_runV ((d_isRowS (sI μ 33 14 0) (nI a) (s := s) hs h32).to (by rw [bI_t (inB_nI ha h32)])) rfl mw_X6_isRow mi_X6_isRow ml_X6_164 isO_33 ⟨rfl, rfl, Nat.le_of_ble_eq_true rfl, Nat.le_of_ble_eq_true rfl⟩ rfl rfl (Nat.le_of_ble_eq_true rfl) dX6_product_14) ?_
    refine g_top (w := .int 1) rfl ?_
    refine g_if_eq 28 dX6_product_17 (by decide) (fun h17 => ?_) (fun h17 => ?_)
    · exact absurd h17 (by decide)
    · refine g_aload_n 0 _ dX6_product_20 rfl rfl ?_
      refine g_iload_n 2 _ dX6_product_21 rfl rfl ?_
      refine g_backi (g_runV ((d_isRowS (sI μ 33 14 0) (nI b) (s := s) hs h32).to (by rw [bI_t (inB_nI hb h32)])) rfl mw_X6_isRow mi_X6_isRow ml_X6_164 isO_33 ⟨rfl, rfl, Nat.le_of_ble_eq_true rfl, Nat.le_of_ble_eq_true rfl⟩ rfl rfl (Nat.le_of_ble_eq_true rfl) dX6_product_22) ?_
      refine g_top (w := .int 1) rfl ?_
      refine g_if_ne 48 dX6_product_25 (by decide) (fun h25 => ?_) (fun h25 => ?_)
      · refine g_iconst (nI 0) dX6_product_48 rfl ?_
        refine g_istore_n [some (.ref 33), some (.int (nI a)), some (.int (nI b)), some (.int (nI 0)), none] dX6_product_49 rfl (Nat.le_of_ble_eq_true rfl) rfl rfl ?_
        refine g_iconst (nI 0) dX6_product_50 rfl ?_
        refine g_istore [some (.ref 33), some (.int (nI a)), some (.int (nI b)), some (.int (nI 0)), some (.int (nI 0))] dX6_product_51 (Nat.le_of_ble_eq_true rfl) rfl rfl ?_
        exact d_product_l (μ := sI μ 33 14 0) hs h32 ha hb (s + 1) 0 _ (by omega) (by omega) rfl
      · exact absurd h25 (by decide)
theorem d_look_2 (μ : Mm) (a : Int32) (hs : μ.1 33 10 = -1) : Ok mX6_look (rmL 1) [.ref 33, .int a] μ (some (.int (nI 0)), sI (sI μ 33 14 0) 33 14 (nI 2)) := by
  refine Ok.of (by decide) (Nat.le_of_ble_eq_true rfl) [some (.ref 33), some (.int a), none, none] rfl ?_
  refine g_aload_n 0 _ dX6_look_0 rfl rfl ?_
  refine g_backv (g_runV (d_start μ) rfl mw_X6_start mi_X6_start ml_X6_68 isO_33 ⟨rfl, rfl, Nat.le_of_ble_eq_true rfl, Nat.le_of_ble_eq_true rfl⟩ rfl rfl (Nat.le_of_ble_eq_true rfl) dX6_look_1) ?_
  refine g_mem (μ' := sI μ 33 14 0) rfl ?_
  refine g_aload_n 0 _ dX6_look_4 rfl rfl ?_
  refine gf_X6_37 rfl dX6_look_5 ?_
  refine g_iconst (-1) dX6_look_8 rfl ?_
  refine g_icmp_eq 20 dX6_look_9 (by decide) (fun h9 => ?_) (fun h9 => ?_)
  · refine g_aload_n 0 _ dX6_look_20 rfl rfl ?_
    refine g_aload_n 0 _ dX6_look_21 rfl rfl ?_
    refine gf_X6_37 rfl dX6_look_22 ?_
    refine g_iconst (-1) dX6_look_25 rfl ?_
    refine g_icmp_ne 33 dX6_look_26 (by decide) (fun h26 => ?_) (fun h26 => ?_)
    · exact absurd hs h26
    · refine g_iconst (nI 2) dX6_look_29 rfl ?_
      refine g_goto 34 dX6_look_30 (by decide) ?_
      refine g_backi (g_runV (d_no (sI μ 33 14 0) (nI 2)) rfl mw_X6_no mi_X6_no ml_X6_79 isO_33 ⟨rfl, rfl, Nat.le_of_ble_eq_true rfl, Nat.le_of_ble_eq_true rfl⟩ rfl rfl (Nat.le_of_ble_eq_true rfl) dX6_look_34) ?_
      refine g_mem (μ' := sI (sI μ 33 14 0) 33 14 (nI 2)) rfl ?_
      refine g_top (w := .int (-1)) rfl ?_
      refine g_pop dX6_look_37 rfl ?_
      refine g_iconst (nI 0) dX6_look_38 rfl ?_
      exact g_ireturn dX6_look_39 rfl rfl rfl
  · exact absurd hs h9
theorem d_look_1 (μ : Mm) (a : Int32) {s : Nat} (hs : μ.1 33 10 = nI s) (h0 : 0 < s) (h32 : s ≤ 32) (h : ¬ inB s a) : Ok mX6_look (rmL 1) [.ref 33, .int a] μ (some (.int (nI 0)), sI (sI μ 33 14 0) 33 14 (nI 1)) := by
  have hne : μ.1 33 10 ≠ -1 := by rw [hs, ne_eq, fa_eq, nI_toInt (by omega), tm1]; omega
  refine Ok.of (by decide) (Nat.le_of_ble_eq_true rfl) [some (.ref 33), some (.int a), none, none] rfl ?_
  refine g_aload_n 0 _ dX6_look_0 rfl rfl ?_
  refine g_backv (g_runV (d_start μ) rfl mw_X6_start mi_X6_start ml_X6_68 isO_33 ⟨rfl, rfl, Nat.le_of_ble_eq_true rfl, Nat.le_of_ble_eq_true rfl⟩ rfl rfl (Nat.le_of_ble_eq_true rfl) dX6_look_1) ?_
  refine g_mem (μ' := sI μ 33 14 0) rfl ?_
  refine g_aload_n 0 _ dX6_look_4 rfl rfl ?_
  refine gf_X6_37 rfl dX6_look_5 ?_
  refine g_iconst (-1) dX6_look_8 rfl ?_
  refine g_icmp_eq 20 dX6_look_9 (by decide) (fun h9 => ?_) (fun h9 => ?_)
  · exact absurd h9 hne
  · refine g_aload_n 0 _ dX6_look_12 rfl rfl ?_
    refine g_iload_n 1 _ dX6_look_13 rfl rfl ?_
    refine g_backi (g_runV ((d_isRowS (sI μ 33 14 0) a (s := s) hs h32).to (by rw [bI_f h])) rfl mw_X6_isRow mi_X6_isRow ml_X6_164 isO_33 ⟨rfl, rfl, Nat.le_of_ble_eq_true rfl, Nat.le_of_ble_eq_true rfl⟩ rfl rfl (Nat.le_of_ble_eq_true rfl) dX6_look_14) ?_
    refine g_top (w := .int (nI 0)) rfl ?_
    refine g_if_neN 40 (by omega) dX6_look_17 (by decide) (fun h17 => ?_) (fun h17 => ?_)
    · exact absurd h17 (by omega)
    · refine g_aload_n 0 _ dX6_look_20 rfl rfl ?_
      refine g_aload_n 0 _ dX6_look_21 rfl rfl ?_
      refine gf_X6_37 rfl dX6_look_22 ?_
      refine g_iconst (-1) dX6_look_25 rfl ?_
      refine g_icmp_ne 33 dX6_look_26 (by decide) (fun h26 => ?_) (fun h26 => ?_)
      · refine g_iconst (nI 1) dX6_look_33 rfl ?_
        refine g_backi (g_runV (d_no (sI μ 33 14 0) (nI 1)) rfl mw_X6_no mi_X6_no ml_X6_79 isO_33 ⟨rfl, rfl, Nat.le_of_ble_eq_true rfl, Nat.le_of_ble_eq_true rfl⟩ rfl rfl (Nat.le_of_ble_eq_true rfl) dX6_look_34) ?_
        refine g_mem (μ' := sI (sI μ 33 14 0) 33 14 (nI 1)) rfl ?_
        refine g_top (w := .int (-1)) rfl ?_
        refine g_pop dX6_look_37 rfl ?_
        refine g_iconst (nI 0) dX6_look_38 rfl ?_
        exact g_ireturn dX6_look_39 rfl rfl rfl
      · exact absurd h26 hne
theorem d_look_l {μ : Mm} {a s n : Nat} (hs : μ.1 33 10 = nI s) (h32 : s ≤ 32) (ha : a < s) (hn : μ.1 33 0 = nI n) (h60 : n ≤ 60) : ∀ (m j : Nat) (c : Int32), j ≤ min s n → min s n < j + m → c = smI (fun j => μ.1 40 (32 * a + j) * μ.1 35 j) j → G mX6_look (rmL 1) (some (.int (smI (fun j => μ.1 40 (32 * a + j) * μ.1 35 j) (min s n))), μ) μ 44 [some (.ref 33), some (.int (nI a)), some (.int c), some (.int (nI j))] [] := by
  intro m
  induction m with
  | zero => exact fun j c h1 h2 => absurd h2 (by omega)
  | succ m ih =>
    intro j c h1 h2 hc
    refine g_iload_n 3 _ dX6_look_44 rfl rfl ?_
    refine g_aload_n 0 _ dX6_look_45 rfl rfl ?_
    refine gf_X6_37 rfl dX6_look_46 ?_
    refine g_top (w := .int (nI s)) (congrArg Value.int hs) ?_
    refine g_icmp_geN 87 (by omega) (by omega) dX6_look_49 (by decide) (fun h49 => ?_) (fun h49 => ?_)
    · refine g_iload_n 2 _ dX6_look_87 rfl rfl ?_
      exact g_ireturn dX6_look_88 rfl rfl (by rw [hc, show j = min s n by omega])
    · refine g_iload_n 3 _ dX6_look_52 rfl rfl ?_
      refine g_aload_n 0 _ dX6_look_53 rfl rfl ?_
      refine gf_X6_7 rfl dX6_look_54 ?_
      refine g_top (w := .int (nI n)) (congrArg Value.int hn) ?_
      refine g_icmp_geN 87 (by omega) (by omega) dX6_look_57 (by decide) (fun h57 => ?_) (fun h57 => ?_)
      · refine g_iload_n 2 _ dX6_look_87 rfl rfl ?_
        exact g_ireturn dX6_look_88 rfl rfl (by rw [hc, show j = min s n by omega])
      · refine g_iload_n 2 _ dX6_look_60 rfl rfl ?_
        refine g_aload_n 0 _ dX6_look_61 rfl rfl ?_
        refine gf_X6_40 rfl dX6_look_62 ?_
        refine g_bipush (nI 32) dX6_look_65 rfl ?_
        refine g_iload_n 1 _ dX6_look_67 rfl rfl ?_
        refine g_imulN dX6_look_68 ?_
        refine g_iload_n 3 _ dX6_look_69 rfl rfl ?_
        refine g_at 70 rfl ?_
        refine g_iaddN dX6_look_70 ?_
        refine g_iaload (j := 32 * a + j) isI_40 (rfl) (by omega) (by omega) dX6_look_71 ?_
        refine g_aload_n 0 _ dX6_look_72 rfl rfl ?_
        refine gf_X6_17 rfl dX6_look_73 ?_
        refine g_iload_n 3 _ dX6_look_76 rfl rfl ?_
        refine g_iaload (j := j) isI_35 (rfl) (by omega) (by omega) dX6_look_77 ?_
        refine g_imul dX6_look_78 ?_
        refine g_iadd dX6_look_79 ?_
        refine g_at 80 rfl ?_
        refine g_istore_n [some (.ref 33), some (.int (nI a)), some (.int (c + ((μ.1 40 (32 * a + j)) * (μ.1 35 j)))), some (.int (nI j))] dX6_look_80 rfl (Nat.le_of_ble_eq_true rfl) rfl rfl ?_
        refine g_iincN [some (.ref 33), some (.int (nI a)), some (.int (c + ((μ.1 40 (32 * a + j)) * (μ.1 35 j)))), some (.int (nI (j + 1)))] dX6_look_81 rfl (Nat.le_of_ble_eq_true rfl) rfl rfl ?_
        refine g_goto 44 dX6_look_84 (by decide) ?_
        exact ih (j + 1) _ (by omega) (by omega) (by rw [hc]; rfl)
theorem d_look_ok (μ : Mm) {a s n : Nat} (hs : μ.1 33 10 = nI s) (h32 : s ≤ 32) (ha : a < s) (hn : μ.1 33 0 = nI n) (h60 : n ≤ 60) : Ok mX6_look (rmL 1) [.ref 33, .int (nI a)] μ (some (.int (smI (fun j => μ.1 40 (32 * a + j) * μ.1 35 j) (min s n))), sI μ 33 14 0) := by
  have hne : μ.1 33 10 ≠ -1 := by rw [hs, ne_eq, fa_eq, nI_toInt (by omega), tm1]; omega
  refine Ok.of (by decide) (Nat.le_of_ble_eq_true rfl) [some (.ref 33), some (.int (nI a)), none, none] rfl ?_
  refine g_aload_n 0 _ dX6_look_0 rfl rfl ?_
  refine g_backv (g_runV (d_start μ) rfl mw_X6_start mi_X6_start ml_X6_68 isO_33 ⟨rfl, rfl, Nat.le_of_ble_eq_true rfl, Nat.le_of_ble_eq_true rfl⟩ rfl rfl (Nat.le_of_ble_eq_true rfl) dX6_look_1) ?_
  refine g_mem (μ' := sI μ 33 14 0) rfl ?_
  refine g_aload_n 0 _ dX6_look_4 rfl rfl ?_
  refine gf_X6_37 rfl dX6_look_5 ?_
  refine g_iconst (-1) dX6_look_8 rfl ?_
  refine g_icmp_eq 20 dX6_look_9 (by decide) (fun h9 => ?_) (fun h9 => ?_)
  · exact absurd h9 hne
  · refine g_aload_n 0 _ dX6_look_12 rfl rfl ?_
    refine g_iload_n 1 _ dX6_look_13 rfl rfl ?_
    refine g_backi (g_runV ((d_isRowS (sI μ 33 14 0) (nI a) (s := s) hs h32).to (by rw [bI_t (inB_nI ha h32)])) rfl mw_X6_isRow mi_X6_isRow ml_X6_164 isO_33 ⟨rfl, rfl, Nat.le_of_ble_eq_true rfl, Nat.le_of_ble_eq_true rfl⟩ rfl rfl (Nat.le_of_ble_eq_true rfl) dX6_look_14) ?_
    refine g_top (w := .int 1) rfl ?_
    refine g_if_ne 40 dX6_look_17 (by decide) (fun h17 => ?_) (fun h17 => ?_)
    · refine g_iconst (nI 0) dX6_look_40 rfl ?_
      refine g_istore_n [some (.ref 33), some (.int (nI a)), some (.int (nI 0)), none] dX6_look_41 rfl (Nat.le_of_ble_eq_true rfl) rfl rfl ?_
      refine g_iconst (nI 0) dX6_look_42 rfl ?_
      refine g_istore_n [some (.ref 33), some (.int (nI a)), some (.int (nI 0)), some (.int (nI 0))] dX6_look_43 rfl (Nat.le_of_ble_eq_true rfl) rfl rfl ?_
      exact d_look_l (μ := sI μ 33 14 0) hs h32 ha hn h60 (min s n + 1) 0 _ (by omega) (by omega) rfl
    · exact absurd h17 (by decide)
theorem d_swap_2 (μ : Mm) (a b : Int32) (hs : μ.1 33 10 = -1) : Ok mX6_swap (rmL 1) [.ref 33, .int a, .int b] μ (some (.int (nI 0)), sI (sI μ 33 14 0) 33 14 (nI 2)) := by
  refine Ok.of (by decide) (Nat.le_of_ble_eq_true rfl) [some (.ref 33), some (.int a), some (.int b), none, none] rfl ?_
  refine g_aload_n 0 _ dX6_swap_0 rfl rfl ?_
  refine g_backv (g_runV (d_start μ) rfl mw_X6_start mi_X6_start ml_X6_68 isO_33 ⟨rfl, rfl, Nat.le_of_ble_eq_true rfl, Nat.le_of_ble_eq_true rfl⟩ rfl rfl (Nat.le_of_ble_eq_true rfl) dX6_swap_1) ?_
  refine g_mem (μ' := sI μ 33 14 0) rfl ?_
  refine g_aload_n 0 _ dX6_swap_4 rfl rfl ?_
  refine gf_X6_37 rfl dX6_swap_5 ?_
  refine g_iconst (-1) dX6_swap_8 rfl ?_
  refine g_icmp_ne 18 dX6_swap_9 (by decide) (fun h9 => ?_) (fun h9 => ?_)
  · exact absurd hs h9
  · refine g_aload_n 0 _ dX6_swap_12 rfl rfl ?_
    refine g_iconst (nI 2) dX6_swap_13 rfl ?_
    refine g_backi (g_runV (d_not (sI μ 33 14 0) (nI 2)) rfl mw_X6_not mi_X6_not ml_X6_71 isO_33 ⟨rfl, rfl, Nat.le_of_ble_eq_true rfl, Nat.le_of_ble_eq_true rfl⟩ rfl rfl (Nat.le_of_ble_eq_true rfl) dX6_swap_14) ?_
    refine g_mem (μ' := sI (sI μ 33 14 0) 33 14 (nI 2)) rfl ?_
    refine g_top (w := .int (nI 0)) rfl ?_
    exact g_ireturn dX6_swap_17 rfl rfl rfl
theorem d_swap_1 (μ : Mm) (a b : Int32) {s : Nat} (hs : μ.1 33 10 = nI s) (h0 : 0 < s) (h32 : s ≤ 32) (h : ¬ (inB s a ∧ inB s b)) : Ok mX6_swap (rmL 1) [.ref 33, .int a, .int b] μ (some (.int (nI 0)), sI (sI μ 33 14 0) 33 14 (nI 1)) := by
  have hne : μ.1 33 10 ≠ -1 := by rw [hs, ne_eq, fa_eq, nI_toInt (by omega), tm1]; omega
  refine Ok.of (by decide) (Nat.le_of_ble_eq_true rfl) [some (.ref 33), some (.int a), some (.int b), none, none] rfl ?_
  refine g_aload_n 0 _ dX6_swap_0 rfl rfl ?_
  refine g_backv (g_runV (d_start μ) rfl mw_X6_start mi_X6_start ml_X6_68 isO_33 ⟨rfl, rfl, Nat.le_of_ble_eq_true rfl, Nat.le_of_ble_eq_true rfl⟩ rfl rfl (Nat.le_of_ble_eq_true rfl) dX6_swap_1) ?_
  refine g_mem (μ' := sI μ 33 14 0) rfl ?_
  refine g_aload_n 0 _ dX6_swap_4 rfl rfl ?_
  refine gf_X6_37 rfl dX6_swap_5 ?_
  refine g_iconst (-1) dX6_swap_8 rfl ?_
  refine g_icmp_ne 18 dX6_swap_9 (by decide) (fun h9 => ?_) (fun h9 => ?_)
  · refine g_aload_n 0 _ dX6_swap_18 rfl rfl ?_
    refine g_iload_n 1 _ dX6_swap_19 rfl rfl ?_
    refine g_backi (g_runV (d_isRowS (sI μ 33 14 0) a (s := s) hs h32) rfl mw_X6_isRow mi_X6_isRow ml_X6_164 isO_33 ⟨rfl, rfl, Nat.le_of_ble_eq_true rfl, Nat.le_of_ble_eq_true rfl⟩ rfl rfl (Nat.le_of_ble_eq_true rfl) dX6_swap_20) ?_
    refine g_top (w := .int (bI (inB s a))) rfl ?_
    refine g_if_eqB 34 dX6_swap_23 (by decide) (fun h23 => ?_) (fun h23 => ?_)
    · refine g_aload_n 0 _ dX6_swap_34 rfl rfl ?_
      refine g_iconst (nI 1) dX6_swap_35 rfl ?_
      refine g_backi (g_runV (d_not (sI μ 33 14 0) (nI 1)) rfl mw_X6_not mi_X6_not ml_X6_71 isO_33 ⟨rfl, rfl, Nat.le_of_ble_eq_true rfl, Nat.le_of_ble_eq_true rfl⟩ rfl rfl (Nat.le_of_ble_eq_true rfl) dX6_swap_36) ?_
      refine g_mem (μ' := sI (sI μ 33 14 0) 33 14 (nI 1)) rfl ?_
      refine g_top (w := .int (nI 0)) rfl ?_
      exact g_ireturn dX6_swap_39 rfl rfl rfl
    · refine g_aload_n 0 _ dX6_swap_26 rfl rfl ?_
      refine g_iload_n 2 _ dX6_swap_27 rfl rfl ?_
      refine g_backi (g_runV (d_isRowS (sI μ 33 14 0) b (s := s) hs h32) rfl mw_X6_isRow mi_X6_isRow ml_X6_164 isO_33 ⟨rfl, rfl, Nat.le_of_ble_eq_true rfl, Nat.le_of_ble_eq_true rfl⟩ rfl rfl (Nat.le_of_ble_eq_true rfl) dX6_swap_28) ?_
      refine g_top (w := .int (bI (inB s b))) rfl ?_
      refine g_if_neB 40 dX6_swap_31 (by decide) (fun h31 => ?_) (fun h31 => ?_)
      · exact absurd ⟨h23, h31⟩ h
      · refine g_aload_n 0 _ dX6_swap_34 rfl rfl ?_
        refine g_iconst (nI 1) dX6_swap_35 rfl ?_
        refine g_backi (g_runV (d_not (sI μ 33 14 0) (nI 1)) rfl mw_X6_not mi_X6_not ml_X6_71 isO_33 ⟨rfl, rfl, Nat.le_of_ble_eq_true rfl, Nat.le_of_ble_eq_true rfl⟩ rfl rfl (Nat.le_of_ble_eq_true rfl) dX6_swap_36) ?_
        refine g_mem (μ' := sI (sI μ 33 14 0) 33 14 (nI 1)) rfl ?_
        refine g_top (w := .int (nI 0)) rfl ?_
        exact g_ireturn dX6_swap_39 rfl rfl rfl
  · exact absurd h9 hne
def swE (f : Nat → Int32) (a i : Nat) : Nat → Int32 := fun x => if 32 * a ≤ x ∧ x < 32 * a + i then -f x else f x
theorem swE_0 (f : Nat → Int32) (a : Nat) : swE f a 0 = f := by funext x; unfold swE; rw [if_neg (by omega)]
theorem swE_put (f : Nat → Int32) (a i : Nat) : upd (swE f a i) (32 * a + i) (-f (32 * a + i)) = swE f a (i + 1) := by
  funext x
  unfold upd swE
  by_cases h : x = 32 * a + i
  · subst h; rw [if_pos rfl, if_pos (by omega)]
  · rw [if_neg h]
    by_cases h2 : 32 * a ≤ x ∧ x < 32 * a + i
    · rw [if_pos h2, if_pos (by omega)]
    · rw [if_neg h2, if_neg (by omega)]
def swN (f : Nat → Int32) (a b i : Nat) : Nat → Int32 := fun x => if 32 * a ≤ x ∧ x < 32 * a + i then f (x - 32 * a + 32 * b) else if 32 * b ≤ x ∧ x < 32 * b + i then f (x - 32 * b + 32 * a) else f x
theorem swN_0 (f : Nat → Int32) (a b : Nat) : swN f a b 0 = f := by funext x; unfold swN; rw [if_neg (by omega), if_neg (by omega)]
theorem swN_put (f : Nat → Int32) {a b i : Nat} (hab : a ≠ b) (hi : i < 32) : upd (upd (swN f a b i) (32 * a + i) (f (32 * b + i))) (32 * b + i) (f (32 * a + i)) = swN f a b (i + 1) := by
  funext x
  unfold upd swN
  by_cases h : x = 32 * b + i
  · subst h
    rw [if_pos rfl, if_neg (show ¬ (32 * a ≤ 32 * b + i ∧ 32 * b + i < 32 * a + (i + 1)) by omega), if_pos (by omega), show 32 * b + i - 32 * b + 32 * a = 32 * a + i by omega]
  · rw [if_neg h]
    by_cases h1 : x = 32 * a + i
    · subst h1
      rw [if_pos rfl, if_pos (by omega), show 32 * a + i - 32 * a + 32 * b = 32 * b + i by omega]
    · rw [if_neg h1]
      by_cases h2 : 32 * a ≤ x ∧ x < 32 * a + i
      · rw [if_pos h2, if_pos (by omega)]
      · rw [if_neg h2, if_neg (show ¬ (32 * a ≤ x ∧ x < 32 * a + (i + 1)) by omega)]
        by_cases h3 : 32 * b ≤ x ∧ x < 32 * b + i
        · rw [if_pos h3, if_pos (by omega)]
        · rw [if_neg h3, if_neg (by omega)]
theorem d_swE_l {μ : Mm} {a s : Nat} (hs : μ.1 33 10 = nI s) (h32 : s ≤ 32) (ha : a < s) : ∀ (m i : Nat) (z : Option Value), i ≤ s → s < i + m → (z = none ∨ ∃ v, z = some (.int v)) → G mX6_swap (rmL 1) (some (.int (nI 1)), sR μ 40 (swE (μ.1 40) a s)) (sR μ 40 (swE (μ.1 40) a i)) 42 [some (.ref 33), some (.int (nI a)), some (.int (nI a)), some (.int (nI i)), z] [] := by
  intro m
  induction m with
  | zero => exact fun i z h1 h2 => absurd h2 (by omega)
  | succ m ih =>
    intro i z h1 h2 hz
    have e1 : i < s → (sR μ 40 (swE (μ.1 40) a i)).1 40 (32 * a + i) = μ.1 40 (32 * a + i) := fun _ => by rw [sR_at]; unfold swE; rw [if_neg (by omega)]
    have e2 : sI (sR μ 40 (swE (μ.1 40) a i)) 40 (32 * a + i) (-μ.1 40 (32 * a + i)) = sR μ 40 (swE (μ.1 40) a (i + 1)) := by rw [sI_sR, swE_put]
    rcases hz with rfl | ⟨v, rfl⟩
    · refine g_iload_n 3 _ dX6_swap_42 rfl rfl ?_
      refine g_aload_n 0 _ dX6_swap_43 rfl rfl ?_
      refine gf_X6_37 rfl dX6_swap_44 ?_
      refine g_top (w := .int (nI s)) (congrArg Value.int hs) ?_
      refine g_icmp_geN 120 (by omega) (by omega) dX6_swap_47 (by decide) (fun h47 => ?_) (fun h47 => ?_)
      · refine g_iconst (nI 1) dX6_swap_120 rfl ?_
        exact g_ireturn dX6_swap_121 rfl rfl (by rw [show i = s by omega])
      · refine g_aload_n 0 _ dX6_swap_50 rfl rfl ?_
        refine gf_X6_40 rfl dX6_swap_51 ?_
        refine g_bipush (nI 32) dX6_swap_54 rfl ?_
        refine g_iload_n 1 _ dX6_swap_56 rfl rfl ?_
        refine g_imulN dX6_swap_57 ?_
        refine g_iload_n 3 _ dX6_swap_58 rfl rfl ?_
        refine g_iaddN dX6_swap_59 ?_
        refine g_at 60 rfl ?_
        refine g_iaload (j := 32 * a + i) isI_40 (rfl) (by omega) (by omega) dX6_swap_60 ?_
        refine g_top (w := .int (μ.1 40 (32 * a + i))) (congrArg Value.int (e1 (by omega))) ?_
        refine g_istore [some (.ref 33), some (.int (nI a)), some (.int (nI a)), some (.int (nI i)), some (.int (μ.1 40 (32 * a + i)))] dX6_swap_61 (Nat.le_of_ble_eq_true rfl) rfl rfl ?_
        refine g_aload_n 0 _ dX6_swap_63 rfl rfl ?_
        refine gf_X6_40 rfl dX6_swap_64 ?_
        refine g_bipush (nI 32) dX6_swap_67 rfl ?_
        refine g_iload_n 1 _ dX6_swap_69 rfl rfl ?_
        refine g_imulN dX6_swap_70 ?_
        refine g_iload_n 3 _ dX6_swap_71 rfl rfl ?_
        refine g_at 72 rfl ?_
        refine g_iaddN dX6_swap_72 ?_
        refine g_iload_n 1 _ dX6_swap_73 rfl rfl ?_
        refine g_iload_n 2 _ dX6_swap_74 rfl rfl ?_
        refine g_icmp_neN 84 (by omega) (by omega) dX6_swap_75 (by decide) (fun h75 => ?_) (fun h75 => ?_)
        · exact absurd rfl h75
        · refine g_iload _ dX6_swap_78 rfl ?_
          refine g_ineg dX6_swap_80 ?_
          refine g_goto 95 dX6_swap_81 (by decide) ?_
          refine g_iastore (j := 32 * a + i) isI_40 (rfl) (by omega) (by omega) dX6_swap_95 ?_
          refine g_mem (μ' := sR μ 40 (swE (μ.1 40) a (i + 1))) e2 ?_
          refine g_iload_n 1 _ dX6_swap_96 rfl rfl ?_
          refine g_iload_n 2 _ dX6_swap_97 rfl rfl ?_
          refine g_icmp_eqN 114 (by omega) (by omega) dX6_swap_98 (by decide) (fun h98 => ?_) (fun h98 => ?_)
          · refine g_iincN [some (.ref 33), some (.int (nI a)), some (.int (nI a)), some (.int (nI (i + 1))), some (.int (μ.1 40 (32 * a + i)))] dX6_swap_114 rfl (Nat.le_of_ble_eq_true rfl) rfl rfl ?_
            refine g_goto 42 dX6_swap_117 (by decide) ?_
            exact ih (i + 1) _ (by omega) (by omega) (Or.inr ⟨_, rfl⟩)
          · exact absurd rfl h98
    · refine g_iload_n 3 _ dX6_swap_42 rfl rfl ?_
      refine g_aload_n 0 _ dX6_swap_43 rfl rfl ?_
      refine gf_X6_37 rfl dX6_swap_44 ?_
      refine g_top (w := .int (nI s)) (congrArg Value.int hs) ?_
      refine g_icmp_geN 120 (by omega) (by omega) dX6_swap_47 (by decide) (fun h47 => ?_) (fun h47 => ?_)
      · refine g_iconst (nI 1) dX6_swap_120 rfl ?_
        exact g_ireturn dX6_swap_121 rfl rfl (by rw [show i = s by omega])
      · refine g_aload_n 0 _ dX6_swap_50 rfl rfl ?_
        refine gf_X6_40 rfl dX6_swap_51 ?_
        refine g_bipush (nI 32) dX6_swap_54 rfl ?_
        refine g_iload_n 1 _ dX6_swap_56 rfl rfl ?_
        refine g_imulN dX6_swap_57 ?_
        refine g_iload_n 3 _ dX6_swap_58 rfl rfl ?_
        refine g_iaddN dX6_swap_59 ?_
        refine g_at 60 rfl ?_
        refine g_iaload (j := 32 * a + i) isI_40 (rfl) (by omega) (by omega) dX6_swap_60 ?_
        refine g_top (w := .int (μ.1 40 (32 * a + i))) (congrArg Value.int (e1 (by omega))) ?_
        refine g_istore [some (.ref 33), some (.int (nI a)), some (.int (nI a)), some (.int (nI i)), some (.int (μ.1 40 (32 * a + i)))] dX6_swap_61 (Nat.le_of_ble_eq_true rfl) rfl rfl ?_
        refine g_aload_n 0 _ dX6_swap_63 rfl rfl ?_
        refine gf_X6_40 rfl dX6_swap_64 ?_
        refine g_bipush (nI 32) dX6_swap_67 rfl ?_
        refine g_iload_n 1 _ dX6_swap_69 rfl rfl ?_
        refine g_imulN dX6_swap_70 ?_
        refine g_iload_n 3 _ dX6_swap_71 rfl rfl ?_
        refine g_at 72 rfl ?_
        refine g_iaddN dX6_swap_72 ?_
        refine g_iload_n 1 _ dX6_swap_73 rfl rfl ?_
        refine g_iload_n 2 _ dX6_swap_74 rfl rfl ?_
        refine g_icmp_neN 84 (by omega) (by omega) dX6_swap_75 (by decide) (fun h75 => ?_) (fun h75 => ?_)
        · exact absurd rfl h75
        · refine g_iload _ dX6_swap_78 rfl ?_
          refine g_ineg dX6_swap_80 ?_
          refine g_goto 95 dX6_swap_81 (by decide) ?_
          refine g_iastore (j := 32 * a + i) isI_40 (rfl) (by omega) (by omega) dX6_swap_95 ?_
          refine g_mem (μ' := sR μ 40 (swE (μ.1 40) a (i + 1))) e2 ?_
          refine g_iload_n 1 _ dX6_swap_96 rfl rfl ?_
          refine g_iload_n 2 _ dX6_swap_97 rfl rfl ?_
          refine g_icmp_eqN 114 (by omega) (by omega) dX6_swap_98 (by decide) (fun h98 => ?_) (fun h98 => ?_)
          · refine g_iincN [some (.ref 33), some (.int (nI a)), some (.int (nI a)), some (.int (nI (i + 1))), some (.int (μ.1 40 (32 * a + i)))] dX6_swap_114 rfl (Nat.le_of_ble_eq_true rfl) rfl rfl ?_
            refine g_goto 42 dX6_swap_117 (by decide) ?_
            exact ih (i + 1) _ (by omega) (by omega) (Or.inr ⟨_, rfl⟩)
          · exact absurd rfl h98
theorem d_swN_l {μ : Mm} {a b s : Nat} (hs : μ.1 33 10 = nI s) (h32 : s ≤ 32) (ha : a < s) (hb : b < s) (hab : a ≠ b) : ∀ (m i : Nat) (z : Option Value), i ≤ s → s < i + m → (z = none ∨ ∃ v, z = some (.int v)) → G mX6_swap (rmL 1) (some (.int (nI 1)), sR μ 40 (swN (μ.1 40) a b s)) (sR μ 40 (swN (μ.1 40) a b i)) 42 [some (.ref 33), some (.int (nI a)), some (.int (nI b)), some (.int (nI i)), z] [] := by
  intro m
  induction m with
  | zero => exact fun i z h1 h2 => absurd h2 (by omega)
  | succ m ih =>
    intro i z h1 h2 hz
    have e1 : i < s → (sR μ 40 (swN (μ.1 40) a b i)).1 40 (32 * a + i) = μ.1 40 (32 * a + i) := fun _ => by rw [sR_at]; unfold swN; rw [if_neg (by omega), if_neg (by omega)]
    have e3 : i < s → (sR μ 40 (swN (μ.1 40) a b i)).1 40 (32 * b + i) = μ.1 40 (32 * b + i) := fun _ => by rw [sR_at]; unfold swN; rw [if_neg (by omega), if_neg (by omega)]
    have e2 : i < s → sI (sI (sR μ 40 (swN (μ.1 40) a b i)) 40 (32 * a + i) (μ.1 40 (32 * b + i))) 40 (32 * b + i) (μ.1 40 (32 * a + i)) = sR μ 40 (swN (μ.1 40) a b (i + 1)) := fun _ => by rw [sI_sR, sI_sR, swN_put _ hab (by omega)]
    rcases hz with rfl | ⟨v, rfl⟩
    · refine g_iload_n 3 _ dX6_swap_42 rfl rfl ?_
      refine g_aload_n 0 _ dX6_swap_43 rfl rfl ?_
      refine gf_X6_37 rfl dX6_swap_44 ?_
      refine g_top (w := .int (nI s)) (congrArg Value.int hs) ?_
      refine g_icmp_geN 120 (by omega) (by omega) dX6_swap_47 (by decide) (fun h47 => ?_) (fun h47 => ?_)
      · refine g_iconst (nI 1) dX6_swap_120 rfl ?_
        exact g_ireturn dX6_swap_121 rfl rfl (by rw [show i = s by omega])
      · refine g_aload_n 0 _ dX6_swap_50 rfl rfl ?_
        refine gf_X6_40 rfl dX6_swap_51 ?_
        refine g_bipush (nI 32) dX6_swap_54 rfl ?_
        refine g_iload_n 1 _ dX6_swap_56 rfl rfl ?_
        refine g_imulN dX6_swap_57 ?_
        refine g_iload_n 3 _ dX6_swap_58 rfl rfl ?_
        refine g_iaddN dX6_swap_59 ?_
        refine g_at 60 rfl ?_
        refine g_iaload (j := 32 * a + i) isI_40 (rfl) (by omega) (by omega) dX6_swap_60 ?_
        refine g_top (w := .int (μ.1 40 (32 * a + i))) (congrArg Value.int (e1 (by omega))) ?_
        refine g_istore [some (.ref 33), some (.int (nI a)), some (.int (nI b)), some (.int (nI i)), some (.int (μ.1 40 (32 * a + i)))] dX6_swap_61 (Nat.le_of_ble_eq_true rfl) rfl rfl ?_
        refine g_aload_n 0 _ dX6_swap_63 rfl rfl ?_
        refine gf_X6_40 rfl dX6_swap_64 ?_
        refine g_bipush (nI 32) dX6_swap_67 rfl ?_
        refine g_iload_n 1 _ dX6_swap_69 rfl rfl ?_
        refine g_imulN dX6_swap_70 ?_
        refine g_iload_n 3 _ dX6_swap_71 rfl rfl ?_
        refine g_at 72 rfl ?_
        refine g_iaddN dX6_swap_72 ?_
        refine g_iload_n 1 _ dX6_swap_73 rfl rfl ?_
        refine g_iload_n 2 _ dX6_swap_74 rfl rfl ?_
        refine g_icmp_neN 84 (by omega) (by omega) dX6_swap_75 (by decide) (fun h75 => ?_) (fun h75 => ?_)
        · refine g_aload_n 0 _ dX6_swap_84 rfl rfl ?_
          refine gf_X6_40 rfl dX6_swap_85 ?_
          refine g_bipush (nI 32) dX6_swap_88 rfl ?_
          refine g_iload_n 2 _ dX6_swap_90 rfl rfl ?_
          refine g_imulN dX6_swap_91 ?_
          refine g_iload_n 3 _ dX6_swap_92 rfl rfl ?_
          refine g_iaddN dX6_swap_93 ?_
          refine g_at 94 rfl ?_
          refine g_iaload (j := 32 * b + i) isI_40 (rfl) (by omega) (by omega) dX6_swap_94 ?_
          refine g_top (w := .int (μ.1 40 (32 * b + i))) (congrArg Value.int (e3 (by omega))) ?_
          refine g_iastore (j := 32 * a + i) isI_40 (rfl) (by omega) (by omega) dX6_swap_95 ?_
          refine g_iload_n 1 _ dX6_swap_96 rfl rfl ?_
          refine g_iload_n 2 _ dX6_swap_97 rfl rfl ?_
          refine g_icmp_eqN 114 (by omega) (by omega) dX6_swap_98 (by decide) (fun h98 => ?_) (fun h98 => ?_)
          · exact absurd h98 hab
          · refine g_aload_n 0 _ dX6_swap_101 rfl rfl ?_
            refine gf_X6_40 rfl dX6_swap_102 ?_
            refine g_bipush (nI 32) dX6_swap_105 rfl ?_
            refine g_iload_n 2 _ dX6_swap_107 rfl rfl ?_
            refine g_imulN dX6_swap_108 ?_
            refine g_iload_n 3 _ dX6_swap_109 rfl rfl ?_
            refine g_iaddN dX6_swap_110 ?_
            refine g_at 111 rfl ?_
            refine g_iload _ dX6_swap_111 rfl ?_
            refine g_iastore (j := 32 * b + i) isI_40 (rfl) (by omega) (by omega) dX6_swap_113 ?_
            refine g_mem (μ' := sR μ 40 (swN (μ.1 40) a b (i + 1))) (e2 (by omega)) ?_
            refine g_iincN [some (.ref 33), some (.int (nI a)), some (.int (nI b)), some (.int (nI (i + 1))), some (.int (μ.1 40 (32 * a + i)))] dX6_swap_114 rfl (Nat.le_of_ble_eq_true rfl) rfl rfl ?_
            refine g_goto 42 dX6_swap_117 (by decide) ?_
            exact ih (i + 1) _ (by omega) (by omega) (Or.inr ⟨_, rfl⟩)
        · exact absurd h75 hab
    · refine g_iload_n 3 _ dX6_swap_42 rfl rfl ?_
      refine g_aload_n 0 _ dX6_swap_43 rfl rfl ?_
      refine gf_X6_37 rfl dX6_swap_44 ?_
      refine g_top (w := .int (nI s)) (congrArg Value.int hs) ?_
      refine g_icmp_geN 120 (by omega) (by omega) dX6_swap_47 (by decide) (fun h47 => ?_) (fun h47 => ?_)
      · refine g_iconst (nI 1) dX6_swap_120 rfl ?_
        exact g_ireturn dX6_swap_121 rfl rfl (by rw [show i = s by omega])
      · refine g_aload_n 0 _ dX6_swap_50 rfl rfl ?_
        refine gf_X6_40 rfl dX6_swap_51 ?_
        refine g_bipush (nI 32) dX6_swap_54 rfl ?_
        refine g_iload_n 1 _ dX6_swap_56 rfl rfl ?_
        refine g_imulN dX6_swap_57 ?_
        refine g_iload_n 3 _ dX6_swap_58 rfl rfl ?_
        refine g_iaddN dX6_swap_59 ?_
        refine g_at 60 rfl ?_
        refine g_iaload (j := 32 * a + i) isI_40 (rfl) (by omega) (by omega) dX6_swap_60 ?_
        refine g_top (w := .int (μ.1 40 (32 * a + i))) (congrArg Value.int (e1 (by omega))) ?_
        refine g_istore [some (.ref 33), some (.int (nI a)), some (.int (nI b)), some (.int (nI i)), some (.int (μ.1 40 (32 * a + i)))] dX6_swap_61 (Nat.le_of_ble_eq_true rfl) rfl rfl ?_
        refine g_aload_n 0 _ dX6_swap_63 rfl rfl ?_
        refine gf_X6_40 rfl dX6_swap_64 ?_
        refine g_bipush (nI 32) dX6_swap_67 rfl ?_
        refine g_iload_n 1 _ dX6_swap_69 rfl rfl ?_
        refine g_imulN dX6_swap_70 ?_
        refine g_iload_n 3 _ dX6_swap_71 rfl rfl ?_
        refine g_at 72 rfl ?_
        refine g_iaddN dX6_swap_72 ?_
        refine g_iload_n 1 _ dX6_swap_73 rfl rfl ?_
        refine g_iload_n 2 _ dX6_swap_74 rfl rfl ?_
        refine g_icmp_neN 84 (by omega) (by omega) dX6_swap_75 (by decide) (fun h75 => ?_) (fun h75 => ?_)
        · refine g_aload_n 0 _ dX6_swap_84 rfl rfl ?_
          refine gf_X6_40 rfl dX6_swap_85 ?_
          refine g_bipush (nI 32) dX6_swap_88 rfl ?_
          refine g_iload_n 2 _ dX6_swap_90 rfl rfl ?_
          refine g_imulN dX6_swap_91 ?_
          refine g_iload_n 3 _ dX6_swap_92 rfl rfl ?_
          refine g_iaddN dX6_swap_93 ?_
          refine g_at 94 rfl ?_
          refine g_iaload (j := 32 * b + i) isI_40 (rfl) (by omega) (by omega) dX6_swap_94 ?_
          refine g_top (w := .int (μ.1 40 (32 * b + i))) (congrArg Value.int (e3 (by omega))) ?_
          refine g_iastore (j := 32 * a + i) isI_40 (rfl) (by omega) (by omega) dX6_swap_95 ?_
          refine g_iload_n 1 _ dX6_swap_96 rfl rfl ?_
          refine g_iload_n 2 _ dX6_swap_97 rfl rfl ?_
          refine g_icmp_eqN 114 (by omega) (by omega) dX6_swap_98 (by decide) (fun h98 => ?_) (fun h98 => ?_)
          · exact absurd h98 hab
          · refine g_aload_n 0 _ dX6_swap_101 rfl rfl ?_
            refine gf_X6_40 rfl dX6_swap_102 ?_
            refine g_bipush (nI 32) dX6_swap_105 rfl ?_
            refine g_iload_n 2 _ dX6_swap_107 rfl rfl ?_
            refine g_imulN dX6_swap_108 ?_
            refine g_iload_n 3 _ dX6_swap_109 rfl rfl ?_
            refine g_iaddN dX6_swap_110 ?_
            refine g_at 111 rfl ?_
            refine g_iload _ dX6_swap_111 rfl ?_
            refine g_iastore (j := 32 * b + i) isI_40 (rfl) (by omega) (by omega) dX6_swap_113 ?_
            refine g_mem (μ' := sR μ 40 (swN (μ.1 40) a b (i + 1))) (e2 (by omega)) ?_
            refine g_iincN [some (.ref 33), some (.int (nI a)), some (.int (nI b)), some (.int (nI (i + 1))), some (.int (μ.1 40 (32 * a + i)))] dX6_swap_114 rfl (Nat.le_of_ble_eq_true rfl) rfl rfl ?_
            refine g_goto 42 dX6_swap_117 (by decide) ?_
            exact ih (i + 1) _ (by omega) (by omega) (Or.inr ⟨_, rfl⟩)
        · exact absurd h75 hab
theorem d_swap_eq (μ : Mm) {a s : Nat} (hs : μ.1 33 10 = nI s) (h32 : s ≤ 32) (ha : a < s) : Ok mX6_swap (rmL 1) [.ref 33, .int (nI a), .int (nI a)] μ (some (.int (nI 1)), sR (sI μ 33 14 0) 40 (swE (μ.1 40) a s)) := by
  have hne : μ.1 33 10 ≠ -1 := by rw [hs, ne_eq, fa_eq, nI_toInt (by omega), tm1]; omega
  refine Ok.of (by decide) (Nat.le_of_ble_eq_true rfl) [some (.ref 33), some (.int (nI a)), some (.int (nI a)), none, none] rfl ?_
  refine g_aload_n 0 _ dX6_swap_0 rfl rfl ?_
  refine g_backv (g_runV (d_start μ) rfl mw_X6_start mi_X6_start ml_X6_68 isO_33 ⟨rfl, rfl, Nat.le_of_ble_eq_true rfl, Nat.le_of_ble_eq_true rfl⟩ rfl rfl (Nat.le_of_ble_eq_true rfl) dX6_swap_1) ?_
  refine g_mem (μ' := sI μ 33 14 0) rfl ?_
  refine g_aload_n 0 _ dX6_swap_4 rfl rfl ?_
  refine gf_X6_37 rfl dX6_swap_5 ?_
  refine g_iconst (-1) dX6_swap_8 rfl ?_
  refine g_icmp_ne 18 dX6_swap_9 (by decide) (fun h9 => ?_) (fun h9 => ?_)
  · refine g_aload_n 0 _ dX6_swap_18 rfl rfl ?_
    refine g_iload_n 1 _ dX6_swap_19 rfl rfl ?_
    refine g_backi (g_runV ((d_isRowS (sI μ 33 14 0) (nI a) (s := s) hs h32).to (by rw [bI_t (inB_nI ha h32)])) rfl mw_X6_isRow mi_X6_isRow ml_X6_164 isO_33 ⟨rfl, rfl, Nat.le_of_ble_eq_true rfl, Nat.le_of_ble_eq_true rfl⟩ rfl rfl (Nat.le_of_ble_eq_true rfl) dX6_swap_20) ?_
    refine g_top (w := .int 1) rfl ?_
    refine g_if_eq 34 dX6_swap_23 (by decide) (fun h23 => ?_) (fun h23 => ?_)
    · exact absurd h23 (by decide)
    · refine g_aload_n 0 _ dX6_swap_26 rfl rfl ?_
      refine g_iload_n 2 _ dX6_swap_27 rfl rfl ?_
      refine g_backi (g_runV ((d_isRowS (sI μ 33 14 0) (nI a) (s := s) hs h32).to (by rw [bI_t (inB_nI ha h32)])) rfl mw_X6_isRow mi_X6_isRow ml_X6_164 isO_33 ⟨rfl, rfl, Nat.le_of_ble_eq_true rfl, Nat.le_of_ble_eq_true rfl⟩ rfl rfl (Nat.le_of_ble_eq_true rfl) dX6_swap_28) ?_
      refine g_top (w := .int 1) rfl ?_
      refine g_if_ne 40 dX6_swap_31 (by decide) (fun h31 => ?_) (fun h31 => ?_)
      · refine g_iconst (nI 0) dX6_swap_40 rfl ?_
        refine g_istore_n [some (.ref 33), some (.int (nI a)), some (.int (nI a)), some (.int (nI 0)), none] dX6_swap_41 rfl (Nat.le_of_ble_eq_true rfl) rfl rfl ?_
        have h := d_swE_l (μ := sI μ 33 14 0) hs h32 ha (s + 1) 0 none (by omega) (by omega) (Or.inl rfl); rw [swE_0, sR_id] at h; exact h
      · exact absurd h31 (by decide)
  · exact absurd h9 hne
theorem d_swap_ne (μ : Mm) {a b s : Nat} (hs : μ.1 33 10 = nI s) (h32 : s ≤ 32) (ha : a < s) (hb : b < s) (hab : a ≠ b) : Ok mX6_swap (rmL 1) [.ref 33, .int (nI a), .int (nI b)] μ (some (.int (nI 1)), sR (sI μ 33 14 0) 40 (swN (μ.1 40) a b s)) := by
  have hne : μ.1 33 10 ≠ -1 := by rw [hs, ne_eq, fa_eq, nI_toInt (by omega), tm1]; omega
  refine Ok.of (by decide) (Nat.le_of_ble_eq_true rfl) [some (.ref 33), some (.int (nI a)), some (.int (nI b)), none, none] rfl ?_
  refine g_aload_n 0 _ dX6_swap_0 rfl rfl ?_
  refine g_backv (g_runV (d_start μ) rfl mw_X6_start mi_X6_start ml_X6_68 isO_33 ⟨rfl, rfl, Nat.le_of_ble_eq_true rfl, Nat.le_of_ble_eq_true rfl⟩ rfl rfl (Nat.le_of_ble_eq_true rfl) dX6_swap_1) ?_
  refine g_mem (μ' := sI μ 33 14 0) rfl ?_
  refine g_aload_n 0 _ dX6_swap_4 rfl rfl ?_
  refine gf_X6_37 rfl dX6_swap_5 ?_
  refine g_iconst (-1) dX6_swap_8 rfl ?_
  refine g_icmp_ne 18 dX6_swap_9 (by decide) (fun h9 => ?_) (fun h9 => ?_)
  · refine g_aload_n 0 _ dX6_swap_18 rfl rfl ?_
    refine g_iload_n 1 _ dX6_swap_19 rfl rfl ?_
    refine g_backi (g_runV ((d_isRowS (sI μ 33 14 0) (nI a) (s := s) hs h32).to (by rw [bI_t (inB_nI ha h32)])) rfl mw_X6_isRow mi_X6_isRow ml_X6_164 isO_33 ⟨rfl, rfl, Nat.le_of_ble_eq_true rfl, Nat.le_of_ble_eq_true rfl⟩ rfl rfl (Nat.le_of_ble_eq_true rfl) dX6_swap_20) ?_
    refine g_top (w := .int 1) rfl ?_
    refine g_if_eq 34 dX6_swap_23 (by decide) (fun h23 => ?_) (fun h23 => ?_)
    · exact absurd h23 (by decide)
    · refine g_aload_n 0 _ dX6_swap_26 rfl rfl ?_
      refine g_iload_n 2 _ dX6_swap_27 rfl rfl ?_
      refine g_backi (g_runV ((d_isRowS (sI μ 33 14 0) (nI b) (s := s) hs h32).to (by rw [bI_t (inB_nI hb h32)])) rfl mw_X6_isRow mi_X6_isRow ml_X6_164 isO_33 ⟨rfl, rfl, Nat.le_of_ble_eq_true rfl, Nat.le_of_ble_eq_true rfl⟩ rfl rfl (Nat.le_of_ble_eq_true rfl) dX6_swap_28) ?_
      refine g_top (w := .int 1) rfl ?_
      refine g_if_ne 40 dX6_swap_31 (by decide) (fun h31 => ?_) (fun h31 => ?_)
      · refine g_iconst (nI 0) dX6_swap_40 rfl ?_
        refine g_istore_n [some (.ref 33), some (.int (nI a)), some (.int (nI b)), some (.int (nI 0)), none] dX6_swap_41 rfl (Nat.le_of_ble_eq_true rfl) rfl rfl ?_
        have h := d_swN_l (μ := sI μ 33 14 0) hs h32 ha hb hab (s + 1) 0 none (by omega) (by omega) (Or.inl rfl); rw [swN_0, sR_id] at h; exact h
      · exact absurd h31 (by decide)
  · exact absurd h9 hne
