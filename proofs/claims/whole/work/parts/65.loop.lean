/-! The law's loop -/
theorem and63 (v : Int32) : ∃ k : Nat, k ≤ 63 ∧ v &&& nI 63 = nI k := by
  refine ⟨(v &&& nI 63).toBitVec.toNat, ?_, ?_⟩
  · have e : (v &&& nI 63).toBitVec.toNat = v.toBitVec.toNat &&& 63 := by
      show (v.toBitVec &&& (nI 63).toBitVec).toNat = _
      rw [BitVec.toNat_and]
      rfl
    rw [e]
    exact Nat.and_le_right
  · apply Int32.toBitVec_inj.mp
    apply BitVec.eq_of_toNat_eq
    show _ = (BitVec.ofNat 32 (v &&& nI 63).toBitVec.toNat).toNat
    rw [BitVec.toNat_ofNat, Nat.mod_eq_of_lt (BitVec.isLt _)]
theorem q_switch {L : Nat} {xs : Nat → Int32} {i ck sk : Nat} {x y : Option Value} {μ : Mm} (hi : i + 5 ≤ L) (hL : L ≤ 2560) (hk : Cap ck sk) (hk1 : Cap (ck + 1) (sk + 6)) (h : Rel μ) (kk : ∀ (μ' : Mm) (x y : Option Value), Rel μ' → GL L xs (ck + 1) (sk + 6) μ' 1108 (LOC i x y) []) (k : Nat) (hk9 : k ≤ 63) : GL L xs ck sk μ 39 (LOC i x y) [.int (nI k)] := by
  by_cases c : 34 ≤ k
  · refine l_tableOut 1108 dL_law_39 (Or.inr ?_) (by decide) (l_widen (Nat.le_succ _) (Nat.le_add_right _ _) (kk μ x y h))
    rw [nI_toInt (by omega)]
    omega
  · match k, c with
    | 0, _ => exact l_tableIn 188 dL_law_39 (by decide) (by decide) rfl (by decide) (q_ring hi hL hk h kk)
    | 1, _ => exact l_tableIn 213 dL_law_39 (by decide) (by decide) rfl (by decide) (q_sheet hi hL hk h kk)
    | 2, _ => exact l_tableIn 250 dL_law_39 (by decide) (by decide) rfl (by decide) (q_entry hi hL hk h kk)
    | 3, _ => exact l_tableIn 287 dL_law_39 (by decide) (by decide) rfl (by decide) (q_lay hi hL hk h kk)
    | 4, _ => exact l_tableIn 312 dL_law_39 (by decide) (by decide) rfl (by decide) (q_set hi hL hk h kk)
    | 5, _ => exact l_tableIn 361 dL_law_39 (by decide) (by decide) rfl (by decide) (q_miss hi hL hk h kk)
    | 6, _ => exact l_tableIn 386 dL_law_39 (by decide) (by decide) rfl (by decide) (q_at hi hL hk h kk hk1)
    | 7, _ => exact l_tableIn 454 dL_law_39 (by decide) (by decide) rfl (by decide) (q_count hi hL hk h kk)
    | 8, _ => exact l_tableIn 479 dL_law_39 (by decide) (by decide) rfl (by decide) (q_shadow hi hL hk h kk)
    | 9, _ => exact l_tableIn 504 dL_law_39 (by decide) (by decide) rfl (by decide) (q_cast hi hL hk h kk)
    | 10, _ => exact l_tableIn 517 dL_law_39 (by decide) (by decide) rfl (by decide) (q_meets hi hL hk h kk)
    | 11, _ => exact l_tableIn 542 dL_law_39 (by decide) (by decide) rfl (by decide) (q_off hi hL hk h kk)
    | 12, _ => exact l_tableIn 555 dL_law_39 (by decide) (by decide) rfl (by decide) (q_turn hi hL hk h kk)
    | 13, _ => exact l_tableIn 580 dL_law_39 (by decide) (by decide) rfl (by decide) (q_anti hi hL hk h kk)
    | 14, _ => exact l_tableIn 593 dL_law_39 (by decide) (by decide) rfl (by decide) (q_fold hi hL hk h kk)
    | 15, _ => exact l_tableIn 654 dL_law_39 (by decide) (by decide) rfl (by decide) (q_rests hi hL hk h kk)
    | 16, _ => exact l_tableIn 679 dL_law_39 (by decide) (by decide) rfl (by decide) (q_twins hi hL hk h kk)
    | 17, _ => exact l_tableIn 704 dL_law_39 (by decide) (by decide) rfl (by decide) (q_shift hi hL hk h kk)
    | 18, _ => exact l_tableIn 729 dL_law_39 (by decide) (by decide) rfl (by decide) (q_undo hi hL hk h kk)
    | 19, _ => exact l_tableIn 743 dL_law_39 (by decide) (by decide) rfl (by decide) (q_back hi hL hk h kk)
    | 20, _ => exact l_tableIn 769 dL_law_39 (by decide) (by decide) rfl (by decide) (q_noise hi hL hk h kk)
    | 21, _ => exact l_tableIn 795 dL_law_39 (by decide) (by decide) rfl (by decide) (q_rank hi hL hk h kk)
    | 22, _ => exact l_tableIn 808 dL_law_39 (by decide) (by decide) rfl (by decide) (q_lost hi hL hk h kk)
    | 23, _ => exact l_tableIn 821 dL_law_39 (by decide) (by decide) rfl (by decide) (q_solve hi hL hk h kk)
    | 24, _ => exact l_tableIn 834 dL_law_39 (by decide) (by decide) rfl (by decide) (q_sure hi hL hk h kk)
    | 25, _ => exact l_tableIn 847 dL_law_39 (by decide) (by decide) rfl (by decide) (q_points hi hL hk h kk)
    | 26, _ => exact l_tableIn 872 dL_law_39 (by decide) (by decide) rfl (by decide) (q_point hi hL hk h kk)
    | 27, _ => exact l_tableIn 909 dL_law_39 (by decide) (by decide) rfl (by decide) (q_table hi hL hk h kk)
    | 28, _ => exact l_tableIn 946 dL_law_39 (by decide) (by decide) rfl (by decide) (q_twice hi hL hk h kk)
    | 29, _ => exact l_tableIn 959 dL_law_39 (by decide) (by decide) rfl (by decide) (q_swap hi hL hk h kk)
    | 30, _ => exact l_tableIn 996 dL_law_39 (by decide) (by decide) rfl (by decide) (q_sign hi hL hk h kk)
    | 31, _ => exact l_tableIn 1033 dL_law_39 (by decide) (by decide) rfl (by decide) (q_product hi hL hk h kk)
    | 32, _ => exact l_tableIn 1070 dL_law_39 (by decide) (by decide) rfl (by decide) (q_look hi hL hk h kk)
    | 33, _ => exact l_tableIn 1095 dL_law_39 (by decide) (by decide) rfl (by decide) (q_fault hi hL hk h kk)
    | k + 34, c => exact absurd (Nat.le_add_left 34 k) c
theorem q_loop {L : Nat} {xs : Nat → Int32} (hL : L ≤ 2560) : ∀ (n i ck sk : Nat) (μ : Mm) (x y : Option Value), L < i + 5 * n + 5 → i ≤ L → ck + n + 2 ≤ 601024 → sk + 6 * n + 12 ≤ 7293034 → Rel μ → GL L xs ck sk μ 23 (LOC i x y) [] := by
  intro n
  induction n with
  | zero =>
    intro i ck sk μ x y h1 h2 h3 h4 h
    refine l_iload _ dL_law_23 rfl ?_
    refine l_aload_n 0 _ dL_law_25 rfl rfl ?_
    refine l_slen dL_law_26 ?_
    refine l_iconst (nI 5) dL_law_27 rfl ?_
    refine l_isub dL_law_28 ?_
    refine l_icmp_gt 1114 dL_law_29 (by decide) (fun _ => ?_) (fun h9 => ?_)
    · refine l_iconst 1 dL_law_1114 rfl ?_
      exact l_ret (by omega) (by omega) dL_law_1115
    · rw [fa_lt, nI_sub_toInt (by omega) (by omega), nI_toInt (by omega)] at h9
      omega
  | succ n ih =>
    intro i ck sk μ x y h1 h2 h3 h4 h
    refine l_iload _ dL_law_23 rfl ?_
    refine l_aload_n 0 _ dL_law_25 rfl rfl ?_
    refine l_slen dL_law_26 ?_
    refine l_iconst (nI 5) dL_law_27 rfl ?_
    refine l_isub dL_law_28 ?_
    refine l_icmp_gt 1114 dL_law_29 (by decide) (fun _ => ?_) (fun h9 => ?_)
    · refine l_iconst 1 dL_law_1114 rfl ?_
      exact l_ret (by omega) (by omega) dL_law_1115
    · rw [fa_lt, nI_sub_toInt (by omega) (by omega), nI_toInt (by omega)] at h9
      have hi : i + 5 ≤ L := by omega
      refine l_aload_n 0 _ dL_law_32 rfl rfl ?_
      refine l_iload _ dL_law_33 rfl ?_
      refine l_saload (j := i) rfl (by omega) hL dL_law_35 ?_
      refine l_bipush (nI 63) dL_law_36 rfl ?_
      refine l_iand dL_law_38 ?_
      obtain ⟨k, hk, ek⟩ := and63 (xs i)
      refine l_stk (by rw [ek]) ?_
      refine q_switch hi hL ⟨by omega, by omega⟩ ⟨by omega, by omega⟩ h (fun μ' x y h' => ?_) k hk
      refine l_iinc (LOC (i + 5) x y) dL_law_1108 rfl (nI_add i 5) (by decide) rfl rfl ?_
      exact l_goto 23 dL_law_1111 (by decide) (ih (i + 5) (ck + 1) (sk + 6) μ' x y (by omega) hi (by omega) (by omega) h')
