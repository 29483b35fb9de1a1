/-! HoleMaskModel: points -/
def mP (μ : Mm) (g : Nat → Int32) (t : Nat) : Mm := (fun k => if k = 41 then g else if k = 33 then upd (μ.1 33) 13 (nI t) else μ.1 k, μ.2)
theorem mP_41 (μ : Mm) (g : Nat → Int32) (t j : Nat) (x : Int32) : sI (mP μ g t) 41 j x = mP μ (upd g j x) t := by
  refine Prod.ext (funext fun k => ?_) rfl
  by_cases h : k = 41
  · subst h; simp [sI, mP]
  · simp [sI, mP, h]
theorem mP_33 (μ : Mm) (g : Nat → Int32) (t t' : Nat) : sI (mP μ g t) 33 13 (nI t') = mP μ g t' := by
  refine Prod.ext (funext fun k => ?_) rfl
  by_cases h : k = 33
  · subst h
    simp only [sI, mP]
    simp
    funext j
    unfold upd
    by_cases hj : j = 13 <;> simp [hj]
  · simp [sI, mP, h]
theorem mP_id (μ : Mm) (t : Nat) : sI μ 33 13 (nI t) = mP μ (μ.1 41) t := by
  refine Prod.ext (funext fun k => ?_) rfl
  by_cases h : k = 33
  · subst h; simp [sI, mP]
  · by_cases h1 : k = 41
    · subst h1; simp [sI, mP]
    · simp [sI, mP, h, h1]
abbrev ms37 (f : Nat → Int32) : Nat → Bool := fun s => decide (f s ≠ 0)
def Pr (μ : Mm) (n c : Nat) : Prop := μ.1 33 0 = nI n ∧ 1 ≤ n ∧ n ≤ 60 ∧ c ≤ 1000 ∧ (∀ s, s < n → -1 ≤ (μ.1 34 s).toInt ∧ (μ.1 34 s).toInt ≤ 1) ∧ ∀ s, s < n → -500000000 ≤ (μ.1 36 s).toInt ∧ (μ.1 36 s).toInt ≤ 500000000
theorem d_fits_l {μ : Mm} {n c p a q b : Nat} (hP : Pr μ n c) (hp : p < n) (hq : q < n) (ha : a ≤ 9) (hb : b ≤ 9) : ∀ (m s : Nat), s ≤ n → n < s + m → (∀ j, j < s → ms37 (μ.1 37) j = false → (-(c : Int) ≤ (a : Int) * (μ.1 34 ((p + n - j) % n)).toInt + (b : Int) * (μ.1 34 ((q + n - j) % n)).toInt - (μ.1 36 j).toInt ∧ (a : Int) * (μ.1 34 ((p + n - j) % n)).toInt + (b : Int) * (μ.1 34 ((q + n - j) % n)).toInt - (μ.1 36 j).toInt ≤ c)) → G mX6_fits (rmL 0) (some (.int (bI (ftP (μ.1 34) (μ.1 36) (ms37 (μ.1 37)) n c p a q b))), μ) μ 3 [some (.ref 33), some (.int (nI p)), some (.int (nI a)), some (.int (nI q)), some (.int (nI b)), some (.int (nI c)), some (.int (nI s)), none] [] := by
  obtain ⟨hn, h1, h60, hc, hmk, hrd⟩ := id hP
  intro m
  induction m with
  | zero => exact fun s h1 h2 => absurd h2 (by omega)
  | succ m ih =>
    intro s hs1 hs2 hj
    have m1 := Nat.mod_lt (p + n - s) (show n > 0 by omega)
    have m2 := Nat.mod_lt (q + n - s) (show n > 0 by omega)
    have k1 := hmk _ m1
    have k2 := hmk _ m2
    have ai : (nI a).toInt = a := nI_toInt (by omega)
    have bi : (nI b).toInt = b := nI_toInt (by omega)
    have ci : (nI c).toInt = c := nI_toInt (by omega)
    have nci : (-nI c).toInt = -(c : Int) := by rw [fb_negI, ci]; rw [ci]; omega
    generalize hA : (μ.1 34 ((p + n - s) % n)) = A at k1
    generalize hB : (μ.1 34 ((q + n - s) % n)) = B at k2
    have pa : -9 ≤ (a : Int) * A.toInt ∧ (a : Int) * A.toInt ≤ 9 := by
      rcases (show A.toInt = -1 ∨ A.toInt = 0 ∨ A.toInt = 1 by omega) with e | e | e <;> rw [e] <;> omega
    have pb : -9 ≤ (b : Int) * B.toInt ∧ (b : Int) * B.toInt ≤ 9 := by
      rcases (show B.toInt = -1 ∨ B.toInt = 0 ∨ B.toInt = 1 by omega) with e | e | e <;> rw [e] <;> omega
    have v1 : (nI a * A).toInt = (a : Int) * A.toInt := by rw [fb_mulI, ai] <;> rw [ai] <;> omega
    have v2 : (nI b * B).toInt = (b : Int) * B.toInt := by rw [fb_mulI, bi] <;> rw [bi] <;> omega
    have v3 : (nI a * A + nI b * B).toInt = (a : Int) * A.toInt + (b : Int) * B.toInt := by rw [fb_addI, v1, v2] <;> rw [v1, v2] <;> omega
    have v4 : s < n → (nI a * A + nI b * B - μ.1 36 s).toInt = (a : Int) * A.toInt + (b : Int) * B.toInt - (μ.1 36 s).toInt := fun h => by
      have := hrd s h
      rw [fb_subI, v3] <;> rw [v3] <;> omega
    refine g_iload _ dX6_fits_3 rfl ?_
    refine g_aload_n 0 _ dX6_fits_5 rfl rfl ?_
    refine gf_X6_7 rfl dX6_fits_6 ?_
    refine g_top (w := .int (nI n)) (congrArg Value.int hn) ?_
    refine g_icmp_geN 102 (by omega) (by omega) dX6_fits_9 (by decide) (fun h9 => ?_) (fun h9 => ?_)
    · refine g_iconst (nI 1) dX6_fits_102 rfl ?_
      exact g_ireturn dX6_fits_103 rfl rfl (by rw [bI_t (fun j hj2 => hj j (by omega))]; rfl)
    · refine g_aload_n 0 _ dX6_fits_12 rfl rfl ?_
      refine gf_X6_23 rfl dX6_fits_13 ?_
      refine g_iload _ dX6_fits_16 rfl ?_
      refine g_baload (j := s) isZ_37 (rfl) (by omega) (by omega) dX6_fits_18 ?_
      refine g_if_eq 25 dX6_fits_19 (by decide) (fun h19 => ?_) (fun h19 => ?_)
      · refine g_iload_n 2 _ dX6_fits_25 rfl rfl ?_
        refine g_aload_n 0 _ dX6_fits_26 rfl rfl ?_
        refine gf_X6_13 rfl dX6_fits_27 ?_
        refine g_iload_n 1 _ dX6_fits_30 rfl rfl ?_
        refine g_iload _ dX6_fits_31 rfl ?_
        refine g_isub dX6_fits_33 ?_
        refine g_aload_n 0 _ dX6_fits_34 rfl rfl ?_
        refine g_at 35 rfl ?_
        refine gf_X6_7 rfl dX6_fits_35 ?_
        refine g_top (w := .int (nI n)) (congrArg Value.int hn) ?_
        refine g_iadd dX6_fits_38 ?_
        refine g_top (w := .int (nI (p + n - s))) (congrArg Value.int (sub_add_nI (by omega))) ?_
        refine g_aload_n 0 _ dX6_fits_39 rfl rfl ?_
        refine gf_X6_7 rfl dX6_fits_40 ?_
        refine g_top (w := .int (nI n)) (congrArg Value.int hn) ?_
        refine g_iremN (by omega) (by omega) (by omega) dX6_fits_43 ?_
        refine g_iaload (j := (p + n - s) % n) isI_34 (rfl) (by omega) (by omega) dX6_fits_44 ?_
        refine g_top (w := .int A) (congrArg Value.int hA) ?_
        refine g_imul dX6_fits_45 ?_
        refine g_iload _ dX6_fits_46 rfl ?_
        refine g_at 48 rfl ?_
        refine g_aload_n 0 _ dX6_fits_48 rfl rfl ?_
        refine gf_X6_13 rfl dX6_fits_49 ?_
        refine g_iload_n 3 _ dX6_fits_52 rfl rfl ?_
        refine g_iload _ dX6_fits_53 rfl ?_
        refine g_isub dX6_fits_55 ?_
        refine g_aload_n 0 _ dX6_fits_56 rfl rfl ?_
        refine gf_X6_7 rfl dX6_fits_57 ?_
        refine g_top (w := .int (nI n)) (congrArg Value.int hn) ?_
        refine g_iadd dX6_fits_60 ?_
        refine g_top (w := .int (nI (q + n - s))) (congrArg Value.int (sub_add_nI (by omega))) ?_
        refine g_at 61 rfl ?_
        refine g_aload_n 0 _ dX6_fits_61 rfl rfl ?_
        refine gf_X6_7 rfl dX6_fits_62 ?_
        refine g_top (w := .int (nI n)) (congrArg Value.int hn) ?_
        refine g_iremN (by omega) (by omega) (by omega) dX6_fits_65 ?_
        refine g_iaload (j := (q + n - s) % n) isI_34 (rfl) (by omega) (by omega) dX6_fits_66 ?_
        refine g_top (w := .int B) (congrArg Value.int hB) ?_
        refine g_imul dX6_fits_67 ?_
        refine g_iadd dX6_fits_68 ?_
        refine g_aload_n 0 _ dX6_fits_69 rfl rfl ?_
        refine gf_X6_20 rfl dX6_fits_70 ?_
        refine g_at 73 rfl ?_
        refine g_iload _ dX6_fits_73 rfl ?_
        refine g_iaload (j := s) isI_36 (rfl) (by omega) (by omega) dX6_fits_75 ?_
        refine g_isub dX6_fits_76 ?_
        refine g_istore [some (.ref 33), some (.int (nI p)), some (.int (nI a)), some (.int (nI q)), some (.int (nI b)), some (.int (nI c)), some (.int (nI s)), some (.int ((((nI a) * A) + ((nI b) * B)) - (μ.1 36 s)))] dX6_fits_77 (Nat.le_of_ble_eq_true rfl) rfl rfl ?_
        refine g_iload _ dX6_fits_79 rfl ?_
        refine g_iload _ dX6_fits_81 rfl ?_
        refine g_icmp_gt 94 dX6_fits_83 (by decide) (fun h83 => ?_) (fun h83 => ?_)
        · refine g_iconst (nI 0) dX6_fits_94 rfl ?_
          exact g_ireturn dX6_fits_95 rfl rfl (by rw [bI_f (fun q => by have z := v4 (by omega); have q9 := q s (by omega) (by simp [ms37]; exact h19); rw [hA, hB] at q9; first | (rw [fa_lt, ci] at h83; omega) | (rw [fa_le, nci] at h91; omega))]; rfl)
        · refine g_iload _ dX6_fits_86 rfl ?_
          refine g_iload _ dX6_fits_88 rfl ?_
          refine g_ineg dX6_fits_90 ?_
          refine g_icmp_ge 96 dX6_fits_91 (by decide) (fun h91 => ?_) (fun h91 => ?_)
          · refine g_iincN [some (.ref 33), some (.int (nI p)), some (.int (nI a)), some (.int (nI q)), some (.int (nI b)), some (.int (nI c)), some (.int (nI (s + 1))), some (.int ((((nI a) * A) + ((nI b) * B)) - (μ.1 36 s)))] dX6_fits_96 rfl (Nat.le_of_ble_eq_true rfl) rfl rfl ?_
            refine g_goto 3 dX6_fits_99 (by decide) ?_
            first | exact ih (s + 1) (by omega) (by omega) (fun j hj2 hm => (Nat.lt_succ_iff_lt_or_eq.mp hj2).elim (fun q => hj j q hm) (fun e => absurd hm (by subst e; simp [ms37]; exact h19))) | exact g_drop 7 _ rfl (ih (s + 1) (by omega) (by omega) (fun j hj2 hm => (Nat.lt_succ_iff_lt_or_eq.mp hj2).elim (fun q => hj j q hm) (fun e => by subst e; rw [hA, hB]; have z := v4 (by omega); rw [fa_lt, ci] at h83; rw [fa_le, nci] at h91; omega)))
          · refine g_iconst (nI 0) dX6_fits_94 rfl ?_
            exact g_ireturn dX6_fits_95 rfl rfl (by rw [bI_f (fun q => by have z := v4 (by omega); have q9 := q s (by omega) (by simp [ms37]; exact h19); rw [hA, hB] at q9; first | (rw [fa_lt, ci] at h83; omega) | (rw [fa_le, nci] at h91; omega))]; rfl)
      · refine g_goto 96 dX6_fits_22 (by decide) ?_
        refine g_iincN [some (.ref 33), some (.int (nI p)), some (.int (nI a)), some (.int (nI q)), some (.int (nI b)), some (.int (nI c)), some (.int (nI (s + 1))), none] dX6_fits_96 rfl (Nat.le_of_ble_eq_true rfl) rfl rfl ?_
        refine g_goto 3 dX6_fits_99 (by decide) ?_
        first | exact ih (s + 1) (by omega) (by omega) (fun j hj2 hm => (Nat.lt_succ_iff_lt_or_eq.mp hj2).elim (fun q => hj j q hm) (fun e => absurd hm (by subst e; simp [ms37]; exact h19))) | exact g_drop 7 _ rfl (ih (s + 1) (by omega) (by omega) (fun j hj2 hm => (Nat.lt_succ_iff_lt_or_eq.mp hj2).elim (fun q => hj j q hm) (fun e => by subst e; rw [hA, hB]; have z := v4 (by omega); rw [fa_lt, ci] at h83; rw [fa_le, nci] at h91; omega)))
theorem d_fits (μ : Mm) {n c p a q b : Nat} (hP : Pr μ n c) (hp : p < n) (hq : q < n) (ha : a ≤ 9) (hb : b ≤ 9) : Ok mX6_fits (rmL 0) [.ref 33, .int (nI p), .int (nI a), .int (nI q), .int (nI b), .int (nI c)] μ (some (.int (bI (ftP (μ.1 34) (μ.1 36) (ms37 (μ.1 37)) n c p a q b))), μ) := by
  refine Ok.of (by decide) (Nat.le_of_ble_eq_true rfl) [some (.ref 33), some (.int (nI p)), some (.int (nI a)), some (.int (nI q)), some (.int (nI b)), some (.int (nI c)), none, none] rfl ?_
  refine g_iconst (nI 0) dX6_fits_0 rfl ?_
  refine g_istore [some (.ref 33), some (.int (nI p)), some (.int (nI a)), some (.int (nI q)), some (.int (nI b)), some (.int (nI c)), some (.int (nI 0)), none] dX6_fits_1 (Nat.le_of_ble_eq_true rfl) rfl rfl ?_
  exact d_fits_l hP hp hq ha hb (n + 1) 0 (by omega) (by omega) (fun j h => absurd h (by omega))
theorem d_note (μ : Mm) (g : Nat → Int32) {t : Nat} (ht : t < 2 ^ 31) (q : Qd) : Ok mX6_note (rmL 0) [.ref 33, .int q.1, .int q.2.1, .int q.2.2.1, .int q.2.2.2] (mP μ g t) (none, mP μ (tlF g t q) (t + 1)) := by
  obtain ⟨q1, q2, q3, q4⟩ := q
  refine Ok.of (by decide) (Nat.le_of_ble_eq_true rfl) [some (.ref 33), some (.int q1), some (.int q2), some (.int q3), some (.int q4)] rfl ?_
  have e : t < 200 → sI (sI (sI (sI (mP μ g t) 41 (4 * t) q1) 41 (4 * t + 1) q2) 41 (4 * t + 2) q3) 41 (4 * t + 3) q4 = mP μ (tlF g t (q1, q2, q3, q4)) t := fun h => by
    rw [mP_41, mP_41, mP_41, mP_41]; unfold tlF; rw [if_pos h, Nat.mul_comm 4 t]; rfl
  have e2 : ¬ t < 200 → mP μ g t = mP μ (tlF g t (q1, q2, q3, q4)) t := fun h => by unfold tlF; rw [if_neg h]
  refine g_aload_n 0 _ dX6_note_0 rfl rfl ?_
  refine gf_X6_104 rfl dX6_note_1 ?_
  refine g_top (w := .int (nI t)) (congrArg Value.int rfl) ?_
  refine g_sipush (nI 200) dX6_note_4 rfl ?_
  refine g_icmp_geN 65 (by omega) (by omega) dX6_note_7 (by decide) (fun h7 => ?_) (fun h7 => ?_)
  · refine g_mem (μ' := mP μ (tlF g t (q1, q2, q3, q4)) t) (by first | exact e h7 | exact e2 (by omega)) ?_
    refine g_aload_n 0 _ dX6_note_65 rfl rfl ?_
    refine g_dup dX6_note_66 rfl ?_
    refine gf_X6_104 rfl dX6_note_67 ?_
    refine g_top (w := .int (nI t)) (congrArg Value.int rfl) ?_
    refine g_iconst (nI 1) dX6_note_70 rfl ?_
    refine g_iaddN dX6_note_71 ?_
    refine gp_X6_104 rfl dX6_note_72 ?_
    exact g_return dX6_note_75 rfl (by rw [mP_33])
  · refine g_aload_n 0 _ dX6_note_10 rfl rfl ?_
    refine gf_X6_43 rfl dX6_note_11 ?_
    refine g_iconst (nI 4) dX6_note_14 rfl ?_
    refine g_aload_n 0 _ dX6_note_15 rfl rfl ?_
    refine gf_X6_104 rfl dX6_note_16 ?_
    refine g_top (w := .int (nI t)) (congrArg Value.int rfl) ?_
    refine g_imulN dX6_note_19 ?_
    refine g_iload_n 1 _ dX6_note_20 rfl rfl ?_
    refine g_at 21 rfl ?_
    refine g_iastore (j := 4 * t) isI_41 (rfl) (by omega) (by omega) dX6_note_21 ?_
    refine g_aload_n 0 _ dX6_note_22 rfl rfl ?_
    refine gf_X6_43 rfl dX6_note_23 ?_
    refine g_iconst (nI 4) dX6_note_26 rfl ?_
    refine g_aload_n 0 _ dX6_note_27 rfl rfl ?_
    refine gf_X6_104 rfl dX6_note_28 ?_
    refine g_top (w := .int (nI t)) (congrArg Value.int rfl) ?_
    refine g_imulN dX6_note_31 ?_
    refine g_iconst (nI 1) dX6_note_32 rfl ?_
    refine g_at 33 rfl ?_
    refine g_iaddN dX6_note_33 ?_
    refine g_iload_n 2 _ dX6_note_34 rfl rfl ?_
    refine g_iastore (j := 4 * t + 1) isI_41 (rfl) (by omega) (by omega) dX6_note_35 ?_
    refine g_aload_n 0 _ dX6_note_36 rfl rfl ?_
    refine gf_X6_43 rfl dX6_note_37 ?_
    refine g_iconst (nI 4) dX6_note_40 rfl ?_
    refine g_aload_n 0 _ dX6_note_41 rfl rfl ?_
    refine gf_X6_104 rfl dX6_note_42 ?_
    refine g_top (w := .int (nI t)) (congrArg Value.int rfl) ?_
    refine g_at 45 rfl ?_
    refine g_imulN dX6_note_45 ?_
    refine g_iconst (nI 2) dX6_note_46 rfl ?_
    refine g_iaddN dX6_note_47 ?_
    refine g_iload_n 3 _ dX6_note_48 rfl rfl ?_
    refine g_iastore (j := 4 * t + 2) isI_41 (rfl) (by omega) (by omega) dX6_note_49 ?_
    refine g_aload_n 0 _ dX6_note_50 rfl rfl ?_
    refine gf_X6_43 rfl dX6_note_51 ?_
    refine g_iconst (nI 4) dX6_note_54 rfl ?_
    refine g_at 55 rfl ?_
    refine g_aload_n 0 _ dX6_note_55 rfl rfl ?_
    refine gf_X6_104 rfl dX6_note_56 ?_
    refine g_top (w := .int (nI t)) (congrArg Value.int rfl) ?_
    refine g_imulN dX6_note_59 ?_
    refine g_iconst (nI 3) dX6_note_60 rfl ?_
    refine g_iaddN dX6_note_61 ?_
    refine g_iload _ dX6_note_62 rfl ?_
    refine g_iastore (j := 4 * t + 3) isI_41 (rfl) (by omega) (by omega) dX6_note_64 ?_
    refine g_mem (μ' := mP μ (tlF g t (q1, q2, q3, q4)) t) (by first | exact e h7 | exact e2 (by omega)) ?_
    refine g_aload_n 0 _ dX6_note_65 rfl rfl ?_
    refine g_at 66 rfl ?_
    refine g_dup dX6_note_66 rfl ?_
    refine gf_X6_104 rfl dX6_note_67 ?_
    refine g_top (w := .int (nI t)) (congrArg Value.int rfl) ?_
    refine g_iconst (nI 1) dX6_note_70 rfl ?_
    refine g_iaddN dX6_note_71 ?_
    refine gp_X6_104 rfl dX6_note_72 ?_
    exact g_return dX6_note_75 rfl (by rw [mP_33])
