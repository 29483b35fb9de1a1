/-! HoleMaskModel: points -/
def mP (μ : Mm) (g : Nat → Int32) (t : Nat) : Mm := (fun k => if k = 41 then g else if k = 33 then upd (μ.1 33) 13 (nI t) else μ.1 k, μ.2)
theorem mP_41 (μ : Mm) (g : Nat → Int32) (t j : Nat) (x : Int32) : sI (mP μ g t) 41 j x = mP μ (upd g j x) t := by
  refine Prod.ext (funext fun k => ?_) rfl
  by_cases h : k = 41
  · subst h; simp [sI, mP]
  · simp [sI, mP, h]
theorem mP_33 (μ : Mm) (g : Nat → Int32) (t t' : Nat) : sI (mP μ g t) 33 13 (nI t') = mP μ g t' := by
  refine Prod.ext (funext fun k => ?_) rfl
  by_cases h : k = 33
  · subst h
    simp only [sI, mP]
    simp
    funext j
    unfold upd
    by_cases hj : j = 13 <;> simp [hj]
  · simp [sI, mP, h]
theorem mP_id (μ : Mm) (t : Nat) : sI μ 33 13 (nI t) = mP μ (μ.1 41) t := by
  refine Prod.ext (funext fun k => ?_) rfl
  by_cases h : k = 33
  · subst h; simp [sI, mP]
  · by_cases h1 : k = 41
    · subst h1; simp [sI, mP]
    · simp [sI, mP, h, h1]
abbrev ms37 (f : Nat → Int32) : Nat → Bool := fun s => decide (f s ≠ 0)
def Pr (μ : Mm) (n c : Nat) : Prop := μ.1 33 0 = nI n ∧ 1 ≤ n ∧ n ≤ 60 ∧ c ≤ 1000 ∧ (∀ s, s < n → -1 ≤ (μ.1 34 s).toInt ∧ (μ.1 34 s).toInt ≤ 1) ∧ ∀ s, s < n → -500000000 ≤ (μ.1 36 s).toInt ∧ (μ.1 36 s).toInt ≤ 500000000
theorem d_fits_l {μ : Mm} {n c p a q b : Nat} (hP : Pr μ n c) (hp : p < n) (hq : q < n) (ha : a ≤ 9) (hb : b ≤ 9) : ∀ (m s : Nat), s ≤ n → n < s + m → (∀ j, j < s → ms37 (μ.1 37) j = false → (-(c : Int) ≤ (a : Int) * (μ.1 34 ((p + n - j) % n)).toInt + (b : Int) * (μ.1 34 ((q + n - j) % n)).toInt - (μ.1 36 j).toInt ∧ (a : Int) * (μ.1 34 ((p + n - j) % n)).toInt + (b : Int) * (μ.1 34 ((q + n - j) % n)).toInt - (μ.1 36 j).toInt ≤ c)) → G mX6_fits (rmL 0) (some (.int (bI (ftP (μ.1 34) (μ.1 36) (ms37 (μ.1 37)) n c p a q b))), μ) μ 3 [some (.ref 33), some (.int (nI p)), some (.int (nI a)), some (.int (nI q)), some (.int (nI b)), some (.int (nI c)), some (.int (nI s)), none] [] := by
  obtain ⟨hn, h1, h60, hc, hmk, hrd⟩ := id hP
  intro m
  induction m with
  | zero => exact fun s h1 h2 => absurd h2 (by omega)
  | succ m ih =>
    intro s hs1 hs2 hj
    have m1 := Nat.mod_lt (p + n - s) (show n > 0 by omega)
    have m2 := Nat.mod_lt (q + n - s) (show n > 0 by omega)
    have k1 := hmk _ m1
    have k2 := hmk _ m2
    have ai : (nI a).toInt = a := nI_toInt (by omega)
    have bi : (nI b).toInt = b := nI_toInt (by omega)
    have ci : (nI c).toInt = c := nI_toInt (by omega)
    have nci : (-nI c).toInt = -(c : Int) := by rw [fb_negI, ci]; rw [ci]; omega
    generalize hA : (μ.1 34 ((p + n - s) % n)) = A at k1
    generalize hB : (μ.1 34 ((q + n - s) % n)) = B at k2
    have pa : -9 ≤ (a : Int) * A.toInt ∧ (a : Int) * A.toInt ≤ 9 := by
      rcases (show A.toInt = -1 ∨ A.toInt = 0 ∨ A.toInt = 1 by omega) with e | e | e <;> rw [e] <;> omega
    have pb : -9 ≤ (b : Int) * B.toInt ∧ (b : Int) * B.toInt ≤ 9 := by
      rcases (show B.toInt = -1 ∨ B.toInt = 0 ∨ B.toInt = 1 by omega) with e | e | e <;> rw [e] <;> omega
    have v1 : (nI a * A).toInt = (a : Int) * A.toInt := by rw [fb_mulI, ai] <;> rw [ai] <;> omega
    have v2 : (nI b * B).toInt = (b : Int) * B.toInt := by rw [fb_mulI, bi] <;> rw [bi] <;> omega
    have v3 : (nI a * A + nI b * B).toInt = (a : Int) * A.toInt + (b : Int) * B.toInt := by rw [fb_addI, v1, v2] <;> rw [v1, v2] <;> omega
    have v4 : s < n → (nI a * A + nI b * B - μ.1 36 s).toInt = (a : Int) * A.toInt + (b : Int) * B.toInt - (μ.1 36 s).toInt := fun h => by
      have := hrd s h
      rw [fb_subI, v3] <;> rw [v3] <;> omega
    refine g_iload _ dX6_fits_3 rfl ?_
    refine g_aload_n 0 _ dX6_fits_5 rfl rfl ?_
    refine gf_X6_7 rfl dX6_fits_6 ?_
    refine g_top (w := .int (nI n)) (congrArg Value.int hn) ?_
    refine g_icmp_geN 102 (by omega) (by omega) dX6_fits_9 (by decide) (fun h9 => ?_) (fun h9 => ?_)
    · refine g_iconst (nI 1) dX6_fits_102 rfl ?_
      exact g_ireturn dX6_fits_103 rfl rfl (by rw [bI_t (fun j hj2 => hj j (by omega))]; rfl)
    · refine g_aload_n 0 _ dX6_fits_12 rfl rfl ?_
      refine gf_X6_23 rfl dX6_fits_13 ?_
      refine g_iload _ dX6_fits_16 rfl ?_
      refine g_baload (j := s) isZ_37 (rfl) (by omega) (by omega) dX6_fits_18 ?_
      refine g_if_eq 25 dX6_fits_19 (by decide) (fun h19 => ?_) (fun h19 => ?_)
      · refine g_iload_n 2 _ dX6_fits_25 rfl rfl ?_
        refine g_aload_n 0 _ dX6_fits_26 rfl rfl ?_
        refine gf_X6_13 rfl dX6_fits_27 ?_
        refine g_iload_n 1 _ dX6_fits_30 rfl rfl ?_
        refine g_iload _ dX6_fits_31 rfl ?_
        refine g_isub dX6_fits_33 ?_
        refine g_aload_n 0 _ dX6_fits_34 rfl rfl ?_
        refine g_at 35 rfl ?_
        refine gf_X6_7 rfl dX6_fits_35 ?_
        refine g_top (w := .int (nI n)) (congrArg Value.int hn) ?_
        refine g_iadd dX6_fits_38 ?_
        refine g_top (w := .int (nI (p + n - s))) (congrArg Value.int (sub_add_nI (by omega))) ?_
        refine g_aload_n 0 _ dX6_fits_39 rfl rfl ?_
        refine gf_X6_7 rfl dX6_fits_40 ?_
        refine g_top (w := .int (nI n)) (congrArg Value.int hn) ?_
        refine g_iremN (by omega) (by omega) (by omega) dX6_fits_43 ?_
        refine g_iaload (j := (p + n - s) % n) isI_34 (rfl) (by omega) (by omega) dX6_fits_44 ?_
        refine g_top (w := .int A) (congrArg Value.int hA) ?_
        refine g_imul dX6_fits_45 ?_
        refine g_iload _ dX6_fits_46 rfl ?_
        refine g_at 48 rfl ?_
        refine g_aload_n 0 _ dX6_fits_48 rfl rfl ?_
        refine gf_X6_13 rfl dX6_fits_49 ?_
        refine g_iload_n 3 _ dX6_fits_52 rfl rfl ?_
        refine g_iload _ dX6_fits_53 rfl ?_
        refine g_isub dX6_fits_55 ?_
        refine g_aload_n 0 _ dX6_fits_56 rfl rfl ?_
        refine gf_X6_7 rfl dX6_fits_57 ?_
        refine g_top (w := .int (nI n)) (congrArg Value.int hn) ?_
        refine g_iadd dX6_fits_60 ?_
        refine g_top (w := .int (nI (q + n - s))) (congrArg Value.int (sub_add_nI (by omega))) ?_
        refine g_at 61 rfl ?_
        refine g_aload_n 0 _ dX6_fits_61 rfl rfl ?_
        refine gf_X6_7 rfl dX6_fits_62 ?_
        refine g_top (w := .int (nI n)) (congrArg Value.int hn) ?_
        refine g_iremN (by omega) (by omega) (by omega) dX6_fits_65 ?_
        refine g_iaload (j := (q + n - s) % n) isI_34 (rfl) (by omega) (by omega) dX6_fits_66 ?_
        refine g_top (w := .int B) (congrArg Value.int hB) ?_
        refine g_imul dX6_fits_67 ?_
        refine g_iadd dX6_fits_68 ?_
        refine g_aload_n 0 _ dX6_fits_69 rfl rfl ?_
        refine gf_X6_20 rfl dX6_fits_70 ?_
        refine g_at 73 rfl ?_
        refine g_iload _ dX6_fits_73 rfl ?_
        refine g_iaload (j := s) isI_36 (rfl) (by omega) (by omega) dX6_fits_75 ?_
        refine g_isub dX6_fits_76 ?_
        refine g_istore [some (.ref 33), some (.int (nI p)), some (.int (nI a)), some (.int (nI q)), some (.int (nI b)), some (.int (nI c)), some (.int (nI s)), some (.int ((((nI a) * A) + ((nI b) * B)) - (μ.1 36 s)))] dX6_fits_77 (Nat.le_of_ble_eq_true rfl) rfl rfl ?_
        refine g_iload _ dX6_fits_79 rfl ?_
        refine g_iload _ dX6_fits_81 rfl ?_
        refine g_icmp_gt 94 dX6_fits_83 (by decide) (fun h83 => ?_) (fun h83 => ?_)
        · refine g_iconst (nI 0) dX6_fits_94 rfl ?_
          exact g_ireturn dX6_fits_95 rfl rfl (by rw [bI_f (fun q => by have z := v4 (by omega); have q9 := q s (by omega) (by simp [ms37]; exact h19); rw [hA, hB] at q9; first | (rw [fa_lt, ci] at h83; omega) | (rw [fa_le, nci] at h91; omega))]; rfl)
        · refine g_iload _ dX6_fits_86 rfl ?_
          refine g_iload _ dX6_fits_88 rfl ?_
          refine g_ineg dX6_fits_90 ?_
          refine g_icmp_ge 96 dX6_fits_91 (by decide) (fun h91 => ?_) (fun h91 => ?_)
          · refine g_iincN [some (.ref 33), some (.int (nI p)), some (.int (nI a)), some (.int (nI q)), some (.int (nI b)), some (.int (nI c)), some (.int (nI (s + 1))), some (.int ((((nI a) * A) + ((nI b) * B)) - (μ.1 36 s)))] dX6_fits_96 rfl (Nat.le_of_ble_eq_true rfl) rfl rfl ?_
            refine g_goto 3 dX6_fits_99 (by decide) ?_
            first | exact ih (s + 1) (by omega) (by omega) (fun j hj2 hm => (Nat.lt_succ_iff_lt_or_eq.mp hj2).elim (fun q => hj j q hm) (fun e => absurd hm (by subst e; simp [ms37]; exact h19))) | exact g_drop 7 _ rfl (ih (s + 1) (by omega) (by omega) (fun j hj2 hm => (Nat.lt_succ_iff_lt_or_eq.mp hj2).elim (fun q => hj j q hm) (fun e => by subst e; rw [hA, hB]; have z := v4 (by omega); rw [fa_lt, ci] at h83; rw [fa_le, nci] at h91; omega)))
          · refine g_iconst (nI 0) dX6_fits_94 rfl ?_
            exact g_ireturn dX6_fits_95 rfl rfl (by rw [bI_f (fun q => by have z := v4 (by omega); have q9 := q s (by omega) (by simp [ms37]; exact h19); rw [hA, hB] at q9; first | (rw [fa_lt, ci] at h83; omega) | (rw [fa_le, nci] at h91; omega))]; rfl)
      · refine g_goto 96 dX6_fits_22 (by decide) ?_
        refine g_iincN [some (.ref 33), some (.int (nI p)), some (.int (nI a)), some (.int (nI q)), some (.int (nI b)), some (.int (nI c)), some (.int (nI (s + 1))), none] dX6_fits_96 rfl (Nat.le_of_ble_eq_true rfl) rfl rfl ?_
        refine g_goto 3 dX6_fits_99 (by decide) ?_
        first | exact ih (s + 1) (by omega) (by omega) (fun j hj2 hm => (Nat.lt_succ_iff_lt_or_eq.mp hj2).elim (fun q => hj j q hm) (fun e => absurd hm (by subst e; simp [ms37]; exact h19))) | exact g_drop 7 _ rfl (ih (s + 1) (by omega) (by omega) (fun j hj2 hm => (Nat.lt_succ_iff_lt_or_eq.mp hj2).elim (fun q => hj j q hm) (fun e => by subst e; rw [hA, hB]; have z := v4 (by omega); rw [fa_lt, ci] at h83; rw [fa_le, nci] at h91; omega)))
theorem d_fits (μ : Mm) {n c p a q b : Nat} (hP : Pr μ n c) (hp : p < n) (hq : q < n) (ha : a ≤ 9) (hb : b ≤ 9) : Ok mX6_fits (rmL 0) [.ref 33, .int (nI p), .int (nI a), .int (nI q), .int (nI b), .int (nI c)] μ (some (.int (bI (ftP (μ.1 34) (μ.1 36) (ms37 (μ.1 37)) n c p a q b))), μ) := by
  refine Ok.of (by decide) (Nat.le_of_ble_eq_true rfl) [some (.ref 33), some (.int (nI p)), some (.int (nI a)), some (.int (nI q)), some (.int (nI b)), some (.int (nI c)), none, none] rfl ?_
  refine g_iconst (nI 0) dX6_fits_0 rfl ?_
  refine g_istore [some (.ref 33), some (.int (nI p)), some (.int (nI a)), some (.int (nI q)), some (.int (nI b)), some (.int (nI c)), some (.int (nI 0)), none] dX6_fits_1 (Nat.le_of_ble_eq_true rfl) rfl rfl ?_
  exact d_fits_l hP hp hq ha hb (n + 1) 0 (by omega) (by omega) (fun j h => absurd h (by omega))
theorem d_note (μ : Mm) (g : Nat → Int32) {t : Nat} (ht : t < 2 ^ 31) (q : Qd) : Ok mX6_note (rmL 0) [.ref 33, .int q.1, .int q.2.1, .int q.2.2.1, .int q.2.2.2] (mP μ g t) (none, mP μ (tlF g t q) (t + 1)) := by
  obtain ⟨q1, q2, q3, q4⟩ := q
  refine Ok.of (by decide) (Nat.le_of_ble_eq_true rfl) [some (.ref 33), some (.int q1), some (.int q2), some (.int q3), some (.int q4)] rfl ?_
  have e : t < 200 → sI (sI (sI (sI (mP μ g t) 41 (4 * t) q1) 41 (4 * t + 1) q2) 41 (4 * t + 2) q3) 41 (4 * t + 3) q4 = mP μ (tlF g t (q1, q2, q3, q4)) t := fun h => by
    rw [mP_41, mP_41, mP_41, mP_41]; unfold tlF; rw [if_pos h, Nat.mul_comm 4 t]; rfl
  have e2 : ¬ t < 200 → mP μ g t = mP μ (tlF g t (q1, q2, q3, q4)) t := fun h => by unfold tlF; rw [if_neg h]
  refine g_aload_n 0 _ dX6_note_0 rfl rfl ?_
  refine gf_X6_104 rfl dX6_note_1 ?_
  refine g_top (w := .int (nI t)) (congrArg Value.int rfl) ?_
  refine g_sipush (nI 200) dX6_note_4 rfl ?_
  refine g_icmp_geN 65 (by omega) (by omega) dX6_note_7 (by decide) (fun h7 => ?_) (fun h7 => ?_)
  · refine g_mem (μ' := mP μ (tlF g t (q1, q2, q3, q4)) t) (by first | exact e h7 | exact e2 (by omega)) ?_
    refine g_aload_n 0 _ dX6_note_65 rfl rfl ?_
    refine g_dup dX6_note_66 rfl ?_
    refine gf_X6_104 rfl dX6_note_67 ?_
    refine g_top (w := .int (nI t)) (congrArg Value.int rfl) ?_
    refine g_iconst (nI 1) dX6_note_70 rfl ?_
    refine g_iaddN dX6_note_71 ?_
    refine gp_X6_104 rfl dX6_note_72 ?_
    exact g_return dX6_note_75 rfl (by rw [mP_33])
  · refine g_aload_n 0 _ dX6_note_10 rfl rfl ?_
    refine gf_X6_43 rfl dX6_note_11 ?_
    refine g_iconst (nI 4) dX6_note_14 rfl ?_
    refine g_aload_n 0 _ dX6_note_15 rfl rfl ?_
    refine gf_X6_104 rfl dX6_note_16 ?_
    refine g_top (w := .int (nI t)) (congrArg Value.int rfl) ?_
    refine g_imulN dX6_note_19 ?_
    refine g_iload_n 1 _ dX6_note_20 rfl rfl ?_
    refine g_at 21 rfl ?_
    refine g_iastore (j := 4 * t) isI_41 (rfl) (by omega) (by omega) dX6_note_21 ?_
    refine g_aload_n 0 _ dX6_note_22 rfl rfl ?_
    refine gf_X6_43 rfl dX6_note_23 ?_
    refine g_iconst (nI 4) dX6_note_26 rfl ?_
    refine g_aload_n 0 _ dX6_note_27 rfl rfl ?_
    refine gf_X6_104 rfl dX6_note_28 ?_
    refine g_top (w := .int (nI t)) (congrArg Value.int rfl) ?_
    refine g_imulN dX6_note_31 ?_
    refine g_iconst (nI 1) dX6_note_32 rfl ?_
    refine g_at 33 rfl ?_
    refine g_iaddN dX6_note_33 ?_
    refine g_iload_n 2 _ dX6_note_34 rfl rfl ?_
    refine g_iastore (j := 4 * t + 1) isI_41 (rfl) (by omega) (by omega) dX6_note_35 ?_
    refine g_aload_n 0 _ dX6_note_36 rfl rfl ?_
    refine gf_X6_43 rfl dX6_note_37 ?_
    refine g_iconst (nI 4) dX6_note_40 rfl ?_
    refine g_aload_n 0 _ dX6_note_41 rfl rfl ?_
    refine gf_X6_104 rfl dX6_note_42 ?_
    refine g_top (w := .int (nI t)) (congrArg Value.int rfl) ?_
    refine g_at 45 rfl ?_
    refine g_imulN dX6_note_45 ?_
    refine g_iconst (nI 2) dX6_note_46 rfl ?_
    refine g_iaddN dX6_note_47 ?_
    refine g_iload_n 3 _ dX6_note_48 rfl rfl ?_
    refine g_iastore (j := 4 * t + 2) isI_41 (rfl) (by omega) (by omega) dX6_note_49 ?_
    refine g_aload_n 0 _ dX6_note_50 rfl rfl ?_
    refine gf_X6_43 rfl dX6_note_51 ?_
    refine g_iconst (nI 4) dX6_note_54 rfl ?_
    refine g_at 55 rfl ?_
    refine g_aload_n 0 _ dX6_note_55 rfl rfl ?_
    refine gf_X6_104 rfl dX6_note_56 ?_
    refine g_top (w := .int (nI t)) (congrArg Value.int rfl) ?_
    refine g_imulN dX6_note_59 ?_
    refine g_iconst (nI 3) dX6_note_60 rfl ?_
    refine g_iaddN dX6_note_61 ?_
    refine g_iload _ dX6_note_62 rfl ?_
    refine g_iastore (j := 4 * t + 3) isI_41 (rfl) (by omega) (by omega) dX6_note_64 ?_
    refine g_mem (μ' := mP μ (tlF g t (q1, q2, q3, q4)) t) (by first | exact e h7 | exact e2 (by omega)) ?_
    refine g_aload_n 0 _ dX6_note_65 rfl rfl ?_
    refine g_at 66 rfl ?_
    refine g_dup dX6_note_66 rfl ?_
    refine gf_X6_104 rfl dX6_note_67 ?_
    refine g_top (w := .int (nI t)) (congrArg Value.int rfl) ?_
    refine g_iconst (nI 1) dX6_note_70 rfl ?_
    refine g_iaddN dX6_note_71 ?_
    refine gp_X6_104 rfl dX6_note_72 ?_
    exact g_return dX6_note_75 rfl (by rw [mP_33])
theorem d_p4 {μ : Mm} {n c p h q : Nat} (hP : Pr μ n c) (hp : p < n) (hq : q < n) (hh9 : h ≤ 9) : ∀ (m k : Nat) (l : List Qd) (g : Nat → Int32), k + m = 10 → Told l g → (l ++ lpF (sq2 (μ.1 34) (μ.1 36) (ms37 (μ.1 37)) n c p h q) k m).length < 2000000000 → ∃ g', Told (l ++ lpF (sq2 (μ.1 34) (μ.1 36) (ms37 (μ.1 37)) n c p h q) k m) g' ∧ ∀ R, G mX6_points (rmL 1) R (mP μ g' (l ++ lpF (sq2 (μ.1 34) (μ.1 36) (ms37 (μ.1 37)) n c p h q) k m).length) 168 [some (.ref 33), some (.int (nI c)), some (.int (nI p)), some (.int (nI h)), some (.int (nI q)), some (.int (nI 10))] [] → G mX6_points (rmL 1) R (mP μ g l.length) 131 [some (.ref 33), some (.int (nI c)), some (.int (nI p)), some (.int (nI h)), some (.int (nI q)), some (.int (nI k))] [] := by
  intro m
  induction m with
  | zero =>
    intro k l g h2 hT hl
    have h10 : k = 10 := by omega
    subst h10
    have e : l ++ lpF (sq2 (μ.1 34) (μ.1 36) (ms37 (μ.1 37)) n c p h q) 10 0 = l := by simp [lpF]
    rw [e]
    refine ⟨g, hT, fun R hG => ?_⟩
    refine g_iload _ dX6_points_131 rfl ?_
    refine g_bipush (nI 10) dX6_points_133 rfl ?_
    refine g_icmp_geN 168 (by omega) (by omega) dX6_points_135 (by decide) (fun h135 => ?_) (fun h135 => ?_)
    · exact hG
    · exact absurd h135 (by omega)
  | succ m ih =>
    intro k l g h2 hT hl
    have h60 := hP.2.2.1
    rw [lpF, ← List.append_assoc] at hl ⊢
    have hO : Ok mX6_fits (rmL 0) [.ref 33, .int (nI p), .int (nI h), .int (nI q), .int (nI k), .int (nI c)] (mP μ g l.length) (some (.int (bI (ftP (μ.1 34) (μ.1 36) (ms37 (μ.1 37)) n c p h q k))), mP μ g l.length) := d_fits (mP μ g l.length) (n := n) (c := c) (p := p) (a := h) (q := q) (b := k) hP hp hq hh9 (by omega)
    by_cases hf : ftP (μ.1 34) (μ.1 36) (ms37 (μ.1 37)) n c p h q k
    · have es : sq2 (μ.1 34) (μ.1 36) (ms37 (μ.1 37)) n c p h q k = [(nI p, nI h, nI q, nI k)] := if_pos hf
      rw [es] at hl ⊢
      have hl9 : l.length < 2 ^ 31 := by simp only [List.length_append] at hl; omega
      obtain ⟨g', hT2, hG2⟩ := ih (k + 1) (l ++ [(nI p, nI h, nI q, nI k)]) _ (by omega) (Told_tell (nI p, nI h, nI q, nI k) hT) hl
      refine ⟨g', hT2, fun R hG => ?_⟩
      have hG3 := hG2 R hG
      rw [show (l ++ [((nI p, nI h, nI q, nI k) : Qd)]).length = l.length + 1 by simp] at hG3
      refine g_iload _ dX6_points_131 rfl ?_
      refine g_bipush (nI 10) dX6_points_133 rfl ?_
      refine g_icmp_geN 168 (by omega) (by omega) dX6_points_135 (by decide) (fun h135 => ?_) (fun h135 => ?_)
      · exact absurd h135 (by omega)
      · refine g_aload_n 0 _ dX6_points_138 rfl rfl ?_
        refine g_iload_n 2 _ dX6_points_139 rfl rfl ?_
        refine g_iload_n 3 _ dX6_points_140 rfl rfl ?_
        refine g_iload _ dX6_points_141 rfl ?_
        refine g_iload _ dX6_points_143 rfl ?_
        refine g_iload_n 1 _ dX6_points_145 rfl rfl ?_
        refine g_backi (g_runV (hO.to (by rw [bI_t hf])) rfl mw_X6_fits mi_X6_fits ml_X6_156 isO_33 ⟨rfl, rfl, Nat.le_of_ble_eq_true rfl, Nat.le_of_ble_eq_true rfl⟩ rfl rfl (Nat.le_of_ble_eq_true rfl) dX6_points_146) ?_
        refine g_top (w := .int 1) rfl ?_
        refine g_at 149 rfl ?_
        refine g_if_eq 162 dX6_points_149 (by decide) (fun h149 => ?_) (fun h149 => ?_)
        · exact absurd h149 (by decide)
        · refine g_aload_n 0 _ dX6_points_152 rfl rfl ?_
          refine g_iload_n 2 _ dX6_points_153 rfl rfl ?_
          refine g_iload_n 3 _ dX6_points_154 rfl rfl ?_
          refine g_iload _ dX6_points_155 rfl ?_
          refine g_iload _ dX6_points_157 rfl ?_
          refine g_backv (g_runV (d_note μ g (t := l.length) hl9 (nI p, nI h, nI q, nI k)) rfl mw_X6_note mi_X6_note ml_X6_160 isO_33 ⟨rfl, rfl, Nat.le_of_ble_eq_true rfl, Nat.le_of_ble_eq_true rfl⟩ rfl rfl (Nat.le_of_ble_eq_true rfl) dX6_points_159) ?_
          refine g_mem (μ' := mP μ (tlF g l.length (nI p, nI h, nI q, nI k)) (l.length + 1)) rfl ?_
          refine g_iincN [some (.ref 33), some (.int (nI c)), some (.int (nI p)), some (.int (nI h)), some (.int (nI q)), some (.int (nI (k + 1)))] dX6_points_162 rfl (Nat.le_of_ble_eq_true rfl) rfl rfl ?_
          refine g_at 165 rfl ?_
          refine g_goto 131 dX6_points_165 (by decide) ?_
          exact hG3
    · have es : sq2 (μ.1 34) (μ.1 36) (ms37 (μ.1 37)) n c p h q k = [] := if_neg hf
      rw [es, List.append_nil] at hl ⊢
      obtain ⟨g', hT2, hG2⟩ := ih (k + 1) l g (by omega) hT hl
      refine ⟨g', hT2, fun R hG => ?_⟩
      have hG3 := hG2 R hG
      refine g_iload _ dX6_points_131 rfl ?_
      refine g_bipush (nI 10) dX6_points_133 rfl ?_
      refine g_icmp_geN 168 (by omega) (by omega) dX6_points_135 (by decide) (fun h135 => ?_) (fun h135 => ?_)
      · exact absurd h135 (by omega)
      · refine g_aload_n 0 _ dX6_points_138 rfl rfl ?_
        refine g_iload_n 2 _ dX6_points_139 rfl rfl ?_
        refine g_iload_n 3 _ dX6_points_140 rfl rfl ?_
        refine g_iload _ dX6_points_141 rfl ?_
        refine g_iload _ dX6_points_143 rfl ?_
        refine g_iload_n 1 _ dX6_points_145 rfl rfl ?_
        refine g_backi (g_runV (hO.to (by rw [bI_f hf])) rfl mw_X6_fits mi_X6_fits ml_X6_156 isO_33 ⟨rfl, rfl, Nat.le_of_ble_eq_true rfl, Nat.le_of_ble_eq_true rfl⟩ rfl rfl (Nat.le_of_ble_eq_true rfl) dX6_points_146) ?_
        refine g_top (w := .int (nI 0)) rfl ?_
        refine g_at 149 rfl ?_
        refine g_if_eqN 162 (by omega) dX6_points_149 (by decide) (fun h149 => ?_) (fun h149 => ?_)
        · refine g_iincN [some (.ref 33), some (.int (nI c)), some (.int (nI p)), some (.int (nI h)), some (.int (nI q)), some (.int (nI (k + 1)))] dX6_points_162 rfl (Nat.le_of_ble_eq_true rfl) rfl rfl ?_
          refine g_goto 131 dX6_points_165 (by decide) ?_
          exact hG3
        · exact absurd h149 (by omega)
theorem d_s2 {μ : Mm} {n c p : Nat} (hP : Pr μ n c) (hp : p < n) : ∀ (m k : Nat) (l : List Qd) (g : Nat → Int32), k + m = 10 → Told l g → (l ++ lpF (sq1 (μ.1 34) (μ.1 36) (ms37 (μ.1 37)) n c p) k m).length < 2000000000 → ∃ g', Told (l ++ lpF (sq1 (μ.1 34) (μ.1 36) (ms37 (μ.1 37)) n c p) k m) g' ∧ ∀ R, G mX6_points (rmL 1) R (mP μ g' (l ++ lpF (sq1 (μ.1 34) (μ.1 36) (ms37 (μ.1 37)) n c p) k m).length) 90 [some (.ref 33), some (.int (nI c)), some (.int (nI p)), some (.int (nI 10)), none, none] [] → G mX6_points (rmL 1) R (mP μ g l.length) 58 [some (.ref 33), some (.int (nI c)), some (.int (nI p)), some (.int (nI k)), none, none] [] := by
  intro m
  induction m with
  | zero =>
    intro k l g h2 hT hl
    have h10 : k = 10 := by omega
    subst h10
    have e : l ++ lpF (sq1 (μ.1 34) (μ.1 36) (ms37 (μ.1 37)) n c p) 10 0 = l := by simp [lpF]
    rw [e]
    refine ⟨g, hT, fun R hG => ?_⟩
    refine g_iload_n 3 _ dX6_points_58 rfl rfl ?_
    refine g_bipush (nI 10) dX6_points_59 rfl ?_
    refine g_icmp_geN 90 (by omega) (by omega) dX6_points_61 (by decide) (fun h61 => ?_) (fun h61 => ?_)
    · exact hG
    · exact absurd h61 (by omega)
  | succ m ih =>
    intro k l g h2 hT hl
    have h60 := hP.2.2.1
    have h1 := hP.2.1
    rw [lpF, ← List.append_assoc] at hl ⊢
    have hO : Ok mX6_fits (rmL 0) [.ref 33, .int (nI p), .int (nI k), .int (nI 0), .int (nI 0), .int (nI c)] (mP μ g l.length) (some (.int (bI (ftP (μ.1 34) (μ.1 36) (ms37 (μ.1 37)) n c p k 0 0))), mP μ g l.length) := d_fits (mP μ g l.length) (n := n) (c := c) (p := p) (a := k) (q := 0) (b := 0) hP hp (by omega) (by omega) (by omega)
    by_cases hf : ftP (μ.1 34) (μ.1 36) (ms37 (μ.1 37)) n c p k 0 0
    · have es : sq1 (μ.1 34) (μ.1 36) (ms37 (μ.1 37)) n c p k = [(nI p, nI k, -1, nI 0)] := if_pos hf
      rw [es] at hl ⊢
      have hl9 : l.length < 2 ^ 31 := by simp only [List.length_append] at hl; omega
      obtain ⟨g', hT2, hG2⟩ := ih (k + 1) (l ++ [(nI p, nI k, -1, nI 0)]) _ (by omega) (Told_tell (nI p, nI k, -1, nI 0) hT) hl
      refine ⟨g', hT2, fun R hG => ?_⟩
      have hG3 := hG2 R hG
      rw [show (l ++ [((nI p, nI k, -1, nI 0) : Qd)]).length = l.length + 1 by simp] at hG3
      refine g_iload_n 3 _ dX6_points_58 rfl rfl ?_
      refine g_bipush (nI 10) dX6_points_59 rfl ?_
      refine g_icmp_geN 90 (by omega) (by omega) dX6_points_61 (by decide) (fun h61 => ?_) (fun h61 => ?_)
      · exact absurd h61 (by omega)
      · refine g_aload_n 0 _ dX6_points_64 rfl rfl ?_
        refine g_iload_n 2 _ dX6_points_65 rfl rfl ?_
        refine g_iload_n 3 _ dX6_points_66 rfl rfl ?_
        refine g_iconst (nI 0) dX6_points_67 rfl ?_
        refine g_iconst (nI 0) dX6_points_68 rfl ?_
        refine g_iload_n 1 _ dX6_points_69 rfl rfl ?_
        refine g_backi (g_runV (hO.to (by rw [bI_t hf])) rfl mw_X6_fits mi_X6_fits ml_X6_156 isO_33 ⟨rfl, rfl, Nat.le_of_ble_eq_true rfl, Nat.le_of_ble_eq_true rfl⟩ rfl rfl (Nat.le_of_ble_eq_true rfl) dX6_points_70) ?_
        refine g_top (w := .int 1) rfl ?_
        refine g_at 73 rfl ?_
        refine g_if_eq 84 dX6_points_73 (by decide) (fun h73 => ?_) (fun h73 => ?_)
        · exact absurd h73 (by decide)
        · refine g_aload_n 0 _ dX6_points_76 rfl rfl ?_
          refine g_iload_n 2 _ dX6_points_77 rfl rfl ?_
          refine g_iload_n 3 _ dX6_points_78 rfl rfl ?_
          refine g_iconst (-1) dX6_points_79 rfl ?_
          refine g_iconst (nI 0) dX6_points_80 rfl ?_
          refine g_backv (g_runV (d_note μ g (t := l.length) hl9 (nI p, nI k, -1, nI 0)) rfl mw_X6_note mi_X6_note ml_X6_160 isO_33 ⟨rfl, rfl, Nat.le_of_ble_eq_true rfl, Nat.le_of_ble_eq_true rfl⟩ rfl rfl (Nat.le_of_ble_eq_true rfl) dX6_points_81) ?_
          refine g_mem (μ' := mP μ (tlF g l.length (nI p, nI k, -1, nI 0)) (l.length + 1)) rfl ?_
          refine g_iincN [some (.ref 33), some (.int (nI c)), some (.int (nI p)), some (.int (nI (k + 1))), none, none] dX6_points_84 rfl (Nat.le_of_ble_eq_true rfl) rfl rfl ?_
          refine g_at 87 rfl ?_
          refine g_goto 58 dX6_points_87 (by decide) ?_
          exact hG3
    · have es : sq1 (μ.1 34) (μ.1 36) (ms37 (μ.1 37)) n c p k = [] := if_neg hf
      rw [es, List.append_nil] at hl ⊢
      obtain ⟨g', hT2, hG2⟩ := ih (k + 1) l g (by omega) hT hl
      refine ⟨g', hT2, fun R hG => ?_⟩
      have hG3 := hG2 R hG
      refine g_iload_n 3 _ dX6_points_58 rfl rfl ?_
      refine g_bipush (nI 10) dX6_points_59 rfl ?_
      refine g_icmp_geN 90 (by omega) (by omega) dX6_points_61 (by decide) (fun h61 => ?_) (fun h61 => ?_)
      · exact absurd h61 (by omega)
      · refine g_aload_n 0 _ dX6_points_64 rfl rfl ?_
        refine g_iload_n 2 _ dX6_points_65 rfl rfl ?_
        refine g_iload_n 3 _ dX6_points_66 rfl rfl ?_
        refine g_iconst (nI 0) dX6_points_67 rfl ?_
        refine g_iconst (nI 0) dX6_points_68 rfl ?_
        refine g_iload_n 1 _ dX6_points_69 rfl rfl ?_
        refine g_backi (g_runV (hO.to (by rw [bI_f hf])) rfl mw_X6_fits mi_X6_fits ml_X6_156 isO_33 ⟨rfl, rfl, Nat.le_of_ble_eq_true rfl, Nat.le_of_ble_eq_true rfl⟩ rfl rfl (Nat.le_of_ble_eq_true rfl) dX6_points_70) ?_
        refine g_top (w := .int (nI 0)) rfl ?_
        refine g_at 73 rfl ?_
        refine g_if_eqN 84 (by omega) dX6_points_73 (by decide) (fun h73 => ?_) (fun h73 => ?_)
        · refine g_iincN [some (.ref 33), some (.int (nI c)), some (.int (nI p)), some (.int (nI (k + 1))), none, none] dX6_points_84 rfl (Nat.le_of_ble_eq_true rfl) rfl rfl ?_
          refine g_goto 58 dX6_points_87 (by decide) ?_
          exact hG3
        · exact absurd h73 (by omega)
theorem d_p3 {μ : Mm} {n c p h : Nat} (hP : Pr μ n c) (hp : p < n) (hh9 : h ≤ 9) : ∀ (m q : Nat) (l : List Qd) (g : Nat → Int32), q + m = n → Told l g → (l ++ lpF (lsA (μ.1 34) (μ.1 36) (ms37 (μ.1 37)) n c p h) q m).length < 2000000000 → ∃ g', Told (l ++ lpF (lsA (μ.1 34) (μ.1 36) (ms37 (μ.1 37)) n c p h) q m) g' ∧ ∀ R, G mX6_points (rmL 1) R (mP μ g' (l ++ lpF (lsA (μ.1 34) (μ.1 36) (ms37 (μ.1 37)) n c p h) q m).length) 174 [some (.ref 33), some (.int (nI c)), some (.int (nI p)), some (.int (nI h)), some (.int (nI n)), none] [] → G mX6_points (rmL 1) R (mP μ g l.length) 119 [some (.ref 33), some (.int (nI c)), some (.int (nI p)), some (.int (nI h)), some (.int (nI q)), none] [] := by
  obtain ⟨hn, h1n, h60, hc, hmk, hrd⟩ := id hP
  intro m
  induction m with
  | zero =>
    intro q l g h2 hT hl
    have hib : q = n := by omega
    have e : l ++ lpF (lsA (μ.1 34) (μ.1 36) (ms37 (μ.1 37)) n c p h) q 0 = l := by simp [lpF]
    rw [e]
    refine ⟨g, hT, fun R hG => ?_⟩
    rw [hib] 
    refine g_iload _ dX6_points_119 rfl ?_
    refine g_aload_n 0 _ dX6_points_121 rfl rfl ?_
    refine gf_X6_7 rfl dX6_points_122 ?_
    refine g_top (w := .int (nI n)) (congrArg Value.int hn) ?_
    refine g_icmp_geN 174 (by omega) (by omega) dX6_points_125 (by decide) (fun h125 => ?_) (fun h125 => ?_)
    · exact hG
    · exact absurd h125 (by omega)
  | succ m ih =>
    intro q l g h2 hT hl
    rw [lpF, ← List.append_assoc] at hl ⊢
    obtain ⟨g1, hT1, hG1⟩ := d_p4 hP hp (show q < n by omega) hh9 9 1 l g (by omega) hT (show (l ++ lsA (μ.1 34) (μ.1 36) (ms37 (μ.1 37)) n c p h q).length < 2000000000 by rw [List.length_append] at hl; omega)
    obtain ⟨g', hT2, hG2⟩ := ih (q + 1) (l ++ lsA (μ.1 34) (μ.1 36) (ms37 (μ.1 37)) n c p h q) g1 (by omega) hT1 hl
    refine ⟨g', hT2, fun R hG => ?_⟩
    have E : G mX6_points (rmL 1) R (mP μ g1 (l ++ lsA (μ.1 34) (μ.1 36) (ms37 (μ.1 37)) n c p h q).length) 168 [some (.ref 33), some (.int (nI c)), some (.int (nI p)), some (.int (nI h)), some (.int (nI q)), some (.int (nI 10))] [] := by
      refine g_iincN [some (.ref 33), some (.int (nI c)), some (.int (nI p)), some (.int (nI h)), some (.int (nI (q + 1))), some (.int (nI 10))] dX6_points_168 rfl (Nat.le_of_ble_eq_true rfl) rfl rfl ?_
      refine g_goto 119 dX6_points_171 (by decide) ?_
      exact g_drop 5 _ rfl (hG2 R hG)
    have hG3 := hG1 _ E
    refine g_iload _ dX6_points_119 rfl ?_
    refine g_aload_n 0 _ dX6_points_121 rfl rfl ?_
    refine gf_X6_7 rfl dX6_points_122 ?_
    refine g_top (w := .int (nI n)) (congrArg Value.int hn) ?_
    refine g_icmp_geN 174 (by omega) (by omega) dX6_points_125 (by decide) (fun h125 => ?_) (fun h125 => ?_)
    · exact absurd h125 (by omega)
    · refine g_iconst (nI 1) dX6_points_128 rfl ?_
      refine g_istore [some (.ref 33), some (.int (nI c)), some (.int (nI p)), some (.int (nI h)), some (.int (nI q)), some (.int (nI 1))] dX6_points_129 (Nat.le_of_ble_eq_true rfl) rfl rfl ?_
      exact hG3
theorem d_p2 {μ : Mm} {n c p : Nat} (hP : Pr μ n c) (hp : p < n) : ∀ (m h : Nat) (l : List Qd) (g : Nat → Int32), h + m = 10 → Told l g → (l ++ lpF (lsB (μ.1 34) (μ.1 36) (ms37 (μ.1 37)) n c p) h m).length < 2000000000 → ∃ g', Told (l ++ lpF (lsB (μ.1 34) (μ.1 36) (ms37 (μ.1 37)) n c p) h m) g' ∧ ∀ R, G mX6_points (rmL 1) R (mP μ g' (l ++ lpF (lsB (μ.1 34) (μ.1 36) (ms37 (μ.1 37)) n c p) h m).length) 180 [some (.ref 33), some (.int (nI c)), some (.int (nI p)), some (.int (nI 10)), none, none] [] → G mX6_points (rmL 1) R (mP μ g l.length) 108 [some (.ref 33), some (.int (nI c)), some (.int (nI p)), some (.int (nI h)), none, none] [] := by
  obtain ⟨hn, h1n, h60, hc, hmk, hrd⟩ := id hP
  intro m
  induction m with
  | zero =>
    intro h l g h2 hT hl
    have hib : h = 10 := by omega
    have e : l ++ lpF (lsB (μ.1 34) (μ.1 36) (ms37 (μ.1 37)) n c p) h 0 = l := by simp [lpF]
    rw [e]
    refine ⟨g, hT, fun R hG => ?_⟩
    rw [hib] 
    refine g_iload_n 3 _ dX6_points_108 rfl rfl ?_
    refine g_bipush (nI 10) dX6_points_109 rfl ?_
    refine g_icmp_geN 180 (by omega) (by omega) dX6_points_111 (by decide) (fun h111 => ?_) (fun h111 => ?_)
    · exact hG
    · exact absurd h111 (by omega)
  | succ m ih =>
    intro h l g h2 hT hl
    rw [lpF, ← List.append_assoc] at hl ⊢
    obtain ⟨g1, hT1, hG1⟩ := d_p3 hP hp (show h ≤ 9 by omega) (n - (p + 1)) (p + 1) l g (by omega) hT (show (l ++ lsB (μ.1 34) (μ.1 36) (ms37 (μ.1 37)) n c p h).length < 2000000000 by rw [List.length_append] at hl; omega)
    obtain ⟨g', hT2, hG2⟩ := ih (h + 1) (l ++ lsB (μ.1 34) (μ.1 36) (ms37 (μ.1 37)) n c p h) g1 (by omega) hT1 hl
    refine ⟨g', hT2, fun R hG => ?_⟩
    have E : G mX6_points (rmL 1) R (mP μ g1 (l ++ lsB (μ.1 34) (μ.1 36) (ms37 (μ.1 37)) n c p h).length) 174 [some (.ref 33), some (.int (nI c)), some (.int (nI p)), some (.int (nI h)), some (.int (nI n)), none] [] := by
      refine g_iincN [some (.ref 33), some (.int (nI c)), some (.int (nI p)), some (.int (nI (h + 1))), some (.int (nI n)), none] dX6_points_174 rfl (Nat.le_of_ble_eq_true rfl) rfl rfl ?_
      refine g_goto 108 dX6_points_177 (by decide) ?_
      exact g_drop 4 _ rfl (hG2 R hG)
    have hG3 := hG1 _ E
    refine g_iload_n 3 _ dX6_points_108 rfl rfl ?_
    refine g_bipush (nI 10) dX6_points_109 rfl ?_
    refine g_icmp_geN 180 (by omega) (by omega) dX6_points_111 (by decide) (fun h111 => ?_) (fun h111 => ?_)
    · exact absurd h111 (by omega)
    · refine g_iload_n 2 _ dX6_points_114 rfl rfl ?_
      refine g_iconst (nI 1) dX6_points_115 rfl ?_
      refine g_iaddN dX6_points_116 ?_
      refine g_istore [some (.ref 33), some (.int (nI c)), some (.int (nI p)), some (.int (nI h)), some (.int (nI (p + 1))), none] dX6_points_117 (Nat.le_of_ble_eq_true rfl) rfl rfl ?_
      exact hG3
theorem d_p1 {μ : Mm} {n c : Nat} (hP : Pr μ n c) : ∀ (m p : Nat) (l : List Qd) (g : Nat → Int32), p + m = n → Told l g → (l ++ lpF (lsC (μ.1 34) (μ.1 36) (ms37 (μ.1 37)) n c) p m).length < 2000000000 → ∃ g', Told (l ++ lpF (lsC (μ.1 34) (μ.1 36) (ms37 (μ.1 37)) n c) p m) g' ∧ G mX6_points (rmL 1) (some (.int (nI (l ++ lpF (lsC (μ.1 34) (μ.1 36) (ms37 (μ.1 37)) n c) p m).length)), mP μ g' (l ++ lpF (lsC (μ.1 34) (μ.1 36) (ms37 (μ.1 37)) n c) p m).length) (mP μ g l.length) 98 [some (.ref 33), some (.int (nI c)), some (.int (nI p)), none, none, none] [] := by
  obtain ⟨hn, h1n, h60, hc, hmk, hrd⟩ := id hP
  intro m
  induction m with
  | zero =>
    intro p l g h2 hT hl
    have hib : p = n := by omega
    have e : l ++ lpF (lsC (μ.1 34) (μ.1 36) (ms37 (μ.1 37)) n c) p 0 = l := by simp [lpF]
    rw [e]
    refine ⟨g, hT, ?_⟩
    rw [hib]
    refine g_iload_n 2 _ dX6_points_98 rfl rfl ?_
    refine g_aload_n 0 _ dX6_points_99 rfl rfl ?_
    refine gf_X6_7 rfl dX6_points_100 ?_
    refine g_top (w := .int (nI n)) (congrArg Value.int hn) ?_
    refine g_icmp_geN 186 (by omega) (by omega) dX6_points_103 (by decide) (fun h103 => ?_) (fun h103 => ?_)
    · refine g_aload_n 0 _ dX6_points_186 rfl rfl ?_
      refine gf_X6_104 rfl dX6_points_187 ?_
      refine g_top (w := .int (nI l.length)) (congrArg Value.int rfl) ?_
      exact g_ireturn dX6_points_190 rfl rfl rfl
    · exact absurd h103 (by omega)
  | succ m ih =>
    intro p l g h2 hT hl
    rw [lpF, ← List.append_assoc] at hl ⊢
    obtain ⟨g1, hT1, hG1⟩ := d_p2 hP (show p < n by omega) 9 1 l g (by omega) hT (show (l ++ lsC (μ.1 34) (μ.1 36) (ms37 (μ.1 37)) n c p).length < 2000000000 by rw [List.length_append] at hl; omega)
    obtain ⟨g', hT2, hG2⟩ := ih (p + 1) (l ++ lsC (μ.1 34) (μ.1 36) (ms37 (μ.1 37)) n c p) g1 (by omega) hT1 hl
    refine ⟨g', hT2, ?_⟩
    have E : G mX6_points (rmL 1) (some (.int (nI ((l ++ lsC (μ.1 34) (μ.1 36) (ms37 (μ.1 37)) n c p) ++ lpF (lsC (μ.1 34) (μ.1 36) (ms37 (μ.1 37)) n c) (p + 1) m).length)), mP μ g' ((l ++ lsC (μ.1 34) (μ.1 36) (ms37 (μ.1 37)) n c p) ++ lpF (lsC (μ.1 34) (μ.1 36) (ms37 (μ.1 37)) n c) (p + 1) m).length) (mP μ g1 (l ++ lsC (μ.1 34) (μ.1 36) (ms37 (μ.1 37)) n c p).length) 180 [some (.ref 33), some (.int (nI c)), some (.int (nI p)), some (.int (nI 10)), none, none] [] := by
      refine g_iincN [some (.ref 33), some (.int (nI c)), some (.int (nI (p + 1))), some (.int (nI 10)), none, none] dX6_points_180 rfl (Nat.le_of_ble_eq_true rfl) rfl rfl ?_
      refine g_goto 98 dX6_points_183 (by decide) ?_
      exact g_drop 3 _ rfl hG2
    have hG3 := hG1 _ E
    refine g_iload_n 2 _ dX6_points_98 rfl rfl ?_
    refine g_aload_n 0 _ dX6_points_99 rfl rfl ?_
    refine gf_X6_7 rfl dX6_points_100 ?_
    refine g_top (w := .int (nI n)) (congrArg Value.int hn) ?_
    refine g_icmp_geN 186 (by omega) (by omega) dX6_points_103 (by decide) (fun h103 => ?_) (fun h103 => ?_)
    · exact absurd h103 (by omega)
    · refine g_iconst (nI 1) dX6_points_106 rfl ?_
      refine g_istore_n [some (.ref 33), some (.int (nI c)), some (.int (nI p)), some (.int (nI 1)), none, none] dX6_points_107 rfl (Nat.le_of_ble_eq_true rfl) rfl rfl ?_
      exact hG3
theorem d_s1 {μ : Mm} {n c : Nat} (hP : Pr μ n c) : ∀ (m p : Nat) (l : List Qd) (g : Nat → Int32), p + m = n → Told l g → (l ++ lpF (lsE (μ.1 34) (μ.1 36) (ms37 (μ.1 37)) n c) p m).length < 2000000000 → ∃ g', Told (l ++ lpF (lsE (μ.1 34) (μ.1 36) (ms37 (μ.1 37)) n c) p m) g' ∧ ∀ R, G mX6_points (rmL 1) R (mP μ g' (l ++ lpF (lsE (μ.1 34) (μ.1 36) (ms37 (μ.1 37)) n c) p m).length) 96 [some (.ref 33), some (.int (nI c)), some (.int (nI n)), none, none, none] [] → G mX6_points (rmL 1) R (mP μ g l.length) 48 [some (.ref 33), some (.int (nI c)), some (.int (nI p)), none, none, none] [] := by
  obtain ⟨hn, h1n, h60, hc, hmk, hrd⟩ := id hP
  intro m
  induction m with
  | zero =>
    intro p l g h2 hT hl
    have hib : p = n := by omega
    have e : l ++ lpF (lsE (μ.1 34) (μ.1 36) (ms37 (μ.1 37)) n c) p 0 = l := by simp [lpF]
    rw [e]
    refine ⟨g, hT, fun R hG => ?_⟩
    rw [hib] 
    refine g_iload_n 2 _ dX6_points_48 rfl rfl ?_
    refine g_aload_n 0 _ dX6_points_49 rfl rfl ?_
    refine gf_X6_7 rfl dX6_points_50 ?_
    refine g_top (w := .int (nI n)) (congrArg Value.int hn) ?_
    refine g_icmp_geN 96 (by omega) (by omega) dX6_points_53 (by decide) (fun h53 => ?_) (fun h53 => ?_)
    · exact hG
    · exact absurd h53 (by omega)
  | succ m ih =>
    intro p l g h2 hT hl
    rw [lpF, ← List.append_assoc] at hl ⊢
    obtain ⟨g1, hT1, hG1⟩ := d_s2 hP (show p < n by omega) 9 1 l g (by omega) hT (show (l ++ lsE (μ.1 34) (μ.1 36) (ms37 (μ.1 37)) n c p).length < 2000000000 by rw [List.length_append] at hl; omega)
    obtain ⟨g', hT2, hG2⟩ := ih (p + 1) (l ++ lsE (μ.1 34) (μ.1 36) (ms37 (μ.1 37)) n c p) g1 (by omega) hT1 hl
    refine ⟨g', hT2, fun R hG => ?_⟩
    have E : G mX6_points (rmL 1) R (mP μ g1 (l ++ lsE (μ.1 34) (μ.1 36) (ms37 (μ.1 37)) n c p).length) 90 [some (.ref 33), some (.int (nI c)), some (.int (nI p)), some (.int (nI 10)), none, none] [] := by
      refine g_iincN [some (.ref 33), some (.int (nI c)), some (.int (nI (p + 1))), some (.int (nI 10)), none, none] dX6_points_90 rfl (Nat.le_of_ble_eq_true rfl) rfl rfl ?_
      refine g_goto 48 dX6_points_93 (by decide) ?_
      exact g_drop 3 _ rfl (hG2 R hG)
    have hG3 := hG1 _ E
    refine g_iload_n 2 _ dX6_points_48 rfl rfl ?_
    refine g_aload_n 0 _ dX6_points_49 rfl rfl ?_
    refine gf_X6_7 rfl dX6_points_50 ?_
    refine g_top (w := .int (nI n)) (congrArg Value.int hn) ?_
    refine g_icmp_geN 96 (by omega) (by omega) dX6_points_53 (by decide) (fun h53 => ?_) (fun h53 => ?_)
    · exact absurd h53 (by omega)
    · refine g_iconst (nI 1) dX6_points_56 rfl ?_
      refine g_istore_n [some (.ref 33), some (.int (nI c)), some (.int (nI p)), some (.int (nI 1)), none, none] dX6_points_57 rfl (Nat.le_of_ble_eq_true rfl) rfl rfl ?_
      exact hG3
theorem d_points_no (μ : Mm) (a : Int32) (h : a.toInt < 0 ∨ 1000 < a.toInt) : Ok mX6_points (rmL 1) [.ref 33, .int a] μ (some (.int (-1)), sI (sI μ 33 14 0) 33 14 (nI 1)) := by
  refine Ok.of (by decide) (Nat.le_of_ble_eq_true rfl) [some (.ref 33), some (.int a), none, none, none, none] rfl ?_
  refine g_aload_n 0 _ dX6_points_0 rfl rfl ?_
  refine g_backv (g_runV (d_start μ) rfl mw_X6_start mi_X6_start ml_X6_68 isO_33 ⟨rfl, rfl, Nat.le_of_ble_eq_true rfl, Nat.le_of_ble_eq_true rfl⟩ rfl rfl (Nat.le_of_ble_eq_true rfl) dX6_points_1) ?_
  refine g_mem (μ' := sI μ 33 14 0) rfl ?_
  refine g_iload_n 1 _ dX6_points_4 rfl rfl ?_
  refine g_if_lt 15 dX6_points_5 (by decide) (fun h5 => ?_) (fun h5 => ?_)
  · refine g_aload_n 0 _ dX6_points_15 rfl rfl ?_
    refine g_iconst (nI 1) dX6_points_16 rfl ?_
    refine g_backi (g_runV (d_no (sI μ 33 14 0) (nI 1)) rfl mw_X6_no mi_X6_no ml_X6_79 isO_33 ⟨rfl, rfl, Nat.le_of_ble_eq_true rfl, Nat.le_of_ble_eq_true rfl⟩ rfl rfl (Nat.le_of_ble_eq_true rfl) dX6_points_17) ?_
    refine g_mem (μ' := sI (sI μ 33 14 0) 33 14 (nI 1)) rfl ?_
    refine g_top (w := .int (-1)) rfl ?_
    exact g_ireturn dX6_points_20 rfl rfl rfl
  · refine g_iload_n 1 _ dX6_points_8 rfl rfl ?_
    refine g_sipush (nI 1000) dX6_points_9 rfl ?_
    refine g_icmp_le 21 dX6_points_12 (by decide) (fun h12 => ?_) (fun h12 => ?_)
    · exfalso; simp only [ne_eq, fa_lt, fa_le, fa_eq, t0, t1, t2, tm1, nt0, nt1, nt2, nt3, nt4, nt5, nt7, nt9, nt10, nt13, nt14, nt30, nt32, nt59, nt60, nt200, nt1000, nt1000000, nt1073741824] at *; omega
    · refine g_aload_n 0 _ dX6_points_15 rfl rfl ?_
      refine g_iconst (nI 1) dX6_points_16 rfl ?_
      refine g_backi (g_runV (d_no (sI μ 33 14 0) (nI 1)) rfl mw_X6_no mi_X6_no ml_X6_79 isO_33 ⟨rfl, rfl, Nat.le_of_ble_eq_true rfl, Nat.le_of_ble_eq_true rfl⟩ rfl rfl (Nat.le_of_ble_eq_true rfl) dX6_points_17) ?_
      refine g_mem (μ' := sI (sI μ 33 14 0) 33 14 (nI 1)) rfl ?_
      refine g_top (w := .int (-1)) rfl ?_
      exact g_ireturn dX6_points_20 rfl rfl rfl
theorem d_points_b {μ : Mm} {n c : Nat} (hP : Pr μ n c) (l : List Qd) (g : Nat → Int32) (hT : Told l g) (hl : ((l ++ lsF (μ.1 34) (μ.1 36) (ms37 (μ.1 37)) n c) ++ lsD (μ.1 34) (μ.1 36) (ms37 (μ.1 37)) n c).length < 2000000000) : ∃ g', Told ((l ++ lsF (μ.1 34) (μ.1 36) (ms37 (μ.1 37)) n c) ++ lsD (μ.1 34) (μ.1 36) (ms37 (μ.1 37)) n c) g' ∧ G mX6_points (rmL 1) (some (.int (nI ((l ++ lsF (μ.1 34) (μ.1 36) (ms37 (μ.1 37)) n c) ++ lsD (μ.1 34) (μ.1 36) (ms37 (μ.1 37)) n c).length)), mP μ g' ((l ++ lsF (μ.1 34) (μ.1 36) (ms37 (μ.1 37)) n c) ++ lsD (μ.1 34) (μ.1 36) (ms37 (μ.1 37)) n c).length) (mP μ g l.length) 46 [some (.ref 33), some (.int (nI c)), none, none, none, none] [] := by
  obtain ⟨g2, hT2, hG2⟩ := d_s1 hP n 0 l g (by omega) hT (show (l ++ lsF (μ.1 34) (μ.1 36) (ms37 (μ.1 37)) n c).length < 2000000000 by simp only [List.length_append] at hl ⊢; omega)
  obtain ⟨g3, hT3, hG3⟩ := d_p1 hP n 0 (l ++ lsF (μ.1 34) (μ.1 36) (ms37 (μ.1 37)) n c) g2 (by omega) hT2 hl
  refine ⟨g3, hT3, ?_⟩
  have E1 : G mX6_points (rmL 1) (some (.int (nI ((l ++ lsF (μ.1 34) (μ.1 36) (ms37 (μ.1 37)) n c) ++ lsD (μ.1 34) (μ.1 36) (ms37 (μ.1 37)) n c).length)), mP μ g3 ((l ++ lsF (μ.1 34) (μ.1 36) (ms37 (μ.1 37)) n c) ++ lsD (μ.1 34) (μ.1 36) (ms37 (μ.1 37)) n c).length) (mP μ g2 (l ++ lsF (μ.1 34) (μ.1 36) (ms37 (μ.1 37)) n c).length) 96 [some (.ref 33), some (.int (nI c)), some (.int (nI n)), none, none, none] [] := by
    refine g_iconst (nI 0) dX6_points_96 rfl ?_
    refine g_istore_n [some (.ref 33), some (.int (nI c)), some (.int (nI 0)), none, none, none] dX6_points_97 rfl (Nat.le_of_ble_eq_true rfl) rfl rfl ?_
    exact hG3
  have E2 := hG2 _ E1
  refine g_iconst (nI 0) dX6_points_46 rfl ?_
  refine g_istore_n [some (.ref 33), some (.int (nI c)), some (.int (nI 0)), none, none, none] dX6_points_47 rfl (Nat.le_of_ble_eq_true rfl) rfl rfl ?_
  exact E2
theorem d_points_ok (μ : Mm) {n c : Nat} (hP : Pr μ n c) : ∃ g', Told (lsT (μ.1 34) (μ.1 36) (ms37 (μ.1 37)) n c) g' ∧ Ok mX6_points (rmL 1) [.ref 33, .int (nI c)] μ (some (.int (nI (lsT (μ.1 34) (μ.1 36) (ms37 (μ.1 37)) n c).length)), mP (sI μ 33 14 0) g' (lsT (μ.1 34) (μ.1 36) (ms37 (μ.1 37)) n c).length) := by
  have hc := hP.2.2.2.1
  have h1 := hP.2.1
  have hlen := lsT_len (μ.1 34) (μ.1 36) (ms37 (μ.1 37)) c hP.2.2.1
  have hO : Ok mX6_fits (rmL 0) [.ref 33, .int (nI 0), .int (nI 0), .int (nI 0), .int (nI 0), .int (nI c)] (mP (sI μ 33 14 0) (μ.1 41) 0) (some (.int (bI (ftP (μ.1 34) (μ.1 36) (ms37 (μ.1 37)) n c 0 0 0 0))), mP (sI μ 33 14 0) (μ.1 41) 0) := d_fits (mP (sI μ 33 14 0) (μ.1 41) 0) (n := n) (c := c) (p := 0) (a := 0) (q := 0) (b := 0) hP (by omega) (by omega) (by omega) (by omega)
  have hm : sI (sI μ 33 14 0) 33 13 (nI 0) = mP (sI μ 33 14 0) (μ.1 41) 0 := mP_id (sI μ 33 14 0) 0
  by_cases hf : ftP (μ.1 34) (μ.1 36) (ms37 (μ.1 37)) n c 0 0 0 0
  · have es : sq0 (μ.1 34) (μ.1 36) (ms37 (μ.1 37)) n c = [(-1, nI 0, -1, nI 0)] := if_pos hf
    obtain ⟨g', hT, hG⟩ := d_points_b (μ := sI μ 33 14 0) (n := n) (c := c) hP (sq0 (μ.1 34) (μ.1 36) (ms37 (μ.1 37)) n c) (tlF (μ.1 41) 0 (-1, nI 0, -1, nI 0)) (by rw [es]; exact Told_tell (l := []) (-1, nI 0, -1, nI 0) (Told_nil _)) (by show (lsT (μ.1 34) (μ.1 36) (ms37 (μ.1 37)) n c).length < 2000000000; omega)
    refine ⟨g', hT, ?_⟩
    have hG2 : G mX6_points (rmL 1) (some (.int (nI (lsT (μ.1 34) (μ.1 36) (ms37 (μ.1 37)) n c).length)), mP (sI μ 33 14 0) g' (lsT (μ.1 34) (μ.1 36) (ms37 (μ.1 37)) n c).length) (mP (sI μ 33 14 0) (tlF (μ.1 41) 0 (-1, nI 0, -1, nI 0)) (0 + 1)) 46 [some (.ref 33), some (.int (nI c)), none, none, none, none] [] := by
      have e1 : (sq0 (μ.1 34) (μ.1 36) (ms37 (μ.1 37)) n c).length = 0 + 1 := by rw [es]; rfl
      rw [← e1]; exact hG
    refine Ok.of (by decide) (Nat.le_of_ble_eq_true rfl) [some (.ref 33), some (.int (nI c)), none, none, none, none] rfl ?_
    refine g_aload_n 0 _ dX6_points_0 rfl rfl ?_
    refine g_backv (g_runV (d_start μ) rfl mw_X6_start mi_X6_start ml_X6_68 isO_33 ⟨rfl, rfl, Nat.le_of_ble_eq_true rfl, Nat.le_of_ble_eq_true rfl⟩ rfl rfl (Nat.le_of_ble_eq_true rfl) dX6_points_1) ?_
    refine g_mem (μ' := sI μ 33 14 0) rfl ?_
    refine g_iload_n 1 _ dX6_points_4 rfl rfl ?_
    refine g_if_ltN 15 (by omega) dX6_points_5 (by decide) ?_
    refine g_iload_n 1 _ dX6_points_8 rfl rfl ?_
    refine g_sipush (nI 1000) dX6_points_9 rfl ?_
    refine g_icmp_leN 21 (by omega) (by omega) dX6_points_12 (by decide) (fun h12 => ?_) (fun h12 => ?_)
    · refine g_aload_n 0 _ dX6_points_21 rfl rfl ?_
      refine g_iconst (nI 0) dX6_points_22 rfl ?_
      refine gp_X6_104 rfl dX6_points_23 ?_
      refine g_mem (μ' := mP (sI μ 33 14 0) (μ.1 41) 0) hm ?_
      refine g_aload_n 0 _ dX6_points_26 rfl rfl ?_
      refine g_iconst (nI 0) dX6_points_27 rfl ?_
      refine g_iconst (nI 0) dX6_points_28 rfl ?_
      refine g_iconst (nI 0) dX6_points_29 rfl ?_
      refine g_at 30 rfl ?_
      refine g_iconst (nI 0) dX6_points_30 rfl ?_
      refine g_iload_n 1 _ dX6_points_31 rfl rfl ?_
      refine g_backi (g_runV (hO.to (by rw [bI_t hf])) rfl mw_X6_fits mi_X6_fits ml_X6_156 isO_33 ⟨rfl, rfl, Nat.le_of_ble_eq_true rfl, Nat.le_of_ble_eq_true rfl⟩ rfl rfl (Nat.le_of_ble_eq_true rfl) dX6_points_32) ?_
      refine g_top (w := .int 1) rfl ?_
      refine g_if_eq 46 dX6_points_35 (by decide) (fun h35 => ?_) (fun h35 => ?_)
      · exact absurd h35 (by decide)
      · refine g_aload_n 0 _ dX6_points_38 rfl rfl ?_
        refine g_iconst (-1) dX6_points_39 rfl ?_
        refine g_iconst (nI 0) dX6_points_40 rfl ?_
        refine g_iconst (-1) dX6_points_41 rfl ?_
        refine g_iconst (nI 0) dX6_points_42 rfl ?_
        refine g_backv (g_runV (d_note (sI μ 33 14 0) (μ.1 41) (t := 0) (by decide) (-1, nI 0, -1, nI 0)) rfl mw_X6_note mi_X6_note ml_X6_160 isO_33 ⟨rfl, rfl, Nat.le_of_ble_eq_true rfl, Nat.le_of_ble_eq_true rfl⟩ rfl rfl (Nat.le_of_ble_eq_true rfl) dX6_points_43) ?_
        refine g_mem (μ' := mP (sI μ 33 14 0) (tlF (μ.1 41) 0 (-1, nI 0, -1, nI 0)) (0 + 1)) rfl ?_
        exact hG2
    · exact absurd h12 (by omega)
  · have es : sq0 (μ.1 34) (μ.1 36) (ms37 (μ.1 37)) n c = [] := if_neg hf
    obtain ⟨g', hT, hG⟩ := d_points_b (μ := sI μ 33 14 0) (n := n) (c := c) hP (sq0 (μ.1 34) (μ.1 36) (ms37 (μ.1 37)) n c) (μ.1 41) (by rw [es]; exact Told_nil _) (by show (lsT (μ.1 34) (μ.1 36) (ms37 (μ.1 37)) n c).length < 2000000000; omega)
    refine ⟨g', hT, ?_⟩
    have hG2 : G mX6_points (rmL 1) (some (.int (nI (lsT (μ.1 34) (μ.1 36) (ms37 (μ.1 37)) n c).length)), mP (sI μ 33 14 0) g' (lsT (μ.1 34) (μ.1 36) (ms37 (μ.1 37)) n c).length) (mP (sI μ 33 14 0) (μ.1 41) 0) 46 [some (.ref 33), some (.int (nI c)), none, none, none, none] [] := by
      have e1 : (sq0 (μ.1 34) (μ.1 36) (ms37 (μ.1 37)) n c).length = 0 := by rw [es]; rfl
      rw [e1] at hG; exact hG
    refine Ok.of (by decide) (Nat.le_of_ble_eq_true rfl) [some (.ref 33), some (.int (nI c)), none, none, none, none] rfl ?_
    refine g_aload_n 0 _ dX6_points_0 rfl rfl ?_
    refine g_backv (g_runV (d_start μ) rfl mw_X6_start mi_X6_start ml_X6_68 isO_33 ⟨rfl, rfl, Nat.le_of_ble_eq_true rfl, Nat.le_of_ble_eq_true rfl⟩ rfl rfl (Nat.le_of_ble_eq_true rfl) dX6_points_1) ?_
    refine g_mem (μ' := sI μ 33 14 0) rfl ?_
    refine g_iload_n 1 _ dX6_points_4 rfl rfl ?_
    refine g_if_ltN 15 (by omega) dX6_points_5 (by decide) ?_
    refine g_iload_n 1 _ dX6_points_8 rfl rfl ?_
    refine g_sipush (nI 1000) dX6_points_9 rfl ?_
    refine g_icmp_leN 21 (by omega) (by omega) dX6_points_12 (by decide) (fun h12 => ?_) (fun h12 => ?_)
    · refine g_aload_n 0 _ dX6_points_21 rfl rfl ?_
      refine g_iconst (nI 0) dX6_points_22 rfl ?_
      refine gp_X6_104 rfl dX6_points_23 ?_
      refine g_mem (μ' := mP (sI μ 33 14 0) (μ.1 41) 0) hm ?_
      refine g_aload_n 0 _ dX6_points_26 rfl rfl ?_
      refine g_iconst (nI 0) dX6_points_27 rfl ?_
      refine g_iconst (nI 0) dX6_points_28 rfl ?_
      refine g_iconst (nI 0) dX6_points_29 rfl ?_
      refine g_at 30 rfl ?_
      refine g_iconst (nI 0) dX6_points_30 rfl ?_
      refine g_iload_n 1 _ dX6_points_31 rfl rfl ?_
      refine g_backi (g_runV (hO.to (by rw [bI_f hf])) rfl mw_X6_fits mi_X6_fits ml_X6_156 isO_33 ⟨rfl, rfl, Nat.le_of_ble_eq_true rfl, Nat.le_of_ble_eq_true rfl⟩ rfl rfl (Nat.le_of_ble_eq_true rfl) dX6_points_32) ?_
      refine g_top (w := .int (nI 0)) rfl ?_
      refine g_if_eqN 46 (by omega) dX6_points_35 (by decide) (fun h35 => ?_) (fun h35 => ?_)
      · exact hG2
      · exact absurd h35 (by omega)
    · exact absurd h12 (by omega)
