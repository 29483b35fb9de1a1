/-! HoleMask$Finder -/
def mF (μ : Mm) (a b g : Nat → Int32) (t : Nat) : Mm := (fun k => if k = 29 then a else if k = 30 then b else if k = 31 then g else if k = 4 then upd (μ.1 4) 3 (nI t) else μ.1 k, μ.2)
theorem mF_29 (μ : Mm) (a b g : Nat → Int32) (t j : Nat) (x : Int32) : sI (mF μ a b g t) 29 j x = mF μ (upd a j x) b g t := by
  refine Prod.ext (funext fun k => ?_) rfl
  by_cases h : k = 29
  · subst h; simp [sI, mF]
  · simp [sI, mF, h]
theorem mF_30 (μ : Mm) (a b g : Nat → Int32) (t j : Nat) (x : Int32) : sI (mF μ a b g t) 30 j x = mF μ a (upd b j x) g t := by
  refine Prod.ext (funext fun k => ?_) rfl
  by_cases h : k = 30
  · subst h; simp [sI, mF]
  · simp [sI, mF, h]
theorem mF_31 (μ : Mm) (a b g : Nat → Int32) (t j : Nat) (x : Int32) : sI (mF μ a b g t) 31 j x = mF μ a b (upd g j x) t := by
  refine Prod.ext (funext fun k => ?_) rfl
  by_cases h : k = 31
  · subst h; simp [sI, mF]
  · simp [sI, mF, h]
theorem mF_4 (μ : Mm) (a b g : Nat → Int32) (t t' : Nat) : sI (mF μ a b g t) 4 3 (nI t') = mF μ a b g t' := by
  refine Prod.ext (funext fun k => ?_) rfl
  by_cases h : k = 4
  · subst h
    simp only [sI, mF]
    simp
    funext j
    unfold upd
    by_cases hj : j = 3 <;> simp [hj]
  · simp [sI, mF, h]
theorem mF_id (μ : Mm) (t : Nat) : sI μ 4 3 (nI t) = mF μ (μ.1 29) (μ.1 30) (μ.1 31) t := by
  refine Prod.ext (funext fun k => ?_) rfl
  by_cases h : k = 4
  · subst h; simp [sI, mF]
  · by_cases h1 : k = 29
    · subst h1; simp [sI, mF]
    · by_cases h2 : k = 30
      · subst h2; simp [sI, mF]
      · by_cases h3 : k = 31
        · subst h3; simp [sI, mF]
        · simp [sI, mF, h, h1, h2, h3]
theorem c_holds (μ : Mm) {w : Nat} (v : Int32) (hw : w < 300) : Ok mX2_holds (rmL 0) [.ref 4, .int (nI w), .int v] μ (some (.int (bI (μ.1 29 w ≤ v ∧ v ≤ μ.1 30 w))), μ) := by
  refine Ok.of (by decide) (Nat.le_of_ble_eq_true rfl) [some (.ref 4), some (.int (nI w)), some (.int v)] rfl ?_
  refine g_aload_n 0 _ dX2_holds_0 rfl rfl ?_
  refine gf_X2_11 rfl dX2_holds_1 ?_
  refine g_iload_n 1 _ dX2_holds_4 rfl rfl ?_
  refine g_iaload (j := w) isI_29 (rfl) (by omega) (by omega) dX2_holds_5 ?_
  refine g_iload_n 2 _ dX2_holds_6 rfl rfl ?_
  refine g_icmp_gt 24 dX2_holds_7 (by decide) (fun h7 => ?_) (fun h7 => ?_)
  · refine g_iconst (nI 0) dX2_holds_24 rfl ?_
    exact g_ireturn dX2_holds_25 rfl rfl (by (try unfold bI); (repeat' split) <;> first | rfl | (exfalso; simp only [ne_eq, fa_lt, fa_le, fa_eq, t0, t1, t2, tm1, nt0, nt1, nt2, nt3, nt4, nt5, nt7, nt9, nt10, nt13, nt14, nt30, nt32, nt59, nt60, nt200, nt1000, nt1000000, nt1073741824] at *; omega))
  · refine g_iload_n 2 _ dX2_holds_10 rfl rfl ?_
    refine g_aload_n 0 _ dX2_holds_11 rfl rfl ?_
    refine gf_X2_15 rfl dX2_holds_12 ?_
    refine g_iload_n 1 _ dX2_holds_15 rfl rfl ?_
    refine g_iaload (j := w) isI_30 (rfl) (by omega) (by omega) dX2_holds_16 ?_
    refine g_icmp_gt 24 dX2_holds_17 (by decide) (fun h17 => ?_) (fun h17 => ?_)
    · refine g_iconst (nI 0) dX2_holds_24 rfl ?_
      exact g_ireturn dX2_holds_25 rfl rfl (by (try unfold bI); (repeat' split) <;> first | rfl | (exfalso; simp only [ne_eq, fa_lt, fa_le, fa_eq, t0, t1, t2, tm1, nt0, nt1, nt2, nt3, nt4, nt5, nt7, nt9, nt10, nt13, nt14, nt30, nt32, nt59, nt60, nt200, nt1000, nt1000000, nt1073741824] at *; omega))
    · refine g_iconst (nI 1) dX2_holds_20 rfl ?_
      refine g_goto 25 dX2_holds_21 (by decide) ?_
      exact g_ireturn dX2_holds_25 rfl rfl (by (try unfold bI); (repeat' split) <;> first | rfl | (exfalso; simp only [ne_eq, fa_lt, fa_le, fa_eq, t0, t1, t2, tm1, nt0, nt1, nt2, nt3, nt4, nt5, nt7, nt9, nt10, nt13, nt14, nt30, nt32, nt59, nt60, nt200, nt1000, nt1000000, nt1073741824] at *; omega))
abbrev Qd : Type := Int32 × Int32 × Int32 × Int32
def pt4 (g : Nat → Int32) (j : Nat) (q : Qd) : Nat → Int32 := upd (upd (upd (upd g j q.1) (j + 1) q.2.1) (j + 2) q.2.2.1) (j + 3) q.2.2.2
def tlF (g : Nat → Int32) (t : Nat) (q : Qd) : Nat → Int32 := if t < 200 then pt4 g (t * 4) q else g
theorem c_tell (μ : Mm) (a b g : Nat → Int32) {t : Nat} (ht : t < 2 ^ 31) (q : Qd) : Ok mX2_tell (rmL 0) [.ref 4, .int q.1, .int q.2.1, .int q.2.2.1, .int q.2.2.2] (mF μ a b g t) (none, mF μ a b (tlF g t q) (t + 1)) := by
  obtain ⟨q1, q2, q3, q4⟩ := q
  refine Ok.of (by decide) (Nat.le_of_ble_eq_true rfl) [some (.ref 4), some (.int q1), some (.int q2), some (.int q3), some (.int q4), none] rfl ?_
  have e : t < 200 → sI (sI (sI (sI (mF μ a b g t) 31 (t * 4) q1) 31 (t * 4 + 1) q2) 31 (t * 4 + 2) q3) 31 (t * 4 + 3) q4 = mF μ a b (tlF g t (q1, q2, q3, q4)) t := fun h => by
    rw [mF_31, mF_31, mF_31, mF_31]; unfold tlF; rw [if_pos h]; rfl
  have e2 : ¬ t < 200 → mF μ a b g t = mF μ a b (tlF g t (q1, q2, q3, q4)) t := fun h => by unfold tlF; rw [if_neg h]
  refine g_aload_n 0 _ dX2_tell_0 rfl rfl ?_
  refine gf_X2_21 rfl dX2_tell_1 ?_
  refine g_top (w := .int (nI t)) (congrArg Value.int rfl) ?_
  refine g_sipush (nI 200) dX2_tell_4 rfl ?_
  refine g_icmp_geN 57 (by omega) (by omega) dX2_tell_7 (by decide) (fun h7 => ?_) (fun h7 => ?_)
  · refine g_mem (μ' := mF μ a b (tlF g t (q1, q2, q3, q4)) t) (by first | exact e h7 | exact e2 (by omega)) ?_
    refine g_aload_n 0 _ dX2_tell_57 rfl rfl ?_
    refine g_dup dX2_tell_58 rfl ?_
    refine gf_X2_21 rfl dX2_tell_59 ?_
    refine g_top (w := .int (nI t)) (congrArg Value.int rfl) ?_
    refine g_iconst (nI 1) dX2_tell_62 rfl ?_
    refine g_iaddN dX2_tell_63 ?_
    refine gp_X2_21 rfl dX2_tell_64 ?_
    exact g_return dX2_tell_67 rfl (by rw [mF_4])
  · refine g_aload_n 0 _ dX2_tell_10 rfl rfl ?_
    refine gf_X2_21 rfl dX2_tell_11 ?_
    refine g_top (w := .int (nI t)) (congrArg Value.int rfl) ?_
    refine g_iconst (nI 4) dX2_tell_14 rfl ?_
    refine g_imulN dX2_tell_15 ?_
    refine g_istore [some (.ref 4), some (.int q1), some (.int q2), some (.int q3), some (.int q4), some (.int (nI (t * 4)))] dX2_tell_16 (Nat.le_of_ble_eq_true rfl) rfl rfl ?_
    refine g_aload_n 0 _ dX2_tell_18 rfl rfl ?_
    refine gf_X2_18 rfl dX2_tell_19 ?_
    refine g_at 22 rfl ?_
    refine g_iload _ dX2_tell_22 rfl ?_
    refine g_iload_n 1 _ dX2_tell_24 rfl rfl ?_
    refine g_iastore (j := t * 4) isI_31 (rfl) (by omega) (by omega) dX2_tell_25 ?_
    refine g_aload_n 0 _ dX2_tell_26 rfl rfl ?_
    refine gf_X2_18 rfl dX2_tell_27 ?_
    refine g_iload _ dX2_tell_30 rfl ?_
    refine g_iconst (nI 1) dX2_tell_32 rfl ?_
    refine g_iaddN dX2_tell_33 ?_
    refine g_at 34 rfl ?_
    refine g_iload_n 2 _ dX2_tell_34 rfl rfl ?_
    refine g_iastore (j := t * 4 + 1) isI_31 (rfl) (by omega) (by omega) dX2_tell_35 ?_
    refine g_aload_n 0 _ dX2_tell_36 rfl rfl ?_
    refine gf_X2_18 rfl dX2_tell_37 ?_
    refine g_iload _ dX2_tell_40 rfl ?_
    refine g_iconst (nI 2) dX2_tell_42 rfl ?_
    refine g_iaddN dX2_tell_43 ?_
    refine g_iload_n 3 _ dX2_tell_44 rfl rfl ?_
    refine g_at 45 rfl ?_
    refine g_iastore (j := t * 4 + 2) isI_31 (rfl) (by omega) (by omega) dX2_tell_45 ?_
    refine g_aload_n 0 _ dX2_tell_46 rfl rfl ?_
    refine gf_X2_18 rfl dX2_tell_47 ?_
    refine g_iload _ dX2_tell_50 rfl ?_
    refine g_iconst (nI 3) dX2_tell_52 rfl ?_
    refine g_iaddN dX2_tell_53 ?_
    refine g_iload _ dX2_tell_54 rfl ?_
    refine g_iastore (j := t * 4 + 3) isI_31 (rfl) (by omega) (by omega) dX2_tell_56 ?_
    refine g_mem (μ' := mF μ a b (tlF g t (q1, q2, q3, q4)) t) (by first | exact e h7 | exact e2 (by omega)) ?_
    refine g_at 57 rfl ?_
    refine g_aload_n 0 _ dX2_tell_57 rfl rfl ?_
    refine g_dup dX2_tell_58 rfl ?_
    refine gf_X2_21 rfl dX2_tell_59 ?_
    refine g_top (w := .int (nI t)) (congrArg Value.int rfl) ?_
    refine g_iconst (nI 1) dX2_tell_62 rfl ?_
    refine g_iaddN dX2_tell_63 ?_
    refine gp_X2_21 rfl dX2_tell_64 ?_
    exact g_return dX2_tell_67 rfl (by rw [mF_4])
theorem c_part_ok (μ : Mm) {i w t : Nat} (ht : μ.1 4 3 = nI t) (ht2 : t < 2 ^ 31) (hi : i < t) (hi2 : i < 200) (hw : w < 4) : Ok mX2_part (rmL 1) [.ref 4, .int (nI i), .int (nI w)] μ (some (.int (μ.1 31 (i * 4 + w))), μ) := by
  refine Ok.of (by decide) (Nat.le_of_ble_eq_true rfl) [some (.ref 4), some (.int (nI i)), some (.int (nI w)), none] rfl ?_
  refine g_iload_n 1 _ dX2_part_0 rfl rfl ?_
  refine g_if_ltN 22 (by omega) dX2_part_1 (by decide) ?_
  refine g_iload_n 1 _ dX2_part_4 rfl rfl ?_
  refine g_aload_n 0 _ dX2_part_5 rfl rfl ?_
  refine gf_X2_21 rfl dX2_part_6 ?_
  refine g_top (w := .int (nI t)) (congrArg Value.int ht) ?_
  refine g_sipush (nI 200) dX2_part_9 rfl ?_
  refine g_mmin rfl tz_526 (Nat.le_of_ble_eq_true rfl) (Nat.le_of_ble_eq_true rfl) dX2_part_12 ?_
  refine g_top (w := .int (nI (min t 200))) (congrArg Value.int (min_nI (by omega) (by omega))) ?_
  refine g_at 15 rfl ?_
  refine g_icmp_geN 22 (by omega) (by omega) dX2_part_15 (by decide) (fun h15 => ?_) (fun h15 => ?_)
  · exact absurd h15 (by omega)
  · refine g_iconst (nI 1) dX2_part_18 rfl ?_
    refine g_goto 23 dX2_part_19 (by decide) ?_
    refine g_istore_n [some (.ref 4), some (.int (nI i)), some (.int (nI w)), some (.int (nI 1))] dX2_part_23 rfl (Nat.le_of_ble_eq_true rfl) rfl rfl ?_
    refine g_iload_n 3 _ dX2_part_24 rfl rfl ?_
    refine g_if_eqN 50 (by omega) dX2_part_25 (by decide) (fun h25 => ?_) (fun h25 => ?_)
    · exact absurd h25 (by omega)
    · refine g_iload_n 2 _ dX2_part_28 rfl rfl ?_
      refine g_if_ltN 50 (by omega) dX2_part_29 (by decide) ?_
      refine g_iload_n 2 _ dX2_part_32 rfl rfl ?_
      refine g_iconst (nI 4) dX2_part_33 rfl ?_
      refine g_icmp_geN 50 (by omega) (by omega) dX2_part_34 (by decide) (fun h34 => ?_) (fun h34 => ?_)
      · exact absurd h34 (by omega)
      · refine g_aload_n 0 _ dX2_part_37 rfl rfl ?_
        refine gf_X2_18 rfl dX2_part_38 ?_
        refine g_iload_n 1 _ dX2_part_41 rfl rfl ?_
        refine g_iconst (nI 4) dX2_part_42 rfl ?_
        refine g_imulN dX2_part_43 ?_
        refine g_iload_n 2 _ dX2_part_44 rfl rfl ?_
        refine g_iaddN dX2_part_45 ?_
        refine g_at 46 rfl ?_
        refine g_iaload (j := i * 4 + w) isI_31 (rfl) (by omega) (by omega) dX2_part_46 ?_
        refine g_goto 51 dX2_part_47 (by decide) ?_
        exact g_ireturn dX2_part_51 rfl rfl rfl
theorem c_part_no (μ : Mm) (a b : Int32) {t : Nat} (ht : μ.1 4 3 = nI t) (ht2 : t < 2 ^ 31) (h : ¬ (0 ≤ a.toInt ∧ a.toInt < t ∧ a.toInt < 200 ∧ 0 ≤ b.toInt ∧ b.toInt < 4)) : Ok mX2_part (rmL 1) [.ref 4, .int a, .int b] μ (some (.int (-1)), μ) := by
  have hti : (nI (min t 200)).toInt = (min t 200 : Nat) := nI_toInt (by omega)
  refine Ok.of (by decide) (Nat.le_of_ble_eq_true rfl) [some (.ref 4), some (.int a), some (.int b), none] rfl ?_
  refine g_iload_n 1 _ dX2_part_0 rfl rfl ?_
  refine g_if_lt 22 dX2_part_1 (by decide) (fun h1 => ?_) (fun h1 => ?_)
  · refine g_iconst (nI 0) dX2_part_22 rfl ?_
    refine g_istore_n [some (.ref 4), some (.int a), some (.int b), some (.int (nI 0))] dX2_part_23 rfl (Nat.le_of_ble_eq_true rfl) rfl rfl ?_
    refine g_iload_n 3 _ dX2_part_24 rfl rfl ?_
    refine g_if_eqN 50 (by omega) dX2_part_25 (by decide) (fun h25 => ?_) (fun h25 => ?_)
    · refine g_iconst (-1) dX2_part_50 rfl ?_
      exact g_ireturn dX2_part_51 rfl rfl rfl
    · exact absurd h25 (by omega)
  · refine g_iload_n 1 _ dX2_part_4 rfl rfl ?_
    refine g_aload_n 0 _ dX2_part_5 rfl rfl ?_
    refine gf_X2_21 rfl dX2_part_6 ?_
    refine g_top (w := .int (nI t)) (congrArg Value.int ht) ?_
    refine g_sipush (nI 200) dX2_part_9 rfl ?_
    refine g_mmin rfl tz_526 (Nat.le_of_ble_eq_true rfl) (Nat.le_of_ble_eq_true rfl) dX2_part_12 ?_
    refine g_top (w := .int (nI (min t 200))) (congrArg Value.int (min_nI (by omega) (by omega))) ?_
    refine g_icmp_ge 22 dX2_part_15 (by decide) (fun h15 => ?_) (fun h15 => ?_)
    · refine g_iconst (nI 0) dX2_part_22 rfl ?_
      refine g_istore_n [some (.ref 4), some (.int a), some (.int b), some (.int (nI 0))] dX2_part_23 rfl (Nat.le_of_ble_eq_true rfl) rfl rfl ?_
      refine g_iload_n 3 _ dX2_part_24 rfl rfl ?_
      refine g_if_eqN 50 (by omega) dX2_part_25 (by decide) (fun h25 => ?_) (fun h25 => ?_)
      · refine g_iconst (-1) dX2_part_50 rfl ?_
        exact g_ireturn dX2_part_51 rfl rfl rfl
      · exact absurd h25 (by omega)
    · refine g_iconst (nI 1) dX2_part_18 rfl ?_
      refine g_goto 23 dX2_part_19 (by decide) ?_
      refine g_istore_n [some (.ref 4), some (.int a), some (.int b), some (.int (nI 1))] dX2_part_23 rfl (Nat.le_of_ble_eq_true rfl) rfl rfl ?_
      refine g_iload_n 3 _ dX2_part_24 rfl rfl ?_
      refine g_if_eqN 50 (by omega) dX2_part_25 (by decide) (fun h25 => ?_) (fun h25 => ?_)
      · exact absurd h25 (by omega)
      · refine g_iload_n 2 _ dX2_part_28 rfl rfl ?_
        refine g_if_lt 50 dX2_part_29 (by decide) (fun h29 => ?_) (fun h29 => ?_)
        · refine g_iconst (-1) dX2_part_50 rfl ?_
          exact g_ireturn dX2_part_51 rfl rfl rfl
        · refine g_iload_n 2 _ dX2_part_32 rfl rfl ?_
          refine g_iconst (nI 4) dX2_part_33 rfl ?_
          refine g_icmp_ge 50 dX2_part_34 (by decide) (fun h34 => ?_) (fun h34 => ?_)
          · refine g_iconst (-1) dX2_part_50 rfl ?_
            exact g_ireturn dX2_part_51 rfl rfl rfl
          · exfalso; simp only [fa_lt, fa_le, t0, nt4, hti] at *; omega
theorem c_point (μ : Mm) (a b : Int32) {r : Int32} (h : Ok mX2_part (rmL 1) [.ref 4, .int a, .int b] (sI μ 0 5 0) (some (.int r), sI μ 0 5 0)) : Ok mX5_point (rmL 2) [.ref 0, .int a, .int b] μ (some (.int r), sI μ 0 5 0) := by
  refine Ok.of (by decide) (Nat.le_of_ble_eq_true rfl) [some (.ref 0), some (.int a), some (.int b)] rfl ?_
  refine g_aload_n 0 _ dX5_point_0 rfl rfl ?_
  refine g_iconst (nI 0) dX5_point_1 rfl ?_
  refine gp_X5_44 rfl dX5_point_2 ?_
  refine g_aload_n 0 _ dX5_point_5 rfl rfl ?_
  refine gf_X5_33 rfl dX5_point_6 ?_
  refine g_iload_n 1 _ dX5_point_9 rfl rfl ?_
  refine g_iload_n 2 _ dX5_point_10 rfl rfl ?_
  refine g_at 11 rfl ?_
  refine g_backi (g_runVN (h) rfl mw_X2_part mi_X2_part mn_X5_197 isO_4 ⟨rfl, rfl, Nat.le_of_ble_eq_true rfl, Nat.le_of_ble_eq_true rfl⟩ rfl rfl (Nat.le_of_ble_eq_true rfl) dX5_point_11) ?_
  refine g_top (w := .int r) rfl ?_
  exact g_ireturn dX5_point_14 rfl rfl rfl
/-! windows -/
abbrev kd (f1 f2 : Int32) : Int := 3 * f1.toInt + f2.toInt
abbrev vl (f1 f2 rd : Int32) : Int := if kd f1 f2 < 0 then -rd.toInt else rd.toInt
/-- the windows at z hold what the readings ahead of i leave -/
def Win (F1 F2 rd : Nat → Int32) (c : Nat) (z : Nat) (a b : Nat → Int32) (i : Nat) : Prop :=
  (∀ k, k < 5 → (-1000000000 ≤ (a (z + k)).toInt ∧ (a (z + k)).toInt ≤ 1000000000) ∧ -1000000000 ≤ (b (z + k)).toInt ∧ (b (z + k)).toInt ≤ 1000000000) ∧
  ∀ k, k < 5 → ∀ v : Int, -100 ≤ v → v ≤ 100 → (((a (z + k)).toInt ≤ v ∧ v ≤ (b (z + k)).toInt) ↔ ∀ s, s < i → rd s ≠ nI 1073741824 → (kd (F1 s) (F2 s)).natAbs = k → vl (F1 s) (F2 s) (rd s) - c ≤ v ∧ v ≤ vl (F1 s) (F2 s) (rd s) + c)
def WinE (F1 F2 rd : Nat → Int32) (c n : Nat) (z : Nat) (a b : Nat → Int32) : Prop := Win F1 F2 rd c z a b n ∨ ((∃ s, s < n ∧ rd s ≠ nI 1073741824 ∧ kd (F1 s) (F2 s) = 0 ∧ ¬ (-(c : Int) ≤ (rd s).toInt ∧ (rd s).toInt ≤ c)) ∧ ¬ (a z ≤ 0 ∧ 0 ≤ b z))
def Fr5 (z : Nat) (a a' : Nat → Int32) : Prop := ∀ j, j < z ∨ z + 5 ≤ j → a' j = a j
theorem Win_skip {F1 F2 rd : Nat → Int32} {c z i : Nat} {a b : Nat → Int32} (h : Win F1 F2 rd c z a b i) (hm : rd i = nI 1073741824) : Win F1 F2 rd c z a b (i + 1) := by
  refine ⟨h.1, fun k hk v h1 h2 => (h.2 k hk v h1 h2).trans ⟨fun q s hs hr hkd => ?_, fun q s hs => q s (by omega)⟩⟩
  rcases Nat.lt_succ_iff_lt_or_eq.mp hs with h3 | h3
  · exact q s h3 hr hkd
  · subst h3; exact absurd hm hr
theorem Win_add {F1 F2 rd : Nat → Int32} {c z i κ : Nat} {a b : Nat → Int32} {x y : Int32} (h : Win F1 F2 rd c z a b i) (hm : rd i ≠ nI 1073741824) (hκ : (kd (F1 i) (F2 i)).natAbs = κ) (hκ5 : κ < 5)
    (hx : x.toInt = max (a (z + κ)).toInt (vl (F1 i) (F2 i) (rd i) - c)) (hy : y.toInt = min (b (z + κ)).toInt (vl (F1 i) (F2 i) (rd i) + c)) (hb : -600000000 ≤ vl (F1 i) (F2 i) (rd i) ∧ vl (F1 i) (F2 i) (rd i) ≤ 600000000) (hc : c ≤ 1000) : Win F1 F2 rd c z (upd a (z + κ) x) (upd b (z + κ) y) (i + 1) := by
  generalize hV : vl (F1 i) (F2 i) (rd i) = V at hx hy hb
  refine ⟨fun k hk => ?_, fun k hk v h1 h2 => ?_⟩
  · have h9 := h.1 k hk
    by_cases e : k = κ
    · subst e
      simp only [upd, if_true]
      omega
    · have e2 : z + k ≠ z + κ := by omega
      simp only [upd, if_neg e2]
      exact h9
  · have h9 := h.2 k hk v h1 h2
    by_cases e : k = κ
    · subst e
      simp only [upd, if_true]
      rw [hx, hy]
      constructor
      · intro q s hs hr hkd
        rcases Nat.lt_succ_iff_lt_or_eq.mp hs with h3 | h3
        · exact h9.mp (by omega) s h3 hr hkd
        · subst h3; rw [hV]; omega
      · intro q
        have q1 := h9.mpr (fun s hs => q s (by omega))
        have q2 := q i (by omega) hm hκ
        rw [hV] at q2
        omega
    · have e2 : z + k ≠ z + κ := by omega
      simp only [upd, if_neg e2]
      refine h9.trans ⟨fun q s hs hr hkd => ?_, fun q s hs => q s (by omega)⟩
      rcases Nat.lt_succ_iff_lt_or_eq.mp hs with h3 | h3
      · exact q s h3 hr hkd
      · subst h3; exact absurd (hkd.symm.trans hκ) e
theorem Win_0 {F1 F2 rd : Nat → Int32} {c z : Nat} {a b : Nat → Int32} (h : ∀ k, k < 5 → a (z + k) = (-2000000) ∧ b (z + k) = nI 2000000) : Win F1 F2 rd c z a b 0 := by
  have e1 : (-2000000 : Int32).toInt = -2000000 := rfl
  have e2 : (nI 2000000).toInt = 2000000 := rfl
  refine ⟨fun k hk => ?_, fun k hk v h1 h2 => ?_⟩
  · rw [(h k hk).1, (h k hk).2, e1, e2]; omega
  · rw [(h k hk).1, (h k hk).2, e1, e2]
    exact ⟨fun _ s hs => absurd hs (by omega), fun _ => by omega⟩
theorem max_I {x y : Int32} : (if x < y then y else x).toInt = max x.toInt y.toInt := by
  by_cases h : x < y
  · rw [if_pos h]; rw [fa_lt] at h; omega
  · rw [if_neg h]; rw [fa_lt] at h; omega
theorem min_I {x y : Int32} : (if y < x then y else x).toInt = min x.toInt y.toInt := by
  by_cases h : y < x
  · rw [if_pos h]; rw [fa_lt] at h; omega
  · rw [if_neg h]; rw [fa_lt] at h; omega
theorem abs_N {x : Int32} {κ : Nat} (h : x.toInt.natAbs = κ) (hk : κ < 5) : (if 0 ≤ x then x else 0 - x) = nI κ := by
  apply i32_ext
  rw [nI_toInt (by omega)]
  by_cases h0 : 0 ≤ x
  · rw [if_pos h0]; rw [fa_le, t0] at h0; omega
  · rw [if_neg h0, fb_subI] <;> rw [fa_le, t0] at h0 <;> rw [t0] <;> omega
theorem kd_toInt {f1 f2 : Int32} (h1 : -1 ≤ f1.toInt ∧ f1.toInt ≤ 1) (h2 : -1 ≤ f2.toInt ∧ f2.toInt ≤ 1) : (nI 3 * f1 + f2).toInt = kd f1 f2 := by
  have e : (nI 3 * f1).toInt = 3 * f1.toInt := by rw [fb_mulI, nt3] <;> rw [nt3] <;> omega
  rw [fb_addI, e] <;> rw [e] <;> omega
