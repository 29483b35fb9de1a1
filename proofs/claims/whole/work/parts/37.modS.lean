/-! HoleMaskModel: solveBack, undo, back, noise -/
def sbC (f : Nat → Int32) (n t j : Nat) : Int64 := if j < n then (f ((t + n - j) % n)).toInt64 else if t = 0 then 1 else 0
theorem sbC_lt {f : Nat → Int32} {n t j : Nat} (h : j < n) : sbC f n t j = (f ((t + n - j) % n)).toInt64 := if_pos h
def fsM (f : Nat → Int32) (n : Nat) (X : Mx) (i : Nat) : Mx := fil X (fun t => fil (X t) (sbC f n t) (n + 1)) i
theorem ix_n {n : Nat} (h : n ≤ 14) : (n + 1) * n ≤ 210 := Nat.le_trans (Nat.mul_le_mul (show n + 1 ≤ 15 by omega) h) (by decide)
theorem d_sbIn {μ : Mm} {X : Mx} {n s : Nat} (hn : μ.1 33 0 = nI n) (h14 : n ≤ 14) (hs : s < n) {R : Option Value × Mm} (hE : G mX6_solveBack (rmL 2) R (mD μ (n + 1) (rwM X s (fil (X s) (sbC (μ.1 34) n s) n))) 62 [some (.ref 33), some (.int (nI (n + 1))), some (.int (nI s)), some (.int (nI n)), none] []) : ∀ (m j : Nat), j ≤ n → n < j + m → G mX6_solveBack (rmL 2) R (mD μ (n + 1) (rwM X s (fil (X s) (sbC (μ.1 34) n s) j))) 19 [some (.ref 33), some (.int (nI (n + 1))), some (.int (nI s)), some (.int (nI j)), none] [] := by
  intro m
  induction m with
  | zero => exact fun j h1 h2 => absurd h2 (by omega)
  | succ m ih =>
    intro j h1 h2
    have hx := ix_le (ix_n h14) hs
    have hm := Nat.mod_lt (s + n - j) (show 0 < n by omega)
    refine g_iload_n 3 _ dX6_solveBack_19 rfl rfl ?_
    refine g_aload_n 0 _ dX6_solveBack_20 rfl rfl ?_
    refine gf_X6_7 rfl dX6_solveBack_21 ?_
    refine g_top (w := .int (nI n)) (congrArg Value.int hn) ?_
    refine g_icmp_geN 62 (by omega) (by omega) dX6_solveBack_24 (by decide) (fun h24 => ?_) (fun h24 => ?_)
    · rw [show j = n by omega]; exact hE
    · refine g_aload_n 0 _ dX6_solveBack_27 rfl rfl ?_
      refine gf_X6_46 rfl dX6_solveBack_28 ?_
      refine g_iload_n 1 _ dX6_solveBack_31 rfl rfl ?_
      refine g_iload_n 2 _ dX6_solveBack_32 rfl rfl ?_
      refine g_imulN dX6_solveBack_33 ?_
      refine g_iload_n 3 _ dX6_solveBack_34 rfl rfl ?_
      refine g_iaddN dX6_solveBack_35 ?_
      refine g_at 36 rfl ?_
      refine g_aload_n 0 _ dX6_solveBack_36 rfl rfl ?_
      refine gf_X6_13 rfl dX6_solveBack_37 ?_
      refine g_iload_n 2 _ dX6_solveBack_40 rfl rfl ?_
      refine g_iload_n 3 _ dX6_solveBack_41 rfl rfl ?_
      refine g_isub dX6_solveBack_42 ?_
      refine g_aload_n 0 _ dX6_solveBack_43 rfl rfl ?_
      refine gf_X6_7 rfl dX6_solveBack_44 ?_
      refine g_top (w := .int (nI n)) (congrArg Value.int hn) ?_
      refine g_iadd dX6_solveBack_47 ?_
      refine g_top (w := .int (nI (s + n - j))) (congrArg Value.int (sub_add_nI (by omega))) ?_
      refine g_at 48 rfl ?_
      refine g_aload_n 0 _ dX6_solveBack_48 rfl rfl ?_
      refine gf_X6_7 rfl dX6_solveBack_49 ?_
      refine g_top (w := .int (nI n)) (congrArg Value.int hn) ?_
      refine g_iremN (by omega) (by omega) (by omega) dX6_solveBack_52 ?_
      refine g_iaload (j := (s + n - j) % n) isI_34 (rfl) (by omega) (by omega) dX6_solveBack_53 ?_
      refine g_i2l dX6_solveBack_54 ?_
      refine g_lastore (j := (n + 1) * s + j) isL_42 (rfl) (by omega) (by omega) dX6_solveBack_55 ?_
      refine g_mem (μ' := mD μ (n + 1) (rwM X s (fil (X s) (sbC (μ.1 34) n s) (j + 1)))) (by exact mD_st (by omega) (rwM_put (sbC_lt (by omega)).symm)) ?_
      refine g_iincN [some (.ref 33), some (.int (nI (n + 1))), some (.int (nI s)), some (.int (nI (j + 1))), none] dX6_solveBack_56 rfl (Nat.le_of_ble_eq_true rfl) rfl rfl ?_
      refine g_goto 19 dX6_solveBack_59 (by decide) ?_
      exact ih (j + 1) (by omega) (by omega)
theorem d_sbOut {μ : Mm} {X : Mx} {n : Nat} (hn : μ.1 33 0 = nI n) (h14 : n ≤ 14) {R : Option Value × Mm} (hE9 : G mX6_solveBack (rmL 2) R (mD μ (n + 1) (fsM (μ.1 34) n X n)) 90 [some (.ref 33), some (.int (nI (n + 1))), none, none, none] []) : ∀ (m i : Nat) (v : Option Value), i ≤ n → n < i + m → G mX6_solveBack (rmL 2) R (mD μ (n + 1) (fsM (μ.1 34) n X i)) 9 [some (.ref 33), some (.int (nI (n + 1))), some (.int (nI i)), v, none] [] := by
  intro m
  induction m with
  | zero => exact fun i v h1 h2 => absurd h2 (by omega)
  | succ m ih =>
    intro i v h1 h2
    refine g_drop 3 _ rfl ?_
    have hx : fsM (μ.1 34) n X i i = X i := fil_out (Nat.le_refl i)
    have hE : i < n → G mX6_solveBack (rmL 2) R (mD μ (n + 1) (rwM (fsM (μ.1 34) n X i) i (fil (fsM (μ.1 34) n X i i) (sbC (μ.1 34) n i) n))) 62 [some (.ref 33), some (.int (nI (n + 1))), some (.int (nI i)), some (.int (nI n)), none] [] := by
      intro hi
      have hx9 := ix_le (ix_n h14) hi
      rw [hx]
      refine g_aload_n 0 _ dX6_solveBack_62 rfl rfl ?_
      refine gf_X6_46 rfl dX6_solveBack_63 ?_
      refine g_iload_n 1 _ dX6_solveBack_66 rfl rfl ?_
      refine g_iload_n 2 _ dX6_solveBack_67 rfl rfl ?_
      refine g_imulN dX6_solveBack_68 ?_
      refine g_aload_n 0 _ dX6_solveBack_69 rfl rfl ?_
      refine gf_X6_7 rfl dX6_solveBack_70 ?_
      refine g_top (w := .int (nI n)) (congrArg Value.int hn) ?_
      refine g_at 73 rfl ?_
      refine g_iaddN dX6_solveBack_73 ?_
      refine g_iload_n 2 _ dX6_solveBack_74 rfl rfl ?_
      refine g_if_neN 82 (by omega) dX6_solveBack_75 (by decide) (fun h75 => ?_) (fun h75 => ?_)
      · refine g_lconst 0 dX6_solveBack_82 rfl ?_
        refine g_lastore (j := (n + 1) * i + n) isL_42 (rfl) (by omega) (by omega) dX6_solveBack_83 ?_
        refine g_mem (μ' := mD μ (n + 1) (fsM (μ.1 34) n X (i + 1))) (by exact mD_st (by omega) ((rwM_put (by unfold sbC; rw [if_neg (by omega)]; first | rw [if_pos (by omega)] | rw [if_neg (by omega)])).trans (rwM_fil rfl))) ?_
        refine g_iincN [some (.ref 33), some (.int (nI (n + 1))), some (.int (nI (i + 1))), some (.int (nI n)), none] dX6_solveBack_84 rfl (Nat.le_of_ble_eq_true rfl) rfl rfl ?_
        refine g_goto 9 dX6_solveBack_87 (by decide) ?_
        exact ih (i + 1) _ (by omega) (by omega)
      · refine g_lconst 1 dX6_solveBack_78 rfl ?_
        refine g_goto 83 dX6_solveBack_79 (by decide) ?_
        refine g_lastore (j := (n + 1) * i + n) isL_42 (rfl) (by omega) (by omega) dX6_solveBack_83 ?_
        refine g_mem (μ' := mD μ (n + 1) (fsM (μ.1 34) n X (i + 1))) (by exact mD_st (by omega) ((rwM_put (by unfold sbC; rw [if_neg (by omega)]; first | rw [if_pos (by omega)] | rw [if_neg (by omega)])).trans (rwM_fil rfl))) ?_
        refine g_iincN [some (.ref 33), some (.int (nI (n + 1))), some (.int (nI (i + 1))), some (.int (nI n)), none] dX6_solveBack_84 rfl (Nat.le_of_ble_eq_true rfl) rfl rfl ?_
        refine g_goto 9 dX6_solveBack_87 (by decide) ?_
        exact ih (i + 1) _ (by omega) (by omega)
    refine g_iload_n 2 _ dX6_solveBack_9 rfl rfl ?_
    refine g_aload_n 0 _ dX6_solveBack_10 rfl rfl ?_
    refine gf_X6_7 rfl dX6_solveBack_11 ?_
    refine g_top (w := .int (nI n)) (congrArg Value.int hn) ?_
    refine g_icmp_geN 90 (by omega) (by omega) dX6_solveBack_14 (by decide) (fun hh14 => ?_) (fun hh14 => ?_)
    · exact g_drop 2 _ rfl (by rw [show i = n by omega]; exact hE9)
    · refine g_iconst (nI 0) dX6_solveBack_17 rfl ?_
      refine g_istore_n [some (.ref 33), some (.int (nI (n + 1))), some (.int (nI i)), some (.int (nI 0)), none] dX6_solveBack_18 rfl (Nat.le_of_ble_eq_true rfl) rfl rfl ?_
      exact g_mem (by rw [fil_0, rwM_id rfl]) (d_sbIn hn h14 (by omega) (hE (by omega)) (n + 1) 0 (by omega) (by omega))
theorem gF_ne0 {x : Int64} {f : Nat → Int64} (hx : x.toInt ≠ -9223372036854775808) (h0 : ¬ x = 0) : ∀ (i : Nat), (∀ j, j < i → (f j).toInt ≠ -9223372036854775808) → ¬ gF x f i = 0 := by
  intro i
  induction i with
  | zero => exact fun _ => h0
  | succ i ih =>
    intro h
    have h2 := ih (fun j hj => h j (by omega))
    have h3 := gF_ok (f := f) hx i (fun j hj => h j (by omega))
    have h4 : (gF x f i).toInt ≠ 0 := fun e => h2 (Int64.toInt_inj.mp e)
    exact lN_ne0 (Nat.gcd_pos_of_pos_left _ (by omega)) (gcdL h3 (h i (by omega)))
def sbS (n : Nat) (d : Int64) (Y : Mx) : Int64 := if d < 0 then -(gF d (fun j => Y j n) n) else gF d (fun j => Y j n) n
theorem neg_ne0 {x : Int64} (h : ¬ x = 0) : ¬ -x = 0 := fun e => h (Int64.neg_neg.symm.trans ((congrArg (fun y => -y) e).trans (by decide)))
theorem sbS_ne0 {n : Nat} {d : Int64} {Y : Mx} (hx : d.toInt ≠ -9223372036854775808) (h0 : ¬ d = 0) (hY : ∀ j, j < n → (Y j n).toInt ≠ -9223372036854775808) : ¬ sbS n d Y = 0 := by
  have h := gF_ne0 hx h0 n hY
  unfold sbS
  by_cases h1 : d < 0
  · rw [if_pos h1]; exact neg_ne0 h
  · rw [if_neg h1]; exact h
/-- memory when down is done: its cells, divisor, found -/
def mS (μ : Mm) (n : Nat) (Y : Mx) (d : Int64) (f : Nat → Int64) : Mm := sRL (sL (mD μ (n + 1) Y) 33 20 d) 44 f
theorem mS_at {μ : Mm} {n i k : Nat} {Y : Mx} {d : Int64} {f : Nat → Int64} (h : k < n + 1) : (mS μ n Y d f).2 42 ((n + 1) * i + k) = Y i k := flt_at h
theorem d_sb2 {μ : Mm} {Y : Mx} {n : Nat} {d : Int64} (hn : μ.1 33 0 = nI n) (h14 : n ≤ 14) (hS : ¬ sbS n d Y = 0) : ∀ (m j : Nat), j ≤ n → n < j + m → G mX6_solveBack (rmL 2) (some (.int (nI 1)), sL (mS μ n Y d (fil (μ.2 44) (fun j => Y j n / sbS n d Y) n)) 33 20 (d / sbS n d Y)) (mS μ n Y d (fil (μ.2 44) (fun j => Y j n / sbS n d Y) j)) 169 [some (.ref 33), some (.int (nI (n + 1))), some (.long (sbS n d Y)), none, some (.int (nI j))] [] := by
  intro m
  induction m with
  | zero => exact fun i h1 h2 => absurd h2 (by omega)
  | succ m ih =>
    intro j h1 h2
    have hx : j < n → (n + 1) * j + (n + 1) ≤ 210 := fun h => ix_le (ix_n h14) h
    refine g_iload _ dX6_solveBack_169 rfl ?_
    refine g_aload_n 0 _ dX6_solveBack_171 rfl rfl ?_
    refine gf_X6_7 rfl dX6_solveBack_172 ?_
    refine g_top (w := .int (nI n)) (congrArg Value.int hn) ?_
    refine g_icmp_geN 207 (by omega) (by omega) dX6_solveBack_175 (by decide) (fun h175 => ?_) (fun h175 => ?_)
    · refine g_aload_n 0 _ dX6_solveBack_207 rfl rfl ?_
      refine g_dup dX6_solveBack_208 rfl ?_
      refine gf_X6_133 rfl dX6_solveBack_209 ?_
      refine g_top (w := .long d) (congrArg Value.long rfl) ?_
      refine g_lload_n 2 _ dX6_solveBack_212 rfl rfl ?_
      refine g_ldiv dX6_solveBack_213 hS ?_
      refine gp_X6_133 rfl dX6_solveBack_214 ?_
      refine g_iconst (nI 1) dX6_solveBack_217 rfl ?_
      refine g_at 218 rfl ?_
      exact g_ireturn dX6_solveBack_218 rfl rfl (by rw [show j = n by omega])
    · refine g_aload_n 0 _ dX6_solveBack_178 rfl rfl ?_
      refine gf_X6_52 rfl dX6_solveBack_179 ?_
      refine g_iload _ dX6_solveBack_182 rfl ?_
      refine g_aload_n 0 _ dX6_solveBack_184 rfl rfl ?_
      refine gf_X6_46 rfl dX6_solveBack_185 ?_
      refine g_iload_n 1 _ dX6_solveBack_188 rfl rfl ?_
      refine g_iload _ dX6_solveBack_189 rfl ?_
      refine g_at 191 rfl ?_
      refine g_imulN dX6_solveBack_191 ?_
      refine g_aload_n 0 _ dX6_solveBack_192 rfl rfl ?_
      refine gf_X6_7 rfl dX6_solveBack_193 ?_
      refine g_top (w := .int (nI n)) (congrArg Value.int hn) ?_
      refine g_iaddN dX6_solveBack_196 ?_
      refine g_laload (j := (n + 1) * j + n) isL_42 (rfl) (by have := hx (by omega); omega) (by omega) dX6_solveBack_197 ?_
      refine g_top (w := .long (Y j n)) (congrArg Value.long (mS_at (by omega))) ?_
      refine g_lload_n 2 _ dX6_solveBack_198 rfl rfl ?_
      refine g_ldiv dX6_solveBack_199 hS ?_
      refine g_lastore (j := j) isL_44 (rfl) (by omega) (by omega) dX6_solveBack_200 ?_
      refine g_mem (μ' := mS μ n Y d (fil (μ.2 44) (fun j => Y j n / sbS n d Y) (j + 1))) (by exact sRL_fil _ _ _ _ _ rfl) ?_
      refine g_at 201 rfl ?_
      refine g_iincN [some (.ref 33), some (.int (nI (n + 1))), some (.long (sbS n d Y)), none, some (.int (nI (j + 1)))] dX6_solveBack_201 rfl (Nat.le_of_ble_eq_true rfl) rfl rfl ?_
      refine g_goto 169 dX6_solveBack_204 (by decide) ?_
      exact ih (j + 1) (by omega) (by omega)
theorem d_sb1 {μ : Mm} {Y : Mx} {n : Nat} {d : Int64} (hn : μ.1 33 0 = nI n) (h14 : n ≤ 14) (hd : d.toInt ≠ -9223372036854775808) (h0 : ¬ d = 0) (hY : ∀ j, j < n → (Y j n).toInt ≠ -9223372036854775808) : ∀ (m j : Nat), j ≤ n → n < j + m → G mX6_solveBack (rmL 2) (some (.int (nI 1)), sL (mS μ n Y d (fil (μ.2 44) (fun j => Y j n / sbS n d Y) n)) 33 20 (d / sbS n d Y)) (sL (mD μ (n + 1) Y) 33 20 d) 120 [some (.ref 33), some (.int (nI (n + 1))), some (.long (gF d (fun j => Y j n) j)), none, some (.int (nI j))] [] := by
  intro m
  induction m with
  | zero => exact fun i h1 h2 => absurd h2 (by omega)
  | succ m ih =>
    intro j h1 h2
    have hx : j < n → (n + 1) * j + (n + 1) ≤ 210 := fun h => ix_le (ix_n h14) h
    have hg : j < n → (gF d (fun j => Y j n) j).toInt ≠ -9223372036854775808 := fun hj => gF_ok hd j (fun i hi => hY _ (by omega))
    have em : sL (mD μ (n + 1) Y) 33 20 d = mS μ n Y d (fil (μ.2 44) (fun j => Y j n / sbS n d Y) 0) := by
      have e : (sL (mD μ (n + 1) Y) 33 20 d).2 44 = μ.2 44 := rfl
      unfold mS
      rw [fil_0, ← e, sRL_id]
    have hE := d_sb2 (Y := Y) (d := d) hn h14 (sbS_ne0 hd h0 hY) (n + 1) 0 (by omega) (by omega)
    rw [← em] at hE
    refine g_iload _ dX6_solveBack_120 rfl ?_
    refine g_aload_n 0 _ dX6_solveBack_122 rfl rfl ?_
    refine gf_X6_7 rfl dX6_solveBack_123 ?_
    refine g_top (w := .int (nI n)) (congrArg Value.int hn) ?_
    refine g_icmp_geN 154 (by omega) (by omega) dX6_solveBack_126 (by decide) (fun h126 => ?_) (fun h126 => ?_)
    · refine g_aload_n 0 _ dX6_solveBack_154 rfl rfl ?_
      refine gf_X6_133 rfl dX6_solveBack_155 ?_
      refine g_top (w := .long d) (congrArg Value.long rfl) ?_
      refine g_lconst 0 dX6_solveBack_158 rfl ?_
      refine g_lcmp dX6_solveBack_159 ?_
      refine g_if_geC 166 dX6_solveBack_160 (by decide) (fun h160 => ?_) (fun h160 => ?_)
      · refine g_iconst (nI 0) dX6_solveBack_166 rfl ?_
        refine g_istore [some (.ref 33), some (.int (nI (n + 1))), some (.long (gF d (fun j => Y j n) j)), none, some (.int (nI 0))] dX6_solveBack_167 (Nat.le_of_ble_eq_true rfl) rfl rfl ?_
        first | exact hE | (have e9 : gF d (fun j => Y j n) j = sbS n d Y := by (unfold sbS; rw [show j = n by omega, if_neg (by assumption)])); rw [e9]; exact hE
      · refine g_lload_n 2 _ dX6_solveBack_163 rfl rfl ?_
        refine g_lneg dX6_solveBack_164 ?_
        refine g_top (w := .long (sbS n d Y)) (congrArg Value.long (by unfold sbS; rw [show j = n by omega, if_pos (by assumption)])) ?_
        refine g_lstore_n [some (.ref 33), some (.int (nI (n + 1))), some (.long (sbS n d Y)), none, some (.int (nI j))] dX6_solveBack_165 rfl (Nat.le_of_ble_eq_true rfl) rfl rfl ?_
        refine g_iconst (nI 0) dX6_solveBack_166 rfl ?_
        refine g_istore [some (.ref 33), some (.int (nI (n + 1))), some (.long (sbS n d Y)), none, some (.int (nI 0))] dX6_solveBack_167 (Nat.le_of_ble_eq_true rfl) rfl rfl ?_
        first | exact hE | (have e9 : gF d (fun j => Y j n) j = sbS n d Y := by (unfold sbS; rw [show j = n by omega, if_neg (by assumption)])); rw [e9]; exact hE
    · refine g_lload_n 2 _ dX6_solveBack_129 rfl rfl ?_
      refine g_aload_n 0 _ dX6_solveBack_130 rfl rfl ?_
      refine gf_X6_46 rfl dX6_solveBack_131 ?_
      refine g_iload_n 1 _ dX6_solveBack_134 rfl rfl ?_
      refine g_iload _ dX6_solveBack_135 rfl ?_
      refine g_imulN dX6_solveBack_137 ?_
      refine g_aload_n 0 _ dX6_solveBack_138 rfl rfl ?_
      refine g_at 139 rfl ?_
      refine gf_X6_7 rfl dX6_solveBack_139 ?_
      refine g_top (w := .int (nI n)) (congrArg Value.int hn) ?_
      refine g_iaddN dX6_solveBack_142 ?_
      refine g_laload (j := (n + 1) * j + n) isL_42 (rfl) (by have := hx (by omega); omega) (by omega) dX6_solveBack_143 ?_
      refine g_top (w := .long (Y j n)) (congrArg Value.long (flt_at (by omega))) ?_
      refine g_backl (g_runS (d_gcd (sL (mD μ (n + 1) Y) 33 20 d) (gF d (fun j => Y j n) j) (Y j n) (hg (by omega)) (hY _ (by omega))) rfl mw_X6_gcd ms_X6_gcd ml_X6_140 ⟨rfl, rfl, Nat.le_of_ble_eq_true rfl, Nat.le_of_ble_eq_true rfl⟩ rfl rfl (Nat.le_of_ble_eq_true rfl) dX6_solveBack_144) ?_
      refine g_top (w := .long (gF d (fun j => Y j n) (j + 1))) rfl ?_
      refine g_lstore_n [some (.ref 33), some (.int (nI (n + 1))), some (.long (gF d (fun j => Y j n) (j + 1))), none, some (.int (nI j))] dX6_solveBack_147 rfl (Nat.le_of_ble_eq_true rfl) rfl rfl ?_
      refine g_iincN [some (.ref 33), some (.int (nI (n + 1))), some (.long (gF d (fun j => Y j n) (j + 1))), none, some (.int (nI (j + 1)))] dX6_solveBack_148 rfl (Nat.le_of_ble_eq_true rfl) rfl rfl ?_
      refine g_goto 120 dX6_solveBack_151 (by decide) ?_
      exact ih (j + 1) (by omega) (by omega)
abbrev uD (μ : Mm) (w : Nat) : Mx := fun i k => μ.2 42 (w * i + k)
theorem uD_id {w : Nat} (h : 0 < w) (μ : Mm) : μ = mD μ w (uD μ w) := (mD_id h μ).symm
/-- solveBack's cells: down's answer -/
def sbN (f : Nat → Int32) (n : Nat) (X : Mx) : Nat × Int64 × Mx := dnF n (n + 1) n 0 0 1 (fsM f n X n)
def sbM (μ : Mm) (n : Nat) (D : Nat × Int64 × Mx) : Mm := sL (mS μ n D.2.2 D.2.1 (fil (μ.2 44) (fun j => D.2.2 j n / sbS n D.2.1 D.2.2) n)) 33 20 (D.2.1 / sbS n D.2.1 D.2.2)
theorem d_solveBack_no (μ : Mm) {n : Nat} (hn : μ.1 33 0 = nI n) (h14 : n ≤ 14) (hr : (sbN (μ.1 34) n (uD μ (n + 1))).1 < n) : Ok mX6_solveBack (rmL 2) [.ref 33] μ (some (.int (nI 0)), sL (mD μ (n + 1) (sbN (μ.1 34) n (uD μ (n + 1))).2.2) 33 20 (sbN (μ.1 34) n (uD μ (n + 1))).2.1) := by
  refine Ok.of (by decide) (Nat.le_of_ble_eq_true rfl) [some (.ref 33), none, none, none, none] rfl ?_
  have hE : G mX6_solveBack (rmL 2) (some (.int (nI 0)), sL (mD μ (n + 1) (sbN (μ.1 34) n (uD μ (n + 1))).2.2) 33 20 (sbN (μ.1 34) n (uD μ (n + 1))).2.1) (mD μ (n + 1) (fsM (μ.1 34) n (uD μ (n + 1)) n)) 90 [some (.ref 33), some (.int (nI (n + 1))), none, none, none] [] := by
    refine g_aload_n 0 _ dX6_solveBack_90 rfl rfl ?_
    refine g_aload_n 0 _ dX6_solveBack_91 rfl rfl ?_
    refine gf_X6_7 rfl dX6_solveBack_92 ?_
    refine g_top (w := .int (nI n)) (congrArg Value.int hn) ?_
    refine g_aload_n 0 _ dX6_solveBack_95 rfl rfl ?_
    refine gf_X6_7 rfl dX6_solveBack_96 ?_
    refine g_top (w := .int (nI n)) (congrArg Value.int hn) ?_
    refine g_iload_n 1 _ dX6_solveBack_99 rfl rfl ?_
    refine g_backi (g_runV (d_down μ (fsM (μ.1 34) n (uD μ (n + 1)) n) (rows := n) (cols := n) (w := n + 1) (ix_n h14) (by omega) h14 (by omega)) rfl mw_X6_down mi_X6_down ml_X6_136 isO_33 ⟨rfl, rfl, Nat.le_of_ble_eq_true rfl, Nat.le_of_ble_eq_true rfl⟩ rfl rfl (Nat.le_of_ble_eq_true rfl) dX6_solveBack_100) ?_
    refine g_mem (μ' := sL (mD μ (n + 1) (sbN (μ.1 34) n (uD μ (n + 1))).2.2) 33 20 (sbN (μ.1 34) n (uD μ (n + 1))).2.1) rfl ?_
    refine g_top (w := .int (nI ((sbN (μ.1 34) n (uD μ (n + 1))).1))) rfl ?_
    refine g_at 103 rfl ?_
    refine g_aload_n 0 _ dX6_solveBack_103 rfl rfl ?_
    refine gf_X6_7 rfl dX6_solveBack_104 ?_
    refine g_top (w := .int (nI n)) (congrArg Value.int hn) ?_
    refine g_icmp_geN 112 (by omega) (by omega) dX6_solveBack_107 (by decide) (fun h107 => ?_) (fun h107 => ?_)
    · exact absurd h107 (by omega)
    · refine g_iconst (nI 0) dX6_solveBack_110 rfl ?_
      exact g_ireturn dX6_solveBack_111 rfl rfl rfl
  refine g_aload_n 0 _ dX6_solveBack_0 rfl rfl ?_
  refine gf_X6_7 rfl dX6_solveBack_1 ?_
  refine g_top (w := .int (nI n)) (congrArg Value.int hn) ?_
  refine g_iconst (nI 1) dX6_solveBack_4 rfl ?_
  refine g_iaddN dX6_solveBack_5 ?_
  refine g_istore_n [some (.ref 33), some (.int (nI (n + 1))), none, none, none] dX6_solveBack_6 rfl (Nat.le_of_ble_eq_true rfl) rfl rfl ?_
  refine g_iconst (nI 0) dX6_solveBack_7 rfl ?_
  refine g_istore_n [some (.ref 33), some (.int (nI (n + 1))), some (.int (nI 0)), none, none] dX6_solveBack_8 rfl (Nat.le_of_ble_eq_true rfl) rfl rfl ?_
  exact g_mem (by unfold fsM; rw [fil_0]; exact uD_id (Nat.succ_pos n) μ) (d_sbOut (X := uD μ (n + 1)) hn h14 hE (n + 1) 0 _ (by omega) (by omega))
theorem d_solveBack_yes (μ : Mm) {n : Nat} (hn : μ.1 33 0 = nI n) (h14 : n ≤ 14) {D : Nat × Int64 × Mx} (hD : sbN (μ.1 34) n (uD μ (n + 1)) = D) (hr : D.1 = n) (hd : D.2.1.toInt ≠ -9223372036854775808) (h0 : ¬ D.2.1 = 0) (hY : ∀ j, j < n → (D.2.2 j n).toInt ≠ -9223372036854775808) : Ok mX6_solveBack (rmL 2) [.ref 33] μ (some (.int (nI 1)), sbM μ n D) := by
  refine Ok.of (by decide) (Nat.le_of_ble_eq_true rfl) [some (.ref 33), none, none, none, none] rfl ?_
  have hE : G mX6_solveBack (rmL 2) (some (.int (nI 1)), sbM μ n D) (mD μ (n + 1) (fsM (μ.1 34) n (uD μ (n + 1)) n)) 90 [some (.ref 33), some (.int (nI (n + 1))), none, none, none] [] := by
    refine g_aload_n 0 _ dX6_solveBack_90 rfl rfl ?_
    refine g_aload_n 0 _ dX6_solveBack_91 rfl rfl ?_
    refine gf_X6_7 rfl dX6_solveBack_92 ?_
    refine g_top (w := .int (nI n)) (congrArg Value.int hn) ?_
    refine g_aload_n 0 _ dX6_solveBack_95 rfl rfl ?_
    refine gf_X6_7 rfl dX6_solveBack_96 ?_
    refine g_top (w := .int (nI n)) (congrArg Value.int hn) ?_
    refine g_iload_n 1 _ dX6_solveBack_99 rfl rfl ?_
    refine g_backi (g_runV ((d_down μ (fsM (μ.1 34) n (uD μ (n + 1)) n) (rows := n) (cols := n) (w := n + 1) (ix_n h14) (by omega) h14 (by omega)).to (show (some (Value.int (nI (sbN (μ.1 34) n (uD μ (n + 1))).1)), sL (mD μ (n + 1) (sbN (μ.1 34) n (uD μ (n + 1))).2.2) 33 20 (sbN (μ.1 34) n (uD μ (n + 1))).2.1) = _ by rw [hD, hr])) rfl mw_X6_down mi_X6_down ml_X6_136 isO_33 ⟨rfl, rfl, Nat.le_of_ble_eq_true rfl, Nat.le_of_ble_eq_true rfl⟩ rfl rfl (Nat.le_of_ble_eq_true rfl) dX6_solveBack_100) ?_
    refine g_mem (μ' := sL (mD μ (n + 1) D.2.2) 33 20 D.2.1) rfl ?_
    refine g_top (w := .int (nI n)) rfl ?_
    refine g_at 103 rfl ?_
    refine g_aload_n 0 _ dX6_solveBack_103 rfl rfl ?_
    refine gf_X6_7 rfl dX6_solveBack_104 ?_
    refine g_top (w := .int (nI n)) (congrArg Value.int hn) ?_
    refine g_icmp_geN 112 (by omega) (by omega) dX6_solveBack_107 (by decide) (fun h107 => ?_) (fun h107 => ?_)
    · refine g_aload_n 0 _ dX6_solveBack_112 rfl rfl ?_
      refine gf_X6_133 rfl dX6_solveBack_113 ?_
      refine g_top (w := .long D.2.1) (congrArg Value.long rfl) ?_
      refine g_lstore_n [some (.ref 33), some (.int (nI (n + 1))), some (.long D.2.1), none, none] dX6_solveBack_116 rfl (Nat.le_of_ble_eq_true rfl) rfl rfl ?_
      refine g_iconst (nI 0) dX6_solveBack_117 rfl ?_
      refine g_istore [some (.ref 33), some (.int (nI (n + 1))), some (.long D.2.1), none, some (.int (nI 0))] dX6_solveBack_118 (Nat.le_of_ble_eq_true rfl) rfl rfl ?_
      exact d_sb1 hn h14 hd h0 hY (n + 1) 0 (by omega) (by omega)
    · exact absurd h107 (by omega)
  refine g_aload_n 0 _ dX6_solveBack_0 rfl rfl ?_
  refine gf_X6_7 rfl dX6_solveBack_1 ?_
  refine g_top (w := .int (nI n)) (congrArg Value.int hn) ?_
  refine g_iconst (nI 1) dX6_solveBack_4 rfl ?_
  refine g_iaddN dX6_solveBack_5 ?_
  refine g_istore_n [some (.ref 33), some (.int (nI (n + 1))), none, none, none] dX6_solveBack_6 rfl (Nat.le_of_ble_eq_true rfl) rfl rfl ?_
  refine g_iconst (nI 0) dX6_solveBack_7 rfl ?_
  refine g_istore_n [some (.ref 33), some (.int (nI (n + 1))), some (.int (nI 0)), none, none] dX6_solveBack_8 rfl (Nat.le_of_ble_eq_true rfl) rfl rfl ?_
  exact g_mem (by unfold fsM; rw [fil_0]; exact uD_id (Nat.succ_pos n) μ) (d_sbOut (X := uD μ (n + 1)) hn h14 hE (n + 1) 0 _ (by omega) (by omega))
