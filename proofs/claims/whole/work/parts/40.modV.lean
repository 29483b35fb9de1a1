/-! HoleMaskModel: lost -/
def mL (μ : Mm) (C A : Nat → Int64) (b : Int64) : Mm := sL (sRL (sRL μ 42 C) 43 A) 33 20 b
theorem mL_dn {μ : Mm} {C A : Nat → Int64} {b b' : Int64} {w : Nat} {Y : Mx} : sL (mD (mL μ C A b) w Y) 33 20 b' = mL μ (flt w Y) A b' := by
  unfold mL mD sRL sL
  show (μ.1, _) = (μ.1, _)
  congr 1
  funext k
  by_cases h : k = 33
  · subst h
    show vp_updL (vp_updL (μ.2 33) 20 b) 20 b' = vp_updL (μ.2 33) 20 b'
    funext q
    unfold vp_updL
    by_cases h2 : q = 20
    · rw [if_pos h2, if_pos h2]
    · rw [if_neg h2, if_neg h2, if_neg h2]
  · by_cases h1 : k = 42
    · subst h1; rfl
    · by_cases h2 : k = 43
      · subst h2; rfl
      · simp only [if_neg h, if_neg h1, if_neg h2]
theorem mL_id (μ : Mm) : mL μ (μ.2 42) (μ.2 43) (μ.2 33 20) = μ := by
  unfold mL
  rw [sRL_id, sRL_id]
  unfold sL
  show (μ.1, _) = μ
  have : (fun k' => if k' = 33 then vp_updL (μ.2 33) 20 (μ.2 33 20) else μ.2 k') = μ.2 := by
    funext k
    by_cases h : k = 33
    · subst h
      rw [if_pos rfl]
      funext q
      unfold vp_updL
      by_cases h2 : q = 20
      · rw [if_pos h2, h2]
      · rw [if_neg h2]
    · rw [if_neg h]
  rw [this]
theorem mL_st {μ : Mm} {C A A' : Nat → Int64} {b x : Int64} {k : Nat} (e : vp_updL A k x = A') : sL (mL μ C A b) 43 k x = mL μ C A' b := by
  subst e
  unfold mL sRL sL
  show (μ.1, _) = (μ.1, _)
  congr 1
  funext q
  by_cases h : q = 43
  · subst h; rfl
  · rw [if_neg h]
    by_cases h1 : q = 33
    · subst h1; rfl
    · simp only [if_neg h1, if_neg h]
section
variable {μ : Mm} {A : Nat → Int64} {Y : Mx} {b : Int64} {n l rk : Nat}
theorem d_is0 (h14 : n ≤ 14) (hl : l < n) (hw : (l + 1) * n ≤ 210) {R : Option Value × Mm} (hG : G mX6_lost (rmL 2) R (mL μ (flt (l + 1) Y) A b) 97 [some (.ref 33), some (.int (nI l)), some (.int (nI (l + 1))), some (.int (nI n)), none, some (.int (nI 0)), none, none, none] []) : ∀ (m i : Nat), i ≤ n → n < i + m → G mX6_lost (rmL 2) R (mL μ (flt (l + 1) Y) A b) 57 [some (.ref 33), some (.int (nI l)), some (.int (nI (l + 1))), some (.int (nI n)), none, some (.int (nI 0)), some (.int (nI i)), none, none] [] := by
  intro m
  induction m with
  | zero => exact fun j h1 h2 => absurd h2 (by omega)
  | succ m ih =>
    intro i h1 h2
    refine g_iload _ dX6_lost_57 rfl ?_
    refine g_iload_n 3 _ dX6_lost_59 rfl rfl ?_
    refine g_icmp_geN 97 (by omega) (by omega) dX6_lost_60 (by decide) (fun h60 => ?_) (fun h60 => ?_)
    · exact g_drop 6 _ rfl hG
    · refine g_iload _ dX6_lost_63 rfl ?_
      refine g_if_eqN 88 (by omega) dX6_lost_65 (by decide) (fun h65 => ?_) (fun h65 => ?_)
      · refine g_iconst (nI 0) dX6_lost_88 rfl ?_
        refine g_istore [some (.ref 33), some (.int (nI l)), some (.int (nI (l + 1))), some (.int (nI n)), none, some (.int (nI 0)), some (.int (nI i)), none, none] dX6_lost_89 (Nat.le_of_ble_eq_true rfl) rfl rfl ?_
        refine g_iincN [some (.ref 33), some (.int (nI l)), some (.int (nI (l + 1))), some (.int (nI n)), none, some (.int (nI 0)), some (.int (nI (i + 1))), none, none] dX6_lost_91 rfl (Nat.le_of_ble_eq_true rfl) rfl rfl ?_
        refine g_goto 57 dX6_lost_94 (by decide) ?_
        exact ih (i + 1) (by omega) (by omega)
      · exact absurd h65 (by omega)
theorem d_is1 (h14 : n ≤ 14) (hl : l < n) (hw : (l + 1) * n ≤ 210) {R : Option Value × Mm} (hG : G mX6_lost (rmL 2) R (mL μ (flt (l + 1) Y) A b) 97 [some (.ref 33), some (.int (nI l)), some (.int (nI (l + 1))), some (.int (nI n)), none, some (.int (nI 1)), none, none, none] []) : ∀ (m i : Nat), i ≤ n → n < i + m → (∀ q, i ≤ q → q < n → Y q l = 0) → G mX6_lost (rmL 2) R (mL μ (flt (l + 1) Y) A b) 57 [some (.ref 33), some (.int (nI l)), some (.int (nI (l + 1))), some (.int (nI n)), none, some (.int (nI 1)), some (.int (nI i)), none, none] [] := by
  intro m
  induction m with
  | zero => exact fun j h1 h2 => absurd h2 (by omega)
  | succ m ih =>
    intro i h1 h2 hz
    have hx : i < n → (l + 1) * i + (l + 1) ≤ 210 := fun h => ix_le hw h
    refine g_iload _ dX6_lost_57 rfl ?_
    refine g_iload_n 3 _ dX6_lost_59 rfl rfl ?_
    refine g_icmp_geN 97 (by omega) (by omega) dX6_lost_60 (by decide) (fun h60 => ?_) (fun h60 => ?_)
    · exact g_drop 6 _ rfl hG
    · refine g_iload _ dX6_lost_63 rfl ?_
      refine g_if_eqN 88 (by omega) dX6_lost_65 (by decide) (fun h65 => ?_) (fun h65 => ?_)
      · exact absurd h65 (by omega)
      · refine g_aload_n 0 _ dX6_lost_68 rfl rfl ?_
        refine gf_X6_46 rfl dX6_lost_69 ?_
        refine g_iload_n 2 _ dX6_lost_72 rfl rfl ?_
        refine g_iload _ dX6_lost_73 rfl ?_
        refine g_imulN dX6_lost_75 ?_
        refine g_iload_n 1 _ dX6_lost_76 rfl rfl ?_
        refine g_iaddN dX6_lost_77 ?_
        refine g_at 78 rfl ?_
        refine g_laload (j := (l + 1) * i + l) isL_42 (rfl) (by have := hx (by omega); omega) (by omega) dX6_lost_78 ?_
        refine g_top (w := .long (Y i l)) (congrArg Value.long (flt_at (by omega))) ?_
        refine g_lconst 0 dX6_lost_79 rfl ?_
        refine g_lcmp dX6_lost_80 ?_
        refine g_if_neC 88 dX6_lost_81 (by decide) (fun h81 => ?_) (fun h81 => ?_)
        · exact absurd (hz i (Nat.le_refl i) (by omega)) h81
        · refine g_iconst (nI 1) dX6_lost_84 rfl ?_
          refine g_goto 89 dX6_lost_85 (by decide) ?_
          refine g_istore [some (.ref 33), some (.int (nI l)), some (.int (nI (l + 1))), some (.int (nI n)), none, some (.int (nI 1)), some (.int (nI i)), none, none] dX6_lost_89 (Nat.le_of_ble_eq_true rfl) rfl rfl ?_
          refine g_iincN [some (.ref 33), some (.int (nI l)), some (.int (nI (l + 1))), some (.int (nI n)), none, some (.int (nI 1)), some (.int (nI (i + 1))), none, none] dX6_lost_91 rfl (Nat.le_of_ble_eq_true rfl) rfl rfl ?_
          refine g_goto 57 dX6_lost_94 (by decide) ?_
          exact ih (i + 1) (by omega) (by omega) (fun q h3 h4 => hz q (by omega) h4)
theorem d_is2 (h14 : n ≤ 14) (hl : l < n) (hw : (l + 1) * n ≤ 210) {R : Option Value × Mm} (hG : G mX6_lost (rmL 2) R (mL μ (flt (l + 1) Y) A b) 97 [some (.ref 33), some (.int (nI l)), some (.int (nI (l + 1))), some (.int (nI n)), none, some (.int (nI 0)), none, none, none] []) : ∀ (m i : Nat), i ≤ n → n < i + m → (¬ ∀ q, i ≤ q → q < n → Y q l = 0) → G mX6_lost (rmL 2) R (mL μ (flt (l + 1) Y) A b) 57 [some (.ref 33), some (.int (nI l)), some (.int (nI (l + 1))), some (.int (nI n)), none, some (.int (nI 1)), some (.int (nI i)), none, none] [] := by
  intro m
  induction m with
  | zero => exact fun j h1 h2 => absurd h2 (by omega)
  | succ m ih =>
    intro i h1 h2 hz
    have hx : i < n → (l + 1) * i + (l + 1) ≤ 210 := fun h => ix_le hw h
    have hin : i < n := by
      apply Nat.lt_of_not_le
      intro h
      exact hz (fun q h3 h4 => absurd h4 (by omega))
    have := hx hin
    by_cases h0 : Y i l = 0
    · refine g_iload _ dX6_lost_57 rfl ?_
      refine g_iload_n 3 _ dX6_lost_59 rfl rfl ?_
      refine g_icmp_geN 97 (by omega) (by omega) dX6_lost_60 (by decide) (fun h60 => ?_) (fun h60 => ?_)
      · exact absurd h60 (by omega)
      · refine g_iload _ dX6_lost_63 rfl ?_
        refine g_if_eqN 88 (by omega) dX6_lost_65 (by decide) (fun h65 => ?_) (fun h65 => ?_)
        · exact absurd h65 (by omega)
        · refine g_aload_n 0 _ dX6_lost_68 rfl rfl ?_
          refine gf_X6_46 rfl dX6_lost_69 ?_
          refine g_iload_n 2 _ dX6_lost_72 rfl rfl ?_
          refine g_iload _ dX6_lost_73 rfl ?_
          refine g_imulN dX6_lost_75 ?_
          refine g_iload_n 1 _ dX6_lost_76 rfl rfl ?_
          refine g_iaddN dX6_lost_77 ?_
          refine g_at 78 rfl ?_
          refine g_laload (j := (l + 1) * i + l) isL_42 (rfl) (by omega) (by omega) dX6_lost_78 ?_
          refine g_top (w := .long (Y i l)) (congrArg Value.long (flt_at (by omega))) ?_
          refine g_lconst 0 dX6_lost_79 rfl ?_
          refine g_lcmp dX6_lost_80 ?_
          refine g_if_neC 88 dX6_lost_81 (by decide) (fun h81 => ?_) (fun h81 => ?_)
          · exact absurd h0 h81
          · refine g_iconst (nI 1) dX6_lost_84 rfl ?_
            refine g_goto 89 dX6_lost_85 (by decide) ?_
            refine g_istore [some (.ref 33), some (.int (nI l)), some (.int (nI (l + 1))), some (.int (nI n)), none, some (.int (nI 1)), some (.int (nI i)), none, none] dX6_lost_89 (Nat.le_of_ble_eq_true rfl) rfl rfl ?_
            refine g_iincN [some (.ref 33), some (.int (nI l)), some (.int (nI (l + 1))), some (.int (nI n)), none, some (.int (nI 1)), some (.int (nI (i + 1))), none, none] dX6_lost_91 rfl (Nat.le_of_ble_eq_true rfl) rfl rfl ?_
            refine g_goto 57 dX6_lost_94 (by decide) ?_
            exact ih (i + 1) (by omega) (by omega) (fun q => hz (fun r h3 h4 => if e : r = i then e ▸ h0 else q r (by omega) h4))
    · refine g_iload _ dX6_lost_57 rfl ?_
      refine g_iload_n 3 _ dX6_lost_59 rfl rfl ?_
      refine g_icmp_geN 97 (by omega) (by omega) dX6_lost_60 (by decide) (fun h60 => ?_) (fun h60 => ?_)
      · exact absurd h60 (by omega)
      · refine g_iload _ dX6_lost_63 rfl ?_
        refine g_if_eqN 88 (by omega) dX6_lost_65 (by decide) (fun h65 => ?_) (fun h65 => ?_)
        · exact absurd h65 (by omega)
        · refine g_aload_n 0 _ dX6_lost_68 rfl rfl ?_
          refine gf_X6_46 rfl dX6_lost_69 ?_
          refine g_iload_n 2 _ dX6_lost_72 rfl rfl ?_
          refine g_iload _ dX6_lost_73 rfl ?_
          refine g_imulN dX6_lost_75 ?_
          refine g_iload_n 1 _ dX6_lost_76 rfl rfl ?_
          refine g_iaddN dX6_lost_77 ?_
          refine g_at 78 rfl ?_
          refine g_laload (j := (l + 1) * i + l) isL_42 (rfl) (by omega) (by omega) dX6_lost_78 ?_
          refine g_top (w := .long (Y i l)) (congrArg Value.long (flt_at (by omega))) ?_
          refine g_lconst 0 dX6_lost_79 rfl ?_
          refine g_lcmp dX6_lost_80 ?_
          refine g_if_neC 88 dX6_lost_81 (by decide) (fun h81 => ?_) (fun h81 => ?_)
          · refine g_iconst (nI 0) dX6_lost_88 rfl ?_
            refine g_istore [some (.ref 33), some (.int (nI l)), some (.int (nI (l + 1))), some (.int (nI n)), none, some (.int (nI 0)), some (.int (nI i)), none, none] dX6_lost_89 (Nat.le_of_ble_eq_true rfl) rfl rfl ?_
            refine g_iincN [some (.ref 33), some (.int (nI l)), some (.int (nI (l + 1))), some (.int (nI n)), none, some (.int (nI 0)), some (.int (nI (i + 1))), none, none] dX6_lost_91 rfl (Nat.le_of_ble_eq_true rfl) rfl rfl ?_
            refine g_goto 57 dX6_lost_94 (by decide) ?_
            exact d_is0 h14 hl hw hG (n + 1) (i + 1) (by omega) (by omega)
          · exact absurd h81 h0
/-- what lost answers with: the numbers, their divisor, the scene -/
def lsA9 (Y : Mx) (b : Int64) (l k : Nat) : Int64 := if k < l then -(Y k l) else b
def lsS (Y : Mx) (b : Int64) (l : Nat) : Int64 := if b < 0 then -(gF 0 (lsA9 Y b l) (l + 1)) else gF 0 (lsA9 Y b l) (l + 1)
def lsV (Y : Mx) (b : Int64) (l k : Nat) : Int32 := if k ≤ l then (lsA9 Y b l k / lsS Y b l).toInt32 else 0
theorem gF_last {x : Int64} {f : Nat → Int64} {i : Nat} (hx : x.toInt ≠ -9223372036854775808) (h : ∀ j, j < i + 1 → (f j).toInt ≠ -9223372036854775808) (h0 : ¬ f i = 0) : ¬ gF x f (i + 1) = 0 := by
  have h3 := gF_ok (f := f) hx i (fun j hj => h j (by omega))
  have h4 : (f i).toInt ≠ 0 := fun e => h0 (Int64.toInt_inj.mp e)
  exact lN_ne0 (Nat.gcd_pos_of_pos_right _ (by omega)) (gcdL h3 (h i (by omega)))
theorem lsS_ne0 (h : ∀ j, j < l + 1 → (lsA9 Y b l j).toInt ≠ -9223372036854775808) (h0 : ¬ b = 0) : ¬ lsS Y b l = 0 := by
  have e : lsA9 Y b l l = b := if_neg (Nat.lt_irrefl l)
  have h1 := gF_last (x := 0) (i := l) (by decide) h (by rw [e]; exact h0)
  unfold lsS
  by_cases h2 : b < 0
  · rw [if_pos h2]; exact neg_ne0 h1
  · rw [if_neg h2]; exact h1
theorem d_lst3 {C : Nat → Int64} (hn : μ.1 33 0 = nI n) (h14 : n ≤ 14) (hl : l < n) (hA : ∀ k, k ≤ l → A k = lsA9 Y b l k) (hS : ¬ lsS Y b l = 0) : ∀ (m k : Nat), k ≤ n → n < k + m → G mX6_lost (rmL 2) (some (.int (nI l)), sR (mL μ C A b) 35 (fil (μ.1 35) (lsV Y b l) n)) (sR (mL μ C A b) 35 (fil (μ.1 35) (lsV Y b l) k)) 198 [some (.ref 33), some (.int (nI l)), some (.int (nI (l + 1))), some (.int (nI n)), none, some (.int (nI 1)), some (.long (lsS Y b l)), none, some (.int (nI k))] [] := by
  intro m
  induction m with
  | zero => exact fun j h1 h2 => absurd h2 (by omega)
  | succ m ih =>
    intro k h1 h2
    have ev : k ≤ l → (sR (mL μ C A b) 35 (fil (μ.1 35) (lsV Y b l) k)).2 43 k = lsA9 Y b l k := fun h => hA k h
    refine g_iload _ dX6_lost_198 rfl ?_
    refine g_aload_n 0 _ dX6_lost_200 rfl rfl ?_
    refine gf_X6_7 rfl dX6_lost_201 ?_
    refine g_top (w := .int (nI n)) (congrArg Value.int hn) ?_
    refine g_icmp_geN 241 (by omega) (by omega) dX6_lost_204 (by decide) (fun h204 => ?_) (fun h204 => ?_)
    · refine g_iload_n 1 _ dX6_lost_241 rfl rfl ?_
      exact g_ireturn dX6_lost_242 rfl rfl (by rw [show k = n by omega])
    · refine g_aload_n 0 _ dX6_lost_207 rfl rfl ?_
      refine gf_X6_17 rfl dX6_lost_208 ?_
      refine g_iload _ dX6_lost_211 rfl ?_
      refine g_iload _ dX6_lost_213 rfl ?_
      refine g_iload_n 1 _ dX6_lost_215 rfl rfl ?_
      refine g_icmp_gtN 233 (by omega) (by omega) dX6_lost_216 (by decide) (fun h216 => ?_) (fun h216 => ?_)
      · refine g_iconst (nI 0) dX6_lost_233 rfl ?_
        refine g_top (w := .int (lsV Y b l k)) (congrArg Value.int (by unfold lsV; first | (rw [if_pos (show k ≤ l by omega)]) | (rw [if_neg (show ¬ k ≤ l by omega)]; rfl))) ?_
        refine g_iastore (j := k) isI_35 (rfl) (by omega) (by omega) dX6_lost_234 ?_
        refine g_mem (μ' := sR (mL μ C A b) 35 (fil (μ.1 35) (lsV Y b l) (k + 1))) (by exact sR_fil _ _ _ _ _ rfl) ?_
        refine g_iincN [some (.ref 33), some (.int (nI l)), some (.int (nI (l + 1))), some (.int (nI n)), none, some (.int (nI 1)), some (.long (lsS Y b l)), none, some (.int (nI (k + 1)))] dX6_lost_235 rfl (Nat.le_of_ble_eq_true rfl) rfl rfl ?_
        refine g_goto 198 dX6_lost_238 (by decide) ?_
        exact ih (k + 1) (by omega) (by omega)
      · refine g_aload_n 0 _ dX6_lost_219 rfl rfl ?_
        refine gf_X6_49 rfl dX6_lost_220 ?_
        refine g_iload _ dX6_lost_223 rfl ?_
        refine g_laload (j := k) isL_43 (rfl) (by omega) (by omega) dX6_lost_225 ?_
        refine g_top (w := .long (lsA9 Y b l k)) (congrArg Value.long (ev (by omega))) ?_
        refine g_lload _ dX6_lost_226 rfl ?_
        refine g_ldiv dX6_lost_228 hS ?_
        refine g_l2i dX6_lost_229 ?_
        refine g_at 230 rfl ?_
        refine g_goto 234 dX6_lost_230 (by decide) ?_
        refine g_top (w := .int (lsV Y b l k)) (congrArg Value.int (by unfold lsV; first | (rw [if_pos (show k ≤ l by omega)]) | (rw [if_neg (show ¬ k ≤ l by omega)]; rfl))) ?_
        refine g_iastore (j := k) isI_35 (rfl) (by omega) (by omega) dX6_lost_234 ?_
        refine g_mem (μ' := sR (mL μ C A b) 35 (fil (μ.1 35) (lsV Y b l) (k + 1))) (by exact sR_fil _ _ _ _ _ rfl) ?_
        refine g_iincN [some (.ref 33), some (.int (nI l)), some (.int (nI (l + 1))), some (.int (nI n)), none, some (.int (nI 1)), some (.long (lsS Y b l)), none, some (.int (nI (k + 1)))] dX6_lost_235 rfl (Nat.le_of_ble_eq_true rfl) rfl rfl ?_
        refine g_goto 198 dX6_lost_238 (by decide) ?_
        exact ih (k + 1) (by omega) (by omega)
end
