/-! HoleMask$Board and the tables -/
theorem sI_sI (μ : Mm) (k i : Nat) (x y : Int32) : sI (sI μ k i x) k i y = sI μ k i y := by
  rw [sI_eq (sI μ k i x), sI_eq μ k i x, sI_eq μ k i y, sR_at, sR_sR]
  congr 1
  funext j
  unfold upd
  by_cases h : j = i <;> simp [h]
def orF (g : Nat → Int32) : Nat → Int32
  | 0 => 0
  | j + 1 => orF g j ||| g j
theorem orF_congr {f g : Nat → Int32} : ∀ {n : Nat}, (∀ i, i < n → f i = g i) → orF f n = orF g n
  | 0, _ => rfl
  | n + 1, h => by rw [orF, orF, orF_congr (fun i hi => h i (by omega)), h n (by omega)]
def acF (c : Nat) : Int32 := ((-1 : Int32).toUInt32 >>> ((nI 32 - nI c).toUInt32 &&& Int32.toUInt32 31)).toInt32
def sgF (x : Int32) (j : Nat) : Int32 := if (x >>> (nI j &&& 31)) &&& nI 1 = 0 then nI 1 else -1
theorem c_bhas (μ : Mm) (i : Int32) {s : Nat} (hs : μ.1 5 1 = nI s) : Ok mX0_has (rmL 0) [.ref 5, .int i] μ (some (.int (bI (¬ i < 0 ∧ i < nI s))), μ) := by
  refine Ok.of (by decide) (Nat.le_of_ble_eq_true rfl) [some (.ref 5), some (.int i)] rfl ?_
  refine g_iload_n 1 _ dX0_has_0 rfl rfl ?_
  refine g_if_lt 16 dX0_has_1 (by decide) (fun h1 => ?_) (fun h1 => ?_)
  · refine g_iconst (nI 0) dX0_has_16 rfl ?_
    exact g_ireturn dX0_has_17 rfl rfl (by (try unfold bI); (repeat' split) <;> first | rfl | (exfalso; simp only [ne_eq, fa_lt, fa_le, fa_eq, t0, t1, t2, tm1, nt0, nt1, nt2, nt3, nt4, nt5, nt7, nt9, nt10, nt13, nt14, nt30, nt32, nt59, nt60, nt200, nt1000, nt1000000, nt1073741824] at *; omega))
  · refine g_iload_n 1 _ dX0_has_4 rfl rfl ?_
    refine g_aload_n 0 _ dX0_has_5 rfl rfl ?_
    refine gf_X0_13 rfl dX0_has_6 ?_
    refine g_top (w := .int (nI s)) (congrArg Value.int hs) ?_
    refine g_icmp_ge 16 dX0_has_9 (by decide) (fun h9 => ?_) (fun h9 => ?_)
    · refine g_iconst (nI 0) dX0_has_16 rfl ?_
      exact g_ireturn dX0_has_17 rfl rfl (by (try unfold bI); (repeat' split) <;> first | rfl | (exfalso; simp only [ne_eq, fa_lt, fa_le, fa_eq, t0, t1, t2, tm1, nt0, nt1, nt2, nt3, nt4, nt5, nt7, nt9, nt10, nt13, nt14, nt30, nt32, nt59, nt60, nt200, nt1000, nt1000000, nt1073741824] at *; omega))
    · refine g_iconst (nI 1) dX0_has_12 rfl ?_
      refine g_goto 17 dX0_has_13 (by decide) ?_
      exact g_ireturn dX0_has_17 rfl rfl (by (try unfold bI); (repeat' split) <;> first | rfl | (exfalso; simp only [ne_eq, fa_lt, fa_le, fa_eq, t0, t1, t2, tm1, nt0, nt1, nt2, nt3, nt4, nt5, nt7, nt9, nt10, nt13, nt14, nt30, nt32, nt59, nt60, nt200, nt1000, nt1000000, nt1073741824] at *; omega))
theorem c_allColumns (μ : Mm) (c : Nat) : Ok mX0_allColumns (rmL 0) [.int (nI c)] μ (some (.int (acF c)), μ) := by
  refine Ok.of (by decide) (Nat.le_of_ble_eq_true rfl) [some (.int (nI c))] rfl ?_
  refine g_iconst (-1) dX0_allColumns_0 rfl ?_
  refine g_bipush (nI 32) dX0_allColumns_1 rfl ?_
  refine g_iload_n 0 _ dX0_allColumns_3 rfl rfl ?_
  refine g_isub dX0_allColumns_4 ?_
  refine g_iushr dX0_allColumns_5 ?_
  exact g_ireturn dX0_allColumns_6 rfl rfl rfl
theorem c_signAt (μ : Mm) {i j : Nat} (hi : i < 32) : Ok mX0_signAt (rmL 0) [.ref 5, .int (nI i), .int (nI j)] μ (some (.int (sgF (μ.1 32 i) j)), μ) := by
  refine Ok.of (by decide) (Nat.le_of_ble_eq_true rfl) [some (.ref 5), some (.int (nI i)), some (.int (nI j))] rfl ?_
  refine g_aload_n 0 _ dX0_signAt_0 rfl rfl ?_
  refine gf_X0_9 rfl dX0_signAt_1 ?_
  refine g_iload_n 1 _ dX0_signAt_4 rfl rfl ?_
  refine g_iaload (j := i) isI_32 (rfl) (by omega) (by omega) dX0_signAt_5 ?_
  refine g_iload_n 2 _ dX0_signAt_6 rfl rfl ?_
  refine g_ishr dX0_signAt_7 ?_
  refine g_iconst (nI 1) dX0_signAt_8 rfl ?_
  refine g_at 9 rfl ?_
  refine g_iand dX0_signAt_9 ?_
  refine g_if_ne 17 dX0_signAt_10 (by decide) (fun h10 => ?_) (fun h10 => ?_)
  · refine g_iconst (-1) dX0_signAt_17 rfl ?_
    exact g_ireturn dX0_signAt_18 rfl rfl (by unfold sgF; first | rw [if_pos h10] | rw [if_neg h10])
  · refine g_iconst (nI 1) dX0_signAt_13 rfl ?_
    refine g_goto 18 dX0_signAt_14 (by decide) ?_
    exact g_ireturn dX0_signAt_18 rfl rfl (by unfold sgF; first | rw [if_pos h10] | rw [if_neg h10])
theorem c_rowProduct (μ : Mm) {a b s : Nat} (hs : μ.1 5 1 = nI s) (ha : a < 32) (hb : b < 32) : Ok mX0_rowProduct (rmL 1) [.ref 5, .int (nI a), .int (nI b)] μ (some (.int (nI s - nI 2 * bcF (μ.1 32 a ^^^ μ.1 32 b))), μ) := by
  refine Ok.of (by decide) (Nat.le_of_ble_eq_true rfl) [some (.ref 5), some (.int (nI a)), some (.int (nI b))] rfl ?_
  refine g_aload_n 0 _ dX0_rowProduct_0 rfl rfl ?_
  refine gf_X0_13 rfl dX0_rowProduct_1 ?_
  refine g_top (w := .int (nI s)) (congrArg Value.int hs) ?_
  refine g_iconst (nI 2) dX0_rowProduct_4 rfl ?_
  refine g_aload_n 0 _ dX0_rowProduct_5 rfl rfl ?_
  refine gf_X0_9 rfl dX0_rowProduct_6 ?_
  refine g_iload_n 1 _ dX0_rowProduct_9 rfl rfl ?_
  refine g_iaload (j := a) isI_32 (rfl) (by omega) (by omega) dX0_rowProduct_10 ?_
  refine g_at 11 rfl ?_
  refine g_aload_n 0 _ dX0_rowProduct_11 rfl rfl ?_
  refine gf_X0_9 rfl dX0_rowProduct_12 ?_
  refine g_iload_n 2 _ dX0_rowProduct_15 rfl rfl ?_
  refine g_iaload (j := b) isI_32 (rfl) (by omega) (by omega) dX0_rowProduct_16 ?_
  refine g_ixor dX0_rowProduct_17 ?_
  refine g_backi (g_runS (c_bitCount μ ((μ.1 32 a) ^^^ (μ.1 32 b))) rfl mw_J6_bitCount_0f7a4 ms_J6_bitCount_0f7a4 ml_X0_17 ⟨rfl, rfl, Nat.le_of_ble_eq_true rfl, Nat.le_of_ble_eq_true rfl⟩ rfl rfl (Nat.le_of_ble_eq_true rfl) dX0_rowProduct_18) ?_
  refine g_top (w := .int (bcF ((μ.1 32 a) ^^^ (μ.1 32 b)))) rfl ?_
  refine g_imul dX0_rowProduct_21 ?_
  refine g_isub dX0_rowProduct_22 ?_
  refine g_at 23 rfl ?_
  exact g_ireturn dX0_rowProduct_23 rfl rfl rfl
theorem c_swapRows_eq (μ : Mm) {a s : Nat} (hs : μ.1 5 1 = nI s) (ha : a < 32) : Ok mX0_swapRows (rmL 1) [.ref 5, .int (nI a), .int (nI a)] μ (none, sI μ 32 a (μ.1 32 a ^^^ acF s)) := by
  refine Ok.of (by decide) (Nat.le_of_ble_eq_true rfl) [some (.ref 5), some (.int (nI a)), some (.int (nI a)), none] rfl ?_
  refine g_iload_n 1 _ dX0_swapRows_0 rfl rfl ?_
  refine g_iload_n 2 _ dX0_swapRows_1 rfl rfl ?_
  refine g_icmp_neN 22 (by omega) (by omega) dX0_swapRows_2 (by decide) (fun h2 => ?_) (fun h2 => ?_)
  · exact absurd rfl h2
  · refine g_aload_n 0 _ dX0_swapRows_5 rfl rfl ?_
    refine gf_X0_9 rfl dX0_swapRows_6 ?_
    refine g_iload_n 1 _ dX0_swapRows_9 rfl rfl ?_
    refine g_dup2 dX0_swapRows_10 rfl rfl ?_
    refine g_iaload (j := a) isI_32 (rfl) (by omega) (by omega) dX0_swapRows_11 ?_
    refine g_aload_n 0 _ dX0_swapRows_12 rfl rfl ?_
    refine gf_X0_13 rfl dX0_swapRows_13 ?_
    refine g_top (w := .int (nI s)) (congrArg Value.int hs) ?_
    refine g_at 16 rfl ?_
    refine g_backi (g_runS (c_allColumns μ s) rfl mw_X0_allColumns ms_X0_allColumns ml_X0_29 ⟨rfl, rfl, Nat.le_of_ble_eq_true rfl, Nat.le_of_ble_eq_true rfl⟩ rfl rfl (Nat.le_of_ble_eq_true rfl) dX0_swapRows_16) ?_
    refine g_top (w := .int (acF s)) rfl ?_
    refine g_ixor dX0_swapRows_19 ?_
    refine g_iastore (j := a) isI_32 (rfl) (by omega) (by omega) dX0_swapRows_20 ?_
    exact g_return dX0_swapRows_21 rfl rfl
theorem c_swapRows_ne (μ : Mm) {a b : Nat} (hab : a ≠ b) (ha : a < 32) (hb : b < 32) : Ok mX0_swapRows (rmL 1) [.ref 5, .int (nI a), .int (nI b)] μ (none, sI (sI μ 32 a (μ.1 32 b)) 32 b (μ.1 32 a)) := by
  refine Ok.of (by decide) (Nat.le_of_ble_eq_true rfl) [some (.ref 5), some (.int (nI a)), some (.int (nI b)), none] rfl ?_
  refine g_iload_n 1 _ dX0_swapRows_0 rfl rfl ?_
  refine g_iload_n 2 _ dX0_swapRows_1 rfl rfl ?_
  refine g_icmp_neN 22 (by omega) (by omega) dX0_swapRows_2 (by decide) (fun h2 => ?_) (fun h2 => ?_)
  · refine g_aload_n 0 _ dX0_swapRows_22 rfl rfl ?_
    refine gf_X0_9 rfl dX0_swapRows_23 ?_
    refine g_iload_n 1 _ dX0_swapRows_26 rfl rfl ?_
    refine g_iaload (j := a) isI_32 (rfl) (by omega) (by omega) dX0_swapRows_27 ?_
    refine g_istore_n [some (.ref 5), some (.int (nI a)), some (.int (nI b)), some (.int (μ.1 32 a))] dX0_swapRows_28 rfl (Nat.le_of_ble_eq_true rfl) rfl rfl ?_
    refine g_aload_n 0 _ dX0_swapRows_29 rfl rfl ?_
    refine gf_X0_9 rfl dX0_swapRows_30 ?_
    refine g_at 33 rfl ?_
    refine g_iload_n 1 _ dX0_swapRows_33 rfl rfl ?_
    refine g_aload_n 0 _ dX0_swapRows_34 rfl rfl ?_
    refine gf_X0_9 rfl dX0_swapRows_35 ?_
    refine g_iload_n 2 _ dX0_swapRows_38 rfl rfl ?_
    refine g_iaload (j := b) isI_32 (rfl) (by omega) (by omega) dX0_swapRows_39 ?_
    refine g_iastore (j := a) isI_32 (rfl) (by omega) (by omega) dX0_swapRows_40 ?_
    refine g_aload_n 0 _ dX0_swapRows_41 rfl rfl ?_
    refine gf_X0_9 rfl dX0_swapRows_42 ?_
    refine g_at 45 rfl ?_
    refine g_iload_n 2 _ dX0_swapRows_45 rfl rfl ?_
    refine g_iload_n 3 _ dX0_swapRows_46 rfl rfl ?_
    refine g_iastore (j := b) isI_32 (rfl) (by omega) (by omega) dX0_swapRows_47 ?_
    exact g_return dX0_swapRows_48 rfl rfl
  · exact absurd h2 hab
/-- row i of the doubled table, its first j places -/
def mdF (i j : Nat) : Int32 := (bcF (nI i &&& nI j) &&& nI 1) <<< (nI j &&& 31)
theorem c_md_in {μ : Mm} {M0 : Mm} {i s : Nat} {k : Int32} (hs : M0.1 5 1 = nI s) (h32 : s ≤ 32) (hi : i < s) (R : Option Value × Mm) (hE : G mX0_makeDoubled (rmL 1) R (sI M0 32 i (orF (mdF i) s)) 59 [some (.ref 5), some (.int k), some (.int (nI i)), some (.int (nI s))] []) : ∀ (m j : Nat), j ≤ s → s < j + m → G mX0_makeDoubled (rmL 1) R (sI M0 32 i (orF (mdF i) j)) 26 [some (.ref 5), some (.int k), some (.int (nI i)), some (.int (nI j))] [] := by
  intro m
  induction m with
  | zero => exact fun j h1 h2 => absurd h2 (by omega)
  | succ m ih =>
    intro j h1 h2
    refine g_iload_n 3 _ dX0_makeDoubled_26 rfl rfl ?_
    refine g_aload_n 0 _ dX0_makeDoubled_27 rfl rfl ?_
    refine gf_X0_13 rfl dX0_makeDoubled_28 ?_
    refine g_top (w := .int (nI s)) (congrArg Value.int hs) ?_
    refine g_icmp_geN 59 (by omega) (by omega) dX0_makeDoubled_31 (by decide) (fun h31 => ?_) (fun h31 => ?_)
    · rw [show j = s by omega]; exact hE
    · refine g_aload_n 0 _ dX0_makeDoubled_34 rfl rfl ?_
      refine gf_X0_9 rfl dX0_makeDoubled_35 ?_
      refine g_iload_n 2 _ dX0_makeDoubled_38 rfl rfl ?_
      refine g_dup2 dX0_makeDoubled_39 rfl rfl ?_
      refine g_iaload (j := i) isI_32 (rfl) (by omega) (by omega) dX0_makeDoubled_40 ?_
      refine g_top (w := .int (orF (mdF i) j)) (congrArg Value.int sI_same) ?_
      refine g_iload_n 2 _ dX0_makeDoubled_41 rfl rfl ?_
      refine g_iload_n 3 _ dX0_makeDoubled_42 rfl rfl ?_
      refine g_at 43 rfl ?_
      refine g_iand dX0_makeDoubled_43 ?_
      refine g_backi (g_runS (c_bitCount _ ((nI i) &&& (nI j))) rfl mw_J6_bitCount_0f7a4 ms_J6_bitCount_0f7a4 ml_X0_17 ⟨rfl, rfl, Nat.le_of_ble_eq_true rfl, Nat.le_of_ble_eq_true rfl⟩ rfl rfl (Nat.le_of_ble_eq_true rfl) dX0_makeDoubled_44) ?_
      refine g_top (w := .int (bcF ((nI i) &&& (nI j)))) rfl ?_
      refine g_iconst (nI 1) dX0_makeDoubled_47 rfl ?_
      refine g_iand dX0_makeDoubled_48 ?_
      refine g_iload_n 3 _ dX0_makeDoubled_49 rfl rfl ?_
      refine g_ishl dX0_makeDoubled_50 ?_
      refine g_ior dX0_makeDoubled_51 ?_
      refine g_iastore (j := i) isI_32 (rfl) (by omega) (by omega) dX0_makeDoubled_52 ?_
      refine g_mem (μ' := sI M0 32 i (orF (mdF i) (j + 1))) (sI_sI _ _ _ _ _) ?_
      refine g_at 53 rfl ?_
      refine g_iincN [some (.ref 5), some (.int k), some (.int (nI i)), some (.int (nI (j + 1)))] dX0_makeDoubled_53 rfl (Nat.le_of_ble_eq_true rfl) rfl rfl ?_
      refine g_goto 26 dX0_makeDoubled_56 (by decide) ?_
      exact ih (j + 1) (by omega) (by omega)
theorem c_md_out {μ : Mm} {s : Nat} {k : Int32} (hs : μ.1 5 1 = nI s) (h32 : s ≤ 32) : ∀ (m i : Nat) (z : Option Value), i ≤ s → s < i + m → (z = none ∨ ∃ v, z = some (.int v)) → G mX0_makeDoubled (rmL 1) (none, sR μ 32 (fil (μ.1 32) (fun i => orF (mdF i) s) s)) (sR μ 32 (fil (μ.1 32) (fun i => orF (mdF i) s) i)) 9 [some (.ref 5), some (.int k), some (.int (nI i)), z] [] := by
  intro m
  induction m with
  | zero => exact fun i z h1 h2 => absurd h2 (by omega)
  | succ m ih =>
    intro i z h1 h2 hz
    refine g_iload_n 2 _ dX0_makeDoubled_9 rfl rfl ?_
    refine g_aload_n 0 _ dX0_makeDoubled_10 rfl rfl ?_
    refine gf_X0_13 rfl dX0_makeDoubled_11 ?_
    refine g_top (w := .int (nI s)) (congrArg Value.int hs) ?_
    refine g_icmp_geN 65 (by omega) (by omega) dX0_makeDoubled_14 (by decide) (fun h14 => ?_) (fun h14 => ?_)
    · exact g_return dX0_makeDoubled_65 rfl (by rw [show i = s by omega])
    · have hE : G mX0_makeDoubled (rmL 1) (none, sR μ 32 (fil (μ.1 32) (fun i => orF (mdF i) s) s)) (sI (sR μ 32 (fil (μ.1 32) (fun i => orF (mdF i) s) i)) 32 i (orF (mdF i) s)) 59 [some (.ref 5), some (.int k), some (.int (nI i)), some (.int (nI s))] [] := by
        refine g_mem (sR_fil μ 32 i _ (fun i => orF (mdF i) s) rfl) ?_
        refine g_iincN [some (.ref 5), some (.int k), some (.int (nI (i + 1))), some (.int (nI s))] dX0_makeDoubled_59 rfl (Nat.le_of_ble_eq_true rfl) rfl rfl ?_
        refine g_goto 9 dX0_makeDoubled_62 (by decide) ?_
        exact ih (i + 1) _ (by omega) (by omega) (Or.inr ⟨_, rfl⟩)
      have hI := c_md_in (μ := μ) (k := k) (M0 := sR μ 32 (fil (μ.1 32) (fun i => orF (mdF i) s) i)) hs h32 h14 _ hE (s + 1) 0 (by omega) (by omega)
      rcases hz with rfl | ⟨v, rfl⟩
      · refine g_aload_n 0 _ dX0_makeDoubled_17 rfl rfl ?_
        refine gf_X0_9 rfl dX0_makeDoubled_18 ?_
        refine g_iload_n 2 _ dX0_makeDoubled_21 rfl rfl ?_
        refine g_iconst (nI 0) dX0_makeDoubled_22 rfl ?_
        refine g_iastore (j := i) isI_32 (rfl) (by omega) (by omega) dX0_makeDoubled_23 ?_
        refine g_iconst (nI 0) dX0_makeDoubled_24 rfl ?_
        refine g_istore_n [some (.ref 5), some (.int k), some (.int (nI i)), some (.int (nI 0))] dX0_makeDoubled_25 rfl (Nat.le_of_ble_eq_true rfl) rfl rfl ?_
        exact hI
      · refine g_aload_n 0 _ dX0_makeDoubled_17 rfl rfl ?_
        refine gf_X0_9 rfl dX0_makeDoubled_18 ?_
        refine g_iload_n 2 _ dX0_makeDoubled_21 rfl rfl ?_
        refine g_iconst (nI 0) dX0_makeDoubled_22 rfl ?_
        refine g_iastore (j := i) isI_32 (rfl) (by omega) (by omega) dX0_makeDoubled_23 ?_
        refine g_iconst (nI 0) dX0_makeDoubled_24 rfl ?_
        refine g_istore_n [some (.ref 5), some (.int k), some (.int (nI i)), some (.int (nI 0))] dX0_makeDoubled_25 rfl (Nat.le_of_ble_eq_true rfl) rfl rfl ?_
        exact hI
theorem c_makeDoubled (μ : Mm) {k s : Nat} (hs : nI 1 <<< (nI k &&& 31) = nI s) (h32 : s ≤ 32) : Ok mX0_makeDoubled (rmL 1) [.ref 5, .int (nI k)] μ (none, sR (sI μ 5 1 (nI s)) 32 (fil (μ.1 32) (fun i => orF (mdF i) s) s)) := by
  refine Ok.of (by decide) (Nat.le_of_ble_eq_true rfl) [some (.ref 5), some (.int (nI k)), none, none] rfl ?_
  refine g_aload_n 0 _ dX0_makeDoubled_0 rfl rfl ?_
  refine g_iconst (nI 1) dX0_makeDoubled_1 rfl ?_
  refine g_iload_n 1 _ dX0_makeDoubled_2 rfl rfl ?_
  refine g_ishl dX0_makeDoubled_3 ?_
  refine g_top (w := .int (nI s)) (congrArg Value.int hs) ?_
  refine gp_X0_13 rfl dX0_makeDoubled_4 ?_
  refine g_iconst (nI 0) dX0_makeDoubled_7 rfl ?_
  refine g_istore_n [some (.ref 5), some (.int (nI k)), some (.int (nI 0)), none] dX0_makeDoubled_8 rfl (Nat.le_of_ble_eq_true rfl) rfl rfl ?_
  have h := c_md_out (μ := sI μ 5 1 (nI s)) (k := nI k) rfl h32 (s + 1) 0 none (by omega) (by omega) (Or.inl rfl); rw [fil_0, sR_id] at h; exact h
/-- row i (from 1 on) of the table by rests -/
def mrF (p i j : Nat) : Int32 := if j = 0 then 0 else if sqP (j + p - i) p then 0 else nI 1 <<< (nI j &&& 31)
def mrR (p s i : Nat) : Int32 := if i = 0 then 0 else orF (mrF p i) s
theorem sub_add_nI {a b c : Nat} (h : b ≤ c) : nI a - nI b + nI c = nI (a + c - b) := by
  rw [show a + c - b = a + (c - b) by omega, ← nI_add, ← pk_sub h]
  rw [Int32.sub_eq_add_neg, Int32.sub_eq_add_neg, Int32.add_assoc, Int32.add_comm (-nI b)]
theorem c_mr_in {M0 : Mm} {i s p : Nat} (hs : M0.1 5 1 = nI s) (hp : p + 1 = s) (hp0 : 3 ≤ p) (h32 : s ≤ 32) (h1 : 1 ≤ i) (hi : i < s) (R : Option Value × Mm) (hE : G mX0_makeByRests (rmL 1) R (sI M0 32 i (orF (mrF p i) s)) 75 [some (.ref 5), some (.int (nI p)), some (.int (nI i)), some (.int (nI s))] []) : ∀ (m j : Nat), 1 ≤ j → j ≤ s → s < j + m → G mX0_makeByRests (rmL 1) R (sI M0 32 i (orF (mrF p i) j)) 33 [some (.ref 5), some (.int (nI p)), some (.int (nI i)), some (.int (nI j))] [] := by
  intro m
  induction m with
  | zero => exact fun j h0 h1 h2 => absurd h2 (by omega)
  | succ m ih =>
    intro j hj h1 h2
    have e1 : mrF p i j = if sqP (j + p - i) p then 0 else nI 1 <<< (nI j &&& 31) := by unfold mrF; rw [if_neg (by omega)]
    refine g_iload_n 3 _ dX0_makeByRests_33 rfl rfl ?_
    refine g_aload_n 0 _ dX0_makeByRests_34 rfl rfl ?_
    refine gf_X0_13 rfl dX0_makeByRests_35 ?_
    refine g_top (w := .int (nI s)) (congrArg Value.int hs) ?_
    refine g_icmp_geN 75 (by omega) (by omega) dX0_makeByRests_38 (by decide) (fun h38 => ?_) (fun h38 => ?_)
    · rw [show j = s by omega]; exact hE
    · refine g_aload_n 0 _ dX0_makeByRests_41 rfl rfl ?_
      refine gf_X0_9 rfl dX0_makeByRests_42 ?_
      refine g_iload_n 2 _ dX0_makeByRests_45 rfl rfl ?_
      refine g_dup2 dX0_makeByRests_46 rfl rfl ?_
      refine g_iaload (j := i) isI_32 (rfl) (by omega) (by omega) dX0_makeByRests_47 ?_
      refine g_top (w := .int (orF (mrF p i) j)) (congrArg Value.int sI_same) ?_
      refine g_iload_n 3 _ dX0_makeByRests_48 rfl rfl ?_
      refine g_iload_n 2 _ dX0_makeByRests_49 rfl rfl ?_
      refine g_at 50 rfl ?_
      refine g_isub dX0_makeByRests_50 ?_
      refine g_iload_n 1 _ dX0_makeByRests_51 rfl rfl ?_
      refine g_iadd dX0_makeByRests_52 ?_
      refine g_top (w := .int (nI (j + p - i))) (congrArg Value.int (sub_add_nI (by omega))) ?_
      refine g_iload_n 1 _ dX0_makeByRests_53 rfl rfl ?_
      refine g_backi (g_runSN (c_isSquare _ (x := j + p - i) (p := p) (by omega) (by omega) (by omega)) rfl mw_X5_isSquare ms_X5_isSquare mn_X0_23 ⟨rfl, rfl, Nat.le_of_ble_eq_true rfl, Nat.le_of_ble_eq_true rfl⟩ rfl rfl (Nat.le_of_ble_eq_true rfl) dX0_makeByRests_54) ?_
      refine g_top (w := .int (bI (sqP (j + p - i) p))) rfl ?_
      refine g_if_eqB 64 dX0_makeByRests_57 (by decide) (fun h57 => ?_) (fun h57 => ?_)
      · refine g_iconst (nI 1) dX0_makeByRests_64 rfl ?_
        refine g_iload_n 3 _ dX0_makeByRests_65 rfl rfl ?_
        refine g_ishl dX0_makeByRests_66 ?_
        refine g_ior dX0_makeByRests_67 ?_
        refine g_iastore (j := i) isI_32 (rfl) (by omega) (by omega) dX0_makeByRests_68 ?_
        refine g_mem (μ' := sI M0 32 i (orF (mrF p i) (j + 1))) (by rw [sI_sI]; show _ = sI M0 32 i (orF (mrF p i) j ||| mrF p i j); rw [e1]; first | rw [if_pos h57]; rfl | rw [if_neg h57]) ?_
        refine g_iincN [some (.ref 5), some (.int (nI p)), some (.int (nI i)), some (.int (nI (j + 1)))] dX0_makeByRests_69 rfl (Nat.le_of_ble_eq_true rfl) rfl rfl ?_
        refine g_goto 33 dX0_makeByRests_72 (by decide) ?_
        exact ih (j + 1) (by omega) (by omega) (by omega)
      · refine g_iconst (nI 0) dX0_makeByRests_60 rfl ?_
        refine g_goto 67 dX0_makeByRests_61 (by decide) ?_
        refine g_ior dX0_makeByRests_67 ?_
        refine g_iastore (j := i) isI_32 (rfl) (by omega) (by omega) dX0_makeByRests_68 ?_
        refine g_mem (μ' := sI M0 32 i (orF (mrF p i) (j + 1))) (by rw [sI_sI]; show _ = sI M0 32 i (orF (mrF p i) j ||| mrF p i j); rw [e1]; first | rw [if_pos h57]; rfl | rw [if_neg h57]) ?_
        refine g_iincN [some (.ref 5), some (.int (nI p)), some (.int (nI i)), some (.int (nI (j + 1)))] dX0_makeByRests_69 rfl (Nat.le_of_ble_eq_true rfl) rfl rfl ?_
        refine g_goto 33 dX0_makeByRests_72 (by decide) ?_
        exact ih (j + 1) (by omega) (by omega) (by omega)
theorem c_mr_out {μ : Mm} {s p : Nat} (hs : μ.1 5 1 = nI s) (hp : p + 1 = s) (hp0 : 3 ≤ p) (h32 : s ≤ 32) : ∀ (m i : Nat) (z : Option Value), 1 ≤ i → i ≤ s → s < i + m → (z = none ∨ ∃ v, z = some (.int v)) → G mX0_makeByRests (rmL 1) (none, sR μ 32 (fil (μ.1 32) (mrR p s) s)) (sR μ 32 (fil (μ.1 32) (mrR p s) i)) 16 [some (.ref 5), some (.int (nI p)), some (.int (nI i)), z] [] := by
  intro m
  induction m with
  | zero => exact fun i z h0 h1 h2 => absurd h2 (by omega)
  | succ m ih =>
    intro i z h0 h1 h2 hz
    refine g_iload_n 2 _ dX0_makeByRests_16 rfl rfl ?_
    refine g_aload_n 0 _ dX0_makeByRests_17 rfl rfl ?_
    refine gf_X0_13 rfl dX0_makeByRests_18 ?_
    refine g_top (w := .int (nI s)) (congrArg Value.int hs) ?_
    refine g_icmp_geN 81 (by omega) (by omega) dX0_makeByRests_21 (by decide) (fun h14 => ?_) (fun h14 => ?_)
    · exact g_return dX0_makeByRests_81 rfl (by rw [show i = s by omega])
    · have hE : G mX0_makeByRests (rmL 1) (none, sR μ 32 (fil (μ.1 32) (mrR p s) s)) (sI (sR μ 32 (fil (μ.1 32) (mrR p s) i)) 32 i (orF (mrF p i) s)) 75 [some (.ref 5), some (.int (nI p)), some (.int (nI i)), some (.int (nI s))] [] := by
        refine g_mem (sR_fil μ 32 i _ (mrR p s) (by unfold mrR; rw [if_neg (by omega)])) ?_
        refine g_iincN [some (.ref 5), some (.int (nI p)), some (.int (nI (i + 1))), some (.int (nI s))] dX0_makeByRests_75 rfl (Nat.le_of_ble_eq_true rfl) rfl rfl ?_
        refine g_goto 16 dX0_makeByRests_78 (by decide) ?_
        exact ih (i + 1) _ (by omega) (by omega) (by omega) (Or.inr ⟨_, rfl⟩)
      have hI := c_mr_in (M0 := sR μ 32 (fil (μ.1 32) (mrR p s) i)) hs hp hp0 h32 h0 h14 _ hE (s + 1) 1 (by omega) (by omega) (by omega)
      have e0 : orF (mrF p i) 1 = nI 0 := by
        show (0 : Int32) ||| mrF p i 0 = nI 0
        unfold mrF; rw [if_pos rfl]; rfl
      rw [e0] at hI
      rcases hz with rfl | ⟨v, rfl⟩
      · refine g_aload_n 0 _ dX0_makeByRests_24 rfl rfl ?_
        refine gf_X0_9 rfl dX0_makeByRests_25 ?_
        refine g_iload_n 2 _ dX0_makeByRests_28 rfl rfl ?_
        refine g_iconst (nI 0) dX0_makeByRests_29 rfl ?_
        refine g_iastore (j := i) isI_32 (rfl) (by omega) (by omega) dX0_makeByRests_30 ?_
        refine g_iconst (nI 1) dX0_makeByRests_31 rfl ?_
        refine g_istore_n [some (.ref 5), some (.int (nI p)), some (.int (nI i)), some (.int (nI 1))] dX0_makeByRests_32 rfl (Nat.le_of_ble_eq_true rfl) rfl rfl ?_
        exact hI
      · refine g_aload_n 0 _ dX0_makeByRests_24 rfl rfl ?_
        refine gf_X0_9 rfl dX0_makeByRests_25 ?_
        refine g_iload_n 2 _ dX0_makeByRests_28 rfl rfl ?_
        refine g_iconst (nI 0) dX0_makeByRests_29 rfl ?_
        refine g_iastore (j := i) isI_32 (rfl) (by omega) (by omega) dX0_makeByRests_30 ?_
        refine g_iconst (nI 1) dX0_makeByRests_31 rfl ?_
        refine g_istore_n [some (.ref 5), some (.int (nI p)), some (.int (nI i)), some (.int (nI 1))] dX0_makeByRests_32 rfl (Nat.le_of_ble_eq_true rfl) rfl rfl ?_
        exact hI
theorem c_makeByRests (μ : Mm) {p s : Nat} (hp : p + 1 = s) (hp0 : 3 ≤ p) (h32 : s ≤ 32) : Ok mX0_makeByRests (rmL 1) [.ref 5, .int (nI p)] μ (none, sR (sI μ 5 1 (nI s)) 32 (fil (μ.1 32) (mrR p s) s)) := by
  refine Ok.of (by decide) (Nat.le_of_ble_eq_true rfl) [some (.ref 5), some (.int (nI p)), none, none] rfl ?_
  have hm : sI (sI μ 5 1 (nI s)) 32 0 (nI 0) = sR (sI μ 5 1 (nI s)) 32 (fil (μ.1 32) (mrR p s) 1) := by
    rw [← sR_fil _ 32 0 _ (mrR p s) rfl, fil_0]
    have e : sR (sI μ 5 1 (nI s)) 32 (μ.1 32) = sI μ 5 1 (nI s) := sR_id (sI μ 5 1 (nI s)) 32
    rw [e]; rfl
  refine g_aload_n 0 _ dX0_makeByRests_0 rfl rfl ?_
  refine g_iload_n 1 _ dX0_makeByRests_1 rfl rfl ?_
  refine g_iconst (nI 1) dX0_makeByRests_2 rfl ?_
  refine g_iaddN dX0_makeByRests_3 ?_
  refine g_top (w := .int (nI s)) (congrArg Value.int (by rw [hp])) ?_
  refine gp_X0_13 rfl dX0_makeByRests_4 ?_
  refine g_aload_n 0 _ dX0_makeByRests_7 rfl rfl ?_
  refine gf_X0_9 rfl dX0_makeByRests_8 ?_
  refine g_at 11 rfl ?_
  refine g_iconst (nI 0) dX0_makeByRests_11 rfl ?_
  refine g_iconst (nI 0) dX0_makeByRests_12 rfl ?_
  refine g_iastore (j := 0) isI_32 (rfl) (by omega) (by omega) dX0_makeByRests_13 ?_
  refine g_mem hm ?_
  refine g_iconst (nI 1) dX0_makeByRests_14 rfl ?_
  refine g_istore_n [some (.ref 5), some (.int (nI p)), some (.int (nI 1)), none] dX0_makeByRests_15 rfl (Nat.le_of_ble_eq_true rfl) rfl rfl ?_
  exact c_mr_out (μ := sI μ 5 1 (nI s)) rfl hp hp0 h32 (s + 1) 1 none (by omega) (by omega) (by omega) (Or.inl rfl)
def duA (f : Nat → Int32) (o i : Nat) : Int32 := f i ||| (f i <<< (nI o &&& 31))
def duB (f : Nat → Int32) (o i : Nat) : Int32 := f i ||| ((f i ^^^ acF o) <<< (nI o &&& 31))
def duF (f : Nat → Int32) (o i : Nat) : Nat → Int32 := fun j => if j < i then duA f o j else if o ≤ j ∧ j < o + i then duB f o (j - o) else f j
theorem duF_put (f : Nat → Int32) {o i : Nat} (h : i < o) : upd (upd (duF f o i) i (duA f o i)) (i + o) (duB f o i) = duF f o (i + 1) := by
  funext j
  unfold upd duF
  by_cases h1 : j = i + o
  · subst h1
    rw [if_pos rfl, if_neg (by omega), if_pos (by omega), show i + o - o = i by omega]
  · by_cases h2 : j = i
    · subst h2
      rw [if_neg h1, if_pos rfl, if_pos (by omega)]
    · rw [if_neg h1, if_neg h2]
      by_cases h3 : j < i
      · rw [if_pos h3, if_pos (by omega)]
      · rw [if_neg h3, if_neg (show ¬ j < i + 1 by omega)]
        by_cases h4 : o ≤ j ∧ j < o + i
        · rw [if_pos h4, if_pos (by omega)]
        · rw [if_neg h4, if_neg (by omega)]
theorem c_du_l {μ : Mm} {o : Nat} (h16 : o ≤ 16) : ∀ (m i : Nat) (z : Option Value), i ≤ o → o < i + m → (z = none ∨ ∃ v, z = some (.int v)) → G mX0_doubleUp (rmL 1) (none, sI (sR μ 32 (duF (μ.1 32) o o)) 5 1 (nI (2 * o))) (sR μ 32 (duF (μ.1 32) o i)) 7 [some (.ref 5), some (.int (nI o)), some (.int (nI i)), z] [] := by
  intro m
  induction m with
  | zero => exact fun i z h1 h2 => absurd h2 (by omega)
  | succ m ih =>
    intro i z h1 h2 hz
    refine g_iload_n 2 _ dX0_doubleUp_7 rfl rfl ?_
    refine g_iload_n 1 _ dX0_doubleUp_8 rfl rfl ?_
    refine g_icmp_geN 54 (by omega) (by omega) dX0_doubleUp_9 (by decide) (fun h9 => ?_) (fun h9 => ?_)
    · have hio : i = o := by omega
      subst hio
      refine g_aload_n 0 _ dX0_doubleUp_54 rfl rfl ?_
      refine g_iconst (nI 2) dX0_doubleUp_55 rfl ?_
      refine g_iload_n 1 _ dX0_doubleUp_56 rfl rfl ?_
      refine g_imulN dX0_doubleUp_57 ?_
      refine gp_X0_13 rfl dX0_doubleUp_58 ?_
      exact g_return dX0_doubleUp_61 rfl rfl
    · have e1 : (sR μ 32 (duF (μ.1 32) o i)).1 32 i = μ.1 32 i := by
        rw [sR_at]; unfold duF; rw [if_neg (by omega), if_neg (by omega)]
      have e2 : sI (sI (sR μ 32 (duF (μ.1 32) o i)) 32 i (μ.1 32 i ||| (μ.1 32 i <<< (nI o &&& 31)))) 32 (i + o) (μ.1 32 i ||| ((μ.1 32 i ^^^ acF o) <<< (nI o &&& 31))) = sR μ 32 (duF (μ.1 32) o (i + 1)) := by
        rw [sI_sR, sI_sR]; exact congrArg (sR μ 32) (duF_put (μ.1 32) (show i < o by omega))
      have K : ∀ z, (z = none ∨ ∃ v, z = some (.int v)) → G mX0_doubleUp (rmL 1) (none, sI (sR μ 32 (duF (μ.1 32) o o)) 5 1 (nI (2 * o))) (sR μ 32 (duF (μ.1 32) o i)) 18 [some (.ref 5), some (.int (nI o)), some (.int (nI i)), z] [.int (μ.1 32 i)] := by
        intro z hz
        refine g_istore_n [some (.ref 5), some (.int (nI o)), some (.int (nI i)), some (.int (μ.1 32 i))] dX0_doubleUp_18 rfl (Nat.le_of_ble_eq_true rfl) rfl (by rcases hz with rfl | ⟨v, rfl⟩ <;> rfl) ?_
        refine g_aload_n 0 _ dX0_doubleUp_19 rfl rfl ?_
        refine gf_X0_9 rfl dX0_doubleUp_20 ?_
        refine g_iload_n 2 _ dX0_doubleUp_23 rfl rfl ?_
        refine g_iload_n 3 _ dX0_doubleUp_24 rfl rfl ?_
        refine g_iload_n 3 _ dX0_doubleUp_25 rfl rfl ?_
        refine g_iload_n 1 _ dX0_doubleUp_26 rfl rfl ?_
        refine g_ishl dX0_doubleUp_27 ?_
        refine g_at 28 rfl ?_
        refine g_ior dX0_doubleUp_28 ?_
        refine g_iastore (j := i) isI_32 (rfl) (by omega) (by omega) dX0_doubleUp_29 ?_
        refine g_aload_n 0 _ dX0_doubleUp_30 rfl rfl ?_
        refine gf_X0_9 rfl dX0_doubleUp_31 ?_
        refine g_iload_n 2 _ dX0_doubleUp_34 rfl rfl ?_
        refine g_iload_n 1 _ dX0_doubleUp_35 rfl rfl ?_
        refine g_iaddN dX0_doubleUp_36 ?_
        refine g_iload_n 3 _ dX0_doubleUp_37 rfl rfl ?_
        refine g_at 38 rfl ?_
        refine g_iload_n 3 _ dX0_doubleUp_38 rfl rfl ?_
        refine g_iload_n 1 _ dX0_doubleUp_39 rfl rfl ?_
        refine g_backi (g_runS (c_allColumns _ o) rfl mw_X0_allColumns ms_X0_allColumns ml_X0_29 ⟨rfl, rfl, Nat.le_of_ble_eq_true rfl, Nat.le_of_ble_eq_true rfl⟩ rfl rfl (Nat.le_of_ble_eq_true rfl) dX0_doubleUp_40) ?_
        refine g_top (w := .int (acF o)) rfl ?_
        refine g_ixor dX0_doubleUp_43 ?_
        refine g_iload_n 1 _ dX0_doubleUp_44 rfl rfl ?_
        refine g_ishl dX0_doubleUp_45 ?_
        refine g_ior dX0_doubleUp_46 ?_
        refine g_iastore (j := i + o) isI_32 (rfl) (by omega) (by omega) dX0_doubleUp_47 ?_
        refine g_mem (μ' := sR μ 32 (duF (μ.1 32) o (i + 1))) e2 ?_
        refine g_at 48 rfl ?_
        refine g_iincN [some (.ref 5), some (.int (nI o)), some (.int (nI (i + 1))), some (.int (μ.1 32 i))] dX0_doubleUp_48 rfl (Nat.le_of_ble_eq_true rfl) rfl rfl ?_
        refine g_goto 7 dX0_doubleUp_51 (by decide) ?_
        exact ih (i + 1) _ (by omega) (by omega) (Or.inr ⟨_, rfl⟩)
      have K2 := K z hz
      refine g_aload_n 0 _ dX0_doubleUp_12 rfl rfl ?_
      refine gf_X0_9 rfl dX0_doubleUp_13 ?_
      refine g_iload_n 2 _ dX0_doubleUp_16 rfl rfl ?_
      refine g_iaload (j := i) isI_32 rfl (by omega) (by omega) dX0_doubleUp_17 ?_
      exact g_top (congrArg Value.int e1) K2
theorem c_doubleUp (μ : Mm) {o : Nat} (hs : μ.1 5 1 = nI o) (h16 : o ≤ 16) : Ok mX0_doubleUp (rmL 1) [.ref 5] μ (none, sI (sR μ 32 (duF (μ.1 32) o o)) 5 1 (nI (2 * o))) := by
  refine Ok.of (by decide) (Nat.le_of_ble_eq_true rfl) [some (.ref 5), none, none, none] rfl ?_
  have e0 : duF (μ.1 32) o 0 = μ.1 32 := by funext j; unfold duF; rw [if_neg (by omega), if_neg (by omega)]
  refine g_aload_n 0 _ dX0_doubleUp_0 rfl rfl ?_
  refine gf_X0_13 rfl dX0_doubleUp_1 ?_
  refine g_top (w := .int (nI o)) (congrArg Value.int hs) ?_
  refine g_istore_n [some (.ref 5), some (.int (nI o)), none, none] dX0_doubleUp_4 rfl (Nat.le_of_ble_eq_true rfl) rfl rfl ?_
  refine g_iconst (nI 0) dX0_doubleUp_5 rfl ?_
  refine g_istore_n [some (.ref 5), some (.int (nI o)), some (.int (nI 0)), none] dX0_doubleUp_6 rfl (Nat.le_of_ble_eq_true rfl) rfl rfl ?_
  have h := c_du_l (μ := μ) h16 (o + 1) 0 none (by omega) (by omega) (Or.inl rfl); rw [e0, sR_id] at h; exact h
/-! HoleMask: tables -/
theorem c_rowsFault_2 (μ : Mm) (a b : Int32) (hs : μ.1 5 1 = nI 0) : Ok mX5_rowsFault (rmL 1) [.ref 0, .int a, .int b] μ (some (.int (nI 2)), μ) := by
  refine Ok.of (by decide) (Nat.le_of_ble_eq_true rfl) [some (.ref 0), some (.int a), some (.int b)] rfl ?_
  refine g_aload_n 0 _ dX5_rowsFault_0 rfl rfl ?_
  refine gf_X5_40 rfl dX5_rowsFault_1 ?_
  refine gf_X5_123 rfl dX5_rowsFault_4 ?_
  refine g_top (w := .int (nI 0)) (congrArg Value.int hs) ?_
  refine g_if_neN 12 (by omega) dX5_rowsFault_7 (by decide) (fun h7 => ?_) (fun h7 => ?_)
  · exact absurd h7 (by omega)
  · refine g_iconst (nI 2) dX5_rowsFault_10 rfl ?_
    exact g_ireturn dX5_rowsFault_11 rfl rfl rfl
abbrev inB (s : Nat) (a : Int32) : Prop := 0 ≤ a.toInt ∧ a.toInt < s
theorem c_rowsFault (μ : Mm) (a b : Int32) {s : Nat} (hs : μ.1 5 1 = nI s) (h0 : 0 < s) (h32 : s ≤ 32) : Ok mX5_rowsFault (rmL 1) [.ref 0, .int a, .int b] μ (some (.int (if inB s a ∧ inB s b then nI 0 else nI 1)), μ) := by
  have hsi : (nI s).toInt = s := nI_toInt (by omega)
  refine Ok.of (by decide) (Nat.le_of_ble_eq_true rfl) [some (.ref 0), some (.int a), some (.int b)] rfl ?_
  refine g_aload_n 0 _ dX5_rowsFault_0 rfl rfl ?_
  refine gf_X5_40 rfl dX5_rowsFault_1 ?_
  refine gf_X5_123 rfl dX5_rowsFault_4 ?_
  refine g_top (w := .int (nI s)) (congrArg Value.int hs) ?_
  refine g_if_neN 12 (by omega) dX5_rowsFault_7 (by decide) (fun h7 => ?_) (fun h7 => ?_)
  · refine g_aload_n 0 _ dX5_rowsFault_12 rfl rfl ?_
    refine gf_X5_40 rfl dX5_rowsFault_13 ?_
    refine g_iload_n 1 _ dX5_rowsFault_16 rfl rfl ?_
    refine g_backi (g_runVN (c_bhas μ a hs) rfl mw_X0_has mi_X0_has mn_X5_215 isO_5 ⟨rfl, rfl, Nat.le_of_ble_eq_true rfl, Nat.le_of_ble_eq_true rfl⟩ rfl rfl (Nat.le_of_ble_eq_true rfl) dX5_rowsFault_17) ?_
    refine g_top (w := .int (bI (¬ a < 0 ∧ a < nI s))) rfl ?_
    refine g_if_eqB 38 dX5_rowsFault_20 (by decide) (fun h20 => ?_) (fun h20 => ?_)
    · refine g_iconst (nI 1) dX5_rowsFault_38 rfl ?_
      exact g_ireturn dX5_rowsFault_39 rfl rfl (by simp only [fa_lt, t0, hsi] at *; first | rw [if_pos ⟨⟨by omega, by omega⟩, by omega, by omega⟩] | rw [if_neg (fun q => by obtain ⟨⟨q1, q2⟩, q3, q4⟩ := q; omega)])
    · refine g_aload_n 0 _ dX5_rowsFault_23 rfl rfl ?_
      refine gf_X5_40 rfl dX5_rowsFault_24 ?_
      refine g_iload_n 2 _ dX5_rowsFault_27 rfl rfl ?_
      refine g_backi (g_runVN (c_bhas μ b hs) rfl mw_X0_has mi_X0_has mn_X5_215 isO_5 ⟨rfl, rfl, Nat.le_of_ble_eq_true rfl, Nat.le_of_ble_eq_true rfl⟩ rfl rfl (Nat.le_of_ble_eq_true rfl) dX5_rowsFault_28) ?_
      refine g_top (w := .int (bI (¬ b < 0 ∧ b < nI s))) rfl ?_
      refine g_if_eqB 38 dX5_rowsFault_31 (by decide) (fun h31 => ?_) (fun h31 => ?_)
      · refine g_iconst (nI 1) dX5_rowsFault_38 rfl ?_
        exact g_ireturn dX5_rowsFault_39 rfl rfl (by simp only [fa_lt, t0, hsi] at *; first | rw [if_pos ⟨⟨by omega, by omega⟩, by omega, by omega⟩] | rw [if_neg (fun q => by obtain ⟨⟨q1, q2⟩, q3, q4⟩ := q; omega)])
      · refine g_iconst (nI 0) dX5_rowsFault_34 rfl ?_
        refine g_goto 39 dX5_rowsFault_35 (by decide) ?_
        exact g_ireturn dX5_rowsFault_39 rfl rfl (by simp only [fa_lt, t0, hsi] at *; first | rw [if_pos ⟨⟨by omega, by omega⟩, by omega, by omega⟩] | rw [if_neg (fun q => by obtain ⟨⟨q1, q2⟩, q3, q4⟩ := q; omega)])
  · exact absurd h7 (by omega)
theorem c_swap_no (μ : Mm) (a b : Int32) {f : Int32} (hf : f ≠ 0) (h : Ok mX5_rowsFault (rmL 1) [.ref 0, .int a, .int b] μ (some (.int f), μ)) : Ok mX5_swap (rmL 2) [.ref 0, .int a, .int b] μ (some (.int (nI 0)), sI μ 0 5 f) := by
  refine Ok.of (by decide) (Nat.le_of_ble_eq_true rfl) [some (.ref 0), some (.int a), some (.int b)] rfl ?_
  refine g_aload_n 0 _ dX5_swap_0 rfl rfl ?_
  refine g_aload_n 0 _ dX5_swap_1 rfl rfl ?_
  refine g_iload_n 1 _ dX5_swap_2 rfl rfl ?_
  refine g_iload_n 2 _ dX5_swap_3 rfl rfl ?_
  refine g_backi (g_runV (h) rfl mw_X5_rowsFault mi_X5_rowsFault ml_X5_209 isO_0 ⟨rfl, rfl, Nat.le_of_ble_eq_true rfl, Nat.le_of_ble_eq_true rfl⟩ rfl rfl (Nat.le_of_ble_eq_true rfl) dX5_swap_4) ?_
  refine g_top (w := .int f) rfl ?_
  refine g_backi (g_runV (c_refuses1 μ hf) rfl mw_X5_refuses mi_X5_refuses ml_X5_48 isO_0 ⟨rfl, rfl, Nat.le_of_ble_eq_true rfl, Nat.le_of_ble_eq_true rfl⟩ rfl rfl (Nat.le_of_ble_eq_true rfl) dX5_swap_7) ?_
  refine g_mem (μ' := sI μ 0 5 f) rfl ?_
  refine g_top (w := .int (nI 1)) rfl ?_
  refine g_if_eqN 15 (by omega) dX5_swap_10 (by decide) (fun h10 => ?_) (fun h10 => ?_)
  · exact absurd h10 (by omega)
  · refine g_iconst (nI 0) dX5_swap_13 rfl ?_
    exact g_ireturn dX5_swap_14 rfl rfl rfl
theorem c_product_no (μ : Mm) (a b : Int32) {f : Int32} (hf : f ≠ 0) (h : Ok mX5_rowsFault (rmL 1) [.ref 0, .int a, .int b] μ (some (.int f), μ)) : Ok mX5_product (rmL 2) [.ref 0, .int a, .int b] μ (some (.int (nI 0)), sI μ 0 5 f) := by
  refine Ok.of (by decide) (Nat.le_of_ble_eq_true rfl) [some (.ref 0), some (.int a), some (.int b)] rfl ?_
  refine g_aload_n 0 _ dX5_product_0 rfl rfl ?_
  refine g_aload_n 0 _ dX5_product_1 rfl rfl ?_
  refine g_iload_n 1 _ dX5_product_2 rfl rfl ?_
  refine g_iload_n 2 _ dX5_product_3 rfl rfl ?_
  refine g_backi (g_runV (h) rfl mw_X5_rowsFault mi_X5_rowsFault ml_X5_209 isO_0 ⟨rfl, rfl, Nat.le_of_ble_eq_true rfl, Nat.le_of_ble_eq_true rfl⟩ rfl rfl (Nat.le_of_ble_eq_true rfl) dX5_product_4) ?_
  refine g_top (w := .int f) rfl ?_
  refine g_backi (g_runV (c_refuses1 μ hf) rfl mw_X5_refuses mi_X5_refuses ml_X5_48 isO_0 ⟨rfl, rfl, Nat.le_of_ble_eq_true rfl, Nat.le_of_ble_eq_true rfl⟩ rfl rfl (Nat.le_of_ble_eq_true rfl) dX5_product_7) ?_
  refine g_mem (μ' := sI μ 0 5 f) rfl ?_
  refine g_top (w := .int (nI 1)) rfl ?_
  refine g_if_eqN 15 (by omega) dX5_product_10 (by decide) (fun h10 => ?_) (fun h10 => ?_)
  · exact absurd h10 (by omega)
  · refine g_iconst (nI 0) dX5_product_13 rfl ?_
    exact g_ireturn dX5_product_14 rfl rfl rfl
theorem c_look_no (μ : Mm) (a : Int32) {f : Int32} (hf : f ≠ 0) (h : Ok mX5_rowsFault (rmL 1) [.ref 0, .int a, .int a] μ (some (.int f), μ)) : Ok mX5_look (rmL 2) [.ref 0, .int a] μ (some (.int (nI 0)), sI μ 0 5 f) := by
  refine Ok.of (by decide) (Nat.le_of_ble_eq_true rfl) [some (.ref 0), some (.int a), none, none, none] rfl ?_
  refine g_aload_n 0 _ dX5_look_0 rfl rfl ?_
  refine g_aload_n 0 _ dX5_look_1 rfl rfl ?_
  refine g_iload_n 1 _ dX5_look_2 rfl rfl ?_
  refine g_iload_n 1 _ dX5_look_3 rfl rfl ?_
  refine g_backi (g_runV (h) rfl mw_X5_rowsFault mi_X5_rowsFault ml_X5_209 isO_0 ⟨rfl, rfl, Nat.le_of_ble_eq_true rfl, Nat.le_of_ble_eq_true rfl⟩ rfl rfl (Nat.le_of_ble_eq_true rfl) dX5_look_4) ?_
  refine g_top (w := .int f) rfl ?_
  refine g_backi (g_runV (c_refuses1 μ hf) rfl mw_X5_refuses mi_X5_refuses ml_X5_48 isO_0 ⟨rfl, rfl, Nat.le_of_ble_eq_true rfl, Nat.le_of_ble_eq_true rfl⟩ rfl rfl (Nat.le_of_ble_eq_true rfl) dX5_look_7) ?_
  refine g_mem (μ' := sI μ 0 5 f) rfl ?_
  refine g_top (w := .int (nI 1)) rfl ?_
  refine g_if_eqN 15 (by omega) dX5_look_10 (by decide) (fun h10 => ?_) (fun h10 => ?_)
  · exact absurd h10 (by omega)
  · refine g_iconst (nI 0) dX5_look_13 rfl ?_
    exact g_ireturn dX5_look_14 rfl rfl rfl
theorem inB_nI {s a : Nat} (h : a < s) (h32 : s ≤ 32) : inB s (nI a) := by
  unfold inB; rw [nI_toInt (by omega)]; omega
theorem c_swap_eq (μ : Mm) {a s : Nat} (hs : μ.1 5 1 = nI s) (h32 : s ≤ 32) (ha : a < s) : Ok mX5_swap (rmL 2) [.ref 0, .int (nI a), .int (nI a)] μ (some (.int (nI 1)), sI (sI μ 0 5 0) 32 a (μ.1 32 a ^^^ acF s)) := by
  refine Ok.of (by decide) (Nat.le_of_ble_eq_true rfl) [some (.ref 0), some (.int (nI a)), some (.int (nI a))] rfl ?_
  refine g_aload_n 0 _ dX5_swap_0 rfl rfl ?_
  refine g_aload_n 0 _ dX5_swap_1 rfl rfl ?_
  refine g_iload_n 1 _ dX5_swap_2 rfl rfl ?_
  refine g_iload_n 2 _ dX5_swap_3 rfl rfl ?_
  refine g_backi (g_runV ((c_rowsFault μ _ _ hs (by omega) h32).to (by rw [if_pos ⟨inB_nI ha h32, inB_nI ha h32⟩])) rfl mw_X5_rowsFault mi_X5_rowsFault ml_X5_209 isO_0 ⟨rfl, rfl, Nat.le_of_ble_eq_true rfl, Nat.le_of_ble_eq_true rfl⟩ rfl rfl (Nat.le_of_ble_eq_true rfl) dX5_swap_4) ?_
  refine g_top (w := .int (nI 0)) rfl ?_
  refine g_backi (g_runV (c_refuses0 μ) rfl mw_X5_refuses mi_X5_refuses ml_X5_48 isO_0 ⟨rfl, rfl, Nat.le_of_ble_eq_true rfl, Nat.le_of_ble_eq_true rfl⟩ rfl rfl (Nat.le_of_ble_eq_true rfl) dX5_swap_7) ?_
  refine g_mem (μ' := sI μ 0 5 0) rfl ?_
  refine g_top (w := .int (nI 0)) rfl ?_
  refine g_if_eqN 15 (by omega) dX5_swap_10 (by decide) (fun h10 => ?_) (fun h10 => ?_)
  · refine g_aload_n 0 _ dX5_swap_15 rfl rfl ?_
    refine gf_X5_40 rfl dX5_swap_16 ?_
    refine g_iload_n 1 _ dX5_swap_19 rfl rfl ?_
    refine g_iload_n 2 _ dX5_swap_20 rfl rfl ?_
    refine g_backv (g_runVN (c_swapRows_eq (sI μ 0 5 0) (s := s) hs (show a < 32 by omega)) rfl mw_X0_swapRows mi_X0_swapRows mn_X5_212 isO_5 ⟨rfl, rfl, Nat.le_of_ble_eq_true rfl, Nat.le_of_ble_eq_true rfl⟩ rfl rfl (Nat.le_of_ble_eq_true rfl) dX5_swap_21) ?_
    refine g_mem (μ' := sI (sI μ 0 5 0) 32 a (μ.1 32 a ^^^ acF s)) rfl ?_
    refine g_iconst (nI 1) dX5_swap_24 rfl ?_
    exact g_ireturn dX5_swap_25 rfl rfl rfl
  · exact absurd h10 (by omega)
theorem c_swap_ne (μ : Mm) {a b s : Nat} (hs : μ.1 5 1 = nI s) (h32 : s ≤ 32) (ha : a < s) (hb : b < s) (hab : a ≠ b) : Ok mX5_swap (rmL 2) [.ref 0, .int (nI a), .int (nI b)] μ (some (.int (nI 1)), sI (sI (sI μ 0 5 0) 32 a (μ.1 32 b)) 32 b (μ.1 32 a)) := by
  refine Ok.of (by decide) (Nat.le_of_ble_eq_true rfl) [some (.ref 0), some (.int (nI a)), some (.int (nI b))] rfl ?_
  refine g_aload_n 0 _ dX5_swap_0 rfl rfl ?_
  refine g_aload_n 0 _ dX5_swap_1 rfl rfl ?_
  refine g_iload_n 1 _ dX5_swap_2 rfl rfl ?_
  refine g_iload_n 2 _ dX5_swap_3 rfl rfl ?_
  refine g_backi (g_runV ((c_rowsFault μ _ _ hs (by omega) h32).to (by rw [if_pos ⟨inB_nI ha h32, inB_nI hb h32⟩])) rfl mw_X5_rowsFault mi_X5_rowsFault ml_X5_209 isO_0 ⟨rfl, rfl, Nat.le_of_ble_eq_true rfl, Nat.le_of_ble_eq_true rfl⟩ rfl rfl (Nat.le_of_ble_eq_true rfl) dX5_swap_4) ?_
  refine g_top (w := .int (nI 0)) rfl ?_
  refine g_backi (g_runV (c_refuses0 μ) rfl mw_X5_refuses mi_X5_refuses ml_X5_48 isO_0 ⟨rfl, rfl, Nat.le_of_ble_eq_true rfl, Nat.le_of_ble_eq_true rfl⟩ rfl rfl (Nat.le_of_ble_eq_true rfl) dX5_swap_7) ?_
  refine g_mem (μ' := sI μ 0 5 0) rfl ?_
  refine g_top (w := .int (nI 0)) rfl ?_
  refine g_if_eqN 15 (by omega) dX5_swap_10 (by decide) (fun h10 => ?_) (fun h10 => ?_)
  · refine g_aload_n 0 _ dX5_swap_15 rfl rfl ?_
    refine gf_X5_40 rfl dX5_swap_16 ?_
    refine g_iload_n 1 _ dX5_swap_19 rfl rfl ?_
    refine g_iload_n 2 _ dX5_swap_20 rfl rfl ?_
    refine g_backv (g_runVN (c_swapRows_ne (sI μ 0 5 0) hab (show a < 32 by omega) (show b < 32 by omega)) rfl mw_X0_swapRows mi_X0_swapRows mn_X5_212 isO_5 ⟨rfl, rfl, Nat.le_of_ble_eq_true rfl, Nat.le_of_ble_eq_true rfl⟩ rfl rfl (Nat.le_of_ble_eq_true rfl) dX5_swap_21) ?_
    refine g_mem (μ' := sI (sI (sI μ 0 5 0) 32 a (μ.1 32 b)) 32 b (μ.1 32 a)) rfl ?_
    refine g_iconst (nI 1) dX5_swap_24 rfl ?_
    exact g_ireturn dX5_swap_25 rfl rfl rfl
  · exact absurd h10 (by omega)
theorem c_product_ok (μ : Mm) {a b s : Nat} (hs : μ.1 5 1 = nI s) (h32 : s ≤ 32) (ha : a < s) (hb : b < s) : Ok mX5_product (rmL 2) [.ref 0, .int (nI a), .int (nI b)] μ (some (.int (nI s - nI 2 * bcF (μ.1 32 a ^^^ μ.1 32 b))), sI μ 0 5 0) := by
  refine Ok.of (by decide) (Nat.le_of_ble_eq_true rfl) [some (.ref 0), some (.int (nI a)), some (.int (nI b))] rfl ?_
  refine g_aload_n 0 _ dX5_product_0 rfl rfl ?_
  refine g_aload_n 0 _ dX5_product_1 rfl rfl ?_
  refine g_iload_n 1 _ dX5_product_2 rfl rfl ?_
  refine g_iload_n 2 _ dX5_product_3 rfl rfl ?_
  refine g_backi (g_runV ((c_rowsFault μ _ _ hs (by omega) h32).to (by rw [if_pos ⟨inB_nI ha h32, inB_nI hb h32⟩])) rfl mw_X5_rowsFault mi_X5_rowsFault ml_X5_209 isO_0 ⟨rfl, rfl, Nat.le_of_ble_eq_true rfl, Nat.le_of_ble_eq_true rfl⟩ rfl rfl (Nat.le_of_ble_eq_true rfl) dX5_product_4) ?_
  refine g_top (w := .int (nI 0)) rfl ?_
  refine g_backi (g_runV (c_refuses0 μ) rfl mw_X5_refuses mi_X5_refuses ml_X5_48 isO_0 ⟨rfl, rfl, Nat.le_of_ble_eq_true rfl, Nat.le_of_ble_eq_true rfl⟩ rfl rfl (Nat.le_of_ble_eq_true rfl) dX5_product_7) ?_
  refine g_mem (μ' := sI μ 0 5 0) rfl ?_
  refine g_top (w := .int (nI 0)) rfl ?_
  refine g_if_eqN 15 (by omega) dX5_product_10 (by decide) (fun h10 => ?_) (fun h10 => ?_)
  · refine g_aload_n 0 _ dX5_product_15 rfl rfl ?_
    refine gf_X5_40 rfl dX5_product_16 ?_
    refine g_iload_n 1 _ dX5_product_19 rfl rfl ?_
    refine g_iload_n 2 _ dX5_product_20 rfl rfl ?_
    refine g_backi (g_runVN (c_rowProduct (sI μ 0 5 0) (s := s) hs (show a < 32 by omega) (show b < 32 by omega)) rfl mw_X0_rowProduct mi_X0_rowProduct mn_X5_219 isO_5 ⟨rfl, rfl, Nat.le_of_ble_eq_true rfl, Nat.le_of_ble_eq_true rfl⟩ rfl rfl (Nat.le_of_ble_eq_true rfl) dX5_product_21) ?_
    refine g_top (w := .int (nI s - nI 2 * bcF (μ.1 32 a ^^^ μ.1 32 b))) rfl ?_
    exact g_ireturn dX5_product_24 rfl rfl rfl
  · exact absurd h10 (by omega)
theorem c_sign_no (μ : Mm) (a b : Int32) {s : Nat} (hs : μ.1 5 1 = nI s) (h32 : s ≤ 32) (h : ¬ (inB s a ∧ inB s b)) : Ok mX5_sign (rmL 1) [.ref 0, .int a, .int b] μ (some (.int (nI 0)), sI μ 0 5 0) := by
  have hsi : (nI s).toInt = s := nI_toInt (by omega)
  refine Ok.of (by decide) (Nat.le_of_ble_eq_true rfl) [some (.ref 0), some (.int a), some (.int b)] rfl ?_
  refine g_aload_n 0 _ dX5_sign_0 rfl rfl ?_
  refine g_iconst (nI 0) dX5_sign_1 rfl ?_
  refine gp_X5_44 rfl dX5_sign_2 ?_
  refine g_aload_n 0 _ dX5_sign_5 rfl rfl ?_
  refine gf_X5_40 rfl dX5_sign_6 ?_
  refine g_iload_n 1 _ dX5_sign_9 rfl rfl ?_
  refine g_backi (g_runVN (c_bhas (sI μ 0 5 (nI 0)) a (s := s) hs) rfl mw_X0_has mi_X0_has mn_X5_215 isO_5 ⟨rfl, rfl, Nat.le_of_ble_eq_true rfl, Nat.le_of_ble_eq_true rfl⟩ rfl rfl (Nat.le_of_ble_eq_true rfl) dX5_sign_10) ?_
  refine g_top (w := .int (bI (¬ a < 0 ∧ a < nI s))) rfl ?_
  refine g_at 13 rfl ?_
  refine g_if_eqB 39 dX5_sign_13 (by decide) (fun h13 => ?_) (fun h13 => ?_)
  · refine g_iconst (nI 0) dX5_sign_39 rfl ?_
    exact g_ireturn dX5_sign_40 rfl rfl rfl
  · refine g_aload_n 0 _ dX5_sign_16 rfl rfl ?_
    refine gf_X5_40 rfl dX5_sign_17 ?_
    refine g_iload_n 2 _ dX5_sign_20 rfl rfl ?_
    refine g_backi (g_runVN (c_bhas (sI μ 0 5 (nI 0)) b (s := s) hs) rfl mw_X0_has mi_X0_has mn_X5_215 isO_5 ⟨rfl, rfl, Nat.le_of_ble_eq_true rfl, Nat.le_of_ble_eq_true rfl⟩ rfl rfl (Nat.le_of_ble_eq_true rfl) dX5_sign_21) ?_
    refine g_top (w := .int (bI (¬ b < 0 ∧ b < nI s))) rfl ?_
    refine g_if_eqB 39 dX5_sign_24 (by decide) (fun h24 => ?_) (fun h24 => ?_)
    · refine g_iconst (nI 0) dX5_sign_39 rfl ?_
      exact g_ireturn dX5_sign_40 rfl rfl rfl
    · exact absurd (show inB s a ∧ inB s b by simp only [fa_lt, t0, hsi] at *; exact ⟨⟨by omega, by omega⟩, by omega, by omega⟩) h
theorem c_sign_ok (μ : Mm) {a b s : Nat} (hs : μ.1 5 1 = nI s) (h32 : s ≤ 32) (ha : a < s) (hb : b < s) : Ok mX5_sign (rmL 1) [.ref 0, .int (nI a), .int (nI b)] μ (some (.int (sgF (μ.1 32 a) b)), sI μ 0 5 0) := by
  refine Ok.of (by decide) (Nat.le_of_ble_eq_true rfl) [some (.ref 0), some (.int (nI a)), some (.int (nI b))] rfl ?_
  refine g_aload_n 0 _ dX5_sign_0 rfl rfl ?_
  refine g_iconst (nI 0) dX5_sign_1 rfl ?_
  refine gp_X5_44 rfl dX5_sign_2 ?_
  refine g_aload_n 0 _ dX5_sign_5 rfl rfl ?_
  refine gf_X5_40 rfl dX5_sign_6 ?_
  refine g_iload_n 1 _ dX5_sign_9 rfl rfl ?_
  refine g_backi (g_runVN ((c_bhas (sI μ 0 5 (nI 0)) (nI a) (s := s) hs).to (by rw [bI_t ⟨nI_pos (by omega), nI_lt ha (by omega)⟩])) rfl mw_X0_has mi_X0_has mn_X5_215 isO_5 ⟨rfl, rfl, Nat.le_of_ble_eq_true rfl, Nat.le_of_ble_eq_true rfl⟩ rfl rfl (Nat.le_of_ble_eq_true rfl) dX5_sign_10) ?_
  refine g_top (w := .int 1) rfl ?_
  refine g_at 13 rfl ?_
  refine g_if_eq 39 dX5_sign_13 (by decide) (fun h13 => ?_) (fun h13 => ?_)
  · exact absurd h13 (by decide)
  · refine g_aload_n 0 _ dX5_sign_16 rfl rfl ?_
    refine gf_X5_40 rfl dX5_sign_17 ?_
    refine g_iload_n 2 _ dX5_sign_20 rfl rfl ?_
    refine g_backi (g_runVN ((c_bhas (sI μ 0 5 (nI 0)) (nI b) (s := s) hs).to (by rw [bI_t ⟨nI_pos (by omega), nI_lt hb (by omega)⟩])) rfl mw_X0_has mi_X0_has mn_X5_215 isO_5 ⟨rfl, rfl, Nat.le_of_ble_eq_true rfl, Nat.le_of_ble_eq_true rfl⟩ rfl rfl (Nat.le_of_ble_eq_true rfl) dX5_sign_21) ?_
    refine g_top (w := .int 1) rfl ?_
    refine g_if_eq 39 dX5_sign_24 (by decide) (fun h24 => ?_) (fun h24 => ?_)
    · exact absurd h24 (by decide)
    · refine g_aload_n 0 _ dX5_sign_27 rfl rfl ?_
      refine gf_X5_40 rfl dX5_sign_28 ?_
      refine g_iload_n 1 _ dX5_sign_31 rfl rfl ?_
      refine g_iload_n 2 _ dX5_sign_32 rfl rfl ?_
      refine g_backi (g_runVN (c_signAt (sI μ 0 5 (nI 0)) (show a < 32 by omega)) rfl mw_X0_signAt mi_X0_signAt mn_X5_216 isO_5 ⟨rfl, rfl, Nat.le_of_ble_eq_true rfl, Nat.le_of_ble_eq_true rfl⟩ rfl rfl (Nat.le_of_ble_eq_true rfl) dX5_sign_33) ?_
      refine g_top (w := .int (sgF (μ.1 32 a) b)) rfl ?_
      refine g_goto 40 dX5_sign_36 (by decide) ?_
      exact g_ireturn dX5_sign_40 rfl rfl rfl
theorem c_look_l {μ : Mm} {a k : Nat} (ha : a < 32) (hk : k ≤ 32) : ∀ (m j : Nat) (c : Int32), j ≤ k → k < j + m → c = smI (fun j => μ.1 8 j * sgF (μ.1 32 a) j) j → G mX5_look (rmL 2) (some (.int (smI (fun j => μ.1 8 j * sgF (μ.1 32 a) j) k)), μ) μ 38 [some (.ref 0), some (.int (nI a)), some (.int (nI k)), some (.int c), some (.int (nI j))] [] := by
  intro m
  induction m with
  | zero => exact fun j c h1 h2 => absurd h2 (by omega)
  | succ m ih =>
    intro j c h1 h2 hc
    refine g_iload _ dX5_look_38 rfl ?_
    refine g_iload_n 2 _ dX5_look_40 rfl rfl ?_
    refine g_icmp_geN 74 (by omega) (by omega) dX5_look_41 (by decide) (fun h41 => ?_) (fun h41 => ?_)
    · refine g_iload_n 3 _ dX5_look_74 rfl rfl ?_
      exact g_ireturn dX5_look_75 rfl rfl (by rw [hc, show j = k by omega])
    · refine g_iload_n 3 _ dX5_look_44 rfl rfl ?_
      refine g_aload_n 0 _ dX5_look_45 rfl rfl ?_
      refine gf_X5_10 rfl dX5_look_46 ?_
      refine g_iconst (nI 1) dX5_look_49 rfl ?_
      refine g_iload _ dX5_look_50 rfl ?_
      refine g_backi (g_runVN (c_get μ (w := 1) (j := j) (by decide) (by omega)) rfl mw_X1_get mi_X1_get mn_X5_111 isO_1 ⟨rfl, rfl, Nat.le_of_ble_eq_true rfl, Nat.le_of_ble_eq_true rfl⟩ rfl rfl (Nat.le_of_ble_eq_true rfl) dX5_look_52) ?_
      refine g_top (w := .int (μ.1 8 j)) rfl ?_
      refine g_aload_n 0 _ dX5_look_55 rfl rfl ?_
      refine g_at 56 rfl ?_
      refine gf_X5_40 rfl dX5_look_56 ?_
      refine g_iload_n 1 _ dX5_look_59 rfl rfl ?_
      refine g_iload _ dX5_look_60 rfl ?_
      refine g_backi (g_runVN (c_signAt μ (i := a) (j := j) ha) rfl mw_X0_signAt mi_X0_signAt mn_X5_216 isO_5 ⟨rfl, rfl, Nat.le_of_ble_eq_true rfl, Nat.le_of_ble_eq_true rfl⟩ rfl rfl (Nat.le_of_ble_eq_true rfl) dX5_look_62) ?_
      refine g_top (w := .int (sgF (μ.1 32 a) j)) rfl ?_
      refine g_imul dX5_look_65 ?_
      refine g_iadd dX5_look_66 ?_
      refine g_istore_n [some (.ref 0), some (.int (nI a)), some (.int (nI k)), some (.int (c + ((μ.1 8 j) * (sgF (μ.1 32 a) j)))), some (.int (nI j))] dX5_look_67 rfl (Nat.le_of_ble_eq_true rfl) rfl rfl ?_
      refine g_iincN [some (.ref 0), some (.int (nI a)), some (.int (nI k)), some (.int (c + ((μ.1 8 j) * (sgF (μ.1 32 a) j)))), some (.int (nI (j + 1)))] dX5_look_68 rfl (Nat.le_of_ble_eq_true rfl) rfl rfl ?_
      refine g_at 71 rfl ?_
      refine g_goto 38 dX5_look_71 (by decide) ?_
      exact ih (j + 1) _ (by omega) (by omega) (by rw [hc]; rfl)
theorem min_nI {a b : Nat} (ha : a < 2 ^ 31) (hb : b < 2 ^ 31) : (if nI b < nI a then nI b else nI a) = nI (min a b) := by
  by_cases h : b < a
  · rw [if_pos ((nI_ltI hb ha).mpr h), Nat.min_eq_right (by omega)]
  · rw [if_neg (fun q => h ((nI_ltI hb ha).mp q)), Nat.min_eq_left (by omega)]
theorem c_look_ok (μ : Mm) {a s n : Nat} (hs : μ.1 5 1 = nI s) (h32 : s ≤ 32) (ha : a < s) (hn : μ.1 1 2 = nI n) (h60 : n ≤ 60) : Ok mX5_look (rmL 2) [.ref 0, .int (nI a)] μ (some (.int (smI (fun j => μ.1 8 j * sgF (μ.1 32 a) j) (min s n))), sI μ 0 5 0) := by
  refine Ok.of (by decide) (Nat.le_of_ble_eq_true rfl) [some (.ref 0), some (.int (nI a)), none, none, none] rfl ?_
  refine g_aload_n 0 _ dX5_look_0 rfl rfl ?_
  refine g_aload_n 0 _ dX5_look_1 rfl rfl ?_
  refine g_iload_n 1 _ dX5_look_2 rfl rfl ?_
  refine g_iload_n 1 _ dX5_look_3 rfl rfl ?_
  refine g_backi (g_runV ((c_rowsFault μ _ _ hs (by omega) h32).to (by rw [if_pos ⟨inB_nI ha h32, inB_nI ha h32⟩])) rfl mw_X5_rowsFault mi_X5_rowsFault ml_X5_209 isO_0 ⟨rfl, rfl, Nat.le_of_ble_eq_true rfl, Nat.le_of_ble_eq_true rfl⟩ rfl rfl (Nat.le_of_ble_eq_true rfl) dX5_look_4) ?_
  refine g_top (w := .int (nI 0)) rfl ?_
  refine g_backi (g_runV (c_refuses0 μ) rfl mw_X5_refuses mi_X5_refuses ml_X5_48 isO_0 ⟨rfl, rfl, Nat.le_of_ble_eq_true rfl, Nat.le_of_ble_eq_true rfl⟩ rfl rfl (Nat.le_of_ble_eq_true rfl) dX5_look_7) ?_
  refine g_mem (μ' := sI μ 0 5 0) rfl ?_
  refine g_top (w := .int (nI 0)) rfl ?_
  refine g_if_eqN 15 (by omega) dX5_look_10 (by decide) (fun h10 => ?_) (fun h10 => ?_)
  · refine g_aload_n 0 _ dX5_look_15 rfl rfl ?_
    refine gf_X5_40 rfl dX5_look_16 ?_
    refine gf_X5_123 rfl dX5_look_19 ?_
    refine g_top (w := .int (nI s)) (congrArg Value.int hs) ?_
    refine g_aload_n 0 _ dX5_look_22 rfl rfl ?_
    refine gf_X5_10 rfl dX5_look_23 ?_
    refine gf_X5_77 rfl dX5_look_26 ?_
    refine g_top (w := .int (nI n)) (congrArg Value.int hn) ?_
    refine g_mmin rfl tz_612 (Nat.le_of_ble_eq_true rfl) (Nat.le_of_ble_eq_true rfl) dX5_look_29 ?_
    refine g_top (w := .int (nI (min s n))) (congrArg Value.int (min_nI (by omega) (by omega))) ?_
    refine g_at 32 rfl ?_
    refine g_istore_n [some (.ref 0), some (.int (nI a)), some (.int (nI (min s n))), none, none] dX5_look_32 rfl (Nat.le_of_ble_eq_true rfl) rfl rfl ?_
    refine g_iconst (nI 0) dX5_look_33 rfl ?_
    refine g_istore_n [some (.ref 0), some (.int (nI a)), some (.int (nI (min s n))), some (.int (nI 0)), none] dX5_look_34 rfl (Nat.le_of_ble_eq_true rfl) rfl rfl ?_
    refine g_iconst (nI 0) dX5_look_35 rfl ?_
    refine g_istore [some (.ref 0), some (.int (nI a)), some (.int (nI (min s n))), some (.int (nI 0)), some (.int (nI 0))] dX5_look_36 (Nat.le_of_ble_eq_true rfl) rfl rfl ?_
    exact c_look_l (μ := sI μ 0 5 0) (show a < 32 by omega) (show min s n ≤ 32 by omega) (min s n + 1) 0 _ (by omega) (by omega) rfl
  · exact absurd h10 (by omega)
theorem c_twice_2 (μ : Mm) (hs : μ.1 5 1 = nI 0) : Ok mX5_twice (rmL 2) [.ref 0] μ (some (.int (-1)), sI μ 0 5 (nI 2)) := by
  refine Ok.of (by decide) (Nat.le_of_ble_eq_true rfl) [some (.ref 0), none] rfl ?_
  refine g_aload_n 0 _ dX5_twice_0 rfl rfl ?_
  refine gf_X5_40 rfl dX5_twice_1 ?_
  refine gf_X5_123 rfl dX5_twice_4 ?_
  refine g_top (w := .int (nI 0)) (congrArg Value.int hs) ?_
  refine g_if_neN 14 (by omega) dX5_twice_7 (by decide) (fun h7 => ?_) (fun h7 => ?_)
  · exact absurd h7 (by omega)
  · refine g_iconst (nI 2) dX5_twice_10 rfl ?_
    refine g_goto 33 dX5_twice_11 (by decide) ?_
    refine g_istore_n [some (.ref 0), some (.int (nI 2))] dX5_twice_33 rfl (Nat.le_of_ble_eq_true rfl) rfl rfl ?_
    refine g_aload_n 0 _ dX5_twice_34 rfl rfl ?_
    refine g_iload_n 1 _ dX5_twice_35 rfl rfl ?_
    refine g_backi (g_runV (c_refuses1 μ (f := nI 2) (by decide)) rfl mw_X5_refuses mi_X5_refuses ml_X5_48 isO_0 ⟨rfl, rfl, Nat.le_of_ble_eq_true rfl, Nat.le_of_ble_eq_true rfl⟩ rfl rfl (Nat.le_of_ble_eq_true rfl) dX5_twice_36) ?_
    refine g_mem (μ' := sI μ 0 5 (nI 2)) rfl ?_
    refine g_top (w := .int (nI 1)) rfl ?_
    refine g_if_eqN 44 (by omega) dX5_twice_39 (by decide) (fun h39 => ?_) (fun h39 => ?_)
    · exact absurd h39 (by omega)
    · refine g_iconst (-1) dX5_twice_42 rfl ?_
      exact g_ireturn dX5_twice_43 rfl rfl rfl
theorem c_twice_3 (μ : Mm) {s : Nat} (hs : μ.1 5 1 = nI s) (h : 16 < s) (h32 : s ≤ 32) : Ok mX5_twice (rmL 2) [.ref 0] μ (some (.int (-1)), sI μ 0 5 (nI 3)) := by
  refine Ok.of (by decide) (Nat.le_of_ble_eq_true rfl) [some (.ref 0), none] rfl ?_
  refine g_aload_n 0 _ dX5_twice_0 rfl rfl ?_
  refine gf_X5_40 rfl dX5_twice_1 ?_
  refine gf_X5_123 rfl dX5_twice_4 ?_
  refine g_top (w := .int (nI s)) (congrArg Value.int hs) ?_
  refine g_if_neN 14 (by omega) dX5_twice_7 (by decide) (fun h7 => ?_) (fun h7 => ?_)
  · refine g_iconst (nI 2) dX5_twice_14 rfl ?_
    refine g_aload_n 0 _ dX5_twice_15 rfl rfl ?_
    refine gf_X5_40 rfl dX5_twice_16 ?_
    refine gf_X5_123 rfl dX5_twice_19 ?_
    refine g_top (w := .int (nI s)) (congrArg Value.int hs) ?_
    refine g_imulN dX5_twice_22 ?_
    refine g_bipush (nI 32) dX5_twice_23 rfl ?_
    refine g_icmp_leN 32 (by omega) (by omega) dX5_twice_25 (by decide) (fun h25 => ?_) (fun h25 => ?_)
    · exact absurd h25 (by omega)
    · refine g_iconst (nI 3) dX5_twice_28 rfl ?_
      refine g_goto 33 dX5_twice_29 (by decide) ?_
      refine g_istore_n [some (.ref 0), some (.int (nI 3))] dX5_twice_33 rfl (Nat.le_of_ble_eq_true rfl) rfl rfl ?_
      refine g_aload_n 0 _ dX5_twice_34 rfl rfl ?_
      refine g_iload_n 1 _ dX5_twice_35 rfl rfl ?_
      refine g_backi (g_runV (c_refuses1 μ (f := nI 3) (by decide)) rfl mw_X5_refuses mi_X5_refuses ml_X5_48 isO_0 ⟨rfl, rfl, Nat.le_of_ble_eq_true rfl, Nat.le_of_ble_eq_true rfl⟩ rfl rfl (Nat.le_of_ble_eq_true rfl) dX5_twice_36) ?_
      refine g_mem (μ' := sI μ 0 5 (nI 3)) rfl ?_
      refine g_top (w := .int (nI 1)) rfl ?_
      refine g_if_eqN 44 (by omega) dX5_twice_39 (by decide) (fun h39 => ?_) (fun h39 => ?_)
      · exact absurd h39 (by omega)
      · refine g_iconst (-1) dX5_twice_42 rfl ?_
        exact g_ireturn dX5_twice_43 rfl rfl rfl
  · exact absurd h7 (by omega)
theorem c_twice_ok (μ : Mm) {s : Nat} (hs : μ.1 5 1 = nI s) (h0 : 0 < s) (h : s ≤ 16) : Ok mX5_twice (rmL 2) [.ref 0] μ (some (.int (nI (2 * s))), sI (sR (sI μ 0 5 0) 32 (duF (μ.1 32) s s)) 5 1 (nI (2 * s))) := by
  refine Ok.of (by decide) (Nat.le_of_ble_eq_true rfl) [some (.ref 0), none] rfl ?_
  refine g_aload_n 0 _ dX5_twice_0 rfl rfl ?_
  refine gf_X5_40 rfl dX5_twice_1 ?_
  refine gf_X5_123 rfl dX5_twice_4 ?_
  refine g_top (w := .int (nI s)) (congrArg Value.int hs) ?_
  refine g_if_neN 14 (by omega) dX5_twice_7 (by decide) (fun h7 => ?_) (fun h7 => absurd h7 (by omega))
  refine g_iconst (nI 2) dX5_twice_14 rfl ?_
  refine g_aload_n 0 _ dX5_twice_15 rfl rfl ?_
  refine gf_X5_40 rfl dX5_twice_16 ?_
  refine gf_X5_123 rfl dX5_twice_19 ?_
  refine g_top (w := .int (nI s)) (congrArg Value.int hs) ?_
  refine g_imulN dX5_twice_22 ?_
  refine g_bipush (nI 32) dX5_twice_23 rfl ?_
  refine g_icmp_leN 32 (by omega) (by omega) dX5_twice_25 (by decide) (fun h25 => ?_) (fun h25 => absurd h25 (by omega))
  refine g_iconst (nI 0) dX5_twice_32 rfl ?_
  refine g_istore_n [some (.ref 0), some (.int (nI 0))] dX5_twice_33 rfl (Nat.le_of_ble_eq_true rfl) rfl rfl ?_
  refine g_aload_n 0 _ dX5_twice_34 rfl rfl ?_
  refine g_iload_n 1 _ dX5_twice_35 rfl rfl ?_
  refine g_backi (g_runV (c_refuses0 μ) rfl mw_X5_refuses mi_X5_refuses ml_X5_48 isO_0 ⟨rfl, rfl, Nat.le_of_ble_eq_true rfl, Nat.le_of_ble_eq_true rfl⟩ rfl rfl (Nat.le_of_ble_eq_true rfl) dX5_twice_36) ?_
  refine g_mem (μ' := sI μ 0 5 0) rfl ?_
  refine g_top (w := .int (nI 0)) rfl ?_
  refine g_if_eqN 44 (by omega) dX5_twice_39 (by decide) (fun h39 => ?_) (fun h39 => ?_)
  · refine g_aload_n 0 _ dX5_twice_44 rfl rfl ?_
    refine gf_X5_40 rfl dX5_twice_45 ?_
    refine g_backv (g_runVN (c_doubleUp (sI μ 0 5 0) (o := s) hs h) rfl mw_X0_doubleUp mi_X0_doubleUp mn_X5_206 isO_5 ⟨rfl, rfl, Nat.le_of_ble_eq_true rfl, Nat.le_of_ble_eq_true rfl⟩ rfl rfl (Nat.le_of_ble_eq_true rfl) dX5_twice_48) ?_
    refine g_mem (μ' := sI (sR (sI μ 0 5 0) 32 (duF (μ.1 32) s s)) 5 1 (nI (2 * s))) rfl ?_
    refine g_aload_n 0 _ dX5_twice_51 rfl rfl ?_
    refine gf_X5_40 rfl dX5_twice_52 ?_
    refine gf_X5_123 rfl dX5_twice_55 ?_
    exact g_ireturn dX5_twice_58 rfl rfl rfl
  · exact absurd h39 (by omega)
theorem c_table_d (μ : Mm) {k s : Nat} (hk : k ≤ 5) (hs : nI 1 <<< (nI k &&& 31) = nI s) (h32 : s ≤ 32) : Ok mX5_table (rmL 2) [.ref 0, .int (nI 0), .int (nI k)] μ (some (.int (nI s)), sR (sI (sI μ 0 5 0) 5 1 (nI s)) 32 (fil (μ.1 32) (fun i => orF (mdF i) s) s)) := by
  refine Ok.of (by decide) (Nat.le_of_ble_eq_true rfl) [some (.ref 0), some (.int (nI 0)), some (.int (nI k)), none, none] rfl ?_
  refine g_iload_n 1 _ dX5_table_0 rfl rfl ?_
  refine g_if_neN 17 (by omega) dX5_table_1 (by decide) (fun h1 => ?_) (fun h1 => ?_)
  · exact absurd h1 (by omega)
  · refine g_iload_n 2 _ dX5_table_4 rfl rfl ?_
    refine g_if_ltN 17 (by omega) dX5_table_5 (by decide) ?_
    refine g_iload_n 2 _ dX5_table_8 rfl rfl ?_
    refine g_iconst (nI 5) dX5_table_9 rfl ?_
    refine g_icmp_gtN 17 (by omega) (by omega) dX5_table_10 (by decide) (fun h10 => ?_) (fun h10 => ?_)
    · exact absurd h10 (by omega)
    · refine g_iconst (nI 1) dX5_table_13 rfl ?_
      refine g_goto 18 dX5_table_14 (by decide) ?_
      refine g_istore_n [some (.ref 0), some (.int (nI 0)), some (.int (nI k)), some (.int (nI 1)), none] dX5_table_18 rfl (Nat.le_of_ble_eq_true rfl) rfl rfl ?_
      refine g_iload_n 1 _ dX5_table_19 rfl rfl ?_
      refine g_iconst (nI 1) dX5_table_20 rfl ?_
      refine g_icmp_neN 41 (by omega) (by omega) dX5_table_21 (by decide) (fun h21 => ?_) (fun h21 => ?_)
      · refine g_iconst (nI 0) dX5_table_41 rfl ?_
        refine g_istore [some (.ref 0), some (.int (nI 0)), some (.int (nI k)), some (.int (nI 1)), some (.int (nI 0))] dX5_table_42 (Nat.le_of_ble_eq_true rfl) rfl rfl ?_
        refine g_aload_n 0 _ dX5_table_44 rfl rfl ?_
        refine g_iload_n 3 _ dX5_table_45 rfl rfl ?_
        refine g_if_neN 54 (by omega) dX5_table_46 (by decide) (fun h46 => ?_) (fun h46 => ?_)
        · refine g_iconst (nI 0) dX5_table_54 rfl ?_
          refine g_goto 59 dX5_table_55 (by decide) ?_
          refine g_backi (g_runV (c_refuses0 μ) rfl mw_X5_refuses mi_X5_refuses ml_X5_48 isO_0 ⟨rfl, rfl, Nat.le_of_ble_eq_true rfl, Nat.le_of_ble_eq_true rfl⟩ rfl rfl (Nat.le_of_ble_eq_true rfl) dX5_table_59) ?_
          refine g_mem (μ' := sI μ 0 5 0) rfl ?_
          refine g_top (w := .int (nI 0)) rfl ?_
          refine g_if_eqN 67 (by omega) dX5_table_62 (by decide) (fun h62 => ?_) (fun h62 => ?_)
          · refine g_iload_n 3 _ dX5_table_67 rfl rfl ?_
            refine g_if_eqN 82 (by omega) dX5_table_68 (by decide) (fun h68 => ?_) (fun h68 => ?_)
            · exact absurd h68 (by omega)
            · refine g_aload_n 0 _ dX5_table_71 rfl rfl ?_
              refine gf_X5_40 rfl dX5_table_72 ?_
              refine g_iload_n 2 _ dX5_table_75 rfl rfl ?_
              refine g_backv (g_runVN (c_makeDoubled (sI μ 0 5 0) hs h32) rfl mw_X0_makeDoubled mi_X0_makeDoubled mn_X5_200 isO_5 ⟨rfl, rfl, Nat.le_of_ble_eq_true rfl, Nat.le_of_ble_eq_true rfl⟩ rfl rfl (Nat.le_of_ble_eq_true rfl) dX5_table_76) ?_
              refine g_mem (μ' := sR (sI (sI μ 0 5 0) 5 1 (nI s)) 32 (fil (μ.1 32) (fun i => orF (mdF i) s) s)) rfl ?_
              refine g_goto 90 dX5_table_79 (by decide) ?_
              refine g_aload_n 0 _ dX5_table_90 rfl rfl ?_
              refine gf_X5_40 rfl dX5_table_91 ?_
              refine gf_X5_123 rfl dX5_table_94 ?_
              exact g_ireturn dX5_table_97 rfl rfl rfl
          · exact absurd h62 (by omega)
        · exact absurd h46 (by omega)
      · exact absurd h21 (by omega)
theorem c_table_r (μ : Mm) {p s : Nat} (hp : rstP p) (hp32 : p < 32) (hs : p + 1 = s) : Ok mX5_table (rmL 2) [.ref 0, .int (nI 1), .int (nI p)] μ (some (.int (nI s)), sR (sI (sI μ 0 5 0) 5 1 (nI s)) 32 (fil (μ.1 32) (mrR p s) s)) := by
  refine Ok.of (by decide) (Nat.le_of_ble_eq_true rfl) [some (.ref 0), some (.int (nI 1)), some (.int (nI p)), none, none] rfl ?_
  refine g_iload_n 1 _ dX5_table_0 rfl rfl ?_
  refine g_if_neN 17 (by omega) dX5_table_1 (by decide) (fun h1 => ?_) (fun h1 => ?_)
  · refine g_iconst (nI 0) dX5_table_17 rfl ?_
    refine g_istore_n [some (.ref 0), some (.int (nI 1)), some (.int (nI p)), some (.int (nI 0)), none] dX5_table_18 rfl (Nat.le_of_ble_eq_true rfl) rfl rfl ?_
    refine g_iload_n 1 _ dX5_table_19 rfl rfl ?_
    refine g_iconst (nI 1) dX5_table_20 rfl ?_
    refine g_icmp_neN 41 (by omega) (by omega) dX5_table_21 (by decide) (fun h21 => ?_) (fun h21 => ?_)
    · exact absurd h21 (by omega)
    · refine g_iload_n 2 _ dX5_table_24 rfl rfl ?_
      refine g_backi (g_runS ((c_isRestPrime μ (p := p) (by omega)).to (by rw [bI_t hp])) rfl mw_X5_isRestPrime ms_X5_isRestPrime ml_X5_146 ⟨rfl, rfl, Nat.le_of_ble_eq_true rfl, Nat.le_of_ble_eq_true rfl⟩ rfl rfl (Nat.le_of_ble_eq_true rfl) dX5_table_25) ?_
      refine g_top (w := .int (nI 1)) rfl ?_
      refine g_if_eqN 41 (by omega) dX5_table_28 (by decide) (fun h28 => ?_) (fun h28 => ?_)
      · exact absurd h28 (by omega)
      · refine g_iload_n 2 _ dX5_table_31 rfl rfl ?_
        refine g_bipush (nI 32) dX5_table_32 rfl ?_
        refine g_icmp_geN 41 (by omega) (by omega) dX5_table_34 (by decide) (fun h34 => ?_) (fun h34 => ?_)
        · exact absurd h34 (by omega)
        · refine g_iconst (nI 1) dX5_table_37 rfl ?_
          refine g_goto 42 dX5_table_38 (by decide) ?_
          refine g_istore [some (.ref 0), some (.int (nI 1)), some (.int (nI p)), some (.int (nI 0)), some (.int (nI 1))] dX5_table_42 (Nat.le_of_ble_eq_true rfl) rfl rfl ?_
          refine g_aload_n 0 _ dX5_table_44 rfl rfl ?_
          refine g_iload_n 3 _ dX5_table_45 rfl rfl ?_
          refine g_if_neN 54 (by omega) dX5_table_46 (by decide) (fun h46 => ?_) (fun h46 => ?_)
          · exact absurd h46 (by omega)
          · refine g_iload _ dX5_table_49 rfl ?_
            refine g_if_eqN 58 (by omega) dX5_table_51 (by decide) (fun h51 => ?_) (fun h51 => ?_)
            · exact absurd h51 (by omega)
            · refine g_iconst (nI 0) dX5_table_54 rfl ?_
              refine g_goto 59 dX5_table_55 (by decide) ?_
              refine g_backi (g_runV (c_refuses0 μ) rfl mw_X5_refuses mi_X5_refuses ml_X5_48 isO_0 ⟨rfl, rfl, Nat.le_of_ble_eq_true rfl, Nat.le_of_ble_eq_true rfl⟩ rfl rfl (Nat.le_of_ble_eq_true rfl) dX5_table_59) ?_
              refine g_mem (μ' := sI μ 0 5 0) rfl ?_
              refine g_top (w := .int (nI 0)) rfl ?_
              refine g_if_eqN 67 (by omega) dX5_table_62 (by decide) (fun h62 => ?_) (fun h62 => ?_)
              · refine g_iload_n 3 _ dX5_table_67 rfl rfl ?_
                refine g_if_eqN 82 (by omega) dX5_table_68 (by decide) (fun h68 => ?_) (fun h68 => ?_)
                · refine g_aload_n 0 _ dX5_table_82 rfl rfl ?_
                  refine gf_X5_40 rfl dX5_table_83 ?_
                  refine g_iload_n 2 _ dX5_table_86 rfl rfl ?_
                  refine g_backv (g_runVN (c_makeByRests (sI μ 0 5 0) hs hp.1 (show s ≤ 32 by omega)) rfl mw_X0_makeByRests mi_X0_makeByRests mn_X5_203 isO_5 ⟨rfl, rfl, Nat.le_of_ble_eq_true rfl, Nat.le_of_ble_eq_true rfl⟩ rfl rfl (Nat.le_of_ble_eq_true rfl) dX5_table_87) ?_
                  refine g_mem (μ' := sR (sI (sI μ 0 5 0) 5 1 (nI s)) 32 (fil (μ.1 32) (mrR p s) s)) rfl ?_
                  refine g_aload_n 0 _ dX5_table_90 rfl rfl ?_
                  refine gf_X5_40 rfl dX5_table_91 ?_
                  refine gf_X5_123 rfl dX5_table_94 ?_
                  refine g_at 97 rfl ?_
                  exact g_ireturn dX5_table_97 rfl rfl rfl
                · exact absurd h68 (by omega)
              · exact absurd h62 (by omega)
  · exact absurd h1 (by omega)
theorem c_table_no (μ : Mm) (k a : Int32) (h0 : ¬ (k.toInt = 0 ∧ 0 ≤ a.toInt ∧ a.toInt ≤ 5)) (hR1 : ¬ (k.toInt = 1 ∧ ∃ p : Nat, a = nI p ∧ rstP p ∧ p < 32)) : Ok mX5_table (rmL 2) [.ref 0, .int k, .int a] μ (some (.int (-1)), sI μ 0 5 (nI 1)) := by
  refine Ok.of (by decide) (Nat.le_of_ble_eq_true rfl) [some (.ref 0), some (.int k), some (.int a), none, none] rfl ?_
  have t5 : (nI 5).toInt = 5 := rfl
  by_cases hA : 0 ≤ a.toInt ∧ a.toInt ≤ 59
  · obtain ⟨p, hp, rfl⟩ := nat_of (N := 59) hA.1 hA.2 (by decide)
    have hpi : (nI p).toInt = p := nI_toInt (by omega)
    by_cases hr : rstP p
    · refine g_iload_n 1 _ dX5_table_0 rfl rfl ?_
      refine g_if_ne 17 dX5_table_1 (by decide) (fun h1 => ?_) (fun h1 => ?_)
      · refine g_iconst (nI 0) dX5_table_17 rfl ?_
        refine g_istore_n [some (.ref 0), some (.int k), some (.int (nI p)), some (.int (nI 0)), none] dX5_table_18 rfl (Nat.le_of_ble_eq_true rfl) rfl rfl ?_
        refine g_iload_n 1 _ dX5_table_19 rfl rfl ?_
        refine g_iconst (nI 1) dX5_table_20 rfl ?_
        refine g_icmp_ne 41 dX5_table_21 (by decide) (fun h21 => ?_) (fun h21 => ?_)
        · refine g_iconst (nI 0) dX5_table_41 rfl ?_
          refine g_istore [some (.ref 0), some (.int k), some (.int (nI p)), some (.int (nI 0)), some (.int (nI 0))] dX5_table_42 (Nat.le_of_ble_eq_true rfl) rfl rfl ?_
          refine g_aload_n 0 _ dX5_table_44 rfl rfl ?_
          refine g_iload_n 3 _ dX5_table_45 rfl rfl ?_
          refine g_if_neN 54 (by omega) dX5_table_46 (by decide) (fun h46 => ?_) (fun h46 => ?_)
          · exact absurd h46 (by omega)
          · refine g_iload _ dX5_table_49 rfl ?_
            refine g_if_eqN 58 (by omega) dX5_table_51 (by decide) (fun h51 => ?_) (fun h51 => ?_)
            · refine g_iconst (nI 1) dX5_table_58 rfl ?_
              refine g_backi (g_runV (c_refuses1 μ (f := nI 1) (by decide)) rfl mw_X5_refuses mi_X5_refuses ml_X5_48 isO_0 ⟨rfl, rfl, Nat.le_of_ble_eq_true rfl, Nat.le_of_ble_eq_true rfl⟩ rfl rfl (Nat.le_of_ble_eq_true rfl) dX5_table_59) ?_
              refine g_mem (μ' := sI μ 0 5 (nI 1)) rfl ?_
              refine g_top (w := .int (nI 1)) rfl ?_
              refine g_if_eqN 67 (by omega) dX5_table_62 (by decide) (fun h62 => ?_) (fun h62 => ?_)
              · exact absurd h62 (by omega)
              · refine g_iconst (-1) dX5_table_65 rfl ?_
                exact g_ireturn dX5_table_66 rfl rfl rfl
            · exact absurd h51 (by omega)
        · refine g_iload_n 2 _ dX5_table_24 rfl rfl ?_
          refine g_backi (g_runS ((c_isRestPrime μ (p := p) (by omega)).to (by rw [bI_t hr])) rfl mw_X5_isRestPrime ms_X5_isRestPrime ml_X5_146 ⟨rfl, rfl, Nat.le_of_ble_eq_true rfl, Nat.le_of_ble_eq_true rfl⟩ rfl rfl (Nat.le_of_ble_eq_true rfl) dX5_table_25) ?_
          refine g_top (w := .int (nI 1)) rfl ?_
          refine g_if_eqN 41 (by omega) dX5_table_28 (by decide) (fun h28 => ?_) (fun h28 => ?_)
          · exact absurd h28 (by omega)
          · refine g_iload_n 2 _ dX5_table_31 rfl rfl ?_
            refine g_bipush (nI 32) dX5_table_32 rfl ?_
            refine g_icmp_geN 41 (by omega) (by omega) dX5_table_34 (by decide) (fun h34 => ?_) (fun h34 => ?_)
            · refine g_iconst (nI 0) dX5_table_41 rfl ?_
              refine g_istore [some (.ref 0), some (.int k), some (.int (nI p)), some (.int (nI 0)), some (.int (nI 0))] dX5_table_42 (Nat.le_of_ble_eq_true rfl) rfl rfl ?_
              refine g_aload_n 0 _ dX5_table_44 rfl rfl ?_
              refine g_iload_n 3 _ dX5_table_45 rfl rfl ?_
              refine g_if_neN 54 (by omega) dX5_table_46 (by decide) (fun h46 => ?_) (fun h46 => ?_)
              · exact absurd h46 (by omega)
              · refine g_iload _ dX5_table_49 rfl ?_
                refine g_if_eqN 58 (by omega) dX5_table_51 (by decide) (fun h51 => ?_) (fun h51 => ?_)
                · refine g_iconst (nI 1) dX5_table_58 rfl ?_
                  refine g_backi (g_runV (c_refuses1 μ (f := nI 1) (by decide)) rfl mw_X5_refuses mi_X5_refuses ml_X5_48 isO_0 ⟨rfl, rfl, Nat.le_of_ble_eq_true rfl, Nat.le_of_ble_eq_true rfl⟩ rfl rfl (Nat.le_of_ble_eq_true rfl) dX5_table_59) ?_
                  refine g_mem (μ' := sI μ 0 5 (nI 1)) rfl ?_
                  refine g_top (w := .int (nI 1)) rfl ?_
                  refine g_if_eqN 67 (by omega) dX5_table_62 (by decide) (fun h62 => ?_) (fun h62 => ?_)
                  · exact absurd h62 (by omega)
                  · refine g_iconst (-1) dX5_table_65 rfl ?_
                    exact g_ireturn dX5_table_66 rfl rfl rfl
                · exact absurd h51 (by omega)
            · exfalso; exact hR1 ⟨(fa_eq _ _).mp h21, p, rfl, hr, by omega⟩
      · refine g_iload_n 2 _ dX5_table_4 rfl rfl ?_
        refine g_if_ltN 17 (by omega) dX5_table_5 (by decide) ?_
        refine g_iload_n 2 _ dX5_table_8 rfl rfl ?_
        refine g_iconst (nI 5) dX5_table_9 rfl ?_
        refine g_icmp_gtN 17 (by omega) (by omega) dX5_table_10 (by decide) (fun h10 => ?_) (fun h10 => ?_)
        · refine g_iconst (nI 0) dX5_table_17 rfl ?_
          refine g_istore_n [some (.ref 0), some (.int k), some (.int (nI p)), some (.int (nI 0)), none] dX5_table_18 rfl (Nat.le_of_ble_eq_true rfl) rfl rfl ?_
          refine g_iload_n 1 _ dX5_table_19 rfl rfl ?_
          refine g_iconst (nI 1) dX5_table_20 rfl ?_
          refine g_icmp_ne 41 dX5_table_21 (by decide) (fun h21 => ?_) (fun h21 => ?_)
          · refine g_iconst (nI 0) dX5_table_41 rfl ?_
            refine g_istore [some (.ref 0), some (.int k), some (.int (nI p)), some (.int (nI 0)), some (.int (nI 0))] dX5_table_42 (Nat.le_of_ble_eq_true rfl) rfl rfl ?_
            refine g_aload_n 0 _ dX5_table_44 rfl rfl ?_
            refine g_iload_n 3 _ dX5_table_45 rfl rfl ?_
            refine g_if_neN 54 (by omega) dX5_table_46 (by decide) (fun h46 => ?_) (fun h46 => ?_)
            · exact absurd h46 (by omega)
            · refine g_iload _ dX5_table_49 rfl ?_
              refine g_if_eqN 58 (by omega) dX5_table_51 (by decide) (fun h51 => ?_) (fun h51 => ?_)
              · refine g_iconst (nI 1) dX5_table_58 rfl ?_
                refine g_backi (g_runV (c_refuses1 μ (f := nI 1) (by decide)) rfl mw_X5_refuses mi_X5_refuses ml_X5_48 isO_0 ⟨rfl, rfl, Nat.le_of_ble_eq_true rfl, Nat.le_of_ble_eq_true rfl⟩ rfl rfl (Nat.le_of_ble_eq_true rfl) dX5_table_59) ?_
                refine g_mem (μ' := sI μ 0 5 (nI 1)) rfl ?_
                refine g_top (w := .int (nI 1)) rfl ?_
                refine g_if_eqN 67 (by omega) dX5_table_62 (by decide) (fun h62 => ?_) (fun h62 => ?_)
                · exact absurd h62 (by omega)
                · refine g_iconst (-1) dX5_table_65 rfl ?_
                  exact g_ireturn dX5_table_66 rfl rfl rfl
              · exact absurd h51 (by omega)
          · refine g_iload_n 2 _ dX5_table_24 rfl rfl ?_
            refine g_backi (g_runS ((c_isRestPrime μ (p := p) (by omega)).to (by rw [bI_t hr])) rfl mw_X5_isRestPrime ms_X5_isRestPrime ml_X5_146 ⟨rfl, rfl, Nat.le_of_ble_eq_true rfl, Nat.le_of_ble_eq_true rfl⟩ rfl rfl (Nat.le_of_ble_eq_true rfl) dX5_table_25) ?_
            refine g_top (w := .int (nI 1)) rfl ?_
            refine g_if_eqN 41 (by omega) dX5_table_28 (by decide) (fun h28 => ?_) (fun h28 => ?_)
            · exact absurd h28 (by omega)
            · refine g_iload_n 2 _ dX5_table_31 rfl rfl ?_
              refine g_bipush (nI 32) dX5_table_32 rfl ?_
              refine g_icmp_geN 41 (by omega) (by omega) dX5_table_34 (by decide) (fun h34 => ?_) (fun h34 => ?_)
              · refine g_iconst (nI 0) dX5_table_41 rfl ?_
                refine g_istore [some (.ref 0), some (.int k), some (.int (nI p)), some (.int (nI 0)), some (.int (nI 0))] dX5_table_42 (Nat.le_of_ble_eq_true rfl) rfl rfl ?_
                refine g_aload_n 0 _ dX5_table_44 rfl rfl ?_
                refine g_iload_n 3 _ dX5_table_45 rfl rfl ?_
                refine g_if_neN 54 (by omega) dX5_table_46 (by decide) (fun h46 => ?_) (fun h46 => ?_)
                · exact absurd h46 (by omega)
                · refine g_iload _ dX5_table_49 rfl ?_
                  refine g_if_eqN 58 (by omega) dX5_table_51 (by decide) (fun h51 => ?_) (fun h51 => ?_)
                  · refine g_iconst (nI 1) dX5_table_58 rfl ?_
                    refine g_backi (g_runV (c_refuses1 μ (f := nI 1) (by decide)) rfl mw_X5_refuses mi_X5_refuses ml_X5_48 isO_0 ⟨rfl, rfl, Nat.le_of_ble_eq_true rfl, Nat.le_of_ble_eq_true rfl⟩ rfl rfl (Nat.le_of_ble_eq_true rfl) dX5_table_59) ?_
                    refine g_mem (μ' := sI μ 0 5 (nI 1)) rfl ?_
                    refine g_top (w := .int (nI 1)) rfl ?_
                    refine g_if_eqN 67 (by omega) dX5_table_62 (by decide) (fun h62 => ?_) (fun h62 => ?_)
                    · exact absurd h62 (by omega)
                    · refine g_iconst (-1) dX5_table_65 rfl ?_
                      exact g_ireturn dX5_table_66 rfl rfl rfl
                  · exact absurd h51 (by omega)
              · exfalso; exact hR1 ⟨(fa_eq _ _).mp h21, p, rfl, hr, by omega⟩
        · exfalso; exact h0 ⟨(fa_eq _ _).mp h1, by omega, by omega⟩
    · refine g_iload_n 1 _ dX5_table_0 rfl rfl ?_
      refine g_if_ne 17 dX5_table_1 (by decide) (fun h1 => ?_) (fun h1 => ?_)
      · refine g_iconst (nI 0) dX5_table_17 rfl ?_
        refine g_istore_n [some (.ref 0), some (.int k), some (.int (nI p)), some (.int (nI 0)), none] dX5_table_18 rfl (Nat.le_of_ble_eq_true rfl) rfl rfl ?_
        refine g_iload_n 1 _ dX5_table_19 rfl rfl ?_
        refine g_iconst (nI 1) dX5_table_20 rfl ?_
        refine g_icmp_ne 41 dX5_table_21 (by decide) (fun h21 => ?_) (fun h21 => ?_)
        · refine g_iconst (nI 0) dX5_table_41 rfl ?_
          refine g_istore [some (.ref 0), some (.int k), some (.int (nI p)), some (.int (nI 0)), some (.int (nI 0))] dX5_table_42 (Nat.le_of_ble_eq_true rfl) rfl rfl ?_
          refine g_aload_n 0 _ dX5_table_44 rfl rfl ?_
          refine g_iload_n 3 _ dX5_table_45 rfl rfl ?_
          refine g_if_neN 54 (by omega) dX5_table_46 (by decide) (fun h46 => ?_) (fun h46 => ?_)
          · exact absurd h46 (by omega)
          · refine g_iload _ dX5_table_49 rfl ?_
            refine g_if_eqN 58 (by omega) dX5_table_51 (by decide) (fun h51 => ?_) (fun h51 => ?_)
            · refine g_iconst (nI 1) dX5_table_58 rfl ?_
              refine g_backi (g_runV (c_refuses1 μ (f := nI 1) (by decide)) rfl mw_X5_refuses mi_X5_refuses ml_X5_48 isO_0 ⟨rfl, rfl, Nat.le_of_ble_eq_true rfl, Nat.le_of_ble_eq_true rfl⟩ rfl rfl (Nat.le_of_ble_eq_true rfl) dX5_table_59) ?_
              refine g_mem (μ' := sI μ 0 5 (nI 1)) rfl ?_
              refine g_top (w := .int (nI 1)) rfl ?_
              refine g_if_eqN 67 (by omega) dX5_table_62 (by decide) (fun h62 => ?_) (fun h62 => ?_)
              · exact absurd h62 (by omega)
              · refine g_iconst (-1) dX5_table_65 rfl ?_
                exact g_ireturn dX5_table_66 rfl rfl rfl
            · exact absurd h51 (by omega)
        · refine g_iload_n 2 _ dX5_table_24 rfl rfl ?_
          refine g_backi (g_runS ((c_isRestPrime μ (p := p) (by omega)).to (by rw [bI_f hr])) rfl mw_X5_isRestPrime ms_X5_isRestPrime ml_X5_146 ⟨rfl, rfl, Nat.le_of_ble_eq_true rfl, Nat.le_of_ble_eq_true rfl⟩ rfl rfl (Nat.le_of_ble_eq_true rfl) dX5_table_25) ?_
          refine g_top (w := .int (nI 0)) rfl ?_
          refine g_if_eqN 41 (by omega) dX5_table_28 (by decide) (fun h28 => ?_) (fun h28 => ?_)
          · refine g_iconst (nI 0) dX5_table_41 rfl ?_
            refine g_istore [some (.ref 0), some (.int k), some (.int (nI p)), some (.int (nI 0)), some (.int (nI 0))] dX5_table_42 (Nat.le_of_ble_eq_true rfl) rfl rfl ?_
            refine g_aload_n 0 _ dX5_table_44 rfl rfl ?_
            refine g_iload_n 3 _ dX5_table_45 rfl rfl ?_
            refine g_if_neN 54 (by omega) dX5_table_46 (by decide) (fun h46 => ?_) (fun h46 => ?_)
            · exact absurd h46 (by omega)
            · refine g_iload _ dX5_table_49 rfl ?_
              refine g_if_eqN 58 (by omega) dX5_table_51 (by decide) (fun h51 => ?_) (fun h51 => ?_)
              · refine g_iconst (nI 1) dX5_table_58 rfl ?_
                refine g_backi (g_runV (c_refuses1 μ (f := nI 1) (by decide)) rfl mw_X5_refuses mi_X5_refuses ml_X5_48 isO_0 ⟨rfl, rfl, Nat.le_of_ble_eq_true rfl, Nat.le_of_ble_eq_true rfl⟩ rfl rfl (Nat.le_of_ble_eq_true rfl) dX5_table_59) ?_
                refine g_mem (μ' := sI μ 0 5 (nI 1)) rfl ?_
                refine g_top (w := .int (nI 1)) rfl ?_
                refine g_if_eqN 67 (by omega) dX5_table_62 (by decide) (fun h62 => ?_) (fun h62 => ?_)
                · exact absurd h62 (by omega)
                · refine g_iconst (-1) dX5_table_65 rfl ?_
                  exact g_ireturn dX5_table_66 rfl rfl rfl
              · exact absurd h51 (by omega)
          · exact absurd h28 (by omega)
      · refine g_iload_n 2 _ dX5_table_4 rfl rfl ?_
        refine g_if_ltN 17 (by omega) dX5_table_5 (by decide) ?_
        refine g_iload_n 2 _ dX5_table_8 rfl rfl ?_
        refine g_iconst (nI 5) dX5_table_9 rfl ?_
        refine g_icmp_gtN 17 (by omega) (by omega) dX5_table_10 (by decide) (fun h10 => ?_) (fun h10 => ?_)
        · refine g_iconst (nI 0) dX5_table_17 rfl ?_
          refine g_istore_n [some (.ref 0), some (.int k), some (.int (nI p)), some (.int (nI 0)), none] dX5_table_18 rfl (Nat.le_of_ble_eq_true rfl) rfl rfl ?_
          refine g_iload_n 1 _ dX5_table_19 rfl rfl ?_
          refine g_iconst (nI 1) dX5_table_20 rfl ?_
          refine g_icmp_ne 41 dX5_table_21 (by decide) (fun h21 => ?_) (fun h21 => ?_)
          · refine g_iconst (nI 0) dX5_table_41 rfl ?_
            refine g_istore [some (.ref 0), some (.int k), some (.int (nI p)), some (.int (nI 0)), some (.int (nI 0))] dX5_table_42 (Nat.le_of_ble_eq_true rfl) rfl rfl ?_
            refine g_aload_n 0 _ dX5_table_44 rfl rfl ?_
            refine g_iload_n 3 _ dX5_table_45 rfl rfl ?_
            refine g_if_neN 54 (by omega) dX5_table_46 (by decide) (fun h46 => ?_) (fun h46 => ?_)
            · exact absurd h46 (by omega)
            · refine g_iload _ dX5_table_49 rfl ?_
              refine g_if_eqN 58 (by omega) dX5_table_51 (by decide) (fun h51 => ?_) (fun h51 => ?_)
              · refine g_iconst (nI 1) dX5_table_58 rfl ?_
                refine g_backi (g_runV (c_refuses1 μ (f := nI 1) (by decide)) rfl mw_X5_refuses mi_X5_refuses ml_X5_48 isO_0 ⟨rfl, rfl, Nat.le_of_ble_eq_true rfl, Nat.le_of_ble_eq_true rfl⟩ rfl rfl (Nat.le_of_ble_eq_true rfl) dX5_table_59) ?_
                refine g_mem (μ' := sI μ 0 5 (nI 1)) rfl ?_
                refine g_top (w := .int (nI 1)) rfl ?_
                refine g_if_eqN 67 (by omega) dX5_table_62 (by decide) (fun h62 => ?_) (fun h62 => ?_)
                · exact absurd h62 (by omega)
                · refine g_iconst (-1) dX5_table_65 rfl ?_
                  exact g_ireturn dX5_table_66 rfl rfl rfl
              · exact absurd h51 (by omega)
          · refine g_iload_n 2 _ dX5_table_24 rfl rfl ?_
            refine g_backi (g_runS ((c_isRestPrime μ (p := p) (by omega)).to (by rw [bI_f hr])) rfl mw_X5_isRestPrime ms_X5_isRestPrime ml_X5_146 ⟨rfl, rfl, Nat.le_of_ble_eq_true rfl, Nat.le_of_ble_eq_true rfl⟩ rfl rfl (Nat.le_of_ble_eq_true rfl) dX5_table_25) ?_
            refine g_top (w := .int (nI 0)) rfl ?_
            refine g_if_eqN 41 (by omega) dX5_table_28 (by decide) (fun h28 => ?_) (fun h28 => ?_)
            · refine g_iconst (nI 0) dX5_table_41 rfl ?_
              refine g_istore [some (.ref 0), some (.int k), some (.int (nI p)), some (.int (nI 0)), some (.int (nI 0))] dX5_table_42 (Nat.le_of_ble_eq_true rfl) rfl rfl ?_
              refine g_aload_n 0 _ dX5_table_44 rfl rfl ?_
              refine g_iload_n 3 _ dX5_table_45 rfl rfl ?_
              refine g_if_neN 54 (by omega) dX5_table_46 (by decide) (fun h46 => ?_) (fun h46 => ?_)
              · exact absurd h46 (by omega)
              · refine g_iload _ dX5_table_49 rfl ?_
                refine g_if_eqN 58 (by omega) dX5_table_51 (by decide) (fun h51 => ?_) (fun h51 => ?_)
                · refine g_iconst (nI 1) dX5_table_58 rfl ?_
                  refine g_backi (g_runV (c_refuses1 μ (f := nI 1) (by decide)) rfl mw_X5_refuses mi_X5_refuses ml_X5_48 isO_0 ⟨rfl, rfl, Nat.le_of_ble_eq_true rfl, Nat.le_of_ble_eq_true rfl⟩ rfl rfl (Nat.le_of_ble_eq_true rfl) dX5_table_59) ?_
                  refine g_mem (μ' := sI μ 0 5 (nI 1)) rfl ?_
                  refine g_top (w := .int (nI 1)) rfl ?_
                  refine g_if_eqN 67 (by omega) dX5_table_62 (by decide) (fun h62 => ?_) (fun h62 => ?_)
                  · exact absurd h62 (by omega)
                  · refine g_iconst (-1) dX5_table_65 rfl ?_
                    exact g_ireturn dX5_table_66 rfl rfl rfl
                · exact absurd h51 (by omega)
            · exact absurd h28 (by omega)
        · exfalso; exact h0 ⟨(fa_eq _ _).mp h1, by omega, by omega⟩
  · refine g_iload_n 1 _ dX5_table_0 rfl rfl ?_
    refine g_if_ne 17 dX5_table_1 (by decide) (fun h1 => ?_) (fun h1 => ?_)
    · refine g_iconst (nI 0) dX5_table_17 rfl ?_
      refine g_istore_n [some (.ref 0), some (.int k), some (.int a), some (.int (nI 0)), none] dX5_table_18 rfl (Nat.le_of_ble_eq_true rfl) rfl rfl ?_
      refine g_iload_n 1 _ dX5_table_19 rfl rfl ?_
      refine g_iconst (nI 1) dX5_table_20 rfl ?_
      refine g_icmp_ne 41 dX5_table_21 (by decide) (fun h21 => ?_) (fun h21 => ?_)
      · refine g_iconst (nI 0) dX5_table_41 rfl ?_
        refine g_istore [some (.ref 0), some (.int k), some (.int a), some (.int (nI 0)), some (.int (nI 0))] dX5_table_42 (Nat.le_of_ble_eq_true rfl) rfl rfl ?_
        refine g_aload_n 0 _ dX5_table_44 rfl rfl ?_
        refine g_iload_n 3 _ dX5_table_45 rfl rfl ?_
        refine g_if_neN 54 (by omega) dX5_table_46 (by decide) (fun h46 => ?_) (fun h46 => ?_)
        · exact absurd h46 (by omega)
        · refine g_iload _ dX5_table_49 rfl ?_
          refine g_if_eqN 58 (by omega) dX5_table_51 (by decide) (fun h51 => ?_) (fun h51 => ?_)
          · refine g_iconst (nI 1) dX5_table_58 rfl ?_
            refine g_backi (g_runV (c_refuses1 μ (f := nI 1) (by decide)) rfl mw_X5_refuses mi_X5_refuses ml_X5_48 isO_0 ⟨rfl, rfl, Nat.le_of_ble_eq_true rfl, Nat.le_of_ble_eq_true rfl⟩ rfl rfl (Nat.le_of_ble_eq_true rfl) dX5_table_59) ?_
            refine g_mem (μ' := sI μ 0 5 (nI 1)) rfl ?_
            refine g_top (w := .int (nI 1)) rfl ?_
            refine g_if_eqN 67 (by omega) dX5_table_62 (by decide) (fun h62 => ?_) (fun h62 => ?_)
            · exact absurd h62 (by omega)
            · refine g_iconst (-1) dX5_table_65 rfl ?_
              exact g_ireturn dX5_table_66 rfl rfl rfl
          · exact absurd h51 (by omega)
      · refine g_iload_n 2 _ dX5_table_24 rfl rfl ?_
        refine g_backi (g_runS (c_isRestPrime_no μ a (by omega)) rfl mw_X5_isRestPrime ms_X5_isRestPrime ml_X5_146 ⟨rfl, rfl, Nat.le_of_ble_eq_true rfl, Nat.le_of_ble_eq_true rfl⟩ rfl rfl (Nat.le_of_ble_eq_true rfl) dX5_table_25) ?_
        refine g_top (w := .int (nI 0)) rfl ?_
        refine g_if_eqN 41 (by omega) dX5_table_28 (by decide) (fun h28 => ?_) (fun h28 => ?_)
        · refine g_iconst (nI 0) dX5_table_41 rfl ?_
          refine g_istore [some (.ref 0), some (.int k), some (.int a), some (.int (nI 0)), some (.int (nI 0))] dX5_table_42 (Nat.le_of_ble_eq_true rfl) rfl rfl ?_
          refine g_aload_n 0 _ dX5_table_44 rfl rfl ?_
          refine g_iload_n 3 _ dX5_table_45 rfl rfl ?_
          refine g_if_neN 54 (by omega) dX5_table_46 (by decide) (fun h46 => ?_) (fun h46 => ?_)
          · exact absurd h46 (by omega)
          · refine g_iload _ dX5_table_49 rfl ?_
            refine g_if_eqN 58 (by omega) dX5_table_51 (by decide) (fun h51 => ?_) (fun h51 => ?_)
            · refine g_iconst (nI 1) dX5_table_58 rfl ?_
              refine g_backi (g_runV (c_refuses1 μ (f := nI 1) (by decide)) rfl mw_X5_refuses mi_X5_refuses ml_X5_48 isO_0 ⟨rfl, rfl, Nat.le_of_ble_eq_true rfl, Nat.le_of_ble_eq_true rfl⟩ rfl rfl (Nat.le_of_ble_eq_true rfl) dX5_table_59) ?_
              refine g_mem (μ' := sI μ 0 5 (nI 1)) rfl ?_
              refine g_top (w := .int (nI 1)) rfl ?_
              refine g_if_eqN 67 (by omega) dX5_table_62 (by decide) (fun h62 => ?_) (fun h62 => ?_)
              · exact absurd h62 (by omega)
              · refine g_iconst (-1) dX5_table_65 rfl ?_
                exact g_ireturn dX5_table_66 rfl rfl rfl
            · exact absurd h51 (by omega)
        · exact absurd h28 (by omega)
    · refine g_iload_n 2 _ dX5_table_4 rfl rfl ?_
      refine g_if_lt 17 dX5_table_5 (by decide) (fun h5 => ?_) (fun h5 => ?_)
      · refine g_iconst (nI 0) dX5_table_17 rfl ?_
        refine g_istore_n [some (.ref 0), some (.int k), some (.int a), some (.int (nI 0)), none] dX5_table_18 rfl (Nat.le_of_ble_eq_true rfl) rfl rfl ?_
        refine g_iload_n 1 _ dX5_table_19 rfl rfl ?_
        refine g_iconst (nI 1) dX5_table_20 rfl ?_
        refine g_icmp_ne 41 dX5_table_21 (by decide) (fun h21 => ?_) (fun h21 => ?_)
        · refine g_iconst (nI 0) dX5_table_41 rfl ?_
          refine g_istore [some (.ref 0), some (.int k), some (.int a), some (.int (nI 0)), some (.int (nI 0))] dX5_table_42 (Nat.le_of_ble_eq_true rfl) rfl rfl ?_
          refine g_aload_n 0 _ dX5_table_44 rfl rfl ?_
          refine g_iload_n 3 _ dX5_table_45 rfl rfl ?_
          refine g_if_neN 54 (by omega) dX5_table_46 (by decide) (fun h46 => ?_) (fun h46 => ?_)
          · exact absurd h46 (by omega)
          · refine g_iload _ dX5_table_49 rfl ?_
            refine g_if_eqN 58 (by omega) dX5_table_51 (by decide) (fun h51 => ?_) (fun h51 => ?_)
            · refine g_iconst (nI 1) dX5_table_58 rfl ?_
              refine g_backi (g_runV (c_refuses1 μ (f := nI 1) (by decide)) rfl mw_X5_refuses mi_X5_refuses ml_X5_48 isO_0 ⟨rfl, rfl, Nat.le_of_ble_eq_true rfl, Nat.le_of_ble_eq_true rfl⟩ rfl rfl (Nat.le_of_ble_eq_true rfl) dX5_table_59) ?_
              refine g_mem (μ' := sI μ 0 5 (nI 1)) rfl ?_
              refine g_top (w := .int (nI 1)) rfl ?_
              refine g_if_eqN 67 (by omega) dX5_table_62 (by decide) (fun h62 => ?_) (fun h62 => ?_)
              · exact absurd h62 (by omega)
              · refine g_iconst (-1) dX5_table_65 rfl ?_
                exact g_ireturn dX5_table_66 rfl rfl rfl
            · exact absurd h51 (by omega)
        · refine g_iload_n 2 _ dX5_table_24 rfl rfl ?_
          refine g_backi (g_runS (c_isRestPrime_no μ a (by omega)) rfl mw_X5_isRestPrime ms_X5_isRestPrime ml_X5_146 ⟨rfl, rfl, Nat.le_of_ble_eq_true rfl, Nat.le_of_ble_eq_true rfl⟩ rfl rfl (Nat.le_of_ble_eq_true rfl) dX5_table_25) ?_
          refine g_top (w := .int (nI 0)) rfl ?_
          refine g_if_eqN 41 (by omega) dX5_table_28 (by decide) (fun h28 => ?_) (fun h28 => ?_)
          · refine g_iconst (nI 0) dX5_table_41 rfl ?_
            refine g_istore [some (.ref 0), some (.int k), some (.int a), some (.int (nI 0)), some (.int (nI 0))] dX5_table_42 (Nat.le_of_ble_eq_true rfl) rfl rfl ?_
            refine g_aload_n 0 _ dX5_table_44 rfl rfl ?_
            refine g_iload_n 3 _ dX5_table_45 rfl rfl ?_
            refine g_if_neN 54 (by omega) dX5_table_46 (by decide) (fun h46 => ?_) (fun h46 => ?_)
            · exact absurd h46 (by omega)
            · refine g_iload _ dX5_table_49 rfl ?_
              refine g_if_eqN 58 (by omega) dX5_table_51 (by decide) (fun h51 => ?_) (fun h51 => ?_)
              · refine g_iconst (nI 1) dX5_table_58 rfl ?_
                refine g_backi (g_runV (c_refuses1 μ (f := nI 1) (by decide)) rfl mw_X5_refuses mi_X5_refuses ml_X5_48 isO_0 ⟨rfl, rfl, Nat.le_of_ble_eq_true rfl, Nat.le_of_ble_eq_true rfl⟩ rfl rfl (Nat.le_of_ble_eq_true rfl) dX5_table_59) ?_
                refine g_mem (μ' := sI μ 0 5 (nI 1)) rfl ?_
                refine g_top (w := .int (nI 1)) rfl ?_
                refine g_if_eqN 67 (by omega) dX5_table_62 (by decide) (fun h62 => ?_) (fun h62 => ?_)
                · exact absurd h62 (by omega)
                · refine g_iconst (-1) dX5_table_65 rfl ?_
                  exact g_ireturn dX5_table_66 rfl rfl rfl
              · exact absurd h51 (by omega)
          · exact absurd h28 (by omega)
      · refine g_iload_n 2 _ dX5_table_8 rfl rfl ?_
        refine g_iconst (nI 5) dX5_table_9 rfl ?_
        refine g_icmp_gt 17 dX5_table_10 (by decide) (fun h10 => ?_) (fun h10 => ?_)
        · refine g_iconst (nI 0) dX5_table_17 rfl ?_
          refine g_istore_n [some (.ref 0), some (.int k), some (.int a), some (.int (nI 0)), none] dX5_table_18 rfl (Nat.le_of_ble_eq_true rfl) rfl rfl ?_
          refine g_iload_n 1 _ dX5_table_19 rfl rfl ?_
          refine g_iconst (nI 1) dX5_table_20 rfl ?_
          refine g_icmp_ne 41 dX5_table_21 (by decide) (fun h21 => ?_) (fun h21 => ?_)
          · refine g_iconst (nI 0) dX5_table_41 rfl ?_
            refine g_istore [some (.ref 0), some (.int k), some (.int a), some (.int (nI 0)), some (.int (nI 0))] dX5_table_42 (Nat.le_of_ble_eq_true rfl) rfl rfl ?_
            refine g_aload_n 0 _ dX5_table_44 rfl rfl ?_
            refine g_iload_n 3 _ dX5_table_45 rfl rfl ?_
            refine g_if_neN 54 (by omega) dX5_table_46 (by decide) (fun h46 => ?_) (fun h46 => ?_)
            · exact absurd h46 (by omega)
            · refine g_iload _ dX5_table_49 rfl ?_
              refine g_if_eqN 58 (by omega) dX5_table_51 (by decide) (fun h51 => ?_) (fun h51 => ?_)
              · refine g_iconst (nI 1) dX5_table_58 rfl ?_
                refine g_backi (g_runV (c_refuses1 μ (f := nI 1) (by decide)) rfl mw_X5_refuses mi_X5_refuses ml_X5_48 isO_0 ⟨rfl, rfl, Nat.le_of_ble_eq_true rfl, Nat.le_of_ble_eq_true rfl⟩ rfl rfl (Nat.le_of_ble_eq_true rfl) dX5_table_59) ?_
                refine g_mem (μ' := sI μ 0 5 (nI 1)) rfl ?_
                refine g_top (w := .int (nI 1)) rfl ?_
                refine g_if_eqN 67 (by omega) dX5_table_62 (by decide) (fun h62 => ?_) (fun h62 => ?_)
                · exact absurd h62 (by omega)
                · refine g_iconst (-1) dX5_table_65 rfl ?_
                  exact g_ireturn dX5_table_66 rfl rfl rfl
              · exact absurd h51 (by omega)
          · refine g_iload_n 2 _ dX5_table_24 rfl rfl ?_
            refine g_backi (g_runS (c_isRestPrime_no μ a (by omega)) rfl mw_X5_isRestPrime ms_X5_isRestPrime ml_X5_146 ⟨rfl, rfl, Nat.le_of_ble_eq_true rfl, Nat.le_of_ble_eq_true rfl⟩ rfl rfl (Nat.le_of_ble_eq_true rfl) dX5_table_25) ?_
            refine g_top (w := .int (nI 0)) rfl ?_
            refine g_if_eqN 41 (by omega) dX5_table_28 (by decide) (fun h28 => ?_) (fun h28 => ?_)
            · refine g_iconst (nI 0) dX5_table_41 rfl ?_
              refine g_istore [some (.ref 0), some (.int k), some (.int a), some (.int (nI 0)), some (.int (nI 0))] dX5_table_42 (Nat.le_of_ble_eq_true rfl) rfl rfl ?_
              refine g_aload_n 0 _ dX5_table_44 rfl rfl ?_
              refine g_iload_n 3 _ dX5_table_45 rfl rfl ?_
              refine g_if_neN 54 (by omega) dX5_table_46 (by decide) (fun h46 => ?_) (fun h46 => ?_)
              · exact absurd h46 (by omega)
              · refine g_iload _ dX5_table_49 rfl ?_
                refine g_if_eqN 58 (by omega) dX5_table_51 (by decide) (fun h51 => ?_) (fun h51 => ?_)
                · refine g_iconst (nI 1) dX5_table_58 rfl ?_
                  refine g_backi (g_runV (c_refuses1 μ (f := nI 1) (by decide)) rfl mw_X5_refuses mi_X5_refuses ml_X5_48 isO_0 ⟨rfl, rfl, Nat.le_of_ble_eq_true rfl, Nat.le_of_ble_eq_true rfl⟩ rfl rfl (Nat.le_of_ble_eq_true rfl) dX5_table_59) ?_
                  refine g_mem (μ' := sI μ 0 5 (nI 1)) rfl ?_
                  refine g_top (w := .int (nI 1)) rfl ?_
                  refine g_if_eqN 67 (by omega) dX5_table_62 (by decide) (fun h62 => ?_) (fun h62 => ?_)
                  · exact absurd h62 (by omega)
                  · refine g_iconst (-1) dX5_table_65 rfl ?_
                    exact g_ireturn dX5_table_66 rfl rfl rfl
                · exact absurd h51 (by omega)
            · exact absurd h28 (by omega)
        · exfalso; simp only [fa_lt, fa_le, t0, t5] at *; omega
theorem c_fault (μ : Mm) : Ok mX5_fault (rmL 0) [.ref 0] μ (some (.int (μ.1 0 5)), μ) := by
  refine Ok.of (by decide) (Nat.le_of_ble_eq_true rfl) [some (.ref 0)] rfl ?_
  refine g_aload_n 0 _ dX5_fault_0 rfl rfl ?_
  refine gf_X5_44 rfl dX5_fault_1 ?_
  exact g_ireturn dX5_fault_4 rfl rfl rfl
