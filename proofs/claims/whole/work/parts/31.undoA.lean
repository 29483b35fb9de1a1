/-! Undoer: the cells -/
abbrev Mx : Type := Nat → Nat → Int64
def mU (μ : Mm) (X : Mx) : Mm := (μ.1, fun k => if 13 ≤ k ∧ k < 27 then X (k - 13) else μ.2 k)
def rwM (X : Mx) (r : Nat) (f : Nat → Int64) : Mx := fun a => if a = r then f else X a
theorem mU_at {μ : Mm} {X : Mx} {r : Nat} (h : r < 14) : (mU μ X).2 (13 + r) = X r := by
  show (if 13 ≤ 13 + r ∧ 13 + r < 27 then X (13 + r - 13) else μ.2 (13 + r)) = X r
  rw [if_pos (by omega), show 13 + r - 13 = r by omega]
theorem mU_off {μ : Mm} {X : Mx} {k : Nat} (h : k < 13 ∨ 27 ≤ k) : (mU μ X).2 k = μ.2 k := if_neg (by omega)
theorem mU_id (μ : Mm) : mU μ (fun r => μ.2 (13 + r)) = μ := by
  have : (fun k => if 13 ≤ k ∧ k < 27 then μ.2 (13 + (k - 13)) else μ.2 k) = μ.2 := by
    funext k
    by_cases h : 13 ≤ k ∧ k < 27
    · rw [if_pos h, show 13 + (k - 13) = k by omega]
    · rw [if_neg h]
  show (μ.1, _) = μ
  rw [this]
theorem mU_mU (μ : Mm) (X Y : Mx) : mU (mU μ X) Y = mU μ Y := by
  show (μ.1, _) = (μ.1, _)
  congr 1
  funext k
  by_cases h : 13 ≤ k ∧ k < 27
  · rw [if_pos h, if_pos h]
  · rw [if_neg h, if_neg h]; exact if_neg h
theorem mU_st {μ : Mm} {X Y : Mx} {r j : Nat} {x : Int64} (h : r < 14) (e : rwM X r (vp_updL (X r) j x) = Y) : sL (mU μ X) (13 + r) j x = mU μ Y := by
  subst e
  unfold sL
  rw [mU_at h]
  show (μ.1, _) = (μ.1, _)
  congr 1
  funext k
  by_cases h1 : k = 13 + r
  · subst h1
    rw [if_pos rfl, if_pos (by omega)]
    unfold rwM
    rw [if_pos (by omega)]
  · rw [if_neg h1]
    by_cases h2 : 13 ≤ k ∧ k < 27
    · rw [if_pos h2]
      show (if 13 ≤ k ∧ k < 27 then X (k - 13) else μ.2 k) = _
      unfold rwM
      rw [if_pos h2, if_neg (by omega)]
    · rw [if_neg h2]; exact if_neg h2
theorem rwM_rw (X : Mx) (r : Nat) (f g : Nat → Int64) : rwM (rwM X r f) r g = rwM X r g := by
  funext a; unfold rwM; by_cases h : a = r <;> simp [h]
theorem rwM_at (X : Mx) (r : Nat) (f : Nat → Int64) : rwM X r f r = f := if_pos rfl
theorem rwM_off {X : Mx} {r a : Nat} {f : Nat → Int64} (h : a ≠ r) : rwM X r f a = X a := if_neg h
theorem rwM_id {X : Mx} {r : Nat} {f : Nat → Int64} (h : f = X r) : rwM X r f = X := by
  funext a; unfold rwM; by_cases e : a = r
  · subst e; rw [if_pos rfl, h]
  · rw [if_neg e]
theorem rwM_fil {X : Mx} {F : Mx} {i : Nat} {f : Nat → Int64} (h : f = F i) : rwM (fil X F i) i f = fil X F (i + 1) := by
  subst h
  funext a
  unfold rwM fil
  by_cases h1 : a = i
  · subst h1; rw [if_pos rfl, if_pos (by omega)]
  · rw [if_neg h1]
    by_cases h2 : a < i
    · rw [if_pos h2, if_pos (by omega)]
    · rw [if_neg h2, if_neg (by omega)]
theorem rwM_put {X : Mx} {r j : Nat} {f g : Nat → Int64} {x : Int64} (hx : x = g j) : rwM (rwM X r (fil f g j)) r (vp_updL ((rwM X r (fil f g j)) r) j x) = rwM X r (fil f g (j + 1)) := by
  rw [rwM_rw, rwM_at, hx, fil_putL]
/-- the shadow's matrix: row s, place j; behind it 1 at 0 -/
def shC (f : Nat → Int32) (n s j : Nat) : Int64 := if j < n then (f ((j + n - s) % n)).toInt64 else if s = 0 then 1 else 0
def fcM (f : Nat → Int32) (n : Nat) (X : Mx) (i : Nat) : Mx := fil X (fun s => fil (X s) (shC f n s) (n + 1)) i
theorem c_fillIn {μ : Mm} {X : Mx} {n s : Nat} (hn : μ.1 1 2 = nI n) (h14 : n ≤ 14) (hs : s < n) {R : Option Value × Mm} (hE : G mX4_fillCells (rmL 2) R (mU μ (rwM X s (fil (X s) (shC (μ.1 7) n s) n))) 39 [some (.ref 3), some (.ref 1), some (.int (nI n)), some (.int (nI s)), some (.int (nI n))] []) : ∀ (m j : Nat), j ≤ n → n < j + m → G mX4_fillCells (rmL 2) R (mU μ (rwM X s (fil (X s) (shC (μ.1 7) n s) j))) 10 [some (.ref 3), some (.ref 1), some (.int (nI n)), some (.int (nI s)), some (.int (nI j))] [] := by
  intro m
  induction m with
  | zero => exact fun j h1 h2 => absurd h2 (by omega)
  | succ m ih =>
    intro j h1 h2
    refine g_iload _ dX4_fillCells_10 rfl ?_
    refine g_iload_n 2 _ dX4_fillCells_12 rfl rfl ?_
    refine g_icmp_geN 39 (by omega) (by omega) dX4_fillCells_13 (by decide) (fun h13 => ?_) (fun h13 => ?_)
    · rw [show j = n by omega]; exact hE
    · refine g_aload_n 0 _ dX4_fillCells_16 rfl rfl ?_
      refine gf_X4_13 rfl dX4_fillCells_17 ?_
      refine g_iload_n 3 _ dX4_fillCells_20 rfl rfl ?_
      refine g_aaload (j := s) isQ_12 (Or.inr rfl) (rfl) (by omega) (by omega) dX4_fillCells_21 ?_
      refine g_iload _ dX4_fillCells_22 rfl ?_
      refine g_aload_n 1 _ dX4_fillCells_24 rfl rfl ?_
      refine g_iload _ dX4_fillCells_25 rfl ?_
      refine g_at 27 rfl ?_
      refine g_iload_n 3 _ dX4_fillCells_27 rfl rfl ?_
      refine g_backi (g_runVN (c_share (mU μ (rwM X s (fil (X s) (shC (μ.1 7) n s) j))) (a := j) (s := s) (n := n) hn (by omega) (by omega) hs) rfl mw_X1_share mi_X1_share mn_X4_58 isO_1 ⟨rfl, rfl, Nat.le_of_ble_eq_true rfl, Nat.le_of_ble_eq_true rfl⟩ rfl rfl (Nat.le_of_ble_eq_true rfl) dX4_fillCells_28) ?_
      refine g_top (w := .int (μ.1 7 ((j + n - s) % n))) rfl ?_
      refine g_i2l dX4_fillCells_31 ?_
      refine g_lastore (j := j) (isL_row (w := s) (by omega)) (rfl) (by omega) (by omega) dX4_fillCells_32 ?_
      refine g_mem (μ' := mU μ (rwM X s (fil (X s) (shC (μ.1 7) n s) (j + 1)))) (by exact mU_st (by omega) (rwM_put (by unfold shC; rw [if_pos (by omega)]))) ?_
      refine g_iincN [some (.ref 3), some (.ref 1), some (.int (nI n)), some (.int (nI s)), some (.int (nI (j + 1)))] dX4_fillCells_33 rfl (Nat.le_of_ble_eq_true rfl) rfl rfl ?_
      refine g_goto 10 dX4_fillCells_36 (by decide) ?_
      exact ih (j + 1) (by omega) (by omega)
theorem c_fillOut {μ : Mm} {X : Mx} {n : Nat} (hn : μ.1 1 2 = nI n) (h14 : n ≤ 14) : ∀ (m i : Nat) (v : Option Value), i ≤ n → n < i + m → G mX4_fillCells (rmL 2) (none, mU μ (fcM (μ.1 7) n X n)) (mU μ (fcM (μ.1 7) n X i)) 2 [some (.ref 3), some (.ref 1), some (.int (nI n)), some (.int (nI i)), v] [] := by
  intro m
  induction m with
  | zero => exact fun i v h1 h2 => absurd h2 (by omega)
  | succ m ih =>
    intro i v h1 h2
    refine g_drop 4 _ rfl ?_
    have hx : fcM (μ.1 7) n X i i = X i := fil_out (Nat.le_refl i)
    have hE : i < n → G mX4_fillCells (rmL 2) (none, mU μ (fcM (μ.1 7) n X n)) (mU μ (rwM (fcM (μ.1 7) n X i) i (fil (fcM (μ.1 7) n X i i) (shC (μ.1 7) n i) n))) 39 [some (.ref 3), some (.ref 1), some (.int (nI n)), some (.int (nI i)), some (.int (nI n))] [] := by
      intro hi
      rw [hx]
      refine g_aload_n 0 _ dX4_fillCells_39 rfl rfl ?_
      refine gf_X4_13 rfl dX4_fillCells_40 ?_
      refine g_iload_n 3 _ dX4_fillCells_43 rfl rfl ?_
      refine g_aaload (j := i) isQ_12 (Or.inr rfl) (rfl) (by omega) (by omega) dX4_fillCells_44 ?_
      refine g_iload_n 2 _ dX4_fillCells_45 rfl rfl ?_
      refine g_iload_n 3 _ dX4_fillCells_46 rfl rfl ?_
      refine g_if_neN 54 (by omega) dX4_fillCells_47 (by decide) (fun h47 => ?_) (fun h47 => ?_)
      · refine g_lconst 0 dX4_fillCells_54 rfl ?_
        refine g_lastore (j := n) (isL_row (w := i) (by omega)) (rfl) (by omega) (by omega) dX4_fillCells_55 ?_
        refine g_mem (μ' := mU μ (fcM (μ.1 7) n X (i + 1))) (by exact mU_st (by omega) ((rwM_put (by unfold shC; rw [if_neg (by omega)]; first | rw [if_pos (by omega)] | rw [if_neg (by omega)])).trans (rwM_fil rfl))) ?_
        refine g_iincN [some (.ref 3), some (.ref 1), some (.int (nI n)), some (.int (nI (i + 1))), some (.int (nI n))] dX4_fillCells_56 rfl (Nat.le_of_ble_eq_true rfl) rfl rfl ?_
        refine g_goto 2 dX4_fillCells_59 (by decide) ?_
        exact ih (i + 1) _ (by omega) (by omega)
      · refine g_lconst 1 dX4_fillCells_50 rfl ?_
        refine g_goto 55 dX4_fillCells_51 (by decide) ?_
        refine g_lastore (j := n) (isL_row (w := i) (by omega)) (rfl) (by omega) (by omega) dX4_fillCells_55 ?_
        refine g_mem (μ' := mU μ (fcM (μ.1 7) n X (i + 1))) (by exact mU_st (by omega) ((rwM_put (by unfold shC; rw [if_neg (by omega)]; first | rw [if_pos (by omega)] | rw [if_neg (by omega)])).trans (rwM_fil rfl))) ?_
        refine g_iincN [some (.ref 3), some (.ref 1), some (.int (nI n)), some (.int (nI (i + 1))), some (.int (nI n))] dX4_fillCells_56 rfl (Nat.le_of_ble_eq_true rfl) rfl rfl ?_
        refine g_goto 2 dX4_fillCells_59 (by decide) ?_
        exact ih (i + 1) _ (by omega) (by omega)
    refine g_iload_n 3 _ dX4_fillCells_2 rfl rfl ?_
    refine g_iload_n 2 _ dX4_fillCells_3 rfl rfl ?_
    refine g_icmp_geN 62 (by omega) (by omega) dX4_fillCells_4 (by decide) (fun h4 => ?_) (fun h4 => ?_)
    · exact g_return dX4_fillCells_62 rfl (by rw [show i = n by omega])
    · refine g_iconst (nI 0) dX4_fillCells_7 rfl ?_
      refine g_istore [some (.ref 3), some (.ref 1), some (.int (nI n)), some (.int (nI i)), some (.int (nI 0))] dX4_fillCells_8 (Nat.le_of_ble_eq_true rfl) rfl rfl ?_
      exact g_mem (by rw [fil_0, rwM_id rfl]) (c_fillIn hn h14 (by omega) (hE (by omega)) (n + 1) 0 (by omega) (by omega))
theorem c_fillCells (μ : Mm) (X : Mx) {n : Nat} (hn : μ.1 1 2 = nI n) (h14 : n ≤ 14) : Ok mX4_fillCells (rmL 2) [.ref 3, .ref 1, .int (nI n)] (mU μ X) (none, mU μ (fcM (μ.1 7) n X n)) := by
  refine Ok.of (by decide) (Nat.le_of_ble_eq_true rfl) [some (.ref 3), some (.ref 1), some (.int (nI n)), none, none] rfl ?_
  refine g_iconst (nI 0) dX4_fillCells_0 rfl ?_
  refine g_istore_n [some (.ref 3), some (.ref 1), some (.int (nI n)), some (.int (nI 0)), none] dX4_fillCells_1 rfl (Nat.le_of_ble_eq_true rfl) rfl rfl ?_
  exact g_mem (by unfold fcM; rw [fil_0]) (c_fillOut hn h14 (n + 1) 0 _ (by omega) (by omega))
/-- the row that leads: the first from r on whose place c isn't 0; n: none -/
def ldF (X : Mx) (c n : Nat) : Nat → Nat → Nat
  | 0, _ => n
  | m + 1, r => if r < n then (if X r c = 0 then ldF X c n m (r + 1) else r) else n
def ldI (n x : Nat) : Int32 := if x < n then nI x else -1
theorem ldF_lo {X : Mx} {c n : Nat} : ∀ (m r : Nat), ldF X c n m r ≤ n ∧ (r ≤ n → r ≤ ldF X c n m r) := by
  intro m
  induction m with
  | zero => exact fun r => ⟨Nat.le_refl n, fun h => h⟩
  | succ m ih =>
    intro r
    unfold ldF
    by_cases h : r < n
    · rw [if_pos h]
      by_cases h2 : X r c = 0
      · rw [if_pos h2]; exact ⟨(ih (r + 1)).1, fun _ => Nat.le_trans (Nat.le_succ r) ((ih (r + 1)).2 h)⟩
      · rw [if_neg h2]; exact ⟨by omega, fun _ => Nat.le_refl r⟩
    · rw [if_neg h]; exact ⟨Nat.le_refl n, fun h => h⟩
theorem c_rowToLead_l {μ : Mm} {X : Mx} {n c : Nat} (h14 : n ≤ 14) (hc : c < n) : ∀ (m r : Nat), c ≤ r → r ≤ n → n < r + m → G mX4_rowToLead (rmL 0) (some (.int (ldI n (ldF X c n m r))), mU μ X) (mU μ X) 2 [some (.ref 3), some (.int (nI c)), some (.int (nI n)), some (.int (nI r))] [] := by
  intro m
  induction m with
  | zero => exact fun r h1 h2 h3 => absurd h3 (by omega)
  | succ m ih =>
    intro r h1 h2 h3
    by_cases h : r < n
    · by_cases hx : X r c = 0
      · have e : ldF X c n (m + 1) r = ldF X c n m (r + 1) := (if_pos h).trans (if_pos hx)
        rw [e]
        refine g_iload_n 3 _ dX4_rowToLead_2 rfl rfl ?_
        refine g_iload_n 2 _ dX4_rowToLead_3 rfl rfl ?_
        refine g_icmp_geN 28 (by omega) (by omega) dX4_rowToLead_4 (by decide) (fun h4 => ?_) (fun h4 => ?_)
        · exact absurd h4 (by omega)
        · refine g_aload_n 0 _ dX4_rowToLead_7 rfl rfl ?_
          refine gf_X4_13 rfl dX4_rowToLead_8 ?_
          refine g_iload_n 3 _ dX4_rowToLead_11 rfl rfl ?_
          refine g_aaload (j := r) isQ_12 (Or.inr rfl) (rfl) (by omega) (by omega) dX4_rowToLead_12 ?_
          refine g_iload_n 1 _ dX4_rowToLead_13 rfl rfl ?_
          refine g_laload (j := c) (isL_row (w := r) (by omega)) (rfl) (by omega) (by omega) dX4_rowToLead_14 ?_
          refine g_top (w := .long (X r c)) (congrArg Value.long (by rw [mU_at (by omega)])) ?_
          refine g_lconst 0 dX4_rowToLead_15 rfl ?_
          refine g_at 16 rfl ?_
          refine g_lcmp dX4_rowToLead_16 ?_
          refine g_if_eqC 22 dX4_rowToLead_17 (by decide) (fun h17 => ?_) (fun h17 => ?_)
          · refine g_iincN [some (.ref 3), some (.int (nI c)), some (.int (nI n)), some (.int (nI (r + 1)))] dX4_rowToLead_22 rfl (Nat.le_of_ble_eq_true rfl) rfl rfl ?_
            refine g_goto 2 dX4_rowToLead_25 (by decide) ?_
            exact ih (r + 1) (by omega) (by omega) (by omega)
          · exact absurd hx h17
      · have e : ldF X c n (m + 1) r = r := by unfold ldF; rw [if_pos h, if_neg hx]
        rw [e, show ldI n r = nI r from if_pos h]
        refine g_iload_n 3 _ dX4_rowToLead_2 rfl rfl ?_
        refine g_iload_n 2 _ dX4_rowToLead_3 rfl rfl ?_
        refine g_icmp_geN 28 (by omega) (by omega) dX4_rowToLead_4 (by decide) (fun h4 => ?_) (fun h4 => ?_)
        · exact absurd h4 (by omega)
        · refine g_aload_n 0 _ dX4_rowToLead_7 rfl rfl ?_
          refine gf_X4_13 rfl dX4_rowToLead_8 ?_
          refine g_iload_n 3 _ dX4_rowToLead_11 rfl rfl ?_
          refine g_aaload (j := r) isQ_12 (Or.inr rfl) (rfl) (by omega) (by omega) dX4_rowToLead_12 ?_
          refine g_iload_n 1 _ dX4_rowToLead_13 rfl rfl ?_
          refine g_laload (j := c) (isL_row (w := r) (by omega)) (rfl) (by omega) (by omega) dX4_rowToLead_14 ?_
          refine g_top (w := .long (X r c)) (congrArg Value.long (by rw [mU_at (by omega)])) ?_
          refine g_lconst 0 dX4_rowToLead_15 rfl ?_
          refine g_at 16 rfl ?_
          refine g_lcmp dX4_rowToLead_16 ?_
          refine g_if_eqC 22 dX4_rowToLead_17 (by decide) (fun h17 => ?_) (fun h17 => ?_)
          · exact absurd h17 hx
          · refine g_iload_n 3 _ dX4_rowToLead_20 rfl rfl ?_
            exact g_ireturn dX4_rowToLead_21 rfl rfl rfl
    · have e : ldF X c n (m + 1) r = n := by unfold ldF; rw [if_neg h]
      rw [e, show ldI n n = -1 from if_neg (by omega)]
      refine g_iload_n 3 _ dX4_rowToLead_2 rfl rfl ?_
      refine g_iload_n 2 _ dX4_rowToLead_3 rfl rfl ?_
      refine g_icmp_geN 28 (by omega) (by omega) dX4_rowToLead_4 (by decide) (fun h4 => ?_) (fun h4 => ?_)
      · refine g_iconst (-1) dX4_rowToLead_28 rfl ?_
        exact g_ireturn dX4_rowToLead_29 rfl rfl rfl
      · exact absurd h4 h
theorem c_rowToLead (μ : Mm) (X : Mx) {n c : Nat} (h14 : n ≤ 14) (hc : c < n) : Ok mX4_rowToLead (rmL 0) [.ref 3, .int (nI c), .int (nI n)] (mU μ X) (some (.int (ldI n (ldF X c n (n + 1) c))), mU μ X) := by
  refine Ok.of (by decide) (Nat.le_of_ble_eq_true rfl) [some (.ref 3), some (.int (nI c)), some (.int (nI n)), none] rfl ?_
  refine g_iload_n 1 _ dX4_rowToLead_0 rfl rfl ?_
  refine g_istore_n [some (.ref 3), some (.int (nI c)), some (.int (nI n)), some (.int (nI c))] dX4_rowToLead_1 rfl (Nat.le_of_ble_eq_true rfl) rfl rfl ?_
  exact c_rowToLead_l h14 hc (n + 1) c (Nat.le_refl c) (by omega) (by omega)
def swM (X : Mx) (a b i : Nat) : Mx := fun r => if r = a then fil (X a) (X b) i else if r = b then fil (X b) (X a) i else X r
theorem swM_0 (X : Mx) (a b : Nat) : swM X a b 0 = X := by
  funext r
  unfold swM
  rw [fil_0, fil_0]
  by_cases h : r = a
  · rw [if_pos h, h]
  · rw [if_neg h]
    by_cases h2 : r = b
    · rw [if_pos h2, h2]
    · rw [if_neg h2]
theorem swM_a {X : Mx} {a b i : Nat} : swM X a b i a i = X a i := by
  unfold swM; rw [if_pos rfl, fil_out (Nat.le_refl i)]
theorem swM_b {X : Mx} {a b i : Nat} : swM X a b i b i = X b i := by
  unfold swM
  by_cases h : b = a
  · rw [if_pos h, fil_out (Nat.le_refl i), h]
  · rw [if_neg h, if_pos rfl, fil_out (Nat.le_refl i)]
theorem swM_put {X Z : Mx} {a b j : Nat} (hZ : Z = rwM (swM X a b j) a (vp_updL (swM X a b j a) j (X b j))) : rwM Z b (vp_updL (Z b) j (X a j)) = swM X a b (j + 1) := by
  have e1 : vp_updL (swM X a b j a) j (X b j) = fil (X a) (X b) (j + 1) := by
    unfold swM; rw [if_pos rfl, fil_putL]
  rw [e1] at hZ
  by_cases h : b = a
  · subst h
    have e3 : vp_updL (fil (X b) (X b) (j + 1)) j (X b j) = fil (X b) (X b) (j + 1) := by
      funext q
      unfold vp_updL fil
      by_cases h1 : q = j
      · subst h1; rw [if_pos rfl, if_pos (by omega)]
      · rw [if_neg h1]
    rw [hZ, rwM_rw, rwM_at, e3]
    funext r
    unfold rwM swM
    by_cases h1 : r = b
    · rw [if_pos h1, if_pos h1]
    · rw [if_neg h1, if_neg h1, if_neg h1, if_neg h1, if_neg h1]
  · have e2 : Z b = fil (X b) (X a) j := by
      rw [hZ, rwM_off h]; unfold swM; rw [if_neg h, if_pos rfl]
    rw [e2, fil_putL, hZ]
    funext r
    unfold rwM swM
    by_cases h1 : r = b
    · subst h1; rw [if_pos rfl, if_neg h, if_pos rfl]
    · rw [if_neg h1]
      by_cases h2 : r = a
      · rw [if_pos h2, if_pos h2]
      · rw [if_neg h2, if_neg h2, if_neg h1, if_neg h2, if_neg h1]
theorem c_swapCells_l {μ : Mm} {X : Mx} {n a b : Nat} (h14 : n ≤ 14) (ha : a < n) (hb : b < n) : ∀ (m j : Nat) (v : Option Value), j ≤ n + 1 → n + 1 < j + m → G mX4_swapCells (rmL 0) (none, mU μ (swM X a b (n + 1))) (mU μ (swM X a b j)) 3 [some (.ref 3), some (.int (nI a)), some (.int (nI b)), some (.int (nI n)), some (.int (nI j)), v, none] [] := by
  intro m
  induction m with
  | zero => exact fun j v h1 h2 => absurd h2 (by omega)
  | succ m ih =>
    intro j v h1 h2
    refine g_drop 5 _ rfl ?_
    have e0 : ∀ (Z : Mx), (mU μ Z).2 (13 + a) j = Z a j := fun Z => by rw [mU_at (by omega)]
    have e1 : ∀ (Z : Mx), (mU μ Z).2 (13 + b) j = Z b j := fun Z => by rw [mU_at (by omega)]
    have e2 : rwM (swM X a b j) a (vp_updL (swM X a b j a) j (X b j)) = rwM (swM X a b j) a (vp_updL (swM X a b j a) j (X b j)) := rfl
    refine g_iload _ dX4_swapCells_3 rfl ?_
    refine g_iload_n 3 _ dX4_swapCells_5 rfl rfl ?_
    refine g_icmp_gtN 55 (by omega) (by omega) dX4_swapCells_6 (by decide) (fun h6 => ?_) (fun h6 => ?_)
    · exact g_return dX4_swapCells_55 rfl (by rw [show j = n + 1 by omega])
    · refine g_aload_n 0 _ dX4_swapCells_9 rfl rfl ?_
      refine gf_X4_13 rfl dX4_swapCells_10 ?_
      refine g_iload_n 1 _ dX4_swapCells_13 rfl rfl ?_
      refine g_aaload (j := a) isQ_12 (Or.inr rfl) (rfl) (by omega) (by omega) dX4_swapCells_14 ?_
      refine g_iload _ dX4_swapCells_15 rfl ?_
      refine g_laload (j := j) (isL_row (w := a) (by omega)) (rfl) (by omega) (by omega) dX4_swapCells_17 ?_
      refine g_top (w := .long (X a j)) (congrArg Value.long (by rw [e0, swM_a])) ?_
      refine g_lstore [some (.ref 3), some (.int (nI a)), some (.int (nI b)), some (.int (nI n)), some (.int (nI j)), some (.long (X a j)), none] dX4_swapCells_18 (Nat.le_of_ble_eq_true rfl) rfl rfl ?_
      refine g_at 20 rfl ?_
      refine g_aload_n 0 _ dX4_swapCells_20 rfl rfl ?_
      refine gf_X4_13 rfl dX4_swapCells_21 ?_
      refine g_iload_n 1 _ dX4_swapCells_24 rfl rfl ?_
      refine g_aaload (j := a) isQ_12 (Or.inr rfl) (rfl) (by omega) (by omega) dX4_swapCells_25 ?_
      refine g_iload _ dX4_swapCells_26 rfl ?_
      refine g_aload_n 0 _ dX4_swapCells_28 rfl rfl ?_
      refine gf_X4_13 rfl dX4_swapCells_29 ?_
      refine g_iload_n 2 _ dX4_swapCells_32 rfl rfl ?_
      refine g_at 33 rfl ?_
      refine g_aaload (j := b) isQ_12 (Or.inr rfl) (rfl) (by omega) (by omega) dX4_swapCells_33 ?_
      refine g_iload _ dX4_swapCells_34 rfl ?_
      refine g_laload (j := j) (isL_row (w := b) (by omega)) (rfl) (by omega) (by omega) dX4_swapCells_36 ?_
      refine g_top (w := .long (X b j)) (congrArg Value.long (by rw [e1, swM_b])) ?_
      refine g_lastore (j := j) (isL_row (w := a) (by omega)) (rfl) (by omega) (by omega) dX4_swapCells_37 ?_
      refine g_mem (μ' := mU μ (rwM (swM X a b j) a (vp_updL (swM X a b j a) j (X b j)))) (by exact mU_st (by omega) rfl) ?_
      refine g_aload_n 0 _ dX4_swapCells_38 rfl rfl ?_
      refine gf_X4_13 rfl dX4_swapCells_39 ?_
      refine g_iload_n 2 _ dX4_swapCells_42 rfl rfl ?_
      refine g_aaload (j := b) isQ_12 (Or.inr rfl) (rfl) (by omega) (by omega) dX4_swapCells_43 ?_
      refine g_at 44 rfl ?_
      refine g_iload _ dX4_swapCells_44 rfl ?_
      refine g_lload _ dX4_swapCells_46 rfl ?_
      refine g_lastore (j := j) (isL_row (w := b) (by omega)) (rfl) (by omega) (by omega) dX4_swapCells_48 ?_
      refine g_mem (μ' := mU μ (swM X a b (j + 1))) (by exact mU_st (by omega) (swM_put rfl)) ?_
      refine g_iincN [some (.ref 3), some (.int (nI a)), some (.int (nI b)), some (.int (nI n)), some (.int (nI (j + 1))), some (.long (X a j)), none] dX4_swapCells_49 rfl (Nat.le_of_ble_eq_true rfl) rfl rfl ?_
      refine g_goto 3 dX4_swapCells_52 (by decide) ?_
      exact ih (j + 1) _ (by omega) (by omega)
theorem c_swapCells (μ : Mm) (X : Mx) {n a b : Nat} (h14 : n ≤ 14) (ha : a < n) (hb : b < n) : Ok mX4_swapCells (rmL 0) [.ref 3, .int (nI a), .int (nI b), .int (nI n)] (mU μ X) (none, mU μ (swM X a b (n + 1))) := by
  refine Ok.of (by decide) (Nat.le_of_ble_eq_true rfl) [some (.ref 3), some (.int (nI a)), some (.int (nI b)), some (.int (nI n)), none, none, none] rfl ?_
  refine g_iconst (nI 0) dX4_swapCells_0 rfl ?_
  refine g_istore [some (.ref 3), some (.int (nI a)), some (.int (nI b)), some (.int (nI n)), some (.int (nI 0)), none, none] dX4_swapCells_1 (Nat.le_of_ble_eq_true rfl) rfl rfl ?_
  exact g_mem (by rw [swM_0]) (c_swapCells_l h14 ha hb (n + 2) 0 _ (by omega) (by omega))
def clQ (X : Mx) (c : Nat) (b : Int64) (a j : Nat) : Int64 := quF (X c c * X a j - X a c * X c j) b
def clR (X : Mx) (c n : Nat) (b : Int64) (a : Nat) : Nat → Int64 := if a = c then X c else fil (X a) (clQ X c b a) (n + 1)
def clM (X : Mx) (c n : Nat) (b : Int64) (i : Nat) : Mx := fil X (clR X c n b) i
theorem clM_c {X : Mx} {c n : Nat} {b : Int64} {i : Nat} : clM X c n b i c = X c := by
  unfold clM fil clR
  by_cases h : c < i
  · rw [if_pos h, if_pos rfl]
  · rw [if_neg h]
theorem clM_i {X : Mx} {c n : Nat} {b : Int64} {i : Nat} : clM X c n b i i = X i := fil_out (Nat.le_refl i)
theorem c_clearIn {μ : Mm} {X : Mx} {n c r : Nat} {b : Int64} (h14 : n ≤ 14) (hc : c < n) (hr : r < n) (hrc : r ≠ c) {R : Option Value × Mm} (hE : G mX4_clearColumn (rmL 1) R (mU μ (clM X c n b (r + 1))) 91 [some (.ref 3), some (.int (nI c)), some (.int (nI n)), some (.long b), none, some (.long (X c c)), none, some (.int (nI r)), some (.long (X r c)), none, none] []) : ∀ (m j : Nat), j ≤ n + 1 → n + 1 < j + m → G mX4_clearColumn (rmL 1) R (mU μ (rwM (clM X c n b r) r (fil (X r) (clQ X c b r) j))) 33 [some (.ref 3), some (.int (nI c)), some (.int (nI n)), some (.long b), none, some (.long (X c c)), none, some (.int (nI r)), some (.long (X r c)), none, some (.int (nI j))] [] := by
  intro m
  induction m with
  | zero => exact fun j h1 h2 => absurd h2 (by omega)
  | succ m ih =>
    intro j h1 h2
    refine g_iload _ dX4_clearColumn_33 rfl ?_
    refine g_iload_n 2 _ dX4_clearColumn_35 rfl rfl ?_
    refine g_icmp_gtN 91 (by omega) (by omega) dX4_clearColumn_36 (by decide) (fun h36 => ?_) (fun h36 => ?_)
    · exact g_drop 10 _ rfl (g_mem (by rw [show j = n + 1 by omega]; exact congrArg (mU μ) (rwM_fil (by unfold clR; rw [if_neg hrc]))) hE)
    · refine g_iload _ dX4_clearColumn_39 rfl ?_
      refine g_iload_n 1 _ dX4_clearColumn_41 rfl rfl ?_
      refine g_icmp_eqN 91 (by omega) (by omega) dX4_clearColumn_42 (by decide) (fun h42 => ?_) (fun h42 => ?_)
      · exact absurd h42 hrc
      · refine g_aload_n 0 _ dX4_clearColumn_45 rfl rfl ?_
        refine gf_X4_13 rfl dX4_clearColumn_46 ?_
        refine g_iload _ dX4_clearColumn_49 rfl ?_
        refine g_aaload (j := r) isQ_12 (Or.inr rfl) (rfl) (by omega) (by omega) dX4_clearColumn_51 ?_
        refine g_iload _ dX4_clearColumn_52 rfl ?_
        refine g_lload _ dX4_clearColumn_54 rfl ?_
        refine g_aload_n 0 _ dX4_clearColumn_56 rfl rfl ?_
        refine g_at 57 rfl ?_
        refine gf_X4_13 rfl dX4_clearColumn_57 ?_
        refine g_iload _ dX4_clearColumn_60 rfl ?_
        refine g_aaload (j := r) isQ_12 (Or.inr rfl) (rfl) (by omega) (by omega) dX4_clearColumn_62 ?_
        refine g_iload _ dX4_clearColumn_63 rfl ?_
        refine g_laload (j := j) (isL_row (w := r) (by omega)) (rfl) (by omega) (by omega) dX4_clearColumn_65 ?_
        refine g_top (w := .long (X r j)) (congrArg Value.long (by rw [mU_at (by omega), rwM_at, fil_out (Nat.le_refl j)])) ?_
        refine g_lmul dX4_clearColumn_66 ?_
        refine g_lload _ dX4_clearColumn_67 rfl ?_
        refine g_aload_n 0 _ dX4_clearColumn_69 rfl rfl ?_
        refine g_at 70 rfl ?_
        refine gf_X4_13 rfl dX4_clearColumn_70 ?_
        refine g_iload_n 1 _ dX4_clearColumn_73 rfl rfl ?_
        refine g_aaload (j := c) isQ_12 (Or.inr rfl) (rfl) (by omega) (by omega) dX4_clearColumn_74 ?_
        refine g_iload _ dX4_clearColumn_75 rfl ?_
        refine g_laload (j := j) (isL_row (w := c) (by omega)) (rfl) (by omega) (by omega) dX4_clearColumn_77 ?_
        refine g_top (w := .long (X c j)) (congrArg Value.long (by rw [mU_at (by omega), rwM_off (Ne.symm hrc), clM_c])) ?_
        refine g_lmul dX4_clearColumn_78 ?_
        refine g_lsub dX4_clearColumn_79 ?_
        refine g_lload_n 3 _ dX4_clearColumn_80 rfl rfl ?_
        refine g_at 81 rfl ?_
        refine g_backl (g_runSN (c_quotient (mU μ (rwM (clM X c n b r) r (fil (X r) (clQ X c b r) j))) (((X c c) * (X r j)) - ((X r c) * (X c j))) b) rfl mw_X5_quotient ms_X5_quotient mn_X4_61 ⟨rfl, rfl, Nat.le_of_ble_eq_true rfl, Nat.le_of_ble_eq_true rfl⟩ rfl rfl (Nat.le_of_ble_eq_true rfl) dX4_clearColumn_81) ?_
        refine g_top (w := .long (clQ X c b r j)) rfl ?_
        refine g_lastore (j := j) (isL_row (w := r) (by omega)) (rfl) (by omega) (by omega) dX4_clearColumn_84 ?_
        refine g_mem (μ' := mU μ (rwM (clM X c n b r) r (fil (X r) (clQ X c b r) (j + 1)))) (by exact mU_st (by omega) (rwM_put rfl)) ?_
        refine g_iincN [some (.ref 3), some (.int (nI c)), some (.int (nI n)), some (.long b), none, some (.long (X c c)), none, some (.int (nI r)), some (.long (X r c)), none, some (.int (nI (j + 1)))] dX4_clearColumn_85 rfl (Nat.le_of_ble_eq_true rfl) rfl rfl ?_
        refine g_goto 33 dX4_clearColumn_88 (by decide) ?_
        exact ih (j + 1) (by omega) (by omega)
theorem c_clearOut {μ : Mm} {X : Mx} {n c : Nat} {b : Int64} (h14 : n ≤ 14) (hc : c < n) : ∀ (m r : Nat) (v w : Option Value), r ≤ n → n < r + m → G mX4_clearColumn (rmL 1) (none, mU μ (clM X c n b n)) (mU μ (clM X c n b r)) 13 [some (.ref 3), some (.int (nI c)), some (.int (nI n)), some (.long b), none, some (.long (X c c)), none, some (.int (nI r)), v, none, w] [] := by
  intro m
  induction m with
  | zero => exact fun r v w h1 h2 => absurd h2 (by omega)
  | succ m ih =>
    intro r v w h1 h2
    refine g_drop 8 _ rfl (g_drop 10 _ rfl ?_)
    have hE : r < n → G mX4_clearColumn (rmL 1) (none, mU μ (clM X c n b n)) (mU μ (clM X c n b (r + 1))) 91 [some (.ref 3), some (.int (nI c)), some (.int (nI n)), some (.long b), none, some (.long (X c c)), none, some (.int (nI r)), some (.long (X r c)), none, none] [] := by
      intro hr
      refine g_iincN [some (.ref 3), some (.int (nI c)), some (.int (nI n)), some (.long b), none, some (.long (X c c)), none, some (.int (nI (r + 1))), some (.long (X r c)), none, none] dX4_clearColumn_91 rfl (Nat.le_of_ble_eq_true rfl) rfl rfl ?_
      refine g_goto 13 dX4_clearColumn_94 (by decide) ?_
      exact ih (r + 1) _ _ (by omega) (by omega)
    by_cases hrc : r = c
    · refine g_iload _ dX4_clearColumn_13 rfl ?_
      refine g_iload_n 2 _ dX4_clearColumn_15 rfl rfl ?_
      refine g_icmp_geN 97 (by omega) (by omega) dX4_clearColumn_16 (by decide) (fun h16 => ?_) (fun h16 => ?_)
      · exact g_return dX4_clearColumn_97 rfl (by rw [show r = n by omega])
      · refine g_aload_n 0 _ dX4_clearColumn_19 rfl rfl ?_
        refine gf_X4_13 rfl dX4_clearColumn_20 ?_
        refine g_iload _ dX4_clearColumn_23 rfl ?_
        refine g_aaload (j := r) isQ_12 (Or.inr rfl) (rfl) (by omega) (by omega) dX4_clearColumn_25 ?_
        refine g_iload_n 1 _ dX4_clearColumn_26 rfl rfl ?_
        refine g_laload (j := c) (isL_row (w := r) (by omega)) (rfl) (by omega) (by omega) dX4_clearColumn_27 ?_
        refine g_top (w := .long (X r c)) (congrArg Value.long (by rw [mU_at (by omega), clM_i])) ?_
        refine g_lstore [some (.ref 3), some (.int (nI c)), some (.int (nI n)), some (.long b), none, some (.long (X c c)), none, some (.int (nI r)), some (.long (X r c)), none, none] dX4_clearColumn_28 (Nat.le_of_ble_eq_true rfl) rfl rfl ?_
        refine g_at 30 rfl ?_
        refine g_iconst (nI 0) dX4_clearColumn_30 rfl ?_
        refine g_istore [some (.ref 3), some (.int (nI c)), some (.int (nI n)), some (.long b), none, some (.long (X c c)), none, some (.int (nI r)), some (.long (X r c)), none, some (.int (nI 0))] dX4_clearColumn_31 (Nat.le_of_ble_eq_true rfl) rfl rfl ?_
        refine g_iload _ dX4_clearColumn_33 rfl ?_
        refine g_iload_n 2 _ dX4_clearColumn_35 rfl rfl ?_
        refine g_icmp_gtN 91 (by omega) (by omega) dX4_clearColumn_36 (by decide) (fun h36 => ?_) (fun h36 => ?_)
        · exact absurd h36 (by omega)
        · refine g_iload _ dX4_clearColumn_39 rfl ?_
          refine g_iload_n 1 _ dX4_clearColumn_41 rfl rfl ?_
          refine g_icmp_eqN 91 (by omega) (by omega) dX4_clearColumn_42 (by decide) (fun h42 => ?_) (fun h42 => ?_)
          · exact g_drop 10 _ rfl (g_mem (by rw [show clM X c n b (r + 1) = clM X c n b r from (rwM_fil (by unfold clR; rw [if_pos hrc])).symm.trans (rwM_id (by rw [← hrc]; exact clM_i.symm))]) (hE (by omega)))
          · exact absurd hrc h42
    · refine g_iload _ dX4_clearColumn_13 rfl ?_
      refine g_iload_n 2 _ dX4_clearColumn_15 rfl rfl ?_
      refine g_icmp_geN 97 (by omega) (by omega) dX4_clearColumn_16 (by decide) (fun h16 => ?_) (fun h16 => ?_)
      · exact g_return dX4_clearColumn_97 rfl (by rw [show r = n by omega])
      · refine g_aload_n 0 _ dX4_clearColumn_19 rfl rfl ?_
        refine gf_X4_13 rfl dX4_clearColumn_20 ?_
        refine g_iload _ dX4_clearColumn_23 rfl ?_
        refine g_aaload (j := r) isQ_12 (Or.inr rfl) (rfl) (by omega) (by omega) dX4_clearColumn_25 ?_
        refine g_iload_n 1 _ dX4_clearColumn_26 rfl rfl ?_
        refine g_laload (j := c) (isL_row (w := r) (by omega)) (rfl) (by omega) (by omega) dX4_clearColumn_27 ?_
        refine g_top (w := .long (X r c)) (congrArg Value.long (by rw [mU_at (by omega), clM_i])) ?_
        refine g_lstore [some (.ref 3), some (.int (nI c)), some (.int (nI n)), some (.long b), none, some (.long (X c c)), none, some (.int (nI r)), some (.long (X r c)), none, none] dX4_clearColumn_28 (Nat.le_of_ble_eq_true rfl) rfl rfl ?_
        refine g_at 30 rfl ?_
        refine g_iconst (nI 0) dX4_clearColumn_30 rfl ?_
        refine g_istore [some (.ref 3), some (.int (nI c)), some (.int (nI n)), some (.long b), none, some (.long (X c c)), none, some (.int (nI r)), some (.long (X r c)), none, some (.int (nI 0))] dX4_clearColumn_31 (Nat.le_of_ble_eq_true rfl) rfl rfl ?_
        exact g_mem (by rw [fil_0, rwM_id clM_i.symm]) (c_clearIn h14 hc (by omega) hrc (hE (by omega)) (n + 2) 0 (by omega) (by omega))
theorem c_clearColumn (μ : Mm) (X : Mx) {n c : Nat} (b : Int64) (h14 : n ≤ 14) (hc : c < n) : Ok mX4_clearColumn (rmL 1) [.ref 3, .int (nI c), .int (nI n), .long b] (mU μ X) (none, mU μ (clM X c n b n)) := by
  refine Ok.of (by decide) (Nat.le_of_ble_eq_true rfl) [some (.ref 3), some (.int (nI c)), some (.int (nI n)), some (.long b), none, none, none, none, none, none, none] rfl ?_
  refine g_aload_n 0 _ dX4_clearColumn_0 rfl rfl ?_
  refine gf_X4_13 rfl dX4_clearColumn_1 ?_
  refine g_iload_n 1 _ dX4_clearColumn_4 rfl rfl ?_
  refine g_aaload (j := c) isQ_12 (Or.inr rfl) (rfl) (by omega) (by omega) dX4_clearColumn_5 ?_
  refine g_iload_n 1 _ dX4_clearColumn_6 rfl rfl ?_
  refine g_laload (j := c) (isL_row (w := c) (by omega)) (rfl) (by omega) (by omega) dX4_clearColumn_7 ?_
  refine g_top (w := .long (X c c)) (congrArg Value.long (by rw [mU_at (by omega)])) ?_
  refine g_lstore [some (.ref 3), some (.int (nI c)), some (.int (nI n)), some (.long b), none, some (.long (X c c)), none, none, none, none, none] dX4_clearColumn_8 (Nat.le_of_ble_eq_true rfl) rfl rfl ?_
  refine g_at 10 rfl ?_
  refine g_iconst (nI 0) dX4_clearColumn_10 rfl ?_
  refine g_istore [some (.ref 3), some (.int (nI c)), some (.int (nI n)), some (.long b), none, some (.long (X c c)), none, some (.int (nI 0)), none, none, none] dX4_clearColumn_11 (Nat.le_of_ble_eq_true rfl) rfl rfl ?_
  exact g_mem (by unfold clM; rw [fil_0]) (c_clearOut h14 hc (n + 1) 0 _ _ (by omega) (by omega))
theorem nI_neg1 {n : Nat} (h : n < 2 ^ 31) : ¬ nI n = -1 := fun e => by
  have h1 := congrArg Int32.toInt e
  rw [nI_toInt h, show (-1 : Int32).toInt = -1 from by decide] at h1
  omega
/-- one column: the leading row to its place, the others cleared -/
def stM1 (X : Mx) (c n r : Nat) (b : Int64) : Mx := clM (swM X c r (n + 1)) c n b n
/-- reduce: the column where it stops, and the cells -/
def rduF (n : Nat) : Nat → Nat → Int64 → Mx → Nat × Mx
  | 0, c, _, X => (c, X)
  | m + 1, c, b, X => if ldF X c n (n + 1) c < n then rduF n m (c + 1) (stM1 X c n (ldF X c n (n + 1) c) b c c) (stM1 X c n (ldF X c n (n + 1) c) b) else (c, X)
theorem c_reduce_l {μ : Mm} {n : Nat} (h14 : n ≤ 14) : ∀ (m c : Nat) (b : Int64) (X : Mx) (v : Option Value), c + m = n → G mX4_reduce (rmL 3) (some (.int (nI (rduF n m c b X).1)), mU μ (rduF n m c b X).2) (mU μ X) 21 [some (.ref 3), some (.ref 1), some (.int (nI n)), some (.long b), none, some (.int (nI c)), v] [] := by
  intro m
  induction m with
  | zero =>
    intro c b X v h1
    refine g_drop 6 _ rfl ?_
    refine g_iload _ dX4_reduce_21 rfl ?_
    refine g_iload_n 2 _ dX4_reduce_23 rfl rfl ?_
    refine g_icmp_geN 79 (by omega) (by omega) dX4_reduce_24 (by decide) (fun h24 => ?_) (fun h24 => ?_)
    · refine g_iload_n 2 _ dX4_reduce_79 rfl rfl ?_
      exact g_ireturn dX4_reduce_80 rfl rfl (by rw [show n = c by omega]; rfl)
    · exact absurd h24 (by omega)
  | succ m ih =>
    intro c b X v h1
    refine g_drop 6 _ rfl ?_
    by_cases hl : ldF X c n (n + 1) c < n
    · have e : rduF n (m + 1) c b X = rduF n m (c + 1) (stM1 X c n (ldF X c n (n + 1) c) b c c) (stM1 X c n (ldF X c n (n + 1) c) b) := if_pos hl
      have ei : ldI n (ldF X c n (n + 1) c) = nI (ldF X c n (n + 1) c) := if_pos hl
      rw [e]
      generalize hr : ldF X c n (n + 1) c = r at *
      refine g_iload _ dX4_reduce_21 rfl ?_
      refine g_iload_n 2 _ dX4_reduce_23 rfl rfl ?_
      refine g_icmp_geN 79 (by omega) (by omega) dX4_reduce_24 (by decide) (fun h24 => ?_) (fun h24 => ?_)
      · exact absurd h24 (by omega)
      · refine g_aload_n 0 _ dX4_reduce_27 rfl rfl ?_
        refine g_iload _ dX4_reduce_28 rfl ?_
        refine g_iload_n 2 _ dX4_reduce_30 rfl rfl ?_
        refine g_backi (g_runV ((c_rowToLead μ X (n := n) (c := c) h14 (by omega)).to (by rw [hr, ei])) rfl mw_X4_rowToLead mi_X4_rowToLead ml_X4_47 isO_3 ⟨rfl, rfl, Nat.le_of_ble_eq_true rfl, Nat.le_of_ble_eq_true rfl⟩ rfl rfl (Nat.le_of_ble_eq_true rfl) dX4_reduce_31) ?_
        refine g_top (w := .int (nI r)) rfl ?_
        refine g_istore [some (.ref 3), some (.ref 1), some (.int (nI n)), some (.long b), none, some (.int (nI c)), some (.int (nI r))] dX4_reduce_34 (Nat.le_of_ble_eq_true rfl) rfl rfl ?_
        refine g_iload _ dX4_reduce_36 rfl ?_
        refine g_iconst (-1) dX4_reduce_38 rfl ?_
        refine g_at 39 rfl ?_
        refine g_icmp_ne 45 dX4_reduce_39 (by decide) (fun h39 => ?_) (fun h39 => ?_)
        · refine g_aload_n 0 _ dX4_reduce_45 rfl rfl ?_
          refine g_iload _ dX4_reduce_46 rfl ?_
          refine g_iload _ dX4_reduce_48 rfl ?_
          refine g_iload_n 2 _ dX4_reduce_50 rfl rfl ?_
          refine g_backv (g_runV (c_swapCells μ X (n := n) (a := c) (b := r) h14 (by omega) hl) rfl mw_X4_swapCells mi_X4_swapCells ml_X4_50 isO_3 ⟨rfl, rfl, Nat.le_of_ble_eq_true rfl, Nat.le_of_ble_eq_true rfl⟩ rfl rfl (Nat.le_of_ble_eq_true rfl) dX4_reduce_51) ?_
          refine g_mem (μ' := mU μ (swM X c r (n + 1))) rfl ?_
          refine g_aload_n 0 _ dX4_reduce_54 rfl rfl ?_
          refine g_iload _ dX4_reduce_55 rfl ?_
          refine g_at 57 rfl ?_
          refine g_iload_n 2 _ dX4_reduce_57 rfl rfl ?_
          refine g_lload_n 3 _ dX4_reduce_58 rfl rfl ?_
          refine g_backv (g_runV (c_clearColumn μ (swM X c r (n + 1)) (n := n) (c := c) b h14 (by omega)) rfl mw_X4_clearColumn mi_X4_clearColumn ml_X4_54 isO_3 ⟨rfl, rfl, Nat.le_of_ble_eq_true rfl, Nat.le_of_ble_eq_true rfl⟩ rfl rfl (Nat.le_of_ble_eq_true rfl) dX4_reduce_59) ?_
          refine g_mem (μ' := mU μ (stM1 X c n r b)) rfl ?_
          refine g_aload_n 0 _ dX4_reduce_62 rfl rfl ?_
          refine gf_X4_13 rfl dX4_reduce_63 ?_
          refine g_iload _ dX4_reduce_66 rfl ?_
          refine g_aaload (j := c) isQ_12 (Or.inr rfl) (rfl) (by omega) (by omega) dX4_reduce_68 ?_
          refine g_iload _ dX4_reduce_69 rfl ?_
          refine g_at 71 rfl ?_
          refine g_laload (j := c) (isL_row (w := c) (by omega)) (rfl) (by omega) (by omega) dX4_reduce_71 ?_
          refine g_top (w := .long (stM1 X c n r b c c)) (congrArg Value.long (by rw [mU_at (by omega)])) ?_
          refine g_lstore_n [some (.ref 3), some (.ref 1), some (.int (nI n)), some (.long (stM1 X c n r b c c)), none, some (.int (nI c)), some (.int (nI r))] dX4_reduce_72 rfl (Nat.le_of_ble_eq_true rfl) rfl rfl ?_
          refine g_iincN [some (.ref 3), some (.ref 1), some (.int (nI n)), some (.long (stM1 X c n r b c c)), none, some (.int (nI (c + 1))), some (.int (nI r))] dX4_reduce_73 rfl (Nat.le_of_ble_eq_true rfl) rfl rfl ?_
          refine g_goto 21 dX4_reduce_76 (by decide) ?_
          exact ih (c + 1) _ _ _ (by omega)
        · exact absurd h39 (nI_neg1 (by omega))
    · have e : rduF n (m + 1) c b X = (c, X) := if_neg hl
      have ei : ldI n (ldF X c n (n + 1) c) = -1 := if_neg hl
      rw [e]
      refine g_iload _ dX4_reduce_21 rfl ?_
      refine g_iload_n 2 _ dX4_reduce_23 rfl rfl ?_
      refine g_icmp_geN 79 (by omega) (by omega) dX4_reduce_24 (by decide) (fun h24 => ?_) (fun h24 => ?_)
      · exact absurd h24 (by omega)
      · refine g_aload_n 0 _ dX4_reduce_27 rfl rfl ?_
        refine g_iload _ dX4_reduce_28 rfl ?_
        refine g_iload_n 2 _ dX4_reduce_30 rfl rfl ?_
        refine g_backi (g_runV ((c_rowToLead μ X (n := n) (c := c) h14 (by omega)).to (by rw [ei])) rfl mw_X4_rowToLead mi_X4_rowToLead ml_X4_47 isO_3 ⟨rfl, rfl, Nat.le_of_ble_eq_true rfl, Nat.le_of_ble_eq_true rfl⟩ rfl rfl (Nat.le_of_ble_eq_true rfl) dX4_reduce_31) ?_
        refine g_top (w := .int (-1)) rfl ?_
        refine g_istore [some (.ref 3), some (.ref 1), some (.int (nI n)), some (.long b), none, some (.int (nI c)), some (.int (-1))] dX4_reduce_34 (Nat.le_of_ble_eq_true rfl) rfl rfl ?_
        refine g_iload _ dX4_reduce_36 rfl ?_
        refine g_iconst (-1) dX4_reduce_38 rfl ?_
        refine g_at 39 rfl ?_
        refine g_icmp_ne 45 dX4_reduce_39 (by decide) (fun h39 => ?_) (fun h39 => ?_)
        · exact absurd rfl h39
        · refine g_iload _ dX4_reduce_42 rfl ?_
          exact g_ireturn dX4_reduce_44 rfl rfl rfl
/-- the column where reduce stops; its cells -/
def rdN (f : Nat → Int32) (n : Nat) (X : Mx) : Nat × Mx := rduF n n 0 1 (fcM f n X n)
theorem c_reduce (μ : Mm) (X : Mx) {n : Nat} (hn : μ.1 1 2 = nI n) (h14 : n ≤ 14) : Ok mX4_reduce (rmL 3) [.ref 3, .ref 1] (mU μ X) (some (.int (nI (rdN (μ.1 7) n X).1)), mU μ (rdN (μ.1 7) n X).2) := by
  refine Ok.of (by decide) (Nat.le_of_ble_eq_true rfl) [some (.ref 3), some (.ref 1), none, none, none, none, none] rfl ?_
  have hm : (if nI 14 < nI n then nI 14 else nI n) = nI n := by rw [if_neg (by rw [nI_ltI (by omega) (by omega)]; omega)]
  refine g_aload_n 1 _ dX4_reduce_0 rfl rfl ?_
  refine gf_X4_31 rfl dX4_reduce_1 ?_
  refine g_top (w := .int (nI n)) (congrArg Value.int hn) ?_
  refine g_bipush (nI 14) dX4_reduce_4 rfl ?_
  refine g_mmin rfl tz_426 (Nat.le_of_ble_eq_true rfl) (Nat.le_of_ble_eq_true rfl) dX4_reduce_6 ?_
  refine g_top (w := .int (nI n)) (congrArg Value.int hm) ?_
  refine g_istore_n [some (.ref 3), some (.ref 1), some (.int (nI n)), none, none, none, none] dX4_reduce_9 rfl (Nat.le_of_ble_eq_true rfl) rfl rfl ?_
  refine g_aload_n 0 _ dX4_reduce_10 rfl rfl ?_
  refine g_aload_n 1 _ dX4_reduce_11 rfl rfl ?_
  refine g_at 12 rfl ?_
  refine g_iload_n 2 _ dX4_reduce_12 rfl rfl ?_
  refine g_backv (g_runV (c_fillCells μ X (n := n) hn h14) rfl mw_X4_fillCells mi_X4_fillCells ml_X4_43 isO_3 ⟨rfl, rfl, Nat.le_of_ble_eq_true rfl, Nat.le_of_ble_eq_true rfl⟩ rfl rfl (Nat.le_of_ble_eq_true rfl) dX4_reduce_13) ?_
  refine g_mem (μ' := mU μ (fcM (μ.1 7) n X n)) rfl ?_
  refine g_lconst 1 dX4_reduce_16 rfl ?_
  refine g_lstore_n [some (.ref 3), some (.ref 1), some (.int (nI n)), some (.long 1), none, none, none] dX4_reduce_17 rfl (Nat.le_of_ble_eq_true rfl) rfl rfl ?_
  refine g_iconst (nI 0) dX4_reduce_18 rfl ?_
  refine g_istore [some (.ref 3), some (.ref 1), some (.int (nI n)), some (.long 1), none, some (.int (nI 0)), none] dX4_reduce_19 (Nat.le_of_ble_eq_true rfl) rfl rfl ?_
  exact c_reduce_l h14 n 0 _ _ _ (by omega)
