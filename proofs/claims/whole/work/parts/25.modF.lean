/-! HoleMaskModel: table, twice, point -/
/-- a local that is no more used -/
theorem g_drop {M : Mb} {rm : Room} {R : Option Value × Mm} {μ : Mm} {pc : Nat} {lo : List (Option Value)} {st : List Value} (i : Nat) (lo' : List (Option Value)) (h : lo.set i none = lo') (k : G M rm R μ pc lo' st) : G M rm R μ pc lo st := by
  subst h
  intro γ p l e s m args below meth c C H locs ls hw hl
  refine k γ p l e s m args below meth c C H locs ls hw ⟨hl.1, hl.2.1, by rw [List.length_set]; exact hl.2.2.1, fun j v hj => ?_⟩
  rw [List.getElem?_set] at hj
  by_cases he : i = j
  · subst he
    simp only [if_true] at hj
    split at hj <;> cases hj
  · rw [if_neg he] at hj
    exact hl.2.2.2 j v hj
def tb2 (f : Nat → Int32) (v : Nat → Nat → Int32) (s i j : Nat) : Nat → Int32 := fun x => if (x / 32 < i ∧ x % 32 < s) ∨ (x / 32 = i ∧ x % 32 < j) then v (x / 32) (x % 32) else f x
theorem tb2_0 (f : Nat → Int32) (v : Nat → Nat → Int32) (s : Nat) : tb2 f v s 0 0 = f := by funext x; unfold tb2; rw [if_neg (by omega)]
theorem tb2_put (f : Nat → Int32) (v : Nat → Nat → Int32) (s i : Nat) {j : Nat} (hj : j < 32) : upd (tb2 f v s i j) (32 * i + j) (v i j) = tb2 f v s i (j + 1) := by
  funext x
  unfold upd tb2
  by_cases h : x = 32 * i + j
  · subst h
    rw [if_pos rfl, if_pos (by omega), show (32 * i + j) / 32 = i by omega, show (32 * i + j) % 32 = j by omega]
  · rw [if_neg h]
    by_cases h2 : (x / 32 < i ∧ x % 32 < s) ∨ (x / 32 = i ∧ x % 32 < j)
    · rw [if_pos h2, if_pos (by omega)]
    · rw [if_neg h2, if_neg (by omega)]
theorem tb2_row (f : Nat → Int32) (v : Nat → Nat → Int32) (s i : Nat) : tb2 f v s i s = tb2 f v s (i + 1) 0 := by
  funext x
  unfold tb2
  by_cases h2 : (x / 32 < i ∧ x % 32 < s) ∨ (x / 32 = i ∧ x % 32 < s)
  · rw [if_pos h2, if_pos (by omega)]
  · rw [if_neg h2, if_neg (by omega)]
def dvF (i j : Nat) : Int32 := if bcF (nI i &&& nI j) - bcF (nI i &&& nI j) / nI 2 * nI 2 = 0 then nI 1 else -1
def rvF (p i j : Nat) : Int32 := if i = 0 ∨ j = 0 ∨ (i ≠ j ∧ sqP (j + p - i) p) then nI 1 else -1
theorem tb2_st {μ : Mm} {f : Nat → Int32} {v : Nat → Nat → Int32} {s i j : Nat} {x : Int32} (hj : j < 32) (hx : x = v i j) : sI (sR μ 40 (tb2 f v s i j)) 40 (32 * i + j) x = sR μ 40 (tb2 f v s i (j + 1)) := by
  rw [sI_sR, hx, tb2_put _ _ _ _ hj]
theorem d_tabd_in {μ : Mm} {a9 : Int32} {i s : Nat} (hs : μ.1 33 10 = nI s) (h32 : s ≤ 32) (hi : i < s) (R : Option Value × Mm) (hE : G mX6_table (rmL 1) R (sR μ 40 (tb2 (μ.1 40) dvF s i s)) 204 [some (.ref 33), some (.int (nI 0)), some (.int a9), some (.int (nI 0)), some (.int (nI i)), some (.int (nI s)), none] []) : ∀ (m j : Nat), j ≤ s → s < j + m → G mX6_table (rmL 1) R (sR μ 40 (tb2 (μ.1 40) dvF s i j)) 105 [some (.ref 33), some (.int (nI 0)), some (.int a9), some (.int (nI 0)), some (.int (nI i)), some (.int (nI j)), none] [] := by
  intro m
  induction m with
  | zero => exact fun j h1 h2 => absurd h2 (by omega)
  | succ m ih =>
    intro j h1 h2
    refine g_iload _ dX6_table_105 rfl ?_
    refine g_aload_n 0 _ dX6_table_107 rfl rfl ?_
    refine gf_X6_37 rfl dX6_table_108 ?_
    refine g_top (w := .int (nI s)) (congrArg Value.int hs) ?_
    refine g_icmp_geN 204 (by omega) (by omega) dX6_table_111 (by decide) (fun h111 => ?_) (fun h111 => ?_)
    · rw [show j = s by omega]; exact hE
    · refine g_iload_n 1 _ dX6_table_114 rfl rfl ?_
      refine g_if_neN 139 (by omega) dX6_table_115 (by decide) (fun h115 => ?_) (fun h115 => ?_)
      · exact absurd h115 (by omega)
      · refine g_iload _ dX6_table_118 rfl ?_
        refine g_iload _ dX6_table_120 rfl ?_
        refine g_iand dX6_table_122 ?_
        refine g_backi (g_runS (c_bitCount _ ((nI i) &&& (nI j))) rfl mw_J6_bitCount_0f7a4 ms_J6_bitCount_0f7a4 ml_X6_124 ⟨rfl, rfl, Nat.le_of_ble_eq_true rfl, Nat.le_of_ble_eq_true rfl⟩ rfl rfl (Nat.le_of_ble_eq_true rfl) dX6_table_123) ?_
        refine g_top (w := .int (bcF ((nI i) &&& (nI j)))) rfl ?_
        refine g_iconst (nI 2) dX6_table_126 rfl ?_
        refine g_irem dX6_table_127 (by decide) ?_
        refine g_if_ne 135 dX6_table_128 (by decide) (fun h128 => ?_) (fun h128 => ?_)
        · refine g_iconst (nI 0) dX6_table_135 rfl ?_
          refine g_goto 173 dX6_table_136 (by decide) ?_
          refine g_istore [some (.ref 33), some (.int (nI 0)), some (.int a9), some (.int (nI 0)), some (.int (nI i)), some (.int (nI j)), some (.int (nI 0))] dX6_table_173 (Nat.le_of_ble_eq_true rfl) rfl rfl ?_
          refine g_aload_n 0 _ dX6_table_175 rfl rfl ?_
          refine gf_X6_40 rfl dX6_table_176 ?_
          refine g_bipush (nI 32) dX6_table_179 rfl ?_
          refine g_iload _ dX6_table_181 rfl ?_
          refine g_imulN dX6_table_183 ?_
          refine g_iload _ dX6_table_184 rfl ?_
          refine g_at 186 rfl ?_
          refine g_iaddN dX6_table_186 ?_
          refine g_iload _ dX6_table_187 rfl ?_
          refine g_if_eqN 196 (by omega) dX6_table_189 (by decide) (fun h189 => ?_) (fun h189 => ?_)
          · refine g_iconst (-1) dX6_table_196 rfl ?_
            refine g_iastore (j := 32 * i + j) isI_40 (rfl) (by omega) (by omega) dX6_table_197 ?_
            refine g_mem (μ' := sR μ 40 (tb2 (μ.1 40) dvF s i (j + 1))) (by first | (exact (tb2_st (by omega) (show nI 1 = dvF i j by unfold dvF; rw [if_pos h128]))) | (exact (tb2_st (by omega) (show (-1 : Int32) = dvF i j by unfold dvF; rw [if_neg h128])))) ?_
            refine g_iincN [some (.ref 33), some (.int (nI 0)), some (.int a9), some (.int (nI 0)), some (.int (nI i)), some (.int (nI (j + 1))), some (.int (nI 0))] dX6_table_198 rfl (Nat.le_of_ble_eq_true rfl) rfl rfl ?_
            refine g_goto 105 dX6_table_201 (by decide) ?_
            exact g_drop 6 _ rfl (ih (j + 1) (by omega) (by omega))
          · exact absurd h189 (by omega)
        · refine g_iconst (nI 1) dX6_table_131 rfl ?_
          refine g_goto 173 dX6_table_132 (by decide) ?_
          refine g_istore [some (.ref 33), some (.int (nI 0)), some (.int a9), some (.int (nI 0)), some (.int (nI i)), some (.int (nI j)), some (.int (nI 1))] dX6_table_173 (Nat.le_of_ble_eq_true rfl) rfl rfl ?_
          refine g_aload_n 0 _ dX6_table_175 rfl rfl ?_
          refine gf_X6_40 rfl dX6_table_176 ?_
          refine g_bipush (nI 32) dX6_table_179 rfl ?_
          refine g_iload _ dX6_table_181 rfl ?_
          refine g_imulN dX6_table_183 ?_
          refine g_iload _ dX6_table_184 rfl ?_
          refine g_at 186 rfl ?_
          refine g_iaddN dX6_table_186 ?_
          refine g_iload _ dX6_table_187 rfl ?_
          refine g_if_eqN 196 (by omega) dX6_table_189 (by decide) (fun h189 => ?_) (fun h189 => ?_)
          · exact absurd h189 (by omega)
          · refine g_iconst (nI 1) dX6_table_192 rfl ?_
            refine g_goto 197 dX6_table_193 (by decide) ?_
            refine g_iastore (j := 32 * i + j) isI_40 (rfl) (by omega) (by omega) dX6_table_197 ?_
            refine g_mem (μ' := sR μ 40 (tb2 (μ.1 40) dvF s i (j + 1))) (by first | (exact (tb2_st (by omega) (show nI 1 = dvF i j by unfold dvF; rw [if_pos h128]))) | (exact (tb2_st (by omega) (show (-1 : Int32) = dvF i j by unfold dvF; rw [if_neg h128])))) ?_
            refine g_iincN [some (.ref 33), some (.int (nI 0)), some (.int a9), some (.int (nI 0)), some (.int (nI i)), some (.int (nI (j + 1))), some (.int (nI 1))] dX6_table_198 rfl (Nat.le_of_ble_eq_true rfl) rfl rfl ?_
            refine g_goto 105 dX6_table_201 (by decide) ?_
            exact g_drop 6 _ rfl (ih (j + 1) (by omega) (by omega))
theorem d_tabd_out {μ : Mm} {a9 : Int32} {s : Nat} (hs : μ.1 33 10 = nI s) (h32 : s ≤ 32) : ∀ (m i : Nat), i ≤ s → s < i + m → G mX6_table (rmL 1) (some (.int (nI s)), sR μ 40 (tb2 (μ.1 40) dvF s s 0)) (sR μ 40 (tb2 (μ.1 40) dvF s i 0)) 93 [some (.ref 33), some (.int (nI 0)), some (.int a9), some (.int (nI 0)), some (.int (nI i)), none, none] [] := by
  intro m
  induction m with
  | zero => exact fun i h1 h2 => absurd h2 (by omega)
  | succ m ih =>
    intro i h1 h2
    have hE : i < s → G mX6_table (rmL 1) (some (.int (nI s)), sR μ 40 (tb2 (μ.1 40) dvF s s 0)) (sR μ 40 (tb2 (μ.1 40) dvF s i s)) 204 [some (.ref 33), some (.int (nI 0)), some (.int a9), some (.int (nI 0)), some (.int (nI i)), some (.int (nI s)), none] [] := by
      intro hi
      rw [tb2_row]
      refine g_iincN [some (.ref 33), some (.int (nI 0)), some (.int a9), some (.int (nI 0)), some (.int (nI (i + 1))), some (.int (nI s)), none] dX6_table_204 rfl (Nat.le_of_ble_eq_true rfl) rfl rfl ?_
      refine g_goto 93 dX6_table_207 (by decide) ?_
      exact g_drop 5 _ rfl (ih (i + 1) (by omega) (by omega))
    refine g_iload _ dX6_table_93 rfl ?_
    refine g_aload_n 0 _ dX6_table_95 rfl rfl ?_
    refine gf_X6_37 rfl dX6_table_96 ?_
    refine g_top (w := .int (nI s)) (congrArg Value.int hs) ?_
    refine g_icmp_geN 210 (by omega) (by omega) dX6_table_99 (by decide) (fun h99 => ?_) (fun h99 => ?_)
    · refine g_aload_n 0 _ dX6_table_210 rfl rfl ?_
      refine gf_X6_37 rfl dX6_table_211 ?_
      refine g_top (w := .int (nI s)) (congrArg Value.int hs) ?_
      exact g_ireturn dX6_table_214 rfl rfl (by rw [show i = s by omega])
    · refine g_iconst (nI 0) dX6_table_102 rfl ?_
      refine g_istore [some (.ref 33), some (.int (nI 0)), some (.int a9), some (.int (nI 0)), some (.int (nI i)), some (.int (nI 0)), none] dX6_table_103 (Nat.le_of_ble_eq_true rfl) rfl rfl ?_
      exact d_tabd_in hs h32 (by omega) _ (hE (by omega)) (s + 1) 0 (by omega) (by omega)
theorem d_tabr_in {μ : Mm} {p : Nat} {i s : Nat} (hs : μ.1 33 10 = nI s) (h32 : s ≤ 32) (hi : i < s) (hp : p + 1 = s) (hp0 : 3 ≤ p) (R : Option Value × Mm) (hE : G mX6_table (rmL 1) R (sR μ 40 (tb2 (μ.1 40) (rvF p) s i s)) 204 [some (.ref 33), some (.int (nI 1)), some (.int (nI p)), some (.int (nI 1)), some (.int (nI i)), some (.int (nI s)), none] []) : ∀ (m j : Nat), j ≤ s → s < j + m → G mX6_table (rmL 1) R (sR μ 40 (tb2 (μ.1 40) (rvF p) s i j)) 105 [some (.ref 33), some (.int (nI 1)), some (.int (nI p)), some (.int (nI 1)), some (.int (nI i)), some (.int (nI j)), none] [] := by
  intro m
  induction m with
  | zero => exact fun j h1 h2 => absurd h2 (by omega)
  | succ m ih =>
    intro j h1 h2
    refine g_iload _ dX6_table_105 rfl ?_
    refine g_aload_n 0 _ dX6_table_107 rfl rfl ?_
    refine gf_X6_37 rfl dX6_table_108 ?_
    refine g_top (w := .int (nI s)) (congrArg Value.int hs) ?_
    refine g_icmp_geN 204 (by omega) (by omega) dX6_table_111 (by decide) (fun h111 => ?_) (fun h111 => ?_)
    · rw [show j = s by omega]; exact hE
    · refine g_iload_n 1 _ dX6_table_114 rfl rfl ?_
      refine g_if_neN 139 (by omega) dX6_table_115 (by decide) (fun h115 => ?_) (fun h115 => ?_)
      · refine g_iload _ dX6_table_139 rfl ?_
        refine g_if_eqN 168 (by omega) dX6_table_141 (by decide) (fun h141 => ?_) (fun h141 => ?_)
        · refine g_iconst (nI 1) dX6_table_168 rfl ?_
          refine g_goto 173 dX6_table_169 (by decide) ?_
          refine g_istore [some (.ref 33), some (.int (nI 1)), some (.int (nI p)), some (.int (nI 1)), some (.int (nI i)), some (.int (nI j)), some (.int (nI 1))] dX6_table_173 (Nat.le_of_ble_eq_true rfl) rfl rfl ?_
          refine g_aload_n 0 _ dX6_table_175 rfl rfl ?_
          refine gf_X6_40 rfl dX6_table_176 ?_
          refine g_bipush (nI 32) dX6_table_179 rfl ?_
          refine g_iload _ dX6_table_181 rfl ?_
          refine g_imulN dX6_table_183 ?_
          refine g_iload _ dX6_table_184 rfl ?_
          refine g_at 186 rfl ?_
          refine g_iaddN dX6_table_186 ?_
          refine g_iload _ dX6_table_187 rfl ?_
          refine g_if_eqN 196 (by omega) dX6_table_189 (by decide) (fun h189 => ?_) (fun h189 => ?_)
          · exact absurd h189 (by omega)
          · refine g_iconst (nI 1) dX6_table_192 rfl ?_
            refine g_goto 197 dX6_table_193 (by decide) ?_
            refine g_iastore (j := 32 * i + j) isI_40 (rfl) (by omega) (by omega) dX6_table_197 ?_
            refine g_mem (μ' := sR μ 40 (tb2 (μ.1 40) (rvF p) s i (j + 1))) (by first | (exact (tb2_st (by omega) (show nI 1 = rvF p i j by unfold rvF; rw [if_pos (by first | exact Or.inl h141 | exact Or.inr (Or.inl h146) | exact Or.inr (Or.inr ⟨h153, h165⟩))]))) | (exact (tb2_st (by omega) (show (-1 : Int32) = rvF p i j by unfold rvF; rw [if_neg (by intro q; rcases q with q | q | q; omega; omega; first | exact q.1 h153 | exact h165 q.2)])))) ?_
            refine g_iincN [some (.ref 33), some (.int (nI 1)), some (.int (nI p)), some (.int (nI 1)), some (.int (nI i)), some (.int (nI (j + 1))), some (.int (nI 1))] dX6_table_198 rfl (Nat.le_of_ble_eq_true rfl) rfl rfl ?_
            refine g_goto 105 dX6_table_201 (by decide) ?_
            exact g_drop 6 _ rfl (ih (j + 1) (by omega) (by omega))
        · refine g_iload _ dX6_table_144 rfl ?_
          refine g_if_eqN 168 (by omega) dX6_table_146 (by decide) (fun h146 => ?_) (fun h146 => ?_)
          · refine g_iconst (nI 1) dX6_table_168 rfl ?_
            refine g_goto 173 dX6_table_169 (by decide) ?_
            refine g_istore [some (.ref 33), some (.int (nI 1)), some (.int (nI p)), some (.int (nI 1)), some (.int (nI i)), some (.int (nI j)), some (.int (nI 1))] dX6_table_173 (Nat.le_of_ble_eq_true rfl) rfl rfl ?_
            refine g_aload_n 0 _ dX6_table_175 rfl rfl ?_
            refine gf_X6_40 rfl dX6_table_176 ?_
            refine g_bipush (nI 32) dX6_table_179 rfl ?_
            refine g_iload _ dX6_table_181 rfl ?_
            refine g_imulN dX6_table_183 ?_
            refine g_iload _ dX6_table_184 rfl ?_
            refine g_at 186 rfl ?_
            refine g_iaddN dX6_table_186 ?_
            refine g_iload _ dX6_table_187 rfl ?_
            refine g_if_eqN 196 (by omega) dX6_table_189 (by decide) (fun h189 => ?_) (fun h189 => ?_)
            · exact absurd h189 (by omega)
            · refine g_iconst (nI 1) dX6_table_192 rfl ?_
              refine g_goto 197 dX6_table_193 (by decide) ?_
              refine g_iastore (j := 32 * i + j) isI_40 (rfl) (by omega) (by omega) dX6_table_197 ?_
              refine g_mem (μ' := sR μ 40 (tb2 (μ.1 40) (rvF p) s i (j + 1))) (by first | (exact (tb2_st (by omega) (show nI 1 = rvF p i j by unfold rvF; rw [if_pos (by first | exact Or.inl h141 | exact Or.inr (Or.inl h146) | exact Or.inr (Or.inr ⟨h153, h165⟩))]))) | (exact (tb2_st (by omega) (show (-1 : Int32) = rvF p i j by unfold rvF; rw [if_neg (by intro q; rcases q with q | q | q; omega; omega; first | exact q.1 h153 | exact h165 q.2)])))) ?_
              refine g_iincN [some (.ref 33), some (.int (nI 1)), some (.int (nI p)), some (.int (nI 1)), some (.int (nI i)), some (.int (nI (j + 1))), some (.int (nI 1))] dX6_table_198 rfl (Nat.le_of_ble_eq_true rfl) rfl rfl ?_
              refine g_goto 105 dX6_table_201 (by decide) ?_
              exact g_drop 6 _ rfl (ih (j + 1) (by omega) (by omega))
          · refine g_iload _ dX6_table_149 rfl ?_
            refine g_iload _ dX6_table_151 rfl ?_
            refine g_icmp_eqN 172 (by omega) (by omega) dX6_table_153 (by decide) (fun h153 => ?_) (fun h153 => ?_)
            · refine g_iconst (nI 0) dX6_table_172 rfl ?_
              refine g_istore [some (.ref 33), some (.int (nI 1)), some (.int (nI p)), some (.int (nI 1)), some (.int (nI i)), some (.int (nI j)), some (.int (nI 0))] dX6_table_173 (Nat.le_of_ble_eq_true rfl) rfl rfl ?_
              refine g_aload_n 0 _ dX6_table_175 rfl rfl ?_
              refine gf_X6_40 rfl dX6_table_176 ?_
              refine g_bipush (nI 32) dX6_table_179 rfl ?_
              refine g_iload _ dX6_table_181 rfl ?_
              refine g_imulN dX6_table_183 ?_
              refine g_at 184 rfl ?_
              refine g_iload _ dX6_table_184 rfl ?_
              refine g_iaddN dX6_table_186 ?_
              refine g_iload _ dX6_table_187 rfl ?_
              refine g_if_eqN 196 (by omega) dX6_table_189 (by decide) (fun h189 => ?_) (fun h189 => ?_)
              · refine g_iconst (-1) dX6_table_196 rfl ?_
                refine g_iastore (j := 32 * i + j) isI_40 (rfl) (by omega) (by omega) dX6_table_197 ?_
                refine g_mem (μ' := sR μ 40 (tb2 (μ.1 40) (rvF p) s i (j + 1))) (by first | (exact (tb2_st (by omega) (show nI 1 = rvF p i j by unfold rvF; rw [if_pos (by first | exact Or.inl h141 | exact Or.inr (Or.inl h146) | exact Or.inr (Or.inr ⟨h153, h165⟩))]))) | (exact (tb2_st (by omega) (show (-1 : Int32) = rvF p i j by unfold rvF; rw [if_neg (by intro q; rcases q with q | q | q; omega; omega; first | exact q.1 h153 | exact h165 q.2)])))) ?_
                refine g_iincN [some (.ref 33), some (.int (nI 1)), some (.int (nI p)), some (.int (nI 1)), some (.int (nI i)), some (.int (nI (j + 1))), some (.int (nI 0))] dX6_table_198 rfl (Nat.le_of_ble_eq_true rfl) rfl rfl ?_
                refine g_goto 105 dX6_table_201 (by decide) ?_
                exact g_drop 6 _ rfl (ih (j + 1) (by omega) (by omega))
              · exact absurd h189 (by omega)
            · refine g_iload _ dX6_table_156 rfl ?_
              refine g_iload _ dX6_table_158 rfl ?_
              refine g_isub dX6_table_160 ?_
              refine g_iload_n 2 _ dX6_table_161 rfl rfl ?_
              refine g_backi (g_runS (d_isSquare _ ((nI j) - (nI i)) (y := j + p - i) (p := p) (by omega) (by omega) (by rw [pk_sub_toInt (by omega) (by omega)]; omega) (by omega)) rfl mw_X6_isSquare ms_X6_isSquare ml_X6_117 ⟨rfl, rfl, Nat.le_of_ble_eq_true rfl, Nat.le_of_ble_eq_true rfl⟩ rfl rfl (Nat.le_of_ble_eq_true rfl) dX6_table_162) ?_
              refine g_top (w := .int (bI (sqP (j + p - i) p))) rfl ?_
              refine g_if_eqB 172 dX6_table_165 (by decide) (fun h165 => ?_) (fun h165 => ?_)
              · refine g_iconst (nI 0) dX6_table_172 rfl ?_
                refine g_istore [some (.ref 33), some (.int (nI 1)), some (.int (nI p)), some (.int (nI 1)), some (.int (nI i)), some (.int (nI j)), some (.int (nI 0))] dX6_table_173 (Nat.le_of_ble_eq_true rfl) rfl rfl ?_
                refine g_aload_n 0 _ dX6_table_175 rfl rfl ?_
                refine gf_X6_40 rfl dX6_table_176 ?_
                refine g_bipush (nI 32) dX6_table_179 rfl ?_
                refine g_iload _ dX6_table_181 rfl ?_
                refine g_imulN dX6_table_183 ?_
                refine g_at 184 rfl ?_
                refine g_iload _ dX6_table_184 rfl ?_
                refine g_iaddN dX6_table_186 ?_
                refine g_iload _ dX6_table_187 rfl ?_
                refine g_if_eqN 196 (by omega) dX6_table_189 (by decide) (fun h189 => ?_) (fun h189 => ?_)
                · refine g_iconst (-1) dX6_table_196 rfl ?_
                  refine g_iastore (j := 32 * i + j) isI_40 (rfl) (by omega) (by omega) dX6_table_197 ?_
                  refine g_mem (μ' := sR μ 40 (tb2 (μ.1 40) (rvF p) s i (j + 1))) (by first | (exact (tb2_st (by omega) (show nI 1 = rvF p i j by unfold rvF; rw [if_pos (by first | exact Or.inl h141 | exact Or.inr (Or.inl h146) | exact Or.inr (Or.inr ⟨h153, h165⟩))]))) | (exact (tb2_st (by omega) (show (-1 : Int32) = rvF p i j by unfold rvF; rw [if_neg (by intro q; rcases q with q | q | q; omega; omega; first | exact q.1 h153 | exact h165 q.2)])))) ?_
                  refine g_iincN [some (.ref 33), some (.int (nI 1)), some (.int (nI p)), some (.int (nI 1)), some (.int (nI i)), some (.int (nI (j + 1))), some (.int (nI 0))] dX6_table_198 rfl (Nat.le_of_ble_eq_true rfl) rfl rfl ?_
                  refine g_goto 105 dX6_table_201 (by decide) ?_
                  exact g_drop 6 _ rfl (ih (j + 1) (by omega) (by omega))
                · exact absurd h189 (by omega)
              · refine g_iconst (nI 1) dX6_table_168 rfl ?_
                refine g_goto 173 dX6_table_169 (by decide) ?_
                refine g_istore [some (.ref 33), some (.int (nI 1)), some (.int (nI p)), some (.int (nI 1)), some (.int (nI i)), some (.int (nI j)), some (.int (nI 1))] dX6_table_173 (Nat.le_of_ble_eq_true rfl) rfl rfl ?_
                refine g_aload_n 0 _ dX6_table_175 rfl rfl ?_
                refine gf_X6_40 rfl dX6_table_176 ?_
                refine g_bipush (nI 32) dX6_table_179 rfl ?_
                refine g_iload _ dX6_table_181 rfl ?_
                refine g_imulN dX6_table_183 ?_
                refine g_iload _ dX6_table_184 rfl ?_
                refine g_at 186 rfl ?_
                refine g_iaddN dX6_table_186 ?_
                refine g_iload _ dX6_table_187 rfl ?_
                refine g_if_eqN 196 (by omega) dX6_table_189 (by decide) (fun h189 => ?_) (fun h189 => ?_)
                · exact absurd h189 (by omega)
                · refine g_iconst (nI 1) dX6_table_192 rfl ?_
                  refine g_goto 197 dX6_table_193 (by decide) ?_
                  refine g_iastore (j := 32 * i + j) isI_40 (rfl) (by omega) (by omega) dX6_table_197 ?_
                  refine g_mem (μ' := sR μ 40 (tb2 (μ.1 40) (rvF p) s i (j + 1))) (by first | (exact (tb2_st (by omega) (show nI 1 = rvF p i j by unfold rvF; rw [if_pos (by first | exact Or.inl h141 | exact Or.inr (Or.inl h146) | exact Or.inr (Or.inr ⟨h153, h165⟩))]))) | (exact (tb2_st (by omega) (show (-1 : Int32) = rvF p i j by unfold rvF; rw [if_neg (by intro q; rcases q with q | q | q; omega; omega; first | exact q.1 h153 | exact h165 q.2)])))) ?_
                  refine g_iincN [some (.ref 33), some (.int (nI 1)), some (.int (nI p)), some (.int (nI 1)), some (.int (nI i)), some (.int (nI (j + 1))), some (.int (nI 1))] dX6_table_198 rfl (Nat.le_of_ble_eq_true rfl) rfl rfl ?_
                  refine g_goto 105 dX6_table_201 (by decide) ?_
                  exact g_drop 6 _ rfl (ih (j + 1) (by omega) (by omega))
      · exact absurd h115 (by omega)
theorem d_tabr_out {μ : Mm} {p : Nat} {s : Nat} (hs : μ.1 33 10 = nI s) (h32 : s ≤ 32) (hp : p + 1 = s) (hp0 : 3 ≤ p) : ∀ (m i : Nat), i ≤ s → s < i + m → G mX6_table (rmL 1) (some (.int (nI s)), sR μ 40 (tb2 (μ.1 40) (rvF p) s s 0)) (sR μ 40 (tb2 (μ.1 40) (rvF p) s i 0)) 93 [some (.ref 33), some (.int (nI 1)), some (.int (nI p)), some (.int (nI 1)), some (.int (nI i)), none, none] [] := by
  intro m
  induction m with
  | zero => exact fun i h1 h2 => absurd h2 (by omega)
  | succ m ih =>
    intro i h1 h2
    have hE : i < s → G mX6_table (rmL 1) (some (.int (nI s)), sR μ 40 (tb2 (μ.1 40) (rvF p) s s 0)) (sR μ 40 (tb2 (μ.1 40) (rvF p) s i s)) 204 [some (.ref 33), some (.int (nI 1)), some (.int (nI p)), some (.int (nI 1)), some (.int (nI i)), some (.int (nI s)), none] [] := by
      intro hi
      rw [tb2_row]
      refine g_iincN [some (.ref 33), some (.int (nI 1)), some (.int (nI p)), some (.int (nI 1)), some (.int (nI (i + 1))), some (.int (nI s)), none] dX6_table_204 rfl (Nat.le_of_ble_eq_true rfl) rfl rfl ?_
      refine g_goto 93 dX6_table_207 (by decide) ?_
      exact g_drop 5 _ rfl (ih (i + 1) (by omega) (by omega))
    refine g_iload _ dX6_table_93 rfl ?_
    refine g_aload_n 0 _ dX6_table_95 rfl rfl ?_
    refine gf_X6_37 rfl dX6_table_96 ?_
    refine g_top (w := .int (nI s)) (congrArg Value.int hs) ?_
    refine g_icmp_geN 210 (by omega) (by omega) dX6_table_99 (by decide) (fun h99 => ?_) (fun h99 => ?_)
    · refine g_aload_n 0 _ dX6_table_210 rfl rfl ?_
      refine gf_X6_37 rfl dX6_table_211 ?_
      refine g_top (w := .int (nI s)) (congrArg Value.int hs) ?_
      exact g_ireturn dX6_table_214 rfl rfl (by rw [show i = s by omega])
    · refine g_iconst (nI 0) dX6_table_102 rfl ?_
      refine g_istore [some (.ref 33), some (.int (nI 1)), some (.int (nI p)), some (.int (nI 1)), some (.int (nI i)), some (.int (nI 0)), none] dX6_table_103 (Nat.le_of_ble_eq_true rfl) rfl rfl ?_
      exact d_tabr_in hs h32 (by omega) hp hp0 _ (hE (by omega)) (s + 1) 0 (by omega) (by omega)
theorem d_table_d (μ : Mm) {k s : Nat} (hk : k ≤ 5) (hs : nI 1 <<< (nI k &&& 31) = nI s) (h32 : s ≤ 32) : Ok mX6_table (rmL 1) [.ref 33, .int (nI 0), .int (nI k)] μ (some (.int (nI s)), sR (sI (sI μ 33 14 0) 33 10 (nI s)) 40 (tb2 (μ.1 40) dvF s s 0)) := by
  refine Ok.of (by decide) (Nat.le_of_ble_eq_true rfl) [some (.ref 33), some (.int (nI 0)), some (.int (nI k)), none, none, none, none] rfl ?_
  refine g_aload_n 0 _ dX6_table_0 rfl rfl ?_
  refine g_backv (g_runV (d_start μ) rfl mw_X6_start mi_X6_start ml_X6_68 isO_33 ⟨rfl, rfl, Nat.le_of_ble_eq_true rfl, Nat.le_of_ble_eq_true rfl⟩ rfl rfl (Nat.le_of_ble_eq_true rfl) dX6_table_1) ?_
  refine g_mem (μ' := sI μ 33 14 0) rfl ?_
  refine g_iload_n 1 _ dX6_table_4 rfl rfl ?_
  refine g_iconst (nI 1) dX6_table_5 rfl ?_
  refine g_icmp_neN 48 (by omega) (by omega) dX6_table_6 (by decide) (fun h6 => ?_) (fun h6 => ?_)
  · refine g_iconst (nI 0) dX6_table_48 rfl ?_
    refine g_istore_n [some (.ref 33), some (.int (nI 0)), some (.int (nI k)), some (.int (nI 0)), none, none, none] dX6_table_49 rfl (Nat.le_of_ble_eq_true rfl) rfl rfl ?_
    refine g_iload_n 3 _ dX6_table_50 rfl rfl ?_
    refine g_if_neN 73 (by omega) dX6_table_51 (by decide) (fun h51 => ?_) (fun h51 => ?_)
    · exact absurd h51 (by omega)
    · refine g_iload_n 1 _ dX6_table_54 rfl rfl ?_
      refine g_if_neN 67 (by omega) dX6_table_55 (by decide) (fun h55 => ?_) (fun h55 => ?_)
      · exact absurd h55 (by omega)
      · refine g_iload_n 2 _ dX6_table_58 rfl rfl ?_
        refine g_if_ltN 67 (by omega) dX6_table_59 (by decide) ?_
        refine g_iload_n 2 _ dX6_table_62 rfl rfl ?_
        refine g_iconst (nI 5) dX6_table_63 rfl ?_
        refine g_icmp_leN 73 (by omega) (by omega) dX6_table_64 (by decide) (fun h64 => ?_) (fun h64 => ?_)
        · refine g_aload_n 0 _ dX6_table_73 rfl rfl ?_
          refine g_iload_n 1 _ dX6_table_74 rfl rfl ?_
          refine g_if_neN 84 (by omega) dX6_table_75 (by decide) (fun h75 => ?_) (fun h75 => ?_)
          · exact absurd h75 (by omega)
          · refine g_iconst (nI 1) dX6_table_78 rfl ?_
            refine g_iload_n 2 _ dX6_table_79 rfl rfl ?_
            refine g_ishl dX6_table_80 ?_
            refine g_goto 87 dX6_table_81 (by decide) ?_
            refine g_top (w := .int (nI s)) (congrArg Value.int hs) ?_
            refine gp_X6_37 rfl dX6_table_87 ?_
            refine g_iconst (nI 0) dX6_table_90 rfl ?_
            refine g_istore [some (.ref 33), some (.int (nI 0)), some (.int (nI k)), some (.int (nI 0)), some (.int (nI 0)), none, none] dX6_table_91 (Nat.le_of_ble_eq_true rfl) rfl rfl ?_
            have h := d_tabd_out (μ := sI (sI μ 33 14 0) 33 10 (nI s)) (a9 := nI k) rfl h32 (s + 1) 0 (by omega) (by omega); rw [tb2_0, sR_id] at h; exact h
        · exact absurd h64 (by omega)
  · exact absurd h6 (by omega)
abbrev rsK (p : Nat) : Prop := p = 3 ∨ p = 7 ∨ p = 11 ∨ p = 19 ∨ p = 23 ∨ p = 31
theorem d_table_r (μ : Mm) {p s : Nat} (hp : rsK p) (hs : p + 1 = s) : Ok mX6_table (rmL 1) [.ref 33, .int (nI 1), .int (nI p)] μ (some (.int (nI s)), sR (sI (sI μ 33 14 0) 33 10 (nI s)) 40 (tb2 (μ.1 40) (rvF p) s s 0)) := by
  have hb : 3 ≤ p ∧ p ≤ 31 := by unfold rsK at hp; omega
  refine Ok.of (by decide) (Nat.le_of_ble_eq_true rfl) [some (.ref 33), some (.int (nI 1)), some (.int (nI p)), none, none, none, none] rfl ?_
  have E : G mX6_table (rmL 1) (some (.int (nI s)), sR (sI (sI μ 33 14 0) 33 10 (nI s)) 40 (tb2 (μ.1 40) (rvF p) s s 0)) (sI μ 33 14 0) 44 [some (.ref 33), some (.int (nI 1)), some (.int (nI p)), none, none, none, none] [] := by
    refine g_iconst (nI 1) dX6_table_44 rfl ?_
    refine g_goto 49 dX6_table_45 (by decide) ?_
    refine g_istore_n [some (.ref 33), some (.int (nI 1)), some (.int (nI p)), some (.int (nI 1)), none, none, none] dX6_table_49 rfl (Nat.le_of_ble_eq_true rfl) rfl rfl ?_
    refine g_iload_n 3 _ dX6_table_50 rfl rfl ?_
    refine g_if_neN 73 (by omega) dX6_table_51 (by decide) (fun h51 => ?_) (fun h51 => ?_)
    · refine g_aload_n 0 _ dX6_table_73 rfl rfl ?_
      refine g_iload_n 1 _ dX6_table_74 rfl rfl ?_
      refine g_if_neN 84 (by omega) dX6_table_75 (by decide) (fun h75 => ?_) (fun h75 => ?_)
      · refine g_iload_n 2 _ dX6_table_84 rfl rfl ?_
        refine g_iconst (nI 1) dX6_table_85 rfl ?_
        refine g_iaddN dX6_table_86 ?_
        refine g_top (w := .int (nI s)) (congrArg Value.int (by rw [hs])) ?_
        refine gp_X6_37 rfl dX6_table_87 ?_
        refine g_iconst (nI 0) dX6_table_90 rfl ?_
        refine g_istore [some (.ref 33), some (.int (nI 1)), some (.int (nI p)), some (.int (nI 1)), some (.int (nI 0)), none, none] dX6_table_91 (Nat.le_of_ble_eq_true rfl) rfl rfl ?_
        have h := d_tabr_out (μ := sI (sI μ 33 14 0) 33 10 (nI s)) (p := p) rfl (by omega) hs hb.1 (s + 1) 0 (by omega) (by omega); rw [tb2_0, sR_id] at h; exact h
      · exact absurd h75 (by omega)
    · exact absurd h51 (by omega)
  refine g_aload_n 0 _ dX6_table_0 rfl rfl ?_
  refine g_backv (g_runV (d_start μ) rfl mw_X6_start mi_X6_start ml_X6_68 isO_33 ⟨rfl, rfl, Nat.le_of_ble_eq_true rfl, Nat.le_of_ble_eq_true rfl⟩ rfl rfl (Nat.le_of_ble_eq_true rfl) dX6_table_1) ?_
  refine g_mem (μ' := sI μ 33 14 0) rfl ?_
  refine g_iload_n 1 _ dX6_table_4 rfl rfl ?_
  refine g_iconst (nI 1) dX6_table_5 rfl ?_
  refine g_icmp_neN 48 (by omega) (by omega) dX6_table_6 (by decide) (fun h6 => ?_) (fun h6 => ?_)
  · exact absurd h6 (by omega)
  · refine g_iload_n 2 _ dX6_table_9 rfl rfl ?_
    refine g_iconst (nI 3) dX6_table_10 rfl ?_
    refine g_icmp_eqN 44 (by omega) (by omega) dX6_table_11 (by decide) (fun h11 => ?_) (fun h11 => ?_)
    · exact E
    · refine g_iload_n 2 _ dX6_table_14 rfl rfl ?_
      refine g_bipush (nI 7) dX6_table_15 rfl ?_
      refine g_icmp_eqN 44 (by omega) (by omega) dX6_table_17 (by decide) (fun h17 => ?_) (fun h17 => ?_)
      · exact E
      · refine g_iload_n 2 _ dX6_table_20 rfl rfl ?_
        refine g_bipush (nI 11) dX6_table_21 rfl ?_
        refine g_icmp_eqN 44 (by omega) (by omega) dX6_table_23 (by decide) (fun h23 => ?_) (fun h23 => ?_)
        · exact E
        · refine g_iload_n 2 _ dX6_table_26 rfl rfl ?_
          refine g_bipush (nI 19) dX6_table_27 rfl ?_
          refine g_icmp_eqN 44 (by omega) (by omega) dX6_table_29 (by decide) (fun h29 => ?_) (fun h29 => ?_)
          · exact E
          · refine g_iload_n 2 _ dX6_table_32 rfl rfl ?_
            refine g_bipush (nI 23) dX6_table_33 rfl ?_
            refine g_icmp_eqN 44 (by omega) (by omega) dX6_table_35 (by decide) (fun h35 => ?_) (fun h35 => ?_)
            · exact E
            · refine g_iload_n 2 _ dX6_table_38 rfl rfl ?_
              refine g_bipush (nI 31) dX6_table_39 rfl ?_
              refine g_icmp_neN 48 (by omega) (by omega) dX6_table_41 (by decide) (fun h41 => ?_) (fun h41 => ?_)
              · exfalso; unfold rsK at hp; omega
              · exact E
theorem d_table_no (μ : Mm) (k a : Int32) (h0 : ¬ (k.toInt = 0 ∧ 0 ≤ a.toInt ∧ a.toInt ≤ 5)) (h1 : ¬ (k.toInt = 1 ∧ ∃ p : Nat, a = nI p ∧ rsK p)) : Ok mX6_table (rmL 1) [.ref 33, .int k, .int a] μ (some (.int (-1)), sI (sI μ 33 14 0) 33 14 (nI 1)) := by
  refine Ok.of (by decide) (Nat.le_of_ble_eq_true rfl) [some (.ref 33), some (.int k), some (.int a), none, none, none, none] rfl ?_
  have hk : k = nI 1 → k.toInt = 1 := fun h => by rw [h]; rfl
  refine g_aload_n 0 _ dX6_table_0 rfl rfl ?_
  refine g_backv (g_runV (d_start μ) rfl mw_X6_start mi_X6_start ml_X6_68 isO_33 ⟨rfl, rfl, Nat.le_of_ble_eq_true rfl, Nat.le_of_ble_eq_true rfl⟩ rfl rfl (Nat.le_of_ble_eq_true rfl) dX6_table_1) ?_
  refine g_mem (μ' := sI μ 33 14 0) rfl ?_
  refine g_iload_n 1 _ dX6_table_4 rfl rfl ?_
  refine g_iconst (nI 1) dX6_table_5 rfl ?_
  refine g_icmp_ne 48 dX6_table_6 (by decide) (fun h6 => ?_) (fun h6 => ?_)
  · refine g_iconst (nI 0) dX6_table_48 rfl ?_
    refine g_istore_n [some (.ref 33), some (.int k), some (.int a), some (.int (nI 0)), none, none, none] dX6_table_49 rfl (Nat.le_of_ble_eq_true rfl) rfl rfl ?_
    refine g_iload_n 3 _ dX6_table_50 rfl rfl ?_
    refine g_if_neN 73 (by omega) dX6_table_51 (by decide) (fun h51 => ?_) (fun h51 => ?_)
    · exact absurd h51 (by omega)
    · refine g_iload_n 1 _ dX6_table_54 rfl rfl ?_
      refine g_if_ne 67 dX6_table_55 (by decide) (fun h55 => ?_) (fun h55 => ?_)
      · refine g_aload_n 0 _ dX6_table_67 rfl rfl ?_
        refine g_iconst (nI 1) dX6_table_68 rfl ?_
        refine g_backi (g_runV (d_no (sI μ 33 14 0) (nI 1)) rfl mw_X6_no mi_X6_no ml_X6_79 isO_33 ⟨rfl, rfl, Nat.le_of_ble_eq_true rfl, Nat.le_of_ble_eq_true rfl⟩ rfl rfl (Nat.le_of_ble_eq_true rfl) dX6_table_69) ?_
        refine g_mem (μ' := sI (sI μ 33 14 0) 33 14 (nI 1)) rfl ?_
        refine g_top (w := .int (-1)) rfl ?_
        exact g_ireturn dX6_table_72 rfl rfl rfl
      · refine g_iload_n 2 _ dX6_table_58 rfl rfl ?_
        refine g_if_lt 67 dX6_table_59 (by decide) (fun h59 => ?_) (fun h59 => ?_)
        · refine g_aload_n 0 _ dX6_table_67 rfl rfl ?_
          refine g_iconst (nI 1) dX6_table_68 rfl ?_
          refine g_backi (g_runV (d_no (sI μ 33 14 0) (nI 1)) rfl mw_X6_no mi_X6_no ml_X6_79 isO_33 ⟨rfl, rfl, Nat.le_of_ble_eq_true rfl, Nat.le_of_ble_eq_true rfl⟩ rfl rfl (Nat.le_of_ble_eq_true rfl) dX6_table_69) ?_
          refine g_mem (μ' := sI (sI μ 33 14 0) 33 14 (nI 1)) rfl ?_
          refine g_top (w := .int (-1)) rfl ?_
          exact g_ireturn dX6_table_72 rfl rfl rfl
        · refine g_iload_n 2 _ dX6_table_62 rfl rfl ?_
          refine g_iconst (nI 5) dX6_table_63 rfl ?_
          refine g_icmp_le 73 dX6_table_64 (by decide) (fun h64 => ?_) (fun h64 => ?_)
          · exact absurd ⟨by rw [h55]; rfl, by rw [fa_lt, t0] at h59; omega, by rw [fa_le, nt5] at h64; exact h64⟩ h0
          · refine g_aload_n 0 _ dX6_table_67 rfl rfl ?_
            refine g_iconst (nI 1) dX6_table_68 rfl ?_
            refine g_backi (g_runV (d_no (sI μ 33 14 0) (nI 1)) rfl mw_X6_no mi_X6_no ml_X6_79 isO_33 ⟨rfl, rfl, Nat.le_of_ble_eq_true rfl, Nat.le_of_ble_eq_true rfl⟩ rfl rfl (Nat.le_of_ble_eq_true rfl) dX6_table_69) ?_
            refine g_mem (μ' := sI (sI μ 33 14 0) 33 14 (nI 1)) rfl ?_
            refine g_top (w := .int (-1)) rfl ?_
            exact g_ireturn dX6_table_72 rfl rfl rfl
  · refine g_iload_n 2 _ dX6_table_9 rfl rfl ?_
    refine g_iconst (nI 3) dX6_table_10 rfl ?_
    refine g_icmp_eq 44 dX6_table_11 (by decide) (fun h11 => ?_) (fun h11 => ?_)
    · exact absurd ⟨hk h6, 3, h11, by decide⟩ h1
    · refine g_iload_n 2 _ dX6_table_14 rfl rfl ?_
      refine g_bipush (nI 7) dX6_table_15 rfl ?_
      refine g_icmp_eq 44 dX6_table_17 (by decide) (fun h17 => ?_) (fun h17 => ?_)
      · exact absurd ⟨hk h6, 7, h17, by decide⟩ h1
      · refine g_iload_n 2 _ dX6_table_20 rfl rfl ?_
        refine g_bipush (nI 11) dX6_table_21 rfl ?_
        refine g_icmp_eq 44 dX6_table_23 (by decide) (fun h23 => ?_) (fun h23 => ?_)
        · exact absurd ⟨hk h6, 11, h23, by decide⟩ h1
        · refine g_iload_n 2 _ dX6_table_26 rfl rfl ?_
          refine g_bipush (nI 19) dX6_table_27 rfl ?_
          refine g_icmp_eq 44 dX6_table_29 (by decide) (fun h29 => ?_) (fun h29 => ?_)
          · exact absurd ⟨hk h6, 19, h29, by decide⟩ h1
          · refine g_iload_n 2 _ dX6_table_32 rfl rfl ?_
            refine g_bipush (nI 23) dX6_table_33 rfl ?_
            refine g_icmp_eq 44 dX6_table_35 (by decide) (fun h35 => ?_) (fun h35 => ?_)
            · exact absurd ⟨hk h6, 23, h35, by decide⟩ h1
            · refine g_iload_n 2 _ dX6_table_38 rfl rfl ?_
              refine g_bipush (nI 31) dX6_table_39 rfl ?_
              refine g_icmp_ne 48 dX6_table_41 (by decide) (fun h41 => ?_) (fun h41 => ?_)
              · refine g_iconst (nI 0) dX6_table_48 rfl ?_
                refine g_istore_n [some (.ref 33), some (.int k), some (.int a), some (.int (nI 0)), none, none, none] dX6_table_49 rfl (Nat.le_of_ble_eq_true rfl) rfl rfl ?_
                refine g_iload_n 3 _ dX6_table_50 rfl rfl ?_
                refine g_if_neN 73 (by omega) dX6_table_51 (by decide) (fun h51 => ?_) (fun h51 => ?_)
                · exact absurd h51 (by omega)
                · refine g_iload_n 1 _ dX6_table_54 rfl rfl ?_
                  refine g_if_ne 67 dX6_table_55 (by decide) (fun h55 => ?_) (fun h55 => ?_)
                  · refine g_aload_n 0 _ dX6_table_67 rfl rfl ?_
                    refine g_iconst (nI 1) dX6_table_68 rfl ?_
                    refine g_backi (g_runV (d_no (sI μ 33 14 0) (nI 1)) rfl mw_X6_no mi_X6_no ml_X6_79 isO_33 ⟨rfl, rfl, Nat.le_of_ble_eq_true rfl, Nat.le_of_ble_eq_true rfl⟩ rfl rfl (Nat.le_of_ble_eq_true rfl) dX6_table_69) ?_
                    refine g_mem (μ' := sI (sI μ 33 14 0) 33 14 (nI 1)) rfl ?_
                    refine g_top (w := .int (-1)) rfl ?_
                    exact g_ireturn dX6_table_72 rfl rfl rfl
                  · refine g_iload_n 2 _ dX6_table_58 rfl rfl ?_
                    refine g_if_lt 67 dX6_table_59 (by decide) (fun h59 => ?_) (fun h59 => ?_)
                    · refine g_aload_n 0 _ dX6_table_67 rfl rfl ?_
                      refine g_iconst (nI 1) dX6_table_68 rfl ?_
                      refine g_backi (g_runV (d_no (sI μ 33 14 0) (nI 1)) rfl mw_X6_no mi_X6_no ml_X6_79 isO_33 ⟨rfl, rfl, Nat.le_of_ble_eq_true rfl, Nat.le_of_ble_eq_true rfl⟩ rfl rfl (Nat.le_of_ble_eq_true rfl) dX6_table_69) ?_
                      refine g_mem (μ' := sI (sI μ 33 14 0) 33 14 (nI 1)) rfl ?_
                      refine g_top (w := .int (-1)) rfl ?_
                      exact g_ireturn dX6_table_72 rfl rfl rfl
                    · refine g_iload_n 2 _ dX6_table_62 rfl rfl ?_
                      refine g_iconst (nI 5) dX6_table_63 rfl ?_
                      refine g_icmp_le 73 dX6_table_64 (by decide) (fun h64 => ?_) (fun h64 => ?_)
                      · exact absurd ⟨by rw [h55]; rfl, by rw [fa_lt, t0] at h59; omega, by rw [fa_le, nt5] at h64; exact h64⟩ h0
                      · refine g_aload_n 0 _ dX6_table_67 rfl rfl ?_
                        refine g_iconst (nI 1) dX6_table_68 rfl ?_
                        refine g_backi (g_runV (d_no (sI μ 33 14 0) (nI 1)) rfl mw_X6_no mi_X6_no ml_X6_79 isO_33 ⟨rfl, rfl, Nat.le_of_ble_eq_true rfl, Nat.le_of_ble_eq_true rfl⟩ rfl rfl (Nat.le_of_ble_eq_true rfl) dX6_table_69) ?_
                        refine g_mem (μ' := sI (sI μ 33 14 0) 33 14 (nI 1)) rfl ?_
                        refine g_top (w := .int (-1)) rfl ?_
                        exact g_ireturn dX6_table_72 rfl rfl rfl
              · exact absurd ⟨hk h6, 31, h41, by decide⟩ h1
/-! twice -/
def dnP (o i j x : Nat) : Prop := x % 32 < 2 * o ∧ x / 32 < 2 * o ∧ ((x / 32 < o ∧ (x / 32 < i ∨ (x / 32 = i ∧ ((x % 32 < o ∧ x % 32 < j) ∨ (o ≤ x % 32 ∧ x % 32 < o + j))))) ∨ (o ≤ x / 32 ∧ (x / 32 < o + i ∨ (x / 32 = o + i ∧ ((x % 32 < o ∧ x % 32 < j) ∨ (o ≤ x % 32 ∧ x % 32 < o + j))))))
def twF (f : Nat → Int32) (o : Nat) : Nat → Int32 := fun x => if x / 32 < o then (if x % 32 < o then f x else f (x - o)) else (if x % 32 < o then f (x - 32 * o) else -f (x - 32 * o - o))
noncomputable def twS (f : Nat → Int32) (o i j : Nat) : Nat → Int32 := fun x => @ite _ (dnP o i j x) (Classical.propDecidable _) (twF f o x) (f x)
theorem twS_y {f : Nat → Int32} {o i j x : Nat} (h : dnP o i j x) : twS f o i j x = twF f o x := if_pos h
theorem twS_n {f : Nat → Int32} {o i j x : Nat} (h : ¬ dnP o i j x) : twS f o i j x = f x := if_neg h
theorem twS_iff {f : Nat → Int32} {o i j i' j' x : Nat} (h : dnP o i j x ↔ dnP o i' j' x) : twS f o i j x = twS f o i' j' x := by
  by_cases q : dnP o i j x
  · rw [twS_y q, twS_y (h.mp q)]
  · rw [twS_n q, twS_n (fun z => q (h.mpr z))]
theorem twS_0 (f : Nat → Int32) (o : Nat) : twS f o 0 0 = f := by
  funext x; exact twS_n (by unfold dnP; omega)
theorem twS_row (f : Nat → Int32) (o i : Nat) : twS f o i o = twS f o (i + 1) 0 := by
  funext x; exact twS_iff (by unfold dnP; omega)
theorem twS_put (f : Nat → Int32) {o i j : Nat} (ho : o ≤ 16) (hi : i < o) (hj : j < o) : upd (upd (upd (twS f o i j) (32 * i + j + o) (f (32 * i + j))) (32 * (i + o) + j) (f (32 * i + j))) (32 * (i + o) + j + o) (-f (32 * i + j)) = twS f o i (j + 1) := by
  funext x
  unfold upd
  by_cases h1 : x = 32 * (i + o) + j + o
  · rw [if_pos h1, twS_y (by unfold dnP; omega)]
    unfold twF
    rw [if_neg (by omega), if_neg (by omega), show x - 32 * o - o = 32 * i + j by omega]
  · rw [if_neg h1]
    by_cases h2 : x = 32 * (i + o) + j
    · rw [if_pos h2, twS_y (by unfold dnP; omega)]
      unfold twF
      rw [if_neg (by omega), if_pos (by omega), show x - 32 * o = 32 * i + j by omega]
    · rw [if_neg h2]
      by_cases h3 : x = 32 * i + j + o
      · rw [if_pos h3, twS_y (by unfold dnP; omega)]
        unfold twF
        rw [if_pos (by omega), if_neg (by omega), show x - o = 32 * i + j by omega]
      · rw [if_neg h3]
        by_cases h4 : x = 32 * i + j
        · rw [twS_n (by unfold dnP; omega), twS_y (by unfold dnP; omega)]
          unfold twF
          rw [if_pos (by omega), if_pos (by omega)]
        · exact twS_iff (by unfold dnP; omega)
theorem d_tw_in {μ : Mm} {i o : Nat} (ho : o ≤ 16) (hi : i < o) (R : Option Value × Mm) (hE : G mX6_twice (rmL 1) R (sR μ 40 (twS (μ.1 40) o i o)) 121 [some (.ref 33), some (.int (nI o)), some (.int (nI i)), some (.int (nI o)), none] []) : ∀ (m j : Nat), j ≤ o → o < j + m → G mX6_twice (rmL 1) R (sR μ 40 (twS (μ.1 40) o i j)) 49 [some (.ref 33), some (.int (nI o)), some (.int (nI i)), some (.int (nI j)), none] [] := by
  intro m
  induction m with
  | zero => exact fun j h1 h2 => absurd h2 (by omega)
  | succ m ih =>
    intro j h1 h2
    have e1 : j < o → (sR μ 40 (twS (μ.1 40) o i j)).1 40 (32 * i + j) = μ.1 40 (32 * i + j) := fun hj => by
      rw [sR_at]; exact twS_n (by unfold dnP; omega)
    have e2 : j < o → sI (sI (sI (sR μ 40 (twS (μ.1 40) o i j)) 40 (32 * i + j + o) (μ.1 40 (32 * i + j))) 40 (32 * (i + o) + j) (μ.1 40 (32 * i + j))) 40 (32 * (i + o) + j + o) (-μ.1 40 (32 * i + j)) = sR μ 40 (twS (μ.1 40) o i (j + 1)) := fun hj => by
      rw [sI_sR, sI_sR, sI_sR, twS_put _ ho hi hj]
    refine g_iload_n 3 _ dX6_twice_49 rfl rfl ?_
    refine g_iload_n 1 _ dX6_twice_50 rfl rfl ?_
    refine g_icmp_geN 121 (by omega) (by omega) dX6_twice_51 (by decide) (fun h51 => ?_) (fun h51 => ?_)
    · rw [show j = o by omega]; exact hE
    · refine g_aload_n 0 _ dX6_twice_54 rfl rfl ?_
      refine gf_X6_40 rfl dX6_twice_55 ?_
      refine g_bipush (nI 32) dX6_twice_58 rfl ?_
      refine g_iload_n 2 _ dX6_twice_60 rfl rfl ?_
      refine g_imulN dX6_twice_61 ?_
      refine g_iload_n 3 _ dX6_twice_62 rfl rfl ?_
      refine g_iaddN dX6_twice_63 ?_
      refine g_at 64 rfl ?_
      refine g_iaload (j := 32 * i + j) isI_40 (rfl) (by omega) (by omega) dX6_twice_64 ?_
      refine g_top (w := .int (μ.1 40 (32 * i + j))) (congrArg Value.int (e1 (by omega))) ?_
      refine g_istore [some (.ref 33), some (.int (nI o)), some (.int (nI i)), some (.int (nI j)), some (.int (μ.1 40 (32 * i + j)))] dX6_twice_65 (Nat.le_of_ble_eq_true rfl) rfl rfl ?_
      refine g_aload_n 0 _ dX6_twice_67 rfl rfl ?_
      refine gf_X6_40 rfl dX6_twice_68 ?_
      refine g_bipush (nI 32) dX6_twice_71 rfl ?_
      refine g_iload_n 2 _ dX6_twice_73 rfl rfl ?_
      refine g_imulN dX6_twice_74 ?_
      refine g_iload_n 3 _ dX6_twice_75 rfl rfl ?_
      refine g_at 76 rfl ?_
      refine g_iaddN dX6_twice_76 ?_
      refine g_iload_n 1 _ dX6_twice_77 rfl rfl ?_
      refine g_iaddN dX6_twice_78 ?_
      refine g_iload _ dX6_twice_79 rfl ?_
      refine g_iastore (j := 32 * i + j + o) isI_40 (rfl) (by omega) (by omega) dX6_twice_81 ?_
      refine g_aload_n 0 _ dX6_twice_82 rfl rfl ?_
      refine gf_X6_40 rfl dX6_twice_83 ?_
      refine g_bipush (nI 32) dX6_twice_86 rfl ?_
      refine g_at 88 rfl ?_
      refine g_iload_n 2 _ dX6_twice_88 rfl rfl ?_
      refine g_iload_n 1 _ dX6_twice_89 rfl rfl ?_
      refine g_iaddN dX6_twice_90 ?_
      refine g_imulN dX6_twice_91 ?_
      refine g_iload_n 3 _ dX6_twice_92 rfl rfl ?_
      refine g_iaddN dX6_twice_93 ?_
      refine g_iload _ dX6_twice_94 rfl ?_
      refine g_iastore (j := 32 * (i + o) + j) isI_40 (rfl) (by omega) (by omega) dX6_twice_96 ?_
      refine g_at 97 rfl ?_
      refine g_aload_n 0 _ dX6_twice_97 rfl rfl ?_
      refine gf_X6_40 rfl dX6_twice_98 ?_
      refine g_bipush (nI 32) dX6_twice_101 rfl ?_
      refine g_iload_n 2 _ dX6_twice_103 rfl rfl ?_
      refine g_iload_n 1 _ dX6_twice_104 rfl rfl ?_
      refine g_iaddN dX6_twice_105 ?_
      refine g_imulN dX6_twice_106 ?_
      refine g_iload_n 3 _ dX6_twice_107 rfl rfl ?_
      refine g_at 108 rfl ?_
      refine g_iaddN dX6_twice_108 ?_
      refine g_iload_n 1 _ dX6_twice_109 rfl rfl ?_
      refine g_iaddN dX6_twice_110 ?_
      refine g_iload _ dX6_twice_111 rfl ?_
      refine g_ineg dX6_twice_113 ?_
      refine g_iastore (j := 32 * (i + o) + j + o) isI_40 (rfl) (by omega) (by omega) dX6_twice_114 ?_
      refine g_mem (μ' := sR μ 40 (twS (μ.1 40) o i (j + 1))) (e2 (by omega)) ?_
      refine g_iincN [some (.ref 33), some (.int (nI o)), some (.int (nI i)), some (.int (nI (j + 1))), some (.int (μ.1 40 (32 * i + j)))] dX6_twice_115 rfl (Nat.le_of_ble_eq_true rfl) rfl rfl ?_
      refine g_goto 49 dX6_twice_118 (by decide) ?_
      exact g_drop 4 _ rfl (ih (j + 1) (by omega) (by omega))
theorem d_tw_out {μ : Mm} {o : Nat} (ho : o ≤ 16) : ∀ (m i : Nat), i ≤ o → o < i + m → G mX6_twice (rmL 1) (some (.int (nI (2 * o))), sI (sR μ 40 (twS (μ.1 40) o o 0)) 33 10 (nI (2 * o))) (sR μ 40 (twS (μ.1 40) o i 0)) 42 [some (.ref 33), some (.int (nI o)), some (.int (nI i)), none, none] [] := by
  intro m
  induction m with
  | zero => exact fun i h1 h2 => absurd h2 (by omega)
  | succ m ih =>
    intro i h1 h2
    have hE : i < o → G mX6_twice (rmL 1) (some (.int (nI (2 * o))), sI (sR μ 40 (twS (μ.1 40) o o 0)) 33 10 (nI (2 * o))) (sR μ 40 (twS (μ.1 40) o i o)) 121 [some (.ref 33), some (.int (nI o)), some (.int (nI i)), some (.int (nI o)), none] [] := by
      intro hi
      rw [twS_row]
      refine g_iincN [some (.ref 33), some (.int (nI o)), some (.int (nI (i + 1))), some (.int (nI o)), none] dX6_twice_121 rfl (Nat.le_of_ble_eq_true rfl) rfl rfl ?_
      refine g_goto 42 dX6_twice_124 (by decide) ?_
      exact g_drop 3 _ rfl (ih (i + 1) (by omega) (by omega))
    refine g_iload_n 2 _ dX6_twice_42 rfl rfl ?_
    refine g_iload_n 1 _ dX6_twice_43 rfl rfl ?_
    refine g_icmp_geN 127 (by omega) (by omega) dX6_twice_44 (by decide) (fun h44 => ?_) (fun h44 => ?_)
    · refine g_aload_n 0 _ dX6_twice_127 rfl rfl ?_
      refine g_iconst (nI 2) dX6_twice_128 rfl ?_
      refine g_iload_n 1 _ dX6_twice_129 rfl rfl ?_
      refine g_imulN dX6_twice_130 ?_
      refine gp_X6_37 rfl dX6_twice_131 ?_
      refine g_aload_n 0 _ dX6_twice_134 rfl rfl ?_
      refine gf_X6_37 rfl dX6_twice_135 ?_
      refine g_at 138 rfl ?_
      exact g_ireturn dX6_twice_138 rfl rfl (by rw [show i = o by omega]; rfl)
    · refine g_iconst (nI 0) dX6_twice_47 rfl ?_
      refine g_istore_n [some (.ref 33), some (.int (nI o)), some (.int (nI i)), some (.int (nI 0)), none] dX6_twice_48 rfl (Nat.le_of_ble_eq_true rfl) rfl rfl ?_
      exact d_tw_in ho (by omega) _ (hE (by omega)) (o + 1) 0 (by omega) (by omega)
theorem d_twice_2 (μ : Mm) (hs : μ.1 33 10 = -1) : Ok mX6_twice (rmL 1) [.ref 33] μ (some (.int (-1)), sI (sI μ 33 14 0) 33 14 (nI 2)) := by
  refine Ok.of (by decide) (Nat.le_of_ble_eq_true rfl) [some (.ref 33), none, none, none, none] rfl ?_
  refine g_aload_n 0 _ dX6_twice_0 rfl rfl ?_
  refine g_backv (g_runV (d_start μ) rfl mw_X6_start mi_X6_start ml_X6_68 isO_33 ⟨rfl, rfl, Nat.le_of_ble_eq_true rfl, Nat.le_of_ble_eq_true rfl⟩ rfl rfl (Nat.le_of_ble_eq_true rfl) dX6_twice_1) ?_
  refine g_mem (μ' := sI μ 33 14 0) rfl ?_
  refine g_aload_n 0 _ dX6_twice_4 rfl rfl ?_
  refine gf_X6_37 rfl dX6_twice_5 ?_
  refine g_iconst (-1) dX6_twice_8 rfl ?_
  refine g_icmp_ne 18 dX6_twice_9 (by decide) (fun h9 => ?_) (fun h9 => ?_)
  · exact absurd hs h9
  · refine g_aload_n 0 _ dX6_twice_12 rfl rfl ?_
    refine g_iconst (nI 2) dX6_twice_13 rfl ?_
    refine g_backi (g_runV (d_no (sI μ 33 14 0) (nI 2)) rfl mw_X6_no mi_X6_no ml_X6_79 isO_33 ⟨rfl, rfl, Nat.le_of_ble_eq_true rfl, Nat.le_of_ble_eq_true rfl⟩ rfl rfl (Nat.le_of_ble_eq_true rfl) dX6_twice_14) ?_
    refine g_mem (μ' := sI (sI μ 33 14 0) 33 14 (nI 2)) rfl ?_
    refine g_top (w := .int (-1)) rfl ?_
    exact g_ireturn dX6_twice_17 rfl rfl rfl
theorem d_twice_3 (μ : Mm) {s : Nat} (hs : μ.1 33 10 = nI s) (h : 16 < s) (h32 : s ≤ 32) : Ok mX6_twice (rmL 1) [.ref 33] μ (some (.int (-1)), sI (sI μ 33 14 0) 33 14 (nI 3)) := by
  have hne : nI s ≠ -1 := by rw [ne_eq, fa_eq, nI_toInt (by omega), tm1]; omega
  refine Ok.of (by decide) (Nat.le_of_ble_eq_true rfl) [some (.ref 33), none, none, none, none] rfl ?_
  refine g_aload_n 0 _ dX6_twice_0 rfl rfl ?_
  refine g_backv (g_runV (d_start μ) rfl mw_X6_start mi_X6_start ml_X6_68 isO_33 ⟨rfl, rfl, Nat.le_of_ble_eq_true rfl, Nat.le_of_ble_eq_true rfl⟩ rfl rfl (Nat.le_of_ble_eq_true rfl) dX6_twice_1) ?_
  refine g_mem (μ' := sI μ 33 14 0) rfl ?_
  refine g_aload_n 0 _ dX6_twice_4 rfl rfl ?_
  refine gf_X6_37 rfl dX6_twice_5 ?_
  refine g_top (w := .int (nI s)) (congrArg Value.int hs) ?_
  refine g_iconst (-1) dX6_twice_8 rfl ?_
  refine g_icmp_ne 18 dX6_twice_9 (by decide) (fun h9 => ?_) (fun h9 => ?_)
  · refine g_iconst (nI 2) dX6_twice_18 rfl ?_
    refine g_aload_n 0 _ dX6_twice_19 rfl rfl ?_
    refine gf_X6_37 rfl dX6_twice_20 ?_
    refine g_top (w := .int (nI s)) (congrArg Value.int hs) ?_
    refine g_imulN dX6_twice_23 ?_
    refine g_bipush (nI 32) dX6_twice_24 rfl ?_
    refine g_icmp_leN 35 (by omega) (by omega) dX6_twice_26 (by decide) (fun h26 => ?_) (fun h26 => ?_)
    · exact absurd h26 (by omega)
    · refine g_aload_n 0 _ dX6_twice_29 rfl rfl ?_
      refine g_iconst (nI 3) dX6_twice_30 rfl ?_
      refine g_backi (g_runV (d_no (sI μ 33 14 0) (nI 3)) rfl mw_X6_no mi_X6_no ml_X6_79 isO_33 ⟨rfl, rfl, Nat.le_of_ble_eq_true rfl, Nat.le_of_ble_eq_true rfl⟩ rfl rfl (Nat.le_of_ble_eq_true rfl) dX6_twice_31) ?_
      refine g_mem (μ' := sI (sI μ 33 14 0) 33 14 (nI 3)) rfl ?_
      refine g_top (w := .int (-1)) rfl ?_
      exact g_ireturn dX6_twice_34 rfl rfl rfl
  · exact absurd h9 hne
theorem d_twice_ok (μ : Mm) {s : Nat} (hs : μ.1 33 10 = nI s) (h0 : 0 < s) (h : s ≤ 16) : Ok mX6_twice (rmL 1) [.ref 33] μ (some (.int (nI (2 * s))), sI (sR (sI μ 33 14 0) 40 (twS (μ.1 40) s s 0)) 33 10 (nI (2 * s))) := by
  have hne : nI s ≠ -1 := by rw [ne_eq, fa_eq, nI_toInt (by omega), tm1]; omega
  refine Ok.of (by decide) (Nat.le_of_ble_eq_true rfl) [some (.ref 33), none, none, none, none] rfl ?_
  refine g_aload_n 0 _ dX6_twice_0 rfl rfl ?_
  refine g_backv (g_runV (d_start μ) rfl mw_X6_start mi_X6_start ml_X6_68 isO_33 ⟨rfl, rfl, Nat.le_of_ble_eq_true rfl, Nat.le_of_ble_eq_true rfl⟩ rfl rfl (Nat.le_of_ble_eq_true rfl) dX6_twice_1) ?_
  refine g_mem (μ' := sI μ 33 14 0) rfl ?_
  refine g_aload_n 0 _ dX6_twice_4 rfl rfl ?_
  refine gf_X6_37 rfl dX6_twice_5 ?_
  refine g_top (w := .int (nI s)) (congrArg Value.int hs) ?_
  refine g_iconst (-1) dX6_twice_8 rfl ?_
  refine g_icmp_ne 18 dX6_twice_9 (by decide) (fun h9 => ?_) (fun h9 => ?_)
  · refine g_iconst (nI 2) dX6_twice_18 rfl ?_
    refine g_aload_n 0 _ dX6_twice_19 rfl rfl ?_
    refine gf_X6_37 rfl dX6_twice_20 ?_
    refine g_top (w := .int (nI s)) (congrArg Value.int hs) ?_
    refine g_imulN dX6_twice_23 ?_
    refine g_bipush (nI 32) dX6_twice_24 rfl ?_
    refine g_icmp_leN 35 (by omega) (by omega) dX6_twice_26 (by decide) (fun h26 => ?_) (fun h26 => ?_)
    · refine g_aload_n 0 _ dX6_twice_35 rfl rfl ?_
      refine gf_X6_37 rfl dX6_twice_36 ?_
      refine g_top (w := .int (nI s)) (congrArg Value.int hs) ?_
      refine g_istore_n [some (.ref 33), some (.int (nI s)), none, none, none] dX6_twice_39 rfl (Nat.le_of_ble_eq_true rfl) rfl rfl ?_
      refine g_iconst (nI 0) dX6_twice_40 rfl ?_
      refine g_istore_n [some (.ref 33), some (.int (nI s)), some (.int (nI 0)), none, none] dX6_twice_41 rfl (Nat.le_of_ble_eq_true rfl) rfl rfl ?_
      have h9 := d_tw_out (μ := sI μ 33 14 0) h (s + 1) 0 (by omega) (by omega); rw [twS_0, sR_id] at h9; exact h9
    · exact absurd h26 (by omega)
  · exact absurd h9 hne
theorem d_point_ok (μ : Mm) {i w t : Nat} (ht : μ.1 33 13 = nI t) (ht2 : t < 2 ^ 31) (hi : i < t) (hi2 : i < 200) (hw : w < 4) : Ok mX6_point (rmL 1) [.ref 33, .int (nI i), .int (nI w)] μ (some (.int (μ.1 41 (4 * i + w))), sI μ 33 14 0) := by
  refine Ok.of (by decide) (Nat.le_of_ble_eq_true rfl) [some (.ref 33), some (.int (nI i)), some (.int (nI w))] rfl ?_
  refine g_aload_n 0 _ dX6_point_0 rfl rfl ?_
  refine g_backv (g_runV (d_start μ) rfl mw_X6_start mi_X6_start ml_X6_68 isO_33 ⟨rfl, rfl, Nat.le_of_ble_eq_true rfl, Nat.le_of_ble_eq_true rfl⟩ rfl rfl (Nat.le_of_ble_eq_true rfl) dX6_point_1) ?_
  refine g_mem (μ' := sI μ 33 14 0) rfl ?_
  refine g_iload_n 1 _ dX6_point_4 rfl rfl ?_
  refine g_if_ltN 45 (by omega) dX6_point_5 (by decide) ?_
  refine g_iload_n 1 _ dX6_point_8 rfl rfl ?_
  refine g_aload_n 0 _ dX6_point_9 rfl rfl ?_
  refine gf_X6_104 rfl dX6_point_10 ?_
  refine g_top (w := .int (nI t)) (congrArg Value.int ht) ?_
  refine g_at 13 rfl ?_
  refine g_icmp_geN 45 (by omega) (by omega) dX6_point_13 (by decide) (fun h13 => ?_) (fun h13 => ?_)
  · exact absurd h13 (by omega)
  · refine g_iload_n 1 _ dX6_point_16 rfl rfl ?_
    refine g_sipush (nI 200) dX6_point_17 rfl ?_
    refine g_icmp_geN 45 (by omega) (by omega) dX6_point_20 (by decide) (fun h20 => ?_) (fun h20 => ?_)
    · exact absurd h20 (by omega)
    · refine g_iload_n 2 _ dX6_point_23 rfl rfl ?_
      refine g_if_ltN 45 (by omega) dX6_point_24 (by decide) ?_
      refine g_iload_n 2 _ dX6_point_27 rfl rfl ?_
      refine g_iconst (nI 4) dX6_point_28 rfl ?_
      refine g_icmp_geN 45 (by omega) (by omega) dX6_point_29 (by decide) (fun h29 => ?_) (fun h29 => ?_)
      · exact absurd h29 (by omega)
      · refine g_aload_n 0 _ dX6_point_32 rfl rfl ?_
        refine gf_X6_43 rfl dX6_point_33 ?_
        refine g_iconst (nI 4) dX6_point_36 rfl ?_
        refine g_iload_n 1 _ dX6_point_37 rfl rfl ?_
        refine g_imulN dX6_point_38 ?_
        refine g_iload_n 2 _ dX6_point_39 rfl rfl ?_
        refine g_iaddN dX6_point_40 ?_
        refine g_at 41 rfl ?_
        refine g_iaload (j := 4 * i + w) isI_41 (rfl) (by omega) (by omega) dX6_point_41 ?_
        refine g_goto 46 dX6_point_42 (by decide) ?_
        exact g_ireturn dX6_point_46 rfl rfl rfl
theorem d_point_no (μ : Mm) (a b : Int32) {t : Nat} (ht : μ.1 33 13 = nI t) (ht2 : t < 2 ^ 31) (h : ¬ (0 ≤ a.toInt ∧ a.toInt < t ∧ a.toInt < 200 ∧ 0 ≤ b.toInt ∧ b.toInt < 4)) : Ok mX6_point (rmL 1) [.ref 33, .int a, .int b] μ (some (.int (-1)), sI μ 33 14 0) := by
  have hti : (nI t).toInt = t := nI_toInt ht2
  refine Ok.of (by decide) (Nat.le_of_ble_eq_true rfl) [some (.ref 33), some (.int a), some (.int b)] rfl ?_
  refine g_aload_n 0 _ dX6_point_0 rfl rfl ?_
  refine g_backv (g_runV (d_start μ) rfl mw_X6_start mi_X6_start ml_X6_68 isO_33 ⟨rfl, rfl, Nat.le_of_ble_eq_true rfl, Nat.le_of_ble_eq_true rfl⟩ rfl rfl (Nat.le_of_ble_eq_true rfl) dX6_point_1) ?_
  refine g_mem (μ' := sI μ 33 14 0) rfl ?_
  refine g_iload_n 1 _ dX6_point_4 rfl rfl ?_
  refine g_if_lt 45 dX6_point_5 (by decide) (fun h5 => ?_) (fun h5 => ?_)
  · refine g_iconst (-1) dX6_point_45 rfl ?_
    exact g_ireturn dX6_point_46 rfl rfl rfl
  · refine g_iload_n 1 _ dX6_point_8 rfl rfl ?_
    refine g_aload_n 0 _ dX6_point_9 rfl rfl ?_
    refine gf_X6_104 rfl dX6_point_10 ?_
    refine g_top (w := .int (nI t)) (congrArg Value.int ht) ?_
    refine g_icmp_ge 45 dX6_point_13 (by decide) (fun h13 => ?_) (fun h13 => ?_)
    · refine g_iconst (-1) dX6_point_45 rfl ?_
      exact g_ireturn dX6_point_46 rfl rfl rfl
    · refine g_iload_n 1 _ dX6_point_16 rfl rfl ?_
      refine g_sipush (nI 200) dX6_point_17 rfl ?_
      refine g_icmp_ge 45 dX6_point_20 (by decide) (fun h20 => ?_) (fun h20 => ?_)
      · refine g_iconst (-1) dX6_point_45 rfl ?_
        exact g_ireturn dX6_point_46 rfl rfl rfl
      · refine g_iload_n 2 _ dX6_point_23 rfl rfl ?_
        refine g_if_lt 45 dX6_point_24 (by decide) (fun h24 => ?_) (fun h24 => ?_)
        · refine g_iconst (-1) dX6_point_45 rfl ?_
          exact g_ireturn dX6_point_46 rfl rfl rfl
        · refine g_iload_n 2 _ dX6_point_27 rfl rfl ?_
          refine g_iconst (nI 4) dX6_point_28 rfl ?_
          refine g_icmp_ge 45 dX6_point_29 (by decide) (fun h29 => ?_) (fun h29 => ?_)
          · refine g_iconst (-1) dX6_point_45 rfl ?_
            exact g_ireturn dX6_point_46 rfl rfl rfl
          · exfalso; simp only [fa_lt, fa_le, t0, nt200, nt4, hti] at *; omega
