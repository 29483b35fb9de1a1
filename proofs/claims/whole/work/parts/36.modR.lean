/-! HoleMaskModel: down -/
theorem d_dnI {μ : Mm} {X : Mx} {rows cols w k c i : Nat} {b : Int64} (hw : w * rows ≤ 210) (hw15 : w ≤ 15) (hr : rows ≤ 14) (hk : k < rows) (hi : i < rows) (hik : i ≠ k) (hc : c < w) (hb0 : ¬ b = 0) {R : Option Value × Mm} (hG : G mX6_down (rmL 0) R (mD μ w (cdM X k c w b (i + 1))) 238 [some (.ref 33), some (.int (nI rows)), some (.int (nI cols)), some (.int (nI w)), some (.int (nI k)), some (.long b), none, some (.int (nI c)), none, some (.long (X k c)), none, some (.int (nI i)), none, none, none] []) : ∀ (m j : Nat), j ≤ w → w < j + m → G mX6_down (rmL 0) R (mD μ w (rwM (cdM X k c w b i) i (fil (X i) (cdQ X k c b i) j))) 180 [some (.ref 33), some (.int (nI rows)), some (.int (nI cols)), some (.int (nI w)), some (.int (nI k)), some (.long b), none, some (.int (nI c)), none, some (.long (X k c)), none, some (.int (nI i)), some (.long (X i c)), none, some (.int (nI j))] [] := by
  intro m
  induction m with
  | zero => exact fun j h1 h2 => absurd h2 (by omega)
  | succ m ih =>
    intro j h1 h2
    have hx1 := ix_le hw hk
    have hx2 := ix_le hw hi
    refine g_iload _ dX6_down_180 rfl ?_
    refine g_iload_n 3 _ dX6_down_182 rfl rfl ?_
    refine g_icmp_geN 238 (by omega) (by omega) dX6_down_183 (by decide) (fun h183 => ?_) (fun h183 => ?_)
    · exact g_drop 12 _ rfl (g_drop 14 _ rfl (g_mem (by rw [show j = w by omega]; exact congrArg (mD μ w) (rwM_fil (by unfold cdR; rw [if_neg hik]))) hG))
    · refine g_aload_n 0 _ dX6_down_186 rfl rfl ?_
      refine gf_X6_46 rfl dX6_down_187 ?_
      refine g_iload_n 3 _ dX6_down_190 rfl rfl ?_
      refine g_iload _ dX6_down_191 rfl ?_
      refine g_imulN dX6_down_193 ?_
      refine g_iload _ dX6_down_194 rfl ?_
      refine g_iaddN dX6_down_196 ?_
      refine g_at 197 rfl ?_
      refine g_lload _ dX6_down_197 rfl ?_
      refine g_aload_n 0 _ dX6_down_199 rfl rfl ?_
      refine gf_X6_46 rfl dX6_down_200 ?_
      refine g_iload_n 3 _ dX6_down_203 rfl rfl ?_
      refine g_iload _ dX6_down_204 rfl ?_
      refine g_imulN dX6_down_206 ?_
      refine g_iload _ dX6_down_207 rfl ?_
      refine g_iaddN dX6_down_209 ?_
      refine g_at 210 rfl ?_
      refine g_laload (j := w * i + j) isL_42 (rfl) (by omega) (by omega) dX6_down_210 ?_
      refine g_top (w := .long (X i j)) (congrArg Value.long (by rw [mD_at (by omega), rwM_at, fil_out (Nat.le_refl j)])) ?_
      refine g_lmul dX6_down_211 ?_
      refine g_lload _ dX6_down_212 rfl ?_
      refine g_aload_n 0 _ dX6_down_214 rfl rfl ?_
      refine gf_X6_46 rfl dX6_down_215 ?_
      refine g_iload_n 3 _ dX6_down_218 rfl rfl ?_
      refine g_iload _ dX6_down_219 rfl ?_
      refine g_imulN dX6_down_221 ?_
      refine g_at 222 rfl ?_
      refine g_iload _ dX6_down_222 rfl ?_
      refine g_iaddN dX6_down_224 ?_
      refine g_laload (j := w * k + j) isL_42 (rfl) (by omega) (by omega) dX6_down_225 ?_
      refine g_top (w := .long (X k j)) (congrArg Value.long (by rw [mD_at (by omega), rwM_off (Ne.symm hik), cdM_k])) ?_
      refine g_lmul dX6_down_226 ?_
      refine g_lsub dX6_down_227 ?_
      refine g_lload _ dX6_down_228 rfl ?_
      refine g_ldiv dX6_down_230 hb0 ?_
      refine g_lastore (j := w * i + j) isL_42 (rfl) (by omega) (by omega) dX6_down_231 ?_
      refine g_mem (μ' := mD μ w (rwM (cdM X k c w b i) i (fil (X i) (cdQ X k c b i) (j + 1)))) (by exact mD_st (by omega) (rwM_put rfl)) ?_
      refine g_at 232 rfl ?_
      refine g_iincN [some (.ref 33), some (.int (nI rows)), some (.int (nI cols)), some (.int (nI w)), some (.int (nI k)), some (.long b), none, some (.int (nI c)), none, some (.long (X k c)), none, some (.int (nI i)), some (.long (X i c)), none, some (.int (nI (j + 1)))] dX6_down_232 rfl (Nat.le_of_ble_eq_true rfl) rfl rfl ?_
      refine g_goto 180 dX6_down_235 (by decide) ?_
      exact ih (j + 1) (by omega) (by omega)
theorem d_dnO {μ : Mm} {X : Mx} {rows cols w k c : Nat} {b : Int64} (hw : w * rows ≤ 210) (hw15 : w ≤ 15) (hr : rows ≤ 14) (hk : k < rows) (hc : c < w) (hb0 : ¬ b = 0) {R : Option Value × Mm} (hG : G mX6_down (rmL 0) R (mD μ w (cdM X k c w b rows)) 244 [some (.ref 33), some (.int (nI rows)), some (.int (nI cols)), some (.int (nI w)), some (.int (nI k)), some (.long b), none, some (.int (nI c)), none, some (.long (X k c)), none, none, none, none, none] []) : ∀ (m i : Nat), i ≤ rows → rows < i + m → G mX6_down (rmL 0) R (mD μ w (cdM X k c w b i)) 147 [some (.ref 33), some (.int (nI rows)), some (.int (nI cols)), some (.int (nI w)), some (.int (nI k)), some (.long b), none, some (.int (nI c)), none, some (.long (X k c)), none, some (.int (nI i)), none, none, none] [] := by
  intro m
  induction m with
  | zero => exact fun j h1 h2 => absurd h2 (by omega)
  | succ m ih =>
    intro i h1 h2
    have hx1 := ix_le hw hk
    have hE : i < rows → G mX6_down (rmL 0) R (mD μ w (cdM X k c w b (i + 1))) 238 [some (.ref 33), some (.int (nI rows)), some (.int (nI cols)), some (.int (nI w)), some (.int (nI k)), some (.long b), none, some (.int (nI c)), none, some (.long (X k c)), none, some (.int (nI i)), none, none, none] [] := by
      intro hi
      refine g_iincN [some (.ref 33), some (.int (nI rows)), some (.int (nI cols)), some (.int (nI w)), some (.int (nI k)), some (.long b), none, some (.int (nI c)), none, some (.long (X k c)), none, some (.int (nI (i + 1))), none, none, none] dX6_down_238 rfl (Nat.le_of_ble_eq_true rfl) rfl rfl ?_
      refine g_goto 147 dX6_down_241 (by decide) ?_
      exact ih (i + 1) (by omega) (by omega)
    by_cases hi : i < rows
    · have hx2 := ix_le hw hi
      by_cases hik : i = k
      · refine g_iload _ dX6_down_147 rfl ?_
        refine g_iload_n 1 _ dX6_down_149 rfl rfl ?_
        refine g_icmp_geN 244 (by omega) (by omega) dX6_down_150 (by decide) (fun h150 => ?_) (fun h150 => ?_)
        · exact absurd h150 (by omega)
        · refine g_iload _ dX6_down_153 rfl ?_
          refine g_iload _ dX6_down_155 rfl ?_
          refine g_icmp_neN 163 (by omega) (by omega) dX6_down_157 (by decide) (fun h157 => ?_) (fun h157 => ?_)
          · exact absurd hik h157
          · refine g_goto 238 dX6_down_160 (by decide) ?_
            exact g_mem (by rw [show cdM X k c w b (i + 1) = cdM X k c w b i from (rwM_fil (by unfold cdR; rw [if_pos hik])).symm.trans (rwM_id (by rw [← hik]; exact cdM_i.symm))]) (hE (by omega))
      · refine g_iload _ dX6_down_147 rfl ?_
        refine g_iload_n 1 _ dX6_down_149 rfl rfl ?_
        refine g_icmp_geN 244 (by omega) (by omega) dX6_down_150 (by decide) (fun h150 => ?_) (fun h150 => ?_)
        · exact absurd h150 (by omega)
        · refine g_iload _ dX6_down_153 rfl ?_
          refine g_iload _ dX6_down_155 rfl ?_
          refine g_icmp_neN 163 (by omega) (by omega) dX6_down_157 (by decide) (fun h157 => ?_) (fun h157 => ?_)
          · refine g_aload_n 0 _ dX6_down_163 rfl rfl ?_
            refine gf_X6_46 rfl dX6_down_164 ?_
            refine g_iload_n 3 _ dX6_down_167 rfl rfl ?_
            refine g_iload _ dX6_down_168 rfl ?_
            refine g_imulN dX6_down_170 ?_
            refine g_iload _ dX6_down_171 rfl ?_
            refine g_iaddN dX6_down_173 ?_
            refine g_at 174 rfl ?_
            refine g_laload (j := w * i + c) isL_42 (rfl) (by omega) (by omega) dX6_down_174 ?_
            refine g_top (w := .long (X i c)) (congrArg Value.long (by rw [mD_at hc, cdM_i])) ?_
            refine g_lstore [some (.ref 33), some (.int (nI rows)), some (.int (nI cols)), some (.int (nI w)), some (.int (nI k)), some (.long b), none, some (.int (nI c)), none, some (.long (X k c)), none, some (.int (nI i)), some (.long (X i c)), none, none] dX6_down_175 (Nat.le_of_ble_eq_true rfl) rfl rfl ?_
            refine g_iconst (nI 0) dX6_down_177 rfl ?_
            refine g_istore [some (.ref 33), some (.int (nI rows)), some (.int (nI cols)), some (.int (nI w)), some (.int (nI k)), some (.long b), none, some (.int (nI c)), none, some (.long (X k c)), none, some (.int (nI i)), some (.long (X i c)), none, some (.int (nI 0))] dX6_down_178 (Nat.le_of_ble_eq_true rfl) rfl rfl ?_
            exact g_mem (by rw [fil_0, rwM_id cdM_i.symm]) (d_dnI hw hw15 hr hk hi hik hc hb0 (hE hi) (w + 1) 0 (by omega) (by omega))
          · exact absurd h157 hik
    · refine g_iload _ dX6_down_147 rfl ?_
      refine g_iload_n 1 _ dX6_down_149 rfl rfl ?_
      refine g_icmp_geN 244 (by omega) (by omega) dX6_down_150 (by decide) (fun h150 => ?_) (fun h150 => ?_)
      · exact g_drop 11 _ rfl (by rw [show i = rows by omega]; exact hG)
      · exact absurd h150 hi
/-- one column of down: the pivot's row p to k, the others cleared -/
def stD (X : Mx) (k c w p : Nat) (b : Int64) (rows : Nat) : Mx := cdM (swM X p k w) k c w b rows
/-- down: rank, the last pivot, the cells -/
def dnF (rows w : Nat) : Nat → Nat → Nat → Int64 → Mx → Nat × Int64 × Mx
  | 0, _, k, b, X => (k, b, X)
  | m + 1, c, k, b, X =>
    if k < rows then
      if ldF X c rows (rows + 1) k < rows then dnF rows w m (c + 1) (k + 1) (swM X (ldF X c rows (rows + 1) k) k w k c) (stD X k c w (ldF X c rows (rows + 1) k) b rows)
      else dnF rows w m (c + 1) k b X
    else (k, b, X)
theorem ldF_ne {X : Mx} {c n : Nat} : ∀ (m r : Nat), ldF X c n m r < n → ¬ X (ldF X c n m r) c = 0 := by
  intro m
  induction m with
  | zero => exact fun r h => absurd h (Nat.lt_irrefl n)
  | succ m ih =>
    intro r h
    by_cases h1 : r < n
    · by_cases h2 : X r c = 0
      · have e : ldF X c n (m + 1) r = ldF X c n m (r + 1) := (if_pos h1).trans (if_pos h2)
        rw [e] at h ⊢
        exact ih (r + 1) h
      · have e : ldF X c n (m + 1) r = r := (if_pos h1).trans (if_neg h2)
        rw [e]
        exact h2
    · have e : ldF X c n (m + 1) r = n := if_neg h1
      rw [e] at h
      exact absurd h (Nat.lt_irrefl n)
theorem swM_kc {X : Mx} {p k w c : Nat} (h : c < w) : swM X p k w k c = X p c := by
  unfold swM
  by_cases e : k = p
  · rw [if_pos e, fil_in h, e]
  · rw [if_neg e, if_pos rfl, fil_in h]
theorem d_down_l {μ : Mm} {rows cols w : Nat} (hw : w * rows ≤ 210) (hw15 : w ≤ 15) (hr : rows ≤ 14) (hcw : cols ≤ w) : ∀ (m c k : Nat) (b : Int64) (X : Mx), c + m = cols → k ≤ rows → ¬ b = 0 → G mX6_down (rmL 0) (some (.int (nI (dnF rows w m c k b X).1)), sL (mD μ w (dnF rows w m c k b X).2.2) 33 20 (dnF rows w m c k b X).2.1) (mD μ w X) 9 [some (.ref 33), some (.int (nI rows)), some (.int (nI cols)), some (.int (nI w)), some (.int (nI k)), some (.long b), none, some (.int (nI c)), none, none, none, none, none, none, none] [] := by
  intro m
  induction m with
  | zero =>
    intro c k b X h1 h2 h3
    refine g_iload _ dX6_down_9 rfl ?_
    refine g_iload_n 2 _ dX6_down_11 rfl rfl ?_
    refine g_icmp_geN 257 (by omega) (by omega) dX6_down_12 (by decide) (fun h12 => ?_) (fun h12 => ?_)
    · refine g_aload_n 0 _ dX6_down_257 rfl rfl ?_
      refine g_lload _ dX6_down_258 rfl ?_
      refine gp_X6_133 rfl dX6_down_260 ?_
      refine g_iload _ dX6_down_263 rfl ?_
      exact g_ireturn dX6_down_265 rfl rfl rfl
    · exact absurd h12 (by omega)
  | succ m ih =>
    intro c k b X h1 h2 h3
    by_cases hk : k < rows
    · have hx1 := ix_le hw hk
      by_cases hp : ldF X c rows (rows + 1) k < rows
      · have e : dnF rows w (m + 1) c k b X = dnF rows w m (c + 1) (k + 1) (swM X (ldF X c rows (rows + 1) k) k w k c) (stD X k c w (ldF X c rows (rows + 1) k) b rows) := (if_pos hk).trans (if_pos hp)
        have hne := ldF_ne (X := X) (c := c) (n := rows) (rows + 1) k hp
        rw [e]
        generalize hpp : ldF X c rows (rows + 1) k = p at *
        have hE0 := ih (c + 1) (k + 1) (swM X p k w k c) (stD X k c w p b rows) (by omega) (by omega) (by rw [swM_kc (by omega)]; exact hne)
        generalize (some (Value.int (nI (dnF rows w m (c + 1) (k + 1) (swM X p k w k c) (stD X k c w p b rows)).1)), sL (mD μ w (dnF rows w m (c + 1) (k + 1) (swM X p k w k c) (stD X k c w p b rows)).2.2) 33 20 (dnF rows w m (c + 1) (k + 1) (swM X p k w k c) (stD X k c w p b rows)).2.1) = RR at *
        have hE1 : G mX6_down (rmL 0) RR (mD μ w (cdM (swM X p k w) k c w b rows)) 244 [some (.ref 33), some (.int (nI rows)), some (.int (nI cols)), some (.int (nI w)), some (.int (nI k)), some (.long b), none, some (.int (nI c)), none, some (.long (swM X p k w k c)), none, none, none, none, none] [] := by
          refine g_lload _ dX6_down_244 rfl ?_
          refine g_lstore [some (.ref 33), some (.int (nI rows)), some (.int (nI cols)), some (.int (nI w)), some (.int (nI k)), some (.long (swM X p k w k c)), none, some (.int (nI c)), none, some (.long (swM X p k w k c)), none, none, none, none, none] dX6_down_246 (Nat.le_of_ble_eq_true rfl) rfl rfl ?_
          refine g_iincN [some (.ref 33), some (.int (nI rows)), some (.int (nI cols)), some (.int (nI w)), some (.int (nI (k + 1))), some (.long (swM X p k w k c)), none, some (.int (nI c)), none, some (.long (swM X p k w k c)), none, none, none, none, none] dX6_down_248 rfl (Nat.le_of_ble_eq_true rfl) rfl rfl ?_
          refine g_iincN [some (.ref 33), some (.int (nI rows)), some (.int (nI cols)), some (.int (nI w)), some (.int (nI (k + 1))), some (.long (swM X p k w k c)), none, some (.int (nI (c + 1))), none, some (.long (swM X p k w k c)), none, none, none, none, none] dX6_down_251 rfl (Nat.le_of_ble_eq_true rfl) rfl rfl ?_
          refine g_goto 9 dX6_down_254 (by decide) ?_
          exact g_drop 9 _ rfl hE0
        have hE2 : G mX6_down (rmL 0) RR (mD μ w (swM X p k w)) 130 [some (.ref 33), some (.int (nI rows)), some (.int (nI cols)), some (.int (nI w)), some (.int (nI k)), some (.long b), none, some (.int (nI c)), some (.int (nI p)), none, none, none, none, none, none] [] := by
          refine g_drop 8 _ rfl ?_
          refine g_aload_n 0 _ dX6_down_130 rfl rfl ?_
          refine gf_X6_46 rfl dX6_down_131 ?_
          refine g_iload_n 3 _ dX6_down_134 rfl rfl ?_
          refine g_iload _ dX6_down_135 rfl ?_
          refine g_imulN dX6_down_137 ?_
          refine g_iload _ dX6_down_138 rfl ?_
          refine g_iaddN dX6_down_140 ?_
          refine g_at 141 rfl ?_
          refine g_laload (j := w * k + c) isL_42 (rfl) (by omega) (by omega) dX6_down_141 ?_
          refine g_top (w := .long (swM X p k w k c)) (congrArg Value.long (mD_at (by omega))) ?_
          refine g_lstore [some (.ref 33), some (.int (nI rows)), some (.int (nI cols)), some (.int (nI w)), some (.int (nI k)), some (.long b), none, some (.int (nI c)), none, some (.long (swM X p k w k c)), none, none, none, none, none] dX6_down_142 (Nat.le_of_ble_eq_true rfl) rfl rfl ?_
          refine g_iconst (nI 0) dX6_down_144 rfl ?_
          refine g_istore [some (.ref 33), some (.int (nI rows)), some (.int (nI cols)), some (.int (nI w)), some (.int (nI k)), some (.long b), none, some (.int (nI c)), none, some (.long (swM X p k w k c)), none, some (.int (nI 0)), none, none, none] dX6_down_145 (Nat.le_of_ble_eq_true rfl) rfl rfl ?_
          exact g_mem (by unfold cdM; rw [fil_0]) (d_dnO hw hw15 hr hk (by omega) h3 hE1 (rows + 1) 0 (by omega) (by omega))
        have hE3 : G mX6_down (rmL 0) RR (mD μ w X) 54 [some (.ref 33), some (.int (nI rows)), some (.int (nI cols)), some (.int (nI w)), some (.int (nI k)), some (.long b), none, some (.int (nI c)), some (.int (nI p)), none, none, none, none, none, none] [] := by
          refine g_iload _ dX6_down_54 rfl ?_
          refine g_iload_n 1 _ dX6_down_56 rfl rfl ?_
          refine g_icmp_neN 63 (by omega) (by omega) dX6_down_57 (by decide) (fun h57 => ?_) (fun h57 => ?_)
          · refine g_iconst (nI 0) dX6_down_63 rfl ?_
            refine g_istore [some (.ref 33), some (.int (nI rows)), some (.int (nI cols)), some (.int (nI w)), some (.int (nI k)), some (.long b), none, some (.int (nI c)), some (.int (nI p)), some (.int (nI 0)), none, none, none, none, none] dX6_down_64 (Nat.le_of_ble_eq_true rfl) rfl rfl ?_
            exact g_mem (by rw [swM_0]) (d_dnS hw hw15 hr hk hp hE2 (w + 1) 0 _ (by omega) (by omega))
          · exact absurd h57 (by omega)
        refine g_iload _ dX6_down_9 rfl ?_
        refine g_iload_n 2 _ dX6_down_11 rfl rfl ?_
        refine g_icmp_geN 257 (by omega) (by omega) dX6_down_12 (by decide) (fun h12 => ?_) (fun h12 => ?_)
        · exact absurd h12 (by omega)
        · refine g_iload _ dX6_down_15 rfl ?_
          refine g_iload_n 1 _ dX6_down_17 rfl rfl ?_
          refine g_icmp_geN 257 (by omega) (by omega) dX6_down_18 (by decide) (fun h18 => ?_) (fun h18 => ?_)
          · exact absurd h18 (by omega)
          · refine g_iload _ dX6_down_21 rfl ?_
            refine g_istore [some (.ref 33), some (.int (nI rows)), some (.int (nI cols)), some (.int (nI w)), some (.int (nI k)), some (.long b), none, some (.int (nI c)), some (.int (nI k)), none, none, none, none, none, none] dX6_down_23 (Nat.le_of_ble_eq_true rfl) rfl rfl ?_
            exact d_dnP hw hr (by omega) (rows + 1) k (Nat.le_refl k) (by omega) (by omega) (by rw [hpp]; exact hE3)
      · have e : dnF rows w (m + 1) c k b X = dnF rows w m (c + 1) k b X := (if_pos hk).trans (if_neg hp)
        have hle := (ldF_lo (X := X) (c := c) (n := rows) (rows + 1) k).1
        rw [e]
        generalize hpp : ldF X c rows (rows + 1) k = p at *
        have hE0 := ih (c + 1) k b X (by omega) (by omega) h3
        generalize (some (Value.int (nI (dnF rows w m (c + 1) k b X).1)), sL (mD μ w (dnF rows w m (c + 1) k b X).2.2) 33 20 (dnF rows w m (c + 1) k b X).2.1) = RR at *
        have hE3 : G mX6_down (rmL 0) RR (mD μ w X) 54 [some (.ref 33), some (.int (nI rows)), some (.int (nI cols)), some (.int (nI w)), some (.int (nI k)), some (.long b), none, some (.int (nI c)), some (.int (nI p)), none, none, none, none, none, none] [] := by
          refine g_iload _ dX6_down_54 rfl ?_
          refine g_iload_n 1 _ dX6_down_56 rfl rfl ?_
          refine g_icmp_neN 63 (by omega) (by omega) dX6_down_57 (by decide) (fun h57 => ?_) (fun h57 => ?_)
          · exact absurd h57 (by omega)
          · refine g_goto 251 dX6_down_60 (by decide) ?_
            refine g_iincN [some (.ref 33), some (.int (nI rows)), some (.int (nI cols)), some (.int (nI w)), some (.int (nI k)), some (.long b), none, some (.int (nI (c + 1))), some (.int (nI p)), none, none, none, none, none, none] dX6_down_251 rfl (Nat.le_of_ble_eq_true rfl) rfl rfl ?_
            refine g_goto 9 dX6_down_254 (by decide) ?_
            exact g_drop 8 _ rfl hE0
        refine g_iload _ dX6_down_9 rfl ?_
        refine g_iload_n 2 _ dX6_down_11 rfl rfl ?_
        refine g_icmp_geN 257 (by omega) (by omega) dX6_down_12 (by decide) (fun h12 => ?_) (fun h12 => ?_)
        · exact absurd h12 (by omega)
        · refine g_iload _ dX6_down_15 rfl ?_
          refine g_iload_n 1 _ dX6_down_17 rfl rfl ?_
          refine g_icmp_geN 257 (by omega) (by omega) dX6_down_18 (by decide) (fun h18 => ?_) (fun h18 => ?_)
          · exact absurd h18 (by omega)
          · refine g_iload _ dX6_down_21 rfl ?_
            refine g_istore [some (.ref 33), some (.int (nI rows)), some (.int (nI cols)), some (.int (nI w)), some (.int (nI k)), some (.long b), none, some (.int (nI c)), some (.int (nI k)), none, none, none, none, none, none] dX6_down_23 (Nat.le_of_ble_eq_true rfl) rfl rfl ?_
            exact d_dnP hw hr (by omega) (rows + 1) k (Nat.le_refl k) (by omega) (by omega) (by rw [hpp]; exact hE3)
    · have e : dnF rows w (m + 1) c k b X = (k, b, X) := if_neg hk
      rw [e]
      refine g_iload _ dX6_down_9 rfl ?_
      refine g_iload_n 2 _ dX6_down_11 rfl rfl ?_
      refine g_icmp_geN 257 (by omega) (by omega) dX6_down_12 (by decide) (fun h12 => ?_) (fun h12 => ?_)
      · exact absurd h12 (by omega)
      · refine g_iload _ dX6_down_15 rfl ?_
        refine g_iload_n 1 _ dX6_down_17 rfl rfl ?_
        refine g_icmp_geN 257 (by omega) (by omega) dX6_down_18 (by decide) (fun h18 => ?_) (fun h18 => ?_)
        · refine g_aload_n 0 _ dX6_down_257 rfl rfl ?_
          refine g_lload _ dX6_down_258 rfl ?_
          refine gp_X6_133 rfl dX6_down_260 ?_
          refine g_iload _ dX6_down_263 rfl ?_
          exact g_ireturn dX6_down_265 rfl rfl rfl
        · exact absurd h18 hk
theorem d_down (μ : Mm) (X : Mx) {rows cols w : Nat} (hw : w * rows ≤ 210) (hw15 : w ≤ 15) (hr : rows ≤ 14) (hcw : cols ≤ w) : Ok mX6_down (rmL 0) [.ref 33, .int (nI rows), .int (nI cols), .int (nI w)] (mD μ w X) (some (.int (nI (dnF rows w cols 0 0 1 X).1)), sL (mD μ w (dnF rows w cols 0 0 1 X).2.2) 33 20 (dnF rows w cols 0 0 1 X).2.1) := by
  refine Ok.of (by decide) (Nat.le_of_ble_eq_true rfl) [some (.ref 33), some (.int (nI rows)), some (.int (nI cols)), some (.int (nI w)), none, none, none, none, none, none, none, none, none, none, none] rfl ?_
  refine g_iconst (nI 0) dX6_down_0 rfl ?_
  refine g_istore [some (.ref 33), some (.int (nI rows)), some (.int (nI cols)), some (.int (nI w)), some (.int (nI 0)), none, none, none, none, none, none, none, none, none, none] dX6_down_1 (Nat.le_of_ble_eq_true rfl) rfl rfl ?_
  refine g_lconst 1 dX6_down_3 rfl ?_
  refine g_lstore [some (.ref 33), some (.int (nI rows)), some (.int (nI cols)), some (.int (nI w)), some (.int (nI 0)), some (.long 1), none, none, none, none, none, none, none, none, none] dX6_down_4 (Nat.le_of_ble_eq_true rfl) rfl rfl ?_
  refine g_iconst (nI 0) dX6_down_6 rfl ?_
  refine g_istore [some (.ref 33), some (.int (nI rows)), some (.int (nI cols)), some (.int (nI w)), some (.int (nI 0)), some (.long 1), none, some (.int (nI 0)), none, none, none, none, none, none, none] dX6_down_7 (Nat.le_of_ble_eq_true rfl) rfl rfl ?_
  exact d_down_l hw hw15 hr hcw cols 0 0 1 X (by omega) (by omega) (by decide)
