/-! Finder.openWindows -/
theorem upd_fr {z κ : Nat} {a a'' : Nat → Int32} {x : Int32} (hk : κ < 5) (h : Fr5 z (upd a (z + κ) x) a'') : Fr5 z a a'' := fun j hj => by
  rw [h j hj]; unfold upd; rw [if_neg (by omega)]
theorem upd_fr0 {z κ : Nat} {a : Nat → Int32} {x : Int32} (hk : κ < 5) : Fr5 z a (upd a (z + κ) x) := fun j hj => by
  unfold upd; rw [if_neg (by omega)]
theorem c_open_v {μ : Mm} {g : Nat → Int32} {t c z n : Nat} {va vb : Value} (F1 F2 : Nat → Int32) (hn : μ.1 1 2 = nI n) (h60 : n ≤ 60) (hc : c ≤ 1000) (hz : z + 5 ≤ 300) (hF1 : ∀ s, s < n → -1 ≤ (F1 s).toInt ∧ (F1 s).toInt ≤ 1) (hF2 : ∀ s, s < n → -1 ≤ (F2 s).toInt ∧ (F2 s).toInt ≤ 1) (hrd : ∀ s, s < n → μ.1 9 s ≠ nI 1073741824 → -500000000 ≤ (μ.1 9 s).toInt ∧ (μ.1 9 s).toInt ≤ 500000000) {i : Nat} {a b : Nat → Int32} {κ : Nat} {kI vI : Int32} (hi : i < n) (hm : μ.1 9 i ≠ nI 1073741824) (hW : Win F1 F2 (μ.1 9) c z a b i) (hkI : kI.toInt = kd (F1 i) (F2 i)) (hκ : (kd (F1 i) (F2 i)).natAbs = κ) (hκ5 : κ < 5) (hvI : vI.toInt = vl (F1 i) (F2 i) (μ.1 9 i))
    (IH : ∀ a b, Win F1 F2 (μ.1 9) c z a b (i + 1) → ∃ a'' b'', G mX2_openWindows (rmL 2) (none, mF μ a'' b'' g t) (mF μ a b g t) 54 [some (.ref 4), some (.ref 1), some (va), some (vb), some (.int (nI c)), some (.int (nI z)), some (.int (nI (i + 1))), none, none, none, none, none, none] [] ∧ WinE F1 F2 (μ.1 9) c n z a'' b'' ∧ Fr5 z a a'' ∧ Fr5 z b b'') :
    ∃ a'' b'', G mX2_openWindows (rmL 2) (none, mF μ a'' b'' g t) (mF μ a b g t) 140 [some (.ref 4), some (.ref 1), some (va), some (vb), some (.int (nI c)), some (.int (nI z)), some (.int (nI i)), some (.int (μ.1 9 i)), some (.int (F1 i)), some (.int (F2 i)), some (.int kI), none, none] [.int vI] ∧ WinE F1 F2 (μ.1 9) c n z a'' b'' ∧ Fr5 z a a'' ∧ Fr5 z b b'' := by
  have hr := hrd i hi hm
  have hvb : -600000000 ≤ vl (F1 i) (F2 i) (μ.1 9 i) ∧ vl (F1 i) (F2 i) (μ.1 9 i) ≤ 600000000 := by
    unfold vl; split <;> omega
  have hci : (nI c).toInt = c := nI_toInt (by omega)
  have hs1 : (vI - nI c).toInt = vl (F1 i) (F2 i) (μ.1 9 i) - c := by rw [fb_subI, hvI, hci] <;> rw [hvI, hci] <;> omega
  have hs2 : (vI + nI c).toInt = vl (F1 i) (F2 i) (μ.1 9 i) + c := by rw [fb_addI, hvI, hci] <;> rw [hvI, hci] <;> omega
  generalize hX : (if a (z + κ) < vI - nI c then vI - nI c else a (z + κ)) = X
  generalize hY : (if vI + nI c < b (z + κ) then vI + nI c else b (z + κ)) = Y
  have hXi : X.toInt = max (a (z + κ)).toInt (vl (F1 i) (F2 i) (μ.1 9 i) - c) := by rw [← hX, max_I, hs1]
  have hYi : Y.toInt = min (b (z + κ)).toInt (vl (F1 i) (F2 i) (μ.1 9 i) + c) := by rw [← hY, min_I, hs2]
  have hW2 := Win_add hW hm hκ hκ5 hXi hYi hvb hc
  obtain ⟨a'', b'', hG, hE, fa, fb⟩ := IH _ _ hW2
  have hab : (if 0 ≤ kI then kI else 0 - kI) = nI κ := abs_N (by rw [hkI]; exact hκ) hκ5
  have m1 : sI (mF μ a b g t) 29 (z + κ) X = mF μ (upd a (z + κ) X) b g t := mF_29 _ _ _ _ _ _ _
  have m2 : sI (mF μ (upd a (z + κ) X) b g t) 30 (z + κ) Y = mF μ (upd a (z + κ) X) (upd b (z + κ) Y) g t := mF_30 _ _ _ _ _ _ _
  by_cases hst : kI = 0 ∧ ¬ ((upd a (z + κ) X) z ≤ nI 0 ∧ nI 0 ≤ (upd b (z + κ) Y) z)
  · refine ⟨upd a (z + κ) X, upd b (z + κ) Y, ?_, Or.inr ⟨?_, hst.2⟩, upd_fr0 hκ5, upd_fr0 hκ5⟩
    · refine g_istore [some (.ref 4), some (.ref 1), some (va), some (vb), some (.int (nI c)), some (.int (nI z)), some (.int (nI i)), some (.int (μ.1 9 i)), some (.int (F1 i)), some (.int (F2 i)), some (.int kI), some (.int vI), none] dX2_openWindows_140 (Nat.le_of_ble_eq_true rfl) rfl rfl ?_
      refine g_iload _ dX2_openWindows_142 rfl ?_
      refine g_iload _ dX2_openWindows_144 rfl ?_
      refine g_mabs rfl tz_520 (Nat.le_of_ble_eq_true rfl) (Nat.le_of_ble_eq_true rfl) dX2_openWindows_146 ?_
      refine g_top (w := .int (nI κ)) (congrArg Value.int hab) ?_
      refine g_iaddN dX2_openWindows_149 ?_
      refine g_istore [some (.ref 4), some (.ref 1), some (va), some (vb), some (.int (nI c)), some (.int (nI z)), some (.int (nI i)), some (.int (μ.1 9 i)), some (.int (F1 i)), some (.int (F2 i)), some (.int kI), some (.int vI), some (.int (nI (z + κ)))] dX2_openWindows_150 (Nat.le_of_ble_eq_true rfl) rfl rfl ?_
      refine g_aload_n 0 _ dX2_openWindows_152 rfl rfl ?_
      refine g_at 153 rfl ?_
      refine gf_X2_11 rfl dX2_openWindows_153 ?_
      refine g_iload _ dX2_openWindows_156 rfl ?_
      refine g_aload_n 0 _ dX2_openWindows_158 rfl rfl ?_
      refine gf_X2_11 rfl dX2_openWindows_159 ?_
      refine g_iload _ dX2_openWindows_162 rfl ?_
      refine g_iaload (j := z + κ) isI_29 (rfl) (by omega) (by omega) dX2_openWindows_164 ?_
      refine g_top (w := .int (a (z + κ))) (congrArg Value.int rfl) ?_
      refine g_iload _ dX2_openWindows_165 rfl ?_
      refine g_iload _ dX2_openWindows_167 rfl ?_
      refine g_at 169 rfl ?_
      refine g_isub dX2_openWindows_169 ?_
      refine g_mmax rfl tz_523 (Nat.le_of_ble_eq_true rfl) (Nat.le_of_ble_eq_true rfl) dX2_openWindows_170 ?_
      refine g_top (w := .int X) (congrArg Value.int hX) ?_
      refine g_iastore (j := z + κ) isI_29 (rfl) (by omega) (by omega) dX2_openWindows_173 ?_
      refine g_mem (μ' := mF μ (upd a (z + κ) X) b g t) m1 ?_
      refine g_aload_n 0 _ dX2_openWindows_174 rfl rfl ?_
      refine gf_X2_15 rfl dX2_openWindows_175 ?_
      refine g_iload _ dX2_openWindows_178 rfl ?_
      refine g_aload_n 0 _ dX2_openWindows_180 rfl rfl ?_
      refine gf_X2_15 rfl dX2_openWindows_181 ?_
      refine g_at 184 rfl ?_
      refine g_iload _ dX2_openWindows_184 rfl ?_
      refine g_iaload (j := z + κ) isI_30 (rfl) (by omega) (by omega) dX2_openWindows_186 ?_
      refine g_top (w := .int (b (z + κ))) (congrArg Value.int rfl) ?_
      refine g_iload _ dX2_openWindows_187 rfl ?_
      refine g_iload _ dX2_openWindows_189 rfl ?_
      refine g_iadd dX2_openWindows_191 ?_
      refine g_mmin rfl tz_526 (Nat.le_of_ble_eq_true rfl) (Nat.le_of_ble_eq_true rfl) dX2_openWindows_192 ?_
      refine g_top (w := .int Y) (congrArg Value.int hY) ?_
      refine g_iastore (j := z + κ) isI_30 (rfl) (by omega) (by omega) dX2_openWindows_195 ?_
      refine g_mem (μ' := mF μ (upd a (z + κ) X) (upd b (z + κ) Y) g t) m2 ?_
      refine g_iload _ dX2_openWindows_196 rfl ?_
      refine g_at 198 rfl ?_
      refine g_if_ne 212 dX2_openWindows_198 (by decide) (fun h198 => ?_) (fun h198 => ?_)
      · exact absurd hst.1 h198
      · refine g_aload_n 0 _ dX2_openWindows_201 rfl rfl ?_
        refine g_iload _ dX2_openWindows_202 rfl ?_
        refine g_iconst (nI 0) dX2_openWindows_204 rfl ?_
        refine g_backi (g_runV (c_holds (mF μ (upd a (z + κ) X) (upd b (z + κ) Y) g t) (nI 0) (show z < 300 by omega)) rfl mw_X2_holds mi_X2_holds ml_X2_29 isO_4 ⟨rfl, rfl, Nat.le_of_ble_eq_true rfl, Nat.le_of_ble_eq_true rfl⟩ rfl rfl (Nat.le_of_ble_eq_true rfl) dX2_openWindows_205) ?_
        refine g_top (w := .int (bI ((upd a (z + κ) X) z ≤ nI 0 ∧ nI 0 ≤ (upd b (z + κ) Y) z))) rfl ?_
        refine g_if_neB 212 dX2_openWindows_208 (by decide) (fun h208 => ?_) (fun h208 => ?_)
        · exact absurd h208 hst.2
        · exact g_return dX2_openWindows_211 rfl rfl
    · have hq := hW2.2 0 (by decide) 0 (by decide) (by decide)
      have hn9 : ¬ ∀ s, s < i + 1 → μ.1 9 s ≠ nI 1073741824 → (kd (F1 s) (F2 s)).natAbs = 0 → vl (F1 s) (F2 s) (μ.1 9 s) - c ≤ 0 ∧ 0 ≤ vl (F1 s) (F2 s) (μ.1 9 s) + c := fun q => hst.2 (by
        have := hq.mpr q
        rw [Nat.add_zero] at this
        rw [fa_le, fa_le, nt0]
        exact this)
      obtain ⟨s, hs⟩ := Classical.not_forall.mp hn9
      obtain ⟨h1, hs⟩ := Classical.not_imp.mp hs
      obtain ⟨h2, hs⟩ := Classical.not_imp.mp hs
      obtain ⟨h3, hs⟩ := Classical.not_imp.mp hs
      refine ⟨s, by omega, h2, by omega, fun q => hs ?_⟩
      unfold vl
      rw [if_neg (by omega)]
      omega
  · refine ⟨a'', b'', ?_, hE, upd_fr hκ5 fa, upd_fr hκ5 fb⟩
    refine g_istore [some (.ref 4), some (.ref 1), some (va), some (vb), some (.int (nI c)), some (.int (nI z)), some (.int (nI i)), some (.int (μ.1 9 i)), some (.int (F1 i)), some (.int (F2 i)), some (.int kI), some (.int vI), none] dX2_openWindows_140 (Nat.le_of_ble_eq_true rfl) rfl rfl ?_
    refine g_iload _ dX2_openWindows_142 rfl ?_
    refine g_iload _ dX2_openWindows_144 rfl ?_
    refine g_mabs rfl tz_520 (Nat.le_of_ble_eq_true rfl) (Nat.le_of_ble_eq_true rfl) dX2_openWindows_146 ?_
    refine g_top (w := .int (nI κ)) (congrArg Value.int hab) ?_
    refine g_iaddN dX2_openWindows_149 ?_
    refine g_istore [some (.ref 4), some (.ref 1), some (va), some (vb), some (.int (nI c)), some (.int (nI z)), some (.int (nI i)), some (.int (μ.1 9 i)), some (.int (F1 i)), some (.int (F2 i)), some (.int kI), some (.int vI), some (.int (nI (z + κ)))] dX2_openWindows_150 (Nat.le_of_ble_eq_true rfl) rfl rfl ?_
    refine g_aload_n 0 _ dX2_openWindows_152 rfl rfl ?_
    refine g_at 153 rfl ?_
    refine gf_X2_11 rfl dX2_openWindows_153 ?_
    refine g_iload _ dX2_openWindows_156 rfl ?_
    refine g_aload_n 0 _ dX2_openWindows_158 rfl rfl ?_
    refine gf_X2_11 rfl dX2_openWindows_159 ?_
    refine g_iload _ dX2_openWindows_162 rfl ?_
    refine g_iaload (j := z + κ) isI_29 (rfl) (by omega) (by omega) dX2_openWindows_164 ?_
    refine g_top (w := .int (a (z + κ))) (congrArg Value.int rfl) ?_
    refine g_iload _ dX2_openWindows_165 rfl ?_
    refine g_iload _ dX2_openWindows_167 rfl ?_
    refine g_at 169 rfl ?_
    refine g_isub dX2_openWindows_169 ?_
    refine g_mmax rfl tz_523 (Nat.le_of_ble_eq_true rfl) (Nat.le_of_ble_eq_true rfl) dX2_openWindows_170 ?_
    refine g_top (w := .int X) (congrArg Value.int hX) ?_
    refine g_iastore (j := z + κ) isI_29 (rfl) (by omega) (by omega) dX2_openWindows_173 ?_
    refine g_mem (μ' := mF μ (upd a (z + κ) X) b g t) m1 ?_
    refine g_aload_n 0 _ dX2_openWindows_174 rfl rfl ?_
    refine gf_X2_15 rfl dX2_openWindows_175 ?_
    refine g_iload _ dX2_openWindows_178 rfl ?_
    refine g_aload_n 0 _ dX2_openWindows_180 rfl rfl ?_
    refine gf_X2_15 rfl dX2_openWindows_181 ?_
    refine g_at 184 rfl ?_
    refine g_iload _ dX2_openWindows_184 rfl ?_
    refine g_iaload (j := z + κ) isI_30 (rfl) (by omega) (by omega) dX2_openWindows_186 ?_
    refine g_top (w := .int (b (z + κ))) (congrArg Value.int rfl) ?_
    refine g_iload _ dX2_openWindows_187 rfl ?_
    refine g_iload _ dX2_openWindows_189 rfl ?_
    refine g_iadd dX2_openWindows_191 ?_
    refine g_mmin rfl tz_526 (Nat.le_of_ble_eq_true rfl) (Nat.le_of_ble_eq_true rfl) dX2_openWindows_192 ?_
    refine g_top (w := .int Y) (congrArg Value.int hY) ?_
    refine g_iastore (j := z + κ) isI_30 (rfl) (by omega) (by omega) dX2_openWindows_195 ?_
    refine g_mem (μ' := mF μ (upd a (z + κ) X) (upd b (z + κ) Y) g t) m2 ?_
    refine g_iload _ dX2_openWindows_196 rfl ?_
    refine g_at 198 rfl ?_
    refine g_if_ne 212 dX2_openWindows_198 (by decide) (fun h198 => ?_) (fun h198 => ?_)
    · refine g_iincN [some (.ref 4), some (.ref 1), some (va), some (vb), some (.int (nI c)), some (.int (nI z)), some (.int (nI (i + 1))), some (.int (μ.1 9 i)), some (.int (F1 i)), some (.int (F2 i)), some (.int kI), some (.int vI), some (.int (nI (z + κ)))] dX2_openWindows_212 rfl (Nat.le_of_ble_eq_true rfl) rfl rfl ?_
      refine g_goto 54 dX2_openWindows_215 (by decide) ?_
      exact g_drop 7 _ rfl (g_drop 8 _ rfl (g_drop 9 _ rfl (g_drop 10 _ rfl (g_drop 11 _ rfl (g_drop 12 _ rfl hG)))))
    · refine g_aload_n 0 _ dX2_openWindows_201 rfl rfl ?_
      refine g_iload _ dX2_openWindows_202 rfl ?_
      refine g_iconst (nI 0) dX2_openWindows_204 rfl ?_
      refine g_backi (g_runV (c_holds (mF μ (upd a (z + κ) X) (upd b (z + κ) Y) g t) (nI 0) (show z < 300 by omega)) rfl mw_X2_holds mi_X2_holds ml_X2_29 isO_4 ⟨rfl, rfl, Nat.le_of_ble_eq_true rfl, Nat.le_of_ble_eq_true rfl⟩ rfl rfl (Nat.le_of_ble_eq_true rfl) dX2_openWindows_205) ?_
      refine g_top (w := .int (bI ((upd a (z + κ) X) z ≤ nI 0 ∧ nI 0 ≤ (upd b (z + κ) Y) z))) rfl ?_
      refine g_if_neB 212 dX2_openWindows_208 (by decide) (fun h208 => ?_) (fun h208 => ?_)
      · refine g_iincN [some (.ref 4), some (.ref 1), some (va), some (vb), some (.int (nI c)), some (.int (nI z)), some (.int (nI (i + 1))), some (.int (μ.1 9 i)), some (.int (F1 i)), some (.int (F2 i)), some (.int kI), some (.int vI), some (.int (nI (z + κ)))] dX2_openWindows_212 rfl (Nat.le_of_ble_eq_true rfl) rfl rfl ?_
        refine g_goto 54 dX2_openWindows_215 (by decide) ?_
        exact g_drop 7 _ rfl (g_drop 8 _ rfl (g_drop 9 _ rfl (g_drop 10 _ rfl (g_drop 11 _ rfl (g_drop 12 _ rfl hG)))))
      · exact absurd ⟨h198, h208⟩ hst
theorem c_open_k {μ : Mm} {g : Nat → Int32} {t c z n : Nat} {va vb : Value} (F1 F2 : Nat → Int32) (hn : μ.1 1 2 = nI n) (h60 : n ≤ 60) (hc : c ≤ 1000) (hz : z + 5 ≤ 300) (hF1 : ∀ s, s < n → -1 ≤ (F1 s).toInt ∧ (F1 s).toInt ≤ 1) (hF2 : ∀ s, s < n → -1 ≤ (F2 s).toInt ∧ (F2 s).toInt ≤ 1) (hrd : ∀ s, s < n → μ.1 9 s ≠ nI 1073741824 → -500000000 ≤ (μ.1 9 s).toInt ∧ (μ.1 9 s).toInt ≤ 500000000) {i : Nat} {a b : Nat → Int32} (hi : i < n) (hm : μ.1 9 i ≠ nI 1073741824) (hW : Win F1 F2 (μ.1 9) c z a b i)
    (IH : ∀ a b, Win F1 F2 (μ.1 9) c z a b (i + 1) → ∃ a'' b'', G mX2_openWindows (rmL 2) (none, mF μ a'' b'' g t) (mF μ a b g t) 54 [some (.ref 4), some (.ref 1), some (va), some (vb), some (.int (nI c)), some (.int (nI z)), some (.int (nI (i + 1))), none, none, none, none, none, none] [] ∧ WinE F1 F2 (μ.1 9) c n z a'' b'' ∧ Fr5 z a a'' ∧ Fr5 z b b'') :
    ∃ a'' b'', G mX2_openWindows (rmL 2) (none, mF μ a'' b'' g t) (mF μ a b g t) 118 [some (.ref 4), some (.ref 1), some (va), some (vb), some (.int (nI c)), some (.int (nI z)), some (.int (nI i)), some (.int (μ.1 9 i)), some (.int (F1 i)), some (.int (F2 i)), none, none, none] [] ∧ WinE F1 F2 (μ.1 9) c n z a'' b'' ∧ Fr5 z a a'' ∧ Fr5 z b b'' := by
  have hk := kd_toInt (hF1 i hi) (hF2 i hi)
  have b1 := hF1 i hi
  have b2 := hF2 i hi
  have hr := hrd i hi hm
  obtain ⟨κ, hκ⟩ : ∃ κ, (kd (F1 i) (F2 i)).natAbs = κ := ⟨_, rfl⟩
  have hκ5 : κ < 5 := by unfold kd at hκ; omega
  by_cases hneg : kd (F1 i) (F2 i) < 0
  · have hv : (-μ.1 9 i).toInt = vl (F1 i) (F2 i) (μ.1 9 i) := by
      unfold vl; rw [if_pos hneg, fb_negI (by omega)]
    obtain ⟨a'', b'', hG, hrest⟩ := c_open_v (va := va) (vb := vb) (g := g) (t := t) F1 F2 hn h60 hc hz hF1 hF2 hrd hi hm hW hk hκ hκ5 hv IH
    refine ⟨a'', b'', ?_, hrest⟩
    refine g_iconst (nI 3) dX2_openWindows_118 rfl ?_
    refine g_iload _ dX2_openWindows_119 rfl ?_
    refine g_imul dX2_openWindows_121 ?_
    refine g_iload _ dX2_openWindows_122 rfl ?_
    refine g_iadd dX2_openWindows_124 ?_
    refine g_istore [some (.ref 4), some (.ref 1), some (va), some (vb), some (.int (nI c)), some (.int (nI z)), some (.int (nI i)), some (.int (μ.1 9 i)), some (.int (F1 i)), some (.int (F2 i)), some (.int (((nI 3) * (F1 i)) + (F2 i))), none, none] dX2_openWindows_125 (Nat.le_of_ble_eq_true rfl) rfl rfl ?_
    refine g_iload _ dX2_openWindows_127 rfl ?_
    refine g_at 129 rfl ?_
    refine g_if_ge 138 dX2_openWindows_129 (by decide) (fun h129 => ?_) (fun h129 => ?_)
    · rw [fa_le, t0, hk] at h129; omega
    · refine g_iload _ dX2_openWindows_132 rfl ?_
      refine g_ineg dX2_openWindows_134 ?_
      refine g_goto 140 dX2_openWindows_135 (by decide) ?_
      exact hG
  · have hv : (μ.1 9 i).toInt = vl (F1 i) (F2 i) (μ.1 9 i) := by
      unfold vl; rw [if_neg hneg]
    obtain ⟨a'', b'', hG, hrest⟩ := c_open_v (va := va) (vb := vb) (g := g) (t := t) F1 F2 hn h60 hc hz hF1 hF2 hrd hi hm hW hk hκ hκ5 hv IH
    refine ⟨a'', b'', ?_, hrest⟩
    refine g_iconst (nI 3) dX2_openWindows_118 rfl ?_
    refine g_iload _ dX2_openWindows_119 rfl ?_
    refine g_imul dX2_openWindows_121 ?_
    refine g_iload _ dX2_openWindows_122 rfl ?_
    refine g_iadd dX2_openWindows_124 ?_
    refine g_istore [some (.ref 4), some (.ref 1), some (va), some (vb), some (.int (nI c)), some (.int (nI z)), some (.int (nI i)), some (.int (μ.1 9 i)), some (.int (F1 i)), some (.int (F2 i)), some (.int (((nI 3) * (F1 i)) + (F2 i))), none, none] dX2_openWindows_125 (Nat.le_of_ble_eq_true rfl) rfl rfl ?_
    refine g_iload _ dX2_openWindows_127 rfl ?_
    refine g_at 129 rfl ?_
    refine g_if_ge 138 dX2_openWindows_129 (by decide) (fun h129 => ?_) (fun h129 => ?_)
    · refine g_iload _ dX2_openWindows_138 rfl ?_
      exact hG
    · rw [fa_le, t0, hk] at h129; omega
theorem nI_nm1 {a : Nat} (h : a < 2 ^ 31) : nI a ≠ -1 := by rw [ne_eq, fa_eq, nI_toInt h, tm1]; omega
theorem c_open0_l {μ : Mm} {g : Nat → Int32} {t c n : Nat} (hn : μ.1 1 2 = nI n) (h60 : n ≤ 60) (hc : c ≤ 1000) (hmk : ∀ s, s < n → -1 ≤ (μ.1 7 s).toInt ∧ (μ.1 7 s).toInt ≤ 1) (hrd : ∀ s, s < n → μ.1 9 s ≠ nI 1073741824 → -500000000 ≤ (μ.1 9 s).toInt ∧ (μ.1 9 s).toInt ≤ 500000000)  : ∀ (m i : Nat) (a b : Nat → Int32), i ≤ n → n < i + m → Win (fun _ => (0 : Int32)) (fun _ => (0 : Int32)) (μ.1 9) c (0) a b i → ∃ a'' b'', G mX2_openWindows (rmL 2) (none, mF μ a'' b'' g t) (mF μ a b g t) 54 [some (.ref 4), some (.ref 1), some (.int (-1)), some (.int (-1)), some (.int (nI c)), some (.int (nI (0))), some (.int (nI i)), none, none, none, none, none, none] [] ∧ WinE (fun _ => (0 : Int32)) (fun _ => (0 : Int32)) (μ.1 9) c n (0) a'' b'' ∧ Fr5 (0) a a'' ∧ Fr5 (0) b b'' := by
  intro m
  induction m with
  | zero => exact fun i a b h1 h2 => absurd h2 (by omega)
  | succ m ih =>
    intro i a b h1 h2 hW
    by_cases hin : i < n
    · by_cases hm : μ.1 9 i = nI 1073741824
      · obtain ⟨a'', b'', hG, hrest⟩ := ih (i + 1) a b (by omega) (by omega) (Win_skip hW hm)
        refine ⟨a'', b'', ?_, hrest⟩
        refine g_iload _ dX2_openWindows_54 rfl ?_
        refine g_aload_n 1 _ dX2_openWindows_56 rfl rfl ?_
        refine gf_X2_37 rfl dX2_openWindows_57 ?_
        refine g_top (w := .int (nI n)) (congrArg Value.int hn) ?_
        refine g_icmp_geN 218 (by omega) (by omega) dX2_openWindows_60 (by decide) (fun hb60 => ?_) (fun hb60 => ?_)
        · exact absurd hb60 (by omega)
        · refine g_aload_n 1 _ dX2_openWindows_63 rfl rfl ?_
          refine g_iconst (nI 2) dX2_openWindows_64 rfl ?_
          refine g_iload _ dX2_openWindows_65 rfl ?_
          refine g_backi (g_runVN (c_get (mF μ a b g t) (w := 2) (j := i) (by decide) (by omega)) rfl mw_X1_get mi_X1_get mn_X2_52 isO_1 ⟨rfl, rfl, Nat.le_of_ble_eq_true rfl, Nat.le_of_ble_eq_true rfl⟩ rfl rfl (Nat.le_of_ble_eq_true rfl) dX2_openWindows_67) ?_
          refine g_top (w := .int (μ.1 9 i)) rfl ?_
          refine g_istore [some (.ref 4), some (.ref 1), some (.int (-1)), some (.int (-1)), some (.int (nI c)), some (.int (nI 0)), some (.int (nI i)), some (.int (μ.1 9 i)), none, none, none, none, none] dX2_openWindows_70 (Nat.le_of_ble_eq_true rfl) rfl rfl ?_
          refine g_iload _ dX2_openWindows_72 rfl ?_
          refine g_ldc _ rfl kc_X2_56 dX2_openWindows_74 ?_
          refine g_top (w := .int (nI 1073741824)) rfl ?_
          refine g_at 76 rfl ?_
          refine g_icmp_ne 82 dX2_openWindows_76 (by decide) (fun h76 => ?_) (fun h76 => ?_)
          · exact absurd hm h76
          · refine g_goto 212 dX2_openWindows_79 (by decide) ?_
            refine g_iincN [some (.ref 4), some (.ref 1), some (.int (-1)), some (.int (-1)), some (.int (nI c)), some (.int (nI 0)), some (.int (nI (i + 1))), some (.int (μ.1 9 i)), none, none, none, none, none] dX2_openWindows_212 rfl (Nat.le_of_ble_eq_true rfl) rfl rfl ?_
            refine g_goto 54 dX2_openWindows_215 (by decide) ?_
            exact g_drop 7 _ rfl hG
      · obtain ⟨a'', b'', hG, hrest⟩ := c_open_k (μ := μ) (va := .int (-1)) (vb := .int (-1)) (g := g) (t := t) (z := 0) (fun _ => (0 : Int32)) (fun _ => (0 : Int32)) hn h60 hc (by omega) (fun _ _ => ⟨by decide, by decide⟩) (fun _ _ => ⟨by decide, by decide⟩) hrd hin hm hW (fun a b hW => ih (i + 1) a b (by omega) (by omega) hW)
        refine ⟨a'', b'', ?_, hrest⟩
        refine g_iload _ dX2_openWindows_54 rfl ?_
        refine g_aload_n 1 _ dX2_openWindows_56 rfl rfl ?_
        refine gf_X2_37 rfl dX2_openWindows_57 ?_
        refine g_top (w := .int (nI n)) (congrArg Value.int hn) ?_
        refine g_icmp_geN 218 (by omega) (by omega) dX2_openWindows_60 (by decide) (fun hb60 => ?_) (fun hb60 => ?_)
        · exact absurd hb60 (by omega)
        · refine g_aload_n 1 _ dX2_openWindows_63 rfl rfl ?_
          refine g_iconst (nI 2) dX2_openWindows_64 rfl ?_
          refine g_iload _ dX2_openWindows_65 rfl ?_
          refine g_backi (g_runVN (c_get (mF μ a b g t) (w := 2) (j := i) (by decide) (by omega)) rfl mw_X1_get mi_X1_get mn_X2_52 isO_1 ⟨rfl, rfl, Nat.le_of_ble_eq_true rfl, Nat.le_of_ble_eq_true rfl⟩ rfl rfl (Nat.le_of_ble_eq_true rfl) dX2_openWindows_67) ?_
          refine g_top (w := .int (μ.1 9 i)) rfl ?_
          refine g_istore [some (.ref 4), some (.ref 1), some (.int (-1)), some (.int (-1)), some (.int (nI c)), some (.int (nI 0)), some (.int (nI i)), some (.int (μ.1 9 i)), none, none, none, none, none] dX2_openWindows_70 (Nat.le_of_ble_eq_true rfl) rfl rfl ?_
          refine g_iload _ dX2_openWindows_72 rfl ?_
          refine g_ldc _ rfl kc_X2_56 dX2_openWindows_74 ?_
          refine g_top (w := .int (nI 1073741824)) rfl ?_
          refine g_at 76 rfl ?_
          refine g_icmp_ne 82 dX2_openWindows_76 (by decide) (fun h76 => ?_) (fun h76 => ?_)
          · refine g_iload_n 2 _ dX2_openWindows_82 rfl rfl ?_
            refine g_iconst (-1) dX2_openWindows_83 rfl ?_
            refine g_icmp_ne 91 dX2_openWindows_84 (by decide) (fun h84 => ?_) (fun h84 => ?_)
            · exact absurd rfl h84
            · refine g_iconst (nI 0) dX2_openWindows_87 rfl ?_
              refine g_goto 98 dX2_openWindows_88 (by decide) ?_
              refine g_istore [some (.ref 4), some (.ref 1), some (.int (-1)), some (.int (-1)), some (.int (nI c)), some (.int (nI 0)), some (.int (nI i)), some (.int (μ.1 9 i)), some (.int (nI 0)), none, none, none, none] dX2_openWindows_98 (Nat.le_of_ble_eq_true rfl) rfl rfl ?_
              refine g_iload_n 3 _ dX2_openWindows_100 rfl rfl ?_
              refine g_iconst (-1) dX2_openWindows_101 rfl ?_
              refine g_icmp_ne 109 dX2_openWindows_102 (by decide) (fun h102 => ?_) (fun h102 => ?_)
              · exact absurd rfl h102
              · refine g_iconst (nI 0) dX2_openWindows_105 rfl ?_
                refine g_goto 116 dX2_openWindows_106 (by decide) ?_
                refine g_istore [some (.ref 4), some (.ref 1), some (.int (-1)), some (.int (-1)), some (.int (nI c)), some (.int (nI 0)), some (.int (nI i)), some (.int (μ.1 9 i)), some (.int (nI 0)), some (.int (nI 0)), none, none, none] dX2_openWindows_116 (Nat.le_of_ble_eq_true rfl) rfl rfl ?_
                exact hG
          · exact absurd h76 hm
    · refine ⟨a, b, ?_, Or.inl (by rw [show i = n by omega] at hW; exact hW), fun _ _ => rfl, fun _ _ => rfl⟩
      refine g_iload _ dX2_openWindows_54 rfl ?_
      refine g_aload_n 1 _ dX2_openWindows_56 rfl rfl ?_
      refine gf_X2_37 rfl dX2_openWindows_57 ?_
      refine g_top (w := .int (nI n)) (congrArg Value.int hn) ?_
      refine g_icmp_geN 218 (by omega) (by omega) dX2_openWindows_60 (by decide) (fun h60 => ?_) (fun h60 => ?_)
      · exact g_return dX2_openWindows_218 rfl rfl
      · exact absurd h60 (by omega)
theorem c_open1_l {μ : Mm} {g : Nat → Int32} {t c n : Nat} (hn : μ.1 1 2 = nI n) (h60 : n ≤ 60) (hc : c ≤ 1000) (hmk : ∀ s, s < n → -1 ≤ (μ.1 7 s).toInt ∧ (μ.1 7 s).toInt ≤ 1) (hrd : ∀ s, s < n → μ.1 9 s ≠ nI 1073741824 → -500000000 ≤ (μ.1 9 s).toInt ∧ (μ.1 9 s).toInt ≤ 500000000) {p : Nat} (hp : p < n) : ∀ (m i : Nat) (a b : Nat → Int32), i ≤ n → n < i + m → Win (fun s => μ.1 7 ((p + n - s) % n)) (fun _ => (0 : Int32)) (μ.1 9) c (0) a b i → ∃ a'' b'', G mX2_openWindows (rmL 2) (none, mF μ a'' b'' g t) (mF μ a b g t) 54 [some (.ref 4), some (.ref 1), some (.int (nI p)), some (.int (-1)), some (.int (nI c)), some (.int (nI (0))), some (.int (nI i)), none, none, none, none, none, none] [] ∧ WinE (fun s => μ.1 7 ((p + n - s) % n)) (fun _ => (0 : Int32)) (μ.1 9) c n (0) a'' b'' ∧ Fr5 (0) a a'' ∧ Fr5 (0) b b'' := by
  intro m
  induction m with
  | zero => exact fun i a b h1 h2 => absurd h2 (by omega)
  | succ m ih =>
    intro i a b h1 h2 hW
    by_cases hin : i < n
    · by_cases hm : μ.1 9 i = nI 1073741824
      · obtain ⟨a'', b'', hG, hrest⟩ := ih (i + 1) a b (by omega) (by omega) (Win_skip hW hm)
        refine ⟨a'', b'', ?_, hrest⟩
        refine g_iload _ dX2_openWindows_54 rfl ?_
        refine g_aload_n 1 _ dX2_openWindows_56 rfl rfl ?_
        refine gf_X2_37 rfl dX2_openWindows_57 ?_
        refine g_top (w := .int (nI n)) (congrArg Value.int hn) ?_
        refine g_icmp_geN 218 (by omega) (by omega) dX2_openWindows_60 (by decide) (fun hb60 => ?_) (fun hb60 => ?_)
        · exact absurd hb60 (by omega)
        · refine g_aload_n 1 _ dX2_openWindows_63 rfl rfl ?_
          refine g_iconst (nI 2) dX2_openWindows_64 rfl ?_
          refine g_iload _ dX2_openWindows_65 rfl ?_
          refine g_backi (g_runVN (c_get (mF μ a b g t) (w := 2) (j := i) (by decide) (by omega)) rfl mw_X1_get mi_X1_get mn_X2_52 isO_1 ⟨rfl, rfl, Nat.le_of_ble_eq_true rfl, Nat.le_of_ble_eq_true rfl⟩ rfl rfl (Nat.le_of_ble_eq_true rfl) dX2_openWindows_67) ?_
          refine g_top (w := .int (μ.1 9 i)) rfl ?_
          refine g_istore [some (.ref 4), some (.ref 1), some (.int (nI p)), some (.int (-1)), some (.int (nI c)), some (.int (nI 0)), some (.int (nI i)), some (.int (μ.1 9 i)), none, none, none, none, none] dX2_openWindows_70 (Nat.le_of_ble_eq_true rfl) rfl rfl ?_
          refine g_iload _ dX2_openWindows_72 rfl ?_
          refine g_ldc _ rfl kc_X2_56 dX2_openWindows_74 ?_
          refine g_top (w := .int (nI 1073741824)) rfl ?_
          refine g_at 76 rfl ?_
          refine g_icmp_ne 82 dX2_openWindows_76 (by decide) (fun h76 => ?_) (fun h76 => ?_)
          · exact absurd hm h76
          · refine g_goto 212 dX2_openWindows_79 (by decide) ?_
            refine g_iincN [some (.ref 4), some (.ref 1), some (.int (nI p)), some (.int (-1)), some (.int (nI c)), some (.int (nI 0)), some (.int (nI (i + 1))), some (.int (μ.1 9 i)), none, none, none, none, none] dX2_openWindows_212 rfl (Nat.le_of_ble_eq_true rfl) rfl rfl ?_
            refine g_goto 54 dX2_openWindows_215 (by decide) ?_
            exact g_drop 7 _ rfl hG
      · obtain ⟨a'', b'', hG, hrest⟩ := c_open_k (μ := μ) (va := .int (nI p)) (vb := .int (-1)) (g := g) (t := t) (z := 0) (fun s => μ.1 7 ((p + n - s) % n)) (fun _ => (0 : Int32)) hn h60 hc (by omega) (fun s hs => hmk _ (Nat.mod_lt _ (by omega))) (fun _ _ => ⟨by decide, by decide⟩) hrd hin hm hW (fun a b hW => ih (i + 1) a b (by omega) (by omega) hW)
        refine ⟨a'', b'', ?_, hrest⟩
        refine g_iload _ dX2_openWindows_54 rfl ?_
        refine g_aload_n 1 _ dX2_openWindows_56 rfl rfl ?_
        refine gf_X2_37 rfl dX2_openWindows_57 ?_
        refine g_top (w := .int (nI n)) (congrArg Value.int hn) ?_
        refine g_icmp_geN 218 (by omega) (by omega) dX2_openWindows_60 (by decide) (fun hb60 => ?_) (fun hb60 => ?_)
        · exact absurd hb60 (by omega)
        · refine g_aload_n 1 _ dX2_openWindows_63 rfl rfl ?_
          refine g_iconst (nI 2) dX2_openWindows_64 rfl ?_
          refine g_iload _ dX2_openWindows_65 rfl ?_
          refine g_backi (g_runVN (c_get (mF μ a b g t) (w := 2) (j := i) (by decide) (by omega)) rfl mw_X1_get mi_X1_get mn_X2_52 isO_1 ⟨rfl, rfl, Nat.le_of_ble_eq_true rfl, Nat.le_of_ble_eq_true rfl⟩ rfl rfl (Nat.le_of_ble_eq_true rfl) dX2_openWindows_67) ?_
          refine g_top (w := .int (μ.1 9 i)) rfl ?_
          refine g_istore [some (.ref 4), some (.ref 1), some (.int (nI p)), some (.int (-1)), some (.int (nI c)), some (.int (nI 0)), some (.int (nI i)), some (.int (μ.1 9 i)), none, none, none, none, none] dX2_openWindows_70 (Nat.le_of_ble_eq_true rfl) rfl rfl ?_
          refine g_iload _ dX2_openWindows_72 rfl ?_
          refine g_ldc _ rfl kc_X2_56 dX2_openWindows_74 ?_
          refine g_top (w := .int (nI 1073741824)) rfl ?_
          refine g_at 76 rfl ?_
          refine g_icmp_ne 82 dX2_openWindows_76 (by decide) (fun h76 => ?_) (fun h76 => ?_)
          · refine g_iload_n 2 _ dX2_openWindows_82 rfl rfl ?_
            refine g_iconst (-1) dX2_openWindows_83 rfl ?_
            refine g_icmp_ne 91 dX2_openWindows_84 (by decide) (fun h84 => ?_) (fun h84 => ?_)
            · refine g_aload_n 1 _ dX2_openWindows_91 rfl rfl ?_
              refine g_iload_n 2 _ dX2_openWindows_92 rfl rfl ?_
              refine g_iload _ dX2_openWindows_93 rfl ?_
              refine g_backi (g_runVN (c_share (mF μ a b g t) (a := p) (s := i) (n := n) hn h60 hp hin) rfl mw_X1_share mi_X1_share mn_X2_57 isO_1 ⟨rfl, rfl, Nat.le_of_ble_eq_true rfl, Nat.le_of_ble_eq_true rfl⟩ rfl rfl (Nat.le_of_ble_eq_true rfl) dX2_openWindows_95) ?_
              refine g_top (w := .int (μ.1 7 ((p + n - i) % n))) rfl ?_
              refine g_istore [some (.ref 4), some (.ref 1), some (.int (nI p)), some (.int (-1)), some (.int (nI c)), some (.int (nI 0)), some (.int (nI i)), some (.int (μ.1 9 i)), some (.int (μ.1 7 ((p + n - i) % n))), none, none, none, none] dX2_openWindows_98 (Nat.le_of_ble_eq_true rfl) rfl rfl ?_
              refine g_iload_n 3 _ dX2_openWindows_100 rfl rfl ?_
              refine g_iconst (-1) dX2_openWindows_101 rfl ?_
              refine g_at 102 rfl ?_
              refine g_icmp_ne 109 dX2_openWindows_102 (by decide) (fun h102 => ?_) (fun h102 => ?_)
              · exact absurd rfl h102
              · refine g_iconst (nI 0) dX2_openWindows_105 rfl ?_
                refine g_goto 116 dX2_openWindows_106 (by decide) ?_
                refine g_istore [some (.ref 4), some (.ref 1), some (.int (nI p)), some (.int (-1)), some (.int (nI c)), some (.int (nI 0)), some (.int (nI i)), some (.int (μ.1 9 i)), some (.int (μ.1 7 ((p + n - i) % n))), some (.int (nI 0)), none, none, none] dX2_openWindows_116 (Nat.le_of_ble_eq_true rfl) rfl rfl ?_
                exact hG
            · exact absurd h84 (nI_nm1 (by omega))
          · exact absurd h76 hm
    · refine ⟨a, b, ?_, Or.inl (by rw [show i = n by omega] at hW; exact hW), fun _ _ => rfl, fun _ _ => rfl⟩
      refine g_iload _ dX2_openWindows_54 rfl ?_
      refine g_aload_n 1 _ dX2_openWindows_56 rfl rfl ?_
      refine gf_X2_37 rfl dX2_openWindows_57 ?_
      refine g_top (w := .int (nI n)) (congrArg Value.int hn) ?_
      refine g_icmp_geN 218 (by omega) (by omega) dX2_openWindows_60 (by decide) (fun h60 => ?_) (fun h60 => ?_)
      · exact g_return dX2_openWindows_218 rfl rfl
      · exact absurd h60 (by omega)
theorem c_open2_l {μ : Mm} {g : Nat → Int32} {t c n : Nat} (hn : μ.1 1 2 = nI n) (h60 : n ≤ 60) (hc : c ≤ 1000) (hmk : ∀ s, s < n → -1 ≤ (μ.1 7 s).toInt ∧ (μ.1 7 s).toInt ≤ 1) (hrd : ∀ s, s < n → μ.1 9 s ≠ nI 1073741824 → -500000000 ≤ (μ.1 9 s).toInt ∧ (μ.1 9 s).toInt ≤ 500000000) {p q : Nat} (hp : p < n) (hq : q < n) : ∀ (m i : Nat) (a b : Nat → Int32), i ≤ n → n < i + m → Win (fun s => μ.1 7 ((p + n - s) % n)) (fun s => μ.1 7 ((q + n - s) % n)) (μ.1 9) c (q * 5) a b i → ∃ a'' b'', G mX2_openWindows (rmL 2) (none, mF μ a'' b'' g t) (mF μ a b g t) 54 [some (.ref 4), some (.ref 1), some (.int (nI p)), some (.int (nI q)), some (.int (nI c)), some (.int (nI (q * 5))), some (.int (nI i)), none, none, none, none, none, none] [] ∧ WinE (fun s => μ.1 7 ((p + n - s) % n)) (fun s => μ.1 7 ((q + n - s) % n)) (μ.1 9) c n (q * 5) a'' b'' ∧ Fr5 (q * 5) a a'' ∧ Fr5 (q * 5) b b'' := by
  intro m
  induction m with
  | zero => exact fun i a b h1 h2 => absurd h2 (by omega)
  | succ m ih =>
    intro i a b h1 h2 hW
    by_cases hin : i < n
    · by_cases hm : μ.1 9 i = nI 1073741824
      · obtain ⟨a'', b'', hG, hrest⟩ := ih (i + 1) a b (by omega) (by omega) (Win_skip hW hm)
        refine ⟨a'', b'', ?_, hrest⟩
        refine g_iload _ dX2_openWindows_54 rfl ?_
        refine g_aload_n 1 _ dX2_openWindows_56 rfl rfl ?_
        refine gf_X2_37 rfl dX2_openWindows_57 ?_
        refine g_top (w := .int (nI n)) (congrArg Value.int hn) ?_
        refine g_icmp_geN 218 (by omega) (by omega) dX2_openWindows_60 (by decide) (fun hb60 => ?_) (fun hb60 => ?_)
        · exact absurd hb60 (by omega)
        · refine g_aload_n 1 _ dX2_openWindows_63 rfl rfl ?_
          refine g_iconst (nI 2) dX2_openWindows_64 rfl ?_
          refine g_iload _ dX2_openWindows_65 rfl ?_
          refine g_backi (g_runVN (c_get (mF μ a b g t) (w := 2) (j := i) (by decide) (by omega)) rfl mw_X1_get mi_X1_get mn_X2_52 isO_1 ⟨rfl, rfl, Nat.le_of_ble_eq_true rfl, Nat.le_of_ble_eq_true rfl⟩ rfl rfl (Nat.le_of_ble_eq_true rfl) dX2_openWindows_67) ?_
          refine g_top (w := .int (μ.1 9 i)) rfl ?_
          refine g_istore [some (.ref 4), some (.ref 1), some (.int (nI p)), some (.int (nI q)), some (.int (nI c)), some (.int (nI (q * 5))), some (.int (nI i)), some (.int (μ.1 9 i)), none, none, none, none, none] dX2_openWindows_70 (Nat.le_of_ble_eq_true rfl) rfl rfl ?_
          refine g_iload _ dX2_openWindows_72 rfl ?_
          refine g_ldc _ rfl kc_X2_56 dX2_openWindows_74 ?_
          refine g_top (w := .int (nI 1073741824)) rfl ?_
          refine g_at 76 rfl ?_
          refine g_icmp_ne 82 dX2_openWindows_76 (by decide) (fun h76 => ?_) (fun h76 => ?_)
          · exact absurd hm h76
          · refine g_goto 212 dX2_openWindows_79 (by decide) ?_
            refine g_iincN [some (.ref 4), some (.ref 1), some (.int (nI p)), some (.int (nI q)), some (.int (nI c)), some (.int (nI (q * 5))), some (.int (nI (i + 1))), some (.int (μ.1 9 i)), none, none, none, none, none] dX2_openWindows_212 rfl (Nat.le_of_ble_eq_true rfl) rfl rfl ?_
            refine g_goto 54 dX2_openWindows_215 (by decide) ?_
            exact g_drop 7 _ rfl hG
      · obtain ⟨a'', b'', hG, hrest⟩ := c_open_k (μ := μ) (va := .int (nI p)) (vb := .int (nI q)) (g := g) (t := t) (z := q * 5) (fun s => μ.1 7 ((p + n - s) % n)) (fun s => μ.1 7 ((q + n - s) % n)) hn h60 hc (by omega) (fun s hs => hmk _ (Nat.mod_lt _ (by omega))) (fun s hs => hmk _ (Nat.mod_lt _ (by omega))) hrd hin hm hW (fun a b hW => ih (i + 1) a b (by omega) (by omega) hW)
        refine ⟨a'', b'', ?_, hrest⟩
        refine g_iload _ dX2_openWindows_54 rfl ?_
        refine g_aload_n 1 _ dX2_openWindows_56 rfl rfl ?_
        refine gf_X2_37 rfl dX2_openWindows_57 ?_
        refine g_top (w := .int (nI n)) (congrArg Value.int hn) ?_
        refine g_icmp_geN 218 (by omega) (by omega) dX2_openWindows_60 (by decide) (fun hb60 => ?_) (fun hb60 => ?_)
        · exact absurd hb60 (by omega)
        · refine g_aload_n 1 _ dX2_openWindows_63 rfl rfl ?_
          refine g_iconst (nI 2) dX2_openWindows_64 rfl ?_
          refine g_iload _ dX2_openWindows_65 rfl ?_
          refine g_backi (g_runVN (c_get (mF μ a b g t) (w := 2) (j := i) (by decide) (by omega)) rfl mw_X1_get mi_X1_get mn_X2_52 isO_1 ⟨rfl, rfl, Nat.le_of_ble_eq_true rfl, Nat.le_of_ble_eq_true rfl⟩ rfl rfl (Nat.le_of_ble_eq_true rfl) dX2_openWindows_67) ?_
          refine g_top (w := .int (μ.1 9 i)) rfl ?_
          refine g_istore [some (.ref 4), some (.ref 1), some (.int (nI p)), some (.int (nI q)), some (.int (nI c)), some (.int (nI (q * 5))), some (.int (nI i)), some (.int (μ.1 9 i)), none, none, none, none, none] dX2_openWindows_70 (Nat.le_of_ble_eq_true rfl) rfl rfl ?_
          refine g_iload _ dX2_openWindows_72 rfl ?_
          refine g_ldc _ rfl kc_X2_56 dX2_openWindows_74 ?_
          refine g_top (w := .int (nI 1073741824)) rfl ?_
          refine g_at 76 rfl ?_
          refine g_icmp_ne 82 dX2_openWindows_76 (by decide) (fun h76 => ?_) (fun h76 => ?_)
          · refine g_iload_n 2 _ dX2_openWindows_82 rfl rfl ?_
            refine g_iconst (-1) dX2_openWindows_83 rfl ?_
            refine g_icmp_ne 91 dX2_openWindows_84 (by decide) (fun h84 => ?_) (fun h84 => ?_)
            · refine g_aload_n 1 _ dX2_openWindows_91 rfl rfl ?_
              refine g_iload_n 2 _ dX2_openWindows_92 rfl rfl ?_
              refine g_iload _ dX2_openWindows_93 rfl ?_
              refine g_backi (g_runVN (c_share (mF μ a b g t) (a := p) (s := i) (n := n) hn h60 hp hin) rfl mw_X1_share mi_X1_share mn_X2_57 isO_1 ⟨rfl, rfl, Nat.le_of_ble_eq_true rfl, Nat.le_of_ble_eq_true rfl⟩ rfl rfl (Nat.le_of_ble_eq_true rfl) dX2_openWindows_95) ?_
              refine g_top (w := .int (μ.1 7 ((p + n - i) % n))) rfl ?_
              refine g_istore [some (.ref 4), some (.ref 1), some (.int (nI p)), some (.int (nI q)), some (.int (nI c)), some (.int (nI (q * 5))), some (.int (nI i)), some (.int (μ.1 9 i)), some (.int (μ.1 7 ((p + n - i) % n))), none, none, none, none] dX2_openWindows_98 (Nat.le_of_ble_eq_true rfl) rfl rfl ?_
              refine g_iload_n 3 _ dX2_openWindows_100 rfl rfl ?_
              refine g_iconst (-1) dX2_openWindows_101 rfl ?_
              refine g_at 102 rfl ?_
              refine g_icmp_ne 109 dX2_openWindows_102 (by decide) (fun h102 => ?_) (fun h102 => ?_)
              · refine g_aload_n 1 _ dX2_openWindows_109 rfl rfl ?_
                refine g_iload_n 3 _ dX2_openWindows_110 rfl rfl ?_
                refine g_iload _ dX2_openWindows_111 rfl ?_
                refine g_backi (g_runVN (c_share (mF μ a b g t) (a := q) (s := i) (n := n) hn h60 hq hin) rfl mw_X1_share mi_X1_share mn_X2_57 isO_1 ⟨rfl, rfl, Nat.le_of_ble_eq_true rfl, Nat.le_of_ble_eq_true rfl⟩ rfl rfl (Nat.le_of_ble_eq_true rfl) dX2_openWindows_113) ?_
                refine g_top (w := .int (μ.1 7 ((q + n - i) % n))) rfl ?_
                refine g_istore [some (.ref 4), some (.ref 1), some (.int (nI p)), some (.int (nI q)), some (.int (nI c)), some (.int (nI (q * 5))), some (.int (nI i)), some (.int (μ.1 9 i)), some (.int (μ.1 7 ((p + n - i) % n))), some (.int (μ.1 7 ((q + n - i) % n))), none, none, none] dX2_openWindows_116 (Nat.le_of_ble_eq_true rfl) rfl rfl ?_
                exact hG
              · exact absurd h102 (nI_nm1 (by omega))
            · exact absurd h84 (nI_nm1 (by omega))
          · exact absurd h76 hm
    · refine ⟨a, b, ?_, Or.inl (by rw [show i = n by omega] at hW; exact hW), fun _ _ => rfl, fun _ _ => rfl⟩
      refine g_iload _ dX2_openWindows_54 rfl ?_
      refine g_aload_n 1 _ dX2_openWindows_56 rfl rfl ?_
      refine gf_X2_37 rfl dX2_openWindows_57 ?_
      refine g_top (w := .int (nI n)) (congrArg Value.int hn) ?_
      refine g_icmp_geN 218 (by omega) (by omega) dX2_openWindows_60 (by decide) (fun h60 => ?_) (fun h60 => ?_)
      · exact g_return dX2_openWindows_218 rfl rfl
      · exact absurd h60 (by omega)
def wdA (a : Nat → Int32) (z i : Nat) (v : Int32) : Nat → Int32 := fun j => if z ≤ j ∧ j < z + i then v else a j
theorem wdA_0 (a : Nat → Int32) (z : Nat) (v : Int32) : wdA a z 0 v = a := by funext j; unfold wdA; rw [if_neg (by omega)]
theorem wdA_put (a : Nat → Int32) (z i : Nat) (v : Int32) : upd (wdA a z i v) (z + i) v = wdA a z (i + 1) v := by
  funext j
  unfold upd wdA
  by_cases h : j = z + i
  · rw [if_pos h, if_pos (by omega)]
  · rw [if_neg h]
    by_cases h2 : z ≤ j ∧ j < z + i
    · rw [if_pos h2, if_pos (by omega)]
    · rw [if_neg h2, if_neg (by omega)]
theorem c_open_i {μ : Mm} {a b g : Nat → Int32} {t c z : Nat} {va vb : Value} {R : Option Value × Mm} (hz : z + 5 ≤ 300) (E : G mX2_openWindows (rmL 2) R (mF μ (wdA a z 5 (-2000000)) (wdA b z 5 (nI 2000000)) g t) 51 [some (.ref 4), some (.ref 1), some va, some vb, some (.int (nI c)), some (.int (nI z)), some (.int (nI (z + 5))), none, none, none, none, none, none] []) : ∀ (m i : Nat), i ≤ 5 → 5 < i + m → G mX2_openWindows (rmL 2) R (mF μ (wdA a z i (-2000000)) (wdA b z i (nI 2000000)) g t) 18 [some (.ref 4), some (.ref 1), some va, some vb, some (.int (nI c)), some (.int (nI z)), some (.int (nI (z + i))), none, none, none, none, none, none] [] := by
  intro m
  induction m with
  | zero => exact fun i h1 h2 => absurd h2 (by omega)
  | succ m ih =>
    intro i h1 h2
    have e1 : sI (mF μ (wdA a z i (-2000000)) (wdA b z i (nI 2000000)) g t) 29 (z + i) (-2000000) = mF μ (wdA a z (i + 1) (-2000000)) (wdA b z i (nI 2000000)) g t := by rw [mF_29, wdA_put]
    have e2 : sI (mF μ (wdA a z (i + 1) (-2000000)) (wdA b z i (nI 2000000)) g t) 30 (z + i) (nI 2000000) = mF μ (wdA a z (i + 1) (-2000000)) (wdA b z (i + 1) (nI 2000000)) g t := by rw [mF_30, wdA_put]
    refine g_iload _ dX2_openWindows_18 rfl ?_
    refine g_iload _ dX2_openWindows_20 rfl ?_
    refine g_iconst (nI 5) dX2_openWindows_22 rfl ?_
    refine g_iaddN dX2_openWindows_23 ?_
    refine g_icmp_geN 51 (by omega) (by omega) dX2_openWindows_24 (by decide) (fun h24 => ?_) (fun h24 => ?_)
    · rw [show i = 5 by omega]; exact E
    · refine g_aload_n 0 _ dX2_openWindows_27 rfl rfl ?_
      refine gf_X2_11 rfl dX2_openWindows_28 ?_
      refine g_iload _ dX2_openWindows_31 rfl ?_
      refine g_ldc _ rfl kc_X2_50 dX2_openWindows_33 ?_
      refine g_iastore (j := z + i) isI_29 (rfl) (by omega) (by omega) dX2_openWindows_35 ?_
      refine g_mem (μ' := mF μ (wdA a z (i + 1) (-2000000)) (wdA b z i (nI 2000000)) g t) e1 ?_
      refine g_aload_n 0 _ dX2_openWindows_36 rfl rfl ?_
      refine gf_X2_15 rfl dX2_openWindows_37 ?_
      refine g_at 40 rfl ?_
      refine g_iload _ dX2_openWindows_40 rfl ?_
      refine g_ldc _ rfl kc_X2_51 dX2_openWindows_42 ?_
      refine g_top (w := .int (nI 2000000)) rfl ?_
      refine g_iastore (j := z + i) isI_30 (rfl) (by omega) (by omega) dX2_openWindows_44 ?_
      refine g_mem (μ' := mF μ (wdA a z (i + 1) (-2000000)) (wdA b z (i + 1) (nI 2000000)) g t) e2 ?_
      refine g_iincN [some (.ref 4), some (.ref 1), some (va), some (vb), some (.int (nI c)), some (.int (nI z)), some (.int (nI (z + i + 1))), none, none, none, none, none, none] dX2_openWindows_45 rfl (Nat.le_of_ble_eq_true rfl) rfl rfl ?_
      refine g_goto 18 dX2_openWindows_48 (by decide) ?_
      exact ih (i + 1) (by omega) (by omega)
theorem c_open0 (μ : Mm) (a b g : Nat → Int32) (t : Nat) {c n : Nat} (hn : μ.1 1 2 = nI n) (h60 : n ≤ 60) (hc : c ≤ 1000) (hmk : ∀ s, s < n → -1 ≤ (μ.1 7 s).toInt ∧ (μ.1 7 s).toInt ≤ 1) (hrd : ∀ s, s < n → μ.1 9 s ≠ nI 1073741824 → -500000000 ≤ (μ.1 9 s).toInt ∧ (μ.1 9 s).toInt ≤ 500000000)  : ∃ a'' b'', Ok mX2_openWindows (rmL 2) [.ref 4, .ref 1, .int (-1), .int (-1), .int (nI c)] (mF μ a b g t) (none, mF μ a'' b'' g t) ∧ WinE (fun _ => (0 : Int32)) (fun _ => (0 : Int32)) (μ.1 9) c n (0) a'' b'' ∧ Fr5 (0) a a'' ∧ Fr5 (0) b b'' := by
  have hW : Win (fun _ => (0 : Int32)) (fun _ => (0 : Int32)) (μ.1 9) c (0) (wdA a (0) 5 (-2000000)) (wdA b (0) 5 (nI 2000000)) 0 := Win_0 (fun k hk => ⟨by unfold wdA; rw [if_pos (by omega)], by unfold wdA; rw [if_pos (by omega)]⟩)
  obtain ⟨a'', b'', hG, hE, fa, fb⟩ := c_open0_l (μ := μ) (g := g) (t := t) hn h60 hc hmk hrd (n + 1) 0 _ _ (by omega) (by omega) hW
  refine ⟨a'', b'', ?_, hE, fun j hj => (fa j hj).trans (by unfold wdA; rw [if_neg (by omega)]), fun j hj => (fb j hj).trans (by unfold wdA; rw [if_neg (by omega)])⟩
  refine Ok.of (by decide) (Nat.le_of_ble_eq_true rfl) [some (.ref 4), some (.ref 1), some (.int (-1)), some (.int (-1)), some (.int (nI c)), none, none, none, none, none, none, none, none] rfl ?_
  have E : G mX2_openWindows (rmL 2) (none, mF μ a'' b'' g t) (mF μ (wdA a (0) 5 (-2000000)) (wdA b (0) 5 (nI 2000000)) g t) 51 [some (.ref 4), some (.ref 1), some (.int (-1)), some (.int (-1)), some (.int (nI c)), some (.int (nI (0))), some (.int (nI (0 + 5))), none, none, none, none, none, none] [] := by
    refine g_iconst (nI 0) dX2_openWindows_51 rfl ?_
    refine g_istore [some (.ref 4), some (.ref 1), some (.int (-1)), some (.int (-1)), some (.int (nI c)), some (.int (nI 0)), some (.int (nI 0)), none, none, none, none, none, none] dX2_openWindows_52 (Nat.le_of_ble_eq_true rfl) rfl rfl ?_
    exact hG
  have h18 := c_open_i (μ := μ) (a := a) (b := b) (g := g) (t := t) (va := .int (-1)) (vb := .int (-1)) (c := c) (z := 0) (by omega) E 6 0 (by omega) (by omega)
  rw [wdA_0, wdA_0] at h18
  refine g_iload_n 3 _ dX2_openWindows_0 rfl rfl ?_
  refine g_iconst (-1) dX2_openWindows_1 rfl ?_
  refine g_icmp_ne 9 dX2_openWindows_2 (by decide) (fun h2 => ?_) (fun h2 => ?_)
  · exact absurd rfl h2
  · refine g_iconst (nI 0) dX2_openWindows_5 rfl ?_
    refine g_goto 12 dX2_openWindows_6 (by decide) ?_
    refine g_istore [some (.ref 4), some (.ref 1), some (.int (-1)), some (.int (-1)), some (.int (nI c)), some (.int (nI 0)), none, none, none, none, none, none, none] dX2_openWindows_12 (Nat.le_of_ble_eq_true rfl) rfl rfl ?_
    refine g_iload _ dX2_openWindows_14 rfl ?_
    refine g_istore [some (.ref 4), some (.ref 1), some (.int (-1)), some (.int (-1)), some (.int (nI c)), some (.int (nI 0)), some (.int (nI 0)), none, none, none, none, none, none] dX2_openWindows_16 (Nat.le_of_ble_eq_true rfl) rfl rfl ?_
    exact h18
theorem c_open1 (μ : Mm) (a b g : Nat → Int32) (t : Nat) {c n : Nat} (hn : μ.1 1 2 = nI n) (h60 : n ≤ 60) (hc : c ≤ 1000) (hmk : ∀ s, s < n → -1 ≤ (μ.1 7 s).toInt ∧ (μ.1 7 s).toInt ≤ 1) (hrd : ∀ s, s < n → μ.1 9 s ≠ nI 1073741824 → -500000000 ≤ (μ.1 9 s).toInt ∧ (μ.1 9 s).toInt ≤ 500000000) {p : Nat} (hp : p < n) : ∃ a'' b'', Ok mX2_openWindows (rmL 2) [.ref 4, .ref 1, .int (nI p), .int (-1), .int (nI c)] (mF μ a b g t) (none, mF μ a'' b'' g t) ∧ WinE (fun s => μ.1 7 ((p + n - s) % n)) (fun _ => (0 : Int32)) (μ.1 9) c n (0) a'' b'' ∧ Fr5 (0) a a'' ∧ Fr5 (0) b b'' := by
  have hW : Win (fun s => μ.1 7 ((p + n - s) % n)) (fun _ => (0 : Int32)) (μ.1 9) c (0) (wdA a (0) 5 (-2000000)) (wdA b (0) 5 (nI 2000000)) 0 := Win_0 (fun k hk => ⟨by unfold wdA; rw [if_pos (by omega)], by unfold wdA; rw [if_pos (by omega)]⟩)
  obtain ⟨a'', b'', hG, hE, fa, fb⟩ := c_open1_l (μ := μ) (g := g) (t := t) hn h60 hc hmk hrd hp (n + 1) 0 _ _ (by omega) (by omega) hW
  refine ⟨a'', b'', ?_, hE, fun j hj => (fa j hj).trans (by unfold wdA; rw [if_neg (by omega)]), fun j hj => (fb j hj).trans (by unfold wdA; rw [if_neg (by omega)])⟩
  refine Ok.of (by decide) (Nat.le_of_ble_eq_true rfl) [some (.ref 4), some (.ref 1), some (.int (nI p)), some (.int (-1)), some (.int (nI c)), none, none, none, none, none, none, none, none] rfl ?_
  have E : G mX2_openWindows (rmL 2) (none, mF μ a'' b'' g t) (mF μ (wdA a (0) 5 (-2000000)) (wdA b (0) 5 (nI 2000000)) g t) 51 [some (.ref 4), some (.ref 1), some (.int (nI p)), some (.int (-1)), some (.int (nI c)), some (.int (nI (0))), some (.int (nI (0 + 5))), none, none, none, none, none, none] [] := by
    refine g_iconst (nI 0) dX2_openWindows_51 rfl ?_
    refine g_istore [some (.ref 4), some (.ref 1), some (.int (nI p)), some (.int (-1)), some (.int (nI c)), some (.int (nI 0)), some (.int (nI 0)), none, none, none, none, none, none] dX2_openWindows_52 (Nat.le_of_ble_eq_true rfl) rfl rfl ?_
    exact hG
  have h18 := c_open_i (μ := μ) (a := a) (b := b) (g := g) (t := t) (va := .int (nI p)) (vb := .int (-1)) (c := c) (z := 0) (by omega) E 6 0 (by omega) (by omega)
  rw [wdA_0, wdA_0] at h18
  refine g_iload_n 3 _ dX2_openWindows_0 rfl rfl ?_
  refine g_iconst (-1) dX2_openWindows_1 rfl ?_
  refine g_icmp_ne 9 dX2_openWindows_2 (by decide) (fun h2 => ?_) (fun h2 => ?_)
  · exact absurd rfl h2
  · refine g_iconst (nI 0) dX2_openWindows_5 rfl ?_
    refine g_goto 12 dX2_openWindows_6 (by decide) ?_
    refine g_istore [some (.ref 4), some (.ref 1), some (.int (nI p)), some (.int (-1)), some (.int (nI c)), some (.int (nI 0)), none, none, none, none, none, none, none] dX2_openWindows_12 (Nat.le_of_ble_eq_true rfl) rfl rfl ?_
    refine g_iload _ dX2_openWindows_14 rfl ?_
    refine g_istore [some (.ref 4), some (.ref 1), some (.int (nI p)), some (.int (-1)), some (.int (nI c)), some (.int (nI 0)), some (.int (nI 0)), none, none, none, none, none, none] dX2_openWindows_16 (Nat.le_of_ble_eq_true rfl) rfl rfl ?_
    exact h18
theorem c_open2 (μ : Mm) (a b g : Nat → Int32) (t : Nat) {c n : Nat} (hn : μ.1 1 2 = nI n) (h60 : n ≤ 60) (hc : c ≤ 1000) (hmk : ∀ s, s < n → -1 ≤ (μ.1 7 s).toInt ∧ (μ.1 7 s).toInt ≤ 1) (hrd : ∀ s, s < n → μ.1 9 s ≠ nI 1073741824 → -500000000 ≤ (μ.1 9 s).toInt ∧ (μ.1 9 s).toInt ≤ 500000000) {p q : Nat} (hp : p < n) (hq : q < n) : ∃ a'' b'', Ok mX2_openWindows (rmL 2) [.ref 4, .ref 1, .int (nI p), .int (nI q), .int (nI c)] (mF μ a b g t) (none, mF μ a'' b'' g t) ∧ WinE (fun s => μ.1 7 ((p + n - s) % n)) (fun s => μ.1 7 ((q + n - s) % n)) (μ.1 9) c n (q * 5) a'' b'' ∧ Fr5 (q * 5) a a'' ∧ Fr5 (q * 5) b b'' := by
  have hW : Win (fun s => μ.1 7 ((p + n - s) % n)) (fun s => μ.1 7 ((q + n - s) % n)) (μ.1 9) c (q * 5) (wdA a (q * 5) 5 (-2000000)) (wdA b (q * 5) 5 (nI 2000000)) 0 := Win_0 (fun k hk => ⟨by unfold wdA; rw [if_pos (by omega)], by unfold wdA; rw [if_pos (by omega)]⟩)
  obtain ⟨a'', b'', hG, hE, fa, fb⟩ := c_open2_l (μ := μ) (g := g) (t := t) hn h60 hc hmk hrd hp hq (n + 1) 0 _ _ (by omega) (by omega) hW
  refine ⟨a'', b'', ?_, hE, fun j hj => (fa j hj).trans (by unfold wdA; rw [if_neg (by omega)]), fun j hj => (fb j hj).trans (by unfold wdA; rw [if_neg (by omega)])⟩
  refine Ok.of (by decide) (Nat.le_of_ble_eq_true rfl) [some (.ref 4), some (.ref 1), some (.int (nI p)), some (.int (nI q)), some (.int (nI c)), none, none, none, none, none, none, none, none] rfl ?_
  have E : G mX2_openWindows (rmL 2) (none, mF μ a'' b'' g t) (mF μ (wdA a (q * 5) 5 (-2000000)) (wdA b (q * 5) 5 (nI 2000000)) g t) 51 [some (.ref 4), some (.ref 1), some (.int (nI p)), some (.int (nI q)), some (.int (nI c)), some (.int (nI (q * 5))), some (.int (nI (q * 5 + 5))), none, none, none, none, none, none] [] := by
    refine g_iconst (nI 0) dX2_openWindows_51 rfl ?_
    refine g_istore [some (.ref 4), some (.ref 1), some (.int (nI p)), some (.int (nI q)), some (.int (nI c)), some (.int (nI (q * 5))), some (.int (nI 0)), none, none, none, none, none, none] dX2_openWindows_52 (Nat.le_of_ble_eq_true rfl) rfl rfl ?_
    exact hG
  have h18 := c_open_i (μ := μ) (a := a) (b := b) (g := g) (t := t) (va := .int (nI p)) (vb := .int (nI q)) (c := c) (z := q * 5) (by omega) E 6 0 (by omega) (by omega)
  rw [wdA_0, wdA_0] at h18
  refine g_iload_n 3 _ dX2_openWindows_0 rfl rfl ?_
  refine g_iconst (-1) dX2_openWindows_1 rfl ?_
  refine g_icmp_ne 9 dX2_openWindows_2 (by decide) (fun h2 => ?_) (fun h2 => ?_)
  · refine g_iload_n 3 _ dX2_openWindows_9 rfl rfl ?_
    refine g_iconst (nI 5) dX2_openWindows_10 rfl ?_
    refine g_imulN dX2_openWindows_11 ?_
    refine g_istore [some (.ref 4), some (.ref 1), some (.int (nI p)), some (.int (nI q)), some (.int (nI c)), some (.int (nI (q * 5))), none, none, none, none, none, none, none] dX2_openWindows_12 (Nat.le_of_ble_eq_true rfl) rfl rfl ?_
    refine g_iload _ dX2_openWindows_14 rfl ?_
    refine g_istore [some (.ref 4), some (.ref 1), some (.int (nI p)), some (.int (nI q)), some (.int (nI c)), some (.int (nI (q * 5))), some (.int (nI (q * 5))), none, none, none, none, none, none] dX2_openWindows_16 (Nat.le_of_ble_eq_true rfl) rfl rfl ?_
    exact h18
  · exact absurd h2 (nI_nm1 (by omega))
