/-! scenes that fit: lists, Told, tellSeconds, searchPairs, search -/
def lpF (f : Nat → List Qd) : Nat → Nat → List Qd
  | _, 0 => []
  | i, m + 1 => f i ++ lpF f (i + 1) m
theorem lpF_congr {f g : Nat → List Qd} : ∀ {m i : Nat}, (∀ j, i ≤ j → j < i + m → f j = g j) → lpF f i m = lpF g i m
  | 0, _, _ => rfl
  | m + 1, i, h => by rw [lpF, lpF, h i (by omega) (by omega), lpF_congr (fun j h1 h2 => h j (by omega) (by omega))]
theorem lpF_len {f : Nat → List Qd} {c : Nat} : ∀ {m i : Nat}, (∀ j, (f j).length ≤ c) → (lpF f i m).length ≤ m * c
  | 0, _, _ => by simp [lpF]
  | m + 1, i, h => by
    rw [lpF, List.length_append, Nat.succ_mul]
    have h1 := h i
    have h2 := lpF_len (m := m) (i := i + 1) h
    omega
theorem lpF_app (f : Nat → List Qd) : ∀ (m k i : Nat), lpF f i (m + k) = lpF f i m ++ lpF f (i + m) k
  | 0, k, i => by rw [Nat.zero_add]; rfl
  | m + 1, k, i => by
    rw [show m + 1 + k = (m + k) + 1 by omega, lpF, lpF, lpF_app f m k (i + 1), List.append_assoc, show i + (m + 1) = i + 1 + m by omega]
theorem lpF_nil {f : Nat → List Qd} : ∀ {m i : Nat}, (∀ j, i ≤ j → j < i + m → f j = []) → lpF f i m = []
  | 0, _, _ => rfl
  | m + 1, i, h => by rw [lpF, h i (by omega) (by omega), lpF_nil (fun j h1 h2 => h j (by omega) (by omega))]; rfl
def q4 (q : Qd) (j : Nat) : Int32 := if j = 0 then q.1 else if j = 1 then q.2.1 else if j = 2 then q.2.2.1 else q.2.2.2
def Told (l : List Qd) (g : Nat → Int32) : Prop := ∀ j, j < 4 * min l.length 200 → g j = q4 (l.getD (j / 4) (0, 0, 0, 0)) (j % 4)
theorem gdA {l k : List Qd} {i : Nat} {d : Qd} (h : i < l.length) : (l ++ k).getD i d = l.getD i d := by
  rw [List.getD_eq_getElem?_getD, List.getD_eq_getElem?_getD, List.getElem?_append_left h]
theorem gdB {l k : List Qd} {i : Nat} {d : Qd} (h : l.length ≤ i) : (l ++ k).getD i d = k.getD (i - l.length) d := by
  rw [List.getD_eq_getElem?_getD, List.getD_eq_getElem?_getD, List.getElem?_append_right h]
theorem Told_nil (g : Nat → Int32) : Told [] g := fun j h => absurd h (by simp)
theorem Told_more {l k : List Qd} {g : Nat → Int32} (h : Told l g) (h2 : 200 ≤ l.length) : Told (l ++ k) g := fun j hj => by
  rw [List.length_append] at hj
  rw [h j (by omega), gdA (by omega)]
theorem Told_tell {l : List Qd} {g : Nat → Int32} (q : Qd) (h : Told l g) : Told (l ++ [q]) (tlF g l.length q) := by
  unfold tlF
  by_cases ht : l.length < 200
  · rw [if_pos ht]
    intro j hj
    rw [List.length_append, List.length_singleton] at hj
    unfold pt4 upd
    by_cases h3 : j = l.length * 4 + 3
    · rw [if_pos h3, gdB (by omega), show j / 4 - l.length = 0 by omega, show j % 4 = 3 by omega]; rfl
    · rw [if_neg h3]
      by_cases h2 : j = l.length * 4 + 2
      · rw [if_pos h2, gdB (by omega), show j / 4 - l.length = 0 by omega, show j % 4 = 2 by omega]; rfl
      · rw [if_neg h2]
        by_cases h1 : j = l.length * 4 + 1
        · rw [if_pos h1, gdB (by omega), show j / 4 - l.length = 0 by omega, show j % 4 = 1 by omega]; rfl
        · rw [if_neg h1]
          by_cases h0 : j = l.length * 4
          · rw [if_pos h0, gdB (by omega), show j / 4 - l.length = 0 by omega, show j % 4 = 0 by omega]; rfl
          · rw [if_neg h0, h j (by omega), gdA (by omega)]
  · rw [if_neg ht]
    exact Told_more h (by omega)
/-- a scene of points fits the readings -/
abbrev ftP (mk rd : Nat → Int32) (ms : Nat → Bool) (n c p a q b : Nat) : Prop := ∀ s, s < n → (ms s = false → (-(c : Int) ≤ (a : Int) * (mk ((p + n - s) % n)).toInt + (b : Int) * (mk ((q + n - s) % n)).toInt - (rd s).toInt ∧ (a : Int) * (mk ((p + n - s) % n)).toInt + (b : Int) * (mk ((q + n - s) % n)).toInt - (rd s).toInt ≤ c))
abbrev miss9 (rd : Nat → Int32) : Nat → Bool := fun s => decide (rd s = nI 1073741824)
def Hd (a b : Nat → Int32) (j : Nat) (v : Int) : Prop := (a j).toInt ≤ v ∧ v ≤ (b j).toInt
theorem WinE_fit {F1 F2 rd : Nat → Int32} {c n z h k : Nat} {a b : Nat → Int32} (hW : WinE F1 F2 rd c n z a b) (hh : h ≤ 9) (hk : k ≤ 9) (hF1 : ∀ s, s < n → -1 ≤ (F1 s).toInt ∧ (F1 s).toInt ≤ 1) (hF2 : ∀ s, s < n → -1 ≤ (F2 s).toInt ∧ (F2 s).toInt ≤ 1) : (Hd a b z 0 ∧ Hd a b (z + 3) h ∧ Hd a b (z + 1) k ∧ Hd a b (z + 2) ((h : Int) - k) ∧ Hd a b (z + 4) ((h : Int) + k)) ↔ ∀ s, s < n → rd s ≠ nI 1073741824 → -(c : Int) ≤ (h : Int) * (F1 s).toInt + (k : Int) * (F2 s).toInt - (rd s).toInt ∧ (h : Int) * (F1 s).toInt + (k : Int) * (F2 s).toInt - (rd s).toInt ≤ c := by
  rcases hW with hW | ⟨⟨s, h1, h2, h3, h4⟩, h5⟩
  · have w0 := hW.2 0 (by decide) 0 (by omega) (by omega)
    have w1 := hW.2 1 (by decide) k (by omega) (by omega)
    have w2 := hW.2 2 (by decide) ((h : Int) - k) (by omega) (by omega)
    have w3 := hW.2 3 (by decide) h (by omega) (by omega)
    have w4 := hW.2 4 (by decide) ((h : Int) + k) (by omega) (by omega)
    unfold Hd
    constructor
    · rintro ⟨p0, p3, p1, p2, p4⟩ s hs hr
      have q0 := w0.mp p0 s hs hr
      have q1 := w1.mp p1 s hs hr
      have q2 := w2.mp p2 s hs hr
      have q3 := w3.mp p3 s hs hr
      have q4 := w4.mp p4 s hs hr
      have b1 := hF1 s hs
      have b2 := hF2 s hs
      rcases (show (F1 s).toInt = -1 ∨ (F1 s).toInt = 0 ∨ (F1 s).toInt = 1 by omega) with e1 | e1 | e1 <;> rcases (show (F2 s).toInt = -1 ∨ (F2 s).toInt = 0 ∨ (F2 s).toInt = 1 by omega) with e2 | e2 | e2 <;> simp only [kd, vl, e1, e2] at q0 q1 q2 q3 q4 ⊢ <;> simp at q0 q1 q2 q3 q4 <;> omega
    · intro q
      refine ⟨w0.mpr ?_, w3.mpr ?_, w1.mpr ?_, w2.mpr ?_, w4.mpr ?_⟩ <;>
      · intro s hs hr hkd
        have q9 := q s hs hr
        have b1 := hF1 s hs
        have b2 := hF2 s hs
        rcases (show (F1 s).toInt = -1 ∨ (F1 s).toInt = 0 ∨ (F1 s).toInt = 1 by omega) with e1 | e1 | e1 <;> rcases (show (F2 s).toInt = -1 ∨ (F2 s).toInt = 0 ∨ (F2 s).toInt = 1 by omega) with e2 | e2 | e2 <;> simp only [kd, vl, e1, e2] at hkd q9 ⊢ <;> simp at hkd ⊢ <;> omega
  · constructor
    · intro q
      exact absurd (by rw [fa_le, fa_le, t0]; exact q.1) h5
    · intro q
      have q9 := q s h1 h2
      have b1 := hF1 s h1
      have b2 := hF2 s h1
      have e1 : (F1 s).toInt = 0 := by unfold kd at h3; omega
      have e2 : (F2 s).toInt = 0 := by unfold kd at h3; omega
      rw [e1, e2] at q9
      exact absurd (by omega) h4
theorem WinE_one {F1 rd : Nat → Int32} {c n z h : Nat} {a b : Nat → Int32} (hW : WinE F1 (fun _ => 0) rd c n z a b) (hh : h ≤ 9) (hF1 : ∀ s, s < n → -1 ≤ (F1 s).toInt ∧ (F1 s).toInt ≤ 1) : (Hd a b z 0 ∧ Hd a b (z + 3) h) ↔ ∀ s, s < n → rd s ≠ nI 1073741824 → -(c : Int) ≤ (h : Int) * (F1 s).toInt - (rd s).toInt ∧ (h : Int) * (F1 s).toInt - (rd s).toInt ≤ c := by
  have hf := WinE_fit (k := 0) hW hh (by omega) hF1 (fun _ _ => ⟨by decide, by decide⟩)
  have e : (∀ s, s < n → rd s ≠ nI 1073741824 → -(c : Int) ≤ (h : Int) * (F1 s).toInt + ((0 : Nat) : Int) * (0 : Int32).toInt - (rd s).toInt ∧ (h : Int) * (F1 s).toInt + ((0 : Nat) : Int) * (0 : Int32).toInt - (rd s).toInt ≤ c) ↔ ∀ s, s < n → rd s ≠ nI 1073741824 → -(c : Int) ≤ (h : Int) * (F1 s).toInt - (rd s).toInt ∧ (h : Int) * (F1 s).toInt - (rd s).toInt ≤ c := by
    simp
  rw [← e, ← hf]
  refine ⟨fun q => ⟨q.1, q.2, ?_, ?_, ?_⟩, fun q => ⟨q.1, q.2.1⟩⟩ <;>
  · rcases hW with hW | ⟨-, h5⟩
    · first | refine (hW.2 1 (by decide) _ (by omega) (by omega)).mpr ?_ | refine (hW.2 2 (by decide) _ (by omega) (by omega)).mpr ?_ | refine (hW.2 4 (by decide) _ (by omega) (by omega)).mpr ?_
      intro s hs hr hkd
      have b1 := hF1 s hs
      unfold kd at hkd
      rw [t0] at hkd
      omega
    · exact absurd (by rw [fa_le, fa_le, t0]; exact q.1) h5
abbrev sq0 (mk rd : Nat → Int32) (ms : Nat → Bool) (n c : Nat) : List Qd := if ftP mk rd ms n c 0 0 0 0 then [(-1, nI 0, -1, nI 0)] else []
abbrev sq1 (mk rd : Nat → Int32) (ms : Nat → Bool) (n c a h : Nat) : List Qd := if ftP mk rd ms n c a h 0 0 then [(nI a, nI h, -1, nI 0)] else []
abbrev sq2 (mk rd : Nat → Int32) (ms : Nat → Bool) (n c a h b k : Nat) : List Qd := if ftP mk rd ms n c a h b k then [(nI a, nI h, nI b, nI k)] else []
abbrev lsA (mk rd : Nat → Int32) (ms : Nat → Bool) (n c a h b : Nat) : List Qd := lpF (sq2 mk rd ms n c a h b) 1 9
abbrev lsB (mk rd : Nat → Int32) (ms : Nat → Bool) (n c a h : Nat) : List Qd := lpF (lsA mk rd ms n c a h) (a + 1) (n - (a + 1))
abbrev lsC (mk rd : Nat → Int32) (ms : Nat → Bool) (n c a : Nat) : List Qd := lpF (lsB mk rd ms n c a) 1 9
abbrev lsD (mk rd : Nat → Int32) (ms : Nat → Bool) (n c : Nat) : List Qd := lpF (lsC mk rd ms n c) 0 n
abbrev lsE (mk rd : Nat → Int32) (ms : Nat → Bool) (n c a : Nat) : List Qd := lpF (sq1 mk rd ms n c a) 1 9
abbrev lsF (mk rd : Nat → Int32) (ms : Nat → Bool) (n c : Nat) : List Qd := lpF (lsE mk rd ms n c) 0 n
abbrev lsT (mk rd : Nat → Int32) (ms : Nat → Bool) (n c : Nat) : List Qd := (sq0 mk rd ms n c ++ lsF mk rd ms n c) ++ lsD mk rd ms n c
theorem lsA_len (mk rd : Nat → Int32) (ms : Nat → Bool) (n c a h b : Nat) : (lsA mk rd ms n c a h b).length ≤ 9 := by
  have : (lsA mk rd ms n c a h b).length ≤ 9 * 1 := lpF_len (fun j => by unfold sq2; split <;> simp)
  omega
theorem lsB_len (mk rd : Nat → Int32) (ms : Nat → Bool) {n : Nat} (c a h : Nat) (hn : n ≤ 60) : (lsB mk rd ms n c a h).length ≤ 540 := by
  have : (lsB mk rd ms n c a h).length ≤ (n - (a + 1)) * 9 := lpF_len (fun j => lsA_len _ _ _ _ _ _ _ _)
  omega
theorem lsC_len (mk rd : Nat → Int32) (ms : Nat → Bool) {n : Nat} (c a : Nat) (hn : n ≤ 60) : (lsC mk rd ms n c a).length ≤ 4860 := by
  have : (lsC mk rd ms n c a).length ≤ 9 * 540 := lpF_len (fun j => lsB_len _ _ _ _ _ _ hn)
  omega
theorem lsT_len (mk rd : Nat → Int32) (ms : Nat → Bool) {n : Nat} (c : Nat) (hn : n ≤ 60) : (lsT mk rd ms n c).length ≤ 1000000 := by
  have h1 : (lsD mk rd ms n c).length ≤ n * 4860 := lpF_len (fun j => lsC_len _ _ _ _ _ hn)
  have h2 : (lsF mk rd ms n c).length ≤ n * 9 := lpF_len (fun j => by
    have : (lsE mk rd ms n c j).length ≤ 9 * 1 := lpF_len (fun j => by unfold sq1; split <;> simp)
    omega)
  have h3 : (sq0 mk rd ms n c).length ≤ 1 := by unfold sq0; split <;> simp
  simp only [List.length_append]
  omega
theorem sub_add_nI2 {a b c : Nat} (h : b ≤ a + c) : nI a - nI b + nI c = nI (a + c - b) := by
  rw [← pk_sub h, ← nI_add]
  rw [Int32.sub_eq_add_neg, Int32.sub_eq_add_neg, Int32.add_assoc, Int32.add_assoc, Int32.add_comm (-nI b)]
theorem max_N {x : Nat} (h : x < 2 ^ 31) : (if nI 0 < nI x then nI x else nI 0) = nI x := by
  by_cases h0 : 0 < x
  · rw [if_pos ((nI_ltI (by omega) h).mpr h0)]
  · rw [show x = 0 by omega]; split <;> rfl
abbrev sgQ (a h b k : Nat) : List Qd := [(nI a, nI h, nI b, nI k)]
theorem c_ts_l {μ : Mm} {a b : Nat → Int32} {p h q hi : Nat} {lw : Int32} (hhi : hi ≤ 9) (hp : p ≤ 60) (hq : q ≤ 60) (hh : h ≤ 9) : ∀ (m k : Nat) (l : List Qd) (g : Nat → Int32), k + m = hi + 1 → 1 ≤ k → Told l g → l.length + m < 2 ^ 31 → ∃ g', G mX2_tellSeconds (rmL 1) (none, mF μ a b g' (l ++ lpF (sgQ p h q) k m).length) (mF μ a b g l.length) 135 [some (.ref 4), some (.int (nI p)), some (.int (nI h)), some (.int (nI q)), some (.int (nI (q * 5))), some (.int lw), some (.int (nI hi)), some (.int (nI k))] [] ∧ Told (l ++ lpF (sgQ p h q) k m) g' := by
  have X : ∀ (m k : Nat) (l : List Qd) (g : Nat → Int32), k + m = hi + 1 → l.length + m < 2 ^ 31 → G mX2_tellSeconds (rmL 1) (none, mF μ a b g (l.length + m)) (mF μ a b g l.length) 167 [some (.ref 4), some (.int (nI p)), some (.int (nI h)), some (.int (nI q)), some (.int (nI (q * 5))), some (.int lw), some (.int (nI hi)), some (.int (nI k))] [] := by
    intro m k l g hk hl
    refine g_aload_n 0 _ dX2_tellSeconds_167 rfl rfl ?_
    refine g_dup dX2_tellSeconds_168 rfl ?_
    refine gf_X2_21 rfl dX2_tellSeconds_169 ?_
    refine g_top (w := .int (nI l.length)) (congrArg Value.int rfl) ?_
    refine g_iconst (nI 0) dX2_tellSeconds_172 rfl ?_
    refine g_iload _ dX2_tellSeconds_173 rfl ?_
    refine g_iload _ dX2_tellSeconds_175 rfl ?_
    refine g_isub dX2_tellSeconds_177 ?_
    refine g_at 178 rfl ?_
    refine g_iconst (nI 1) dX2_tellSeconds_178 rfl ?_
    refine g_iadd dX2_tellSeconds_179 ?_
    refine g_top (w := .int (nI (hi + 1 - k))) (congrArg Value.int (sub_add_nI2 (by omega))) ?_
    refine g_mmax rfl tz_523 (Nat.le_of_ble_eq_true rfl) (Nat.le_of_ble_eq_true rfl) dX2_tellSeconds_180 ?_
    refine g_top (w := .int (nI (hi + 1 - k))) (congrArg Value.int (max_N (by omega))) ?_
    refine g_iaddN dX2_tellSeconds_183 ?_
    refine gp_X2_21 rfl dX2_tellSeconds_184 ?_
    exact g_return dX2_tellSeconds_187 rfl (by rw [mF_4, show l.length + (hi + 1 - k) = l.length + m by omega])
  intro m
  induction m with
  | zero =>
    intro k l g hk h1 hT hl
    refine ⟨g, ?_, by simpa [lpF] using hT⟩
    have hX := X 0 k l g hk hl
    rw [show (l ++ lpF (sgQ p h q) k 0).length = l.length + 0 by simp [lpF]]
    refine g_iload _ dX2_tellSeconds_135 rfl ?_
    refine g_iload _ dX2_tellSeconds_137 rfl ?_
    refine g_icmp_gtN 167 (by omega) (by omega) dX2_tellSeconds_139 (by decide) (fun h139 => ?_) (fun h139 => ?_)
    · exact hX
    · exact absurd h139 (by omega)
  | succ m ih =>
    intro k l g hk h1 hT hl
    by_cases hlt : l.length < 200
    · have hT2 := Told_tell (nI p, nI h, nI q, nI k) hT
      obtain ⟨g', hG, hT3⟩ := ih (k + 1) (l ++ [(nI p, nI h, nI q, nI k)]) _ (by omega) (by omega) hT2 (by rw [List.length_append, List.length_singleton]; omega)
      rw [List.append_assoc] at hG hT3
      refine ⟨g', ?_, hT3⟩
      rw [show (l ++ [(nI p, nI h, nI q, nI k)]).length = l.length + 1 by simp] at hG
      refine g_iload _ dX2_tellSeconds_135 rfl ?_
      refine g_iload _ dX2_tellSeconds_137 rfl ?_
      refine g_icmp_gtN 167 (by omega) (by omega) dX2_tellSeconds_139 (by decide) (fun h139 => ?_) (fun h139 => ?_)
      · exact absurd h139 (by omega)
      · refine g_aload_n 0 _ dX2_tellSeconds_142 rfl rfl ?_
        refine gf_X2_21 rfl dX2_tellSeconds_143 ?_
        refine g_top (w := .int (nI l.length)) (congrArg Value.int rfl) ?_
        refine g_sipush (nI 200) dX2_tellSeconds_146 rfl ?_
        refine g_icmp_geN 167 (by omega) (by omega) dX2_tellSeconds_149 (by decide) (fun h149 => ?_) (fun h149 => ?_)
        · exact absurd h149 (by omega)
        · refine g_aload_n 0 _ dX2_tellSeconds_152 rfl rfl ?_
          refine g_iload_n 1 _ dX2_tellSeconds_153 rfl rfl ?_
          refine g_iload_n 2 _ dX2_tellSeconds_154 rfl rfl ?_
          refine g_iload_n 3 _ dX2_tellSeconds_155 rfl rfl ?_
          refine g_iload _ dX2_tellSeconds_156 rfl ?_
          refine g_backv (g_runV (c_tell μ a b g (t := l.length) (by omega) (nI p, nI h, nI q, nI k)) rfl mw_X2_tell mi_X2_tell ml_X2_33 isO_4 ⟨rfl, rfl, Nat.le_of_ble_eq_true rfl, Nat.le_of_ble_eq_true rfl⟩ rfl rfl (Nat.le_of_ble_eq_true rfl) dX2_tellSeconds_158) ?_
          refine g_mem (μ' := mF μ a b (tlF g l.length (nI p, nI h, nI q, nI k)) (l.length + 1)) rfl ?_
          refine g_iincN [some (.ref 4), some (.int (nI p)), some (.int (nI h)), some (.int (nI q)), some (.int (nI (q * 5))), some (.int lw), some (.int (nI hi)), some (.int (nI (k + 1)))] dX2_tellSeconds_161 rfl (Nat.le_of_ble_eq_true rfl) rfl rfl ?_
          refine g_at 164 rfl ?_
          refine g_goto 135 dX2_tellSeconds_164 (by decide) ?_
          exact hG
    · refine ⟨g, ?_, Told_more hT (by omega)⟩
      have hX := X (m + 1) k l g hk hl
      have hlen : ∀ (m k : Nat), (lpF (sgQ p h q) k m).length = m := fun m => by
        induction m with
        | zero => intro k; rfl
        | succ m ih9 => intro k; rw [lpF, List.length_append, ih9]; simp; omega
      rw [List.length_append, hlen]
      refine g_iload _ dX2_tellSeconds_135 rfl ?_
      refine g_iload _ dX2_tellSeconds_137 rfl ?_
      refine g_icmp_gtN 167 (by omega) (by omega) dX2_tellSeconds_139 (by decide) (fun h139 => ?_) (fun h139 => ?_)
      · exact absurd h139 (by omega)
      · refine g_aload_n 0 _ dX2_tellSeconds_142 rfl rfl ?_
        refine gf_X2_21 rfl dX2_tellSeconds_143 ?_
        refine g_top (w := .int (nI l.length)) (congrArg Value.int rfl) ?_
        refine g_sipush (nI 200) dX2_tellSeconds_146 rfl ?_
        refine g_icmp_geN 167 (by omega) (by omega) dX2_tellSeconds_149 (by decide) (fun h149 => ?_) (fun h149 => ?_)
        · exact hX
        · exact absurd h149 (by omega)
theorem lpF_seg {f : Nat → List Qd} {e : Nat → List Qd} {lo hi : Nat} (h1 : 1 ≤ lo) (h9 : hi ≤ 9) (hlh : lo ≤ hi) (hin : ∀ k, lo ≤ k → k ≤ hi → f k = e k) (hout : ∀ k, 1 ≤ k → k ≤ 9 → (k < lo ∨ hi < k) → f k = []) : lpF f 1 9 = lpF e lo (hi + 1 - lo) := by
  have e1 : lpF f 1 9 = lpF f 1 (lo - 1) ++ lpF f lo (9 - (lo - 1)) := by
    have := lpF_app f (lo - 1) (9 - (lo - 1)) 1
    rw [show lo - 1 + (9 - (lo - 1)) = 9 by omega, show 1 + (lo - 1) = lo by omega] at this
    exact this
  have e2 : lpF f lo (9 - (lo - 1)) = lpF f lo (hi + 1 - lo) ++ lpF f (hi + 1) (9 - hi) := by
    have := lpF_app f (hi + 1 - lo) (9 - hi) lo
    rw [show hi + 1 - lo + (9 - hi) = 9 - (lo - 1) by omega, show lo + (hi + 1 - lo) = hi + 1 by omega] at this
    exact this
  rw [e1, e2, lpF_nil (fun j q1 q2 => hout j (by omega) (by omega) (by omega)), lpF_nil (m := 9 - hi) (fun j q1 q2 => hout j (by omega) (by omega) (by omega)), List.append_nil, List.nil_append]
  exact lpF_congr (fun j q1 q2 => hin j (by omega) (by omega))
theorem c_tellSeconds (μ : Mm) (a b g : Nat → Int32) {n c p h q : Nat} (l : List Qd) (hh : 1 ≤ h) (hh9 : h ≤ 9) (hp : p < n) (hq : q < n) (h60 : n ≤ 60) (hmk : ∀ s, s < n → -1 ≤ (μ.1 7 s).toInt ∧ (μ.1 7 s).toInt ≤ 1)
    (hW : WinE (fun s => μ.1 7 ((p + n - s) % n)) (fun s => μ.1 7 ((q + n - s) % n)) (μ.1 9) c n (q * 5) a b) (hT : Told l g) (hl : l.length + 9 < 2 ^ 31) :
    ∃ g', Ok mX2_tellSeconds (rmL 1) [.ref 4, .int (nI p), .int (nI h), .int (nI q)] (mF μ a b g l.length) (none, mF μ a b g' (l ++ lsA (μ.1 7) (μ.1 9) (miss9 (μ.1 9)) n c p h q).length) ∧ Told (l ++ lsA (μ.1 7) (μ.1 9) (miss9 (μ.1 9)) n c p h q) g' := by
  have hF1 : ∀ s, s < n → -1 ≤ (μ.1 7 ((p + n - s) % n)).toInt ∧ (μ.1 7 ((p + n - s) % n)).toInt ≤ 1 := fun s _ => hmk _ (Nat.mod_lt _ (by omega))
  have hF2 : ∀ s, s < n → -1 ≤ (μ.1 7 ((q + n - s) % n)).toInt ∧ (μ.1 7 ((q + n - s) % n)).toInt ≤ 1 := fun s _ => hmk _ (Nat.mod_lt _ (by omega))
  have hfit : ∀ k : Nat, k ≤ 9 → ((Hd a b (q * 5) 0 ∧ Hd a b (q * 5 + 3) h ∧ Hd a b (q * 5 + 1) k ∧ Hd a b (q * 5 + 2) ((h : Int) - k) ∧ Hd a b (q * 5 + 4) ((h : Int) + k)) ↔ ftP (μ.1 7) (μ.1 9) (miss9 (μ.1 9)) n c p h q k) := fun k hk => by
    refine (WinE_fit hW hh9 hk hF1 hF2).trans ⟨fun z s hs hm => z s hs (by simpa [miss9] using hm), fun z s hs hm => z s hs (by simpa [miss9] using hm)⟩
  have hhi : (nI h).toInt = h := nI_toInt (by omega)
  by_cases hok : Hd a b (q * 5) 0 ∧ Hd a b (q * 5 + 3) h
  · -- all windows' bounds: WinE can't have stopped
    have hWn : Win (fun s => μ.1 7 ((p + n - s) % n)) (fun s => μ.1 7 ((q + n - s) % n)) (μ.1 9) c (q * 5) a b n := by
      rcases hW with hW | ⟨-, h5⟩
      · exact hW
      · exact absurd (by rw [fa_le, fa_le, t0]; exact hok.1) h5
    have b1 := hWn.1 1 (by decide)
    have b2 := hWn.1 2 (by decide)
    have b4 := hWn.1 4 (by decide)
    have s1 : (a (q * 5 + 4) - nI h).toInt = (a (q * 5 + 4)).toInt - h := by rw [fb_subI, hhi] <;> rw [hhi] <;> omega
    have s2 : (nI h - b (q * 5 + 2)).toInt = (h : Int) - (b (q * 5 + 2)).toInt := by rw [fb_subI, hhi] <;> rw [hhi] <;> omega
    have s3 : (b (q * 5 + 4) - nI h).toInt = (b (q * 5 + 4)).toInt - h := by rw [fb_subI, hhi] <;> rw [hhi] <;> omega
    have s4 : (nI h - a (q * 5 + 2)).toInt = (h : Int) - (a (q * 5 + 2)).toInt := by rw [fb_subI, hhi] <;> rw [hhi] <;> omega
    generalize hL1 : (if nI 1 < a (q * 5 + 1) then a (q * 5 + 1) else nI 1) = L1
    generalize hL2 : (if L1 < a (q * 5 + 4) - nI h then a (q * 5 + 4) - nI h else L1) = L2
    generalize hL3 : (if L2 < nI h - b (q * 5 + 2) then nI h - b (q * 5 + 2) else L2) = L3
    generalize hH1 : (if b (q * 5 + 1) < nI 9 then b (q * 5 + 1) else nI 9) = H1
    generalize hH2 : (if b (q * 5 + 4) - nI h < H1 then b (q * 5 + 4) - nI h else H1) = H2
    generalize hH3 : (if nI h - a (q * 5 + 2) < H2 then nI h - a (q * 5 + 2) else H2) = H3
    have i1 : L1.toInt = max 1 (a (q * 5 + 1)).toInt := by rw [← hL1, max_I, nt1]
    have i2 : L2.toInt = max L1.toInt ((a (q * 5 + 4)).toInt - h) := by rw [← hL2, max_I, s1]
    have i3 : L3.toInt = max L2.toInt ((h : Int) - (b (q * 5 + 2)).toInt) := by rw [← hL3, max_I, s2]
    have j1 : H1.toInt = min 9 (b (q * 5 + 1)).toInt := by rw [← hH1, min_I, nt9]
    have j2 : H2.toInt = min H1.toInt ((b (q * 5 + 4)).toInt - h) := by rw [← hH2, min_I, s3]
    have j3 : H3.toInt = min H2.toInt ((h : Int) - (a (q * 5 + 2)).toInt) := by rw [← hH3, min_I, s4]
    have hiff : ∀ k : Nat, 1 ≤ k → k ≤ 9 → (ftP (μ.1 7) (μ.1 9) (miss9 (μ.1 9)) n c p h q k ↔ (L3.toInt ≤ k ∧ (k : Int) ≤ H3.toInt)) := fun k k1 k9 => by
      rw [← hfit k k9]
      unfold Hd
      constructor
      · rintro ⟨-, -, z1, z2, z4⟩; omega
      · intro z; exact ⟨hok.1, hok.2, by omega, by omega, by omega⟩
    by_cases hlh : L3.toInt ≤ H3.toInt
    · obtain ⟨lo, hlo9, rfl⟩ := nat_of (a := L3) (N := 9) (by omega) (by omega) (by decide)
      obtain ⟨hi, hhi9, rfl⟩ := nat_of (a := H3) (N := 9) (by omega) (by omega) (by decide)
      have tl : (nI lo).toInt = lo := nI_toInt (by omega)
      have th : (nI hi).toInt = hi := nI_toInt (by omega)
      have hls : lsA (μ.1 7) (μ.1 9) (miss9 (μ.1 9)) n c p h q = lpF (sgQ p h q) lo (hi + 1 - lo) := by
        refine lpF_seg (by omega) (by omega) (by omega) (fun k k1 k2 => ?_) (fun k k1 k2 k3 => ?_)
        · unfold sq2; rw [if_pos ((hiff k (by omega) (by omega)).mpr (by omega))]
        · unfold sq2; rw [if_neg (fun z => by have := (hiff k k1 k2).mp z; omega)]
      obtain ⟨g', hG, hT2⟩ := c_ts_l (μ := μ) (a := a) (b := b) (p := p) (h := h) (q := q) (hi := hi) (lw := nI lo) hhi9 (by omega) (by omega) hh9 (hi + 1 - lo) lo l g (by omega) (by omega) hT (by omega)
      rw [hls]
      refine ⟨g', ?_, hT2⟩
      refine Ok.of (by decide) (Nat.le_of_ble_eq_true rfl) [some (.ref 4), some (.int (nI p)), some (.int (nI h)), some (.int (nI q)), none, none, none, none] rfl ?_
      refine g_iload_n 3 _ dX2_tellSeconds_0 rfl rfl ?_
      refine g_iconst (nI 5) dX2_tellSeconds_1 rfl ?_
      refine g_imulN dX2_tellSeconds_2 ?_
      refine g_istore [some (.ref 4), some (.int (nI p)), some (.int (nI h)), some (.int (nI q)), some (.int (nI (q * 5))), none, none, none] dX2_tellSeconds_3 (Nat.le_of_ble_eq_true rfl) rfl rfl ?_
      refine g_aload_n 0 _ dX2_tellSeconds_5 rfl rfl ?_
      refine g_iload _ dX2_tellSeconds_6 rfl ?_
      refine g_iconst (nI 0) dX2_tellSeconds_8 rfl ?_
      refine g_at 9 rfl ?_
      refine g_backi (g_runV ((c_holds (mF μ a b g l.length) (nI 0) (w := q * 5) (by omega)).to (by rw [bI_t (by rw [fa_le, fa_le, nt0]; exact hok.1)])) rfl mw_X2_holds mi_X2_holds ml_X2_29 isO_4 ⟨rfl, rfl, Nat.le_of_ble_eq_true rfl, Nat.le_of_ble_eq_true rfl⟩ rfl rfl (Nat.le_of_ble_eq_true rfl) dX2_tellSeconds_9) ?_
      refine g_top (w := .int 1) rfl ?_
      refine g_if_eq 27 dX2_tellSeconds_12 (by decide) (fun h12 => ?_) (fun h12 => ?_)
      · exact absurd h12 (by decide)
      · refine g_aload_n 0 _ dX2_tellSeconds_15 rfl rfl ?_
        refine g_iload _ dX2_tellSeconds_16 rfl ?_
        refine g_iconst (nI 3) dX2_tellSeconds_18 rfl ?_
        refine g_iaddN dX2_tellSeconds_19 ?_
        refine g_iload_n 2 _ dX2_tellSeconds_20 rfl rfl ?_
        refine g_backi (g_runV ((c_holds (mF μ a b g l.length) (nI h) (w := q * 5 + 3) (by omega)).to (by rw [bI_t (by rw [fa_le, fa_le, hhi]; exact hok.2)])) rfl mw_X2_holds mi_X2_holds ml_X2_29 isO_4 ⟨rfl, rfl, Nat.le_of_ble_eq_true rfl, Nat.le_of_ble_eq_true rfl⟩ rfl rfl (Nat.le_of_ble_eq_true rfl) dX2_tellSeconds_21) ?_
        refine g_top (w := .int 1) rfl ?_
        refine g_if_ne 28 dX2_tellSeconds_24 (by decide) (fun h24 => ?_) (fun h24 => ?_)
        · refine g_iconst (nI 1) dX2_tellSeconds_28 rfl ?_
          refine g_aload_n 0 _ dX2_tellSeconds_29 rfl rfl ?_
          refine gf_X2_11 rfl dX2_tellSeconds_30 ?_
          refine g_iload _ dX2_tellSeconds_33 rfl ?_
          refine g_iconst (nI 1) dX2_tellSeconds_35 rfl ?_
          refine g_iaddN dX2_tellSeconds_36 ?_
          refine g_iaload (j := q * 5 + 1) isI_29 (rfl) (by omega) (by omega) dX2_tellSeconds_37 ?_
          refine g_top (w := .int (a (q * 5 + 1))) (congrArg Value.int rfl) ?_
          refine g_at 38 rfl ?_
          refine g_mmax rfl tz_523 (Nat.le_of_ble_eq_true rfl) (Nat.le_of_ble_eq_true rfl) dX2_tellSeconds_38 ?_
          refine g_top (w := .int L1) (congrArg Value.int hL1) ?_
          refine g_istore [some (.ref 4), some (.int (nI p)), some (.int (nI h)), some (.int (nI q)), some (.int (nI (q * 5))), some (.int L1), none, none] dX2_tellSeconds_41 (Nat.le_of_ble_eq_true rfl) rfl rfl ?_
          refine g_iload _ dX2_tellSeconds_43 rfl ?_
          refine g_aload_n 0 _ dX2_tellSeconds_45 rfl rfl ?_
          refine gf_X2_11 rfl dX2_tellSeconds_46 ?_
          refine g_iload _ dX2_tellSeconds_49 rfl ?_
          refine g_iconst (nI 4) dX2_tellSeconds_51 rfl ?_
          refine g_iaddN dX2_tellSeconds_52 ?_
          refine g_at 53 rfl ?_
          refine g_iaload (j := q * 5 + 4) isI_29 (rfl) (by omega) (by omega) dX2_tellSeconds_53 ?_
          refine g_top (w := .int (a (q * 5 + 4))) (congrArg Value.int rfl) ?_
          refine g_iload_n 2 _ dX2_tellSeconds_54 rfl rfl ?_
          refine g_isub dX2_tellSeconds_55 ?_
          refine g_mmax rfl tz_523 (Nat.le_of_ble_eq_true rfl) (Nat.le_of_ble_eq_true rfl) dX2_tellSeconds_56 ?_
          refine g_top (w := .int L2) (congrArg Value.int hL2) ?_
          refine g_istore [some (.ref 4), some (.int (nI p)), some (.int (nI h)), some (.int (nI q)), some (.int (nI (q * 5))), some (.int L2), none, none] dX2_tellSeconds_59 (Nat.le_of_ble_eq_true rfl) rfl rfl ?_
          refine g_iload _ dX2_tellSeconds_61 rfl ?_
          refine g_iload_n 2 _ dX2_tellSeconds_63 rfl rfl ?_
          refine g_aload_n 0 _ dX2_tellSeconds_64 rfl rfl ?_
          refine g_at 65 rfl ?_
          refine gf_X2_15 rfl dX2_tellSeconds_65 ?_
          refine g_iload _ dX2_tellSeconds_68 rfl ?_
          refine g_iconst (nI 2) dX2_tellSeconds_70 rfl ?_
          refine g_iaddN dX2_tellSeconds_71 ?_
          refine g_iaload (j := q * 5 + 2) isI_30 (rfl) (by omega) (by omega) dX2_tellSeconds_72 ?_
          refine g_top (w := .int (b (q * 5 + 2))) (congrArg Value.int rfl) ?_
          refine g_isub dX2_tellSeconds_73 ?_
          refine g_mmax rfl tz_523 (Nat.le_of_ble_eq_true rfl) (Nat.le_of_ble_eq_true rfl) dX2_tellSeconds_74 ?_
          refine g_top (w := .int (nI lo)) (congrArg Value.int hL3) ?_
          refine g_istore [some (.ref 4), some (.int (nI p)), some (.int (nI h)), some (.int (nI q)), some (.int (nI (q * 5))), some (.int (nI lo)), none, none] dX2_tellSeconds_77 (Nat.le_of_ble_eq_true rfl) rfl rfl ?_
          refine g_at 79 rfl ?_
          refine g_bipush (nI 9) dX2_tellSeconds_79 rfl ?_
          refine g_aload_n 0 _ dX2_tellSeconds_81 rfl rfl ?_
          refine gf_X2_15 rfl dX2_tellSeconds_82 ?_
          refine g_iload _ dX2_tellSeconds_85 rfl ?_
          refine g_iconst (nI 1) dX2_tellSeconds_87 rfl ?_
          refine g_iaddN dX2_tellSeconds_88 ?_
          refine g_iaload (j := q * 5 + 1) isI_30 (rfl) (by omega) (by omega) dX2_tellSeconds_89 ?_
          refine g_top (w := .int (b (q * 5 + 1))) (congrArg Value.int rfl) ?_
          refine g_mmin rfl tz_526 (Nat.le_of_ble_eq_true rfl) (Nat.le_of_ble_eq_true rfl) dX2_tellSeconds_90 ?_
          refine g_top (w := .int H1) (congrArg Value.int hH1) ?_
          refine g_at 93 rfl ?_
          refine g_istore [some (.ref 4), some (.int (nI p)), some (.int (nI h)), some (.int (nI q)), some (.int (nI (q * 5))), some (.int (nI lo)), some (.int H1), none] dX2_tellSeconds_93 (Nat.le_of_ble_eq_true rfl) rfl rfl ?_
          refine g_iload _ dX2_tellSeconds_95 rfl ?_
          refine g_aload_n 0 _ dX2_tellSeconds_97 rfl rfl ?_
          refine gf_X2_15 rfl dX2_tellSeconds_98 ?_
          refine g_iload _ dX2_tellSeconds_101 rfl ?_
          refine g_iconst (nI 4) dX2_tellSeconds_103 rfl ?_
          refine g_iaddN dX2_tellSeconds_104 ?_
          refine g_iaload (j := q * 5 + 4) isI_30 (rfl) (by omega) (by omega) dX2_tellSeconds_105 ?_
          refine g_top (w := .int (b (q * 5 + 4))) (congrArg Value.int rfl) ?_
          refine g_at 106 rfl ?_
          refine g_iload_n 2 _ dX2_tellSeconds_106 rfl rfl ?_
          refine g_isub dX2_tellSeconds_107 ?_
          refine g_mmin rfl tz_526 (Nat.le_of_ble_eq_true rfl) (Nat.le_of_ble_eq_true rfl) dX2_tellSeconds_108 ?_
          refine g_top (w := .int H2) (congrArg Value.int hH2) ?_
          refine g_istore [some (.ref 4), some (.int (nI p)), some (.int (nI h)), some (.int (nI q)), some (.int (nI (q * 5))), some (.int (nI lo)), some (.int H2), none] dX2_tellSeconds_111 (Nat.le_of_ble_eq_true rfl) rfl rfl ?_
          refine g_iload _ dX2_tellSeconds_113 rfl ?_
          refine g_iload_n 2 _ dX2_tellSeconds_115 rfl rfl ?_
          refine g_aload_n 0 _ dX2_tellSeconds_116 rfl rfl ?_
          refine gf_X2_11 rfl dX2_tellSeconds_117 ?_
          refine g_at 120 rfl ?_
          refine g_iload _ dX2_tellSeconds_120 rfl ?_
          refine g_iconst (nI 2) dX2_tellSeconds_122 rfl ?_
          refine g_iaddN dX2_tellSeconds_123 ?_
          refine g_iaload (j := q * 5 + 2) isI_29 (rfl) (by omega) (by omega) dX2_tellSeconds_124 ?_
          refine g_top (w := .int (a (q * 5 + 2))) (congrArg Value.int rfl) ?_
          refine g_isub dX2_tellSeconds_125 ?_
          refine g_mmin rfl tz_526 (Nat.le_of_ble_eq_true rfl) (Nat.le_of_ble_eq_true rfl) dX2_tellSeconds_126 ?_
          refine g_top (w := .int (nI hi)) (congrArg Value.int hH3) ?_
          refine g_istore [some (.ref 4), some (.int (nI p)), some (.int (nI h)), some (.int (nI q)), some (.int (nI (q * 5))), some (.int (nI lo)), some (.int (nI hi)), none] dX2_tellSeconds_129 (Nat.le_of_ble_eq_true rfl) rfl rfl ?_
          refine g_iload _ dX2_tellSeconds_131 rfl ?_
          refine g_at 133 rfl ?_
          refine g_istore [some (.ref 4), some (.int (nI p)), some (.int (nI h)), some (.int (nI q)), some (.int (nI (q * 5))), some (.int (nI lo)), some (.int (nI hi)), some (.int (nI lo))] dX2_tellSeconds_133 (Nat.le_of_ble_eq_true rfl) rfl rfl ?_
          exact hG
        · exact absurd h24 (by decide)
    · have hls : lsA (μ.1 7) (μ.1 9) (miss9 (μ.1 9)) n c p h q = [] := lpF_nil (fun k k1 k2 => by
        unfold sq2; rw [if_neg (fun z => by have := (hiff k (by omega) (by omega)).mp z; omega)])
      rw [hls, List.append_nil]
      refine ⟨g, ?_, hT⟩
      have r1 : (H3 - L3).toInt = H3.toInt - L3.toInt := fb_subI (by omega) (by omega)
      have r2 : (H3 - L3 + nI 1).toInt = H3.toInt - L3.toInt + 1 := by rw [fb_addI, r1, nt1] <;> rw [r1, nt1] <;> omega
      have r3 : (if nI 0 < H3 - L3 + nI 1 then H3 - L3 + nI 1 else nI 0) = nI 0 := if_neg (by rw [fa_lt, r2, nt0]; omega)
      have hnl : ¬ L3 ≤ H3 := by rw [fa_le]; omega
      refine Ok.of (by decide) (Nat.le_of_ble_eq_true rfl) [some (.ref 4), some (.int (nI p)), some (.int (nI h)), some (.int (nI q)), none, none, none, none] rfl ?_
      refine g_iload_n 3 _ dX2_tellSeconds_0 rfl rfl ?_
      refine g_iconst (nI 5) dX2_tellSeconds_1 rfl ?_
      refine g_imulN dX2_tellSeconds_2 ?_
      refine g_istore [some (.ref 4), some (.int (nI p)), some (.int (nI h)), some (.int (nI q)), some (.int (nI (q * 5))), none, none, none] dX2_tellSeconds_3 (Nat.le_of_ble_eq_true rfl) rfl rfl ?_
      refine g_aload_n 0 _ dX2_tellSeconds_5 rfl rfl ?_
      refine g_iload _ dX2_tellSeconds_6 rfl ?_
      refine g_iconst (nI 0) dX2_tellSeconds_8 rfl ?_
      refine g_at 9 rfl ?_
      refine g_backi (g_runV ((c_holds (mF μ a b g l.length) (nI 0) (w := q * 5) (by omega)).to (by rw [bI_t (by rw [fa_le, fa_le, nt0]; exact hok.1)])) rfl mw_X2_holds mi_X2_holds ml_X2_29 isO_4 ⟨rfl, rfl, Nat.le_of_ble_eq_true rfl, Nat.le_of_ble_eq_true rfl⟩ rfl rfl (Nat.le_of_ble_eq_true rfl) dX2_tellSeconds_9) ?_
      refine g_top (w := .int 1) rfl ?_
      refine g_if_eq 27 dX2_tellSeconds_12 (by decide) (fun h12 => ?_) (fun h12 => ?_)
      · exact absurd h12 (by decide)
      · refine g_aload_n 0 _ dX2_tellSeconds_15 rfl rfl ?_
        refine g_iload _ dX2_tellSeconds_16 rfl ?_
        refine g_iconst (nI 3) dX2_tellSeconds_18 rfl ?_
        refine g_iaddN dX2_tellSeconds_19 ?_
        refine g_iload_n 2 _ dX2_tellSeconds_20 rfl rfl ?_
        refine g_backi (g_runV ((c_holds (mF μ a b g l.length) (nI h) (w := q * 5 + 3) (by omega)).to (by rw [bI_t (by rw [fa_le, fa_le, hhi]; exact hok.2)])) rfl mw_X2_holds mi_X2_holds ml_X2_29 isO_4 ⟨rfl, rfl, Nat.le_of_ble_eq_true rfl, Nat.le_of_ble_eq_true rfl⟩ rfl rfl (Nat.le_of_ble_eq_true rfl) dX2_tellSeconds_21) ?_
        refine g_top (w := .int 1) rfl ?_
        refine g_if_ne 28 dX2_tellSeconds_24 (by decide) (fun h24 => ?_) (fun h24 => ?_)
        · refine g_iconst (nI 1) dX2_tellSeconds_28 rfl ?_
          refine g_aload_n 0 _ dX2_tellSeconds_29 rfl rfl ?_
          refine gf_X2_11 rfl dX2_tellSeconds_30 ?_
          refine g_iload _ dX2_tellSeconds_33 rfl ?_
          refine g_iconst (nI 1) dX2_tellSeconds_35 rfl ?_
          refine g_iaddN dX2_tellSeconds_36 ?_
          refine g_iaload (j := q * 5 + 1) isI_29 (rfl) (by omega) (by omega) dX2_tellSeconds_37 ?_
          refine g_top (w := .int (a (q * 5 + 1))) (congrArg Value.int rfl) ?_
          refine g_at 38 rfl ?_
          refine g_mmax rfl tz_523 (Nat.le_of_ble_eq_true rfl) (Nat.le_of_ble_eq_true rfl) dX2_tellSeconds_38 ?_
          refine g_top (w := .int L1) (congrArg Value.int hL1) ?_
          refine g_istore [some (.ref 4), some (.int (nI p)), some (.int (nI h)), some (.int (nI q)), some (.int (nI (q * 5))), some (.int L1), none, none] dX2_tellSeconds_41 (Nat.le_of_ble_eq_true rfl) rfl rfl ?_
          refine g_iload _ dX2_tellSeconds_43 rfl ?_
          refine g_aload_n 0 _ dX2_tellSeconds_45 rfl rfl ?_
          refine gf_X2_11 rfl dX2_tellSeconds_46 ?_
          refine g_iload _ dX2_tellSeconds_49 rfl ?_
          refine g_iconst (nI 4) dX2_tellSeconds_51 rfl ?_
          refine g_iaddN dX2_tellSeconds_52 ?_
          refine g_at 53 rfl ?_
          refine g_iaload (j := q * 5 + 4) isI_29 (rfl) (by omega) (by omega) dX2_tellSeconds_53 ?_
          refine g_top (w := .int (a (q * 5 + 4))) (congrArg Value.int rfl) ?_
          refine g_iload_n 2 _ dX2_tellSeconds_54 rfl rfl ?_
          refine g_isub dX2_tellSeconds_55 ?_
          refine g_mmax rfl tz_523 (Nat.le_of_ble_eq_true rfl) (Nat.le_of_ble_eq_true rfl) dX2_tellSeconds_56 ?_
          refine g_top (w := .int L2) (congrArg Value.int hL2) ?_
          refine g_istore [some (.ref 4), some (.int (nI p)), some (.int (nI h)), some (.int (nI q)), some (.int (nI (q * 5))), some (.int L2), none, none] dX2_tellSeconds_59 (Nat.le_of_ble_eq_true rfl) rfl rfl ?_
          refine g_iload _ dX2_tellSeconds_61 rfl ?_
          refine g_iload_n 2 _ dX2_tellSeconds_63 rfl rfl ?_
          refine g_aload_n 0 _ dX2_tellSeconds_64 rfl rfl ?_
          refine g_at 65 rfl ?_
          refine gf_X2_15 rfl dX2_tellSeconds_65 ?_
          refine g_iload _ dX2_tellSeconds_68 rfl ?_
          refine g_iconst (nI 2) dX2_tellSeconds_70 rfl ?_
          refine g_iaddN dX2_tellSeconds_71 ?_
          refine g_iaload (j := q * 5 + 2) isI_30 (rfl) (by omega) (by omega) dX2_tellSeconds_72 ?_
          refine g_top (w := .int (b (q * 5 + 2))) (congrArg Value.int rfl) ?_
          refine g_isub dX2_tellSeconds_73 ?_
          refine g_mmax rfl tz_523 (Nat.le_of_ble_eq_true rfl) (Nat.le_of_ble_eq_true rfl) dX2_tellSeconds_74 ?_
          refine g_top (w := .int L3) (congrArg Value.int hL3) ?_
          refine g_istore [some (.ref 4), some (.int (nI p)), some (.int (nI h)), some (.int (nI q)), some (.int (nI (q * 5))), some (.int L3), none, none] dX2_tellSeconds_77 (Nat.le_of_ble_eq_true rfl) rfl rfl ?_
          refine g_at 79 rfl ?_
          refine g_bipush (nI 9) dX2_tellSeconds_79 rfl ?_
          refine g_aload_n 0 _ dX2_tellSeconds_81 rfl rfl ?_
          refine gf_X2_15 rfl dX2_tellSeconds_82 ?_
          refine g_iload _ dX2_tellSeconds_85 rfl ?_
          refine g_iconst (nI 1) dX2_tellSeconds_87 rfl ?_
          refine g_iaddN dX2_tellSeconds_88 ?_
          refine g_iaload (j := q * 5 + 1) isI_30 (rfl) (by omega) (by omega) dX2_tellSeconds_89 ?_
          refine g_top (w := .int (b (q * 5 + 1))) (congrArg Value.int rfl) ?_
          refine g_mmin rfl tz_526 (Nat.le_of_ble_eq_true rfl) (Nat.le_of_ble_eq_true rfl) dX2_tellSeconds_90 ?_
          refine g_top (w := .int H1) (congrArg Value.int hH1) ?_
          refine g_at 93 rfl ?_
          refine g_istore [some (.ref 4), some (.int (nI p)), some (.int (nI h)), some (.int (nI q)), some (.int (nI (q * 5))), some (.int L3), some (.int H1), none] dX2_tellSeconds_93 (Nat.le_of_ble_eq_true rfl) rfl rfl ?_
          refine g_iload _ dX2_tellSeconds_95 rfl ?_
          refine g_aload_n 0 _ dX2_tellSeconds_97 rfl rfl ?_
          refine gf_X2_15 rfl dX2_tellSeconds_98 ?_
          refine g_iload _ dX2_tellSeconds_101 rfl ?_
          refine g_iconst (nI 4) dX2_tellSeconds_103 rfl ?_
          refine g_iaddN dX2_tellSeconds_104 ?_
          refine g_iaload (j := q * 5 + 4) isI_30 (rfl) (by omega) (by omega) dX2_tellSeconds_105 ?_
          refine g_top (w := .int (b (q * 5 + 4))) (congrArg Value.int rfl) ?_
          refine g_at 106 rfl ?_
          refine g_iload_n 2 _ dX2_tellSeconds_106 rfl rfl ?_
          refine g_isub dX2_tellSeconds_107 ?_
          refine g_mmin rfl tz_526 (Nat.le_of_ble_eq_true rfl) (Nat.le_of_ble_eq_true rfl) dX2_tellSeconds_108 ?_
          refine g_top (w := .int H2) (congrArg Value.int hH2) ?_
          refine g_istore [some (.ref 4), some (.int (nI p)), some (.int (nI h)), some (.int (nI q)), some (.int (nI (q * 5))), some (.int L3), some (.int H2), none] dX2_tellSeconds_111 (Nat.le_of_ble_eq_true rfl) rfl rfl ?_
          refine g_iload _ dX2_tellSeconds_113 rfl ?_
          refine g_iload_n 2 _ dX2_tellSeconds_115 rfl rfl ?_
          refine g_aload_n 0 _ dX2_tellSeconds_116 rfl rfl ?_
          refine gf_X2_11 rfl dX2_tellSeconds_117 ?_
          refine g_at 120 rfl ?_
          refine g_iload _ dX2_tellSeconds_120 rfl ?_
          refine g_iconst (nI 2) dX2_tellSeconds_122 rfl ?_
          refine g_iaddN dX2_tellSeconds_123 ?_
          refine g_iaload (j := q * 5 + 2) isI_29 (rfl) (by omega) (by omega) dX2_tellSeconds_124 ?_
          refine g_top (w := .int (a (q * 5 + 2))) (congrArg Value.int rfl) ?_
          refine g_isub dX2_tellSeconds_125 ?_
          refine g_mmin rfl tz_526 (Nat.le_of_ble_eq_true rfl) (Nat.le_of_ble_eq_true rfl) dX2_tellSeconds_126 ?_
          refine g_top (w := .int H3) (congrArg Value.int hH3) ?_
          refine g_istore [some (.ref 4), some (.int (nI p)), some (.int (nI h)), some (.int (nI q)), some (.int (nI (q * 5))), some (.int L3), some (.int H3), none] dX2_tellSeconds_129 (Nat.le_of_ble_eq_true rfl) rfl rfl ?_
          refine g_iload _ dX2_tellSeconds_131 rfl ?_
          refine g_at 133 rfl ?_
          refine g_istore [some (.ref 4), some (.int (nI p)), some (.int (nI h)), some (.int (nI q)), some (.int (nI (q * 5))), some (.int L3), some (.int H3), some (.int L3)] dX2_tellSeconds_133 (Nat.le_of_ble_eq_true rfl) rfl rfl ?_
          refine g_iload _ dX2_tellSeconds_135 rfl ?_
          refine g_iload _ dX2_tellSeconds_137 rfl ?_
          refine g_icmp_gt 167 dX2_tellSeconds_139 (by decide) (fun h139 => ?_) (fun h139 => ?_)
          · refine g_aload_n 0 _ dX2_tellSeconds_167 rfl rfl ?_
            refine g_dup dX2_tellSeconds_168 rfl ?_
            refine gf_X2_21 rfl dX2_tellSeconds_169 ?_
            refine g_top (w := .int (nI l.length)) (congrArg Value.int rfl) ?_
            refine g_iconst (nI 0) dX2_tellSeconds_172 rfl ?_
            refine g_iload _ dX2_tellSeconds_173 rfl ?_
            refine g_iload _ dX2_tellSeconds_175 rfl ?_
            refine g_isub dX2_tellSeconds_177 ?_
            refine g_at 178 rfl ?_
            refine g_iconst (nI 1) dX2_tellSeconds_178 rfl ?_
            refine g_iadd dX2_tellSeconds_179 ?_
            refine g_mmax rfl tz_523 (Nat.le_of_ble_eq_true rfl) (Nat.le_of_ble_eq_true rfl) dX2_tellSeconds_180 ?_
            refine g_top (w := .int (nI 0)) (congrArg Value.int r3) ?_
            refine g_iaddN dX2_tellSeconds_183 ?_
            refine gp_X2_21 rfl dX2_tellSeconds_184 ?_
            exact g_return dX2_tellSeconds_187 rfl (by rw [mF_4]; rfl)
          · rw [fa_lt] at h139; omega
        · exact absurd h24 (by decide)
  · have hls : lsA (μ.1 7) (μ.1 9) (miss9 (μ.1 9)) n c p h q = [] := lpF_nil (fun k k1 k2 => by
      unfold sq2; rw [if_neg (fun z => hok (by have := (hfit k (by omega)).mpr z; exact ⟨this.1, this.2.1⟩))])
    rw [hls, List.append_nil]
    refine ⟨g, ?_, hT⟩
    refine Ok.of (by decide) (Nat.le_of_ble_eq_true rfl) [some (.ref 4), some (.int (nI p)), some (.int (nI h)), some (.int (nI q)), none, none, none, none] rfl ?_
    refine g_iload_n 3 _ dX2_tellSeconds_0 rfl rfl ?_
    refine g_iconst (nI 5) dX2_tellSeconds_1 rfl ?_
    refine g_imulN dX2_tellSeconds_2 ?_
    refine g_istore [some (.ref 4), some (.int (nI p)), some (.int (nI h)), some (.int (nI q)), some (.int (nI (q * 5))), none, none, none] dX2_tellSeconds_3 (Nat.le_of_ble_eq_true rfl) rfl rfl ?_
    refine g_aload_n 0 _ dX2_tellSeconds_5 rfl rfl ?_
    refine g_iload _ dX2_tellSeconds_6 rfl ?_
    refine g_iconst (nI 0) dX2_tellSeconds_8 rfl ?_
    refine g_at 9 rfl ?_
    refine g_backi (g_runV (c_holds (mF μ a b g l.length) (nI 0) (w := q * 5) (by omega)) rfl mw_X2_holds mi_X2_holds ml_X2_29 isO_4 ⟨rfl, rfl, Nat.le_of_ble_eq_true rfl, Nat.le_of_ble_eq_true rfl⟩ rfl rfl (Nat.le_of_ble_eq_true rfl) dX2_tellSeconds_9) ?_
    refine g_top (w := .int (bI (a (q * 5) ≤ nI 0 ∧ nI 0 ≤ b (q * 5)))) rfl ?_
    refine g_if_eqB 27 dX2_tellSeconds_12 (by decide) (fun h12 => ?_) (fun h12 => ?_)
    · exact g_return dX2_tellSeconds_27 rfl rfl
    · refine g_aload_n 0 _ dX2_tellSeconds_15 rfl rfl ?_
      refine g_iload _ dX2_tellSeconds_16 rfl ?_
      refine g_iconst (nI 3) dX2_tellSeconds_18 rfl ?_
      refine g_iaddN dX2_tellSeconds_19 ?_
      refine g_iload_n 2 _ dX2_tellSeconds_20 rfl rfl ?_
      refine g_backi (g_runV (c_holds (mF μ a b g l.length) (nI h) (w := q * 5 + 3) (by omega)) rfl mw_X2_holds mi_X2_holds ml_X2_29 isO_4 ⟨rfl, rfl, Nat.le_of_ble_eq_true rfl, Nat.le_of_ble_eq_true rfl⟩ rfl rfl (Nat.le_of_ble_eq_true rfl) dX2_tellSeconds_21) ?_
      refine g_top (w := .int (bI (a (q * 5 + 3) ≤ nI h ∧ nI h ≤ b (q * 5 + 3)))) rfl ?_
      refine g_if_neB 28 dX2_tellSeconds_24 (by decide) (fun h24 => ?_) (fun h24 => ?_)
      · exact absurd ⟨by rw [fa_le, fa_le, nt0] at h12; exact h12, by rw [fa_le, fa_le, hhi] at h24; exact h24⟩ hok
      · exact g_return dX2_tellSeconds_27 rfl rfl
