/-! searchPairs, search, points -/
theorem Win_frame {F1 F2 rd : Nat → Int32} {c n z z2 : Nat} {a b a' b' : Nat → Int32} (h : WinE F1 F2 rd c n z a b) (hz : z + 5 ≤ z2 ∨ z2 + 5 ≤ z) (ha : Fr5 z2 a a') (hb : Fr5 z2 b b') : WinE F1 F2 rd c n z a' b' := by
  have ea : ∀ k, k < 5 → a' (z + k) = a (z + k) := fun k hk => ha _ (by omega)
  have eb : ∀ k, k < 5 → b' (z + k) = b (z + k) := fun k hk => hb _ (by omega)
  have e0 : a' z = a z := ea 0 (by decide)
  have f0 : b' z = b z := eb 0 (by decide)
  rcases h with h | h
  · refine Or.inl ⟨fun k hk => ?_, fun k hk v h1 h2 => ?_⟩
    · rw [ea k hk, eb k hk]; exact h.1 k hk
    · rw [ea k hk, eb k hk]; exact h.2 k hk v h1 h2
  · exact Or.inr ⟨h.1, by rw [e0, f0]; exact h.2⟩
abbrev shr (μ : Mm) (n p : Nat) : Nat → Int32 := fun s => μ.1 7 ((p + n - s) % n)
def Wins (μ : Mm) (c n p β : Nat) (a b : Nat → Int32) : Prop := ∀ q, p < q → q < β → WinE (shr μ n p) (shr μ n q) (μ.1 9) c n (q * 5) a b
/-- what stays in points() -/
def Pt (μ : Mm) (n c : Nat) : Prop := μ.1 1 2 = nI n ∧ n ≤ 60 ∧ c ≤ 1000 ∧ (∀ s, s < n → -1 ≤ (μ.1 7 s).toInt ∧ (μ.1 7 s).toInt ≤ 1) ∧ ∀ s, s < n → μ.1 9 s ≠ nI 1073741824 → -500000000 ≤ (μ.1 9 s).toInt ∧ (μ.1 9 s).toInt ≤ 500000000
theorem c_sp1 {μ : Mm} {g : Nat → Int32} {n c p t : Nat} (hP : Pt μ n c) (hp : p < n) : ∀ (m q : Nat) (a b : Nat → Int32), p < q → q + m = n → Wins μ c n p q a b → ∃ a' b', Wins μ c n p n a' b' ∧ ∀ R, G mX2_searchPairs (rmL 3) R (mF μ a' b' g t) 29 [some (.ref 4), some (.ref 1), some (.int (nI p)), some (.int (nI c)), some (.int (nI n)), none] [] → G mX2_searchPairs (rmL 3) R (mF μ a b g t) 5 [some (.ref 4), some (.ref 1), some (.int (nI p)), some (.int (nI c)), some (.int (nI q)), none] [] := by
  obtain ⟨hn, h60, hc, hmk, hrd⟩ := id hP
  intro m
  induction m with
  | zero =>
    intro q a b h1 h2 hW
    have hqn : q = n := by omega
    subst hqn
    refine ⟨a, b, hW, fun R hG => ?_⟩
    refine g_iload _ dX2_searchPairs_5 rfl ?_
    refine g_aload_n 1 _ dX2_searchPairs_7 rfl rfl ?_
    refine gf_X2_37 rfl dX2_searchPairs_8 ?_
    refine g_top (w := .int (nI q)) (congrArg Value.int hn) ?_
    refine g_icmp_geN 29 (by omega) (by omega) dX2_searchPairs_11 (by decide) (fun h11 => ?_) (fun h11 => ?_)
    · exact hG
    · exact absurd h11 (by omega)
  | succ m ih =>
    intro q a b h1 h2 hW
    obtain ⟨a1, b1, hO, hE, fa, fb⟩ := c_open2 μ a b g t hn h60 hc hmk hrd (p := p) (q := q) hp (by omega)
    obtain ⟨a', b', hW2, hG2⟩ := ih (q + 1) a1 b1 (by omega) (by omega) (fun q' k1 k2 => by
      by_cases e : q' = q
      · subst e; exact hE
      · exact Win_frame (hW q' k1 (by omega)) (by omega) fa fb)
    refine ⟨a', b', hW2, fun R hG => ?_⟩
    have hG3 := hG2 R hG
    refine g_iload _ dX2_searchPairs_5 rfl ?_
    refine g_aload_n 1 _ dX2_searchPairs_7 rfl rfl ?_
    refine gf_X2_37 rfl dX2_searchPairs_8 ?_
    refine g_top (w := .int (nI n)) (congrArg Value.int hn) ?_
    refine g_icmp_geN 29 (by omega) (by omega) dX2_searchPairs_11 (by decide) (fun h11 => ?_) (fun h11 => ?_)
    · exact absurd h11 (by omega)
    · refine g_aload_n 0 _ dX2_searchPairs_14 rfl rfl ?_
      refine g_aload_n 1 _ dX2_searchPairs_15 rfl rfl ?_
      refine g_iload_n 2 _ dX2_searchPairs_16 rfl rfl ?_
      refine g_iload _ dX2_searchPairs_17 rfl ?_
      refine g_iload_n 3 _ dX2_searchPairs_19 rfl rfl ?_
      refine g_backv (g_runV (hO) rfl mw_X2_openWindows mi_X2_openWindows ml_X2_25 isO_4 ⟨rfl, rfl, Nat.le_of_ble_eq_true rfl, Nat.le_of_ble_eq_true rfl⟩ rfl rfl (Nat.le_of_ble_eq_true rfl) dX2_searchPairs_20) ?_
      refine g_mem (μ' := mF μ a1 b1 g t) rfl ?_
      refine g_iincN [some (.ref 4), some (.ref 1), some (.int (nI p)), some (.int (nI c)), some (.int (nI (q + 1))), none] dX2_searchPairs_23 rfl (Nat.le_of_ble_eq_true rfl) rfl rfl ?_
      refine g_at 26 rfl ?_
      refine g_goto 5 dX2_searchPairs_26 (by decide) ?_
      exact hG3
abbrev ft5 (μ : Mm) (n c : Nat) : Nat → Nat → Nat → List Qd := lsA (μ.1 7) (μ.1 9) (miss9 (μ.1 9)) n c
theorem c_sp2 {μ : Mm} {a b : Nat → Int32} {n c p h : Nat} (hP : Pt μ n c) (hp : p < n) (hh : 1 ≤ h) (hh9 : h ≤ 9) (hW : Wins μ c n p n a b) : ∀ (m q : Nat) (l : List Qd) (g : Nat → Int32), p < q → q + m = n → Told l g → (l ++ lpF (ft5 μ n c p h) q m).length < 2000000000 → ∃ g', Told (l ++ lpF (ft5 μ n c p h) q m) g' ∧ ∀ R, G mX2_searchPairs (rmL 3) R (mF μ a b g' (l ++ lpF (ft5 μ n c p h) q m).length) 68 [some (.ref 4), some (.ref 1), some (.int (nI p)), some (.int (nI c)), some (.int (nI h)), some (.int (nI n))] [] → G mX2_searchPairs (rmL 3) R (mF μ a b g l.length) 44 [some (.ref 4), some (.ref 1), some (.int (nI p)), some (.int (nI c)), some (.int (nI h)), some (.int (nI q))] [] := by
  obtain ⟨hn, h60, hc, hmk, hrd⟩ := id hP
  intro m
  induction m with
  | zero =>
    intro q l g h1 h2 hT hl
    have hqn : q = n := by omega
    subst hqn
    have e : l ++ lpF (ft5 μ q c p h) q 0 = l := by simp [lpF]
    rw [e]
    refine ⟨g, hT, fun R hG => ?_⟩
    refine g_iload _ dX2_searchPairs_44 rfl ?_
    refine g_aload_n 1 _ dX2_searchPairs_46 rfl rfl ?_
    refine gf_X2_37 rfl dX2_searchPairs_47 ?_
    refine g_top (w := .int (nI q)) (congrArg Value.int hn) ?_
    refine g_icmp_geN 68 (by omega) (by omega) dX2_searchPairs_50 (by decide) (fun h50 => ?_) (fun h50 => ?_)
    · exact hG
    · exact absurd h50 (by omega)
  | succ m ih =>
    intro q l g h1 h2 hT hl
    rw [lpF, ← List.append_assoc] at hl ⊢
    have hl2 : l.length + 9 < 2 ^ 31 := by simp only [List.length_append] at hl; omega
    obtain ⟨g1, hO, hT1⟩ := c_tellSeconds μ a b g (n := n) (c := c) (p := p) (h := h) (q := q) l hh hh9 hp (by omega) h60 hmk (hW q h1 (by omega)) hT hl2
    obtain ⟨g', hT2, hG2⟩ := ih (q + 1) (l ++ ft5 μ n c p h q) g1 (by omega) (by omega) hT1 hl
    refine ⟨g', hT2, fun R hG => ?_⟩
    have hG3 := hG2 R hG
    refine g_iload _ dX2_searchPairs_44 rfl ?_
    refine g_aload_n 1 _ dX2_searchPairs_46 rfl rfl ?_
    refine gf_X2_37 rfl dX2_searchPairs_47 ?_
    refine g_top (w := .int (nI n)) (congrArg Value.int hn) ?_
    refine g_icmp_geN 68 (by omega) (by omega) dX2_searchPairs_50 (by decide) (fun h50 => ?_) (fun h50 => ?_)
    · exact absurd h50 (by omega)
    · refine g_aload_n 0 _ dX2_searchPairs_53 rfl rfl ?_
      refine g_iload_n 2 _ dX2_searchPairs_54 rfl rfl ?_
      refine g_iload _ dX2_searchPairs_55 rfl ?_
      refine g_iload _ dX2_searchPairs_57 rfl ?_
      refine g_backv (g_runV (hO) rfl mw_X2_tellSeconds mi_X2_tellSeconds ml_X2_46 isO_4 ⟨rfl, rfl, Nat.le_of_ble_eq_true rfl, Nat.le_of_ble_eq_true rfl⟩ rfl rfl (Nat.le_of_ble_eq_true rfl) dX2_searchPairs_59) ?_
      refine g_mem (μ' := mF μ a b g1 (l ++ ft5 μ n c p h q).length) rfl ?_
      refine g_iincN [some (.ref 4), some (.ref 1), some (.int (nI p)), some (.int (nI c)), some (.int (nI h)), some (.int (nI (q + 1)))] dX2_searchPairs_62 rfl (Nat.le_of_ble_eq_true rfl) rfl rfl ?_
      refine g_goto 44 dX2_searchPairs_65 (by decide) ?_
      exact hG3
theorem c_sp3 {μ : Mm} {a b : Nat → Int32} {n c p : Nat} (hP : Pt μ n c) (hp : p < n) (hW : Wins μ c n p n a b) : ∀ (m h : Nat) (l : List Qd) (g : Nat → Int32), 1 ≤ h → h + m = 10 → Told l g → (l ++ lpF (lsB (μ.1 7) (μ.1 9) (miss9 (μ.1 9)) n c p) h m).length < 2000000000 → ∃ g', Told (l ++ lpF (lsB (μ.1 7) (μ.1 9) (miss9 (μ.1 9)) n c p) h m) g' ∧ G mX2_searchPairs (rmL 3) (none, mF μ a b g' (l ++ lpF (lsB (μ.1 7) (μ.1 9) (miss9 (μ.1 9)) n c p) h m).length) (mF μ a b g l.length) 32 [some (.ref 4), some (.ref 1), some (.int (nI p)), some (.int (nI c)), some (.int (nI h)), none] [] := by
  obtain ⟨hn, h60, hc, hmk, hrd⟩ := id hP
  intro m
  induction m with
  | zero =>
    intro h l g h1 h2 hT hl
    have e : l ++ lpF (lsB (μ.1 7) (μ.1 9) (miss9 (μ.1 9)) n c p) h 0 = l := by simp [lpF]
    rw [e]
    refine ⟨g, hT, ?_⟩
    refine g_iload _ dX2_searchPairs_32 rfl ?_
    refine g_bipush (nI 9) dX2_searchPairs_34 rfl ?_
    refine g_icmp_gtN 74 (by omega) (by omega) dX2_searchPairs_36 (by decide) (fun h36 => ?_) (fun h36 => ?_)
    · exact g_return dX2_searchPairs_74 rfl rfl
    · exact absurd h36 (by omega)
  | succ m ih =>
    intro h l g h1 h2 hT hl
    rw [lpF, ← List.append_assoc] at hl ⊢
    have hl2 : (l ++ lpF (ft5 μ n c p h) (p + 1) (n - (p + 1))).length < 2000000000 := by
      rw [List.length_append] at hl
      have : (l ++ lpF (ft5 μ n c p h) (p + 1) (n - (p + 1))).length = (l ++ lsB (μ.1 7) (μ.1 9) (miss9 (μ.1 9)) n c p h).length := rfl
      omega
    obtain ⟨g1, hT1, hG1⟩ := c_sp2 (a := a) (b := b) hP hp h1 (by omega) hW (n - (p + 1)) (p + 1) l g (by omega) (by omega) hT hl2
    obtain ⟨g', hT2, hG2⟩ := ih (h + 1) (l ++ lsB (μ.1 7) (μ.1 9) (miss9 (μ.1 9)) n c p h) g1 (by omega) (by omega) hT1 hl
    refine ⟨g', hT2, ?_⟩
    have E : G mX2_searchPairs (rmL 3) (none, mF μ a b g' ((l ++ lsB (μ.1 7) (μ.1 9) (miss9 (μ.1 9)) n c p h) ++ lpF (lsB (μ.1 7) (μ.1 9) (miss9 (μ.1 9)) n c p) (h + 1) m).length) (mF μ a b g1 (l ++ lsB (μ.1 7) (μ.1 9) (miss9 (μ.1 9)) n c p h).length) 68 [some (.ref 4), some (.ref 1), some (.int (nI p)), some (.int (nI c)), some (.int (nI h)), some (.int (nI n))] [] := by
      refine g_iincN [some (.ref 4), some (.ref 1), some (.int (nI p)), some (.int (nI c)), some (.int (nI (h + 1))), some (.int (nI n))] dX2_searchPairs_68 rfl (Nat.le_of_ble_eq_true rfl) rfl rfl ?_
      refine g_goto 32 dX2_searchPairs_71 (by decide) ?_
      exact g_drop 5 _ rfl hG2
    have hG3 := hG1 _ E
    refine g_iload _ dX2_searchPairs_32 rfl ?_
    refine g_bipush (nI 9) dX2_searchPairs_34 rfl ?_
    refine g_icmp_gtN 74 (by omega) (by omega) dX2_searchPairs_36 (by decide) (fun h36 => ?_) (fun h36 => ?_)
    · exact absurd h36 (by omega)
    · refine g_iload_n 2 _ dX2_searchPairs_39 rfl rfl ?_
      refine g_iconst (nI 1) dX2_searchPairs_40 rfl ?_
      refine g_iaddN dX2_searchPairs_41 ?_
      refine g_istore [some (.ref 4), some (.ref 1), some (.int (nI p)), some (.int (nI c)), some (.int (nI h)), some (.int (nI (p + 1)))] dX2_searchPairs_42 (Nat.le_of_ble_eq_true rfl) rfl rfl ?_
      exact hG3
theorem c_searchPairs {μ : Mm} (a b g : Nat → Int32) {n c p : Nat} (l : List Qd) (hP : Pt μ n c) (hp : p < n) (hT : Told l g) (hl : (l ++ lsC (μ.1 7) (μ.1 9) (miss9 (μ.1 9)) n c p).length < 2000000000) : ∃ a' b' g', Told (l ++ lsC (μ.1 7) (μ.1 9) (miss9 (μ.1 9)) n c p) g' ∧ Ok mX2_searchPairs (rmL 3) [.ref 4, .ref 1, .int (nI p), .int (nI c)] (mF μ a b g l.length) (none, mF μ a' b' g' (l ++ lsC (μ.1 7) (μ.1 9) (miss9 (μ.1 9)) n c p).length) := by
  have h60 := hP.2.1
  obtain ⟨a', b', hW, hG1⟩ := c_sp1 (g := g) (t := l.length) hP hp (n - (p + 1)) (p + 1) a b (by omega) (by omega) (fun q k1 k2 => absurd k2 (by omega))
  obtain ⟨g', hT2, hG2⟩ := c_sp3 (a := a') (b := b') hP hp hW 9 1 l g (by omega) (by omega) hT hl
  refine ⟨a', b', g', hT2, ?_⟩
  refine Ok.of (by decide) (Nat.le_of_ble_eq_true rfl) [some (.ref 4), some (.ref 1), some (.int (nI p)), some (.int (nI c)), none, none] rfl ?_
  have E : G mX2_searchPairs (rmL 3) (none, mF μ a' b' g' (l ++ lsC (μ.1 7) (μ.1 9) (miss9 (μ.1 9)) n c p).length) (mF μ a' b' g l.length) 29 [some (.ref 4), some (.ref 1), some (.int (nI p)), some (.int (nI c)), some (.int (nI n)), none] [] := by
    refine g_iconst (nI 1) dX2_searchPairs_29 rfl ?_
    refine g_istore [some (.ref 4), some (.ref 1), some (.int (nI p)), some (.int (nI c)), some (.int (nI 1)), none] dX2_searchPairs_30 (Nat.le_of_ble_eq_true rfl) rfl rfl ?_
    exact hG2
  have hG3 := hG1 _ E
  refine g_iload_n 2 _ dX2_searchPairs_0 rfl rfl ?_
  refine g_iconst (nI 1) dX2_searchPairs_1 rfl ?_
  refine g_iaddN dX2_searchPairs_2 ?_
  refine g_istore [some (.ref 4), some (.ref 1), some (.int (nI p)), some (.int (nI c)), some (.int (nI (p + 1))), none] dX2_searchPairs_3 (Nat.le_of_ble_eq_true rfl) rfl rfl ?_
  exact hG3
/-- search: the pairs, from a on -/
theorem c_se3 {μ : Mm} {n c : Nat} (hP : Pt μ n c) : ∀ (m p : Nat) (l : List Qd) (a b g : Nat → Int32), p + m = n → Told l g → (l ++ lpF (lsC (μ.1 7) (μ.1 9) (miss9 (μ.1 9)) n c) p m).length < 2000000000 → ∃ a' b' g', Told (l ++ lpF (lsC (μ.1 7) (μ.1 9) (miss9 (μ.1 9)) n c) p m) g' ∧ G mX2_search (rmL 4) (none, mF μ a' b' g' (l ++ lpF (lsC (μ.1 7) (μ.1 9) (miss9 (μ.1 9)) n c) p m).length) (mF μ a b g l.length) 100 [some (.ref 4), some (.ref 1), some (.int (nI c)), some (.int (nI p)), none] [] := by
  obtain ⟨hn, h60, hc, hmk, hrd⟩ := id hP
  intro m
  induction m with
  | zero =>
    intro p l a b g h2 hT hl
    have e : l ++ lpF (lsC (μ.1 7) (μ.1 9) (miss9 (μ.1 9)) n c) p 0 = l := by simp [lpF]
    rw [e]
    refine ⟨a, b, g, hT, ?_⟩
    refine g_iload_n 3 _ dX2_search_100 rfl rfl ?_
    refine g_aload_n 1 _ dX2_search_101 rfl rfl ?_
    refine gf_X2_37 rfl dX2_search_102 ?_
    refine g_top (w := .int (nI n)) (congrArg Value.int hn) ?_
    refine g_icmp_geN 121 (by omega) (by omega) dX2_search_105 (by decide) (fun h105 => ?_) (fun h105 => ?_)
    · exact g_return dX2_search_121 rfl rfl
    · exact absurd h105 (by omega)
  | succ m ih =>
    intro p l a b g h2 hT hl
    rw [lpF, ← List.append_assoc] at hl ⊢
    obtain ⟨a1, b1, g1, hT1, hO⟩ := c_searchPairs a b g l hP (p := p) (by omega) hT (by rw [List.length_append] at hl; omega)
    obtain ⟨a', b', g', hT2, hG2⟩ := ih (p + 1) (l ++ lsC (μ.1 7) (μ.1 9) (miss9 (μ.1 9)) n c p) a1 b1 g1 (by omega) hT1 hl
    refine ⟨a', b', g', hT2, ?_⟩
    refine g_iload_n 3 _ dX2_search_100 rfl rfl ?_
    refine g_aload_n 1 _ dX2_search_101 rfl rfl ?_
    refine gf_X2_37 rfl dX2_search_102 ?_
    refine g_top (w := .int (nI n)) (congrArg Value.int hn) ?_
    refine g_icmp_geN 121 (by omega) (by omega) dX2_search_105 (by decide) (fun h105 => ?_) (fun h105 => ?_)
    · exact absurd h105 (by omega)
    · refine g_aload_n 0 _ dX2_search_108 rfl rfl ?_
      refine g_aload_n 1 _ dX2_search_109 rfl rfl ?_
      refine g_iload_n 3 _ dX2_search_110 rfl rfl ?_
      refine g_iload_n 2 _ dX2_search_111 rfl rfl ?_
      refine g_backv (g_runV (hO) rfl mw_X2_searchPairs mi_X2_searchPairs ml_X2_42 isO_4 ⟨rfl, rfl, Nat.le_of_ble_eq_true rfl, Nat.le_of_ble_eq_true rfl⟩ rfl rfl (Nat.le_of_ble_eq_true rfl) dX2_search_112) ?_
      refine g_mem (μ' := mF μ a1 b1 g1 (l ++ lsC (μ.1 7) (μ.1 9) (miss9 (μ.1 9)) n c p).length) rfl ?_
      refine g_iincN [some (.ref 4), some (.ref 1), some (.int (nI c)), some (.int (nI (p + 1))), none] dX2_search_115 rfl (Nat.le_of_ble_eq_true rfl) rfl rfl ?_
      refine g_goto 100 dX2_search_118 (by decide) ?_
      exact hG2
