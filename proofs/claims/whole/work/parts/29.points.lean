/-! searchPairs, search, points -/
theorem Win_frame {F1 F2 rd : Nat → Int32} {c n z z2 : Nat} {a b a' b' : Nat → Int32} (h : WinE F1 F2 rd c n z a b) (hz : z + 5 ≤ z2 ∨ z2 + 5 ≤ z) (ha : Fr5 z2 a a') (hb : Fr5 z2 b b') : WinE F1 F2 rd c n z a' b' := by
  have ea : ∀ k, k < 5 → a' (z + k) = a (z + k) := fun k hk => ha _ (by omega)
  have eb : ∀ k, k < 5 → b' (z + k) = b (z + k) := fun k hk => hb _ (by omega)
  have e0 : a' z = a z := ea 0 (by decide)
  have f0 : b' z = b z := eb 0 (by decide)
  rcases h with h | h
  · refine Or.inl ⟨fun k hk => ?_, fun k hk v h1 h2 => ?_⟩
    · rw [ea k hk, eb k hk]; exact h.1 k hk
    · rw [ea k hk, eb k hk]; exact h.2 k hk v h1 h2
  · exact Or.inr ⟨h.1, by rw [e0, f0]; exact h.2⟩
abbrev shr (μ : Mm) (n p : Nat) : Nat → Int32 := fun s => μ.1 7 ((p + n - s) % n)
def Wins (μ : Mm) (c n p β : Nat) (a b : Nat → Int32) : Prop := ∀ q, p < q → q < β → WinE (shr μ n p) (shr μ n q) (μ.1 9) c n (q * 5) a b
/-- what stays in points() -/
def Pt (μ : Mm) (n c : Nat) : Prop := μ.1 1 2 = nI n ∧ n ≤ 60 ∧ c ≤ 1000 ∧ (∀ s, s < n → -1 ≤ (μ.1 7 s).toInt ∧ (μ.1 7 s).toInt ≤ 1) ∧ ∀ s, s < n → μ.1 9 s ≠ nI 1073741824 → -500000000 ≤ (μ.1 9 s).toInt ∧ (μ.1 9 s).toInt ≤ 500000000
theorem c_sp1 {μ : Mm} {g : Nat → Int32} {n c p t : Nat} (hP : Pt μ n c) (hp : p < n) : ∀ (m q : Nat) (a b : Nat → Int32), p < q → q + m = n → Wins μ c n p q a b → ∃ a' b', Wins μ c n p n a' b' ∧ ∀ R, G mX2_searchPairs (rmL 3) R (mF μ a' b' g t) 29 [some (.ref 4), some (.ref 1), some (.int (nI p)), some (.int (nI c)), some (.int (nI n)), none] [] → G mX2_searchPairs (rmL 3) R (mF μ a b g t) 5 [some (.ref 4), some (.ref 1), some (.int (nI p)), some (.int (nI c)), some (.int (nI q)), none] [] := by
  obtain ⟨hn, h60, hc, hmk, hrd⟩ := id hP
  intro m
  induction m with
  | zero =>
    intro q a b h1 h2 hW
    have hqn : q = n := by omega
    subst hqn
    refine ⟨a, b, hW, fun R hG => ?_⟩
    refine g_iload _ dX2_searchPairs_5 rfl ?_
    refine g_aload_n 1 _ dX2_searchPairs_7 rfl rfl ?_
    refine gf_X2_37 rfl dX2_searchPairs_8 ?_
    refine g_top (w := .int (nI q)) (congrArg Value.int hn) ?_
    refine g_icmp_geN 29 (by omega) (by omega) dX2_searchPairs_11 (by decide) (fun h11 => ?_) (fun h11 => ?_)
    · exact hG
    · exact absurd h11 (by omega)
  | succ m ih =>
    intro q a b h1 h2 hW
    obtain ⟨a1, b1, hO, hE, fa, fb⟩ := c_open2 μ a b g t hn h60 hc hmk hrd (p := p) (q := q) hp (by omega)
    obtain ⟨a', b', hW2, hG2⟩ := ih (q + 1) a1 b1 (by omega) (by omega) (fun q' k1 k2 => by
      by_cases e : q' = q
      · subst e; exact hE
      · exact Win_frame (hW q' k1 (by omega)) (by omega) fa fb)
    refine ⟨a', b', hW2, fun R hG => ?_⟩
    have hG3 := hG2 R hG
    refine g_iload _ dX2_searchPairs_5 rfl ?_
    refine g_aload_n 1 _ dX2_searchPairs_7 rfl rfl ?_
    refine gf_X2_37 rfl dX2_searchPairs_8 ?_
    refine g_top (w := .int (nI n)) (congrArg Value.int hn) ?_
    refine g_icmp_geN 29 (by omega) (by omega) dX2_searchPairs_11 (by decide) (fun h11 => ?_) (fun h11 => ?_)
    · exact absurd h11 (by omega)
    · refine g_aload_n 0 _ dX2_searchPairs_14 rfl rfl ?_
      refine g_aload_n 1 _ dX2_searchPairs_15 rfl rfl ?_
      refine g_iload_n 2 _ dX2_searchPairs_16 rfl rfl ?_
      refine g_iload _ dX2_searchPairs_17 rfl ?_
      refine g_iload_n 3 _ dX2_searchPairs_19 rfl rfl ?_
      refine g_backv (g_runV (hO) rfl mw_X2_openWindows mi_X2_openWindows ml_X2_25 isO_4 ⟨rfl, rfl, Nat.le_of_ble_eq_true rfl, Nat.le_of_ble_eq_true rfl⟩ rfl rfl (Nat.le_of_ble_eq_true rfl) dX2_searchPairs_20) ?_
      refine g_mem (μ' := mF μ a1 b1 g t) rfl ?_
      refine g_iincN [some (.ref 4), some (.ref 1), some (.int (nI p)), some (.int (nI c)), some (.int (nI (q + 1))), none] dX2_searchPairs_23 rfl (Nat.le_of_ble_eq_true rfl) rfl rfl ?_
      refine g_at 26 rfl ?_
      refine g_goto 5 dX2_searchPairs_26 (by decide) ?_
      exact hG3
abbrev ft5 (μ : Mm) (n c : Nat) : Nat → Nat → Nat → List Qd := lsA (μ.1 7) (μ.1 9) (miss9 (μ.1 9)) n c
theorem c_sp2 {μ : Mm} {a b : Nat → Int32} {n c p h : Nat} (hP : Pt μ n c) (hp : p < n) (hh : 1 ≤ h) (hh9 : h ≤ 9) (hW : Wins μ c n p n a b) : ∀ (m q : Nat) (l : List Qd) (g : Nat → Int32), p < q → q + m = n → Told l g → (l ++ lpF (ft5 μ n c p h) q m).length < 2000000000 → ∃ g', Told (l ++ lpF (ft5 μ n c p h) q m) g' ∧ ∀ R, G mX2_searchPairs (rmL 3) R (mF μ a b g' (l ++ lpF (ft5 μ n c p h) q m).length) 68 [some (.ref 4), some (.ref 1), some (.int (nI p)), some (.int (nI c)), some (.int (nI h)), some (.int (nI n))] [] → G mX2_searchPairs (rmL 3) R (mF μ a b g l.length) 44 [some (.ref 4), some (.ref 1), some (.int (nI p)), some (.int (nI c)), some (.int (nI h)), some (.int (nI q))] [] := by
  obtain ⟨hn, h60, hc, hmk, hrd⟩ := id hP
  intro m
  induction m with
  | zero =>
    intro q l g h1 h2 hT hl
    have hqn : q = n := by omega
    subst hqn
    have e : l ++ lpF (ft5 μ q c p h) q 0 = l := by simp [lpF]
    rw [e]
    refine ⟨g, hT, fun R hG => ?_⟩
    refine g_iload _ dX2_searchPairs_44 rfl ?_
    refine g_aload_n 1 _ dX2_searchPairs_46 rfl rfl ?_
    refine gf_X2_37 rfl dX2_searchPairs_47 ?_
    refine g_top (w := .int (nI q)) (congrArg Value.int hn) ?_
    refine g_icmp_geN 68 (by omega) (by omega) dX2_searchPairs_50 (by decide) (fun h50 => ?_) (fun h50 => ?_)
    · exact hG
    · exact absurd h50 (by omega)
  | succ m ih =>
    intro q l g h1 h2 hT hl
    rw [lpF, ← List.append_assoc] at hl ⊢
    have hl2 : l.length + 9 < 2 ^ 31 := by simp only [List.length_append] at hl; omega
    obtain ⟨g1, hO, hT1⟩ := c_tellSeconds μ a b g (n := n) (c := c) (p := p) (h := h) (q := q) l hh hh9 hp (by omega) h60 hmk (hW q h1 (by omega)) hT hl2
    obtain ⟨g', hT2, hG2⟩ := ih (q + 1) (l ++ ft5 μ n c p h q) g1 (by omega) (by omega) hT1 hl
    refine ⟨g', hT2, fun R hG => ?_⟩
    have hG3 := hG2 R hG
    refine g_iload _ dX2_searchPairs_44 rfl ?_
    refine g_aload_n 1 _ dX2_searchPairs_46 rfl rfl ?_
    refine gf_X2_37 rfl dX2_searchPairs_47 ?_
    refine g_top (w := .int (nI n)) (congrArg Value.int hn) ?_
    refine g_icmp_geN 68 (by omega) (by omega) dX2_searchPairs_50 (by decide) (fun h50 => ?_) (fun h50 => ?_)
    · exact absurd h50 (by omega)
    · refine g_aload_n 0 _ dX2_searchPairs_53 rfl rfl ?_
      refine g_iload_n 2 _ dX2_searchPairs_54 rfl rfl ?_
      refine g_iload _ dX2_searchPairs_55 rfl ?_
      refine g_iload _ dX2_searchPairs_57 rfl ?_
      refine g_backv (g_runV (hO) rfl mw_X2_tellSeconds mi_X2_tellSeconds ml_X2_46 isO_4 ⟨rfl, rfl, Nat.le_of_ble_eq_true rfl, Nat.le_of_ble_eq_true rfl⟩ rfl rfl (Nat.le_of_ble_eq_true rfl) dX2_searchPairs_59) ?_
      refine g_mem (μ' := mF μ a b g1 (l ++ ft5 μ n c p h q).length) rfl ?_
      refine g_iincN [some (.ref 4), some (.ref 1), some (.int (nI p)), some (.int (nI c)), some (.int (nI h)), some (.int (nI (q + 1)))] dX2_searchPairs_62 rfl (Nat.le_of_ble_eq_true rfl) rfl rfl ?_
      refine g_goto 44 dX2_searchPairs_65 (by decide) ?_
      exact hG3
theorem c_sp3 {μ : Mm} {a b : Nat → Int32} {n c p : Nat} (hP : Pt μ n c) (hp : p < n) (hW : Wins μ c n p n a b) : ∀ (m h : Nat) (l : List Qd) (g : Nat → Int32), 1 ≤ h → h + m = 10 → Told l g → (l ++ lpF (lsB (μ.1 7) (μ.1 9) (miss9 (μ.1 9)) n c p) h m).length < 2000000000 → ∃ g', Told (l ++ lpF (lsB (μ.1 7) (μ.1 9) (miss9 (μ.1 9)) n c p) h m) g' ∧ G mX2_searchPairs (rmL 3) (none, mF μ a b g' (l ++ lpF (lsB (μ.1 7) (μ.1 9) (miss9 (μ.1 9)) n c p) h m).length) (mF μ a b g l.length) 32 [some (.ref 4), some (.ref 1), some (.int (nI p)), some (.int (nI c)), some (.int (nI h)), none] [] := by
  obtain ⟨hn, h60, hc, hmk, hrd⟩ := id hP
  intro m
  induction m with
  | zero =>
    intro h l g h1 h2 hT hl
    have e : l ++ lpF (lsB (μ.1 7) (μ.1 9) (miss9 (μ.1 9)) n c p) h 0 = l := by simp [lpF]
    rw [e]
    refine ⟨g, hT, ?_⟩
    refine g_iload _ dX2_searchPairs_32 rfl ?_
    refine g_bipush (nI 9) dX2_searchPairs_34 rfl ?_
    refine g_icmp_gtN 74 (by omega) (by omega) dX2_searchPairs_36 (by decide) (fun h36 => ?_) (fun h36 => ?_)
    · exact g_return dX2_searchPairs_74 rfl rfl
    · exact absurd h36 (by omega)
  | succ m ih =>
    intro h l g h1 h2 hT hl
    rw [lpF, ← List.append_assoc] at hl ⊢
    have hl2 : (l ++ lpF (ft5 μ n c p h) (p + 1) (n - (p + 1))).length < 2000000000 := by
      rw [List.length_append] at hl
      have : (l ++ lpF (ft5 μ n c p h) (p + 1) (n - (p + 1))).length = (l ++ lsB (μ.1 7) (μ.1 9) (miss9 (μ.1 9)) n c p h).length := rfl
      omega
    obtain ⟨g1, hT1, hG1⟩ := c_sp2 (a := a) (b := b) hP hp h1 (by omega) hW (n - (p + 1)) (p + 1) l g (by omega) (by omega) hT hl2
    obtain ⟨g', hT2, hG2⟩ := ih (h + 1) (l ++ lsB (μ.1 7) (μ.1 9) (miss9 (μ.1 9)) n c p h) g1 (by omega) (by omega) hT1 hl
    refine ⟨g', hT2, ?_⟩
    have E : G mX2_searchPairs (rmL 3) (none, mF μ a b g' ((l ++ lsB (μ.1 7) (μ.1 9) (miss9 (μ.1 9)) n c p h) ++ lpF (lsB (μ.1 7) (μ.1 9) (miss9 (μ.1 9)) n c p) (h + 1) m).length) (mF μ a b g1 (l ++ lsB (μ.1 7) (μ.1 9) (miss9 (μ.1 9)) n c p h).length) 68 [some (.ref 4), some (.ref 1), some (.int (nI p)), some (.int (nI c)), some (.int (nI h)), some (.int (nI n))] [] := by
      refine g_iincN [some (.ref 4), some (.ref 1), some (.int (nI p)), some (.int (nI c)), some (.int (nI (h + 1))), some (.int (nI n))] dX2_searchPairs_68 rfl (Nat.le_of_ble_eq_true rfl) rfl rfl ?_
      refine g_goto 32 dX2_searchPairs_71 (by decide) ?_
      exact g_drop 5 _ rfl hG2
    have hG3 := hG1 _ E
    refine g_iload _ dX2_searchPairs_32 rfl ?_
    refine g_bipush (nI 9) dX2_searchPairs_34 rfl ?_
    refine g_icmp_gtN 74 (by omega) (by omega) dX2_searchPairs_36 (by decide) (fun h36 => ?_) (fun h36 => ?_)
    · exact absurd h36 (by omega)
    · refine g_iload_n 2 _ dX2_searchPairs_39 rfl rfl ?_
      refine g_iconst (nI 1) dX2_searchPairs_40 rfl ?_
      refine g_iaddN dX2_searchPairs_41 ?_
      refine g_istore [some (.ref 4), some (.ref 1), some (.int (nI p)), some (.int (nI c)), some (.int (nI h)), some (.int (nI (p + 1)))] dX2_searchPairs_42 (Nat.le_of_ble_eq_true rfl) rfl rfl ?_
      exact hG3
theorem c_searchPairs {μ : Mm} (a b g : Nat → Int32) {n c p : Nat} (l : List Qd) (hP : Pt μ n c) (hp : p < n) (hT : Told l g) (hl : (l ++ lsC (μ.1 7) (μ.1 9) (miss9 (μ.1 9)) n c p).length < 2000000000) : ∃ a' b' g', Told (l ++ lsC (μ.1 7) (μ.1 9) (miss9 (μ.1 9)) n c p) g' ∧ Ok mX2_searchPairs (rmL 3) [.ref 4, .ref 1, .int (nI p), .int (nI c)] (mF μ a b g l.length) (none, mF μ a' b' g' (l ++ lsC (μ.1 7) (μ.1 9) (miss9 (μ.1 9)) n c p).length) := by
  have h60 := hP.2.1
  obtain ⟨a', b', hW, hG1⟩ := c_sp1 (g := g) (t := l.length) hP hp (n - (p + 1)) (p + 1) a b (by omega) (by omega) (fun q k1 k2 => absurd k2 (by omega))
  obtain ⟨g', hT2, hG2⟩ := c_sp3 (a := a') (b := b') hP hp hW 9 1 l g (by omega) (by omega) hT hl
  refine ⟨a', b', g', hT2, ?_⟩
  refine Ok.of (by decide) (Nat.le_of_ble_eq_true rfl) [some (.ref 4), some (.ref 1), some (.int (nI p)), some (.int (nI c)), none, none] rfl ?_
  have E : G mX2_searchPairs (rmL 3) (none, mF μ a' b' g' (l ++ lsC (μ.1 7) (μ.1 9) (miss9 (μ.1 9)) n c p).length) (mF μ a' b' g l.length) 29 [some (.ref 4), some (.ref 1), some (.int (nI p)), some (.int (nI c)), some (.int (nI n)), none] [] := by
    refine g_iconst (nI 1) dX2_searchPairs_29 rfl ?_
    refine g_istore [some (.ref 4), some (.ref 1), some (.int (nI p)), some (.int (nI c)), some (.int (nI 1)), none] dX2_searchPairs_30 (Nat.le_of_ble_eq_true rfl) rfl rfl ?_
    exact hG2
  have hG3 := hG1 _ E
  refine g_iload_n 2 _ dX2_searchPairs_0 rfl rfl ?_
  refine g_iconst (nI 1) dX2_searchPairs_1 rfl ?_
  refine g_iaddN dX2_searchPairs_2 ?_
  refine g_istore [some (.ref 4), some (.ref 1), some (.int (nI p)), some (.int (nI c)), some (.int (nI (p + 1))), none] dX2_searchPairs_3 (Nat.le_of_ble_eq_true rfl) rfl rfl ?_
  exact hG3
/-- search: the pairs, from a on -/
theorem c_se3 {μ : Mm} {n c : Nat} (hP : Pt μ n c) : ∀ (m p : Nat) (l : List Qd) (a b g : Nat → Int32), p + m = n → Told l g → (l ++ lpF (lsC (μ.1 7) (μ.1 9) (miss9 (μ.1 9)) n c) p m).length < 2000000000 → ∃ a' b' g', Told (l ++ lpF (lsC (μ.1 7) (μ.1 9) (miss9 (μ.1 9)) n c) p m) g' ∧ G mX2_search (rmL 4) (none, mF μ a' b' g' (l ++ lpF (lsC (μ.1 7) (μ.1 9) (miss9 (μ.1 9)) n c) p m).length) (mF μ a b g l.length) 100 [some (.ref 4), some (.ref 1), some (.int (nI c)), some (.int (nI p)), none] [] := by
  obtain ⟨hn, h60, hc, hmk, hrd⟩ := id hP
  intro m
  induction m with
  | zero =>
    intro p l a b g h2 hT hl
    have e : l ++ lpF (lsC (μ.1 7) (μ.1 9) (miss9 (μ.1 9)) n c) p 0 = l := by simp [lpF]
    rw [e]
    refine ⟨a, b, g, hT, ?_⟩
    refine g_iload_n 3 _ dX2_search_100 rfl rfl ?_
    refine g_aload_n 1 _ dX2_search_101 rfl rfl ?_
    refine gf_X2_37 rfl dX2_search_102 ?_
    refine g_top (w := .int (nI n)) (congrArg Value.int hn) ?_
    refine g_icmp_geN 121 (by omega) (by omega) dX2_search_105 (by decide) (fun h105 => ?_) (fun h105 => ?_)
    · exact g_return dX2_search_121 rfl rfl
    · exact absurd h105 (by omega)
  | succ m ih =>
    intro p l a b g h2 hT hl
    rw [lpF, ← List.append_assoc] at hl ⊢
    obtain ⟨a1, b1, g1, hT1, hO⟩ := c_searchPairs a b g l hP (p := p) (by omega) hT (by rw [List.length_append] at hl; omega)
    obtain ⟨a', b', g', hT2, hG2⟩ := ih (p + 1) (l ++ lsC (μ.1 7) (μ.1 9) (miss9 (μ.1 9)) n c p) a1 b1 g1 (by omega) hT1 hl
    refine ⟨a', b', g', hT2, ?_⟩
    refine g_iload_n 3 _ dX2_search_100 rfl rfl ?_
    refine g_aload_n 1 _ dX2_search_101 rfl rfl ?_
    refine gf_X2_37 rfl dX2_search_102 ?_
    refine g_top (w := .int (nI n)) (congrArg Value.int hn) ?_
    refine g_icmp_geN 121 (by omega) (by omega) dX2_search_105 (by decide) (fun h105 => ?_) (fun h105 => ?_)
    · exact absurd h105 (by omega)
    · refine g_aload_n 0 _ dX2_search_108 rfl rfl ?_
      refine g_aload_n 1 _ dX2_search_109 rfl rfl ?_
      refine g_iload_n 3 _ dX2_search_110 rfl rfl ?_
      refine g_iload_n 2 _ dX2_search_111 rfl rfl ?_
      refine g_backv (g_runV (hO) rfl mw_X2_searchPairs mi_X2_searchPairs ml_X2_42 isO_4 ⟨rfl, rfl, Nat.le_of_ble_eq_true rfl, Nat.le_of_ble_eq_true rfl⟩ rfl rfl (Nat.le_of_ble_eq_true rfl) dX2_search_112) ?_
      refine g_mem (μ' := mF μ a1 b1 g1 (l ++ lsC (μ.1 7) (μ.1 9) (miss9 (μ.1 9)) n c p).length) rfl ?_
      refine g_iincN [some (.ref 4), some (.ref 1), some (.int (nI c)), some (.int (nI (p + 1))), none] dX2_search_115 rfl (Nat.le_of_ble_eq_true rfl) rfl rfl ?_
      refine g_goto 100 dX2_search_118 (by decide) ?_
      exact hG2
theorem one_fit {μ : Mm} {a b : Nat → Int32} {n c p h : Nat} (hP : Pt μ n c) (hp : p < n) (hh9 : h ≤ 9) (hW : WinE (shr μ n p) (fun _ => 0) (μ.1 9) c n 0 a b) : (Hd a b 0 0 ∧ Hd a b 3 h) ↔ ftP (μ.1 7) (μ.1 9) (miss9 (μ.1 9)) n c p h 0 0 := by
  have h1 := WinE_one hW hh9 (fun s _ => hP.2.2.2.1 _ (Nat.mod_lt _ (by omega)))
  rw [Nat.zero_add] at h1
  refine h1.trans ⟨fun z s hs hm => ?_, fun z s hs hm => ?_⟩
  · have := z s hs (by simpa [miss9] using hm)
    simpa using this
  · have := z s hs (by simpa [miss9] using hm)
    simpa using this
theorem c_se1 {μ : Mm} {a b : Nat → Int32} {n c p : Nat} (hP : Pt μ n c) (hp : p < n) (hW : WinE (shr μ n p) (fun _ => 0) (μ.1 9) c n 0 a b) : ∀ (m h : Nat) (l : List Qd) (g : Nat → Int32), 1 ≤ h → h + m = 10 → Told l g → (l ++ lpF (sq1 (μ.1 7) (μ.1 9) (miss9 (μ.1 9)) n c p) h m).length < 2000000000 → ∃ g', Told (l ++ lpF (sq1 (μ.1 7) (μ.1 9) (miss9 (μ.1 9)) n c p) h m) g' ∧ ∀ R, G mX2_search (rmL 4) R (mF μ a b g' (l ++ lpF (sq1 (μ.1 7) (μ.1 9) (miss9 (μ.1 9)) n c p) h m).length) 92 [some (.ref 4), some (.ref 1), some (.int (nI c)), some (.int (nI p)), some (.int (nI 10))] [] → G mX2_search (rmL 4) R (mF μ a b g l.length) 51 [some (.ref 4), some (.ref 1), some (.int (nI c)), some (.int (nI p)), some (.int (nI h))] [] := by
  obtain ⟨hn, h60, hc, hmk, hrd⟩ := id hP
  intro m
  induction m with
  | zero =>
    intro h l g h1 h2 hT hl
    have h10 : h = 10 := by omega
    subst h10
    have e : l ++ lpF (sq1 (μ.1 7) (μ.1 9) (miss9 (μ.1 9)) n c p) 10 0 = l := by simp [lpF]
    rw [e]
    refine ⟨g, hT, fun R hG => ?_⟩
    refine g_iload _ dX2_search_51 rfl ?_
    refine g_bipush (nI 9) dX2_search_53 rfl ?_
    refine g_icmp_gtN 92 (by omega) (by omega) dX2_search_55 (by decide) (fun h55 => ?_) (fun h55 => ?_)
    · exact hG
    · exact absurd h55 (by omega)
  | succ m ih =>
    intro h l g h1 h2 hT hl
    have hhi : (nI h).toInt = h := nI_toInt (by omega)
    rw [lpF, ← List.append_assoc] at hl ⊢
    by_cases hf : ftP (μ.1 7) (μ.1 9) (miss9 (μ.1 9)) n c p h 0 0
    · have hq := (one_fit hP hp (show h ≤ 9 by omega) hW).mpr hf
      have es : sq1 (μ.1 7) (μ.1 9) (miss9 (μ.1 9)) n c p h = [(nI p, nI h, -1, nI 0)] := if_pos hf
      rw [es] at hl ⊢
      have hl9 : l.length < 2 ^ 31 := by simp only [List.length_append] at hl; omega
      obtain ⟨g', hT2, hG2⟩ := ih (h + 1) (l ++ [(nI p, nI h, -1, nI 0)]) _ (by omega) (by omega) (Told_tell (nI p, nI h, -1, nI 0) hT) hl
      refine ⟨g', hT2, fun R hG => ?_⟩
      have hG3 := hG2 R hG
      rw [show (l ++ [((nI p, nI h, -1, nI 0) : Qd)]).length = l.length + 1 by simp] at hG3
      refine g_iload _ dX2_search_51 rfl ?_
      refine g_bipush (nI 9) dX2_search_53 rfl ?_
      refine g_icmp_gtN 92 (by omega) (by omega) dX2_search_55 (by decide) (fun h55 => ?_) (fun h55 => ?_)
      · exact absurd h55 (by omega)
      · refine g_aload_n 0 _ dX2_search_58 rfl rfl ?_
        refine g_iconst (nI 0) dX2_search_59 rfl ?_
        refine g_iconst (nI 0) dX2_search_60 rfl ?_
        refine g_backi (g_runV ((c_holds (mF μ a b g l.length) (nI 0) (w := 0) (by decide)).to (by rw [bI_t (by rw [fa_le, fa_le, nt0]; exact hq.1)])) rfl mw_X2_holds mi_X2_holds ml_X2_29 isO_4 ⟨rfl, rfl, Nat.le_of_ble_eq_true rfl, Nat.le_of_ble_eq_true rfl⟩ rfl rfl (Nat.le_of_ble_eq_true rfl) dX2_search_61) ?_
        refine g_top (w := .int 1) rfl ?_
        refine g_if_eq 86 dX2_search_64 (by decide) (fun h64 => ?_) (fun h64 => ?_)
        · exact absurd h64 (by decide)
        · refine g_aload_n 0 _ dX2_search_67 rfl rfl ?_
          refine g_iconst (nI 3) dX2_search_68 rfl ?_
          refine g_iload _ dX2_search_69 rfl ?_
          refine g_backi (g_runV ((c_holds (mF μ a b g l.length) (nI h) (w := 3) (by decide)).to (by rw [bI_t (by rw [fa_le, fa_le, hhi]; exact hq.2)])) rfl mw_X2_holds mi_X2_holds ml_X2_29 isO_4 ⟨rfl, rfl, Nat.le_of_ble_eq_true rfl, Nat.le_of_ble_eq_true rfl⟩ rfl rfl (Nat.le_of_ble_eq_true rfl) dX2_search_71) ?_
          refine g_top (w := .int 1) rfl ?_
          refine g_if_eq 86 dX2_search_74 (by decide) (fun h74 => ?_) (fun h74 => ?_)
          · exact absurd h74 (by decide)
          · refine g_aload_n 0 _ dX2_search_77 rfl rfl ?_
            refine g_iload_n 3 _ dX2_search_78 rfl rfl ?_
            refine g_iload _ dX2_search_79 rfl ?_
            refine g_iconst (-1) dX2_search_81 rfl ?_
            refine g_iconst (nI 0) dX2_search_82 rfl ?_
            refine g_backv (g_runV (c_tell μ a b g (t := l.length) hl9 (nI p, nI h, -1, nI 0)) rfl mw_X2_tell mi_X2_tell ml_X2_33 isO_4 ⟨rfl, rfl, Nat.le_of_ble_eq_true rfl, Nat.le_of_ble_eq_true rfl⟩ rfl rfl (Nat.le_of_ble_eq_true rfl) dX2_search_83) ?_
            refine g_mem (μ' := mF μ a b (tlF g l.length (nI p, nI h, -1, nI 0)) (l.length + 1)) rfl ?_
            refine g_iincN [some (.ref 4), some (.ref 1), some (.int (nI c)), some (.int (nI p)), some (.int (nI (h + 1)))] dX2_search_86 rfl (Nat.le_of_ble_eq_true rfl) rfl rfl ?_
            refine g_at 89 rfl ?_
            refine g_goto 51 dX2_search_89 (by decide) ?_
            exact hG3
    · have es : sq1 (μ.1 7) (μ.1 9) (miss9 (μ.1 9)) n c p h = [] := if_neg hf
      rw [es, List.append_nil] at hl ⊢
      obtain ⟨g', hT2, hG2⟩ := ih (h + 1) l g (by omega) (by omega) hT hl
      refine ⟨g', hT2, fun R hG => ?_⟩
      have hG3 := hG2 R hG
      refine g_iload _ dX2_search_51 rfl ?_
      refine g_bipush (nI 9) dX2_search_53 rfl ?_
      refine g_icmp_gtN 92 (by omega) (by omega) dX2_search_55 (by decide) (fun h55 => ?_) (fun h55 => ?_)
      · exact absurd h55 (by omega)
      · refine g_aload_n 0 _ dX2_search_58 rfl rfl ?_
        refine g_iconst (nI 0) dX2_search_59 rfl ?_
        refine g_iconst (nI 0) dX2_search_60 rfl ?_
        refine g_backi (g_runV (c_holds (mF μ a b g l.length) (nI 0) (w := 0) (by decide)) rfl mw_X2_holds mi_X2_holds ml_X2_29 isO_4 ⟨rfl, rfl, Nat.le_of_ble_eq_true rfl, Nat.le_of_ble_eq_true rfl⟩ rfl rfl (Nat.le_of_ble_eq_true rfl) dX2_search_61) ?_
        refine g_top (w := .int (bI (a 0 ≤ nI 0 ∧ nI 0 ≤ b 0))) rfl ?_
        refine g_if_eqB 86 dX2_search_64 (by decide) (fun h64 => ?_) (fun h64 => ?_)
        · refine g_iincN [some (.ref 4), some (.ref 1), some (.int (nI c)), some (.int (nI p)), some (.int (nI (h + 1)))] dX2_search_86 rfl (Nat.le_of_ble_eq_true rfl) rfl rfl ?_
          refine g_goto 51 dX2_search_89 (by decide) ?_
          exact hG3
        · refine g_aload_n 0 _ dX2_search_67 rfl rfl ?_
          refine g_iconst (nI 3) dX2_search_68 rfl ?_
          refine g_iload _ dX2_search_69 rfl ?_
          refine g_backi (g_runV (c_holds (mF μ a b g l.length) (nI h) (w := 3) (by decide)) rfl mw_X2_holds mi_X2_holds ml_X2_29 isO_4 ⟨rfl, rfl, Nat.le_of_ble_eq_true rfl, Nat.le_of_ble_eq_true rfl⟩ rfl rfl (Nat.le_of_ble_eq_true rfl) dX2_search_71) ?_
          refine g_top (w := .int (bI (a 3 ≤ nI h ∧ nI h ≤ b 3))) rfl ?_
          refine g_if_eqB 86 dX2_search_74 (by decide) (fun h74 => ?_) (fun h74 => ?_)
          · refine g_iincN [some (.ref 4), some (.ref 1), some (.int (nI c)), some (.int (nI p)), some (.int (nI (h + 1)))] dX2_search_86 rfl (Nat.le_of_ble_eq_true rfl) rfl rfl ?_
            refine g_goto 51 dX2_search_89 (by decide) ?_
            exact hG3
          · exact absurd ((one_fit hP hp (show h ≤ 9 by omega) hW).mp ⟨by rw [fa_le, fa_le, nt0] at h64; exact h64, by rw [fa_le, fa_le, hhi] at h74; exact h74⟩) hf
theorem c_se2 {μ : Mm} {n c : Nat} (hP : Pt μ n c) : ∀ (m p : Nat) (l : List Qd) (a b g : Nat → Int32), p + m = n → Told l g → (l ++ lpF (lsE (μ.1 7) (μ.1 9) (miss9 (μ.1 9)) n c) p m).length < 2000000000 → ∃ a' b' g', Told (l ++ lpF (lsE (μ.1 7) (μ.1 9) (miss9 (μ.1 9)) n c) p m) g' ∧ ∀ R, G mX2_search (rmL 4) R (mF μ a' b' g' (l ++ lpF (lsE (μ.1 7) (μ.1 9) (miss9 (μ.1 9)) n c) p m).length) 98 [some (.ref 4), some (.ref 1), some (.int (nI c)), some (.int (nI n)), none] [] → G mX2_search (rmL 4) R (mF μ a b g l.length) 32 [some (.ref 4), some (.ref 1), some (.int (nI c)), some (.int (nI p)), none] [] := by
  obtain ⟨hn, h60, hc, hmk, hrd⟩ := id hP
  intro m
  induction m with
  | zero =>
    intro p l a b g h2 hT hl
    have hpn : p = n := by omega
    subst hpn
    have e : l ++ lpF (lsE (μ.1 7) (μ.1 9) (miss9 (μ.1 9)) p c) p 0 = l := by simp [lpF]
    rw [e]
    refine ⟨a, b, g, hT, fun R hG => ?_⟩
    refine g_iload_n 3 _ dX2_search_32 rfl rfl ?_
    refine g_aload_n 1 _ dX2_search_33 rfl rfl ?_
    refine gf_X2_37 rfl dX2_search_34 ?_
    refine g_top (w := .int (nI p)) (congrArg Value.int hn) ?_
    refine g_icmp_geN 98 (by omega) (by omega) dX2_search_37 (by decide) (fun h37 => ?_) (fun h37 => ?_)
    · exact hG
    · exact absurd h37 (by omega)
  | succ m ih =>
    intro p l a b g h2 hT hl
    rw [lpF, ← List.append_assoc] at hl ⊢
    obtain ⟨a1, b1, hO, hE, fa, fb⟩ := c_open1 μ a b g l.length hn h60 hc hmk hrd (p := p) (by omega)
    obtain ⟨g1, hT1, hG1⟩ := c_se1 (a := a1) (b := b1) hP (by omega) hE 9 1 l g (by omega) (by omega) hT (by rw [List.length_append] at hl; have : (l ++ lpF (sq1 (μ.1 7) (μ.1 9) (miss9 (μ.1 9)) n c p) 1 9).length = (l ++ lsE (μ.1 7) (μ.1 9) (miss9 (μ.1 9)) n c p).length := rfl; omega)
    obtain ⟨a', b', g', hT2, hG2⟩ := ih (p + 1) (l ++ lsE (μ.1 7) (μ.1 9) (miss9 (μ.1 9)) n c p) a1 b1 g1 (by omega) hT1 hl
    refine ⟨a', b', g', hT2, fun R hG => ?_⟩
    have E : G mX2_search (rmL 4) R (mF μ a1 b1 g1 (l ++ lsE (μ.1 7) (μ.1 9) (miss9 (μ.1 9)) n c p).length) 92 [some (.ref 4), some (.ref 1), some (.int (nI c)), some (.int (nI p)), some (.int (nI 10))] [] := by
      refine g_iincN [some (.ref 4), some (.ref 1), some (.int (nI c)), some (.int (nI (p + 1))), some (.int (nI 10))] dX2_search_92 rfl (Nat.le_of_ble_eq_true rfl) rfl rfl ?_
      refine g_goto 32 dX2_search_95 (by decide) ?_
      exact g_drop 4 _ rfl (hG2 R hG)
    have hG3 := hG1 R E
    refine g_iload_n 3 _ dX2_search_32 rfl rfl ?_
    refine g_aload_n 1 _ dX2_search_33 rfl rfl ?_
    refine gf_X2_37 rfl dX2_search_34 ?_
    refine g_top (w := .int (nI n)) (congrArg Value.int hn) ?_
    refine g_icmp_geN 98 (by omega) (by omega) dX2_search_37 (by decide) (fun h37 => ?_) (fun h37 => ?_)
    · exact absurd h37 (by omega)
    · refine g_aload_n 0 _ dX2_search_40 rfl rfl ?_
      refine g_aload_n 1 _ dX2_search_41 rfl rfl ?_
      refine g_iload_n 3 _ dX2_search_42 rfl rfl ?_
      refine g_iconst (-1) dX2_search_43 rfl ?_
      refine g_iload_n 2 _ dX2_search_44 rfl rfl ?_
      refine g_backv (g_runV (hO) rfl mw_X2_openWindows mi_X2_openWindows ml_X2_25 isO_4 ⟨rfl, rfl, Nat.le_of_ble_eq_true rfl, Nat.le_of_ble_eq_true rfl⟩ rfl rfl (Nat.le_of_ble_eq_true rfl) dX2_search_45) ?_
      refine g_mem (μ' := mF μ a1 b1 g l.length) rfl ?_
      refine g_iconst (nI 1) dX2_search_48 rfl ?_
      refine g_at 49 rfl ?_
      refine g_istore [some (.ref 4), some (.ref 1), some (.int (nI c)), some (.int (nI p)), some (.int (nI 1))] dX2_search_49 (Nat.le_of_ble_eq_true rfl) rfl rfl ?_
      exact hG3
theorem zero_fit {μ : Mm} {a b : Nat → Int32} {n c : Nat} (hW : WinE (fun _ => 0) (fun _ => 0) (μ.1 9) c n 0 a b) : Hd a b 0 0 ↔ ftP (μ.1 7) (μ.1 9) (miss9 (μ.1 9)) n c 0 0 0 0 := by
  have h1 := WinE_one (h := 0) hW (by decide) (fun s _ => ⟨by decide, by decide⟩)
  have h3 : Hd a b 0 0 → Hd a b (0 + 3) ((0 : Nat) : Int) := fun q => by
    rcases hW with hW | ⟨-, h5⟩
    · refine (hW.2 3 (by decide) 0 (by omega) (by omega)).mpr (fun s hs hr hkd => absurd hkd ?_)
      unfold kd; rw [t0]; omega
    · exact absurd (by rw [fa_le, fa_le, t0]; exact q) h5
  constructor
  · intro q s hs hm
    have := h1.mp ⟨q, h3 q⟩ s hs (by simpa [miss9] using hm)
    simpa using this
  · intro q
    refine (h1.mpr (fun s hs hm => ?_)).1
    have := q s hs (by simpa [miss9] using hm)
    simpa using this
theorem c_search (μ : Mm) {n c : Nat} (hP : Pt μ n c) : ∃ a' b' g', Told (lsT (μ.1 7) (μ.1 9) (miss9 (μ.1 9)) n c) g' ∧ Ok mX2_search (rmL 4) [.ref 4, .ref 1, .int (nI c)] μ (none, mF μ a' b' g' (lsT (μ.1 7) (μ.1 9) (miss9 (μ.1 9)) n c).length) := by
  obtain ⟨hn, h60, hc, hmk, hrd⟩ := id hP
  have hlen := lsT_len (μ.1 7) (μ.1 9) (miss9 (μ.1 9)) c h60
  obtain ⟨a1, b1, hO, hE, -, -⟩ := c_open0 μ (μ.1 29) (μ.1 30) (μ.1 31) 0 hn h60 hc hmk hrd
  have hT0 : ∃ g0, Told (sq0 (μ.1 7) (μ.1 9) (miss9 (μ.1 9)) n c) g0 ∧ ∀ R, G mX2_search (rmL 4) R (mF μ a1 b1 g0 (sq0 (μ.1 7) (μ.1 9) (miss9 (μ.1 9)) n c).length) 30 [some (.ref 4), some (.ref 1), some (.int (nI c)), none, none] [] → G mX2_search (rmL 4) R (mF μ a1 b1 (μ.1 31) 0) 13 [some (.ref 4), some (.ref 1), some (.int (nI c)), none, none] [] := by
    by_cases hf : ftP (μ.1 7) (μ.1 9) (miss9 (μ.1 9)) n c 0 0 0 0
    · have es : sq0 (μ.1 7) (μ.1 9) (miss9 (μ.1 9)) n c = [(-1, nI 0, -1, nI 0)] := if_pos hf
      rw [es]
      refine ⟨tlF (μ.1 31) 0 (-1, nI 0, -1, nI 0), Told_tell (l := []) (-1, nI 0, -1, nI 0) (Told_nil _), fun R hG => ?_⟩
      have hq := (zero_fit hE).mpr hf
      refine g_aload_n 0 _ dX2_search_13 rfl rfl ?_
      refine g_iconst (nI 0) dX2_search_14 rfl ?_
      refine g_iconst (nI 0) dX2_search_15 rfl ?_
      refine g_backi (g_runV ((c_holds (mF μ a1 b1 (μ.1 31) 0) (nI 0) (w := 0) (by decide)).to (by rw [bI_t (by rw [fa_le, fa_le, nt0]; exact hq)])) rfl mw_X2_holds mi_X2_holds ml_X2_29 isO_4 ⟨rfl, rfl, Nat.le_of_ble_eq_true rfl, Nat.le_of_ble_eq_true rfl⟩ rfl rfl (Nat.le_of_ble_eq_true rfl) dX2_search_16) ?_
      refine g_top (w := .int 1) rfl ?_
      refine g_if_eq 30 dX2_search_19 (by decide) (fun h19 => ?_) (fun h19 => ?_)
      · exact absurd h19 (by decide)
      · refine g_aload_n 0 _ dX2_search_22 rfl rfl ?_
        refine g_iconst (-1) dX2_search_23 rfl ?_
        refine g_iconst (nI 0) dX2_search_24 rfl ?_
        refine g_iconst (-1) dX2_search_25 rfl ?_
        refine g_iconst (nI 0) dX2_search_26 rfl ?_
        refine g_backv (g_runV (c_tell μ a1 b1 (μ.1 31) (t := 0) (by decide) (-1, nI 0, -1, nI 0)) rfl mw_X2_tell mi_X2_tell ml_X2_33 isO_4 ⟨rfl, rfl, Nat.le_of_ble_eq_true rfl, Nat.le_of_ble_eq_true rfl⟩ rfl rfl (Nat.le_of_ble_eq_true rfl) dX2_search_27) ?_
        refine g_mem (μ' := mF μ a1 b1 (tlF (μ.1 31) 0 (-1, nI 0, -1, nI 0)) (0 + 1)) rfl ?_
        exact hG
    · have es : sq0 (μ.1 7) (μ.1 9) (miss9 (μ.1 9)) n c = [] := if_neg hf
      rw [es]
      refine ⟨μ.1 31, Told_nil _, fun R hG => ?_⟩
      refine g_aload_n 0 _ dX2_search_13 rfl rfl ?_
      refine g_iconst (nI 0) dX2_search_14 rfl ?_
      refine g_iconst (nI 0) dX2_search_15 rfl ?_
      refine g_backi (g_runV (c_holds (mF μ a1 b1 (μ.1 31) 0) (nI 0) (w := 0) (by decide)) rfl mw_X2_holds mi_X2_holds ml_X2_29 isO_4 ⟨rfl, rfl, Nat.le_of_ble_eq_true rfl, Nat.le_of_ble_eq_true rfl⟩ rfl rfl (Nat.le_of_ble_eq_true rfl) dX2_search_16) ?_
      refine g_top (w := .int (bI (a1 0 ≤ nI 0 ∧ nI 0 ≤ b1 0))) rfl ?_
      refine g_if_eqB 30 dX2_search_19 (by decide) (fun h19 => ?_) (fun h19 => ?_)
      · exact hG
      · exact absurd ((zero_fit hE).mp (by rw [fa_le, fa_le, nt0] at h19; exact h19)) hf
  obtain ⟨g0, hT0, hG0⟩ := hT0
  obtain ⟨a2, b2, g2, hT2, hG2⟩ := c_se2 hP n 0 (sq0 (μ.1 7) (μ.1 9) (miss9 (μ.1 9)) n c) a1 b1 g0 (by omega) hT0 (show (sq0 (μ.1 7) (μ.1 9) (miss9 (μ.1 9)) n c ++ lsF (μ.1 7) (μ.1 9) (miss9 (μ.1 9)) n c).length < 2000000000 by simp only [List.length_append] at hlen ⊢; omega)
  obtain ⟨a3, b3, g3, hT3, hG3⟩ := c_se3 hP n 0 (sq0 (μ.1 7) (μ.1 9) (miss9 (μ.1 9)) n c ++ lsF (μ.1 7) (μ.1 9) (miss9 (μ.1 9)) n c) a2 b2 g2 (by omega) hT2 (show ((sq0 (μ.1 7) (μ.1 9) (miss9 (μ.1 9)) n c ++ lsF (μ.1 7) (μ.1 9) (miss9 (μ.1 9)) n c) ++ lsD (μ.1 7) (μ.1 9) (miss9 (μ.1 9)) n c).length < 2000000000 by simp only [List.length_append] at hlen ⊢; omega)
  refine ⟨a3, b3, g3, hT3, ?_⟩
  have E1 : G mX2_search (rmL 4) (none, mF μ a3 b3 g3 (lsT (μ.1 7) (μ.1 9) (miss9 (μ.1 9)) n c).length) (mF μ a2 b2 g2 (sq0 (μ.1 7) (μ.1 9) (miss9 (μ.1 9)) n c ++ lsF (μ.1 7) (μ.1 9) (miss9 (μ.1 9)) n c).length) 98 [some (.ref 4), some (.ref 1), some (.int (nI c)), some (.int (nI n)), none] [] := by
    refine g_iconst (nI 0) dX2_search_98 rfl ?_
    refine g_istore_n [some (.ref 4), some (.ref 1), some (.int (nI c)), some (.int (nI 0)), none] dX2_search_99 rfl (Nat.le_of_ble_eq_true rfl) rfl rfl ?_
    exact hG3
  have E2 := hG2 _ E1
  have E3 : G mX2_search (rmL 4) (none, mF μ a3 b3 g3 (lsT (μ.1 7) (μ.1 9) (miss9 (μ.1 9)) n c).length) (mF μ a1 b1 g0 (sq0 (μ.1 7) (μ.1 9) (miss9 (μ.1 9)) n c).length) 30 [some (.ref 4), some (.ref 1), some (.int (nI c)), none, none] [] := by
    refine g_iconst (nI 0) dX2_search_30 rfl ?_
    refine g_istore_n [some (.ref 4), some (.ref 1), some (.int (nI c)), some (.int (nI 0)), none] dX2_search_31 rfl (Nat.le_of_ble_eq_true rfl) rfl rfl ?_
    exact E2
  have E4 := hG0 _ E3
  refine Ok.of (by decide) (Nat.le_of_ble_eq_true rfl) [some (.ref 4), some (.ref 1), some (.int (nI c)), none, none] rfl ?_
  refine g_aload_n 0 _ dX2_search_0 rfl rfl ?_
  refine g_iconst (nI 0) dX2_search_1 rfl ?_
  refine gp_X2_21 rfl dX2_search_2 ?_
  refine g_mem (μ' := mF μ (μ.1 29) (μ.1 30) (μ.1 31) 0) (mF_id μ 0) ?_
  refine g_aload_n 0 _ dX2_search_5 rfl rfl ?_
  refine g_aload_n 1 _ dX2_search_6 rfl rfl ?_
  refine g_iconst (-1) dX2_search_7 rfl ?_
  refine g_iconst (-1) dX2_search_8 rfl ?_
  refine g_at 9 rfl ?_
  refine g_iload_n 2 _ dX2_search_9 rfl rfl ?_
  refine g_backv (g_runV (hO) rfl mw_X2_openWindows mi_X2_openWindows ml_X2_25 isO_4 ⟨rfl, rfl, Nat.le_of_ble_eq_true rfl, Nat.le_of_ble_eq_true rfl⟩ rfl rfl (Nat.le_of_ble_eq_true rfl) dX2_search_10) ?_
  refine g_mem (μ' := mF μ a1 b1 (μ.1 31) 0) rfl ?_
  exact E4
theorem c_points_no (μ : Mm) (a : Int32) (h : a.toInt < 0 ∨ 1000 < a.toInt) : Ok mX5_points (rmL 5) [.ref 0, .int a] μ (some (.int (-1)), sI μ 0 5 (nI 1)) := by
  refine Ok.of (by decide) (Nat.le_of_ble_eq_true rfl) [some (.ref 0), some (.int a)] rfl ?_
  refine g_aload_n 0 _ dX5_points_0 rfl rfl ?_
  refine g_iload_n 1 _ dX5_points_1 rfl rfl ?_
  refine g_if_lt 12 dX5_points_2 (by decide) (fun h2 => ?_) (fun h2 => ?_)
  · refine g_iconst (nI 1) dX5_points_12 rfl ?_
    refine g_goto 17 dX5_points_13 (by decide) ?_
    refine g_backi (g_runV (c_refuses1 μ (f := nI 1) (by decide)) rfl mw_X5_refuses mi_X5_refuses ml_X5_48 isO_0 ⟨rfl, rfl, Nat.le_of_ble_eq_true rfl, Nat.le_of_ble_eq_true rfl⟩ rfl rfl (Nat.le_of_ble_eq_true rfl) dX5_points_17) ?_
    refine g_mem (μ' := sI μ 0 5 (nI 1)) rfl ?_
    refine g_top (w := .int (nI 1)) rfl ?_
    refine g_if_eqN 25 (by omega) dX5_points_20 (by decide) (fun h20 => ?_) (fun h20 => ?_)
    · exact absurd h20 (by omega)
    · refine g_iconst (-1) dX5_points_23 rfl ?_
      exact g_ireturn dX5_points_24 rfl rfl rfl
  · refine g_iload_n 1 _ dX5_points_5 rfl rfl ?_
    refine g_sipush (nI 1000) dX5_points_6 rfl ?_
    refine g_icmp_le 16 dX5_points_9 (by decide) (fun h9 => ?_) (fun h9 => ?_)
    · exfalso; simp only [ne_eq, fa_lt, fa_le, fa_eq, t0, t1, t2, tm1, nt0, nt1, nt2, nt3, nt4, nt5, nt7, nt9, nt10, nt13, nt14, nt30, nt32, nt59, nt60, nt200, nt1000, nt1000000, nt1073741824] at *; omega
    · refine g_iconst (nI 1) dX5_points_12 rfl ?_
      refine g_goto 17 dX5_points_13 (by decide) ?_
      refine g_backi (g_runV (c_refuses1 μ (f := nI 1) (by decide)) rfl mw_X5_refuses mi_X5_refuses ml_X5_48 isO_0 ⟨rfl, rfl, Nat.le_of_ble_eq_true rfl, Nat.le_of_ble_eq_true rfl⟩ rfl rfl (Nat.le_of_ble_eq_true rfl) dX5_points_17) ?_
      refine g_mem (μ' := sI μ 0 5 (nI 1)) rfl ?_
      refine g_top (w := .int (nI 1)) rfl ?_
      refine g_if_eqN 25 (by omega) dX5_points_20 (by decide) (fun h20 => ?_) (fun h20 => ?_)
      · exact absurd h20 (by omega)
      · refine g_iconst (-1) dX5_points_23 rfl ?_
        exact g_ireturn dX5_points_24 rfl rfl rfl
theorem c_points_ok (μ : Mm) {n c : Nat} (hP : Pt μ n c) : ∃ a' b' g', Told (lsT (μ.1 7) (μ.1 9) (miss9 (μ.1 9)) n c) g' ∧ Ok mX5_points (rmL 5) [.ref 0, .int (nI c)] μ (some (.int (nI (lsT (μ.1 7) (μ.1 9) (miss9 (μ.1 9)) n c).length)), mF (sI μ 0 5 0) a' b' g' (lsT (μ.1 7) (μ.1 9) (miss9 (μ.1 9)) n c).length) := by
  have hc := hP.2.2.1
  obtain ⟨a', b', g', hT, hO⟩ := c_search (sI μ 0 5 0) (n := n) (c := c) hP
  refine ⟨a', b', g', hT, ?_⟩
  refine Ok.of (by decide) (Nat.le_of_ble_eq_true rfl) [some (.ref 0), some (.int (nI c))] rfl ?_
  refine g_aload_n 0 _ dX5_points_0 rfl rfl ?_
  refine g_iload_n 1 _ dX5_points_1 rfl rfl ?_
  refine g_if_ltN 12 (by omega) dX5_points_2 (by decide) ?_
  refine g_iload_n 1 _ dX5_points_5 rfl rfl ?_
  refine g_sipush (nI 1000) dX5_points_6 rfl ?_
  refine g_icmp_leN 16 (by omega) (by omega) dX5_points_9 (by decide) (fun h9 => ?_) (fun h9 => ?_)
  · refine g_iconst (nI 0) dX5_points_16 rfl ?_
    refine g_backi (g_runV (c_refuses0 μ) rfl mw_X5_refuses mi_X5_refuses ml_X5_48 isO_0 ⟨rfl, rfl, Nat.le_of_ble_eq_true rfl, Nat.le_of_ble_eq_true rfl⟩ rfl rfl (Nat.le_of_ble_eq_true rfl) dX5_points_17) ?_
    refine g_mem (μ' := sI μ 0 5 0) rfl ?_
    refine g_top (w := .int (nI 0)) rfl ?_
    refine g_if_eqN 25 (by omega) dX5_points_20 (by decide) (fun h20 => ?_) (fun h20 => ?_)
    · refine g_aload_n 0 _ dX5_points_25 rfl rfl ?_
      refine gf_X5_33 rfl dX5_points_26 ?_
      refine g_aload_n 0 _ dX5_points_29 rfl rfl ?_
      refine gf_X5_10 rfl dX5_points_30 ?_
      refine g_iload_n 1 _ dX5_points_33 rfl rfl ?_
      refine g_backv (g_runVN (hO) rfl mw_X2_search mi_X2_search mn_X5_194 isO_4 ⟨rfl, rfl, Nat.le_of_ble_eq_true rfl, Nat.le_of_ble_eq_true rfl⟩ rfl rfl (Nat.le_of_ble_eq_true rfl) dX5_points_34) ?_
      refine g_mem (μ' := mF (sI μ 0 5 0) a' b' g' (lsT (μ.1 7) (μ.1 9) (miss9 (μ.1 9)) n c).length) rfl ?_
      refine g_aload_n 0 _ dX5_points_37 rfl rfl ?_
      refine g_at 38 rfl ?_
      refine gf_X5_33 rfl dX5_points_38 ?_
      refine gf_X5_126 rfl dX5_points_41 ?_
      refine g_top (w := .int (nI ((lsT (μ.1 7) (μ.1 9) (miss9 (μ.1 9)) n c).length))) (congrArg Value.int rfl) ?_
      exact g_ireturn dX5_points_44 rfl rfl rfl
    · exact absurd h20 (by omega)
  · exact absurd h9 (by omega)
