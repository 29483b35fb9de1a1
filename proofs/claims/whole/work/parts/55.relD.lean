/-! points, tables -/
theorem if_ext9 {P Q : Prop} [Decidable P] [Decidable Q] {α : Type} {x y : α} (h : P ↔ Q) : (if P then x else y) = (if Q then x else y) := by
  by_cases p : P
  · rw [if_pos p, if_pos (h.mp p)]
  · rw [if_neg p, if_neg (fun q => p (h.mpr q))]
theorem ft_iff {mk mk' rd rd' : Nat → Int32} {ms ms' : Nat → Bool} {n c : Nat} (hm : mk = mk') (hs : ∀ s, s < n → ms s = ms' s ∧ (ms s = false → rd s = rd' s)) (p a q b : Nat) : ftP mk rd ms n c p a q b ↔ ftP mk' rd' ms' n c p a q b := by
  subst hm
  constructor
  · intro h s hs9 hz
    have q1 := hs s hs9
    have := h s hs9 (q1.1.trans hz)
    rw [q1.2 (q1.1.trans hz)] at this
    exact this
  · intro h s hs9 hz
    have q1 := hs s hs9
    have := h s hs9 (q1.1.symm.trans hz)
    rw [q1.2 hz]
    exact this
theorem lsT_cg {mk mk' rd rd' : Nat → Int32} {ms ms' : Nat → Bool} {n c : Nat} (hm : mk = mk') (hs : ∀ s, s < n → ms s = ms' s ∧ (ms s = false → rd s = rd' s)) : lsT mk rd ms n c = lsT mk' rd' ms' n c := by
  have e0 : sq0 mk rd ms n c = sq0 mk' rd' ms' n c := if_ext9 (ft_iff hm hs 0 0 0 0)
  have e1 : ∀ a, sq1 mk rd ms n c a = sq1 mk' rd' ms' n c a := fun a => funext fun h => if_ext9 (ft_iff hm hs a h 0 0)
  have e2 : ∀ a h b, sq2 mk rd ms n c a h b = sq2 mk' rd' ms' n c a h b := fun a h b => funext fun k => if_ext9 (ft_iff hm hs a h b k)
  have eA : ∀ a h b, lsA mk rd ms n c a h b = lsA mk' rd' ms' n c a h b := fun a h b => congrArg (fun z => lpF z 1 9) (e2 a h b)
  have eB : ∀ a h, lsB mk rd ms n c a h = lsB mk' rd' ms' n c a h := fun a h => congrArg (fun z => lpF z (a + 1) (n - (a + 1))) (funext fun b => eA a h b)
  have eC : ∀ a, lsC mk rd ms n c a = lsC mk' rd' ms' n c a := fun a => congrArg (fun z => lpF z 1 9) (funext fun h => eB a h)
  have eD : lsD mk rd ms n c = lsD mk' rd' ms' n c := congrArg (fun z => lpF z 0 n) (funext fun a => eC a)
  have eE : ∀ a, lsE mk rd ms n c a = lsE mk' rd' ms' n c a := fun a => congrArg (fun z => lpF z 1 9) (e1 a)
  have eF : lsF mk rd ms n c = lsF mk' rd' ms' n c := congrArg (fun z => lpF z 0 n) (funext fun a => eE a)
  show (sq0 mk rd ms n c ++ lsF mk rd ms n c) ++ lsD mk rd ms n c = (sq0 mk' rd' ms' n c ++ lsF mk' rd' ms' n c) ++ lsD mk' rd' ms' n c
  rw [e0, eF, eD]
theorem e_points (μ : Mm) (h : Rel μ) (a : Int32) : BI mX5_points mX6_points [.int a] μ := by
  obtain ⟨n, h⟩ := h
  have h' := h
  obtain ⟨h1, h2, h3, h4, h5, h6, h7, h8, h9, h10⟩ := h
  by_cases ca : a.toInt < 0 ∨ 1000 < a.toInt
  · exact BI.mk (c_points_no μ a ca) (d_points_no _ a ca) (rel_no h' _)
  · obtain ⟨c, rfl, hc⟩ := nat9 (a := a) (by omega)
    have hc1 : c ≤ 1000 := by omega
    have hm : ∀ s, s < n → miss9 (μ.1 9) s = ms37 (μ.1 37) s ∧ (miss9 (μ.1 9) s = false → μ.1 9 s = μ.1 36 s) := by
      intro s hs
      obtain ⟨q, q2⟩ := h5 s hs
      show decide (μ.1 9 s = nI 1073741824) = decide (μ.1 37 s ≠ 0) ∧ (decide (μ.1 9 s = nI 1073741824) = false → _)
      rcases q with ⟨e1, e2⟩ | ⟨e1, e2⟩
      · rw [e1, e2]
        exact ⟨decide_eq_decide.mpr ⟨fun z => by rw [z, nt1073741824] at q2; omega, fun z => absurd rfl z⟩, fun _ => rfl⟩
      · rw [e1, e2]
        exact ⟨by decide, fun z => absurd z (by decide)⟩
    have hPt : Pt μ n c := ⟨h3.1, h2, hc1, h3.2.2.1, fun s hs hne => by
      obtain ⟨q, q2⟩ := h5 s hs
      rcases q with ⟨e1, e2⟩ | ⟨e1, e2⟩
      · rw [e2]; exact q2
      · exact absurd e2 hne⟩
    obtain ⟨a', b', g1, hT1, hC⟩ := c_points_ok μ hPt
    have eT : lsT (μ.1 34) (μ.1 36) (ms37 (μ.1 37)) n c = lsT (μ.1 7) (μ.1 9) (miss9 (μ.1 9)) n c := lsT_cg h3.2.2.2 (fun s hs => ⟨(hm s hs).1.symm, fun z => ((hm s hs).2 ((hm s hs).1.trans z)).symm⟩)
    have hlen := lsT_len (μ.1 7) (μ.1 9) (miss9 (μ.1 9)) c h2
    generalize hl : lsT (μ.1 7) (μ.1 9) (miss9 (μ.1 9)) n c = l at hT1 hC eT hlen
    obtain ⟨g2, hT2, hD⟩ := d_points_ok (mF (sI μ 0 5 0) a' b' g1 l.length) (n := n) (c := c) ⟨h3.2.1, h1, h2, hc1, by show ∀ s, s < n → -1 ≤ (μ.1 34 s).toInt ∧ (μ.1 34 s).toInt ≤ 1; rw [h3.2.2.2]; exact h3.2.2.1, fun s hs => (h5 s hs).2⟩
    have eT2 : lsT ((mF (sI μ 0 5 0) a' b' g1 l.length).1 34) ((mF (sI μ 0 5 0) a' b' g1 l.length).1 36) (ms37 ((mF (sI μ 0 5 0) a' b' g1 l.length).1 37)) n c = l := eT
    rw [eT2] at hT2 hD
    refine BI.mk hC hD ⟨n, h1, h2, h3, h4, h5, rfl, h7, h8, h9, ⟨l.length, by omega, rfl, rfl, fun j hj => ?_⟩⟩
    show g2 j = g1 j
    rw [hT1 j hj, hT2 j hj]
theorem e_point (μ : Mm) (h : Rel μ) (a b : Int32) : BI mX5_point mX6_point [.int a, .int b] μ := by
  obtain ⟨n, h⟩ := h
  have h' := h
  obtain ⟨h1, h2, h3, h4, h5, h6, h7, h8, h9, h10⟩ := h
  obtain ⟨t, t1, t2, t3, t4⟩ := h10
  by_cases c : 0 ≤ a.toInt ∧ a.toInt < t ∧ a.toInt < 200 ∧ 0 ≤ b.toInt ∧ b.toInt < 4
  · obtain ⟨c1, c2, c3, c4, c5⟩ := c
    obtain ⟨i, rfl, hi⟩ := nat9 c1
    obtain ⟨w, rfl, hw⟩ := nat9 c4
    have i1 : i < t := by omega
    have i2 : i < 200 := by omega
    have w1 : w < 4 := by omega
    refine BI.mk (c_point μ (nI i) (nI w) (c_part_ok (sI μ 0 5 0) t2 t1 i1 i2 w1)) ((d_point_ok (sI μ 0 5 0) t3 t1 i1 i2 w1).toI ?_) (rel_ok h')
    show μ.1 41 (4 * i + w) = μ.1 31 (i * 4 + w)
    rw [t4 (4 * i + w) (by omega), Nat.mul_comm 4 i]
  · exact BI.mk (c_point μ a b (c_part_no (sI μ 0 5 0) a b t2 t1 c)) (d_point_no (sI μ 0 5 0) a b t3 t1 c) (rel_ok h')
theorem dv_dec : ∀ i, i < 32 → ∀ j, j < 32 → dvF i j = if bcF (nI i &&& nI j) &&& nI 1 = 0 then nI 1 else -1 := by decide +kernel
theorem tb2_at {f : Nat → Int32} {v : Nat → Nat → Int32} {s i j : Nat} (h32 : s ≤ 32) (hi : i < s) (hj : j < s) : tb2 f v s s 0 (32 * i + j) = v i j := by
  unfold tb2
  have e1 : (32 * i + j) / 32 = i := by omega
  have e2 : (32 * i + j) % 32 = j := by omega
  rw [e1, e2, if_pos (Or.inl ⟨hi, hj⟩)]
theorem md_bt {i s : Nat} (h32 : s ≤ 32) : ∀ j, j < 32 → bt (orF (mdF i) s) j = (decide (j < s) && !decide (bcF (nI i &&& nI j) &&& nI 1 = 0)) := by
  intro j hj
  refine orF_bt h32 (c := fun j => !decide (bcF (nI i &&& nI j) &&& nI 1 = 0)) (fun q hq => ?_) j hj
  unfold mdF
  by_cases c : bcF (nI i &&& nI q) &&& nI 1 = 0
  · rw [c]
    simp
  · rw [and1_1 _ c]
    simp [show ¬ nI 1 = (0 : Int32) by decide]
theorem Rt_d {r t : Nat → Int32} {s : Nat} (s0 : 0 < s) (h32 : s ≤ 32) : Rt (nI s) (nI s) (fil r (fun i => orF (mdF i) s) s) (tb2 t dvF s s 0) := by
  refine Or.inr ⟨s, s0, h32, rfl, rfl, fun i hi => ?_⟩
  rw [fil_in hi]
  refine ⟨fun j hj => ?_, fun j hj => ?_⟩
  · by_cases c : j < 32
    · rw [md_bt h32 j c, decide_eq_false (by omega), Bool.false_and]
    · exact bt_out _ (by omega)
  · rw [tb2_at h32 hi hj, dv_dec i (by omega) j (by omega), sgF_bt _ (by omega), md_bt h32 j (by omega), decide_eq_true hj, Bool.true_and]
    by_cases c : bcF (nI i &&& nI j) &&& nI 1 = 0
    · rw [if_pos c]; simp [c]
    · rw [if_neg c]; simp [c]
theorem mr_bt {p i s : Nat} (h32 : s ≤ 32) : ∀ j, j < 32 → bt (orF (mrF p i) s) j = (decide (j < s) && decide (¬ (j = 0 ∨ sqP (j + p - i) p))) := by
  intro j hj
  refine orF_bt h32 (c := fun j => decide (¬ (j = 0 ∨ sqP (j + p - i) p))) (fun q hq => ?_) j hj
  unfold mrF
  by_cases c : q = 0
  · rw [if_pos c]; simp [c]
  · rw [if_neg c]
    by_cases c2 : sqP (q + p - i) p
    · rw [if_pos c2, if_neg (by rw [decide_eq_true_eq]; exact fun z => z (Or.inr c2))]
    · rw [if_neg c2, if_pos (by rw [decide_eq_true_eq]; rintro (z | z); exact c z; exact c2 z)]
theorem Rt_r {r t : Nat → Int32} {p s : Nat} (hs : p + 1 = s) (h32 : s ≤ 32) (hp : 0 < p) : Rt (nI s) (nI s) (fil r (mrR p s) s) (tb2 t (rvF p) s s 0) := by
  refine Or.inr ⟨s, by omega, h32, rfl, rfl, fun i hi => ?_⟩
  rw [fil_in hi]
  unfold mrR
  by_cases ci : i = 0
  · rw [if_pos ci]
    refine ⟨fun j hj => bt_0 j, fun j hj => ?_⟩
    rw [tb2_at h32 hi hj, sgF_bt _ (by omega), bt_0]
    unfold rvF
    rw [if_pos (Or.inl ci)]; rfl
  · rw [if_neg ci]
    refine ⟨fun j hj => ?_, fun j hj => ?_⟩
    · by_cases c : j < 32
      · rw [mr_bt h32 j c, decide_eq_false (by omega), Bool.false_and]
      · exact bt_out _ (by omega)
    · rw [tb2_at h32 hi hj, sgF_bt _ (by omega), mr_bt h32 j (by omega), decide_eq_true hj, Bool.true_and]
      have hsq : sqP (j + p - i) p → i ≠ j := fun q e => q.1 (by rw [e, Nat.add_sub_cancel_left]; exact Nat.mod_self p)
      unfold rvF
      by_cases c : j = 0 ∨ sqP (j + p - i) p
      · rw [if_pos (show i = 0 ∨ j = 0 ∨ (i ≠ j ∧ sqP (j + p - i) p) from Or.inr (c.imp id (fun q => ⟨hsq q, q⟩))), if_neg (by rw [decide_eq_true_eq]; exact fun z => z c)]
      · rw [if_neg (show ¬ (i = 0 ∨ j = 0 ∨ (i ≠ j ∧ sqP (j + p - i) p)) from fun q => q.elim ci (fun q => c (q.imp id (fun z => z.2)))), if_pos (by rw [decide_eq_true_eq]; exact c)]
theorem rs_dec : ∀ p, p < 32 → (rstP p ↔ rsK p) := by decide +kernel
theorem e_table (μ : Mm) (h : Rel μ) (k a : Int32) : BI mX5_table mX6_table [.int k, .int a] μ := by
  obtain ⟨n, h⟩ := h
  have h' := h
  obtain ⟨h1, h2, h3, h4, h5, h6, h7, h8, h9, h10⟩ := h
  by_cases c0 : k.toInt = 0 ∧ 0 ≤ a.toInt ∧ a.toInt ≤ 5
  · obtain ⟨q1, q2, q3⟩ := c0
    have ek : k = nI 0 := i32_ext q1
    subst ek
    obtain ⟨d, rfl, hd⟩ := nat9 q2
    have d5 : d ≤ 5 := by omega
    have hs : ∃ s, nI 1 <<< (nI d &&& 31) = nI s ∧ 0 < s ∧ s ≤ 32 := by
      rcases (show d = 0 ∨ d = 1 ∨ d = 2 ∨ d = 3 ∨ d = 4 ∨ d = 5 by omega) with rfl | rfl | rfl | rfl | rfl | rfl
      · exact ⟨1, by decide +kernel, by decide, by decide⟩
      · exact ⟨2, by decide +kernel, by decide, by decide⟩
      · exact ⟨4, by decide +kernel, by decide, by decide⟩
      · exact ⟨8, by decide +kernel, by decide, by decide⟩
      · exact ⟨16, by decide +kernel, by decide, by decide⟩
      · exact ⟨32, by decide +kernel, by decide, by decide⟩
    obtain ⟨s, s1, s2, s3⟩ := hs
    exact BI.mk (c_table_d μ d5 s1 s3) (d_table_d _ d5 s1 s3) ⟨n, h1, h2, h3, h4, h5, rfl, h7, h8, Rt_d s2 s3, h10⟩
  · by_cases c1 : k.toInt = 1 ∧ ∃ p : Nat, a = nI p ∧ rstP p ∧ p < 32
    · obtain ⟨q1, p, rfl, q2, q3⟩ := c1
      have ek : k = nI 1 := i32_ext q1
      subst ek
      have hk := (rs_dec p q3).mp q2
      exact BI.mk (c_table_r μ q2 q3 rfl) (d_table_r _ hk rfl) ⟨n, h1, h2, h3, h4, h5, rfl, h7, h8, Rt_r rfl (by omega) (by have := q2.1; omega), h10⟩
    · refine BI.mk (c_table_no μ k a c0 c1) (d_table_no _ k a c0 (fun q => c1 ⟨q.1, ?_⟩)) (rel_no h' _)
      obtain ⟨p, e, hp⟩ := q.2
      have p32 : p < 32 := by rcases hp with z | z | z | z | z | z <;> omega
      exact ⟨p, e, (rs_dec p p32).mpr hp, p32⟩
theorem Rt_sz {s1 s2 : Int32} {r t : Nat → Int32} (h : Rt s1 s2 r t) (h0 : ¬ s1 = nI 0) : ∃ s, 0 < s ∧ s ≤ 32 ∧ s1 = nI s ∧ s2 = nI s ∧ ∀ i, i < s → (∀ j, s ≤ j → bt (r i) j = false) ∧ ∀ j, j < s → t (32 * i + j) = sgF (r i) j := by
  rcases h with h | h
  · exact absurd h.1 h0
  · exact h
theorem e_twice (μ : Mm) (h : Rel μ) : BI mX5_twice mX6_twice [] μ := by
  obtain ⟨n, h⟩ := h
  have h' := h
  obtain ⟨h1, h2, h3, h4, h5, h6, h7, h8, h9, h10⟩ := h
  rcases h9 with ⟨e1, e2⟩ | ⟨s, s0, s32, e1, e2, hr⟩
  · exact BI.mk (c_twice_2 μ e1) (d_twice_2 (sI μ 0 5 (nI 2)) e2) (rel_no h' _)
  · by_cases c : 16 < s
    · exact BI.mk (c_twice_3 μ e1 c s32) (d_twice_3 (sI μ 0 5 (nI 3)) e2 c s32) (rel_no h' _)
    · have s16 : s ≤ 16 := by omega
      refine BI.mk (c_twice_ok μ e1 s0 s16) (d_twice_ok (sI (sR (sI μ 0 5 0) 32 (duF (μ.1 32) s s)) 5 1 (nI (2 * s))) e2 s0 s16) ⟨n, h1, h2, h3, h4, h5, rfl, h7, h8, Or.inr ⟨2 * s, by omega, by omega, rfl, rfl, fun i hi => ?_⟩, h10⟩
      show (∀ j, 2 * s ≤ j → bt (duF (μ.1 32) s s i) j = false) ∧ ∀ j, j < 2 * s → twS (μ.1 40) s s 0 (32 * i + j) = sgF (duF (μ.1 32) s s i) j
      have hA : ∀ q, q < s → ∀ j, j < 32 → bt (duA (μ.1 32) s q) j = if j < s then bt (μ.1 32 q) j else bt (μ.1 32 q) (j - s) := by
        intro q hq j hj
        unfold duA
        rw [bt_or, bt_shl _ (by omega) hj]
        by_cases cj : j < s
        · rw [if_pos cj, decide_eq_false (by omega), Bool.false_and, Bool.or_false]
        · rw [if_neg cj, (hr q hq).1 j (by omega), decide_eq_true (by omega), Bool.false_or, Bool.true_and]
      have hB : ∀ q, q < s → ∀ j, j < 32 → bt (duB (μ.1 32) s q) j = if j < s then bt (μ.1 32 q) j else (bt (μ.1 32 q) (j - s) ^^ decide (j - s < s)) := by
        intro q hq j hj
        unfold duB
        rw [bt_or, bt_shl _ (by omega) hj]
        by_cases cj : j < s
        · rw [if_pos cj, decide_eq_false (by omega), Bool.false_and, Bool.or_false]
        · rw [if_neg cj, (hr q hq).1 j (by omega), decide_eq_true (by omega), Bool.false_or, Bool.true_and, bt_xor, acF_bt s (by omega) s0 _ (by omega)]
      have tw : ∀ j, j < 2 * s → twS (μ.1 40) s s 0 (32 * i + j) = twF (μ.1 40) s (32 * i + j) := by
        intro j hj
        have d1 : (32 * i + j) / 32 = i := by omega
        have d2 : (32 * i + j) % 32 = j := by omega
        exact if_pos (by unfold dnP; rw [d1, d2]; omega)
      have neg1 : ∀ b : Bool, -(if b then (-1 : Int32) else nI 1) = if (b ^^ true) then -1 else nI 1 := by intro b; cases b <;> decide
      by_cases ci : i < s
      · have eD : duF (μ.1 32) s s i = duA (μ.1 32) s i := if_pos ci
        rw [eD]
        refine ⟨fun j hj => ?_, fun j hj => ?_⟩
        · by_cases c32 : j < 32
          · rw [hA i ci j c32, if_neg (by omega)]; exact (hr i ci).1 _ (by omega)
          · exact bt_out _ (by omega)
        · rw [tw j hj, sgF_bt _ (by omega), hA i ci j (by omega)]
          have d1 : (32 * i + j) / 32 = i := by omega
          have d2 : (32 * i + j) % 32 = j := by omega
          unfold twF
          rw [d1, d2, if_pos ci]
          by_cases cj : j < s
          · rw [if_pos cj, if_pos cj, (hr i ci).2 j cj, sgF_bt _ (by omega)]
          · rw [if_neg cj, if_neg cj, show 32 * i + j - s = 32 * i + (j - s) by omega, (hr i ci).2 (j - s) (by omega), sgF_bt _ (by omega)]
      · have eD : duF (μ.1 32) s s i = duB (μ.1 32) s (i - s) := (if_neg ci).trans (if_pos ⟨by omega, by omega⟩)
        rw [eD]
        have hi2 : i - s < s := by omega
        refine ⟨fun j hj => ?_, fun j hj => ?_⟩
        · by_cases c32 : j < 32
          · rw [hB _ hi2 j c32, if_neg (by omega), (hr _ hi2).1 _ (by omega), decide_eq_false (by omega)]; rfl
          · exact bt_out _ (by omega)
        · rw [tw j hj, sgF_bt _ (by omega), hB _ hi2 j (by omega)]
          have d1 : (32 * i + j) / 32 = i := by omega
          have d2 : (32 * i + j) % 32 = j := by omega
          unfold twF
          rw [d1, d2, if_neg ci]
          by_cases cj : j < s
          · rw [if_pos cj, if_pos cj, show 32 * i + j - 32 * s = 32 * (i - s) + j by omega, (hr _ hi2).2 j cj, sgF_bt _ (by omega)]
          · rw [if_neg cj, if_neg cj, show 32 * i + j - 32 * s - s = 32 * (i - s) + (j - s) by omega, (hr _ hi2).2 (j - s) (by omega), sgF_bt _ (by omega), decide_eq_true (show j - s < s by omega)]
            exact neg1 _
theorem e_swap (μ : Mm) (h : Rel μ) (a b : Int32) : BI mX5_swap mX6_swap [.int a, .int b] μ := by
  obtain ⟨n, h⟩ := h
  have h' := h
  obtain ⟨h1, h2, h3, h4, h5, h6, h7, h8, h9, h10⟩ := h
  rcases h9 with ⟨e1, e2⟩ | ⟨s, s0, s32, e1, e2, hr⟩
  · exact BI.mk (c_swap_no μ a b (by decide) (c_rowsFault_2 μ a b e1)) (d_swap_2 (sI μ 0 5 (nI 2)) a b e2) (rel_no h' _)
  · have hF := c_rowsFault μ a b e1 s0 s32
    by_cases c : inB s a ∧ inB s b
    · obtain ⟨⟨c1, c2⟩, c3, c4⟩ := c
      obtain ⟨i, rfl, hi⟩ := nat9 c1
      obtain ⟨k, rfl, hk⟩ := nat9 c3
      have i1 : i < s := by omega
      have k1 : k < s := by omega
      by_cases e : i = k
      · subst e
        refine BI.mk (c_swap_eq μ e1 s32 i1) (d_swap_eq (sI (sI μ 0 5 0) 32 i (μ.1 32 i ^^^ acF s)) e2 s32 i1) ⟨n, h1, h2, h3, h4, h5, rfl, h7, h8, Or.inr ⟨s, s0, s32, e1, e2, fun q hq => ?_⟩, h10⟩
        show (∀ j, s ≤ j → bt (upd (μ.1 32) i (μ.1 32 i ^^^ acF s) q) j = false) ∧ ∀ j, j < s → swE (μ.1 40) i s (32 * q + j) = sgF (upd (μ.1 32) i (μ.1 32 i ^^^ acF s) q) j
        by_cases eq : q = i
        · rw [eq, upd_in]
          refine ⟨fun j hj => ?_, fun j hj => ?_⟩
          · by_cases c32 : j < 32
            · rw [bt_xor, (hr i i1).1 j hj, acF_bt s (by omega) s0 j c32, decide_eq_false (by omega)]; rfl
            · exact bt_out _ (by omega)
          · unfold swE
            rw [if_pos ⟨by omega, by omega⟩, (hr i i1).2 j hj, sgF_bt _ (by omega), sgF_bt _ (by omega), bt_xor, acF_bt s (by omega) s0 j (by omega), decide_eq_true hj]
            cases bt (μ.1 32 i) j <;> decide
        · rw [upd_ne eq]
          refine ⟨(hr q hq).1, fun j hj => ?_⟩
          unfold swE
          rw [if_neg (by omega)]
          exact (hr q hq).2 j hj
      · refine BI.mk (c_swap_ne μ e1 s32 i1 k1 e) (d_swap_ne (sI (sI (sI μ 0 5 0) 32 i (μ.1 32 k)) 32 k (μ.1 32 i)) e2 s32 i1 k1 e) ⟨n, h1, h2, h3, h4, h5, rfl, h7, h8, Or.inr ⟨s, s0, s32, e1, e2, fun q hq => ?_⟩, h10⟩
        show (∀ j, s ≤ j → bt (upd (upd (μ.1 32) i (μ.1 32 k)) k (μ.1 32 i) q) j = false) ∧ ∀ j, j < s → swN (μ.1 40) i k s (32 * q + j) = sgF (upd (upd (μ.1 32) i (μ.1 32 k)) k (μ.1 32 i) q) j
        by_cases eq : q = k
        · rw [eq, upd_in]
          refine ⟨(hr i i1).1, fun j hj => ?_⟩
          unfold swN
          rw [if_neg (by omega), if_pos ⟨by omega, by omega⟩, show 32 * k + j - 32 * k + 32 * i = 32 * i + j by omega]
          exact (hr i i1).2 j hj
        · rw [upd_ne eq]
          by_cases eq2 : q = i
          · rw [eq2, upd_in]
            refine ⟨(hr k k1).1, fun j hj => ?_⟩
            unfold swN
            rw [if_pos ⟨by omega, by omega⟩, show 32 * i + j - 32 * i + 32 * k = 32 * k + j by omega]
            exact (hr k k1).2 j hj
          · rw [upd_ne eq2]
            refine ⟨(hr q hq).1, fun j hj => ?_⟩
            unfold swN
            rw [if_neg (by omega), if_neg (by omega)]
            exact (hr q hq).2 j hj
    · rw [if_neg c] at hF
      exact BI.mk (c_swap_no μ a b (by decide) hF) (d_swap_1 (sI μ 0 5 (nI 1)) a b e2 s0 s32 c) (rel_no h' _)
theorem e_sign (μ : Mm) (h : Rel μ) (a b : Int32) : BI mX5_sign mX6_sign [.int a, .int b] μ := by
  obtain ⟨n, h⟩ := h
  have h' := h
  obtain ⟨h1, h2, h3, h4, h5, h6, h7, h8, h9, h10⟩ := h
  rcases h9 with ⟨e1, e2⟩ | ⟨s, s0, s32, e1, e2, hr⟩
  · exact BI.mk (c_sign_no μ a b e1 (by decide) (fun q => by have := q.1.1; have := q.1.2; omega)) (d_sign_none (sI μ 0 5 0) a b e2) (rel_ok h')
  · by_cases c : inB s a ∧ inB s b
    · obtain ⟨⟨c1, c2⟩, c3, c4⟩ := c
      obtain ⟨i, rfl, hi⟩ := nat9 c1
      obtain ⟨k, rfl, hk⟩ := nat9 c3
      have i1 : i < s := by omega
      have k1 : k < s := by omega
      exact BI.mk (c_sign_ok μ e1 s32 i1 k1) ((d_sign_ok (sI μ 0 5 0) e2 s32 i1 k1).toI ((hr i i1).2 k k1)) (rel_ok h')
    · exact BI.mk (c_sign_no μ a b e1 s32 c) (d_sign_no (sI μ 0 5 0) a b e2 s32 c) (rel_ok h')
theorem e_product (μ : Mm) (h : Rel μ) (a b : Int32) : BI mX5_product mX6_product [.int a, .int b] μ := by
  obtain ⟨n, h⟩ := h
  have h' := h
  obtain ⟨h1, h2, h3, h4, h5, h6, h7, h8, h9, h10⟩ := h
  rcases h9 with ⟨e1, e2⟩ | ⟨s, s0, s32, e1, e2, hr⟩
  · exact BI.mk (c_product_no μ a b (by decide) (c_rowsFault_2 μ a b e1)) (d_product_2 (sI μ 0 5 (nI 2)) a b e2) (rel_no h' _)
  · have hF := c_rowsFault μ a b e1 s0 s32
    by_cases c : inB s a ∧ inB s b
    · obtain ⟨⟨c1, c2⟩, c3, c4⟩ := c
      obtain ⟨i, rfl, hi⟩ := nat9 c1
      obtain ⟨k, rfl, hk⟩ := nat9 c3
      have i1 : i < s := by omega
      have k1 : k < s := by omega
      refine BI.mk (c_product_ok μ e1 s32 i1 k1) ((d_product_ok (sI μ 0 5 0) e2 s32 i1 k1).toI ?_) (rel_ok h')
      rw [prod_eq s32 (hr i i1).1 (hr k k1).1]
      exact smI_congr (fun j hj => by rw [← (hr i i1).2 j hj, ← (hr k k1).2 j hj]; rfl)
    · rw [if_neg c] at hF
      exact BI.mk (c_product_no μ a b (by decide) hF) (d_product_1 (sI μ 0 5 (nI 1)) a b e2 s0 s32 c) (rel_no h' _)
theorem e_look (μ : Mm) (h : Rel μ) (a : Int32) : BI mX5_look mX6_look [.int a] μ := by
  obtain ⟨n, h⟩ := h
  have h' := h
  obtain ⟨h1, h2, h3, h4, h5, h6, h7, h8, h9, h10⟩ := h
  rcases h9 with ⟨e1, e2⟩ | ⟨s, s0, s32, e1, e2, hr⟩
  · exact BI.mk (c_look_no μ a (by decide) (c_rowsFault_2 μ a a e1)) (d_look_2 (sI μ 0 5 (nI 2)) a e2) (rel_no h' _)
  · have hF := c_rowsFault μ a a e1 s0 s32
    by_cases c : inB s a
    · obtain ⟨c1, c2⟩ := c
      obtain ⟨i, rfl, hi⟩ := nat9 c1
      have i1 : i < s := by omega
      refine BI.mk (c_look_ok μ e1 s32 i1 h3.1 h2) ((d_look_ok (sI μ 0 5 0) e2 s32 i1 h3.2.1 h2).toI ?_) (rel_ok h')
      refine smI_congr (fun j hj => ?_)
      show μ.1 40 (32 * i + j) * μ.1 35 j = μ.1 8 j * sgF (μ.1 32 i) j
      rw [(hr i i1).2 j (by omega), h4.1, Int32.mul_comm]
    · rw [if_neg (fun q => c q.1)] at hF
      exact BI.mk (c_look_no μ a (by decide) hF) (d_look_1 (sI μ 0 5 (nI 1)) a e2 s0 s32 c) (rel_no h' _)
