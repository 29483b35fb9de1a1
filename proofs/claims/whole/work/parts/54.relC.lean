/-! undo .. sure, points -/
theorem Rb_mask {t : Int32} {d u : Int64} {b c : Nat → Int64} {f : Nat → Int32} {n : Nat} (h : Rb t d u b c f n) {d' : Int64} {b' : Nat → Int64} (hd : d' = cD f n) (hb : ∀ j, j < n → b' j = cB f n j) : Rb t d' u b' c f n := by
  rcases h with h | ⟨h1, h2, h3, h4, h5, h6⟩
  · exact Or.inl h
  · exact Or.inr ⟨h1, h2, h3, hd, h5, fun j hj => ⟨hb j hj, (h6 j hj).2⟩⟩
theorem e_undo (μ : Mm) (h : Rel μ) : BL mX5_undo mX6_undo [] μ := by
  obtain ⟨n, h⟩ := h
  have h' := h
  obtain ⟨h1, h2, h3, h4, h5, h6, h7, h8, h9, h10⟩ := h
  by_cases c : 14 < n
  · exact BL.mk (c_undo_no μ h3.1 h2 c) (d_undo_no (sI μ 0 5 (nI 1)) h3.2.1 h2 c) (rel_no h' _)
  · have h14 : n ≤ 14 := by omega
    by_cases cr : (rdN (μ.1 7) n (uX μ)).1 < n
    · have hno : ∀ X', (sbN (μ.1 34) n X').1 < n := fun X' => by rw [h3.2.2.2]; exact sb_no h14 h1 h3.2.2.1 (uX μ) X' cr
      exact BL.mk (c_undo_0 μ h3.1 h14 cr) (d_undo_0 (sI (mU (sI μ 0 5 0) (rdN (μ.1 7) n (uX μ)).2) 3 4 (nI 0)) (n := n) h3.2.1 h14 (hno _)) ⟨n, h1, h2, h3, h4, h5, rfl, h7, Or.inl ⟨rfl, rfl⟩, h9, h10⟩
    · have hr : (rdN (μ.1 7) n (uX μ)).1 = n := by have := rd_le (μ.1 7) n (uX μ); omega
      obtain ⟨hu, hA⟩ := rd_und hr
      have hm := rd_min (X := uX μ) h14 h3.2.2.1
      obtain ⟨v1, v2⟩ := iv_eq h1 hA
      have hs : ∀ X', _ := fun X' => sb_yes h14 h1 h3.2.2.1 hu X'
      have hC := c_undo_1 μ h3.1 h14 h1 (fun i j hi hj => sm_min (hm i j hi hj)) hr
      generalize hν : sI (ivM (sI μ 0 5 0) n (rdN (μ.1 7) n (uX μ)).2) 3 4 (nI 1) = ν at hC
      have e34 : ν.1 34 = μ.1 7 := by rw [← hν]; exact h3.2.2.2
      have e330 : ν.1 33 0 = nI n := by rw [← hν]; exact h3.2.1
      obtain ⟨s1, s2, s3, s4, s5, s6⟩ := hs (uD ν (n + 1))
      rw [← e34] at s1 s2 s3 s4
      have hD := d_undo_1 ν (n := n) e330 h14 rfl s1 (sm_min s2) s3 (fun j hj => sm_min (s4 j hj))
      have s5' : (sbN (ν.1 34) n (uD ν (n + 1))).2.1 / sbS n (sbN (ν.1 34) n (uD ν (n + 1))).2.1 (sbN (ν.1 34) n (uD ν (n + 1))).2.2 = cD (μ.1 7) n := by rw [e34]; exact s5
      have s6' : ∀ j, j < n → sbQ n (sbN (ν.1 34) n (uD ν (n + 1))) j = cB (μ.1 7) n j := by rw [e34]; exact s6
      refine BL.mk (hC.toL v1) (hD.toL s5') ⟨n, h1, h2, ?_⟩
      subst hν
      refine ⟨h3, h4, h5, rfl, h7, Or.inr ⟨rfl, h14, hu, v1, s5', fun j hj => ⟨?_, ?_⟩⟩, h9, h10⟩
      · show fil (μ.2 27) (ivB n (rdN (μ.1 7) n (uX μ)).2) n j = _
        rw [fil_in hj]; exact v2 j hj
      · exact (fil_in hj).trans (s6' j hj)
theorem pl_iff {j : Int32} {n : Nat} (hn : n ≤ 60) : (¬ j < 0 ∧ j < nI n) ↔ 0 ≤ j.toInt ∧ j.toInt < (nI n).toInt := by
  rw [fa_lt, fa_lt, t0]; omega
theorem e_back (μ : Mm) (h : Rel μ) (j : Int32) : BL mX5_back mX6_back [.int j] μ := by
  obtain ⟨n, h⟩ := h
  have h' := h
  obtain ⟨h1, h2, h3, h4, h5, h6, h7, h8, h9, h10⟩ := h
  by_cases c : ¬ j < 0 ∧ j < nI n
  · rcases h8 with ⟨e1, e2⟩ | ⟨e1, e2, e3, e4, e5, e6⟩
    · exact BL.mk (c_back_no2 μ j h3.1 h2 c e1) (d_back_no2 (sI μ 0 5 (nI 2)) j h3.2.1 c e2) (rel_no h' _)
    · obtain ⟨k, rfl, hk⟩ := in_of h2 ((pl_iff h2).mp c)
      have hp := (cD_sm e2 h1 h3.2.2.1 e3).2
      exact BL.mk (c_back_ok μ h3.1 e2 hk e1) ((d_back_ok (sI μ 0 5 0) h3.2.1 e2 hk (by show ¬ μ.2 33 8 = 0; rw [e5]; intro z; rw [z] at hp; exact absurd hp (by decide))).toL (by show μ.2 39 k = μ.2 27 k; rw [(e6 k hk).1, (e6 k hk).2])) (rel_ok h')
  · exact BL.mk (c_back_no1 μ j h3.1 h2 c) (d_back_no1 (sI μ 0 5 (nI 1)) j h3.2.1 c) (rel_no h' _)
theorem ssF_cg {f g : Nat → Int64} : ∀ {n : Nat}, (∀ j, j < n → f j = g j) → ssF f n = ssF g n := by
  intro n
  induction n with
  | zero => intro _; rfl
  | succ n ih => intro h; show _ + _ = _ + _; rw [ih (fun j hj => h j (by omega)), h n (by omega)]
theorem e_noise (μ : Mm) (h : Rel μ) (w : Int32) : BL mX5_noise mX6_noise [.int w] μ := by
  obtain ⟨n, h⟩ := h
  have h' := h
  obtain ⟨h1, h2, h3, h4, h5, h6, h7, h8, h9, h10⟩ := h
  by_cases c : w.toInt < 0 ∨ 1 < w.toInt
  · exact BL.mk (c_noise_no1 μ w c) (d_noise_no1 _ w c) (rel_no h' _)
  · obtain ⟨k, rfl, hk⟩ := nat9 (a := w) (by omega)
    have hk2 : k < 2 := by omega
    rcases h8 with ⟨e1, e2⟩ | ⟨e1, e2, e3, e4, e5, e6⟩
    · exact BL.mk (c_noise_no2 μ hk2 e1) (d_noise_no2 (sI μ 0 5 (nI 2)) hk2 e2) (rel_no h' _)
    · have hp := cD_sm e2 h1 h3.2.2.1 e3
      have hb := cB_sm e2 h3.2.2.1 e3
      have b1 : ∀ j, j < n → sm28 (μ.2 27 j) := fun j hj => by rw [(e6 j hj).1]; exact hb j hj
      have b2 : ∀ j, j < n → μ.2 39 j = μ.2 27 j := fun j hj => by rw [(e6 j hj).1, (e6 j hj).2]
      have s1 := ssF_bd e2 b1
      have s2 := sq_64 hp.1
      have s3 : 0 < (cD (μ.1 7) n).toInt * (cD (μ.1 7) n).toInt := Int.mul_pos hp.2 hp.2
      have se : ssF (μ.2 39) n = ssF (μ.2 27) n := ssF_cg b2
      refine BL.mk (c_noise_ok μ h3.1 e2 hk2 e1 (by omega) (by rw [e4, s2.1]; omega)) ((d_noise_ok (sI μ 0 5 0) h3.2.1 e2 hk2 ?_ ?_ ?_ ?_).toL ?_) (rel_ok h')
      · show ¬ μ.2 33 8 = 0
        rw [e5]; intro z; rw [z] at hp; exact absurd hp.2 (by decide)
      · show (ssF (μ.2 39) n).toInt ≠ _
        rw [se]; omega
      · show (μ.2 33 8 * μ.2 33 8).toInt ≠ _
        rw [e5, s2.1]; omega
      · show ¬ μ.2 33 8 * μ.2 33 8 = 0
        rw [e5]; intro z
        have := s2.1
        rw [z] at this
        have z0 : (0 : Int64).toInt = 0 := rfl
        omega
      · show nqF (k = 0) (ssF (μ.2 39) n) (μ.2 33 8) = npF (k = 0) (ssF (μ.2 27) n) (μ.2 3 3)
        unfold nqF npF
        rw [quF_div, se, e4, e5]
theorem e_rank (μ : Mm) (h : Rel μ) : BI mX5_rank mX6_rank [] μ := by
  obtain ⟨n, h⟩ := h
  have h' := h
  obtain ⟨h1, h2, h3, h4, h5, h6, h7, h8, h9, h10⟩ := h
  by_cases c : 14 < n
  · exact BI.mk (c_rank_no μ h3.1 h2 c) (d_rank_no (sI μ 0 5 (nI 1)) h3.2.1 h2 c) (rel_no h' _)
  · have h14 : n ≤ 14 := by omega
    have hC := c_rank_ok μ h3.1 h14
    refine BI.mk hC ((d_rank_ok (mU (sI μ 0 5 0) (rdN (μ.1 7) n (uX μ)).2) (n := n) h3.2.1 h14 h1).toI ?_) ⟨n, h1, h2, h3, h4, h5, rfl, h7, h8, h9, h10⟩
    congr 1
    show (rkN (μ.1 34) n _).1 = _
    rw [h3.2.2.2]
    exact (rank_eq h14 h1 h3.2.2.1 _ _).symm
theorem mis_iff {μ : Mm} {n : Nat} (h : Rd (μ.1 9) (μ.1 37) (μ.1 36) n) : misN μ n = 0 ↔ ∀ s, s < n → μ.1 37 s = 0 := by
  rw [cnt_0]
  refine forall_congr' fun i => forall_congr' fun hi => ?_
  obtain ⟨q, q2⟩ := h i hi
  show decide (μ.1 9 i = nI 1073741824) = false ↔ _
  rw [decide_eq_false_iff_not]
  rcases q with ⟨e1, e2⟩ | ⟨e1, e2⟩
  · rw [e1, e2]
    exact ⟨fun _ => rfl, fun _ z => by rw [z, nt1073741824] at q2; omega⟩
  · rw [e1, e2]
    exact ⟨fun z => absurd rfl z, fun z => absurd z (by decide)⟩
theorem cnt_lt {p : Nat → Bool} {n : Nat} (h : ¬ ∀ s, s < n → p s = true) : fa_cnt p n < n := by
  induction n with
  | zero => exact absurd (fun s hs => absurd hs (by omega)) h
  | succ n ih =>
    show fa_cnt p n + (if p n then 1 else 0) < n + 1
    have hle := fa_cnt_le p n
    by_cases c : p n = true
    · rw [if_pos c]
      have := ih (fun q => h (fun s hs => if e : s = n then e ▸ c else q s (by omega)))
      omega
    · rw [if_neg c]; omega
theorem e_sure (μ : Mm) (h : Rel μ) : BI mX5_sure mX6_sure [] μ := by
  obtain ⟨n, h⟩ := h
  have h' := h
  obtain ⟨h1, h2, h3, h4, h5, h6, h7, h8, h9, h10⟩ := h
  by_cases c : 14 < n
  · exact BI.mk (c_sure_no μ h3.1 h2 c) (d_sure_no (sI μ 0 5 (nI 1)) h3.2.1 h2 c) (rel_no h' _)
  · have h14 : n ≤ 14 := by omega
    by_cases cm : misN μ n = 0
    · have hz := (mis_iff h5).mp cm
      have hC := c_sure_1 μ h3.1 h14 cm (rd_le _ _ _)
      refine BI.mk hC ((d_sure_1 (mU (sI μ 0 5 0) (rdN (μ.1 7) n (uX μ)).2) (n := n) h3.2.1 h14 h1 hz).toI ?_) ⟨n, h1, h2, h3, h4, h5, rfl, h7, h8, h9, h10⟩
      have e : (rkN ((mU (sI μ 0 5 0) (rdN (μ.1 7) n (uX μ)).2).1 34) n (uD (mU (sI μ 0 5 0) (rdN (μ.1 7) n (uX μ)).2) n)).1 = (rdN (μ.1 7) n (uX μ)).1 := by
        show (rkN (μ.1 34) n _).1 = _
        rw [h3.2.2.2]
        exact (rank_eq h14 h1 h3.2.2.1 _ _).symm
      rw [e]
    · have hz : ¬ ∀ s, s < n → μ.1 37 s = 0 := fun q => cm ((mis_iff h5).mpr q)
      obtain ⟨Y, b, hD⟩ := d_sure_0 (sI μ 0 5 0) (n := n) h3.2.1 h14 h1 (by
        refine cnt_lt (fun q => hz (fun s hs => ?_))
        exact of_decide_eq_true (q s hs))
      exact BI.mk (c_sure_0 μ h3.1 h14 (by omega)) hD ⟨n, h1, h2, h3, h4, h5, rfl, h7, h8, h9, h10⟩
theorem e_lost (μ : Mm) (h : Rel μ) : BI mX5_lost mX6_lost [] μ := by
  obtain ⟨n, h⟩ := h
  have h' := h
  obtain ⟨h1, h2, h3, h4, h5, h6, h7, h8, h9, h10⟩ := h
  by_cases c : 14 < n
  · exact BI.mk (c_lost_no μ h3.1 h2 c) (d_lost_no (sI μ 0 5 (nI 1)) h3.2.1 h2 c) (rel_no h' _)
  · have h14 : n ≤ 14 := by omega
    obtain ⟨hs, hA⟩ := rdN_stp (μ.1 7) n (uX μ)
    have hmin := rd_min (X := uX μ) h14 h3.2.2.1
    by_cases cr : (rdN (μ.1 7) n (uX μ)).1 = n
    · have hC := c_lost_0 μ h3.1 h14 cr
      generalize hν : mU (sI μ 0 5 0) (rdN (μ.1 7) n (uX μ)).2 = ν at hC
      have e34 : ν.1 34 = μ.1 7 := by rw [← hν]; exact h3.2.2.2
      have e330 : ν.1 33 0 = nI n := by rw [← hν]; exact h3.2.1
      rw [cr] at hs
      obtain ⟨C, A, b, hD⟩ := d_lost_0 ν (n := n) e330 h14 (by rw [e34]; exact fun l hl X => lsZ_no hs hl X)
      refine BI.mk hC hD ⟨n, h1, h2, ?_⟩
      subst hν
      exact ⟨h3, h4, h5, rfl, h7, h8, h9, h10⟩
    · generalize hl : (rdN (μ.1 7) n (uX μ)).1 = l at hs hA cr
      have hln : l < n := by have := hs.1; omega
      have hsl : sm28 (slL l (rdN (μ.1 7) n (uX μ)).2) := by
        unfold slL
        by_cases z : l = 0
        · rw [if_pos z]; unfold sm28; decide
        · rw [if_neg z]; exact hmin _ _ (by omega) (by omega)
      have hC := c_lost_1 μ h3.1 h14 hl hln (sm_min hsl) (fun i hi => sm_min (hmin i l (by omega) (by omega)))
      generalize hν : sR (mU (sI μ 0 5 0) (rdN (μ.1 7) n (uX μ)).2) 8 (fil (μ.1 8) (slV l (rdN (μ.1 7) n (uX μ)).2) n) = ν at hC
      have e34 : ν.1 34 = μ.1 7 := by rw [← hν]; exact h3.2.2.2
      have e330 : ν.1 33 0 = nI n := by rw [← hν]; exact h3.2.1
      have e35 : ν.1 35 = μ.1 8 := by rw [← hν]; exact h4.1
      have hls : ∀ X, ∃ Y, Ag (l + 1) n Y (caF (shC (μ.1 7) n) n l).1 ∧ lsN (ν.1 34) n l X = (l, (caF (shC (μ.1 7) n) n l).2, Y) := by rw [e34]; exact fun X => lsN_eq hs (Nat.le_refl l) hln X
      have hw := ca_bw (N := n + 1) (by omega) (by omega) h14 (fun i j hi _ => shC_sm h3.2.2.1 i j hi) l hs.1 (by omega) hs.2.1
      have hsm := bw_sm (by omega) (by omega) h14 hw
      obtain ⟨X, C, A, hD⟩ := d_lost_1 ν (n := n) (e := l) e330 h14 hln (by rw [e34]; exact fun q hq X => lsZ_no hs hq X) (by rw [e34]; exact fun X => lsZ_yes hs hln X) (fun X => by
          obtain ⟨Y, -, e⟩ := hls X
          rw [e]; exact ca_b hs.2.1) (fun X j hj => by
          obtain ⟨Y, hY, e⟩ := hls X
          rw [e]
          show (lsA9 Y (caF (shC (μ.1 7) n) n l).2 l j).toInt ≠ _
          unfold lsA9
          by_cases cj : j < l
          · have hy := hsm.1 j l (by omega) (by omega)
            rw [if_pos cj, hY j l (by omega) (by omega), neg_toInt (sm_min hy)]
            have := hy.1; have := hy.2; omega
          · rw [if_neg cj]; exact sm_min hsm.2)
      obtain ⟨Y, hY, e⟩ := hls X
      rw [e] at hD
      have hv := lost_val h14 h3.2.2.1 hs hln hA hY rfl
      have hbd := lost_bd h14 h3.2.2.1 hs hln hA
      refine BI.mk hC hD ⟨n, h1, h2, ?_⟩
      subst hν
      refine ⟨h3, ⟨?_, Or.inr ⟨h14, fun i hi => ?_⟩⟩, h5, rfl, h7, h8, h9, h10⟩
      · show fil (μ.1 35) (lsV Y (caF (shC (μ.1 7) n) n l).2 l) n = fil (μ.1 8) (slV l (rdN (μ.1 7) n (uX μ)).2) n
        exact fil_cg h4.1 (fun j _ => (hv j).symm)
      · show -30000000 ≤ (fil (μ.1 8) (slV l (rdN (μ.1 7) n (uX μ)).2) n i).toInt ∧ (fil (μ.1 8) (slV l (rdN (μ.1 7) n (uX μ)).2) n i).toInt ≤ 30000000
        rw [fil_in hi]; exact hbd i
theorem svS_cg {b b' : Nat → Int64} {rd rd' : Nat → Int32} {n s : Nat} (hn : 0 < n) (hb : ∀ j, j < n → b j = b' j) (hr : ∀ j, j < n → rd j = rd' j) : ∀ {m : Nat}, m ≤ n → svS b rd n s m = svS b' rd' n s m := by
  intro m
  induction m with
  | zero => intro _; rfl
  | succ m ih => intro h; show _ + _ = _ + _; rw [ih (by omega), hb m (by omega), hr _ (Nat.mod_lt _ hn)]
theorem sv_so {b b' : Nat → Int64} {rd rd' : Nat → Int32} {n s : Nat} {d : Int64} (hn : 0 < n) (hb : ∀ j, j < n → b j = b' j) (hr : ∀ j, j < n → rd j = rd' j) : svQ b rd d n s = soQ b' rd' d n s ∧ (svO b rd d n s ↔ soO b' rd' d n s) := by
  have e := svS_cg (s := s) hn hb hr (Nat.le_refl n)
  have eq : svQ b rd d n s = soQ b' rd' d n s := by unfold svQ soQ; rw [quF_div, e]
  refine ⟨eq, ?_⟩
  unfold svO soO
  rw [eq, e]
  have e2 : svS b' rd' n s n / d = soQ b' rd' d n s := rfl
  rw [e2]
  constructor
  · rintro ⟨a1, a2, a3⟩
    exact ⟨by rw [a3]; exact Int64.sub_self _, a1, a2⟩
  · rintro ⟨a1, a2, a3⟩
    refine ⟨a2, a3, ?_⟩
    have : svS b' rd' n s n - soQ b' rd' d n s * d + soQ b' rd' d n s * d = 0 + soQ b' rd' d n s * d := by rw [a1]
    rw [Int64.sub_add_cancel, Int64.zero_add] at this
    exact this.symm
theorem sv_bd {b : Nat → Int64} {rd : Nat → Int32} {n s : Nat} {d : Int64} (h : svO b rd d n s) : -1000 ≤ ((svQ b rd d n s).toInt32).toInt ∧ ((svQ b rd d n s).toInt32).toInt ≤ 1000 := by
  obtain ⟨a1, a2, -⟩ := h
  rw [fa_lt64] at a1 a2
  have z1 : (-1000 : Int64).toInt = -1000 := rfl
  have z2 : (1000 : Int64).toInt = 1000 := rfl
  rw [Int64.toInt_toInt32, fb_bmod (by omega) (by omega)]
  omega
theorem e_solve (μ : Mm) (h : Rel μ) : BI mX5_solve mX6_solve [] μ := by
  obtain ⟨n, h⟩ := h
  have h' := h
  obtain ⟨h1, h2, h3, h4, h5, h6, h7, h8, h9, h10⟩ := h
  by_cases cm : misN μ n = 0
  · have hz := (mis_iff h5).mp cm
    by_cases c : 14 < n
    · exact BI.mk (c_solve_no2 μ h3.1 h2 cm c) (d_solve_no2 (sI μ 0 5 (nI 1)) h3.2.1 h2 hz c) (rel_no h' _)
    · have h14 : n ≤ 14 := by omega
      by_cases cr : (rdN (μ.1 7) n (uX μ)).1 < n
      · have hno : ∀ X', (sbN (μ.1 34) n X').1 < n := fun X' => by rw [h3.2.2.2]; exact sb_no h14 h1 h3.2.2.1 (uX μ) X' cr
        exact BI.mk (c_solve_0 μ h3.1 h14 cm cr) (d_solve_0 (mU (sI μ 0 5 0) (rdN (μ.1 7) n (uX μ)).2) (n := n) h3.2.1 h14 hz (hno _)) ⟨n, h1, h2, h3, h4, h5, rfl, h7, h8, h9, h10⟩
      · have hr : (rdN (μ.1 7) n (uX μ)).1 = n := by have := rd_le (μ.1 7) n (uX μ); omega
        obtain ⟨hu, hA⟩ := rd_und hr
        have hm := rd_min (X := uX μ) h14 h3.2.2.1
        obtain ⟨v1, v2⟩ := iv_eq h1 hA
        have hY : ∀ i j, i < n → j ≤ n → ((rdN (μ.1 7) n (uX μ)).2 i j).toInt ≠ -9223372036854775808 := fun i j hi hj => sm_min (hm i j hi hj)
        have b27 : ∀ j, j < n → (ivN μ n).2 27 j = cB (μ.1 7) n j := fun j hj => by
          show fil (μ.2 27) (ivB n (rdN (μ.1 7) n (uX μ)).2) n j = _
          rw [fil_in hj]; exact v2 j hj
        have d33 : (ivN μ n).2 3 3 = cD (μ.1 7) n := v1
        have hcd := cD_sm h14 h1 h3.2.2.1 hu
        have hrd : ∀ j, j < n → (ivN μ n).1 9 j = μ.1 36 j := fun j hj => by
          show μ.1 9 j = μ.1 36 j
          rcases (h5 j hj).1 with ⟨_, e2⟩ | ⟨e1, _⟩
          · exact e2
          · rw [hz j hj] at e1; exact absurd e1 (by decide)
        have ref : ∀ ν : Mm, ν.1 34 = μ.1 7 → ν.1 33 0 = nI n → ν.1 36 = μ.1 36 → ν.1 37 = μ.1 37 → ∃ D, sbN (ν.1 34) n (uD ν (n + 1)) = D ∧ D.1 = n ∧ D.2.1.toInt ≠ -9223372036854775808 ∧ ¬ D.2.1 = 0 ∧ (∀ j, j < n → (D.2.2 j n).toInt ≠ -9223372036854775808) ∧ (sbM (sI ν 33 14 0) n D).2 33 20 = cD (μ.1 7) n ∧ ∀ j, j < n → (sbM (sI ν 33 14 0) n D).2 44 j = cB (μ.1 7) n j := by
          intro ν e34 e330 e36 e37
          obtain ⟨s1, s2, s3, s4, s5, s6⟩ := sb_yes h14 h1 h3.2.2.1 hu (uD ν (n + 1))
          refine ⟨sbN (μ.1 7) n (uD ν (n + 1)), by rw [e34], s1, sm_min s2, s3, fun j hj => sm_min (s4 j hj), s5, fun j hj => ?_⟩
          exact (fil_in hj).trans (s6 j hj)
        by_cases cO : ∀ s, s < n → svO ((ivN μ n).2 27) ((ivN μ n).1 9) ((ivN μ n).2 3 3) n s
        · have hC := c_solve_1 μ h3.1 h14 h1 cm hY hr cO
          generalize hν : sR (svM (ivN μ n) n n) 8 (fil (μ.1 8) (fun s => (svQ ((ivN μ n).2 27) ((ivN μ n).1 9) ((ivN μ n).2 3 3) n s).toInt32) n) = ν at hC
          have e34 : ν.1 34 = μ.1 7 := by rw [← hν]; exact h3.2.2.2
          have e330 : ν.1 33 0 = nI n := by rw [← hν]; exact h3.2.1
          have e36 : ν.1 36 = μ.1 36 := by rw [← hν]; rfl
          have e37 : ν.1 37 = μ.1 37 := by rw [← hν]; rfl
          obtain ⟨D, r1, r2, r3, r4, r5, r6, r7⟩ := ref ν e34 e330 e36 e37
          have hz9 : ∀ q, q < n → ν.1 37 q = 0 := by rw [e37]; exact hz
          have c36 : (sbM (sI ν 33 14 0) n D).1 36 = μ.1 36 := e36
          have key : ∀ s, svQ ((ivN μ n).2 27) ((ivN μ n).1 9) ((ivN μ n).2 3 3) n s = soQ ((sbM (sI ν 33 14 0) n D).2 44) ((sbM (sI ν 33 14 0) n D).1 36) ((sbM (sI ν 33 14 0) n D).2 33 20) n s ∧ (svO ((ivN μ n).2 27) ((ivN μ n).1 9) ((ivN μ n).2 3 3) n s ↔ soO ((sbM (sI ν 33 14 0) n D).2 44) ((sbM (sI ν 33 14 0) n D).1 36) ((sbM (sI ν 33 14 0) n D).2 33 20) n s) := fun s => by
            rw [d33, r6, c36]
            exact sv_so h1 (fun j hj => by rw [b27 j hj, r7 j hj]) hrd
          have hD := d_solve_1 ν (n := n) e330 h14 hz9 rfl r1 r2 r3 r4 r5 (by rw [r6]; intro z; rw [z] at hcd; exact absurd hcd.2 (by decide)) (fun s hs => (key s).2.mp (cO s hs))
          refine BI.mk hC hD ⟨n, h1, h2, ?_⟩
          have e35 : (sbM (sI ν 33 14 0) n D).1 35 = μ.1 8 := by rw [← hν]; exact h4.1
          have eS : fil ((sbM (sI ν 33 14 0) n D).1 35) (fun s => (soQ ((sbM (sI ν 33 14 0) n D).2 44) ((sbM (sI ν 33 14 0) n D).1 36) ((sbM (sI ν 33 14 0) n D).2 33 20) n s).toInt32) n = fil (μ.1 8) (fun s => (svQ ((ivN μ n).2 27) ((ivN μ n).1 9) ((ivN μ n).2 3 3) n s).toInt32) n := fil_cg e35 (fun s _ => by rw [(key s).1])
          generalize fil ((sbM (sI ν 33 14 0) n D).1 35) (fun s => (soQ ((sbM (sI ν 33 14 0) n D).2 44) ((sbM (sI ν 33 14 0) n D).1 36) ((sbM (sI ν 33 14 0) n D).2 33 20) n s).toInt32) n = S2 at eS
          clear hD hC key
          subst hν
          refine ⟨h3, ⟨eS, Or.inl (fun i hi => ?_)⟩, h5, rfl, h7, Rb_mask h8 d33 b27, h9, h10⟩
          show -1000 ≤ (fil (μ.1 8) (fun s => (svQ ((ivN μ n).2 27) ((ivN μ n).1 9) ((ivN μ n).2 3 3) n s).toInt32) n i).toInt ∧ (fil (μ.1 8) (fun s => (svQ ((ivN μ n).2 27) ((ivN μ n).1 9) ((ivN μ n).2 3 3) n s).toInt32) n i).toInt ≤ 1000
          rw [fil_in hi]
          exact sv_bd (cO i hi)
        · obtain ⟨k, hC⟩ := c_solve_2 μ h3.1 h14 h1 cm hY hr cO
          generalize hν : svM (ivN μ n) n k = ν at hC
          have e34 : ν.1 34 = μ.1 7 := by rw [← hν]; exact h3.2.2.2
          have e330 : ν.1 33 0 = nI n := by rw [← hν]; exact h3.2.1
          have e36 : ν.1 36 = μ.1 36 := by rw [← hν]; rfl
          have e37 : ν.1 37 = μ.1 37 := by rw [← hν]; rfl
          obtain ⟨D, r1, r2, r3, r4, r5, r6, r7⟩ := ref ν e34 e330 e36 e37
          have hz9 : ∀ q, q < n → ν.1 37 q = 0 := by rw [e37]; exact hz
          have c36 : (sbM (sI ν 33 14 0) n D).1 36 = μ.1 36 := e36
          have key : ∀ s, svO ((ivN μ n).2 27) ((ivN μ n).1 9) ((ivN μ n).2 3 3) n s ↔ soO ((sbM (sI ν 33 14 0) n D).2 44) ((sbM (sI ν 33 14 0) n D).1 36) ((sbM (sI ν 33 14 0) n D).2 33 20) n s := fun s => by
            rw [d33, r6, c36]
            exact (sv_so h1 (fun j hj => by rw [b27 j hj, r7 j hj]) hrd).2
          obtain ⟨k2, hD⟩ := d_solve_2 ν (n := n) e330 h14 hz9 rfl r1 r2 r3 r4 r5 (by rw [r6]; intro z; rw [z] at hcd; exact absurd hcd.2 (by decide)) (fun q => cO (fun s hs => (key s).mpr (q s hs)))
          refine BI.mk hC hD ⟨n, h1, h2, ?_⟩
          clear hD hC key
          subst hν
          exact ⟨h3, h4, h5, rfl, h7, Rb_mask h8 d33 b27, h9, h10⟩
  · have hz : ¬ ∀ s, s < n → μ.1 37 s = 0 := fun q => cm ((mis_iff h5).mpr q)
    exact BI.mk (c_solve_no1 μ h3.1 h2 (by omega)) (d_solve_no1 (sI μ 0 5 (nI 1)) h3.2.1 h2 hz) (rel_no h' _)
