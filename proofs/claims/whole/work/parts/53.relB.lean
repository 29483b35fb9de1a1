/-! fold, rests, twins, shift -/
theorem crt9 {A B X Y : Nat} (hA : 1 ≤ A) (hB : 1 ≤ B) (hg : Nat.gcd A B = 1) (hX : X < A) (hY : Y < B) : ∃ i, i < A * B ∧ (i % A = X ∧ i % B = Y) ∧ ∀ j, j < i → ¬ (j % A = X ∧ j % B = Y) := by
  have key : ∃ i, i < A * B ∧ (i % A = X ∧ i % B = Y) := by
    have hlt : ∀ i, i < A * B → (i % A) * B + i % B < A * B := by
      intro i _
      have h1 : i % A < A := Nat.mod_lt _ hA
      have h2 : i % B < B := Nat.mod_lt _ hB
      have h3 : (i % A + 1) * B ≤ A * B := Nat.mul_le_mul_right B h1
      rw [Nat.add_mul, Nat.one_mul] at h3
      omega
    have hdm : ∀ x y, y < B → (x * B + y) / B = x ∧ (x * B + y) % B = y := by
      intro x y hy
      refine ⟨?_, ?_⟩
      · rw [Nat.mul_comm, Nat.mul_add_div (by omega), Nat.div_eq_of_lt hy, Nat.add_zero]
      · rw [Nat.mul_comm, Nat.mul_add_mod, Nat.mod_eq_of_lt hy]
    have hinj : ∀ i j, i < j → j < A * B → (i % A) * B + i % B ≠ (j % A) * B + j % B := by
      intro i j hij hj e
      have q1 := hdm (i % A) (i % B) (Nat.mod_lt _ hB)
      have q2 := hdm (j % A) (j % B) (Nat.mod_lt _ hB)
      rw [e] at q1
      have eA : i % A = j % A := q1.1.symm.trans q2.1
      have eB : i % B = j % B := q1.2.symm.trans q2.2
      have dA : A ∣ j - i := Nat.dvd_of_mod_eq_zero (Nat.sub_mod_eq_zero_of_mod_eq eA.symm)
      have dB : B ∣ j - i := Nat.dvd_of_mod_eq_zero (Nat.sub_mod_eq_zero_of_mod_eq eB.symm)
      have d := Nat.Coprime.mul_dvd_of_dvd_of_dvd (show Nat.Coprime A B from hg) dA dB
      have := Nat.le_of_dvd (by omega) d
      omega
    have hz : X * B + Y < A * B := by
      have h3 : (X + 1) * B ≤ A * B := Nat.mul_le_mul_right B hX
      rw [Nat.add_mul, Nat.one_mul] at h3
      omega
    obtain ⟨i, hi, e⟩ := fb_onto hlt hinj hz
    have q1 := hdm (i % A) (i % B) (Nat.mod_lt _ hB)
    have q2 := hdm X Y hY
    rw [e] at q1
    exact ⟨i, hi, q1.1.symm.trans q2.1, q1.2.symm.trans q2.2⟩
  exact fb_first key
theorem e_fold (μ : Mm) (h : Rel μ) (a b x y : Int32) : BI mX5_fold mX6_fold [.int a, .int b, .int x, .int y] μ := by
  obtain ⟨n, h⟩ := h
  have h' := h
  obtain ⟨h1, h2, h3, h4, h5, h6, h7, h8, h9, h10⟩ := h
  have hn : (nI n).toInt = n := nI_toInt (by omega)
  by_cases c : a.toInt < 1 ∨ b.toInt < 1
  · exact BI.mk (c_fold_no μ a b x y (c_canFold_no μ a b x y c)) (d_fold_no0 (sI μ 0 5 (nI 1)) a b x y h3.2.1 h2 (by omega)) (rel_no h' _)
  · obtain ⟨A, rfl, hA⟩ := nat9 (a := a) (by omega)
    obtain ⟨B, rfl, hB⟩ := nat9 (a := b) (by omega)
    have rA := fb_rng (nI A)
    have rB := fb_rng (nI B)
    have A1 : 1 ≤ A := by omega
    have B1 : 1 ≤ B := by omega
    have hc := c_canFold μ (A := A) (B := B) x y h3.1 h2 A1 (by omega) B1 (by omega)
    by_cases cf : foldP n A B x y
    · obtain ⟨f1, f2, f3, f4⟩ := cf
      obtain ⟨X, rfl, hX⟩ := nat9 f3.1
      obtain ⟨Y, rfl, hY⟩ := nat9 f4.1
      have X1 : X < A := by omega
      have Y1 : Y < B := by omega
      obtain ⟨i0, i1, i2, i3⟩ := crt9 A1 B1 f2 X1 Y1
      rw [f1] at i1
      exact BI.mk (c_fold_ok μ h3.1 h2 A1 B1 f1 f2 X1 Y1 i1 i2.1 i2.2 i3) ((d_fold_ok (sI μ 0 5 0) h3.2.1 h2 A1 B1 f1 f2 X1 Y1 i1 i2.1 i2.2 i3).toI (by show μ.1 34 i0 = μ.1 7 i0; rw [h3.2.2.2])) (rel_ok h')
    · rw [bI_f cf] at hc
      by_cases cn : A ≤ n ∧ B ≤ n
      · exact BI.mk (c_fold_no μ (nI A) (nI B) x y hc) (d_fold_no1 (sI μ 0 5 (nI 1)) x y h3.2.1 h2 A1 cn.1 B1 cn.2 cf) (rel_no h' _)
      · exact BI.mk (c_fold_no μ (nI A) (nI B) x y hc) (d_fold_no0 (sI μ 0 5 (nI 1)) (nI A) (nI B) x y h3.2.1 h2 (by omega)) (rel_no h' _)
/-- a new ring with a mask of 0 and 1 -/
theorem rel_made {μ : Mm} {n k : Nat} (h : Rl μ n) (k1 : 1 ≤ k) (k60 : k ≤ 60) (g : Nat → Int32) (hg : ∀ i, i < k → -1 ≤ (g i).toInt ∧ (g i).toInt ≤ 1) : Rel (sR (stN (sI (sR (sI (stM (sI μ 0 5 0) (nI k)) 3 4 0) 7 (fil (fil (μ.1 7) (fun _ => 0) 60) g k)) 33 14 0) (nI k)) 34 (fil (fil (μ.1 34) (fun _ => 0) 60) g k)) := by
  obtain ⟨h1, h2, h3, h4, h5, h6, h7, h8, h9, h10⟩ := h
  refine ⟨k, k1, k60, ⟨rfl, rfl, ?_, ?_⟩, ⟨?_, Sc0 k60⟩, Rd0 k60, rfl, h7, Or.inl ⟨rfl, rfl⟩, h9, h10⟩
  · show Mk (fil (fil (μ.1 7) (fun _ => 0) 60) g k) k
    intro i hi
    rw [fil_in hi]; exact hg i hi
  · show fil (fil (μ.1 34) (fun _ => 0) 60) g k = fil (fil (μ.1 7) (fun _ => 0) 60) g k
    rw [h3.2.2.2]
  · show fil (μ.1 35) (fun _ => 0) 60 = fil (μ.1 8) (fun _ => 0) 60
    rw [h4.1]
theorem bI_rng {c : Prop} [Decidable c] : -1 ≤ (bI c).toInt ∧ (bI c).toInt ≤ 1 := by
  by_cases h : c
  · rw [bI_t h]; decide
  · rw [bI_f h]; decide
theorem e_rests (μ : Mm) (h : Rel μ) (a : Int32) : BI mX5_rests mX6_rests [.int a] μ := by
  obtain ⟨n, h⟩ := h
  have h' := h
  obtain ⟨h1, h2, h3, h4, h5, h6, h7, h8, h9, h10⟩ := h
  by_cases c : a.toInt < 0 ∨ 60 ≤ a.toInt
  · refine BI.mk (c_rests_no μ a (c_isRestPrime_no μ a c)) (d_rests_no _ a ?_) (rel_no h' _)
    rintro p rfl ⟨p1, p2, p3, p4⟩
    rw [nI_toInt (by omega)] at c
    omega
  · obtain ⟨p, rfl, hp⟩ := nat9 (a := a) (by omega)
    have hO := c_isRestPrime μ (p := p) (by omega)
    by_cases cp : rstP p
    · refine BI.mk (c_rests_ok μ cp) ((d_rests_ok (sR (sI (stM (sI μ 0 5 0) (nI p)) 3 4 0) 7 (fil ((stM (sI μ 0 5 0) (nI p)).1 7) (fun i => bI (sqP i p)) p)) cp).toI ?_) (rel_made h' (by have := cp.1; omega) (by have := cp.2.1; omega) _ (fun i _ => bI_rng))
      show nI (fa_cnt (fun i => decide (fil (fil (μ.1 34) (fun _ => 0) 60) (fun i => bI (sqP i p)) p i = nI 1)) p) = nI (fa_cnt (fun i => decide (fil (fil (μ.1 7) (fun _ => 0) 60) (fun i => bI (sqP i p)) p i = nI 1)) p)
      rw [h3.2.2.2]
    · rw [bI_f cp] at hO
      refine BI.mk (c_rests_no μ (nI p) hO) (d_rests_no _ (nI p) ?_) (rel_no h' _)
      intro q e hq
      have := hq.2.1
      rw [nI_eq (by omega) (by omega)] at e
      exact cp (e ▸ hq)
theorem tw_35 : ∀ p, p < 60 → (twP p ↔ p = 3 ∨ p = 5) := by decide +kernel
theorem e_twins (μ : Mm) (h : Rel μ) (a : Int32) : BI mX5_twins mX6_twins [.int a] μ := by
  obtain ⟨n, h⟩ := h
  have h' := h
  obtain ⟨h1, h2, h3, h4, h5, h6, h7, h8, h9, h10⟩ := h
  by_cases c : a.toInt < 0 ∨ 60 ≤ a.toInt
  · refine BI.mk (c_twins_no μ a (c_isTwinPrime_no μ a c)) (d_twins_no _ a ?_ ?_) (rel_no h' _)
    · rintro rfl; rw [nt3] at c; omega
    · rintro rfl; rw [nt5] at c; omega
  · obtain ⟨p, rfl, hp⟩ := nat9 (a := a) (by omega)
    have hO := c_isTwinPrime μ (p := p) (by omega)
    have hi := tw_35 p (by omega)
    by_cases cp : twP p
    · have h35 := hi.mp cp
      have hpn : p * (p + 2) ≤ 60 := cp.2.2.1
      have hp1 : 1 ≤ p * (p + 2) := Nat.mul_pos (by omega) (by omega)
      refine BI.mk (c_twins_ok μ cp rfl) ((d_twins_ok (sR (sI (stM (sI μ 0 5 0) (nI (p * (p + 2)))) 3 4 0) 7 (fil ((stM (sI μ 0 5 0) (nI (p * (p + 2)))).1 7) (fun i => bI (twR p i)) (p * (p + 2)))) h35 rfl).toI ?_) (rel_made h' hp1 hpn _ (fun i _ => bI_rng))
      show nI (fa_cnt (fun i => decide (fil (fil (μ.1 34) (fun _ => 0) 60) (fun i => bI (twR p i)) (p * (p + 2)) i = nI 1)) (p * (p + 2))) = nI (fa_cnt (fun i => decide (fil (fil (μ.1 7) (fun _ => 0) 60) (fun i => bI (twR p i)) (p * (p + 2)) i = nI 1)) (p * (p + 2)))
      rw [h3.2.2.2]
    · rw [bI_f cp] at hO
      refine BI.mk (c_twins_no μ (nI p) hO) (d_twins_no _ (nI p) ?_ ?_) (rel_no h' _)
      · intro e; rw [nI_eq (by omega) (by omega)] at e; exact cp (hi.mpr (Or.inl e))
      · intro e; rw [nI_eq (by omega) (by omega)] at e; exact cp (hi.mpr (Or.inr e))
theorem and1_rng (x : Int32) : -1 ≤ (x &&& nI 1).toInt ∧ (x &&& nI 1).toInt ≤ 1 := by
  by_cases c : x &&& nI 1 = 0
  · rw [c]; decide
  · rw [and1_1 x c]; decide
theorem shift_one {μ : Mm} {n : Nat} (h : Rl μ n) {r N T m : Nat} (h2 : 2 ≤ r) (h5 : r ≤ 5) (hN : N ≤ 40) (hN1 : 1 ≤ N) (h1 : nI 1 <<< (nI r &&& 31) = nI (N + 1)) (hT : rdS (nI T) (nI r) N N 0 = N) (hT2 : T ≤ N) (hm : 1 + 2 * m = T) (hno : ∀ j, j < m → rdS (nI (1 + 2 * j)) (nI r) N N 0 ≠ N) (hl : ltF (nI r) N 21 1 = nI T) : BI mX5_shift mX6_shift [.int (nI r)] μ := by
  have hn : (nI 1 <<< (nI r &&& 31)) - nI 1 = nI N := by rw [h1]; exact nI_pred N
  exact BI.mk (c_shift_ok μ h2 h5 hn hN hl) (d_shift_ok (sR (sI (stM (sI μ 0 5 0) (nI N)) 3 4 0) 7 (fil ((stM (sI μ 0 5 0) (nI N)).1 7) (fun i => shS (nI T) (nI r) i &&& nI 1) N)) h2 h5 hN h1 hT hT2 hm hno) (rel_made h hN1 (by omega) _ (fun i _ => and1_rng _))
theorem e_shift (μ : Mm) (h : Rel μ) (a : Int32) : BI mX5_shift mX6_shift [.int a] μ := by
  obtain ⟨n, h⟩ := h
  by_cases c : a.toInt < 2 ∨ 5 < a.toInt
  · exact BI.mk (c_shift_no μ a c) (d_shift_no _ a c) (rel_no h _)
  · obtain ⟨r, rfl, hr⟩ := nat9 (a := a) (by omega)
    rcases (show r = 2 ∨ r = 3 ∨ r = 4 ∨ r = 5 by omega) with rfl | rfl | rfl | rfl
    · exact shift_one h (N := 3) (T := 3) (m := 1) (by decide) (by decide) (by decide) (by decide) (by decide +kernel) (by decide +kernel) (by decide) rfl (by decide +kernel) (by decide +kernel)
    · exact shift_one h (N := 7) (T := 3) (m := 1) (by decide) (by decide) (by decide) (by decide) (by decide +kernel) (by decide +kernel) (by decide) rfl (by decide +kernel) (by decide +kernel)
    · exact shift_one h (N := 15) (T := 3) (m := 1) (by decide) (by decide) (by decide) (by decide) (by decide +kernel) (by decide +kernel) (by decide) rfl (by decide +kernel) (by decide +kernel)
    · exact shift_one h (N := 31) (T := 5) (m := 2) (by decide) (by decide) (by decide) (by decide) (by decide +kernel) (by decide +kernel) (by decide) rfl (by decide +kernel) (by decide +kernel)
