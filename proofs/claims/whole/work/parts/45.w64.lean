/-! Bareiss in 64 bits -/
def tI (X : Mx) : Nat → Nat → Int := fun i j => (X i j).toInt
theorem sq_abs9 {x c : Int} (hc : 0 ≤ c) (h : x * x ≤ c * c) : -c ≤ x ∧ x ≤ c := by
  have key : ∀ y : Int, y * y ≤ c * c → y ≤ c := by
    intro y hy
    apply Int.le_of_not_gt
    intro hlt
    have h1 : 0 ≤ c * (y - c) := Int.mul_nonneg hc (by omega)
    have h2 : 0 < (y - c) * (y - c) := Int.mul_pos (by omega) (by omega)
    have e : y * y = c * c + 2 * (c * (y - c)) + (y - c) * (y - c) := by grind
    omega
  refine ⟨?_, key x h⟩
  have := key (-x) (by rw [Int.neg_mul_neg]; exact h)
  omega
theorem pow_le9 {N k : Nat} (hN : N ≤ 15) (h1 : 1 ≤ N) (hk : k ≤ 14) : (N : Int) ^ k ≤ 170859375 * 170859375 := by
  have h2 : N ^ k ≤ 15 ^ 14 := Nat.le_trans (Nat.pow_le_pow_left hN k) (Nat.pow_le_pow_right (by decide) hk)
  have h3 : ((N ^ k : Nat) : Int) ≤ ((15 ^ 14 : Nat) : Int) := Int.ofNat_le.mpr h2
  rw [Int.natCast_pow] at h3
  exact Int.le_trans h3 (by decide)
/-- the elimination's state, in 64 bits -/
def Bw (N rows : Nat) (A : Nat → Nat → Int) (k : Nat) (X : Mx) (b : Int64) : Prop := Bz N rows N A k (tI X) b.toInt
def sm28 (x : Int64) : Prop := -170859375 ≤ x.toInt ∧ x.toInt ≤ 170859375
theorem bw_sm {N rows k : Nat} {A : Nat → Nat → Int} {X : Mx} {b : Int64} (hN : N ≤ 15) (h1 : 1 ≤ N) (hr : rows ≤ 14) (h : Bw N rows A k X b) : (∀ i j, i < rows → j < N → sm28 (X i j)) ∧ sm28 b := by
  obtain ⟨a, a1, a2, a3, a4, a5, a6, a7, a8, a9⟩ := h
  refine ⟨fun i j hi hj => sq_abs9 (by decide) ?_, sq_abs9 (by decide) ?_⟩
  · by_cases c : i < k
    · exact Int.le_trans (a6 i j c hj) (pow_le9 hN h1 (by omega))
    · exact Int.le_trans (a5 i j (by omega) hi hj) (pow_le9 hN h1 (by omega))
  · rw [← a2.2]
    exact Int.le_trans (cs_le (om_norm (by omega) k (fun i hi => a1 i (by omega))) (ep_norm a9) (Int.pow_nonneg (by omega))) (pow_le9 hN h1 (by omega))
theorem mul_bd {x y c : Int} (hx : -c ≤ x ∧ x ≤ c) (hy : -c ≤ y ∧ y ≤ c) : -(c * c) ≤ x * y ∧ x * y ≤ c * c := by
  have h1 : 0 ≤ (c - x) * (c + y) := Int.mul_nonneg (by omega) (by omega)
  have h2 : 0 ≤ (c + x) * (c - y) := Int.mul_nonneg (by omega) (by omega)
  have h3 : 0 ≤ (c - x) * (c - y) := Int.mul_nonneg (by omega) (by omega)
  have h4 : 0 ≤ (c + x) * (c + y) := Int.mul_nonneg (by omega) (by omega)
  have e1 : (c - x) * (c + y) = c * c + c * y - c * x - x * y := by grind
  have e2 : (c + x) * (c - y) = c * c - c * y + c * x - x * y := by grind
  have e3 : (c - x) * (c - y) = c * c - c * y - c * x + x * y := by grind
  have e4 : (c + x) * (c + y) = c * c + c * y + c * x + x * y := by grind
  omega
theorem bm64 {x : Int} (h1 : -9223372036854775808 ≤ x) (h2 : x < 9223372036854775808) : x.bmod (2 ^ 64) = x := Int.bmod_eq_of_le (by omega) (by omega)
theorem el_64 {x y z w b : Int64} (hx : sm28 x) (hy : sm28 y) (hz : sm28 z) (hw : sm28 w) : ((x * y - z * w) / b).toInt = (x.toInt * y.toInt - z.toInt * w.toInt).tdiv b.toInt := by
  have m1 := mul_bd hx hy
  have m2 := mul_bd hz hw
  have q1 : (x * y).toInt = x.toInt * y.toInt := by rw [Int64.toInt_mul]; exact bm64 (by omega) (by omega)
  have q2 : (z * w).toInt = z.toInt * w.toInt := by rw [Int64.toInt_mul]; exact bm64 (by omega) (by omega)
  have q3 : (x * y - z * w).toInt = x.toInt * y.toInt - z.toInt * w.toInt := by rw [Int64.toInt_sub, q1, q2]; exact bm64 (by omega) (by omega)
  rw [Int64.toInt_div, q3]
  generalize hT : x.toInt * y.toInt - z.toInt * w.toInt = T at *
  have hTn : T.natAbs ≤ 58384652709960937 * 2 := by omega
  have hq : (T.tdiv b.toInt).natAbs ≤ T.natAbs := by rw [Int.natAbs_tdiv]; exact Nat.div_le_self _ _
  exact bm64 (by omega) (by omega)
theorem tI_sw (X : Mx) (k p : Nat) : sw9 (tI X) k p = tI (sw9 X k p) := by
  funext i j
  by_cases e : i = k
  · simp [sw9, tI, e]
  · by_cases e2 : i = p
    · subst e2; simp [sw9, tI, e]
    · simp [sw9, tI, e, e2]
theorem bw_step {N rows k p : Nat} {A : Nat → Nat → Int} {X X' : Mx} {b : Int64} (hN : N ≤ 15) (h1 : 1 ≤ N) (hr : rows ≤ 14) (h : Bw N rows A k X b) (hk : k < rows) (hkN : k < N) (hp : k ≤ p) (hpr : p < rows) (hne : ¬ X p k = 0) (hX : ∀ i j, i < rows → j < N → X' i j = if i = k then X p j else (X p k * sw9 X k p i j - sw9 X k p i k * X p j) / b) : Bw N rows A (k + 1) X' (X p k) := by
  have h2 := bz_swap h hk hp hpr
  rw [tI_sw] at h2
  have hs := (bw_sm hN h1 hr h2).1
  have ek : sw9 X k p k = X p := if_pos rfl
  have hne2 : tI (sw9 X k p) k k ≠ 0 := by
    unfold tI
    rw [ek]
    exact fun e => hne (Int64.toInt_inj.mp e)
  have h3 := bz_clear (M' := tI X') (by omega) h2 hk hkN hne2 (fun i j hi hj => ?_)
  · have e9 : tI (sw9 X k p) k k = (X p k).toInt := by unfold tI; rw [ek]
    rw [e9] at h3
    exact h3
  · unfold tI
    rw [hX i j hi hj]
    by_cases e : i = k
    · rw [if_pos e, if_pos e, ek]
    · rw [if_neg e, if_neg e, ek]
      have s1 := hs k k hk hkN
      have s2 := hs i j hi hj
      have s3 := hs i k hi hkN
      have s4 := hs k j hk hj
      rw [ek] at s1 s4
      exact el_64 s1 s2 s3 s4
