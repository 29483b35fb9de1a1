/-! BACK: the class's and the reference's are one -/
theorem dn_le (rows w : Nat) : ∀ (m c k : Nat) (b : Int64) (X : Mx), (dnF rows w m c k b X).1 ≤ k + m := by
  intro m
  induction m with
  | zero => intro c k b X; exact Nat.le_refl k
  | succ m ih =>
    intro c k b X
    unfold dnF
    split
    · split
      · have := ih (c + 1) (k + 1) (swM X (ldF X c rows (rows + 1) k) k w k c) (stD X k c w (ldF X c rows (rows + 1) k) b rows); omega
      · have := ih (c + 1) k b X; omega
    · show k ≤ k + (m + 1); omega
theorem dn_rows (rows w : Nat) : ∀ (m c k : Nat) (b : Int64) (X : Mx), k ≤ rows → (dnF rows w m c k b X).1 ≤ rows := by
  intro m
  induction m with
  | zero => intro c k b X h; exact h
  | succ m ih =>
    intro c k b X h
    unfold dnF
    split
    · split
      · exact ih (c + 1) (k + 1) _ _ (by omega)
      · exact ih (c + 1) k b X h
    · exact h
theorem sb_stp (f : Nat → Int32) (n : Nat) (X : Mx) : (∃ Y, (∀ j, j < n → pvP (sbC f n) n j) ∧ Ag (n + 1) n Y (caF (sbC f n) n n).1 ∧ sbN f n X = (n, (caF (sbC f n) n n).2, Y)) ∨ ((sbN f n X).1 < n ∧ ∃ e, e < n ∧ (∀ j, j < e → pvP (sbC f n) n j) ∧ ¬ pvP (sbC f n) n e) := by
  obtain ⟨e, Y, _, e2, e3, e4, e5, e6⟩ := mk_dn (A := sbC f n) (w := n + 1) n 0 1 (fsM f n X n) (by omega) (by omega) (fun j hj => absurd hj (by omega)) (fsM_ag f n X) rfl
  have e7 : sbN f n X = dnF n (n + 1) (0 + n - e) e e (caF (sbC f n) n e).2 Y := e6
  by_cases c : e < n
  · right
    refine ⟨?_, e, c, e3, e4 (by omega)⟩
    rw [e7]
    obtain ⟨m, hm⟩ : ∃ m, 0 + n - e = m + 1 := ⟨n - e - 1, by omega⟩
    rw [hm]
    have hno : ¬ ldF Y e n (n + 1) e < n := by
      have ep : ldF Y e n (n + 1) e = cpv n (caF (sbC f n) n e).1 e := ldF_cong (fun i hi => e5 i e hi (by omega)) _ _
      rw [ep]; exact e4 (by omega)
    have e8 : dnF n (n + 1) (m + 1) e e (caF (sbC f n) n e).2 Y = dnF n (n + 1) m (e + 1) e (caF (sbC f n) n e).2 Y := (if_pos c).trans (if_neg hno)
    rw [e8]
    have := dn_le n (n + 1) m (e + 1) e (caF (sbC f n) n e).2 Y
    omega
  · left
    obtain rfl : e = n := by omega
    refine ⟨Y, e3, e5, ?_⟩
    rw [e7, show 0 + e - e = 0 by omega]
    rfl
theorem rv_rv {n e : Nat} (h : e < n) : (n - (n - e) % n) % n = e := by
  by_cases c : e = 0
  · rw [c, Nat.sub_zero, Nat.mod_self, Nat.sub_zero, Nat.mod_self]
  · rw [Nat.mod_eq_of_lt (show n - e < n by omega), show n - (n - e) = e by omega, Nat.mod_eq_of_lt h]
theorem bw_ne {N rows k : Nat} {A : Nat → Nat → Int} {X : Mx} {b : Int64} (h : Bw N rows A k X b) : b.toInt ≠ 0 := by
  obtain ⟨a, a1, a2, a3⟩ := h
  exact a2.1
theorem kv_at {M : Nat → Nat → Int} {D : Int} {e : Nat} : kv M D e e = D := by unfold kv; rw [if_neg (Nat.lt_irrefl e), if_pos rfl]
theorem no_ker {n e : Nat} {A A2 : Nat → Nat → Int} {X X2 : Mx} {b b2 : Int64} (h0 : 0 < n) (he : e < n) (hA : Bw (n + 1) n A n X b) (hB : Bw (n + 1) n A2 e X2 b2) (hz : ∀ i, e ≤ i → i < n → X2 i e = 0) (hr : Kr (n + 1) n A2 (kv (tI X2) b2.toInt e) → Kr (n + 1) n A (rvv (kv (tI X2) b2.toInt e) n)) : False := by
  have hk := bz_ker hB (by omega) (fun i q1 q2 => by unfold tI; rw [hz i q1 q2]; decide)
  have hs := bz_sol hA (hr hk) ((n - e) % n) (md_lt _ h0)
  have z1 : rvv (kv (tI X2) b2.toInt e) n n = 0 := by
    unfold rvv
    rw [if_neg (Nat.lt_irrefl n)]
    exact kv_0 n (by omega)
  have z2 : rvv (kv (tI X2) b2.toInt e) n ((n - e) % n) = b2.toInt := by
    unfold rvv
    rw [if_pos (md_lt _ h0), rv_rv he, kv_at]
  rw [z1, z2, Int.mul_zero, Int.add_zero] at hs
  rcases Int.mul_eq_zero.mp hs with h | h
  · exact bw_ne hA h
  · exact bw_ne hB h
theorem sb_of_sh {f : Nat → Int32} {n : Nat} (hn : n ≤ 14) (h0 : 0 < n) (hf : Mk f n) (hp : ∀ j, j < n → pvP (shC f n) n j) : ¬ ∃ e, e < n ∧ (∀ j, j < e → pvP (sbC f n) n j) ∧ ¬ pvP (sbC f n) n e := by
  rintro ⟨e, he, h1, h2⟩
  have hA := ca_bw (A := shC f n) (N := n + 1) (by omega) (by omega) hn (fun i j hi _ => shC_sm hf i j hi) n (Nat.le_refl n) (by omega) hp
  have hB := ca_bw (A := sbC f n) (N := n + 1) (by omega) (by omega) hn (fun i j hi _ => sbC_sm hf i j hi) e (by omega) (by omega) h1
  exact no_ker h0 he hA hB (ldF_none (n + 1) e (by omega) h2) (fun hk => kr_rev2 (shC_ci f n) (sbC_cr f n) (shC_e0 f n) (sbC_e0 f n) hk)
theorem sh_of_sb {f : Nat → Int32} {n e : Nat} (hn : n ≤ 14) (h0 : 0 < n) (hf : Mk f n) (hp : ∀ j, j < n → pvP (sbC f n) n j) (hs : Hlt9 (shC f n) n e) : e = n := by
  apply Nat.le_antisymm hs.1
  apply Nat.le_of_not_gt
  intro he
  have hA := ca_bw (A := sbC f n) (N := n + 1) (by omega) (by omega) hn (fun i j hi _ => sbC_sm hf i j hi) n (Nat.le_refl n) (by omega) hp
  have hB := ca_bw (A := shC f n) (N := n + 1) (by omega) (by omega) hn (fun i j hi _ => shC_sm hf i j hi) e (by omega) (by omega) hs.2.1
  exact no_ker h0 he hA hB (ldF_none (n + 1) e (by omega) (hs.2.2 he)) (fun hk => kr_rev (shC_ci f n) (sbC_cr f n) (shC_e0 f n) (sbC_e0 f n) hk)
theorem back_int {D1 D2 s1 s2 m1 m2 : Int} (hs : D2 * s1 = D1 * s2) (hm : D2 * m1 = D1 * m2) (h2 : D2 ≠ 0) (hs1 : s1 ≠ 0) (hs2 : s2 ≠ 0) (d1 : s1 ∣ m1) (d2 : s2 ∣ m2) : m1.tdiv s1 = m2.tdiv s2 := by
  obtain ⟨u, rfl⟩ := d1
  obtain ⟨v, rfl⟩ := d2
  rw [Int.mul_tdiv_cancel_left _ hs1, Int.mul_tdiv_cancel_left _ hs2]
  have e : (D2 * s1) * u = (D2 * s1) * v := by
    rw [Int.mul_assoc, hm, ← Int.mul_assoc, ← hs]
  exact Int.eq_of_mul_eq_mul_left (Int.mul_ne_zero h2 hs1) e
def sgS (D : Int) (g : Nat) : Int := if D < 0 then -(g : Int) else (g : Int)
theorem sgn_eq {D1 D2 : Int} {g1 g2 : Nat} (h : D2.natAbs * g1 = D1.natAbs * g2) : D2 * sgS D1 g1 = D1 * sgS D2 g2 := by
  have h' : (D2.natAbs : Int) * (g1 : Int) = (D1.natAbs : Int) * (g2 : Int) := by rw [← Int.natCast_mul, ← Int.natCast_mul, h]
  unfold sgS
  by_cases c1 : D1 < 0
  · have a1 : (D1.natAbs : Int) = -D1 := by omega
    by_cases c2 : D2 < 0
    · have a2 : (D2.natAbs : Int) = -D2 := by omega
      rw [a1, a2] at h'
      rw [if_pos c1, if_pos c2]; grind
    · have a2 : (D2.natAbs : Int) = D2 := by omega
      rw [a1, a2] at h'
      rw [if_pos c1, if_neg c2]; grind
  · have a1 : (D1.natAbs : Int) = D1 := by omega
    by_cases c2 : D2 < 0
    · have a2 : (D2.natAbs : Int) = -D2 := by omega
      rw [a1, a2] at h'
      rw [if_neg c1, if_pos c2]; grind
    · have a2 : (D2.natAbs : Int) = D2 := by omega
      rw [a1, a2] at h'
      rw [if_neg c1, if_neg c2]; grind
theorem sgS_dvd {D m : Int} {g : Nat} (h : g ∣ m.natAbs) : sgS D g ∣ m := by
  have h1 : (g : Int) ∣ m := Int.ofNat_dvd_left.mpr h
  unfold sgS
  by_cases c : D < 0
  · rw [if_pos c]; exact Int.neg_dvd.mpr h1
  · rw [if_neg c]; exact h1
theorem sgS_ne {D : Int} {g : Nat} (h : g ≠ 0) : sgS D g ≠ 0 := by
  unfold sgS
  by_cases c : D < 0
  · rw [if_pos c]; omega
  · rw [if_neg c]; omega
theorem gN_perm {x n : Nat} {f : Nat → Nat} : gN x f n = gN x (fun j => f ((n - j) % n)) n := by
  apply Nat.dvd_antisymm
  · refine (gN_dvd n).mpr ⟨((gN_dvd n).mp (Nat.dvd_refl _)).1, fun j hj => ((gN_dvd n).mp (Nat.dvd_refl _)).2 _ (Nat.mod_lt _ (by omega))⟩
  · refine (gN_dvd n).mpr ⟨((gN_dvd n).mp (Nat.dvd_refl _)).1, fun j hj => ?_⟩
    have h := ((gN_dvd (a := gN x (fun j => f ((n - j) % n)) n) n).mp (Nat.dvd_refl _)).2 ((n - j) % n) (Nat.mod_lt _ (by omega))
    have h' : gN x (fun j => f ((n - j) % n)) n ∣ f ((n - (n - j) % n) % n) := h
    rw [rv_rv hj] at h'
    exact h'
theorem lt_i0 {x : Int64} : x < 0 ↔ x.toInt < 0 := Int64.lt_iff_toInt_lt
theorem sS_toInt {d : Int64} {h : Nat → Int64} {n : Nat} (hn : 0 < n) (hd : sm28 d) (hh : ∀ j, j < n → sm28 (h j)) (h0 : d.toInt ≠ 0) : (if d < 0 then -(gF d h n) else gF d h n).toInt = sgS d.toInt (gN d.toInt.natAbs (nA h) n) ∧ gN d.toInt.natAbs (nA h) n ≠ 0 ∧ gN d.toInt.natAbs (nA h) n ≤ d.toInt.natAbs := by
  have e := gF_lN (sm_min hd) hn (fun j hj => sm_min (hh j hj))
  have hdv : gN d.toInt.natAbs (nA h) n ∣ d.toInt.natAbs := ((gN_dvd n).mp (Nat.dvd_refl _)).1
  have hx : d.toInt.natAbs ≠ 0 := by omega
  have hle : gN d.toInt.natAbs (nA h) n ≤ d.toInt.natAbs := Nat.le_of_dvd (by omega) hdv
  have hne : gN d.toInt.natAbs (nA h) n ≠ 0 := fun z => hx (by rw [z] at hdv; exact Nat.eq_zero_of_zero_dvd hdv)
  refine ⟨?_, hne, hle⟩
  have hb := hd
  unfold sm28 at hb
  rw [e]
  have hg : (lN (gN d.toInt.natAbs (nA h) n)).toInt = (gN d.toInt.natAbs (nA h) n : Int) := lN_big (by omega)
  unfold sgS
  by_cases c : d < 0
  · rw [if_pos c, if_pos (lt_i0.mp c), neg_toInt (by rw [hg]; omega), hg]
  · rw [if_neg c, if_neg (fun q => c (lt_i0.mpr q)), hg]
theorem dv_64 {x s : Int64} (hx : sm28 x) : (x / s).toInt = x.toInt.tdiv s.toInt := by
  rw [Int64.toInt_div]
  have hb := hx
  unfold sm28 at hb
  have hq : (x.toInt.tdiv s.toInt).natAbs ≤ x.toInt.natAbs := by rw [Int.natAbs_tdiv]; exact Nat.div_le_self _ _
  exact bm64 (by omega) (by omega)
theorem dv_sm {x s : Int64} (hx : sm28 x) : sm28 (x / s) := by
  have hb := hx
  unfold sm28 at hb ⊢
  rw [dv_64 hx]
  have hq : (x.toInt.tdiv s.toInt).natAbs ≤ x.toInt.natAbs := by rw [Int.natAbs_tdiv]; exact Nat.div_le_self _ _
  omega
theorem quF_div (x d : Int64) : quF x d = x / d := by
  unfold quF
  by_cases c : d = 0
  · rw [if_pos c, c]
    apply Int64.toInt_inj.mp
    rw [Int64.toInt_div]
    show (0 : Int) = (x.toInt.tdiv 0).bmod (2 ^ 64)
    rw [Int.tdiv_zero]; rfl
  · rw [if_neg c]
/-- the mask's BACK: what stands below, and the row -/
def cS (f : Nat → Int32) (n : Nat) : Int64 := if (caF (shC f n) n n).2 < 0 then -(gF (caF (shC f n) n n).2 (fun j => (caF (shC f n) n n).1 j n) n) else gF (caF (shC f n) n n).2 (fun j => (caF (shC f n) n n).1 j n) n
def cD (f : Nat → Int32) (n : Nat) : Int64 := (caF (shC f n) n n).2 / cS f n
def cB (f : Nat → Int32) (n j : Nat) : Int64 := (caF (shC f n) n n).1 ((n - j) % n) n / cS f n
def Und (f : Nat → Int32) (n : Nat) : Prop := ∀ j, j < n → pvP (shC f n) n j
theorem und_sm {f : Nat → Int32} {n : Nat} (hn : n ≤ 14) (hf : Mk f n) (hp : Und f n) : (∀ i, i < n → sm28 ((caF (shC f n) n n).1 i n)) ∧ sm28 (caF (shC f n) n n).2 ∧ (caF (shC f n) n n).2.toInt ≠ 0 := by
  have hA := ca_bw (A := shC f n) (N := n + 1) (by omega) (by omega) hn (fun i j hi _ => shC_sm hf i j hi) n (Nat.le_refl n) (by omega) hp
  have hs := bw_sm (by omega) (by omega) hn hA
  exact ⟨fun i hi => hs.1 i n hi (by omega), hs.2, bw_ne hA⟩
theorem cB_sm {f : Nat → Int32} {n : Nat} (hn : n ≤ 14) (hf : Mk f n) (hp : Und f n) : ∀ j, j < n → sm28 (cB f n j) := fun j hj => dv_sm ((und_sm hn hf hp).1 _ (Nat.mod_lt _ (by omega)))
theorem cD_sm {f : Nat → Int32} {n : Nat} (hn : n ≤ 14) (h0 : 0 < n) (hf : Mk f n) (hp : Und f n) : sm28 (cD f n) ∧ 0 < (cD f n).toInt := by
  obtain ⟨h1, h2, h3⟩ := und_sm hn hf hp
  refine ⟨dv_sm h2, ?_⟩
  obtain ⟨q1, q2, q3⟩ := sS_toInt (h := fun j => (caF (shC f n) n n).1 j n) h0 h2 h1 h3
  have hdv : gN (caF (shC f n) n n).2.toInt.natAbs (nA (fun j => (caF (shC f n) n n).1 j n)) n ∣ (caF (shC f n) n n).2.toInt.natAbs := ((gN_dvd n).mp (Nat.dvd_refl _)).1
  unfold cD
  rw [dv_64 h2]
  have q1' : (cS f n).toInt = _ := q1
  rw [q1']
  generalize gN (caF (shC f n) n n).2.toInt.natAbs (nA (fun j => (caF (shC f n) n n).1 j n)) n = g at *
  generalize (caF (shC f n) n n).2.toInt = D at *
  obtain ⟨u, hu⟩ := sgS_dvd (D := D) hdv
  have e : D.tdiv (sgS D g) = u := by
    have := Int.mul_tdiv_cancel_left u (sgS_ne (D := D) q2)
    rw [← hu] at this
    exact this
  rw [e]
  apply Int.lt_of_not_ge
  intro hle
  have hg : 0 ≤ (g : Int) * (-u) := Int.mul_nonneg (by omega) (by omega)
  have e2 : (g : Int) * (-u) = -((g : Int) * u) := Int.mul_neg _ _
  unfold sgS at hu
  by_cases c : D < 0
  · rw [if_pos c, Int.neg_mul] at hu; omega
  · rw [if_neg c] at hu; omega
theorem back_main {f : Nat → Int32} {n : Nat} (hn : n ≤ 14) (h0 : 0 < n) (hf : Mk f n) (hp : Und f n) (hq : ∀ j, j < n → pvP (sbC f n) n j) {Y : Mx} (hY : Ag (n + 1) n Y (caF (sbC f n) n n).1) : cD f n = (caF (sbC f n) n n).2 / sbS n (caF (sbC f n) n n).2 Y ∧ ∀ j, j < n → cB f n j = Y j n / sbS n (caF (sbC f n) n n).2 Y := by
  have hA := ca_bw (A := shC f n) (N := n + 1) (by omega) (by omega) hn (fun i j hi _ => shC_sm hf i j hi) n (Nat.le_refl n) (by omega) hp
  have hB := ca_bw (A := sbC f n) (N := n + 1) (by omega) (by omega) hn (fun i j hi _ => sbC_sm hf i j hi) n (Nat.le_refl n) (by omega) hq
  have sA := bw_sm (by omega) (by omega) hn hA
  have sB := bw_sm (by omega) (by omega) hn hB
  have nA1 := bw_ne hA
  have nB1 := bw_ne hB
  have hsY : ∀ j, j < n → sm28 (Y j n) := fun j hj => by rw [hY j n hj (by omega)]; exact sB.1 j n hj (by omega)
  obtain ⟨p1, p2, p3⟩ := sS_toInt (h := fun j => (caF (shC f n) n n).1 j n) h0 sA.2 (fun j hj => sA.1 j n hj (by omega)) nA1
  obtain ⟨r1, r2, r3⟩ := sS_toInt (h := fun j => Y j n) h0 sB.2 hsY nB1
  have p1' : (cS f n).toInt = _ := p1
  have r1' : (sbS n (caF (sbC f n) n n).2 Y).toInt = _ := r1
  have key : ∀ j, j < n → (caF (sbC f n) n n).2.toInt * ((caF (shC f n) n n).1 ((n - j) % n) n).toInt = (caF (shC f n) n n).2.toInt * (Y j n).toInt := by
    intro j hj
    have k1 := kr_rev (shC_ci f n) (sbC_cr f n) (shC_e0 f n) (sbC_e0 f n) (bz_has hA)
    have k2 := bz_sol hB k1 j hj
    have z1 : rvv (sv9 (tI (caF (shC f n) n n).1) (caF (shC f n) n n).2.toInt n) n n = -(caF (shC f n) n n).2.toInt := by
      unfold rvv sv9
      rw [if_neg (Nat.lt_irrefl n), if_neg (Nat.lt_irrefl n)]
    have z2 : rvv (sv9 (tI (caF (shC f n) n n).1) (caF (shC f n) n n).2.toInt n) n j = ((caF (shC f n) n n).1 ((n - j) % n) n).toInt := by
      unfold rvv sv9
      rw [if_pos hj, if_pos (Nat.mod_lt _ h0)]; rfl
    rw [z1, z2] at k2
    have z3 : tI (caF (sbC f n) n n).1 j n = (Y j n).toInt := by unfold tI; rw [hY j n hj (by omega)]
    rw [z3] at k2
    generalize (caF (sbC f n) n n).2.toInt * ((caF (shC f n) n n).1 ((n - j) % n) n).toInt = P at *
    have e9 : (Y j n).toInt * -(caF (shC f n) n n).2.toInt = -((caF (shC f n) n n).2.toInt * (Y j n).toInt) := by rw [Int.mul_neg, Int.mul_comm]
    rw [e9] at k2
    omega
  have hg : (caF (sbC f n) n n).2.toInt.natAbs * gN (caF (shC f n) n n).2.toInt.natAbs (nA (fun j => (caF (shC f n) n n).1 j n)) n = (caF (shC f n) n n).2.toInt.natAbs * gN (caF (sbC f n) n n).2.toInt.natAbs (nA (fun j => Y j n)) n := by
    rw [gN_perm, gN_mul, gN_mul, Nat.mul_comm (caF (sbC f n) n n).2.toInt.natAbs]
    refine gN_cong (fun j hj => ?_)
    show (caF (sbC f n) n n).2.toInt.natAbs * ((caF (shC f n) n n).1 ((n - j) % n) n).toInt.natAbs = (caF (shC f n) n n).2.toInt.natAbs * (Y j n).toInt.natAbs
    rw [← Int.natAbs_mul, ← Int.natAbs_mul, key j hj]
  have hs := sgn_eq hg
  refine ⟨?_, fun j hj => ?_⟩
  · apply Int64.toInt_inj.mp
    unfold cD
    rw [dv_64 sA.2, dv_64 sB.2, p1', r1']
    exact back_int hs (Int.mul_comm _ _) nB1 (sgS_ne p2) (sgS_ne r2) (sgS_dvd ((gN_dvd n).mp (Nat.dvd_refl _)).1) (sgS_dvd ((gN_dvd n).mp (Nat.dvd_refl _)).1)
  · apply Int64.toInt_inj.mp
    unfold cB
    rw [dv_64 (sA.1 _ n (Nat.mod_lt _ h0) (by omega)), dv_64 (hsY j hj), p1', r1']
    exact back_int hs (key j hj) nB1 (sgS_ne p2) (sgS_ne r2) (sgS_dvd (((gN_dvd n).mp (Nat.dvd_refl _)).2 _ (Nat.mod_lt _ h0))) (sgS_dvd (((gN_dvd n).mp (Nat.dvd_refl _)).2 j hj))
/-- the class's cells give it -/
theorem iv_eq {f : Nat → Int32} {n : Nat} (h0 : 0 < n) {Y : Mx} (hY : Ag (n + 1) n Y (caF (shC f n) n n).1) : ivD n Y = cD f n ∧ ∀ j, j < n → ivB n Y j = cB f n j := by
  obtain ⟨k, rfl⟩ : ∃ k, n = k + 1 := ⟨n - 1, by omega⟩
  have e1 : Y (k + 1 - 1) (k + 1 - 1) = (caF (shC f (k + 1)) (k + 1) (k + 1)).2 := by
    rw [show k + 1 - 1 = k by omega, hY k k (by omega) (by omega)]
    exact ca_diag _ _ k
  have e2 : ivS (k + 1) Y = cS f (k + 1) := by
    unfold ivS cS
    rw [e1, gF_cong (f := fun j => Y j (k + 1)) (g := fun j => (caF (shC f (k + 1)) (k + 1) (k + 1)).1 j (k + 1)) (fun j hj => hY j (k + 1) hj (by omega))]
  refine ⟨?_, fun j hj => ?_⟩
  · unfold ivD cD
    rw [quF_div, e1, e2]
  · unfold ivB cB
    rw [quF_div, e2, hY _ (k + 1) (Nat.mod_lt _ (by omega)) (by omega)]
theorem rd_und {f : Nat → Int32} {n : Nat} {X : Mx} (hr : (rdN f n X).1 = n) : Und f n ∧ Ag (n + 1) n (rdN f n X).2 (caF (shC f n) n n).1 := by
  have h := rdN_stp f n X
  rw [hr] at h
  exact ⟨h.1.2.1, h.2⟩
theorem rd_min {f : Nat → Int32} {n : Nat} {X : Mx} (hn : n ≤ 14) (hf : Mk f n) : ∀ i j, i < n → j ≤ n → sm28 ((rdN f n X).2 i j) := by
  have h := rdN_stp f n X
  have hA := ca_bw (A := shC f n) (N := n + 1) (by omega) (by omega) hn (fun i j hi _ => shC_sm hf i j hi) (rdN f n X).1 h.1.1 (by have := h.1.1; omega) h.1.2.1
  intro i j hi hj
  rw [h.2 i j hi (by omega)]
  exact (bw_sm (by omega) (by omega) hn hA).1 i j hi (by omega)
/-- the reference's too; and it can be undone by both or by none -/
theorem sb_no {f : Nat → Int32} {n : Nat} (hn : n ≤ 14) (h0 : 0 < n) (hf : Mk f n) (X X' : Mx) (hr : (rdN f n X).1 < n) : (sbN f n X').1 < n := by
  rcases sb_stp f n X' with ⟨Y, h1, h2, h3⟩ | ⟨h1, h2⟩
  · have := sh_of_sb hn h0 hf h1 (rdN_stp f n X).1
    omega
  · exact h1
theorem sb_yes {f : Nat → Int32} {n : Nat} (hn : n ≤ 14) (h0 : 0 < n) (hf : Mk f n) (hu : Und f n) (X' : Mx) : (sbN f n X').1 = n ∧ sm28 (sbN f n X').2.1 ∧ ¬ (sbN f n X').2.1 = 0 ∧ (∀ j, j < n → sm28 ((sbN f n X').2.2 j n)) ∧ (sbN f n X').2.1 / sbS n (sbN f n X').2.1 (sbN f n X').2.2 = cD f n ∧ ∀ j, j < n → sbQ n (sbN f n X') j = cB f n j := by
  rcases sb_stp f n X' with ⟨Y, h1, h2, h3⟩ | ⟨h1, h2⟩
  · rw [h3]
    have hB := ca_bw (A := sbC f n) (N := n + 1) (by omega) (by omega) hn (fun i j hi _ => sbC_sm hf i j hi) n (Nat.le_refl n) (by omega) h1
    have sB := bw_sm (by omega) (by omega) hn hB
    have hm := back_main hn h0 hf hu h1 h2
    refine ⟨rfl, sB.2, fun e => bw_ne hB (by rw [show (caF (sbC f n) n n).2 = 0 from e]; rfl), fun j hj => ?_, hm.1.symm, fun j hj => (hm.2 j hj).symm⟩
    show sm28 (Y j n)
    rw [h2 j n hj (by omega)]
    exact sB.1 j n hj (by omega)
  · exact absurd h2 (sb_of_sh hn h0 hf hu)
