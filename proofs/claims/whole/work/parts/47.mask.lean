/-! The mask's matrix: rank, sure, lost -/
def Mk (f : Nat → Int32) (n : Nat) : Prop := ∀ i, i < n → -1 ≤ (f i).toInt ∧ (f i).toInt ≤ 1
theorem i2l_toInt (x : Int32) : x.toInt64.toInt = x.toInt := Int32.toInt_toInt64 x
theorem shC_sm {f : Nat → Int32} {n : Nat} (h : Mk f n) : ∀ i j, i < n → -1 ≤ (shC f n i j).toInt ∧ (shC f n i j).toInt ≤ 1 := by
  intro i j hi
  unfold shC
  by_cases c : j < n
  · rw [if_pos c, i2l_toInt]; exact h _ (Nat.mod_lt _ (by omega))
  · rw [if_neg c]
    by_cases c2 : i = 0
    · rw [if_pos c2]; decide
    · rw [if_neg c2]; decide
theorem sbC_sm {f : Nat → Int32} {n : Nat} (h : Mk f n) : ∀ i j, i < n → -1 ≤ (sbC f n i j).toInt ∧ (sbC f n i j).toInt ≤ 1 := by
  intro i j hi
  unfold sbC
  by_cases c : j < n
  · rw [if_pos c, i2l_toInt]; exact h _ (Nat.mod_lt _ (by omega))
  · rw [if_neg c]
    by_cases c2 : i = 0
    · rw [if_pos c2]; decide
    · rw [if_neg c2]; decide
theorem fcM_ag (f : Nat → Int32) (n : Nat) (X : Mx) : Ag (n + 1) n (fcM f n X n) (shC f n) := by
  intro i j hi hj
  unfold fcM
  rw [fil_in hi, fil_in hj]
theorem fsM_ag (f : Nat → Int32) (n : Nat) (X : Mx) : Ag (n + 1) n (fsM f n X n) (sbC f n) := by
  intro i j hi hj
  unfold fsM
  rw [fil_in hi, fil_in hj]
theorem lyM_ag (f : Nat → Int32) (n w : Nat) (X : Mx) : Ag w n (lyM f n w X n) (shC f n) := by
  intro i j hi hj
  unfold lyM
  rw [fil_in hi, fil_in hj]
/-- where the elimination stops -/
def Hlt9 (A : Mx) (n e : Nat) : Prop := e ≤ n ∧ (∀ j, j < e → pvP A n j) ∧ (e < n → ¬ pvP A n e)
theorem Hlt9.eq {A : Mx} {n e e' : Nat} (h : Hlt9 A n e) (h' : Hlt9 A n e') : e = e' := stop_eq h.2.1 h.2.2 h'.2.1 h'.2.2 h.1 h'.1
theorem rdN_stp (f : Nat → Int32) (n : Nat) (X : Mx) : Hlt9 (shC f n) n (rdN f n X).1 ∧ Ag (n + 1) n (rdN f n X).2 (caF (shC f n) n (rdN f n X).1).1 := by
  obtain ⟨e, _, e2, e3, e4, e5, e6⟩ := ck_rd (A := shC f n) n 0 1 (fcM f n X n) (by omega) (fun j hj => absurd hj (by omega)) (fcM_ag f n X) rfl
  have q : (rdN f n X).1 = e := e5
  rw [q]
  exact ⟨⟨e2, e3, e4⟩, e6⟩
theorem shC_ci (f : Nat → Int32) (n : Nat) : Ci n (fun i => (f i).toInt) (tI (shC f n)) := by
  intro i j hi hj
  unfold tI
  rw [shC_lt hj, i2l_toInt]
theorem sbC_cr (f : Nat → Int32) (n : Nat) : Cr n (fun i => (f i).toInt) (tI (sbC f n)) := by
  intro i j hi hj
  unfold tI
  rw [sbC_lt hj, i2l_toInt]
theorem shC_e0 (f : Nat → Int32) (n : Nat) : E0 n (tI (shC f n)) := by
  intro i hi
  unfold tI shC
  rw [if_neg (Nat.lt_irrefl n)]
  by_cases c : i = 0
  · rw [if_pos c, if_pos c]; decide
  · rw [if_neg c, if_neg c]; decide
theorem sbC_e0 (f : Nat → Int32) (n : Nat) : E0 n (tI (sbC f n)) := by
  intro i hi
  unfold tI sbC
  rw [if_neg (Nat.lt_irrefl n)]
  by_cases c : i = 0
  · rw [if_pos c, if_pos c]; decide
  · rw [if_neg c, if_neg c]; decide
theorem toInt0 {x : Int64} (h : x.toInt = 0) : x = 0 := Int64.toInt_inj.mp h
theorem rkN_stp {f : Nat → Int32} {n : Nat} (hn : n ≤ 14) (h0 : 0 < n) (hf : Mk f n) (X : Mx) : Hlt9 (shC f n) n (rkN f n X).1 := by
  obtain ⟨e, Y, _, e2, e3, e4, e5, e6⟩ := mk_dn (A := shC f n) (w := n) n 0 1 (lyM f n n X n) (by omega) (by omega) (fun j hj => absurd hj (by omega)) (lyM_ag f n n X) rfl
  have hs : Hlt9 (shC f n) n e := ⟨by omega, e3, fun h => e4 (by omega)⟩
  have e7 : rkN f n X = dnF n n (0 + n - e) e e (caF (shC f n) n e).2 Y := e6
  by_cases c : e < n
  · have hb := ca_bw (N := n) (by omega) (by omega) hn (fun i j hi _ => shC_sm hf i j hi) e (by omega) (by omega) e3
    have hz0 := ldF_none (n + 1) e (by omega) (hs.2.2 c)
    have hz := bz_zero hb (shC_ci f n) (Nat.le_refl n) c (fun i h1 h2 => by unfold tI; rw [hz0 i h1 h2]; decide)
    rw [dn_stay (0 + n - e) e (fun i j h1 h2 h3 h4 => by rw [e5 i j h2 (by omega)]; exact toInt0 (hz n j (by omega) h3 (by omega) i h1 h2))] at e7
    rw [e7]; exact hs
  · have : 0 + n - e = 0 := by omega
    rw [this] at e7
    rw [e7]; exact hs
theorem rank_eq {f : Nat → Int32} {n : Nat} (hn : n ≤ 14) (h0 : 0 < n) (hf : Mk f n) (X X' : Mx) : (rdN f n X).1 = (rkN f n X').1 := (rdN_stp f n X).1.eq (rkN_stp hn h0 hf X')
theorem rd_le (f : Nat → Int32) (n : Nat) (X : Mx) : (rdN f n X).1 ≤ n := (rdN_stp f n X).1.1
theorem lsN_eq {f : Nat → Int32} {n l e : Nat} (hs : Hlt9 (shC f n) n e) (hl : l ≤ e) (hln : l < n) (X : Mx) : ∃ Y, Ag (l + 1) n Y (caF (shC f n) n l).1 ∧ lsN f n l X = (l, (caF (shC f n) n l).2, Y) := by
  obtain ⟨q, Y, _, e2, e3, e4, e5, e6⟩ := mk_dn (A := shC f n) (w := l + 1) l 0 1 (lyM f n (l + 1) X n) (by omega) (by omega) (fun j hj => absurd hj (by omega)) (lyM_ag f n (l + 1) X) rfl
  have hq : q = l := by
    apply Nat.le_antisymm (by omega)
    apply Nat.le_of_not_gt
    intro h
    exact absurd (hs.2.1 q (by omega)) (e4 (by omega))
  subst hq
  refine ⟨Y, e5, ?_⟩
  have e7 : lsN f n q X = dnF n (q + 1) (0 + q - q) q q (caF (shC f n) n q).2 Y := e6
  rw [show 0 + q - q = 0 by omega] at e7
  exact e7
theorem lsZ_no {f : Nat → Int32} {n l e : Nat} (hs : Hlt9 (shC f n) n e) (hl : l < e) (X : Mx) : ¬ lsZ n l (lsN f n l X) := by
  obtain ⟨Y, hY, hE⟩ := lsN_eq (l := l) hs (by omega) (by have := hs.1; omega) X
  rw [hE]
  intro hz
  have hp : cpv n (caF (shC f n) n l).1 l < n := hs.2.1 l hl
  have hne := ldF_ne (X := (caF (shC f n) n l).1) (c := l) (n := n) (n + 1) l hp
  have hle := (ldF_lo (X := (caF (shC f n) n l).1) (c := l) (n := n) (n + 1) l).2 (by have := hs.1; omega)
  have h9 := hz _ hle hp
  exact hne ((hY _ l hp (by omega)).symm.trans h9)
theorem lsZ_yes {f : Nat → Int32} {n e : Nat} (hs : Hlt9 (shC f n) n e) (he : e < n) (X : Mx) : lsZ n e (lsN f n e X) := by
  obtain ⟨Y, hY, hE⟩ := lsN_eq hs (Nat.le_refl e) he X
  rw [hE]
  intro q h1 h2
  show Y q e = 0
  rw [hY q e h2 (by omega)]
  exact ldF_none (n + 1) e (by omega) (hs.2.2 he) q h1 h2
