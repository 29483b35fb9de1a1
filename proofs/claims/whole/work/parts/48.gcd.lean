/-! Common divisors; what lost shows -/
def gN (x : Nat) (f : Nat → Nat) : Nat → Nat
  | 0 => x
  | i + 1 => Nat.gcd (gN x f i) (f i)
theorem gN_dvd {a x : Nat} {f : Nat → Nat} : ∀ (i : Nat), a ∣ gN x f i ↔ a ∣ x ∧ ∀ j, j < i → a ∣ f j := by
  intro i
  induction i with
  | zero => exact ⟨fun h => ⟨h, fun j hj => absurd hj (by omega)⟩, fun h => h.1⟩
  | succ i ih =>
    show a ∣ Nat.gcd (gN x f i) (f i) ↔ _
    rw [Nat.dvd_gcd_iff, ih]
    refine ⟨fun h => ⟨h.1.1, fun j hj => ?_⟩, fun h => ⟨⟨h.1, fun j hj => h.2 j (by omega)⟩, h.2 i (by omega)⟩⟩
    by_cases e : j = i
    · rw [e]; exact h.2
    · exact h.1.2 j (by omega)
theorem gN_mul (c x : Nat) (f : Nat → Nat) : ∀ (i : Nat), c * gN x f i = gN (c * x) (fun j => c * f j) i := by
  intro i
  induction i with
  | zero => rfl
  | succ i ih =>
    show c * Nat.gcd (gN x f i) (f i) = Nat.gcd (gN (c * x) (fun j => c * f j) i) (c * f i)
    rw [← ih, Nat.gcd_mul_left]
theorem gN_cong {x : Nat} {f g : Nat → Nat} : ∀ {i : Nat}, (∀ j, j < i → f j = g j) → gN x f i = gN x g i := by
  intro i
  induction i with
  | zero => intro _; rfl
  | succ i ih => intro h; show Nat.gcd _ _ = Nat.gcd _ _; rw [ih (fun j hj => h j (by omega)), h i (by omega)]
theorem gN_split (x : Nat) (f : Nat → Nat) : ∀ (i : Nat), gN x f i = Nat.gcd (gN 0 f i) x := by
  intro i
  induction i with
  | zero => exact (Nat.gcd_zero_left x).symm
  | succ i ih =>
    show Nat.gcd (gN x f i) (f i) = Nat.gcd (Nat.gcd (gN 0 f i) (f i)) x
    rw [ih, Nat.gcd_assoc, Nat.gcd_comm x, ← Nat.gcd_assoc]
def nA (f : Nat → Int64) (j : Nat) : Nat := (f j).toInt.natAbs
theorem gF_nat {x : Int64} {f : Nat → Int64} (hx : x.toInt ≠ -9223372036854775808) : ∀ (i : Nat), (∀ j, j < i → (f j).toInt ≠ -9223372036854775808) → (gF x f i).toInt.natAbs = gN x.toInt.natAbs (nA f) i := by
  intro i
  induction i with
  | zero => intro _; rfl
  | succ i ih =>
    intro h
    have h1 := gcdL (gF_ok (f := f) hx i (fun j hj => h j (by omega))) (h i (by omega))
    show (lN _).toInt.natAbs = Nat.gcd _ _
    rw [lN_big h1, ← ih (fun j hj => h j (by omega))]
    exact Int.natAbs_natCast _
/-- after one step or more it is that number itself -/
theorem gF_lN {x : Int64} {f : Nat → Int64} (hx : x.toInt ≠ -9223372036854775808) {i : Nat} (hi : 0 < i) (h : ∀ j, j < i → (f j).toInt ≠ -9223372036854775808) : gF x f i = lN (gN x.toInt.natAbs (nA f) i) := by
  obtain ⟨m, rfl⟩ : ∃ m, i = m + 1 := ⟨i - 1, by omega⟩
  show lN _ = lN (Nat.gcd _ _)
  rw [gF_nat hx m (fun j hj => h j (by omega))]
  rfl
theorem sm_min {x : Int64} (h : sm28 x) : x.toInt ≠ -9223372036854775808 := by have := h.1; omega
theorem neg_toInt {x : Int64} (h : x.toInt ≠ -9223372036854775808) : (-x).toInt = -x.toInt := by
  have h1 := fb_rngL x
  rw [Int64.toInt_neg]
  exact bm64 (by omega) (by omega)
theorem gF_cong {x : Int64} {f g : Nat → Int64} : ∀ {i : Nat}, (∀ j, j < i → f j = g j) → gF x f i = gF x g i := by
  intro i
  induction i with
  | zero => intro _; rfl
  | succ i ih => intro h; show lN _ = lN _; rw [ih (fun j hj => h j (by omega)), h i (by omega)]
theorem ca_diag (A : Mx) (n k : Nat) : (caF A n (k + 1)).1 k k = (caF A n (k + 1)).2 := if_pos rfl
theorem slL_eq {A Y : Mx} {n e : Nat} (he : e ≤ n) (hY : Ag (n + 1) n Y (caF A n e).1) : slL e Y = (caF A n e).2 := by
  unfold slL
  cases e with
  | zero => rw [if_pos rfl]; rfl
  | succ k =>
    rw [if_neg (by omega), show k + 1 - 1 = k by omega, hY k k (by omega) (by omega)]
    exact ca_diag A n k
theorem sS_eq {n e : Nat} {Y Y' : Mx} {b : Int64} (hb : sm28 b) (hs : ∀ i, i < e → sm28 (Y i e)) (hY : ∀ i, i < e → Y i e = Y' i e) (h1 : e = 0 → b = 1) : (if b < 0 then -(gF b (fun i => Y i e) e) else gF b (fun i => Y i e) e) = lsS Y' b e := by
  have key : gF b (fun i => Y i e) e = gF 0 (lsA9 Y' b e) (e + 1) := by
    have ha : ∀ j, j < e + 1 → (lsA9 Y' b e j).toInt ≠ -9223372036854775808 := by
      intro j hj
      unfold lsA9
      by_cases c : j < e
      · rw [if_pos c, neg_toInt (by rw [← hY j c]; exact sm_min (hs j c)), ← hY j c]
        have := (hs j c).2; have := (hs j c).1; omega
      · rw [if_neg c]; exact sm_min hb
    have e2 : gF 0 (lsA9 Y' b e) (e + 1) = lN (gN 0 (nA (lsA9 Y' b e)) (e + 1)) := gF_lN (by decide) (by omega) ha
    have e3 : gN 0 (nA (lsA9 Y' b e)) (e + 1) = gN b.toInt.natAbs (nA (fun i => Y i e)) e := by
      rw [gN_split b.toInt.natAbs]
      show Nat.gcd (gN 0 (nA (lsA9 Y' b e)) e) (nA (lsA9 Y' b e) e) = _
      have e4 : nA (lsA9 Y' b e) e = b.toInt.natAbs := by unfold nA lsA9; rw [if_neg (Nat.lt_irrefl e)]
      rw [e4, gN_cong (g := nA (fun i => Y i e)) (fun j hj => by
        unfold nA lsA9
        rw [if_pos hj, ← hY j hj, neg_toInt (sm_min (hs j hj)), Int.natAbs_neg])]
    rw [e2, e3]
    by_cases c : e = 0
    · subst c
      show b = lN b.toInt.natAbs
      rw [h1 rfl]; decide
    · exact gF_lN (sm_min hb) (by omega) (fun j hj => sm_min (hs j hj))
  unfold lsS
  rw [key]
theorem lost_val {f : Nat → Int32} {n e : Nat} (hn : n ≤ 14) (hf : Mk f n) (hs : Hlt9 (shC f n) n e) (he : e < n) {Y Y' : Mx} {b : Int64} (hY : Ag (n + 1) n Y (caF (shC f n) n e).1) (hY' : Ag (e + 1) n Y' (caF (shC f n) n e).1) (hb : b = (caF (shC f n) n e).2) : ∀ i, slV e Y i = lsV Y' b e i := by
  have hw := ca_bw (N := n + 1) (by omega) (by omega) hn (fun i j hi _ => shC_sm hf i j hi) e hs.1 (by omega) hs.2.1
  have hsm := bw_sm (by omega) (by omega) hn hw
  have hL : slL e Y = b := by rw [slL_eq hs.1 hY, hb]
  have hbs : sm28 b := by rw [hb]; exact hsm.2
  have hys : ∀ i, i < e → sm28 (Y i e) := fun i hi => by rw [hY i e (by omega) (by omega)]; exact hsm.1 i e (by omega) (by omega)
  have hyy : ∀ i, i < e → Y i e = Y' i e := fun i hi => by rw [hY i e (by omega) (by omega), hY' i e (by omega) (by omega)]
  have hS : slS e Y = lsS Y' b e := by
    unfold slS slG
    rw [hL]
    exact sS_eq (n := n) hbs hys hyy (fun c => by subst c; rw [hb]; rfl)
  have hb0 : ¬ b = 0 := by rw [hb]; exact ca_b hs.2.1
  have hS0 : ¬ lsS Y' b e = 0 := lsS_ne0 (fun j hj => by
    unfold lsA9
    by_cases c : j < e
    · rw [if_pos c, ← hyy j c, neg_toInt (sm_min (hys j c))]
      have := (hys j c).2; have := (hys j c).1; omega
    · rw [if_neg c]; exact sm_min hbs) hb0
  intro i
  unfold slV lsV quF
  rw [hS, if_neg hS0, hL]
  by_cases c1 : i < e
  · rw [if_pos c1, if_pos (by omega), hyy i c1]
    unfold lsA9
    rw [if_pos c1]
  · rw [if_neg c1]
    by_cases c2 : i = e
    · rw [if_pos c2, if_pos (by omega)]
      unfold lsA9
      rw [if_neg c1]
    · rw [if_neg c2, if_neg (by omega), Int64.zero_div]; rfl
