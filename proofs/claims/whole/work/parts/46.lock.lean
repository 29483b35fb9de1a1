/-! One elimination for both: the class's and the reference's cells agree with it -/
def cpv (n : Nat) (X : Mx) (k : Nat) : Nat := ldF X k n (n + 1) k
def caE (X : Mx) (k p : Nat) (b : Int64) : Mx := fun i j => if i = k then X p j else (X p k * sw9 X k p i j - sw9 X k p i k * X p j) / b
def caF (A : Mx) (n : Nat) : Nat → Mx × Int64
  | 0 => (A, 1)
  | k + 1 => (caE (caF A n k).1 k (cpv n (caF A n k).1 k) (caF A n k).2, (caF A n k).1 (cpv n (caF A n k).1 k) k)
def pvP (A : Mx) (n k : Nat) : Prop := cpv n (caF A n k).1 k < n
def Ag (N n : Nat) (X Y : Mx) : Prop := ∀ i j, i < n → j < N → X i j = Y i j
theorem ldF_cong {X Y : Mx} {c n : Nat} (h : ∀ i, i < n → X i c = Y i c) : ∀ (m r : Nat), ldF X c n m r = ldF Y c n m r := by
  intro m
  induction m with
  | zero => intro r; rfl
  | succ m ih =>
    intro r
    by_cases h1 : r < n
    · by_cases h2 : X r c = 0
      · have h3 : Y r c = 0 := by rw [← h r h1]; exact h2
        have e1 : ldF X c n (m + 1) r = ldF X c n m (r + 1) := (if_pos h1).trans (if_pos h2)
        have e2 : ldF Y c n (m + 1) r = ldF Y c n m (r + 1) := (if_pos h1).trans (if_pos h3)
        rw [e1, e2, ih]
      · have h3 : ¬ Y r c = 0 := by rw [← h r h1]; exact h2
        have e1 : ldF X c n (m + 1) r = r := (if_pos h1).trans (if_neg h2)
        have e2 : ldF Y c n (m + 1) r = r := (if_pos h1).trans (if_neg h3)
        rw [e1, e2]
    · have e1 : ldF X c n (m + 1) r = n := if_neg h1
      have e2 : ldF Y c n (m + 1) r = n := if_neg h1
      rw [e1, e2]
theorem ca_b {A : Mx} {n : Nat} : ∀ {k : Nat}, (∀ j, j < k → pvP A n j) → ¬ (caF A n k).2 = 0 := by
  intro k
  cases k with
  | zero => intro _; exact (by decide : ¬ (1 : Int64) = 0)
  | succ k => intro h; exact ldF_ne (n + 1) k (h k (Nat.lt_succ_self k))
theorem sw9_comm {α : Type} (f : Nat → α) (k p i : Nat) : sw9 f k p i = sw9 f p k i := by
  unfold sw9
  by_cases e : i = k
  · by_cases e2 : i = p
    · rw [if_pos e, if_pos e2, ← e, ← e2]
    · rw [if_pos e, if_neg e2, if_pos e]
  · by_cases e2 : i = p
    · rw [if_neg e, if_pos e2, if_pos e2]
    · rw [if_neg e, if_neg e2, if_neg e2, if_neg e]
theorem swM_sw9 {X : Mx} {a b w i j : Nat} (h : j < w) : swM X a b w i j = sw9 X a b i j := by
  unfold swM sw9
  by_cases e : i = a
  · rw [if_pos e, if_pos e, fil_in h]
  · rw [if_neg e, if_neg e]
    by_cases e2 : i = b
    · rw [if_pos e2, if_pos e2, fil_in h]
    · rw [if_neg e2, if_neg e2]
theorem stM1_f {X : Mx} {c n r i j : Nat} {b : Int64} (hb : ¬ b = 0) (hi : i < n) (hj : j < n + 1) (hc : c < n) : stM1 X c n r b i j = caE X c r b i j := by
  have ec : ∀ q, q < n + 1 → swM X c r (n + 1) c q = X r q := fun q hq => by rw [swM_sw9 hq]; unfold sw9; rw [if_pos rfl]
  show clM (swM X c r (n + 1)) c n b n i j = _
  unfold clM
  rw [fil_in hi]
  unfold clR caE
  by_cases e : i = c
  · rw [if_pos e, if_pos e, ec j hj]
  · rw [if_neg e, if_neg e, fil_in hj]
    unfold clQ quF
    rw [if_neg hb, ec c (by omega), ec j hj, swM_sw9 hj, swM_sw9 (by omega)]
theorem stD_f {X : Mx} {k n w p i j : Nat} {b : Int64} (hi : i < n) (hj : j < w) (hk : k < w) : stD X k k w p b n i j = caE X k p b i j := by
  have ec : ∀ q, q < w → swM X p k w k q = X p q := fun q hq => swM_kc hq
  show cdM (swM X p k w) k k w b n i j = _
  unfold cdM
  rw [fil_in hi]
  unfold cdR caE
  by_cases e : i = k
  · rw [if_pos e, if_pos e, ec j hj]
  · rw [if_neg e, if_neg e, fil_in hj]
    unfold cdQ
    rw [ec k hk, ec j hj, swM_sw9 hj, swM_sw9 hk, sw9_comm X p k]
theorem caE_ag {N n k p : Nat} {X Y : Mx} {b : Int64} (h : Ag N n X Y) (hk : k < n) (hkN : k < N) (hp : p < n) : Ag N n (caE X k p b) (caE Y k p b) := by
  intro i j hi hj
  have es : ∀ q, q < N → sw9 X k p i q = sw9 Y k p i q := by
    intro q hq
    unfold sw9
    by_cases e : i = k
    · rw [if_pos e, if_pos e]; exact h p q hp hq
    · rw [if_neg e, if_neg e]
      by_cases e2 : i = p
      · rw [if_pos e2, if_pos e2]; exact h k q hk hq
      · rw [if_neg e2, if_neg e2]; exact h i q hi hq
  unfold caE
  rw [h p j hp hj, h p k hp hkN, es j hj, es k hkN]
theorem ck_rd {A : Mx} {n : Nat} : ∀ (m c : Nat) (b : Int64) (X : Mx), c + m = n → (∀ j, j < c → pvP A n j) → Ag (n + 1) n X (caF A n c).1 → b = (caF A n c).2 → ∃ e, c ≤ e ∧ e ≤ n ∧ (∀ j, j < e → pvP A n j) ∧ (e < n → ¬ pvP A n e) ∧ (rduF n m c b X).1 = e ∧ Ag (n + 1) n (rduF n m c b X).2 (caF A n e).1 := by
  intro m
  induction m with
  | zero =>
    intro c b X h1 h2 h3 h4
    exact ⟨c, Nat.le_refl c, by omega, h2, fun h => absurd h (by omega), rfl, h3⟩
  | succ m ih =>
    intro c b X h1 h2 h3 h4
    have ep : ldF X c n (n + 1) c = cpv n (caF A n c).1 c := ldF_cong (fun i hi => h3 i c hi (by omega)) _ _
    by_cases hl : ldF X c n (n + 1) c < n
    · have e : rduF n (m + 1) c b X = rduF n m (c + 1) (stM1 X c n (ldF X c n (n + 1) c) b c c) (stM1 X c n (ldF X c n (n + 1) c) b) := if_pos hl
      have hb : ¬ b = 0 := by rw [h4]; exact ca_b h2
      have hpv : pvP A n c := by unfold pvP; rw [← ep]; exact hl
      rw [e]
      rw [ep] at hl ⊢
      have hag : Ag (n + 1) n (stM1 X c n (cpv n (caF A n c).1 c) b) (caF A n (c + 1)).1 := by
        intro i j hi hj
        rw [stM1_f hb hi hj (by omega), h4]
        exact caE_ag h3 (by omega) (by omega) hl i j hi hj
      obtain ⟨q, q1, q2, q3, q4, q5, q6⟩ := ih (c + 1) (stM1 X c n (cpv n (caF A n c).1 c) b c c) (stM1 X c n (cpv n (caF A n c).1 c) b) (by omega) (fun j hj => if ej : j = c then ej ▸ hpv else h2 j (by omega)) hag (by
        rw [stM1_f hb (by omega) (by omega) (by omega)]
        unfold caE
        rw [if_pos rfl]
        exact h3 _ c hl (by omega))
      exact ⟨q, by omega, q2, q3, q4, q5, q6⟩
    · have e : rduF n (m + 1) c b X = (c, X) := if_neg hl
      rw [e]
      exact ⟨c, Nat.le_refl c, by omega, h2, fun _ => by unfold pvP; rw [← ep]; exact hl, rfl, h3⟩
theorem mk_dn {A : Mx} {n w : Nat} : ∀ (m c : Nat) (b : Int64) (X : Mx), c + m ≤ w → c + m ≤ n → (∀ j, j < c → pvP A n j) → Ag w n X (caF A n c).1 → b = (caF A n c).2 → ∃ e Y, c ≤ e ∧ e ≤ c + m ∧ (∀ j, j < e → pvP A n j) ∧ (e < c + m → ¬ pvP A n e) ∧ Ag w n Y (caF A n e).1 ∧ dnF n w m c c b X = dnF n w (c + m - e) e e (caF A n e).2 Y := by
  intro m
  induction m with
  | zero =>
    intro c b X h1 h1' h2 h3 h4
    refine ⟨c, X, Nat.le_refl c, by omega, h2, fun h => absurd h (by omega), h3, ?_⟩
    rw [← h4, show c + 0 - c = 0 by omega]
  | succ m ih =>
    intro c b X h1 h1' h2 h3 h4
    have ep : ldF X c n (n + 1) c = cpv n (caF A n c).1 c := ldF_cong (fun i hi => h3 i c hi (by omega)) _ _
    have hcn : c < n := by omega
    by_cases hl : ldF X c n (n + 1) c < n
    · have e : dnF n w (m + 1) c c b X = dnF n w m (c + 1) (c + 1) (swM X (ldF X c n (n + 1) c) c w c c) (stD X c c w (ldF X c n (n + 1) c) b n) := (if_pos hcn).trans (if_pos hl)
      have hpv : pvP A n c := by unfold pvP; rw [← ep]; exact hl
      rw [ep] at hl
      have hag : Ag w n (stD X c c w (cpv n (caF A n c).1 c) b n) (caF A n (c + 1)).1 := by
        intro i j hi hj
        rw [stD_f hi hj (by omega), h4]
        exact caE_ag h3 (by omega) (by omega) hl i j hi hj
      obtain ⟨q, Y, q1, q2, q3, q4, q5, q6⟩ := ih (c + 1) (swM X (cpv n (caF A n c).1 c) c w c c) (stD X c c w (cpv n (caF A n c).1 c) b n) (by omega) (by omega) (fun j hj => if ej : j = c then ej ▸ hpv else h2 j (by omega)) hag (by
        rw [swM_kc (by omega)]
        exact h3 _ c hl (by omega))
      refine ⟨q, Y, by omega, by omega, q3, fun h => q4 (by omega), q5, ?_⟩
      rw [e, ep, q6, show c + 1 + m = c + (m + 1) by omega]
    · refine ⟨c, X, Nat.le_refl c, by omega, h2, fun _ => by unfold pvP; rw [← ep]; exact hl, h3, ?_⟩
      rw [← h4, show c + (m + 1) - c = m + 1 by omega]
theorem ca_bw {A : Mx} {n N : Nat} (hN : N ≤ 15) (h1 : 1 ≤ N) (hn : n ≤ 14) (hA : ∀ i j, i < n → j < N → -1 ≤ (A i j).toInt ∧ (A i j).toInt ≤ 1) : ∀ (e : Nat), e ≤ n → e ≤ N → (∀ j, j < e → pvP A n j) → Bw N n (tI A) e (caF A n e).1 (caF A n e).2 := by
  intro e
  induction e with
  | zero => intro _ _ _; exact bz_0 (A := tI A) (fun i j hi hj => hA i j hi hj) h1
  | succ e ih =>
    intro he heN hp
    have hpe := hp e (Nat.lt_succ_self e)
    have h2 := ih (by omega) (by omega) (fun j hj => hp j (by omega))
    exact bw_step hN h1 hn h2 (by omega) (by omega) ((ldF_lo (n + 1) e).2 (by omega)) hpe (ldF_ne (n + 1) e hpe) (fun i j _ _ => rfl)
theorem stop_eq {A : Mx} {n e e' : Nat} (h1 : ∀ j, j < e → pvP A n j) (h2 : e < n → ¬ pvP A n e) (h3 : ∀ j, j < e' → pvP A n j) (h4 : e' < n → ¬ pvP A n e') (h5 : e ≤ n) (h6 : e' ≤ n) : e = e' := by
  rcases Nat.lt_trichotomy e e' with h | h | h
  · exact absurd (h3 e h) (h2 (by omega))
  · exact h
  · exact absurd (h1 e' h) (h4 (by omega))
/-- no pivot: the column is 0 from there on -/
theorem ldF_none {X : Mx} {c n : Nat} : ∀ (m r : Nat), n < r + m → ¬ ldF X c n m r < n → ∀ i, r ≤ i → i < n → X i c = 0 := by
  intro m
  induction m with
  | zero => exact fun r h => by intro _ i h2 h3; omega
  | succ m ih =>
    intro r hm h i h1 h2
    have hr : r < n := by omega
    by_cases hx : X r c = 0
    · have e : ldF X c n (m + 1) r = ldF X c n m (r + 1) := (if_pos hr).trans (if_pos hx)
      rw [e] at h
      by_cases er : i = r
      · rw [er]; exact hx
      · exact ih (r + 1) (by omega) h i (by omega) h2
    · have e : ldF X c n (m + 1) r = r := (if_pos hr).trans (if_neg hx)
      rw [e] at h
      exact absurd hr h
theorem ldF_all0 {X : Mx} {c n : Nat} : ∀ (m r : Nat), (∀ i, r ≤ i → i < n → X i c = 0) → ldF X c n m r = n := by
  intro m
  induction m with
  | zero => exact fun r h => rfl
  | succ m ih =>
    intro r h
    by_cases hr : r < n
    · have e : ldF X c n (m + 1) r = ldF X c n m (r + 1) := (if_pos hr).trans (if_pos (h r (Nat.le_refl r) hr))
      rw [e]; exact ih (r + 1) (fun i h1 h2 => h i (by omega) h2)
    · exact if_neg hr
theorem dn_stay {n w k : Nat} {b : Int64} {Y : Mx} : ∀ (m c : Nat), (∀ i j, k ≤ i → i < n → c ≤ j → j < c + m → Y i j = 0) → dnF n w m c k b Y = (k, b, Y) := by
  intro m
  induction m with
  | zero => exact fun c h => rfl
  | succ m ih =>
    intro c h
    by_cases hk : k < n
    · have e0 := ldF_all0 (X := Y) (c := c) (n := n) (n + 1) k (fun i h1 h2 => h i c h1 h2 (Nat.le_refl c) (by omega))
      have e : dnF n w (m + 1) c k b Y = dnF n w m (c + 1) k b Y := (if_pos hk).trans (if_neg (by rw [e0]; exact Nat.lt_irrefl n))
      rw [e]; exact ih (c + 1) (fun i j h1 h2 h3 h4 => h i j h1 h2 (by omega) (by omega))
    · exact if_neg hk
