/-! Bounds -/
def Sc (f : Nat → Int32) (n : Nat) : Prop := (∀ i, i < n → -1000 ≤ (f i).toInt ∧ (f i).toInt ≤ 1000) ∨ (n ≤ 14 ∧ ∀ i, i < n → -30000000 ≤ (f i).toInt ∧ (f i).toInt ≤ 30000000)
theorem smI_bd {h : Nat → Int32} {c : Int} (hc : 0 ≤ c) : ∀ {m : Nat}, (∀ i, i < m → -c ≤ (h i).toInt ∧ (h i).toInt ≤ c) → (m : Int) * c ≤ 2000000000 → -((m : Int) * c) ≤ (smI h m).toInt ∧ (smI h m).toInt ≤ (m : Int) * c := by
  intro m
  induction m with
  | zero => intro _ _; show -((0 : Int) * c) ≤ (0 : Int32).toInt ∧ (0 : Int32).toInt ≤ (0 : Int) * c; rw [Int.zero_mul]; decide
  | succ m ih =>
    intro h1 h2
    have e : ((m + 1 : Nat) : Int) * c = (m : Int) * c + c := by rw [Int.natCast_add, Int.add_mul]; simp
    rw [e] at h2 ⊢
    have h3 := ih (fun i hi => h1 i (by omega)) (by omega)
    have h4 := h1 m (by omega)
    show -((m : Int) * c + c) ≤ (smI h m + h m).toInt ∧ (smI h m + h m).toInt ≤ (m : Int) * c + c
    rw [fb_addI (by omega) (by omega)]
    omega
theorem m1_bd {x y : Int32} {c : Int} (hc : c ≤ 2000000000) (hx : -1 ≤ x.toInt ∧ x.toInt ≤ 1) (hy : -c ≤ y.toInt ∧ y.toInt ≤ c) : -c ≤ (x * y).toInt ∧ (x * y).toInt ≤ c := by
  have key : -c ≤ x.toInt * y.toInt ∧ x.toInt * y.toInt ≤ c := by
    rcases (show x.toInt = -1 ∨ x.toInt = 0 ∨ x.toInt = 1 by omega) with h | h | h
    · rw [h]; omega
    · rw [h]; omega
    · rw [h]; omega
  rw [fb_mulI (by omega) (by omega)]
  exact key
theorem thr_bd {f g : Nat → Int32} {n s : Nat} (hn : n ≤ 60) (h0 : 0 < n) (hf : Mk f n) (hg : Sc g n) : -500000000 ≤ (thr f g n s n).toInt ∧ (thr f g n s n).toInt ≤ 500000000 := by
  unfold thr
  rcases hg with hg | ⟨h14, hg⟩
  · have h := smI_bd (h := fun i => f i * g ((s + i) % n)) (c := 1000) (by omega) (m := n) (fun i hi => m1_bd (by omega) (hf i hi) (hg _ (Nat.mod_lt _ h0))) (by omega)
    omega
  · have h := smI_bd (h := fun i => f i * g ((s + i) % n)) (c := 30000000) (by omega) (m := n) (fun i hi => m1_bd (by omega) (hf i hi) (hg _ (Nat.mod_lt _ h0))) (by omega)
    omega
theorem ssF_bd {f : Nat → Int64} : ∀ {n : Nat}, n ≤ 14 → (∀ j, j < n → sm28 (f j)) → 0 ≤ (ssF f n).toInt ∧ (ssF f n).toInt ≤ (n : Int) * 29192926025390625 := by
  intro n
  induction n with
  | zero => intro _ _; show 0 ≤ (0 : Int64).toInt ∧ (0 : Int64).toInt ≤ (0 : Int) * 29192926025390625; decide
  | succ n ih =>
    intro hn h
    have h1 := ih (by omega) (fun j hj => h j (by omega))
    have h2 := h n (by omega)
    have m1 := mul_bd h2 h2
    have m0 : 0 ≤ (f n).toInt * (f n).toInt := by
      rcases Int.le_total 0 (f n).toInt with q | q
      · exact Int.mul_nonneg q q
      · have := Int.mul_nonneg (a := -(f n).toInt) (b := -(f n).toInt) (by omega) (by omega)
        rw [Int.neg_mul_neg] at this; exact this
    have q1 : (f n * f n).toInt = (f n).toInt * (f n).toInt := by rw [Int64.toInt_mul]; exact bm64 (by omega) (by omega)
    have q2 : (ssF f n + f n * f n).toInt = (ssF f n).toInt + (f n).toInt * (f n).toInt := by rw [Int64.toInt_add, q1]; exact bm64 (by omega) (by omega)
    show 0 ≤ (ssF f n + f n * f n).toInt ∧ (ssF f n + f n * f n).toInt ≤ ((n + 1 : Nat) : Int) * 29192926025390625
    rw [q2]
    omega
theorem sq_64 {d : Int64} (h : sm28 d) : (d * d).toInt = d.toInt * d.toInt ∧ d.toInt * d.toInt ≤ 29192926025390625 := by
  have m1 := mul_bd h h
  refine ⟨?_, by omega⟩
  rw [Int64.toInt_mul]; exact bm64 (by omega) (by omega)
theorem pow_le8 {N k : Nat} (hN : N ≤ 14) (hk : k ≤ 13) : (N : Int) ^ k ≤ 30000000 * 30000000 := by
  have h2 : N ^ k ≤ 14 ^ 13 := Nat.le_trans (Nat.pow_le_pow_left hN k) (Nat.pow_le_pow_right (by decide) hk)
  have h3 : ((N ^ k : Nat) : Int) ≤ ((14 ^ 13 : Nat) : Int) := Int.ofNat_le.mpr h2
  rw [Int.natCast_pow] at h3
  exact Int.le_trans h3 (by decide)
def sm25 (x : Int64) : Prop := -30000000 ≤ x.toInt ∧ x.toInt ≤ 30000000
theorem dv_25 {x s : Int64} (hx : sm25 x) : -30000000 ≤ ((x / s).toInt32).toInt ∧ ((x / s).toInt32).toInt ≤ 30000000 := by
  have hb := hx
  unfold sm25 at hb
  have hq : (x.toInt.tdiv s.toInt).natAbs ≤ x.toInt.natAbs := by rw [Int.natAbs_tdiv]; exact Nat.div_le_self _ _
  have e : (x / s).toInt = x.toInt.tdiv s.toInt := dv_64 (by unfold sm28; omega)
  rw [Int64.toInt_toInt32, e, fb_bmod (by omega) (by omega)]
  omega
theorem lost_bd {f : Nat → Int32} {n e : Nat} (hn : n ≤ 14) (hf : Mk f n) (hs : Hlt9 (shC f n) n e) (he : e < n) {Y : Mx} (hY : Ag (n + 1) n Y (caF (shC f n) n e).1) : ∀ i, -30000000 ≤ (slV e Y i).toInt ∧ (slV e Y i).toInt ≤ 30000000 := by
  have hb := ca_bw (N := n) (by omega) (by omega) hn (fun i j hi _ => shC_sm hf i j hi) e hs.1 hs.1 hs.2.1
  obtain ⟨a, a1, a2, a3, a4, a5, a6, a7, a8, a9⟩ := hb
  have hD : sm25 (caF (shC f n) n e).2 := by
    refine sq_abs9 (by decide) ?_
    rw [← a2.2]
    exact Int.le_trans (cs_le (om_norm (by omega) e (fun i hi => a1 i (by omega))) (ep_norm a9) (Int.pow_nonneg (by omega))) (pow_le8 hn (by omega))
  have hM : ∀ i, i < e → sm25 (Y i e) := fun i hi => by
    rw [hY i e (by omega) (by omega)]
    exact sq_abs9 (by decide) (Int.le_trans (a6 i e hi he) (pow_le8 hn (by omega)))
  intro i
  unfold slV
  rw [quF_div, slL_eq hs.1 hY]
  by_cases c1 : i < e
  · rw [if_pos c1]
    apply dv_25
    have := hM i c1
    unfold sm25 at this ⊢
    rw [neg_toInt (by omega)]; omega
  · rw [if_neg c1]
    by_cases c2 : i = e
    · rw [if_pos c2]; exact dv_25 hD
    · rw [if_neg c2]; exact dv_25 (by unfold sm25; decide)
/-! a byte, a short: both ways of cutting -/
theorem msb_bt (x : BitVec 32) : x.msb = x.getLsbD 31 := by simp [BitVec.msb, BitVec.getMsbD]
theorem cutG_eq {k v : Int32} (hk : k = nI 0 ∨ k = nI 1 ∨ k = nI 2) : cutG k v = cutF k v := by
  have key : ∀ (w : Nat), w < 32 → 0 < w → ∀ j, j < 32 → bt ((v <<< (nI (32 - w) &&& 31)) >>> (nI (32 - w) &&& 31)) j = if j < w then bt v j else bt v (w - 1) := by
    intro w hw h0 j hj
    have e1 : bt ((v <<< (nI (32 - w) &&& 31)) >>> (nI (32 - w) &&& 31)) j = if 32 - w + j < 32 then bt (v <<< (nI (32 - w) &&& 31)) (32 - w + j) else bt (v <<< (nI (32 - w) &&& 31)) 31 := by
      unfold bt
      rw [Int32.toBitVec_shiftRight, BitVec.sshiftRight_eq', sh_amt _ (by omega), BitVec.getLsbD_sshiftRight, msb_bt]
      rw [decide_eq_false (by omega : ¬ 32 ≤ j)]
      simp
    rw [e1]
    by_cases c : j < w
    · rw [if_pos c, if_pos (by omega), bt_shl v (by omega) (by omega), decide_eq_true (by omega), Bool.true_and]
      congr 1; omega
    · rw [if_neg c, if_neg (by omega), bt_shl v (by omega) (by omega), decide_eq_true (by omega), Bool.true_and]
      congr 1; omega
  rcases hk with rfl | rfl | rfl
  · have ec : cutF (nI 0) v = v.toInt8.toInt32 := if_pos rfl
    have eg : cutG (nI 0) v = (v <<< (nI (32 - 8) &&& 31)) >>> (nI (32 - 8) &&& 31) := by
      unfold cutG
      rw [show (nI 32 - (nI 8 <<< (nI 0 &&& 31))) &&& 31 = nI (32 - 8) &&& 31 by decide]
    rw [ec, eg]
    apply bt_ext
    intro j hj
    rw [key 8 (by omega) (by omega) j hj]
    show _ = ((v.toBitVec.signExtend 8).signExtend 32).getLsbD j
    rw [BitVec.getLsbD_signExtend, BitVec.getLsbD_signExtend]
    by_cases c : j < 8
    · simp [c, hj, bt]
    · have c2 : ¬ j < 8 := c
      simp [c2, hj, bt, BitVec.msb, BitVec.getMsbD, BitVec.getLsbD_signExtend, BitVec.getElem_signExtend]
  · have ec : cutF (nI 1) v = v.toInt16.toInt32 := (if_neg (by decide)).trans (if_pos rfl)
    have eg : cutG (nI 1) v = (v <<< (nI (32 - 16) &&& 31)) >>> (nI (32 - 16) &&& 31) := by
      unfold cutG
      rw [show (nI 32 - (nI 8 <<< (nI 1 &&& 31))) &&& 31 = nI (32 - 16) &&& 31 by decide]
    rw [ec, eg]
    apply bt_ext
    intro j hj
    rw [key 16 (by omega) (by omega) j hj]
    show _ = ((v.toBitVec.signExtend 16).signExtend 32).getLsbD j
    rw [BitVec.getLsbD_signExtend, BitVec.getLsbD_signExtend]
    by_cases c : j < 16
    · simp [c, hj, bt]
    · have c2 : ¬ j < 16 := c
      simp [c2, hj, bt, BitVec.msb, BitVec.getMsbD, BitVec.getLsbD_signExtend, BitVec.getElem_signExtend]
  · have ec : cutF (nI 2) v = v := (if_neg (by decide)).trans (if_neg (by decide))
    have eg : cutG (nI 2) v = (v <<< (nI 0 &&& 31)) >>> (nI 0 &&& 31) := by
      unfold cutG
      rw [show (nI 32 - (nI 8 <<< (nI 2 &&& 31))) &&& 31 = nI 0 &&& 31 by decide]
    rw [ec, eg]
    apply bt_ext
    intro j hj
    unfold bt
    rw [Int32.toBitVec_shiftRight, BitVec.sshiftRight_eq', sh_amt 0 (by omega), Int32.toBitVec_shiftLeft, BitVec.shiftLeft_eq', sh_amt 0 (by omega)]
    simp
