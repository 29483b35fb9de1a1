/-! Bits: how many ones there are, the table's rows -/
def tN (x : Int32) : Nat := x.toBitVec.toNat
def bt (x : Int32) (j : Nat) : Bool := x.toBitVec.getLsbD j
theorem tN_lt (x : Int32) : tN x < 4294967296 := x.toBitVec.isLt
theorem tN_and (x y : Int32) : tN (x &&& y) = tN x &&& tN y := by
  unfold tN; rw [Int32.toBitVec_and, BitVec.toNat_and]
theorem tN_nI {n : Nat} (h : n < 4294967296) : tN (nI n) = n := by
  show (BitVec.ofNat 32 n).toNat = n
  rw [BitVec.toNat_ofNat]; exact Nat.mod_eq_of_lt h
theorem tN_shr (x : Int32) {k : Nat} (hk : ((nI k).toUInt32 &&& Int32.toUInt32 31).toNat % 32 = k) : tN ((x.toUInt32 >>> ((nI k).toUInt32 &&& Int32.toUInt32 31)).toInt32) = tN x / 2 ^ k := by
  show (x.toUInt32 >>> ((nI k).toUInt32 &&& Int32.toUInt32 31)).toNat = _
  rw [UInt32.toNat_shiftRight, hk, Nat.shiftRight_eq_div_pow]; rfl
theorem tN_sub {x y : Int32} (h : tN y ≤ tN x) : tN (x - y) = tN x - tN y := by
  unfold tN at *; rw [Int32.toBitVec_sub]; exact BitVec.toNat_sub_of_le h
theorem tN_add {x y : Int32} (h : tN x + tN y < 4294967296) : tN (x + y) = tN x + tN y := by
  unfold tN at *; rw [Int32.toBitVec_add]; exact BitVec.toNat_add_of_lt h
theorem tN_inj {x y : Int32} (h : tN x = tN y) : x = y := Int32.toBitVec_inj.mp (BitVec.eq_of_toNat_eq h)
theorem and_sp {a b q m : Nat} (ha : a < 256) (hm : m < 256) : (256 * b + a) &&& (256 * q + m) = 256 * (b &&& q) + (a &&& m) := by
  apply Nat.eq_of_testBit_eq
  intro i
  have ha : a < 2 ^ 8 := ha
  have hm : m < 2 ^ 8 := hm
  have ham : a &&& m < 2 ^ 8 := Nat.and_lt_two_pow _ hm
  show ((2 ^ 8 * b + a) &&& (2 ^ 8 * q + m)).testBit i = (2 ^ 8 * (b &&& q) + (a &&& m)).testBit i
  rw [Nat.testBit_and, Nat.testBit_two_pow_mul_add _ ha, Nat.testBit_two_pow_mul_add _ hm, Nat.testBit_two_pow_mul_add _ ham]
  by_cases c : i < 8 <;> simp [c, Nat.testBit_and]
def by1 (b : Nat) : Nat := b - ((b / 2) &&& 85)
def by2 (b : Nat) : Nat := (b &&& 51) + ((b / 4) &&& 51)
def by3 (b : Nat) : Nat := (b + b / 16) &&& 15
theorem st1 {x b M : Nat} (hb : b < 256) : (256 * x + b) - (((256 * x + b) / 2) &&& (256 * M + 85)) = 256 * (x - ((x / 2) &&& M)) + by1 b := by
  have e : (256 * x + b) / 2 = 256 * (x / 2) + (128 * (x % 2) + b / 2) := by omega
  rw [e, and_sp (by omega) (by omega)]
  have hd : ∀ t, t < 2 → ∀ b, b < 256 → (128 * t + b / 2) &&& 85 = (b / 2) &&& 85 ∧ (b / 2) &&& 85 ≤ b := by decide +kernel
  have h1 := hd (x % 2) (by omega) b hb
  have h2 : (x / 2) &&& M ≤ x / 2 := Nat.and_le_left
  rw [h1.1]
  unfold by1
  omega
theorem st2 {x b M : Nat} (hb : b < 256) : ((256 * x + b) &&& (256 * M + 51)) + (((256 * x + b) / 4) &&& (256 * M + 51)) = 256 * ((x &&& M) + ((x / 4) &&& M)) + by2 b := by
  have e : (256 * x + b) / 4 = 256 * (x / 4) + (64 * (x % 4) + b / 4) := by omega
  rw [e, and_sp (a := b) (b := x) hb (by omega), and_sp (b := x / 4) (by omega) (by omega)]
  have hd : ∀ t, t < 4 → ∀ b, b < 256 → (64 * t + b / 4) &&& 51 = (b / 4) &&& 51 := by decide +kernel
  rw [hd (x % 4) (by omega) b hb]
  unfold by2
  omega
theorem st3 {x b M : Nat} (hb : b ≤ 68) (hx : x % 16 ≤ 4) : ((256 * x + b) + (256 * x + b) / 16) &&& (256 * M + 15) = 256 * ((x + x / 16) &&& M) + by3 b := by
  have e : (256 * x + b) + (256 * x + b) / 16 = 256 * (x + x / 16) + (b + b / 16 + 16 * (x % 16)) := by omega
  rw [e, and_sp (by omega) (by omega)]
  unfold by3
  have m16 : ∀ v : Nat, v &&& 15 = v % 16 := fun v => Nat.and_two_pow_sub_one_eq_mod v 4
  rw [m16, m16]
  omega
def pc8 (b : Nat) : Nat := fb_ct (fun j => b.testBit j) 8
theorem by_all : ∀ b, b < 256 → by1 b < 256 ∧ by2 (by1 b) ≤ 68 ∧ by2 (by1 b) % 16 ≤ 4 ∧ by3 (by2 (by1 b)) = pc8 b ∧ pc8 b ≤ 8 := by decide +kernel
def n4 (d c b a : Nat) : Nat := 256 * (256 * (256 * d + c) + b) + a
theorem sw1 {d c b a : Nat} (hd : d < 256) (hc : c < 256) (hb : b < 256) (ha : a < 256) : n4 d c b a - ((n4 d c b a / 2) &&& 1431655765) = n4 (by1 d) (by1 c) (by1 b) (by1 a) := by
  unfold n4
  rw [show (1431655765 : Nat) = 256 * 5592405 + 85 from rfl, st1 ha, show (5592405 : Nat) = 256 * 21845 + 85 from rfl, st1 hb, show (21845 : Nat) = 256 * 85 + 85 from rfl, st1 hc]
  rfl
theorem sw2 {d c b a : Nat} (hd : d < 256) (hc : c < 256) (hb : b < 256) (ha : a < 256) : (n4 d c b a &&& 858993459) + ((n4 d c b a / 4) &&& 858993459) = n4 (by2 d) (by2 c) (by2 b) (by2 a) := by
  unfold n4
  rw [show (858993459 : Nat) = 256 * 3355443 + 51 from rfl, st2 ha, show (3355443 : Nat) = 256 * 13107 + 51 from rfl, st2 hb, show (13107 : Nat) = 256 * 51 + 51 from rfl, st2 hc]
  rfl
theorem sw3 {d c b a : Nat} (hd : d ≤ 68) (hc : c ≤ 68) (hb : b ≤ 68) (ha : a ≤ 68) (hd4 : d % 16 ≤ 4) (hc4 : c % 16 ≤ 4) (hb4 : b % 16 ≤ 4) : (n4 d c b a + n4 d c b a / 16) &&& 252645135 = n4 (by3 d) (by3 c) (by3 b) (by3 a) := by
  unfold n4
  rw [show (252645135 : Nat) = 256 * 986895 + 15 from rfl, st3 ha (by omega), show (986895 : Nat) = 256 * 3855 + 15 from rfl, st3 hb (by omega), show (3855 : Nat) = 256 * 15 + 15 from rfl, st3 hc (by omega)]
  rfl
theorem n4_lt {d c b a : Nat} (hd : d < 256) (hc : c < 256) (hb : b < 256) (ha : a < 256) : n4 d c b a < 4294967296 := by unfold n4; omega
theorem bc_n4 {x : Int32} {d c b a : Nat} (hd : d < 256) (hc : c < 256) (hb : b < 256) (ha : a < 256) (hx : tN x = n4 d c b a) : bcF x = nI (pc8 d + pc8 c + pc8 b + pc8 a) := by
  obtain ⟨d1, d2, d3, d4, d5⟩ := by_all d hd
  obtain ⟨c1, c2, c3, c4, c5⟩ := by_all c hc
  obtain ⟨b1, b2, b3, b4, b5⟩ := by_all b hb
  obtain ⟨a1, a2, a3, a4, a5⟩ := by_all a ha
  have e1 : tN (bc1 x) = n4 (by1 d) (by1 c) (by1 b) (by1 a) := by
    have hs : tN ((x.toUInt32 >>> ((nI 1).toUInt32 &&& Int32.toUInt32 31)).toInt32 &&& nI 1431655765) = (tN x / 2) &&& 1431655765 := by
      rw [tN_and, tN_shr x (by decide), tN_nI (by decide)]
    have hle : (tN x / 2) &&& 1431655765 ≤ tN x := Nat.le_trans Nat.and_le_left (Nat.div_le_self _ _)
    unfold bc1
    rw [tN_sub (by rw [hs]; exact hle), hs, hx]
    exact sw1 hd hc hb ha
  have e2 : tN (bc2 (bc1 x)) = n4 (by2 (by1 d)) (by2 (by1 c)) (by2 (by1 b)) (by2 (by1 a)) := by
    have h2 := sw2 d1 c1 b1 a1
    have hl : n4 (by2 (by1 d)) (by2 (by1 c)) (by2 (by1 b)) (by2 (by1 a)) < 4294967296 := n4_lt (by omega) (by omega) (by omega) (by omega)
    unfold bc2
    have hs : tN (((bc1 x).toUInt32 >>> ((nI 2).toUInt32 &&& Int32.toUInt32 31)).toInt32 &&& nI 858993459) = (tN (bc1 x) / 4) &&& 858993459 := by
      rw [tN_and, tN_shr _ (by decide), tN_nI (by decide)]
    have hs2 : tN (bc1 x &&& nI 858993459) = tN (bc1 x) &&& 858993459 := by rw [tN_and, tN_nI (by decide)]
    rw [tN_add (by rw [hs, hs2, e1, h2]; exact hl), hs, hs2, e1, h2]
  have e3 : tN (bc3 (bc2 (bc1 x))) = n4 (pc8 d) (pc8 c) (pc8 b) (pc8 a) := by
    have h3 := sw3 d2 c2 b2 a2 d3 c3 b3
    rw [d4, c4, b4, a4] at h3
    have hl : n4 (by2 (by1 d)) (by2 (by1 c)) (by2 (by1 b)) (by2 (by1 a)) + n4 (by2 (by1 d)) (by2 (by1 c)) (by2 (by1 b)) (by2 (by1 a)) / 16 < 4294967296 := by unfold n4; omega
    unfold bc3
    have hs : tN (((bc2 (bc1 x)).toUInt32 >>> ((nI 4).toUInt32 &&& Int32.toUInt32 31)).toInt32) = tN (bc2 (bc1 x)) / 16 := tN_shr _ (by decide)
    rw [tN_and, tN_nI (by decide), tN_add (by rw [hs, e2]; exact hl), hs, e2, h3]
  generalize pc8 d = p3 at *
  generalize pc8 c = p2 at *
  generalize pc8 b = p1 at *
  generalize pc8 a = p0 at *
  have eb : bcF x = bc5 (bc4 (bc3 (bc2 (bc1 x)))) &&& nI 63 := rfl
  generalize bc3 (bc2 (bc1 x)) = y at e3 eb
  have hs4 : tN ((y.toUInt32 >>> ((nI 8).toUInt32 &&& Int32.toUInt32 31)).toInt32) = tN y / 256 := tN_shr _ (by decide)
  have e4 : tN (bc4 y) = tN y + tN y / 256 := by
    unfold bc4
    rw [tN_add (by rw [hs4, e3]; unfold n4; omega), hs4]
  have hs5 : tN (((bc4 y).toUInt32 >>> ((nI 16).toUInt32 &&& Int32.toUInt32 31)).toInt32) = tN (bc4 y) / 65536 := tN_shr _ (by decide)
  have e5 : tN (bc5 (bc4 y)) = tN (bc4 y) + tN (bc4 y) / 65536 := by
    unfold bc5
    rw [tN_add (by rw [hs5, e4, e3]; unfold n4; omega), hs5]
  apply tN_inj
  have m64 : ∀ v : Nat, v &&& 63 = v % 64 := fun v => Nat.and_two_pow_sub_one_eq_mod v 6
  rw [eb, tN_and, tN_nI (by decide), tN_nI (by omega), e5, e4, e3, m64]
  clear eb e5 e4 hs5 hs4 e3 e2 e1 hx m64
  have z1 : n4 p3 p2 p1 p0 / 256 = 65536 * p3 + 256 * p2 + p1 := by unfold n4; omega
  have z2 : n4 p3 p2 p1 p0 = 16777216 * p3 + 65536 * p2 + 256 * p1 + p0 := by unfold n4; omega
  rw [z1, z2]
  have z3 : (16777216 * p3 + 65536 * p2 + 256 * p1 + p0 + (65536 * p3 + 256 * p2 + p1)) / 65536 = 256 * p3 + (p2 + p3) := by omega
  rw [z3]
  omega
theorem bcF_ct (x : Int32) : bcF x = nI (fb_ct (bt x) 32) := by
  have hX := tN_lt x
  rw [bc_n4 (x := x) (d := tN x / 16777216 % 256) (c := tN x / 65536 % 256) (b := tN x / 256 % 256) (a := tN x % 256) (by omega) (by omega) (by omega) (by omega) (by unfold n4; omega)]
  congr 1
  have s1 : fb_ct (bt x) 32 = fb_ct (bt x) 8 + (fb_ct (fun k => bt x (8 + k)) 8 + (fb_ct (fun k => bt x (8 + (8 + k))) 8 + fb_ct (fun k => bt x (8 + (8 + (8 + k)))) 8)) := by
    rw [show 32 = 8 + (8 + (8 + 8)) from rfl, fb_ct_split, fb_ct_split, fb_ct_split]
  have hb : ∀ (n k : Nat), k < 8 → (tN x / 2 ^ n % 256).testBit k = (tN x).testBit (k + n) := fun n k hk => by
    have e : (tN x / 2 ^ n % 256) = (tN x / 2 ^ n % 2 ^ 8) := rfl
    rw [e, Nat.testBit_mod_two_pow, Nat.testBit_div_two_pow, decide_eq_true hk, Bool.true_and]
  have q0 : pc8 (tN x % 256) = fb_ct (bt x) 8 := fb_ct_cong (fun k hk => by
    have := hb 0 k hk
    rw [Nat.pow_zero, Nat.div_one] at this
    exact this)
  have q1 : pc8 (tN x / 256 % 256) = fb_ct (fun k => bt x (8 + k)) 8 := fb_ct_cong (fun k hk => by
    rw [Nat.add_comm 8 k]; exact hb 8 k hk)
  have q2 : pc8 (tN x / 65536 % 256) = fb_ct (fun k => bt x (8 + (8 + k))) 8 := fb_ct_cong (fun k hk => by
    rw [show 8 + (8 + k) = k + 16 by omega]; exact hb 16 k hk)
  have q3 : pc8 (tN x / 16777216 % 256) = fb_ct (fun k => bt x (8 + (8 + (8 + k)))) 8 := fb_ct_cong (fun k hk => by
    rw [show 8 + (8 + (8 + k)) = k + 24 by omega]; exact hb 24 k hk)
  rw [s1, q0, q1, q2, q3]; omega
/-! single bits -/
theorem bt_and (x y : Int32) (j : Nat) : bt (x &&& y) j = (bt x j && bt y j) := by unfold bt; rw [Int32.toBitVec_and, BitVec.getLsbD_and]
theorem bt_or (x y : Int32) (j : Nat) : bt (x ||| y) j = (bt x j || bt y j) := by unfold bt; rw [Int32.toBitVec_or, BitVec.getLsbD_or]
theorem bt_xor (x y : Int32) (j : Nat) : bt (x ^^^ y) j = (bt x j ^^ bt y j) := by unfold bt; rw [Int32.toBitVec_xor, BitVec.getLsbD_xor]
theorem bt_0 (j : Nat) : bt 0 j = false := by
  show (0#32).getLsbD j = false
  exact BitVec.getLsbD_zero
theorem bt_1 : ∀ j, j < 32 → bt (nI 1) j = decide (j = 0) := by decide +kernel
theorem bt_out (x : Int32) {j : Nat} (h : 32 ≤ j) : bt x j = false := BitVec.getLsbD_of_ge _ _ h
theorem bt_ext {x y : Int32} (h : ∀ j, j < 32 → bt x j = bt y j) : x = y := Int32.toBitVec_inj.mp (BitVec.eq_of_getLsbD_eq h)
theorem sh_amt : ∀ k, k < 32 → ((nI k &&& 31).toBitVec.smod 32).toNat = k := by decide +kernel
theorem bt_shl (x : Int32) {k j : Nat} (hk : k < 32) (hj : j < 32) : bt (x <<< (nI k &&& 31)) j = (decide (k ≤ j) && bt x (j - k)) := by
  unfold bt
  rw [Int32.toBitVec_shiftLeft, BitVec.shiftLeft_eq', sh_amt k hk, BitVec.getLsbD_shiftLeft]
  by_cases c : j < k
  · rw [decide_eq_true c, decide_eq_false (by omega : ¬ k ≤ j)]; simp
  · rw [decide_eq_false c, decide_eq_true (by omega : k ≤ j), decide_eq_true hj]; simp
theorem bt_shr (x : Int32) {k : Nat} (hk : k < 32) : bt (x >>> (nI k &&& 31)) 0 = bt x k := by
  unfold bt
  rw [Int32.toBitVec_shiftRight, BitVec.sshiftRight_eq', sh_amt k hk, BitVec.getLsbD_sshiftRight]
  simp [hk]
theorem and1_0 (x : Int32) : x &&& nI 1 = 0 ↔ bt x 0 = false := by
  constructor
  · intro h
    have h2 := bt_and x (nI 1) 0
    rw [h, bt_0, bt_1 0 (by decide)] at h2
    simpa using h2.symm
  · intro h
    apply bt_ext
    intro j hj
    rw [bt_and, bt_0, bt_1 j hj]
    by_cases c : j = 0
    · rw [c, h]; rfl
    · rw [decide_eq_false c]; simp
theorem and1_1 (x : Int32) (h : ¬ x &&& nI 1 = 0) : x &&& nI 1 = nI 1 := by
  have h2 : bt x 0 = true := by
    cases e : bt x 0
    · exact absurd ((and1_0 x).mpr e) h
    · rfl
  apply bt_ext
  intro j hj
  rw [bt_and, bt_1 j hj]
  by_cases c : j = 0
  · rw [c, h2]; rfl
  · rw [decide_eq_false c]; simp
theorem sgF_bt (x : Int32) {j : Nat} (hj : j < 32) : sgF x j = if bt x j then -1 else nI 1 := by
  unfold sgF
  by_cases c : bt x j = true
  · rw [if_pos c, if_neg (fun e => by rw [and1_0, bt_shr x hj, c] at e; cases e)]
  · rw [if_neg c, if_pos ((and1_0 _).mpr (by rw [bt_shr x hj]; exact Bool.eq_false_iff.mpr c))]
theorem bt_one {k j : Nat} (hk : k < 32) (hj : j < 32) : bt (nI 1 <<< (nI k &&& 31)) j = decide (j = k) := by
  rw [bt_shl _ hk hj]
  by_cases c : k ≤ j
  · rw [decide_eq_true c, Bool.true_and, bt_1 _ (by omega)]
    by_cases e : j = k
    · rw [e]; simp
    · rw [decide_eq_false e, decide_eq_false (by omega)]
  · rw [decide_eq_false c, Bool.false_and, decide_eq_false (by omega)]
theorem orF_bt {g : Nat → Int32} {c : Nat → Bool} : ∀ {s : Nat}, s ≤ 32 → (∀ j, j < s → g j = if c j then nI 1 <<< (nI j &&& 31) else 0) → ∀ j, j < 32 → bt (orF g s) j = (decide (j < s) && c j) := by
  intro s
  induction s with
  | zero => intro _ _ j _; exact (bt_0 j).trans rfl
  | succ s ih =>
    intro hs h j hj
    show bt (orF g s ||| g s) j = _
    rw [bt_or, ih (by omega) (fun q hq => h q (by omega)) j hj, h s (by omega)]
    by_cases e : j = s
    · subst e
      rw [decide_eq_false (Nat.lt_irrefl j), decide_eq_true (Nat.lt_succ_self j), Bool.false_and, Bool.false_or, Bool.true_and]
      by_cases cc : c j = true
      · rw [if_pos cc, bt_one hj hj, decide_eq_true rfl, cc]
      · rw [if_neg cc, bt_0]; exact (Bool.eq_false_iff.mpr cc).symm
    · have z : bt (if c s then nI 1 <<< (nI s &&& 31) else 0) j = false := by
        by_cases cc : c s = true
        · rw [if_pos cc, bt_one (by omega) hj, decide_eq_false e]
        · rw [if_neg cc, bt_0]
      rw [z, Bool.or_false]
      congr 1
      exact decide_eq_decide.mpr (by omega)
theorem acF_bt : ∀ c, c < 33 → 0 < c → ∀ j, j < 32 → bt (acF c) j = decide (j < c) := by decide +kernel
/-- the products of two rows -/
theorem prod_eq {a b : Int32} {s : Nat} (h32 : s ≤ 32) (ha : ∀ j, s ≤ j → bt a j = false) (hb : ∀ j, s ≤ j → bt b j = false) : nI s - nI 2 * bcF (a ^^^ b) = smI (fun j => sgF a j * sgF b j) s := by
  have h1 : ∀ m, m ≤ 32 → smI (fun j => sgF a j * sgF b j) m = nI m - nI 2 * nI (fb_ct (bt (a ^^^ b)) m) := by
    intro m
    induction m with
    | zero => intro _; show (0 : Int32) = nI 0 - nI 2 * nI 0; decide
    | succ m ih =>
      intro hm
      show smI (fun j => sgF a j * sgF b j) m + sgF a m * sgF b m = _
      rw [ih (by omega), fb_ct_succ, bt_xor, sgF_bt a (by omega), sgF_bt b (by omega)]
      have n1 : nI 1 = (1 : Int32) := rfl
      have n2 : nI 2 = (2 : Int32) := rfl
      have e9 : nI (fb_ct (bt (a ^^^ b)) m + (if (bt a m ^^ bt b m) = true then 1 else 0)) = nI (fb_ct (bt (a ^^^ b)) m) + (if (bt a m ^^ bt b m) = true then (1 : Int32) else 0) := by
        cases (bt a m ^^ bt b m)
        · exact (Int32.add_zero _).symm
        · exact (nI_1 _).symm
      rw [e9, ← nI_1 m, n1, n2]
      generalize nI (fb_ct (bt (a ^^^ b)) m) = C
      generalize nI m = M
      clear ih e9 n1 n2 ha hb
      cases bt a m <;> cases bt b m
      · show M - 2 * C + 1 * 1 = M + 1 - 2 * (C + 0); grind
      · show M - 2 * C + 1 * -1 = M + 1 - 2 * (C + 1); grind
      · show M - 2 * C + -1 * 1 = M + 1 - 2 * (C + 1); grind
      · show M - 2 * C + -1 * -1 = M + 1 - 2 * (C + 0); grind
  rw [h1 s h32, bcF_ct]
  congr 3
  have hz : fb_ct (fun k => bt (a ^^^ b) (s + k)) (32 - s) = 0 := fb_ct_zero.mpr (fun k hk => by
    show bt (a ^^^ b) (s + k) = false
    rw [bt_xor, ha _ (by omega), hb _ (by omega)]; rfl)
  have h2 := fb_ct_split (bt (a ^^^ b)) s (32 - s)
  rw [hz, show s + (32 - s) = 32 by omega] at h2
  exact h2
