/-! shared pure words -/
theorem t0 : (0 : Int32).toInt = 0 := rfl
theorem t1 : (1 : Int32).toInt = 1 := rfl
theorem t2 : (2 : Int32).toInt = 2 := rfl
theorem tm1 : (-1 : Int32).toInt = -1 := rfl
/-- sums of ints, longs, as the machine has them -/
def smI (f : Nat → Int32) : Nat → Int32
  | 0 => 0
  | n + 1 => smI f n + f n
def smL (f : Nat → Int64) : Nat → Int64
  | 0 => 0
  | n + 1 => smL f n + f n
theorem smI_congr {f g : Nat → Int32} : ∀ {n : Nat}, (∀ i, i < n → f i = g i) → smI f n = smI g n
  | 0, _ => rfl
  | n + 1, h => by rw [smI, smI, smI_congr (fun i hi => h i (by omega)), h n (by omega)]
theorem smL_congr {f g : Nat → Int64} : ∀ {n : Nat}, (∀ i, i < n → f i = g i) → smL f n = smL g n
  | 0, _ => rfl
  | n + 1, h => by rw [smL, smL, smL_congr (fun i hi => h i (by omega)), h n (by omega)]
/-- the first k from a on, within m steps, at which p holds: k, else -1 -/
def fstF (p : Nat → Bool) (a : Nat) : Nat → Int32
  | 0 => -1
  | m + 1 => if p a then nI a else fstF p (a + 1) m
theorem fstF_congr {p q : Nat → Bool} : ∀ {m a : Nat}, (∀ i, a ≤ i → i < a + m → p i = q i) → fstF p a m = fstF q a m
  | 0, _, _ => rfl
  | m + 1, a, h => by
    rw [fstF, fstF, h a (by omega) (by omega), fstF_congr (fun i h1 h2 => h i (by omega) (by omega))]
/-- a row filled ahead of i by g -/
def fil {α : Type} (f g : Nat → α) (i : Nat) : Nat → α := fun j => if j < i then g j else f j
theorem fil_0 {α : Type} (f g : Nat → α) : fil f g 0 = f := by funext j; simp [fil]
theorem fil_in {α : Type} {f g : Nat → α} {i j : Nat} (h : j < i) : fil f g i j = g j := if_pos h
theorem fil_out {α : Type} {f g : Nat → α} {i j : Nat} (h : i ≤ j) : fil f g i j = f j := if_neg (Nat.not_lt.mpr h)
theorem fil_put (f g : Nat → Int32) (i : Nat) : upd (fil f g i) i (g i) = fil f g (i + 1) := by
  funext j
  unfold upd fil
  by_cases h : j = i
  · subst h; simp
  · by_cases h2 : j < i
    · rw [if_neg h, if_pos h2, if_pos (by omega)]
    · rw [if_neg h, if_neg h2, if_neg (by omega)]
theorem fil_putL (f g : Nat → Int64) (i : Nat) : vp_updL (fil f g i) i (g i) = fil f g (i + 1) := by
  funext j
  unfold vp_updL fil
  by_cases h : j = i
  · subst h; simp
  · by_cases h2 : j < i
    · rw [if_neg h, if_pos h2, if_pos (by omega)]
    · rw [if_neg h, if_neg h2, if_neg (by omega)]
def sRL (μ : Mm) (k : Nat) (f : Nat → Int64) : Mm := (μ.1, fun k' => if k' = k then f else μ.2 k')
theorem sR_id (μ : Mm) (k : Nat) : sR μ k (μ.1 k) = μ := by
  unfold sR
  refine Prod.ext ?_ rfl
  funext k'
  by_cases h : k' = k
  · subst h; simp
  · simp [h]
theorem sRL_id (μ : Mm) (k : Nat) : sRL μ k (μ.2 k) = μ := by
  unfold sRL
  refine Prod.ext rfl ?_
  funext k'
  by_cases h : k' = k
  · subst h; simp
  · simp [h]
theorem sI_sR (μ : Mm) (k i : Nat) (f : Nat → Int32) (x : Int32) : sI (sR μ k f) k i x = sR μ k (upd f i x) := by
  unfold sI sR
  refine Prod.ext ?_ rfl
  funext k'
  by_cases h : k' = k
  · subst h; simp
  · simp [h]
theorem sL_sRL (μ : Mm) (k i : Nat) (f : Nat → Int64) (x : Int64) : sL (sRL μ k f) k i x = sRL μ k (vp_updL f i x) := by
  unfold sL sRL
  refine Prod.ext rfl ?_
  funext k'
  by_cases h : k' = k
  · subst h; simp
  · simp [h]
theorem sI_eq (μ : Mm) (k i : Nat) (x : Int32) : sI μ k i x = sR μ k (upd (μ.1 k) i x) := by rw [← sI_sR, sR_id]
theorem sL_eq (μ : Mm) (k i : Nat) (x : Int64) : sL μ k i x = sRL μ k (vp_updL (μ.2 k) i x) := by rw [← sL_sRL, sRL_id]
theorem sR_sR (μ : Mm) (k : Nat) (f g : Nat → Int32) : sR (sR μ k f) k g = sR μ k g := by
  unfold sR
  refine Prod.ext ?_ rfl
  funext k'
  by_cases h : k' = k
  · subst h; simp
  · simp [h]
theorem sR_fil (μ : Mm) (k i : Nat) (f g : Nat → Int32) {x : Int32} (hx : x = g i) : sI (sR μ k (fil f g i)) k i x = sR μ k (fil f g (i + 1)) := by rw [sI_sR, hx, fil_put]
theorem sRL_fil (μ : Mm) (k i : Nat) (f g : Nat → Int64) {x : Int64} (hx : x = g i) : sL (sRL μ k (fil f g i)) k i x = sRL μ k (fil f g (i + 1)) := by rw [sL_sRL, hx, fil_putL]
theorem sR_1 {μ : Mm} {k k' : Nat} {f : Nat → Int32} (h : k' ≠ k) : (sR μ k f).1 k' = μ.1 k' := if_neg h
theorem sI_1 {μ : Mm} {k k' i : Nat} {x : Int32} (h : k' ≠ k) : (sI μ k i x).1 k' = μ.1 k' := if_neg h
theorem sI_same {μ : Mm} {k i : Nat} {x : Int32} : (sI μ k i x).1 k i = x := by rw [sI_at]; simp [upd]
theorem sI_other {μ : Mm} {k i j : Nat} {x : Int32} (h : j ≠ i) : (sI μ k i x).1 k j = μ.1 k j := by rw [sI_at]; simp [upd, h]
/-- places go round -/
noncomputable def wrF (n : Nat) (i : Int32) : Int32 := if i < 0 then i + nI n else if nI n ≤ i then i - nI n else i
theorem nI_sub_toInt {a b : Nat} (ha : a < 2 ^ 30) (hb : b < 2 ^ 30) : (nI a - nI b).toInt = (a : Int) - b := pk_sub_toInt ha hb
theorem wrF_add {n a b : Nat} (hn : n ≤ 60) (ha : a < n) (hb : b < n) : wrF n (nI (a + b)) = nI ((a + b) % n) := by
  unfold wrF
  rw [if_neg (nI_pos (by omega))]
  by_cases h : n ≤ a + b
  · rw [if_pos (nI_le h (by omega)), pk_sub h, Nat.mod_eq_sub_mod h, Nat.mod_eq_of_lt (by omega)]
  · rw [if_neg (nI_ge (by omega) (by omega)), Nat.mod_eq_of_lt (by omega)]
theorem wrF_sub {n a b : Nat} (hn : n ≤ 60) (ha : a < n) (hb : b < n) : wrF n (nI a - nI b) = nI ((a + n - b) % n) := by
  unfold wrF
  by_cases h : a < b
  · rw [if_pos (pk_sneg (by omega) h), Nat.mod_eq_of_lt (by omega)]
    have e : nI a + nI n - nI b = nI (a + n - b) := by rw [nI_add, pk_sub (by omega)]
    rw [← e]
    rw [Int32.sub_eq_add_neg, Int32.sub_eq_add_neg, Int32.add_assoc, Int32.add_assoc, Int32.add_comm (-nI b)]
  · have h' : b ≤ a := by omega
    rw [pk_sub h', if_neg (nI_pos (by omega)), if_neg (nI_ge (by omega) (by omega))]
    rw [show a + n - b = a - b + n by omega, Nat.add_mod_right, Nat.mod_eq_of_lt (by omega)]
theorem nt0 : (nI 0).toInt = 0 := rfl
theorem nt1 : (nI 1).toInt = 1 := rfl
theorem nt2 : (nI 2).toInt = 2 := rfl
theorem nt3 : (nI 3).toInt = 3 := rfl
theorem nt4 : (nI 4).toInt = 4 := rfl
theorem nt5 : (nI 5).toInt = 5 := rfl
theorem nt7 : (nI 7).toInt = 7 := rfl
theorem nt9 : (nI 9).toInt = 9 := rfl
theorem nt10 : (nI 10).toInt = 10 := rfl
theorem nt13 : (nI 13).toInt = 13 := rfl
theorem nt14 : (nI 14).toInt = 14 := rfl
theorem nt30 : (nI 30).toInt = 30 := rfl
theorem nt32 : (nI 32).toInt = 32 := rfl
theorem nt59 : (nI 59).toInt = 59 := rfl
theorem nt60 : (nI 60).toInt = 60 := rfl
theorem nt200 : (nI 200).toInt = 200 := rfl
theorem nt1000 : (nI 1000).toInt = 1000 := rfl
theorem nt1000000 : (nI 1000000).toInt = 1000000 := rfl
theorem nt1073741824 : (nI 1073741824).toInt = 1073741824 := rfl
