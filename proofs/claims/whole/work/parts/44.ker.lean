/-! Kernels: columns that hang on those ahead; circulants; solutions -/
theorem dt_cut {r v : Nat → Int} {m : Nat} (h : ∀ j, m ≤ j → v j = 0) : ∀ {n : Nat}, m ≤ n → dt n r v = dt m r v := by
  intro n
  induction n with
  | zero => intro hm; rw [show m = 0 by omega]
  | succ n ih =>
    intro hm
    by_cases e : m = n + 1
    · rw [e]
    · show dt n r v + r n * v n = _
      rw [ih (by omega), h n (by omega)]; omega
theorem dt_zero {k : Nat} {r v : Nat → Int} (h : ∀ c, c < k → r c = 0) : dt k r v = 0 := by
  induction k with
  | zero => rfl
  | succ k ih => show dt k r v + r k * v k = 0; rw [ih (fun c hc => h c (by omega)), h k (by omega)]; omega
theorem dt_one {i : Nat} {D : Int} {r v : Nat → Int} : ∀ {k : Nat}, i < k → (∀ c, c < k → r c = if c = i then D else 0) → dt k r v = D * v i := by
  intro k
  induction k with
  | zero => intro h; omega
  | succ k ih =>
    intro hi h
    show dt k r v + r k * v k = D * v i
    by_cases e : i = k
    · rw [dt_zero (fun c hc => by rw [h c (by omega), if_neg (by omega)]), h k (by omega), if_pos e.symm, e]; omega
    · rw [ih (by omega) (fun c hc => h c (by omega)), h k (by omega), if_neg (by omega)]; omega
/-- the kernel's vector of a column that hangs on those ahead of it -/
def kv (M : Nat → Nat → Int) (D : Int) (k j : Nat) : Int := if j < k then -(M j k) else if j = k then D else 0
theorem kv_0 {M : Nat → Nat → Int} {D : Int} {k : Nat} : ∀ j, k + 1 ≤ j → kv M D k j = 0 := by
  intro j hj; unfold kv; rw [if_neg (by omega), if_neg (by omega)]
theorem bz_ker {N rows k : Nat} {B D : Int} {A M : Nat → Nat → Int} (h : Bz N rows B A k M D) (hkN : k < N) (hz : ∀ i, k ≤ i → i < rows → M i k = 0) : Kr N rows A (kv M D k) := by
  obtain ⟨a, h1, h2, h3, h4, h5, h6, h7, h8, h9⟩ := h
  rw [← h7]
  intro i hi
  rw [dt_cut kv_0 (show k + 1 ≤ N by omega)]
  show dt k (M i) (kv M D k) + M i k * kv M D k k = 0
  have ek : kv M D k k = D := by unfold kv; rw [if_neg (by omega), if_pos rfl]
  rw [ek]
  by_cases hik : i < k
  · rw [dt_one hik (h4 i hik).1]
    have ei : kv M D k i = -(M i k) := by unfold kv; rw [if_pos hik]
    rw [ei]; grind
  · rw [dt_zero (h3 i (by omega) hi).1, hz i (by omega) hi]; omega
def shv (v : Nat → Int) (h j : Nat) : Int := if h ≤ j then v (j - h) else 0
theorem dt_shv (r v : Nat → Int) (h : Nat) : ∀ (m : Nat), dt (m + h) r (shv v h) = dt m (fun u => r (u + h)) v := by
  intro m
  induction m with
  | zero =>
    rw [Nat.zero_add]
    show dt h r (shv v h) = 0
    rw [dt_comm]
    exact dt_zero (fun c hc => by unfold shv; rw [if_neg (by omega)])
  | succ m ih =>
    rw [show m + 1 + h = (m + h) + 1 by omega]
    show dt (m + h) r (shv v h) + r (m + h) * shv v h (m + h) = dt m (fun u => r (u + h)) v + r (m + h) * v m
    rw [ih]
    unfold shv
    rw [if_pos (by omega), show m + h - h = m by omega]
/-- a circulant's first n columns -/
def Ci (n : Nat) (f : Nat → Int) (A : Nat → Nat → Int) : Prop := ∀ i j, i < n → j < n → A i j = f ((j + n - i) % n)
theorem mod_add9 {a n : Nat} (h : n ≤ a) : a % n = (a - n) % n := Nat.mod_eq_sub_mod h
theorem kr_shv {N n e h : Nat} {f : Nat → Int} {A : Nat → Nat → Int} {v : Nat → Int} (hC : Ci n f A) (hnN : n ≤ N) (hv : ∀ j, e + 1 ≤ j → v j = 0) (he : e + h < n) (hK : Kr N n A v) : Kr N n A (shv v h) := by
  intro i hi
  rw [dt_cut (m := e + 1 + h) (fun j hj => by unfold shv; rw [if_pos (by omega)]; exact hv _ (by omega)) (by omega), dt_shv]
  have hi' : (if h ≤ i then i - h else i + n - h) < n := by split <;> omega
  have q := hK _ hi'
  rw [dt_cut (m := e + 1) hv (by omega)] at q
  rw [← q]
  refine dt_cong (fun u hu => ?_) (fun _ _ => rfl)
  rw [hC i (u + h) hi (by omega), hC _ u hi' (by omega)]
  by_cases c : h ≤ i
  · rw [if_pos c]; congr 2; omega
  · rw [if_neg c, mod_add9 (show n ≤ u + h + n - i by omega)]; congr 2; omega
theorem bz_zero {N n e : Nat} {B D : Int} {f : Nat → Int} {A M : Nat → Nat → Int} (h : Bz N n B A e M D) (hC : Ci n f A) (hnN : n ≤ N) (he : e < n) (hz : ∀ i, e ≤ i → i < n → M i e = 0) : ∀ (m c : Nat), c ≤ m → e ≤ c → c < n → ∀ i, e ≤ i → i < n → M i c = 0 := by
  have hk := bz_ker h (by omega) hz
  obtain ⟨a, h1, h2, h3, h4, h5, h6, h7, h8, h9⟩ := id h
  intro m
  induction m with
  | zero => intro c h1 h2 h3 i; rw [show c = e by omega]; exact hz i
  | succ m ih =>
    intro c c1 c2 c3 i i1 i2
    have q := (h7 _).mpr (kr_shv (h := c - e) hC hnN kv_0 (by omega) hk) i i2
    rw [dt_cut (m := c + 1) (fun j hj => by unfold shv; rw [if_pos (by omega)]; exact kv_0 _ (by omega)) (by omega)] at q
    have q2 : dt c (M i) (shv (kv M D e) (c - e)) + M i c * shv (kv M D e) (c - e) c = 0 := q
    rw [dt_zero (fun c' hc' => by
      by_cases hce : c' < e
      · exact (h3 i i1 i2).1 c' hce
      · exact ih c' (by omega) (by omega) (by omega) i i1 i2)] at q2
    have ek : shv (kv M D e) (c - e) c = D := by
      unfold shv kv
      rw [if_pos (by omega), if_neg (by omega), if_pos (by omega)]
    rw [ek] at q2
    have q3 : M i c * D = 0 := by omega
    exact (Int.mul_eq_zero.mp q3).resolve_right h2.1
theorem bz_sol {n : Nat} {B D : Int} {A M : Nat → Nat → Int} (h : Bz (n + 1) n B A n M D) {v : Nat → Int} (hv : Kr (n + 1) n A v) : ∀ i, i < n → D * v i + M i n * v n = 0 := by
  obtain ⟨a, h1, h2, h3, h4, h5, h6, h7, h8, h9⟩ := h
  intro i hi
  have q := (h7 v).mpr hv i hi
  have q2 : dt n (M i) v + M i n * v n = 0 := q
  rw [dt_one hi (h4 i hi).1] at q2
  exact q2
def sv9 (M : Nat → Nat → Int) (D : Int) (n j : Nat) : Int := if j < n then M j n else -D
theorem bz_has {n : Nat} {B D : Int} {A M : Nat → Nat → Int} (h : Bz (n + 1) n B A n M D) : Kr (n + 1) n A (sv9 M D n) := by
  obtain ⟨a, h1, h2, h3, h4, h5, h6, h7, h8, h9⟩ := h
  rw [← h7]
  intro i hi
  show dt n (M i) (sv9 M D n) + M i n * sv9 M D n n = 0
  rw [dt_one hi (h4 i hi).1]
  have e1 : sv9 M D n i = M i n := if_pos hi
  have e2 : sv9 M D n n = -D := if_neg (Nat.lt_irrefl n)
  rw [e1, e2]; grind
/-- sums; turned about -/
def sm9 (g : Nat → Int) : Nat → Int
  | 0 => 0
  | n + 1 => sm9 g n + g n
theorem dt_sm (r v : Nat → Int) (n : Nat) : dt n r v = sm9 (fun j => r j * v j) n := by
  induction n with
  | zero => rfl
  | succ n ih => show _ + _ = _ + _; rw [ih]
theorem sm_cong {g g' : Nat → Int} {n : Nat} (h : ∀ j, j < n → g j = g' j) : sm9 g n = sm9 g' n := by
  induction n with
  | zero => rfl
  | succ n ih => show _ + _ = _ + _; rw [ih (fun j hj => h j (by omega)), h n (by omega)]
theorem sm_first (g : Nat → Int) (n : Nat) : sm9 g (n + 1) = g 0 + sm9 (fun j => g (j + 1)) n := by
  induction n with
  | zero => show 0 + g 0 = g 0 + 0; omega
  | succ n ih =>
    show sm9 g (n + 1) + g (n + 1) = g 0 + (sm9 (fun j => g (j + 1)) n + g (n + 1))
    rw [ih]; omega
theorem sm_rev (g : Nat → Int) (n : Nat) : sm9 (fun j => g (n - j)) (n + 1) = sm9 g (n + 1) := by
  induction n generalizing g with
  | zero => rfl
  | succ n ih =>
    rw [sm_first]
    show g (n + 1) + sm9 (fun j => g (n + 1 - (j + 1))) (n + 1) = sm9 g (n + 1) + g (n + 1)
    rw [sm_cong (g' := fun j => g (n - j)) (fun j hj => by congr 1; omega), ih]; omega
theorem sm_neg (g : Nat → Int) {n : Nat} (hn : 0 < n) : sm9 (fun j => g ((n - j) % n)) n = sm9 g n := by
  obtain ⟨m, rfl⟩ : ∃ m, n = m + 1 := ⟨n - 1, by omega⟩
  rw [sm_first, sm_first g]
  have e0 : g ((m + 1 - 0) % (m + 1)) = g 0 := by rw [Nat.sub_zero, Nat.mod_self]
  rw [e0]
  congr 1
  rw [sm_cong (g' := fun j => g (m - 1 - j + 1)) (fun j hj => by rw [Nat.mod_eq_of_lt (by omega)]; congr 1; omega)]
  cases m with
  | zero => rfl
  | succ q => exact sm_rev (fun j => g (j + 1)) q
def Cr (n : Nat) (f : Nat → Int) (A : Nat → Nat → Int) : Prop := ∀ i j, i < n → j < n → A i j = f ((i + n - j) % n)
def E0 (n : Nat) (A : Nat → Nat → Int) : Prop := ∀ i, i < n → A i n = if i = 0 then 1 else 0
def rvv (v : Nat → Int) (n j : Nat) : Int := if j < n then v ((n - j) % n) else v j
theorem md_lt {n : Nat} (t : Nat) (h : 0 < n) : t % n < n := Nat.mod_lt t h
theorem rix {n t j : Nat} (ht : t < n) (hj : j < n) : (t + n - j) % n = ((n - j) % n + n - (n - t) % n) % n := by
  have z : (n - 0) % n = 0 := by rw [Nat.sub_zero, Nat.mod_self]
  by_cases c : t = 0
  · rw [c, z]
    by_cases c2 : j = 0
    · rw [c2, z]
    · rw [Nat.mod_eq_of_lt (show n - j < n by omega), Nat.sub_zero, Nat.add_mod_right, Nat.zero_add]
  · rw [Nat.mod_eq_of_lt (show n - t < n by omega)]
    by_cases c2 : j = 0
    · rw [c2, z, Nat.sub_zero, Nat.add_mod_right, show 0 + n - (n - t) = t by omega]
    · rw [Nat.mod_eq_of_lt (show n - j < n by omega), show n - j + n - (n - t) = t + n - j by omega]
theorem kr_rev {n : Nat} {f : Nat → Int} {A A' : Nat → Nat → Int} {v : Nat → Int} (hC : Ci n f A) (hR : Cr n f A') (h0 : E0 n A) (h0' : E0 n A') (hK : Kr (n + 1) n A v) : Kr (n + 1) n A' (rvv v n) := by
  intro t ht
  have hn : 0 < n := by omega
  have q := hK ((n - t) % n) (md_lt _ hn)
  have q2 : dt n (A ((n - t) % n)) v + A ((n - t) % n) n * v n = 0 := q
  show dt n (A' t) (rvv v n) + A' t n * rvv v n n = 0
  have e1 : A' t n * rvv v n n = A ((n - t) % n) n * v n := by
    have z : rvv v n n = v n := if_neg (Nat.lt_irrefl n)
    rw [h0' t ht, h0 _ (md_lt _ hn), z]
    by_cases c : t = 0
    · subst c; rw [Nat.sub_zero, Nat.mod_self]
    · rw [Nat.mod_eq_of_lt (show n - t < n by omega), if_neg c, if_neg (by omega)]
  have e2 : dt n (A' t) (rvv v n) = dt n (A ((n - t) % n)) v := by
    rw [dt_sm, dt_sm, ← sm_neg (fun j => A ((n - t) % n) j * v j) hn]
    refine sm_cong (fun j hj => ?_)
    show A' t j * rvv v n j = A ((n - t) % n) ((n - j) % n) * v ((n - j) % n)
    have z : rvv v n j = v ((n - j) % n) := if_pos hj
    rw [z, hR t j ht hj, hC _ _ (md_lt _ hn) (md_lt _ hn), rix ht hj]
  rw [e1, e2]; exact q2
theorem kr_rev2 {n : Nat} {f : Nat → Int} {A A' : Nat → Nat → Int} {v : Nat → Int} (hC : Ci n f A) (hR : Cr n f A') (h0 : E0 n A) (h0' : E0 n A') (hK : Kr (n + 1) n A' v) : Kr (n + 1) n A (rvv v n) := by
  intro t ht
  have hn : 0 < n := by omega
  have q := hK ((n - t) % n) (md_lt _ hn)
  have q2 : dt n (A' ((n - t) % n)) v + A' ((n - t) % n) n * v n = 0 := q
  show dt n (A t) (rvv v n) + A t n * rvv v n n = 0
  have e1 : A t n * rvv v n n = A' ((n - t) % n) n * v n := by
    have z : rvv v n n = v n := if_neg (Nat.lt_irrefl n)
    rw [h0 t ht, h0' _ (md_lt _ hn), z]
    by_cases c : t = 0
    · subst c; rw [Nat.sub_zero, Nat.mod_self]
    · rw [Nat.mod_eq_of_lt (show n - t < n by omega), if_neg c, if_neg (by omega)]
  have e2 : dt n (A t) (rvv v n) = dt n (A' ((n - t) % n)) v := by
    rw [dt_sm, dt_sm, ← sm_neg (fun j => A' ((n - t) % n) j * v j) hn]
    refine sm_cong (fun j hj => ?_)
    show A t j * rvv v n j = A' ((n - t) % n) ((n - j) % n) * v ((n - j) % n)
    have z : rvv v n j = v ((n - j) % n) := if_pos hj
    rw [z, hC t j ht hj, hR _ _ (md_lt _ hn) (md_lt _ hn), rix hj ht]
  rw [e1, e2]; exact q2
