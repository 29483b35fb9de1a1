/-! The exterior algebra of Z^n, Bareiss's elimination -/
abbrev Ee : Type := Nat → Int
def xv (w : Ee) : Ee := fun m => w (2 * m)
def xo (w : Ee) : Ee := fun m => w (2 * m + 1)
def xj (a b : Ee) : Ee := fun m => if m % 2 = 0 then a (m / 2) else b (m / 2)
theorem xv_xj (a b : Ee) : xv (xj a b) = a := by
  funext m
  unfold xv xj
  rw [if_pos (by omega), show 2 * m / 2 = m by omega]
theorem xo_xj (a b : Ee) : xo (xj a b) = b := by
  funext m
  unfold xo xj
  rw [if_neg (by omega), show (2 * m + 1) / 2 = m by omega]
theorem x_ext {f g : Ee} (h1 : xv f = xv g) (h2 : xo f = xo g) : f = g := by
  funext m
  have e : m = 2 * (m / 2) ∨ m = 2 * (m / 2) + 1 := by omega
  rcases e with e | e
  · rw [e]; exact congrFun h1 (m / 2)
  · rw [e]; exact congrFun h2 (m / 2)
/-- r ∧ w in n dimensions; its adjoint; the inner product -/
def wg : Nat → (Nat → Int) → Ee → Ee
  | 0, _, _ => fun _ => 0
  | n + 1, r, w => xj (wg n r (xv w)) (fun m => r n * xv w m - wg n r (xo w) m)
def io : Nat → (Nat → Int) → Ee → Ee
  | 0, _, _ => fun _ => 0
  | n + 1, r, w => xj (fun m => io n r (xv w) m + r n * xo w m) (fun m => -io n r (xo w) m)
def ip : Nat → Ee → Ee → Int
  | 0, a, b => a 0 * b 0
  | n + 1, a, b => ip n (xv a) (xv b) + ip n (xo a) (xo b)
def dt : Nat → (Nat → Int) → (Nat → Int) → Int
  | 0, _, _ => 0
  | n + 1, r, s => dt n r s + r n * s n
def lc (x : Int) (f : Nat → Int) (y : Int) (g : Nat → Int) : Nat → Int := fun m => x * f m + y * g m
theorem wg_lin (n : Nat) (r : Nat → Int) : ∀ (x y : Int) (f g : Ee), wg n r (lc x f y g) = lc x (wg n r f) y (wg n r g) := by
  induction n with
  | zero => intro x y f g; funext m; simp [wg, lc]
  | succ n ih =>
    intro x y f g
    have h1 := ih x y (xv f) (xv g)
    have h2 := ih x y (xo f) (xo g)
    apply x_ext
    · show xv (xj _ _) = _
      rw [xv_xj]
      show wg n r (lc x (xv f) y (xv g)) = lc x (xv (xj _ _)) y (xv (xj _ _))
      rw [h1, xv_xj, xv_xj]
    · show xo (xj _ _) = _
      rw [xo_xj]
      show _ = lc x (xo (xj _ _)) y (xo (xj _ _))
      rw [xo_xj, xo_xj]
      funext m
      have h3 := congrFun h2 m
      show r n * (x * xv f m + y * xv g m) - wg n r (lc x (xo f) y (xo g)) m = x * (r n * xv f m - wg n r (xo f) m) + y * (r n * xv g m - wg n r (xo g) m)
      rw [h3]
      unfold lc
      grind
theorem wg_vec (n : Nat) (x y : Int) (r s : Nat → Int) : ∀ (w : Ee), wg n (lc x r y s) w = lc x (wg n r w) y (wg n s w) := by
  induction n with
  | zero => intro w; funext m; simp [wg, lc]
  | succ n ih =>
    intro w
    have h1 := ih (xv w)
    have h2 := ih (xo w)
    apply x_ext
    · show xv (xj _ _) = lc x (xv (xj _ _)) y (xv (xj _ _))
      rw [xv_xj, xv_xj, xv_xj, h1]
    · show xo (xj _ _) = lc x (xo (xj _ _)) y (xo (xj _ _))
      rw [xo_xj, xo_xj, xo_xj]
      funext m
      have h3 := congrFun h2 m
      show (x * r n + y * s n) * xv w m - wg n (lc x r y s) (xo w) m = x * (r n * xv w m - wg n r (xo w) m) + y * (s n * xv w m - wg n s (xo w) m)
      rw [h3]
      unfold lc
      grind
theorem io_lin (n : Nat) (r : Nat → Int) : ∀ (x y : Int) (f g : Ee), io n r (lc x f y g) = lc x (io n r f) y (io n r g) := by
  induction n with
  | zero => intro x y f g; funext m; simp [io, lc]
  | succ n ih =>
    intro x y f g
    have h1 := ih x y (xv f) (xv g)
    have h2 := ih x y (xo f) (xo g)
    apply x_ext
    · show xv (xj _ _) = lc x (xv (xj _ _)) y (xv (xj _ _))
      rw [xv_xj, xv_xj, xv_xj]
      funext m
      have h3 := congrFun h1 m
      show io n r (lc x (xv f) y (xv g)) m + r n * (x * xo f m + y * xo g m) = x * (io n r (xv f) m + r n * xo f m) + y * (io n r (xv g) m + r n * xo g m)
      rw [h3]
      unfold lc
      grind
    · show xo (xj _ _) = lc x (xo (xj _ _)) y (xo (xj _ _))
      rw [xo_xj, xo_xj, xo_xj]
      funext m
      have h3 := congrFun h2 m
      show -io n r (lc x (xo f) y (xo g)) m = x * (-io n r (xo f) m) + y * (-io n r (xo g) m)
      rw [h3]
      unfold lc
      grind
theorem io_vec (n : Nat) (x y : Int) (r s : Nat → Int) : ∀ (w : Ee), io n (lc x r y s) w = lc x (io n r w) y (io n s w) := by
  induction n with
  | zero => intro w; funext m; simp [io, lc]
  | succ n ih =>
    intro w
    have h1 := ih (xv w)
    have h2 := ih (xo w)
    apply x_ext
    · show xv (xj _ _) = lc x (xv (xj _ _)) y (xv (xj _ _))
      rw [xv_xj, xv_xj, xv_xj]
      funext m
      have h3 := congrFun h1 m
      show io n (lc x r y s) (xv w) m + (x * r n + y * s n) * xo w m = x * (io n r (xv w) m + r n * xo w m) + y * (io n s (xv w) m + s n * xo w m)
      rw [h3]
      unfold lc
      grind
    · show xo (xj _ _) = lc x (xo (xj _ _)) y (xo (xj _ _))
      rw [xo_xj, xo_xj, xo_xj]
      funext m
      have h3 := congrFun h2 m
      show -io n (lc x r y s) (xo w) m = x * (-io n r (xo w) m) + y * (-io n s (xo w) m)
      rw [h3]
      unfold lc
      grind
theorem wg_cong {n : Nat} {r s : Nat → Int} (h : ∀ i, i < n → r i = s i) : ∀ (w : Ee), wg n r w = wg n s w := by
  induction n with
  | zero => intro w; rfl
  | succ n ih =>
    intro w
    show xj _ _ = xj _ _
    rw [ih (fun i hi => h i (by omega)), ih (fun i hi => h i (by omega)), h n (by omega)]
theorem io_cong {n : Nat} {r s : Nat → Int} (h : ∀ i, i < n → r i = s i) : ∀ (w : Ee), io n r w = io n s w := by
  induction n with
  | zero => intro w; rfl
  | succ n ih =>
    intro w
    show xj _ _ = xj _ _
    rw [ih (fun i hi => h i (by omega)), ih (fun i hi => h i (by omega)), h n (by omega)]
theorem sb_lc (f g : Ee) (x : Int) : (fun m => x * f m - g m) = lc x f (-1) g := by funext m; unfold lc; grind
theorem ad_lc (f g : Ee) (x : Int) : (fun m => g m + x * f m) = lc 1 g x f := by funext m; unfold lc; grind
theorem ng_lc (g : Ee) : (fun m => -g m) = lc (-1) g 0 g := by funext m; unfold lc; grind
theorem wg_anti (n : Nat) (r s : Nat → Int) : ∀ (w : Ee) (m : Nat), wg n r (wg n s w) m = -wg n s (wg n r w) m := by
  induction n with
  | zero => intro w m; simp [wg]
  | succ n ih =>
    intro w
    suffices h : wg (n + 1) r (wg (n + 1) s w) = lc (-1) (wg (n + 1) s (wg (n + 1) r w)) 0 w by
      intro m; rw [h]; unfold lc; grind
    apply x_ext
    · show xv (xj _ _) = lc (-1) (xv (xj _ _)) 0 (xv w)
      rw [xv_xj, xv_xj]
      show wg n r (xv (xj _ _)) = lc (-1) (wg n s (xv (xj _ _))) 0 (xv w)
      rw [xv_xj, xv_xj]
      funext m
      rw [ih]; unfold lc; grind
    · show xo (xj _ _) = lc (-1) (xo (xj _ _)) 0 (xo w)
      rw [xo_xj, xo_xj]
      funext m
      show r n * xv (xj _ _) m - wg n r (xo (xj _ _)) m = (-1) * (s n * xv (xj _ _) m - wg n s (xo (xj _ _)) m) + 0 * xo w m
      rw [xv_xj, xo_xj, xv_xj, xo_xj, sb_lc, sb_lc, wg_lin, wg_lin]
      have h3 := ih (xo w) m
      unfold lc
      grind
theorem wg_self (n : Nat) (r : Nat → Int) (w : Ee) (m : Nat) : wg n r (wg n r w) m = 0 := by
  have := wg_anti n r r w m
  omega
theorem cliff (n : Nat) (r s : Nat → Int) : ∀ (w : Ee) (m : Nat), io n r (wg n s w) m + wg n s (io n r w) m = dt n r s * w m := by
  induction n with
  | zero => intro w m; simp [wg, io, dt]
  | succ n ih =>
    intro w
    suffices h : lc 1 (io (n + 1) r (wg (n + 1) s w)) 1 (wg (n + 1) s (io (n + 1) r w)) = lc (dt (n + 1) r s) w 0 w by
      intro m
      have := congrFun h m
      unfold lc at this
      grind
    apply x_ext
    · show lc 1 (xv (xj _ _)) 1 (xv (xj _ _)) = lc _ (xv w) 0 (xv w)
      rw [xv_xj, xv_xj]
      funext m
      show 1 * (io n r (xv (xj _ _)) m + r n * xo (xj _ _) m) + 1 * wg n s (xv (xj _ _)) m = dt (n + 1) r s * xv w m + 0 * xv w m
      rw [xv_xj, xo_xj, xv_xj, ad_lc, wg_lin]
      have h3 := ih (xv w) m
      show _ = (dt n r s + r n * s n) * xv w m + 0 * xv w m
      unfold lc
      grind
    · show lc 1 (xo (xj _ _)) 1 (xo (xj _ _)) = lc _ (xo w) 0 (xo w)
      rw [xo_xj, xo_xj]
      funext m
      show 1 * (-io n r (xo (xj _ _)) m) + 1 * (s n * xv (xj _ _) m - wg n s (xo (xj _ _)) m) = dt (n + 1) r s * xo w m + 0 * xo w m
      rw [xo_xj, xv_xj, xo_xj, sb_lc, io_lin, ng_lc, wg_lin]
      have h3 := ih (xo w) m
      show _ = (dt n r s + r n * s n) * xo w m + 0 * xo w m
      unfold lc
      grind
theorem ip_linl (n : Nat) : ∀ (x y : Int) (f g v : Ee), ip n (lc x f y g) v = x * ip n f v + y * ip n g v := by
  induction n with
  | zero => intro x y f g v; simp only [ip, lc]; grind
  | succ n ih =>
    intro x y f g v
    show ip n (lc x (xv f) y (xv g)) (xv v) + ip n (lc x (xo f) y (xo g)) (xo v) = x * (ip n (xv f) (xv v) + ip n (xo f) (xo v)) + y * (ip n (xv g) (xv v) + ip n (xo g) (xo v))
    rw [ih, ih]
    grind
theorem ip_comm (n : Nat) : ∀ (f g : Ee), ip n f g = ip n g f := by
  induction n with
  | zero => intro f g; exact Int.mul_comm _ _
  | succ n ih =>
    intro f g
    show _ + _ = _ + _
    rw [ih (xv f), ih (xo f)]
theorem ip_linr (n : Nat) (x y : Int) (f g v : Ee) : ip n v (lc x f y g) = x * ip n v f + y * ip n v g := by
  rw [ip_comm, ip_linl, ip_comm n f, ip_comm n g]
theorem sq_pos9 (x : Int) : 0 ≤ x * x := by
  rcases Int.le_total 0 x with h | h
  · exact Int.mul_nonneg h h
  · exact Int.mul_nonneg_of_nonpos_of_nonpos h h
theorem ip_pos (n : Nat) : ∀ (f : Ee), 0 ≤ ip n f f := by
  induction n with
  | zero => intro f; exact sq_pos9 (f 0)
  | succ n ih => intro f; exact Int.add_nonneg (ih _) (ih _)
theorem ip_adj (n : Nat) (r : Nat → Int) : ∀ (w v : Ee), ip n (wg n r w) v = ip n w (io n r v) := by
  induction n with
  | zero => intro w v; simp [ip, wg, io]
  | succ n ih =>
    intro w v
    show ip n (xv (xj _ _)) (xv v) + ip n (xo (xj _ _)) (xo v) = ip n (xv w) (xv (xj _ _)) + ip n (xo w) (xo (xj _ _))
    rw [xv_xj, xo_xj, xv_xj, xo_xj, sb_lc, ip_linl, ad_lc, ip_linr, ng_lc, ip_linr, ih, ih]
    grind
theorem ip_cs (n : Nat) (a b : Ee) : ip n a b * ip n a b ≤ ip n a a * ip n b b := by
  have key : ∀ x y : Int, 0 ≤ x * x * ip n a a + 2 * (x * y) * ip n a b + y * y * ip n b b := by
    intro x y
    have h := ip_pos n (lc x a y b)
    rw [ip_linl, ip_linr, ip_linr, ip_comm n b a] at h
    grind
  have hA := ip_pos n a
  have hB := ip_pos n b
  generalize ip n a a = A at *
  generalize ip n b b = B at *
  generalize ip n a b = C at *
  by_cases hB0 : B = 0
  · subst hB0
    by_cases hA0 : A = 0
    · subst hA0
      have k1 := key 1 1
      have k2 := key 1 (-1)
      have : C = 0 := by omega
      subst this; simp
    · have k := key C (-A)
      have e : C * C * A + 2 * (C * -A) * C + -A * -A * 0 = A * (0 - C * C) := by grind
      rw [e] at k
      have h2 := Int.nonneg_of_mul_nonneg_right k (show 0 < A by omega)
      omega
  · have k := key B (-C)
    have e : B * B * A + 2 * (B * -C) * C + -C * -C * B = B * (A * B - C * C) := by grind
    rw [e] at k
    have h2 := Int.nonneg_of_mul_nonneg_right k (show 0 < B by omega)
    omega
theorem ip_eq {n : Nat} {f g v : Ee} (h : f = g) : ip n f v = ip n g v := by rw [h]
theorem cl_norm (n : Nat) (r : Nat → Int) (w : Ee) : ip n (wg n r w) (wg n r w) + ip n (io n r w) (io n r w) = dt n r r * ip n w w := by
  rw [ip_adj]
  have h : lc 1 (io n r (wg n r w)) 1 (wg n r (io n r w)) = lc (dt n r r) w 0 w := by
    funext m
    have := cliff n r r w m
    unfold lc
    grind
  have h2 := congrArg (ip n w) h
  rw [ip_linr, ip_linr] at h2
  have h3 := ip_adj n r (io n r w) w
  rw [ip_comm n _ w] at h3
  rw [← h3]
  grind
theorem wg_norm (n : Nat) (r : Nat → Int) (w : Ee) : ip n (wg n r w) (wg n r w) ≤ dt n r r * ip n w w := by
  have h := cl_norm n r w
  have := ip_pos n (io n r w)
  omega
theorem io_norm (n : Nat) (r : Nat → Int) (w : Ee) : ip n (io n r w) (io n r w) ≤ dt n r r * ip n w w := by
  have h := cl_norm n r w
  have := ip_pos n (wg n r w)
  omega
def un (j : Nat) : Nat → Int := fun i => if i = j then 1 else 0
theorem dt_comm (n : Nat) (r s : Nat → Int) : dt n r s = dt n s r := by
  induction n with
  | zero => rfl
  | succ n ih => show _ + _ = _ + _; rw [ih, Int.mul_comm]
theorem dt_un0 {n j : Nat} (r : Nat → Int) (h : n ≤ j) : dt n r (un j) = 0 := by
  induction n with
  | zero => rfl
  | succ n ih =>
    show dt n r (un j) + r n * un j n = 0
    rw [ih (by omega)]; unfold un; rw [if_neg (by omega)]; simp
theorem dt_un {n j : Nat} (r : Nat → Int) (h : j < n) : dt n r (un j) = r j := by
  induction n with
  | zero => omega
  | succ n ih =>
    show dt n r (un j) + r n * un j n = r j
    by_cases e : j = n
    · subst e; rw [dt_un0 r (Nat.le_refl _)]; unfold un; rw [if_pos rfl]; simp
    · rw [ih (by omega)]; unfold un; rw [if_neg (by omega)]; simp
def o1 : Ee := fun m => if m = 0 then 1 else 0
theorem ip_zl (n : Nat) (v : Ee) : ip n (fun _ => 0) v = 0 := by
  have h : (fun _ => 0 : Ee) = lc 0 v 0 v := by funext m; simp [lc]
  rw [h, ip_linl]; omega
theorem ip_o1 (n : Nat) : ip n o1 o1 = 1 := by
  induction n with
  | zero => rfl
  | succ n ih =>
    have h1 : xv o1 = o1 := by
      funext m
      unfold xv o1
      by_cases h : m = 0
      · rw [if_pos h, if_pos (by omega)]
      · rw [if_neg h, if_neg (by omega)]
    have h2 : xo o1 = fun _ => 0 := by funext m; unfold xo o1; rw [if_neg (by omega)]
    show ip n (xv o1) (xv o1) + ip n (xo o1) (xo o1) = 1
    rw [h1, h2, ih, ip_zl]; rfl
/-- the product of the rows a 0 .. a (k - 1), and of the first k unit rows -/
def om (n : Nat) (a : Nat → Nat → Int) : Nat → Ee
  | 0 => o1
  | k + 1 => wg n (a k) (om n a k)
abbrev ep (n k : Nat) : Ee := om n un k
theorem om_cong {n k : Nat} {a b : Nat → Nat → Int} (h : ∀ i, i < k → a i = b i) : om n a k = om n b k := by
  induction k with
  | zero => rfl
  | succ k ih => show wg n (a k) _ = wg n (b k) _; rw [ih (fun i hi => h i (by omega)), h k (by omega)]
theorem io_o1 (n : Nat) (u : Nat → Int) : io n u o1 = fun _ => 0 := by
  induction n with
  | zero => rfl
  | succ n ih =>
    have h1 : xv o1 = o1 := by
      funext m
      unfold xv o1
      by_cases h : m = 0
      · rw [if_pos h, if_pos (by omega)]
      · rw [if_neg h, if_neg (by omega)]
    have h2 : xo o1 = fun _ => 0 := by funext m; unfold xo o1; rw [if_neg (by omega)]
    have h3 : io n u (fun _ => 0) = fun _ => 0 := by
      have e : (fun _ => 0 : Ee) = lc 0 o1 0 o1 := by funext m; simp [lc]
      rw [e, io_lin]; funext m; simp [lc]
    apply x_ext
    · show xv (xj _ _) = _
      rw [xv_xj, h1, ih, h2]
      funext m; simp [xv]
    · show xo (xj _ _) = _
      rw [xo_xj, h2, h3]
      funext m; simp [xo]
theorem wg_z (n : Nat) (r : Nat → Int) : wg n r (fun _ => 0) = fun _ => 0 := by
  have e : (fun _ => 0 : Ee) = lc 0 o1 0 o1 := by funext m; simp [lc]
  rw [e, wg_lin]; funext m; simp [lc]
theorem io_ep {n : Nat} {u : Nat → Int} : ∀ {k : Nat}, k ≤ n → (∀ c, c < k → u c = 0) → io n u (ep n k) = fun _ => 0 := by
  intro k
  induction k with
  | zero => intro _ _; exact io_o1 n u
  | succ k ih =>
    intro hk hu
    funext m
    have h1 := cliff n u (un k) (ep n k) m
    rw [ih (by omega) (fun c hc => hu c (by omega)), dt_un u (by omega), hu k (by omega), wg_z] at h1
    show io n u (wg n (un k) (ep n k)) m = 0
    have h2 : (fun _ => 0 : Ee) m = 0 := rfl
    rw [h2] at h1
    omega
/-- the pairing of u ∧ w with e_j ∧ ε_k -/
theorem pair_eq {n : Nat} (u : Nat → Int) (w : Ee) {j k : Nat} (hj : j < n) : ip n (wg n u w) (wg n (un j) (ep n k)) = u j * ip n w (ep n k) - ip n w (wg n (un j) (io n u (ep n k))) := by
  rw [ip_adj]
  have h : io n u (wg n (un j) (ep n k)) = lc (u j) (ep n k) (-1) (wg n (un j) (io n u (ep n k))) := by
    funext m
    have := cliff n u (un j) (ep n k) m
    rw [dt_un u hj] at this
    unfold lc
    grind
  rw [h, ip_linr]
  grind
theorem pair0 {n : Nat} {u : Nat → Int} {w : Ee} {j k : Nat} (hj : j < n) (hk : k ≤ n) (hu : ∀ c, c < k → u c = 0) : ip n (wg n u w) (wg n (un j) (ep n k)) = u j * ip n w (ep n k) := by
  rw [pair_eq u w hj, io_ep hk hu, wg_z, ip_comm n w (fun _ => 0), ip_zl]
  omega
theorem pair1 {n : Nat} {u : Nat → Int} {w : Ee} {i j k : Nat} {x : Int} (hj : j < n) (hk : k ≤ n) (hu : ∀ c, c < k → u c = if c = i then x else 0) : ip n (wg n u w) (wg n (un j) (ep n k)) = u j * ip n w (ep n k) - x * ip n w (wg n (un j) (io n (un i) (ep n k))) := by
  rw [pair_eq u w hj]
  have h : io n (lc 1 u (-x) (un i)) (ep n k) = fun _ => 0 := io_ep hk (fun c hc => by
    have := hu c hc
    unfold lc un
    rw [this]
    by_cases e : c = i
    · rw [if_pos e, if_pos e]; omega
    · rw [if_neg e, if_neg e]; omega)
  rw [io_vec] at h
  have h2 : io n u (ep n k) = lc x (io n (un i) (ep n k)) 0 o1 := by
    funext m
    have := congrFun h m
    unfold lc at this ⊢
    grind
  rw [h2, wg_lin, ip_linr]
  grind
theorem om_norm {n : Nat} {a : Nat → Nat → Int} {B : Int} (hB : 0 ≤ B) : ∀ (k : Nat), (∀ i, i < k → dt n (a i) (a i) ≤ B) → ip n (om n a k) (om n a k) ≤ B ^ k := by
  intro k
  induction k with
  | zero => intro _; show ip n o1 o1 ≤ B ^ 0; rw [ip_o1, Int.pow_zero]; exact Int.le_refl 1
  | succ k ih =>
    intro h
    have h1 := wg_norm n (a k) (om n a k)
    have h2 := ih (fun i hi => h i (by omega))
    have h3 := ip_pos n (om n a k)
    show ip n (wg n (a k) (om n a k)) (wg n (a k) (om n a k)) ≤ B ^ (k + 1)
    rw [Int.pow_succ, Int.mul_comm]
    exact Int.le_trans h1 (Int.le_trans (Int.mul_le_mul_of_nonneg_right (h k (by omega)) h3) (Int.mul_le_mul_of_nonneg_left h2 hB))
theorem dt_nn (n : Nat) (r : Nat → Int) : 0 ≤ dt n r r := by
  induction n with
  | zero => exact Int.le_refl 0
  | succ n ih => exact Int.add_nonneg ih (sq_pos9 _)
theorem dt_uu {n j : Nat} (h : j < n) : dt n (un j) (un j) = 1 := by
  rw [dt_un (un j) h]; exact if_pos rfl
theorem ep_norm {n : Nat} {k : Nat} (h : k ≤ n) : ip n (ep n k) (ep n k) ≤ 1 := by
  have := om_norm (n := n) (a := un) (B := 1) (by decide) k (fun i hi => by rw [dt_uu (by omega)]; exact Int.le_refl 1)
  rw [Int.one_pow] at this
  exact this
theorem wgu_norm {n j : Nat} (h : j < n) (w : Ee) : ip n (wg n (un j) w) (wg n (un j) w) ≤ ip n w w := by
  have := wg_norm n (un j) w
  rw [dt_uu h, Int.one_mul] at this
  exact this
theorem iou_norm {n j : Nat} (h : j < n) (w : Ee) : ip n (io n (un j) w) (io n (un j) w) ≤ ip n w w := by
  have := io_norm n (un j) w
  rw [dt_uu h, Int.one_mul] at this
  exact this
theorem cs_le {n : Nat} {a b : Ee} {S : Int} (h1 : ip n a a ≤ S) (h2 : ip n b b ≤ 1) (hS : 0 ≤ S) : ip n a b * ip n a b ≤ S := by
  have h := ip_cs n a b
  have h3 := Int.mul_le_mul_of_nonneg_left h2 (ip_pos n a)
  rw [Int.mul_one] at h3
  omega
def Kr (N rows : Nat) (M : Nat → Nat → Int) (v : Nat → Int) : Prop := ∀ i, i < rows → dt N (M i) v = 0
def Bz (N rows : Nat) (B : Int) (A : Nat → Nat → Int) (k : Nat) (M : Nat → Nat → Int) (D : Int) : Prop :=
  ∃ a : Nat → Nat → Int, (∀ i, i < rows → dt N (a i) (a i) ≤ B) ∧ (D ≠ 0 ∧ ip N (om N a k) (ep N k) = D) ∧
    (∀ i, k ≤ i → i < rows → (∀ c, c < k → M i c = 0) ∧ ∀ m, wg N (M i) (om N a k) m = D * wg N (a i) (om N a k) m) ∧
    (∀ i, i < k → (∀ c, c < k → M i c = if c = i then D else 0) ∧ ∀ m, wg N (M i) (om N a k) m = 0) ∧
    (∀ i j, k ≤ i → i < rows → j < N → M i j * M i j ≤ B ^ (k + 1)) ∧ (∀ i j, i < k → j < N → M i j * M i j ≤ B ^ k) ∧
    (∀ v, Kr N rows M v ↔ Kr N rows A v) ∧ k ≤ rows ∧ k ≤ N
theorem dt_cong {n : Nat} {r r' s s' : Nat → Int} (h : ∀ i, i < n → r i = r' i) (h2 : ∀ i, i < n → s i = s' i) : dt n r s = dt n r' s' := by
  induction n with
  | zero => rfl
  | succ n ih => show _ + _ = _ + _; rw [ih (fun i hi => h i (by omega)) (fun i hi => h2 i (by omega)), h n (by omega), h2 n (by omega)]
theorem dt_lin (n : Nat) (x y : Int) (f g v : Nat → Int) : dt n (lc x f y g) v = x * dt n f v + y * dt n g v := by
  induction n with
  | zero => simp [dt]
  | succ n ih => show dt n (lc x f y g) v + (x * f n + y * g n) * v n = x * (dt n f v + f n * v n) + y * (dt n g v + g n * v n); rw [ih]; grind
theorem sq_1 {x : Int} (h1 : -1 ≤ x) (h2 : x ≤ 1) : x * x ≤ 1 := by
  have : x = -1 ∨ x = 0 ∨ x = 1 := by omega
  rcases this with rfl | rfl | rfl <;> decide
theorem dt_le {n : Nat} {r : Nat → Int} (h : ∀ j, j < n → -1 ≤ r j ∧ r j ≤ 1) : dt n r r ≤ n := by
  induction n with
  | zero => exact Int.le_refl 0
  | succ n ih =>
    have h1 := ih (fun j hj => h j (by omega))
    have h2 := sq_1 (h n (by omega)).1 (h n (by omega)).2
    show dt n r r + r n * r n ≤ _
    omega
theorem bz_0 {N rows : Nat} {A : Nat → Nat → Int} (h : ∀ i j, i < rows → j < N → -1 ≤ A i j ∧ A i j ≤ 1) (hN : 1 ≤ N) : Bz N rows N A 0 A 1 := by
  refine ⟨A, fun i hi => dt_le (fun j hj => h i j hi hj), ⟨by decide, ip_o1 N⟩, fun i _ _ => ⟨fun c hc => absurd hc (by omega), fun m => (Int.one_mul _).symm⟩, fun i hi => absurd hi (by omega), fun i j _ hi hj => ?_, fun i j hi => absurd hi (by omega), fun v => Iff.rfl, Nat.zero_le _, Nat.zero_le _⟩
  have := sq_1 (h i j hi hj).1 (h i j hi hj).2
  rw [Int.pow_succ, Int.pow_zero]
  omega
def sw9 {α : Type} (f : Nat → α) (k p i : Nat) : α := if i = k then f p else if i = p then f k else f i
theorem sw9_k {α : Type} (f : Nat → α) (k p : Nat) : sw9 f k p k = f p := if_pos rfl
theorem sw9_low {α : Type} {f : Nat → α} {k p i : Nat} (h : i < k) (hp : k ≤ p) : sw9 f k p i = f i := by
  unfold sw9; rw [if_neg (by omega), if_neg (by omega)]
theorem bz_swap {N rows k p : Nat} {B D : Int} {A M : Nat → Nat → Int} (h : Bz N rows B A k M D) (hk : k < rows) (hp : k ≤ p) (hpr : p < rows) : Bz N rows B A k (sw9 M k p) D := by
  obtain ⟨a, h1, h2, h3, h4, h5, h6, h7, h8, h9⟩ := h
  have eo : om N (sw9 a k p) k = om N a k := om_cong (fun i hi => sw9_low hi hp)
  have hx : ∀ i, k ≤ i → i < rows → ∃ q, k ≤ q ∧ q < rows ∧ (sw9 M k p i = M q ∧ sw9 a k p i = a q) := by
    intro i hi hr
    unfold sw9
    by_cases e : i = k
    · exact ⟨p, hp, hpr, by rw [if_pos e], by rw [if_pos e]⟩
    · by_cases e2 : i = p
      · exact ⟨k, Nat.le_refl k, hk, by rw [if_neg e, if_pos e2], by rw [if_neg e, if_pos e2]⟩
      · exact ⟨i, hi, hr, by rw [if_neg e, if_neg e2], by rw [if_neg e, if_neg e2]⟩
  refine ⟨sw9 a k p, fun i hi => ?_, by rw [eo]; exact h2, fun i hi hr => ?_, fun i hi => ?_, fun i j hi hr hj => ?_, fun i j hi hj => ?_, fun v => ?_, h8, h9⟩
  · by_cases hik : k ≤ i
    · obtain ⟨q, _, q2, _, q4⟩ := hx i hik hi
      rw [q4]; exact h1 q q2
    · rw [sw9_low (by omega) hp]; exact h1 i hi
  · obtain ⟨q, q1, q2, q3, q4⟩ := hx i hi hr
    rw [q3, q4, eo]; exact h3 q q1 q2
  · rw [sw9_low hi hp, eo]; exact h4 i hi
  · obtain ⟨q, q1, q2, q3, _⟩ := hx i hi hr
    rw [q3]; exact h5 q j q1 q2 hj
  · rw [sw9_low hi hp]; exact h6 i j hi hj
  · rw [← h7 v]
    refine ⟨fun q i hi => ?_, fun q i hi => ?_⟩
    · by_cases e : i = k
      · have := q p hpr
        unfold sw9 at this
        by_cases e2 : p = k
        · rw [if_pos e2] at this; rw [e, ← e2]; exact this
        · rw [if_neg e2, if_pos rfl] at this; rw [e]; exact this
      · by_cases e2 : i = p
        · have := q k hk
          rw [sw9_k] at this
          rw [e2]; exact this
        · have := q i hi
          unfold sw9 at this
          rw [if_neg e, if_neg e2] at this; exact this
    · unfold sw9
      by_cases e : i = k
      · rw [if_pos e]; exact q p hpr
      · rw [if_neg e]
        by_cases e2 : i = p
        · rw [if_pos e2]; exact q k hk
        · rw [if_neg e2]; exact q i hi
theorem bz_clear {N rows k : Nat} {B D : Int} {A M M' : Nat → Nat → Int} (hB : 0 ≤ B) (h : Bz N rows B A k M D) (hk : k < rows) (hkN : k < N) (hne : M k k ≠ 0) (hM : ∀ i j, i < rows → j < N → M' i j = if i = k then M k j else (M k k * M i j - M i k * M k j).tdiv D) : Bz N rows B A (k + 1) M' (M k k) := by
  obtain ⟨a, h1, ⟨hD, h2⟩, h3, h4, h5, h6, h7, h8, h9⟩ := h
  have e1 : ∀ m, om N a (k + 1) m = wg N (a k) (om N a k) m := fun _ => rfl
  have hk3 := h3 k (Nat.le_refl k) hk
  -- the new leading minor
  have hDp : ip N (om N a (k + 1)) (ep N (k + 1)) = M k k := by
    have q1 := pair0 (n := N) (u := M k) (w := om N a k) (j := k) (k := k) hkN h9 hk3.1
    have q2 : wg N (M k) (om N a k) = lc D (om N a (k + 1)) 0 o1 := by funext m; rw [hk3.2 m]; unfold lc; rw [e1]; grind
    rw [q2, ip_linl, h2] at q1
    have q3 : D * ip N (om N a (k + 1)) (ep N (k + 1)) = D * M k k := by
      show D * ip N (om N a (k + 1)) (wg N (un k) (ep N k)) = D * M k k
      grind
    exact Int.eq_of_mul_eq_mul_left hD q3
  -- rows against the new product
  have w1 : ∀ m, wg N (M k) (om N a (k + 1)) m = 0 := by
    intro m
    show wg N (M k) (wg N (a k) (om N a k)) m = 0
    rw [wg_anti]
    have q2 : wg N (M k) (om N a k) = lc D (wg N (a k) (om N a k)) 0 o1 := by funext m; rw [hk3.2 m]; unfold lc; grind
    rw [q2, wg_lin]
    unfold lc
    rw [wg_self]
    grind
  have w2 : ∀ i, k ≤ i → i < rows → ∀ m, wg N (M i) (om N a (k + 1)) m = D * wg N (a i) (om N a (k + 1)) m := by
    intro i hi hr m
    show wg N (M i) (wg N (a k) (om N a k)) m = D * wg N (a i) (wg N (a k) (om N a k)) m
    rw [wg_anti]
    have q2 : wg N (M i) (om N a k) = lc D (wg N (a i) (om N a k)) 0 o1 := by funext m; rw [(h3 i hi hr).2 m]; unfold lc; grind
    rw [q2, wg_lin, wg_anti N (a i) (a k)]
    unfold lc
    grind
  have w3 : ∀ i, i < k → ∀ m, wg N (M i) (om N a (k + 1)) m = 0 := by
    intro i hi m
    show wg N (M i) (wg N (a k) (om N a k)) m = 0
    rw [wg_anti]
    have q2 : wg N (M i) (om N a k) = fun _ => 0 := by funext m; exact (h4 i hi).2 m
    rw [q2, wg_z]
    rfl
  -- the rows before the division
  have c1 : ∀ i, k < i → i < rows → (∀ c, c < k + 1 → lc (M k k) (M i) (-(M i k)) (M k) c = 0) ∧ ∀ m, wg N (lc (M k k) (M i) (-(M i k)) (M k)) (om N a (k + 1)) m = M k k * D * wg N (a i) (om N a (k + 1)) m := by
    intro i hi hr
    refine ⟨fun c hc => ?_, fun m => ?_⟩
    · unfold lc
      by_cases e : c = k
      · subst e; grind
      · rw [(h3 i (by omega) hr).1 c (by omega), hk3.1 c (by omega)]; omega
    · rw [wg_vec]
      unfold lc
      rw [w1 m, w2 i (by omega) hr m]
      grind
  have c2 : ∀ i, i < k → (∀ c, c < k + 1 → lc (M k k) (M i) (-(M i k)) (M k) c = if c = i then M k k * D else 0) ∧ ∀ m, wg N (lc (M k k) (M i) (-(M i k)) (M k)) (om N a (k + 1)) m = 0 := by
    intro i hi
    refine ⟨fun c hc => ?_, fun m => ?_⟩
    · unfold lc
      by_cases e : c = k
      · subst e; rw [if_neg (by omega)]; grind
      · rw [(h4 i hi).1 c (by omega), hk3.1 c (by omega)]
        by_cases e2 : c = i
        · rw [if_pos e2, if_pos e2]; omega
        · rw [if_neg e2, if_neg e2]; omega
    · rw [wg_vec]
      unfold lc
      rw [w1 m, w3 i hi m]
      omega
  have t1 : ∀ i j, k < i → i < rows → j < N → lc (M k k) (M i) (-(M i k)) (M k) j = D * ip N (wg N (a i) (om N a (k + 1))) (wg N (un j) (ep N (k + 1))) := by
    intro i j hi hr hj
    have q1 := pair0 (n := N) (w := om N a (k + 1)) (j := j) (k := k + 1) hj (by omega) (c1 i hi hr).1
    have q2 : wg N (lc (M k k) (M i) (-(M i k)) (M k)) (om N a (k + 1)) = lc (M k k * D) (wg N (a i) (om N a (k + 1))) 0 o1 := by funext m; rw [(c1 i hi hr).2 m]; show _ = _ * _ + 0 * _; omega
    rw [q2, ip_linl, hDp] at q1
    have q3 : M k k * lc (M k k) (M i) (-(M i k)) (M k) j = M k k * (D * ip N (wg N (a i) (om N a (k + 1))) (wg N (un j) (ep N (k + 1)))) := by grind
    exact Int.eq_of_mul_eq_mul_left hne q3
  have t2 : ∀ i j, i < k → j < N → lc (M k k) (M i) (-(M i k)) (M k) j = D * ip N (om N a (k + 1)) (wg N (un j) (io N (un i) (ep N (k + 1)))) := by
    intro i j hi hj
    have q1 := pair1 (n := N) (w := om N a (k + 1)) (i := i) (j := j) (k := k + 1) hj (by omega) (c2 i hi).1
    have q2 : wg N (lc (M k k) (M i) (-(M i k)) (M k)) (om N a (k + 1)) = fun _ => 0 := by funext m; exact (c2 i hi).2 m
    rw [q2, ip_zl, hDp] at q1
    have q3 : M k k * lc (M k k) (M i) (-(M i k)) (M k) j = M k k * (D * ip N (om N a (k + 1)) (wg N (un j) (io N (un i) (ep N (k + 1))))) := by grind
    exact Int.eq_of_mul_eq_mul_left hne q3
  have ew : ∀ i j, lc (M k k) (M i) (-(M i k)) (M k) j = M k k * M i j - M i k * M k j := by intro i j; unfold lc; grind
  have m0 : ∀ j, j < N → M' k j = M k j := fun j hj => by rw [hM k j hk hj, if_pos rfl]
  have m1 : ∀ i j, k < i → i < rows → j < N → M' i j = ip N (wg N (a i) (om N a (k + 1))) (wg N (un j) (ep N (k + 1))) := by
    intro i j hi hr hj
    rw [hM i j hr hj, if_neg (by omega), ← ew, t1 i j hi hr hj, Int.mul_tdiv_cancel_left _ hD]
  have m2 : ∀ i j, i < k → j < N → M' i j = ip N (om N a (k + 1)) (wg N (un j) (io N (un i) (ep N (k + 1)))) := by
    intro i j hi hj
    rw [hM i j (by omega) hj, if_neg (by omega), ← ew, t2 i j hi hj, Int.mul_tdiv_cancel_left _ hD]
  have d1 : ∀ i, i ≠ k → i < rows → ∀ j, j < N → D * M' i j = lc (M k k) (M i) (-(M i k)) (M k) j := by
    intro i hi hr j hj
    by_cases e : i < k
    · rw [m2 i j e hj, t2 i j e hj]
    · rw [m1 i j (by omega) hr hj, t1 i j (by omega) hr hj]
  have g1 : ∀ i, i ≠ k → i < rows → ∀ m, D * wg N (M' i) (om N a (k + 1)) m = wg N (lc (M k k) (M i) (-(M i k)) (M k)) (om N a (k + 1)) m := by
    intro i hi hr m
    have q := wg_cong (n := N) (r := lc D (M' i) 0 (M' i)) (s := lc (M k k) (M i) (-(M i k)) (M k)) (fun j hj => by rw [← d1 i hi hr j hj]; unfold lc; omega) (om N a (k + 1))
    rw [← q, wg_vec]
    unfold lc
    omega
  have hom := om_norm (n := N) (a := a) hB (k + 1) (fun i hi => h1 i (by omega))
  have hBk : 0 ≤ B ^ (k + 1) := Int.pow_nonneg hB
  refine ⟨a, h1, ⟨hne, hDp⟩, fun i hi hr => ⟨fun c hc => ?_, fun m => ?_⟩, fun i hi => ?_, fun i j hi hr hj => ?_, fun i j hi hj => ?_, fun v => ?_, by omega, by omega⟩
  · have q := d1 i (by omega) hr c (by omega)
    rw [(c1 i (by omega) hr).1 c hc] at q
    exact (Int.mul_eq_zero.mp q).resolve_left hD
  · have q := g1 i (by omega) hr m
    rw [(c1 i (by omega) hr).2 m] at q
    exact Int.eq_of_mul_eq_mul_left hD (by rw [q]; grind)
  · by_cases e : i = k
    · subst e
      refine ⟨fun c hc => ?_, fun m => ?_⟩
      · rw [m0 c (by omega)]
        by_cases e2 : c = i
        · rw [if_pos e2, e2]
        · rw [if_neg e2]; exact hk3.1 c (by omega)
      · rw [wg_cong (n := N) (s := M i) (fun j hj => m0 j hj)]; exact w1 m
    · refine ⟨fun c hc => ?_, fun m => ?_⟩
      · have q := d1 i e (by omega) c (by omega)
        rw [(c2 i (by omega)).1 c hc] at q
        by_cases e2 : c = i
        · rw [if_pos e2] at q ⊢
          exact Int.eq_of_mul_eq_mul_left hD (by rw [q]; grind)
        · rw [if_neg e2] at q ⊢
          exact (Int.mul_eq_zero.mp q).resolve_left hD
      · have q := g1 i e (by omega) m
        rw [(c2 i (by omega)).2 m] at q
        exact (Int.mul_eq_zero.mp q).resolve_left hD
  · rw [m1 i j (by omega) hr hj]
    refine cs_le ?_ (Int.le_trans (wgu_norm hj _) (ep_norm (by omega))) (Int.pow_nonneg hB)
    rw [Int.pow_succ, Int.mul_comm]
    exact Int.le_trans (wg_norm N (a i) _) (Int.le_trans (Int.mul_le_mul_of_nonneg_right (h1 i hr) (ip_pos N _)) (Int.mul_le_mul_of_nonneg_left hom hB))
  · by_cases e : i = k
    · subst e
      rw [m0 j hj]; exact h5 i j (Nat.le_refl i) hk hj
    · rw [m2 i j (by omega) hj]
      exact cs_le hom (Int.le_trans (wgu_norm hj _) (Int.le_trans (iou_norm (by omega) _) (ep_norm (by omega)))) hBk
  · rw [← h7 v]
    have dk : dt N (M' k) v = dt N (M k) v := dt_cong (fun j hj => m0 j hj) (fun _ _ => rfl)
    have di : ∀ i, i ≠ k → i < rows → D * dt N (M' i) v = M k k * dt N (M i) v + -(M i k) * dt N (M k) v := by
      intro i hi hr
      have q := dt_cong (n := N) (r := lc D (M' i) 0 (M' i)) (r' := lc (M k k) (M i) (-(M i k)) (M k)) (s := v) (s' := v) (fun j hj => by rw [← d1 i hi hr j hj]; unfold lc; omega) (fun _ _ => rfl)
      rw [dt_lin, dt_lin] at q
      omega
    refine ⟨fun q i hi => ?_, fun q i hi => ?_⟩
    · have qk := q k hk
      rw [dk] at qk
      by_cases e : i = k
      · rw [e]; exact qk
      · have := di i e hi
        rw [q i hi, qk] at this
        have z : M k k * dt N (M i) v = 0 := by omega
        exact (Int.mul_eq_zero.mp z).resolve_left hne
    · by_cases e : i = k
      · rw [e, dk]; exact q k hk
      · have := di i e hi
        rw [q i hi, q k hk] at this
        have z : D * dt N (M' i) v = 0 := by omega
        exact (Int.mul_eq_zero.mp z).resolve_left hD
