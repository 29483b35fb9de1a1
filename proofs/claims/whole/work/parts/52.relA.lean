/-! CLASS AND REFERENCE TOGETHER: what holds between the calls -/
def Rr (a b : Int32) (f g : Nat → Int32) (n : Nat) : Prop := a = nI n ∧ b = nI n ∧ Mk f n ∧ g = f
def Rs (f g : Nat → Int32) (n : Nat) : Prop := g = f ∧ Sc f n
def Rd (r m q : Nat → Int32) (n : Nat) : Prop := ∀ i, i < n → ((m i = 0 ∧ r i = q i) ∨ (m i = nI 1 ∧ r i = nI 1073741824)) ∧ (-500000000 ≤ (q i).toInt ∧ (q i).toInt ≤ 500000000)
def Rp (k1 k2 l1 l2 : Int32) (e1 e2 : Nat → Int32) : Prop := k2 = k1 ∧ (k1 = -1 ∨ ((k1 = nI 0 ∨ k1 = nI 1 ∨ k1 = nI 2 ∨ k1 = nI 3) ∧ ∃ l, l ≤ 60 ∧ l1 = nI l ∧ l2 = nI l ∧ ∀ i, i < 60 → e2 i = rdF e1 l i))
def Rb (t : Int32) (d u : Int64) (b c : Nat → Int64) (f : Nat → Int32) (n : Nat) : Prop := (t = nI 0 ∧ u = 0) ∨ (t = nI 1 ∧ n ≤ 14 ∧ Und f n ∧ d = cD f n ∧ u = cD f n ∧ ∀ j, j < n → b j = cB f n j ∧ c j = cB f n j)
def Rt (s1 s2 : Int32) (r t : Nat → Int32) : Prop := (s1 = nI 0 ∧ s2 = -1) ∨ ∃ s, 0 < s ∧ s ≤ 32 ∧ s1 = nI s ∧ s2 = nI s ∧ ∀ i, i < s → (∀ j, s ≤ j → bt (r i) j = false) ∧ ∀ j, j < s → t (32 * i + j) = sgF (r i) j
def Rq (t1 t2 : Int32) (g1 g2 : Nat → Int32) : Prop := ∃ t, t < 2 ^ 31 ∧ t1 = nI t ∧ t2 = nI t ∧ ∀ j, j < 4 * min t 200 → g2 j = g1 j
def Rl (μ : Mm) (n : Nat) : Prop := 1 ≤ n ∧ n ≤ 60 ∧ Rr (μ.1 1 2) (μ.1 33 0) (μ.1 7) (μ.1 34) n ∧ Rs (μ.1 8) (μ.1 35) n ∧ Rd (μ.1 9) (μ.1 37) (μ.1 36) n ∧ μ.1 33 14 = μ.1 0 5 ∧ Rp (μ.1 2 1) (μ.1 33 5) (μ.1 2 2) (μ.1 33 6) (μ.1 11) (μ.1 38) ∧ Rb (μ.1 3 4) (μ.2 3 3) (μ.2 33 8) (μ.2 27) (μ.2 39) (μ.1 7) n ∧ Rt (μ.1 5 1) (μ.1 33 10) (μ.1 32) (μ.1 40) ∧ Rq (μ.1 4 3) (μ.1 33 13) (μ.1 31) (μ.1 41)
def Rel (μ : Mm) : Prop := ∃ n, Rl μ n
def BI (Mc Mr : Mb) (as : List Value) (μ : Mm) : Prop := ∃ (x : Int32) (μ1 μ2 : Mm) (a b : Nat), a ≤ 6 ∧ b ≤ 6 ∧ Ok Mc (rmL a) (.ref 0 :: as) μ (some (.int x), μ1) ∧ Ok Mr (rmL b) (.ref 33 :: as) μ1 (some (.int x), μ2) ∧ Rel μ2
def BL (Mc Mr : Mb) (as : List Value) (μ : Mm) : Prop := ∃ (x : Int64) (μ1 μ2 : Mm) (a b : Nat), a ≤ 6 ∧ b ≤ 6 ∧ Ok Mc (rmL a) (.ref 0 :: as) μ (some (.long x), μ1) ∧ Ok Mr (rmL b) (.ref 33 :: as) μ1 (some (.long x), μ2) ∧ Rel μ2
theorem BI.mk {Mc Mr : Mb} {as : List Value} {μ μ1 μ2 : Mm} {x : Int32} {a b : Nat} (h1 : Ok Mc (rmL a) (.ref 0 :: as) μ (some (.int x), μ1)) (h2 : Ok Mr (rmL b) (.ref 33 :: as) μ1 (some (.int x), μ2)) (h3 : Rel μ2) (ha : a ≤ 6 := by decide) (hb : b ≤ 6 := by decide) : BI Mc Mr as μ := ⟨x, μ1, μ2, a, b, ha, hb, h1, h2, h3⟩
theorem BL.mk {Mc Mr : Mb} {as : List Value} {μ μ1 μ2 : Mm} {x : Int64} {a b : Nat} (h1 : Ok Mc (rmL a) (.ref 0 :: as) μ (some (.long x), μ1)) (h2 : Ok Mr (rmL b) (.ref 33 :: as) μ1 (some (.long x), μ2)) (h3 : Rel μ2) (ha : a ≤ 6 := by decide) (hb : b ≤ 6 := by decide) : BL Mc Mr as μ := ⟨x, μ1, μ2, a, b, ha, hb, h1, h2, h3⟩
theorem Ok.toI {M : Mb} {rm : Room} {as : List Value} {μ μ' : Mm} {x y : Int32} (h : Ok M rm as μ (some (.int x), μ')) (e : x = y) : Ok M rm as μ (some (.int y), μ') := e ▸ h
theorem Ok.toL {M : Mb} {rm : Room} {as : List Value} {μ μ' : Mm} {x y : Int64} (h : Ok M rm as μ (some (.long x), μ')) (e : x = y) : Ok M rm as μ (some (.long y), μ') := e ▸ h
/-- refused: the fault alone -/
theorem rel_no {μ : Mm} {n : Nat} (h : Rl μ n) (f : Int32) : Rel (sI (sI (sI μ 0 5 f) 33 14 0) 33 14 f) := by
  obtain ⟨h1, h2, h3, h4, h5, h6, h7, h8, h9, h10⟩ := h
  exact ⟨n, h1, h2, h3, h4, h5, rfl, h7, h8, h9, h10⟩
theorem rel_ok {μ : Mm} {n : Nat} (h : Rl μ n) : Rel (sI (sI μ 0 5 0) 33 14 0) := by
  obtain ⟨h1, h2, h3, h4, h5, h6, h7, h8, h9, h10⟩ := h
  exact ⟨n, h1, h2, h3, h4, h5, rfl, h7, h8, h9, h10⟩
theorem nat9 {a : Int32} (h : 0 ≤ a.toInt) : ∃ k : Nat, a = nI k ∧ (k : Int) = a.toInt := by
  have := fb_rng a
  refine ⟨a.toInt.toNat, i32_ext ?_, by omega⟩
  rw [nI_toInt (by omega)]; omega
theorem fil_cg {α : Type} {f f' g g' : Nat → α} {n : Nat} (h1 : f = f') (h2 : ∀ j, j < n → g j = g' j) : fil f g n = fil f' g' n := by
  subst h1
  funext j
  by_cases c : j < n
  · rw [fil_in c, fil_in c, h2 j c]
  · rw [fil_out (by omega), fil_out (by omega)]
theorem Rd0 {r m q : Nat → Int32} {n : Nat} (hn : n ≤ 60) : Rd (fil r (fun _ => 0) 60) (fil m (fun _ => 0) 60) (fil q (fun _ => 0) 60) n := by
  intro i hi
  rw [fil_in (by omega), fil_in (by omega), fil_in (by omega)]
  exact ⟨Or.inl ⟨rfl, rfl⟩, by decide⟩
theorem Sc0 {f : Nat → Int32} {n : Nat} (hn : n ≤ 60) : Sc (fil f (fun _ => 0) 60) n := Or.inl (fun i hi => by rw [fil_in (by omega)]; decide)
theorem e_ring (μ : Mm) (h : Rel μ) (a : Int32) : BI mX5_ring mX6_ring [.int a] μ := by
  obtain ⟨n, h⟩ := h
  by_cases c : a.toInt < 1 ∨ 60 < a.toInt
  · exact BI.mk (c_ring_no μ a c) (d_ring_no _ a c) (rel_no h _)
  · obtain ⟨k, rfl, hk⟩ := nat9 (a := a) (by omega)
    obtain ⟨h1, h2, h3, h4, h5, h6, h7, h8, h9, h10⟩ := h
    have k1 : 1 ≤ k := by omega
    have k60 : k ≤ 60 := by omega
    refine BI.mk (c_ring_ok μ k1 k60) (d_ring_ok _ k1 k60) ⟨k, k1, k60, ⟨rfl, rfl, ?_, ?_⟩, ⟨?_, Sc0 k60⟩, Rd0 k60, rfl, h7, Or.inl ⟨rfl, rfl⟩, h9, h10⟩
    · show Mk (fil (μ.1 7) (fun _ => 0) 60) k
      intro i hi
      rw [fil_in (by omega)]; decide
    · show fil (μ.1 34) (fun _ => 0) 60 = fil (μ.1 7) (fun _ => 0) 60
      rw [h3.2.2.2]
    · show fil (μ.1 35) (fun _ => 0) 60 = fil (μ.1 8) (fun _ => 0) 60
      rw [h4.1]
theorem shF_0 {k m : Int32} (h : shF k m = 0) : (k = nI 0 ∨ k = nI 1 ∨ k = nI 2 ∨ k = nI 3) ∧ ∃ l, l ≤ 60 ∧ (if k = 3 then 0 else m) = nI l := by
  unfold shF at h
  by_cases c1 : k < 0 ∨ 3 < k
  · rw [if_pos c1] at h; exact absurd h (by decide)
  · rw [if_neg c1] at h
    rw [fa_lt, fa_lt] at c1
    have z3 : (3 : Int32).toInt = 3 := rfl
    have z0 : (0 : Int32).toInt = 0 := rfl
    obtain ⟨q, rfl, hq⟩ := nat9 (a := k) (by omega)
    have hk : nI q = nI 0 ∨ nI q = nI 1 ∨ nI q = nI 2 ∨ nI q = nI 3 := by
      rcases (show q = 0 ∨ q = 1 ∨ q = 2 ∨ q = 3 by omega) with rfl | rfl | rfl | rfl
      · exact Or.inl rfl
      · exact Or.inr (Or.inl rfl)
      · exact Or.inr (Or.inr (Or.inl rfl))
      · exact Or.inr (Or.inr (Or.inr rfl))
    refine ⟨hk, ?_⟩
    by_cases c2 : nI q = 3
    · rw [if_pos c2]; exact ⟨0, by decide, rfl⟩
    · rw [if_neg c2] at h ⊢
      by_cases c3 : 60 < m
      · rw [if_pos c3] at h; exact absurd h (by decide)
      · rw [if_neg c3] at h
        by_cases c4 : m < 0
        · rw [if_pos c4] at h; exact absurd h (by decide)
        · rw [fa_lt] at c3 c4
          have z60 : (60 : Int32).toInt = 60 := rfl
          obtain ⟨l, rfl, hl⟩ := nat9 (a := m) (by omega)
          exact ⟨l, by omega, rfl⟩
theorem e_sheet (μ : Mm) (h : Rel μ) (k m : Int32) : BI mX5_sheet mX6_sheet [.int k, .int m] μ := by
  obtain ⟨n, h⟩ := h
  by_cases c : shF k m = 0
  · obtain ⟨h1, h2, h3, h4, h5, h6, h7, h8, h9, h10⟩ := h
    obtain ⟨q1, l, q2, q3⟩ := shF_0 c
    refine BI.mk (c_sheet_ok μ k m c) (d_sheet_ok _ k m c) ⟨n, h1, h2, h3, h4, h5, rfl, ⟨rfl, Or.inr ⟨q1, l, q2, q3, q3, ?_⟩⟩, h8, h9, h10⟩
    intro i hi
    show fil (μ.1 38) (fun _ => 0) 60 i = rdF (fil (μ.1 11) (fun _ => 0) 60) l i
    unfold rdF
    rw [fil_in hi, fil_in hi, ite_self]
  · exact BI.mk (c_sheet_no μ k m c) (d_sheet_no _ k m c) (rel_no h _)
theorem e_entry (μ : Mm) (h : Rel μ) (i v : Int32) : BI mX5_entry mX6_entry [.int i, .int v] μ := by
  obtain ⟨n, h⟩ := h
  have h' := h
  obtain ⟨h1, h2, h3, h4, h5, h6, h7, h8, h9, h10⟩ := h
  obtain ⟨p1, p2⟩ := h7
  by_cases c : μ.1 2 1 = -1 ∨ μ.1 2 1 = nI 3
  · exact BI.mk (c_entry_no2 μ i v c) (d_entry_no2 (sI μ 0 5 (nI 2)) i v (by show μ.1 33 5 = -1 ∨ μ.1 33 5 = nI 3; rw [p1]; exact c)) (rel_no h' _)
  · have c1 : μ.1 2 1 ≠ -1 := fun e => c (Or.inl e)
    have c3 : μ.1 2 1 ≠ nI 3 := fun e => c (Or.inr e)
    have g1 : μ.1 33 5 ≠ -1 := by rw [p1]; exact c1
    have g3 : μ.1 33 5 ≠ nI 3 := by rw [p1]; exact c3
    obtain ⟨q0, l, q1, q2, q3, q4⟩ := p2.resolve_left c1
    by_cases d : i < 0 ∨ μ.1 2 2 ≤ i
    · exact BI.mk (c_entry_no1 μ i v c1 c3 d) (d_entry_no1 (sI μ 0 5 (nI 1)) i v g1 g3 (by show i < 0 ∨ μ.1 33 6 ≤ i; rw [q3, ← q2]; exact d)) (rel_no h' _)
    · rw [fa_lt, fa_le, q2, nI_toInt (by omega)] at d
      have z0 : (0 : Int32).toInt = 0 := rfl
      obtain ⟨j, rfl, hj⟩ := nat9 (a := i) (by omega)
      have hjl : j < l := by omega
      refine BI.mk (c_entry_ok μ v c1 c3 q2 q1 hjl) (d_entry_ok (sI (sI μ 0 5 0) 11 j (cutF (μ.1 2 1) v)) v g1 g3 q3 q1 hjl) ⟨n, h1, h2, h3, h4, h5, rfl, ⟨p1, Or.inr ⟨q0, l, q1, q2, q3, ?_⟩⟩, h8, h9, h10⟩
      intro t ht
      show upd (μ.1 38) j (cutG (μ.1 33 5) v) t = rdF (upd (μ.1 11) j (cutF (μ.1 2 1) v)) l t
      have hk : μ.1 2 1 = nI 0 ∨ μ.1 2 1 = nI 1 ∨ μ.1 2 1 = nI 2 := by
        rcases q0 with e | e | e | e
        · exact Or.inl e
        · exact Or.inr (Or.inl e)
        · exact Or.inr (Or.inr e)
        · exact absurd e c3
      rw [p1, cutG_eq hk]
      have q4 := q4 t ht
      unfold rdF upd at *
      by_cases e : t = j
      · rw [if_pos e, if_pos (by omega), if_pos e]
      · rw [if_neg e, if_neg e]; exact q4
theorem lim_0 {v : Int32} (h : fitP 0 v) : -1 ≤ v.toInt ∧ v.toInt ≤ 1 := by
  obtain ⟨a, b⟩ := h
  rw [fa_le] at a b
  exact ⟨a, b⟩
theorem lim_1 {v : Int32} (h : fitP 1 v) : -1000 ≤ v.toInt ∧ v.toInt ≤ 1000 := by
  obtain ⟨a, b⟩ := h
  rw [fa_le] at a b
  exact ⟨a, b⟩
theorem lim_2 {v : Int32} (h : fitP 2 v) : -1000000 ≤ v.toInt ∧ v.toInt ≤ 1000000 := by
  obtain ⟨a, b⟩ := h
  rw [fa_le] at a b
  exact ⟨a, b⟩
theorem w_of {a : Int32} (h : ¬ (a.toInt < 0 ∨ 2 < a.toInt)) : ∃ w, a = nI w ∧ w < 3 := by
  obtain ⟨k, e, hk⟩ := nat9 (a := a) (by omega)
  exact ⟨k, e, by omega⟩
theorem e_lay (μ : Mm) (h : Rel μ) (a : Int32) : BI mX5_lay mX6_lay [.int a] μ := by
  obtain ⟨n, h⟩ := h
  have h' := h
  obtain ⟨h1, h2, h3, h4, h5, h6, h7, h8, h9, h10⟩ := h
  obtain ⟨p1, p2⟩ := h7
  by_cases c : a.toInt < 0 ∨ 2 < a.toInt
  · exact BI.mk (c_lay_no μ a (by decide) (c_layFault_1 μ a c)) (d_lay_no1 _ a c) (rel_no h' _)
  · obtain ⟨w, rfl, hw⟩ := w_of c
    by_cases ck : μ.1 2 1 = -1
    · exact BI.mk (c_lay_no μ (nI w) (by decide) (c_layFault_2 μ hw ck)) (d_lay_no2 (sI μ 0 5 (nI 2)) hw (by show μ.1 33 5 = -1; rw [p1]; exact ck)) (rel_no h' _)
    · obtain ⟨q0, l, q1, q2, q3, q4⟩ := p2.resolve_left ck
      have gk : μ.1 33 5 ≠ -1 := by rw [p1]; exact ck
      have hL := c_layFault_3 μ h3.1 h2 hw q2 q1 ck
      by_cases cf : ∀ i, i < n → fitP w (rdF (μ.1 11) l i)
      · have hC := c_lay_ok μ h3.1 h2 hw q2 q1 ck cf
        have gf : ∀ j, j < n → fitP w (μ.1 38 j) := fun j hj => by rw [q4 j (by omega)]; exact cf j hj
        rcases (show w = 0 ∨ w = 1 ∨ w = 2 by omega) with rfl | rfl | rfl
        · have hD := d_lay (layM (sR (sI μ 0 5 0) (7 + 0) (fil (μ.1 (7 + 0)) (rdF (μ.1 11) l) n)) 0) (w := 0) (n := n) h3.2.1 h2 hw gk
          rw [if_pos (show ∀ j, j < n → fitP 0 ((layM (sR (sI μ 0 5 0) (7 + 0) (fil (μ.1 (7 + 0)) (rdF (μ.1 11) l) n)) 0).1 38 j) from gf)] at hD
          have em : ∀ μ9 : Mm, ptM μ9 0 (μ9.1 38) n = sL (sR μ9 34 (fil (μ9.1 34) (μ9.1 38) n)) 33 8 0 := fun μ9 => (if_pos rfl).trans (if_neg (by omega))
          have hD2 := hD.to (R' := (some (.int (nI 1)), sI (sL (sR (sI (layM (sR (sI μ 0 5 0) (7 + 0) (fil (μ.1 (7 + 0)) (rdF (μ.1 11) l) n)) 0) 33 14 0) 34 (fil (μ.1 34) (μ.1 38) n)) 33 8 0) 33 5 (-1))) (congrArg (fun z => (some (Value.int (nI 1)), sI z 33 5 (-1))) (em (sI (layM (sR (sI μ 0 5 0) (7 + 0) (fil (μ.1 (7 + 0)) (rdF (μ.1 11) l) n)) 0) 33 14 0)))
          refine BI.mk hC hD2 ⟨n, h1, h2, ⟨h3.1, h3.2.1, ?_, ?_⟩, h4, h5, rfl, ⟨rfl, Or.inl rfl⟩, Or.inl ⟨rfl, rfl⟩, h9, h10⟩
          · show Mk (fil (μ.1 7) (rdF (μ.1 11) l) n) n
            intro i hi
            rw [fil_in hi]; exact lim_0 (cf i hi)
          · show fil (μ.1 34) (μ.1 38) n = fil (μ.1 7) (rdF (μ.1 11) l) n
            exact fil_cg h3.2.2.2 (fun j hj => q4 j (by omega))
        · have hD := d_lay (layM (sR (sI μ 0 5 0) (7 + 1) (fil (μ.1 (7 + 1)) (rdF (μ.1 11) l) n)) 1) (w := 1) (n := n) h3.2.1 h2 hw gk
          rw [if_pos (show ∀ j, j < n → fitP 1 ((layM (sR (sI μ 0 5 0) (7 + 1) (fil (μ.1 (7 + 1)) (rdF (μ.1 11) l) n)) 1).1 38 j) from gf)] at hD
          refine BI.mk hC hD ⟨n, h1, h2, h3, ⟨?_, Or.inl ?_⟩, h5, rfl, ⟨rfl, Or.inl rfl⟩, h8, h9, h10⟩
          · show fil (μ.1 35) (μ.1 38) n = fil (μ.1 8) (rdF (μ.1 11) l) n
            exact fil_cg h4.1 (fun j hj => q4 j (by omega))
          · intro i hi
            show -1000 ≤ (fil (μ.1 8) (rdF (μ.1 11) l) n i).toInt ∧ (fil (μ.1 8) (rdF (μ.1 11) l) n i).toInt ≤ 1000
            rw [fil_in hi]; exact lim_1 (cf i hi)
        · have hD := d_lay (layM (sR (sI μ 0 5 0) (7 + 2) (fil (μ.1 (7 + 2)) (rdF (μ.1 11) l) n)) 2) (w := 2) (n := n) h3.2.1 h2 hw gk
          rw [if_pos (show ∀ j, j < n → fitP 2 ((layM (sR (sI μ 0 5 0) (7 + 2) (fil (μ.1 (7 + 2)) (rdF (μ.1 11) l) n)) 2).1 38 j) from gf)] at hD
          refine BI.mk hC hD ⟨n, h1, h2, h3, h4, ?_, rfl, ⟨rfl, Or.inl rfl⟩, h8, h9, h10⟩
          show Rd (fil (μ.1 9) (rdF (μ.1 11) l) n) (fil (μ.1 37) (fun _ => 0) n) (fil (μ.1 36) (μ.1 38) n) n
          intro i hi
          rw [fil_in hi, fil_in hi, fil_in hi, q4 i (by omega)]
          have := lim_2 (cf i hi)
          exact ⟨Or.inl ⟨rfl, rfl⟩, by omega⟩
      · rw [if_neg cf] at hL
        have hD := d_lay (sI μ 0 5 (nI 1)) (w := w) (n := n) h3.2.1 h2 hw gk
        rw [if_neg (show ¬ ∀ j, j < n → fitP w ((sI μ 0 5 (nI 1)).1 38 j) from fun g => cf (fun i hi => by rw [← q4 i (by omega)]; exact g i hi))] at hD
        exact BI.mk (c_lay_no μ (nI w) (by decide) hL) hD (rel_no h' _)
theorem upd_in {f : Nat → Int32} {j : Nat} {x : Int32} : upd f j x j = x := if_pos rfl
theorem upd_ne {f : Nat → Int32} {i j : Nat} {x : Int32} (h : i ≠ j) : upd f j x i = f i := if_neg h
theorem e_set (μ : Mm) (h : Rel μ) (a b v : Int32) : BI mX5_set mX6_set [.int a, .int b, .int v] μ := by
  obtain ⟨n, h⟩ := h
  have h' := h
  obtain ⟨h1, h2, h3, h4, h5, h6, h7, h8, h9, h10⟩ := h
  by_cases c : 0 ≤ a.toInt ∧ a.toInt ≤ 2 ∧ 0 ≤ b.toInt ∧ b.toInt < (nI n).toInt ∧ fitP a.toNatClampNeg v
  · obtain ⟨c1, c2, c3, c4, c5⟩ := c
    obtain ⟨w, rfl, hw⟩ := nat9 c1
    obtain ⟨j, rfl, hj⟩ := nat9 c3
    rw [← hj, nI_toInt (n := n) (by omega)] at c4
    have hw3 : w < 3 := by omega
    rw [nI_clamp (by omega)] at c5
    have hjn : j < n := by omega
    have hC := c_set_ok μ v h3.1 h2 hw3 hjn c5
    rcases (show w = 0 ∨ w = 1 ∨ w = 2 by omega) with rfl | rfl | rfl
    · refine BI.mk hC (d_set_ok (setM μ 0 j v) v h3.2.1 h2 hw3 hjn c5) ⟨n, h1, h2, ⟨h3.1, h3.2.1, ?_, ?_⟩, h4, h5, rfl, h7, Or.inl ⟨rfl, rfl⟩, h9, h10⟩
      · show Mk (upd (μ.1 7) j v) n
        intro i hi
        by_cases e : i = j
        · rw [e, upd_in]; exact lim_0 c5
        · rw [upd_ne e]; exact h3.2.2.1 i hi
      · show upd (μ.1 34) j v = upd (μ.1 7) j v
        rw [h3.2.2.2]
    · refine BI.mk hC (d_set_ok (setM μ 1 j v) v h3.2.1 h2 hw3 hjn c5) ⟨n, h1, h2, h3, ⟨?_, ?_⟩, h5, rfl, h7, h8, h9, h10⟩
      · show upd (μ.1 35) j v = upd (μ.1 8) j v
        rw [h4.1]
      · show Sc (upd (μ.1 8) j v) n
        have l1 := lim_1 c5
        rcases h4.2 with q | ⟨q0, q⟩
        · refine Or.inl (fun i hi => ?_)
          by_cases e : i = j
          · rw [e, upd_in]; exact l1
          · rw [upd_ne e]; exact q i hi
        · refine Or.inr ⟨q0, fun i hi => ?_⟩
          by_cases e : i = j
          · rw [e, upd_in]; omega
          · rw [upd_ne e]; exact q i hi
    · refine BI.mk hC (d_set_ok (setM μ 2 j v) v h3.2.1 h2 hw3 hjn c5) ⟨n, h1, h2, h3, h4, ?_, rfl, h7, h8, h9, h10⟩
      show Rd (upd (μ.1 9) j v) (upd (μ.1 37) j 0) (upd (μ.1 36) j v) n
      intro i hi
      by_cases e : i = j
      · rw [e, upd_in, upd_in, upd_in]
        have := lim_2 c5
        exact ⟨Or.inl ⟨rfl, rfl⟩, by omega⟩
      · rw [upd_ne e, upd_ne e, upd_ne e]; exact h5 i hi
  · exact BI.mk (c_set_no μ a b v h3.1 c) (d_set_no (sI μ 0 5 (nI 1)) a b v h3.2.1 c) (rel_no h' _)
theorem in_of {a : Int32} {n : Nat} (hn : n ≤ 60) (h : 0 ≤ a.toInt ∧ a.toInt < (nI n).toInt) : ∃ j, a = nI j ∧ j < n := by
  obtain ⟨j, e, hj⟩ := nat9 h.1
  have := h.2
  rw [nI_toInt (by omega)] at this
  exact ⟨j, e, by omega⟩
theorem e_miss (μ : Mm) (h : Rel μ) (a : Int32) : BI mX5_miss mX6_miss [.int a] μ := by
  obtain ⟨n, h⟩ := h
  have h' := h
  obtain ⟨h1, h2, h3, h4, h5, h6, h7, h8, h9, h10⟩ := h
  by_cases c : 0 ≤ a.toInt ∧ a.toInt < (nI n).toInt
  · obtain ⟨j, rfl, hj⟩ := in_of h2 c
    refine BI.mk (c_miss_ok μ h3.1 h2 hj) (d_miss_ok (sI (sI μ 0 5 0) 9 j (nI 1073741824)) h3.2.1 h2 hj) ⟨n, h1, h2, h3, h4, ?_, rfl, h7, h8, h9, h10⟩
    show Rd (upd (μ.1 9) j (nI 1073741824)) (upd (μ.1 37) j (nI 1)) (μ.1 36) n
    intro i hi
    by_cases e : i = j
    · rw [e, upd_in, upd_in]
      exact ⟨Or.inr ⟨rfl, rfl⟩, (h5 j hj).2⟩
    · rw [upd_ne e, upd_ne e]; exact h5 i hi
  · exact BI.mk (c_miss_no μ a h3.1 c) (d_miss_no (sI μ 0 5 (nI 1)) a h3.2.1 c) (rel_no h' _)
theorem e_shadow (μ : Mm) (h : Rel μ) (a : Int32) : BI mX5_shadow mX6_shadow [.int a] μ := by
  obtain ⟨n, h⟩ := h
  have h' := h
  obtain ⟨h1, h2, h3, h4, h5, h6, h7, h8, h9, h10⟩ := h
  by_cases c : 0 ≤ a.toInt ∧ a.toInt < (nI n).toInt
  · obtain ⟨j, rfl, hj⟩ := in_of h2 c
    exact BI.mk (c_shadow_ok μ h3.1 h2 hj) ((d_shadow_ok (sI μ 0 5 0) h3.2.1 h2 hj).toI (by show thr (μ.1 34) (μ.1 35) n j n = _; rw [h3.2.2.2, h4.1])) (rel_ok h')
  · exact BI.mk (c_shadow_no μ a h3.1 c) (d_shadow_no (sI μ 0 5 (nI 1)) a h3.2.1 c) (rel_no h' _)
theorem e_meets (μ : Mm) (h : Rel μ) (a : Int32) : BI mX5_meets mX6_meets [.int a] μ := by
  obtain ⟨n, h⟩ := h
  have h' := h
  obtain ⟨h1, h2, h3, h4, h5, h6, h7, h8, h9, h10⟩ := h
  by_cases c : 0 ≤ a.toInt ∧ a.toInt < (nI n).toInt
  · obtain ⟨j, rfl, hj⟩ := in_of h2 c
    exact BI.mk (c_meets_ok μ h3.1 h2 hj) ((d_meets_ok (sI μ 0 5 0) h3.2.1 h2 hj).toI (by show thr (μ.1 34) (μ.1 34) n j n = _; rw [h3.2.2.2])) (rel_ok h')
  · exact BI.mk (c_meets_no μ a h3.1 c) (d_meets_no (sI μ 0 5 (nI 1)) a h3.2.1 c) (rel_no h' _)
theorem e_off (μ : Mm) (h : Rel μ) : BI mX5_off mX6_off [] μ := by
  obtain ⟨n, h⟩ := h
  have h' := h
  obtain ⟨h1, h2, h3, h4, h5, h6, h7, h8, h9, h10⟩ := h
  exact BI.mk (c_off μ h3.1 h2) ((d_off (sI μ 0 5 0) h3.2.1 h2).toI (by show offF (μ.1 34) n = _; rw [h3.2.2.2])) (rel_ok h')
theorem e_fault (μ : Mm) (h : Rel μ) : BI mX5_fault mX6_fault [] μ := by
  obtain ⟨n, h⟩ := h
  exact BI.mk (c_fault μ) ((d_fault μ).toI h.2.2.2.2.2.1) ⟨n, h⟩
theorem e_cast (μ : Mm) (h : Rel μ) : BI mX5_cast mX6_cast [] μ := by
  obtain ⟨n, h⟩ := h
  obtain ⟨h1, h2, h3, h4, h5, h6, h7, h8, h9, h10⟩ := h
  refine BI.mk (c_cast μ h3.1 h2) (d_cast (sR (sI μ 0 5 0) 9 (fil (μ.1 9) (fun s => thr (μ.1 7) (μ.1 8) n s n) n)) h3.2.1 h2) ⟨n, h1, h2, h3, h4, ?_, rfl, h7, h8, h9, h10⟩
  show Rd (fil (μ.1 9) (fun s => thr (μ.1 7) (μ.1 8) n s n) n) (fil (μ.1 37) (fun _ => 0) n) (fil (μ.1 36) (fun s => thr (μ.1 34) (μ.1 35) n s n) n) n
  intro i hi
  rw [fil_in hi, fil_in hi, fil_in hi, h3.2.2.2, h4.1]
  exact ⟨Or.inl ⟨rfl, rfl⟩, thr_bd h2 h1 h3.2.2.1 h4.2⟩
theorem e_turn (μ : Mm) (h : Rel μ) (k : Int32) : BI mX5_turn mX6_turn [.int k] μ := by
  obtain ⟨n, h⟩ := h
  obtain ⟨h1, h2, h3, h4, h5, h6, h7, h8, h9, h10⟩ := h
  refine BI.mk (c_turn μ k h3.1 h1 h2) (d_turn (sI (sR (sR (sI μ 0 5 0) 10 (fil (μ.1 10) (fun i => μ.1 7 ((i + modN k n) % n)) n)) 7 (fil (μ.1 7) (fun i => μ.1 7 ((i + modN k n) % n)) n)) 3 4 0) k h3.2.1 h1 h2) ⟨n, h1, h2, ⟨h3.1, h3.2.1, ?_, ?_⟩, h4, h5, rfl, h7, Or.inl ⟨rfl, rfl⟩, h9, h10⟩
  · show Mk (fil (μ.1 7) (fun i => μ.1 7 ((i + modN k n) % n)) n) n
    intro i hi
    rw [fil_in hi]; exact h3.2.2.1 _ (Nat.mod_lt _ h1)
  · show fil (μ.1 34) (fun i => μ.1 34 ((i + modN k n) % n)) n = fil (μ.1 7) (fun i => μ.1 7 ((i + modN k n) % n)) n
    rw [h3.2.2.2]
theorem cnt_0 {p : Nat → Bool} {n : Nat} : fa_cnt p n = 0 ↔ ∀ j, j < n → p j = false := by
  induction n with
  | zero => exact ⟨fun _ j hj => absurd hj (by omega), fun _ => rfl⟩
  | succ n ih =>
    show fa_cnt p n + (if p n then 1 else 0) = 0 ↔ _
    constructor
    · intro h j hj
      by_cases c : p n = true
      · rw [if_pos c] at h; omega
      · by_cases e : j = n
        · rw [e]; exact Bool.eq_false_iff.mpr c
        · exact ih.mp (by omega) j (by omega)
    · intro h
      rw [ih.mpr (fun j hj => h j (by omega)), h n (by omega)]; rfl
theorem neg_iff {x : Int32} (h : -1 ≤ x.toInt ∧ x.toInt ≤ 1) : x < 0 ↔ x = -1 := by
  rw [fa_lt, fa_eq, tm1, t0]; omega
theorem e_anti (μ : Mm) (h : Rel μ) : BI mX5_anti mX6_anti [] μ := by
  obtain ⟨n, h⟩ := h
  have h' := h
  obtain ⟨h1, h2, h3, h4, h5, h6, h7, h8, h9, h10⟩ := h
  by_cases c : fa_cnt (fun i => decide (μ.1 7 i = -1)) n = 0
  · have hz := cnt_0.mp c
    have hz2 : ∀ j, j < n → ¬ μ.1 7 j < 0 := fun j hj q => by
      have := hz j hj
      rw [decide_eq_true ((neg_iff (h3.2.2.1 j hj)).mp q)] at this
      cases this
    refine BI.mk (c_anti_ok μ h3.1 h2 c) (d_anti_ok (sI (sR (sI μ 0 5 0) 7 (fil (μ.1 7) (fun i => nI 1 - μ.1 7 i) n)) 3 4 0) h3.2.1 h2 (by
      show ∀ j, j < n → ¬ μ.1 34 j < 0
      rw [h3.2.2.2]; exact hz2)) ⟨n, h1, h2, ⟨h3.1, h3.2.1, ?_, ?_⟩, h4, h5, rfl, h7, Or.inl ⟨rfl, rfl⟩, h9, h10⟩
    · show Mk (fil (μ.1 7) (fun i => nI 1 - μ.1 7 i) n) n
      intro i hi
      rw [fil_in hi]
      have q1 := h3.2.2.1 i hi
      have q2 := hz2 i hi
      rw [fa_lt, t0] at q2
      rw [fb_subI (by rw [nt1]; omega) (by rw [nt1]; omega), nt1]
      omega
    · show fil (μ.1 34) (fun i => nI 1 - μ.1 34 i) n = fil (μ.1 7) (fun i => nI 1 - μ.1 7 i) n
      rw [h3.2.2.2]
  · refine BI.mk (c_anti_no μ h3.1 h2 (by omega)) (d_anti_no (sI μ 0 5 (nI 1)) h3.2.1 h2 ?_) (rel_no h' _)
    show ∃ j, j < n ∧ μ.1 34 j < 0
    rw [h3.2.2.2]
    apply Classical.byContradiction
    intro q
    apply c
    refine cnt_0.mpr (fun j hj => decide_eq_false (fun e => q ⟨j, hj, ?_⟩))
    exact (neg_iff (h3.2.2.1 j hj)).mpr e
theorem e_count (μ : Mm) (h : Rel μ) (a : Int32) : BI mX5_count mX6_count [.int a] μ := by
  obtain ⟨n, h⟩ := h
  have h' := h
  obtain ⟨h1, h2, h3, h4, h5, h6, h7, h8, h9, h10⟩ := h
  by_cases c : a.toInt < 0 ∨ 7 < a.toInt
  · exact BI.mk (c_count_no μ a c) (d_count_no _ a c) (rel_no h' _)
  · obtain ⟨k, rfl, hk⟩ := nat9 (a := a) (by omega)
    rcases (show k = 0 ∨ k = 1 ∨ k = 2 ∨ k = 3 ∨ k = 4 ∨ k = 5 ∨ k = 6 ∨ k = 7 by omega) with rfl | rfl | rfl | rfl | rfl | rfl | rfl | rfl
    · exact BI.mk (c_count_0 μ) ((d_count_0 (sI μ 0 5 0)).toI (by show μ.1 33 0 = μ.1 1 2; rw [h3.1, h3.2.1])) (rel_ok h')
    · exact BI.mk (c_count_1 μ h3.1 h2) ((d_count_1 (sI μ 0 5 0) h3.2.1 h2).toI (by show nI (fa_cnt (fun i => decide (μ.1 34 i = nI 1)) n) = _; rw [h3.2.2.2])) (rel_ok h')
    · exact BI.mk (c_count_2 μ h3.1 h2) ((d_count_2 (sI μ 0 5 0) h3.2.1 h2).toI (by show nI (fa_cnt (fun i => decide (μ.1 34 i = -1)) n) = _; rw [h3.2.2.2])) (rel_ok h')
    · refine BI.mk (c_count_3 μ h3.1 h2) ((d_count_3 (sI μ 0 5 0) h3.2.1 h2).toI ?_) (rel_ok h')
      show nI (fa_cnt (fun i => decide (μ.1 37 i ≠ 0)) n) = nI (fa_cnt (fun i => decide (μ.1 9 i = nI 1073741824)) n)
      congr 1
      refine fa_cnt_cong (fun i hi => decide_eq_decide.mpr ?_)
      obtain ⟨q, q2⟩ := h5 i hi
      rcases q with ⟨e1, e2⟩ | ⟨e1, e2⟩
      · rw [e1, e2]
        exact ⟨fun z => absurd rfl z, fun z => by rw [z, nt1073741824] at q2; omega⟩
      · rw [e1, e2]
        exact ⟨fun _ => rfl, fun _ => by decide⟩
    · exact BI.mk (c_count_4 μ h3.1 h2) ((d_count_4 (sI μ 0 5 0) h3.2.1 h2).toI (bI_iff (by show offF (μ.1 34) n = -1 ↔ offF (μ.1 7) n = -1; rw [h3.2.2.2]))) (rel_ok h')
    · refine BI.mk (c_count_5 μ) ((d_count_5 (sI μ 0 5 0)).toI ?_) (rel_ok h')
      show μ.1 33 10 = if μ.1 5 1 = 0 then -1 else μ.1 5 1
      rcases h9 with ⟨e1, e2⟩ | ⟨s, s0, s32, e1, e2, -⟩
      · rw [e1, e2]; rfl
      · rw [e1, e2, if_neg (nI_ne0 s0 (by omega))]
    · refine BI.mk (c_count_6 μ) ((d_count_6 (sI μ 0 5 0)).toI ?_) (rel_ok h')
      show (if μ.1 33 5 = -1 then -1 else μ.1 33 6) = if μ.1 2 1 = -1 then -1 else μ.1 2 2
      rw [h7.1]
      by_cases e : μ.1 2 1 = -1
      · rw [if_pos e, if_pos e]
      · obtain ⟨-, l, -, q2, q3, -⟩ := h7.2.resolve_left e
        rw [if_neg e, if_neg e, q2, q3]
    · refine BI.mk (c_count_7 μ) ((d_count_7 (sI μ 0 5 0)).toI ?_) (rel_ok h')
      show μ.1 33 13 = μ.1 4 3
      obtain ⟨t, -, e1, e2, -⟩ := h10
      rw [e1, e2]
