/-! HoleMask$Paper, the small methods of HoleMask, Math.floorMod, Circle.turnMask -/
/-- k by n, going round -/
def modN (k : Int32) (n : Nat) : Nat := (k.toInt % (n : Int)).toNat
theorem modN_lt {k : Int32} {n : Nat} (h : 0 < n) : modN k n < n := by
  have := Int.emod_lt_of_pos k.toInt (show (0 : Int) < n by omega)
  unfold modN; omega
theorem c_refuses0 (μ : Mm) : Ok mX5_refuses (rmL 0) [.ref 0, .int (nI 0)] μ (some (.int (nI 0)), sI μ 0 5 0) := by
  refine Ok.of (by decide) (Nat.le_of_ble_eq_true rfl) [some (.ref 0), some (.int (nI 0))] rfl ?_
  refine g_aload_n 0 _ dX5_refuses_0 rfl rfl ?_
  refine g_iload_n 1 _ dX5_refuses_1 rfl rfl ?_
  refine gp_X5_44 rfl dX5_refuses_2 ?_
  refine g_iload_n 1 _ dX5_refuses_5 rfl rfl ?_
  refine g_if_eqN 13 (by omega) dX5_refuses_6 (by decide) (fun h6 => ?_) (fun h6 => ?_)
  · refine g_iconst (nI 0) dX5_refuses_13 rfl ?_
    exact g_ireturn dX5_refuses_14 rfl rfl rfl
  · exact absurd h6 (by omega)
theorem c_refuses1 (μ : Mm) {f : Int32} (hf : f ≠ 0) : Ok mX5_refuses (rmL 0) [.ref 0, .int f] μ (some (.int (nI 1)), sI μ 0 5 f) := by
  refine Ok.of (by decide) (Nat.le_of_ble_eq_true rfl) [some (.ref 0), some (.int f)] rfl ?_
  refine g_aload_n 0 _ dX5_refuses_0 rfl rfl ?_
  refine g_iload_n 1 _ dX5_refuses_1 rfl rfl ?_
  refine gp_X5_44 rfl dX5_refuses_2 ?_
  refine g_iload_n 1 _ dX5_refuses_5 rfl rfl ?_
  refine g_if_eq 13 dX5_refuses_6 (by decide) (fun h6 => ?_) (fun h6 => ?_)
  · exact absurd h6 hf
  · refine g_iconst (nI 1) dX5_refuses_9 rfl ?_
    refine g_goto 14 dX5_refuses_10 (by decide) ?_
    exact g_ireturn dX5_refuses_14 rfl rfl rfl
theorem c_startRing (μ : Mm) (p : Int32) : Ok mX5_startRing (rmL 2) [.ref 0, .int p] μ (none, sI (stM μ p) 3 4 0) := by
  refine Ok.of (by decide) (Nat.le_of_ble_eq_true rfl) [some (.ref 0), some (.int p)] rfl ?_
  refine g_aload_n 0 _ dX5_startRing_0 rfl rfl ?_
  refine gf_X5_10 rfl dX5_startRing_1 ?_
  refine g_iload_n 1 _ dX5_startRing_4 rfl rfl ?_
  refine g_backv (g_runVN (c_start μ p) rfl mw_X1_start mi_X1_start mn_X5_227 isO_1 ⟨rfl, rfl, Nat.le_of_ble_eq_true rfl, Nat.le_of_ble_eq_true rfl⟩ rfl rfl (Nat.le_of_ble_eq_true rfl) dX5_startRing_5) ?_
  refine g_aload_n 0 _ dX5_startRing_8 rfl rfl ?_
  refine gf_X5_26 rfl dX5_startRing_9 ?_
  refine g_iconst (nI 0) dX5_startRing_12 rfl ?_
  refine g_at 13 rfl ?_
  refine gp_X5_138 rfl rfl rfl dX5_startRing_13 ?_
  exact g_return dX5_startRing_16 rfl rfl
theorem c_forget0 (μ : Mm) : Ok mX5_forgetBackOf (rmL 0) [.ref 0, .int (nI 0)] μ (none, sI μ 3 4 0) := by
  refine Ok.of (by decide) (Nat.le_of_ble_eq_true rfl) [some (.ref 0), some (.int (nI 0))] rfl ?_
  refine g_iload_n 1 _ dX5_forgetBackOf_0 rfl rfl ?_
  refine g_if_neN 12 (by omega) dX5_forgetBackOf_1 (by decide) (fun h1 => ?_) (fun h1 => ?_)
  · exact absurd h1 (by omega)
  · refine g_aload_n 0 _ dX5_forgetBackOf_4 rfl rfl ?_
    refine gf_X5_26 rfl dX5_forgetBackOf_5 ?_
    refine g_iconst (nI 0) dX5_forgetBackOf_8 rfl ?_
    refine gp_X5_138 rfl rfl rfl dX5_forgetBackOf_9 ?_
    exact g_return dX5_forgetBackOf_12 rfl rfl
theorem c_forget1 (μ : Mm) {w : Nat} (hw : 0 < w) (hw2 : w < 3) : Ok mX5_forgetBackOf (rmL 0) [.ref 0, .int (nI w)] μ (none, μ) := by
  refine Ok.of (by decide) (Nat.le_of_ble_eq_true rfl) [some (.ref 0), some (.int (nI w))] rfl ?_
  refine g_iload_n 1 _ dX5_forgetBackOf_0 rfl rfl ?_
  refine g_if_neN 12 (by omega) dX5_forgetBackOf_1 (by decide) (fun h1 => ?_) (fun h1 => ?_)
  · exact g_return dX5_forgetBackOf_12 rfl rfl
  · exact absurd h1 (by omega)
def shF (k m : Int32) : Int32 := if k < 0 ∨ 3 < k then 1 else if k = 3 then 0 else if 60 < m then 1 else if m < 0 then 4 else 0
theorem c_sheetFault (μ : Mm) (k m : Int32) : Ok mX5_sheetFault (rmL 0) [.int k, .int m] μ (some (.int (shF k m)), μ) := by
  refine Ok.of (by decide) (Nat.le_of_ble_eq_true rfl) [some (.int k), some (.int m)] rfl ?_
  have e3 : (nI 3).toInt = 3 := rfl
  have e60 : (nI 60).toInt = 60 := rfl
  have f3 : (3 : Int32).toInt = 3 := rfl
  have f60 : (60 : Int32).toInt = 60 := rfl
  refine g_iload_n 0 _ dX5_sheetFault_0 rfl rfl ?_
  refine g_if_lt 9 dX5_sheetFault_1 (by decide) (fun h1 => ?_) (fun h1 => ?_)
  · refine g_iconst (nI 1) dX5_sheetFault_9 rfl ?_
    exact g_ireturn dX5_sheetFault_10 rfl rfl (by (try unfold shF); (try unfold bI); (repeat' split) <;> first | rfl | (exfalso; simp only [ne_eq, fa_lt, fa_le, fa_eq, t0, t1, t2, tm1] at *; omega))
  · refine g_iload_n 0 _ dX5_sheetFault_4 rfl rfl ?_
    refine g_iconst (nI 3) dX5_sheetFault_5 rfl ?_
    refine g_icmp_le 11 dX5_sheetFault_6 (by decide) (fun h6 => ?_) (fun h6 => ?_)
    · refine g_iload_n 0 _ dX5_sheetFault_11 rfl rfl ?_
      refine g_iconst (nI 3) dX5_sheetFault_12 rfl ?_
      refine g_icmp_ne 18 dX5_sheetFault_13 (by decide) (fun h13 => ?_) (fun h13 => ?_)
      · refine g_iload_n 1 _ dX5_sheetFault_18 rfl rfl ?_
        refine g_bipush (nI 60) dX5_sheetFault_19 rfl ?_
        refine g_icmp_le 26 dX5_sheetFault_21 (by decide) (fun h21 => ?_) (fun h21 => ?_)
        · refine g_iload_n 1 _ dX5_sheetFault_26 rfl rfl ?_
          refine g_if_ge 34 dX5_sheetFault_27 (by decide) (fun h27 => ?_) (fun h27 => ?_)
          · refine g_iconst (nI 0) dX5_sheetFault_34 rfl ?_
            exact g_ireturn dX5_sheetFault_35 rfl rfl (by (try unfold shF); (try unfold bI); (repeat' split) <;> first | rfl | (exfalso; simp only [ne_eq, fa_lt, fa_le, fa_eq, t0, t1, t2, tm1] at *; omega))
          · refine g_iconst (nI 4) dX5_sheetFault_30 rfl ?_
            refine g_goto 35 dX5_sheetFault_31 (by decide) ?_
            exact g_ireturn dX5_sheetFault_35 rfl rfl (by (try unfold shF); (try unfold bI); (repeat' split) <;> first | rfl | (exfalso; simp only [ne_eq, fa_lt, fa_le, fa_eq, t0, t1, t2, tm1] at *; omega))
        · refine g_iconst (nI 1) dX5_sheetFault_24 rfl ?_
          exact g_ireturn dX5_sheetFault_25 rfl rfl (by (try unfold shF); (try unfold bI); (repeat' split) <;> first | rfl | (exfalso; simp only [ne_eq, fa_lt, fa_le, fa_eq, t0, t1, t2, tm1] at *; omega))
      · refine g_iconst (nI 0) dX5_sheetFault_16 rfl ?_
        exact g_ireturn dX5_sheetFault_17 rfl rfl (by (try unfold shF); (try unfold bI); (repeat' split) <;> first | rfl | (exfalso; simp only [ne_eq, fa_lt, fa_le, fa_eq, t0, t1, t2, tm1] at *; omega))
    · refine g_iconst (nI 1) dX5_sheetFault_9 rfl ?_
      exact g_ireturn dX5_sheetFault_10 rfl rfl (by (try unfold shF); (try unfold bI); (repeat' split) <;> first | rfl | (exfalso; simp only [ne_eq, fa_lt, fa_le, fa_eq, t0, t1, t2, tm1] at *; omega))
theorem c_smallRing (μ : Mm) {n : Nat} (hn : μ.1 1 2 = nI n) (h60 : n ≤ 60) : Ok mX5_smallRingFault (rmL 0) [.ref 0] μ (some (.int (if 14 < n then nI 1 else nI 0)), μ) := by
  refine Ok.of (by decide) (Nat.le_of_ble_eq_true rfl) [some (.ref 0)] rfl ?_
  refine g_aload_n 0 _ dX5_smallRingFault_0 rfl rfl ?_
  refine gf_X5_10 rfl dX5_smallRingFault_1 ?_
  refine gf_X5_77 rfl dX5_smallRingFault_4 ?_
  refine g_top (w := .int (nI n)) (congrArg Value.int hn) ?_
  refine g_bipush (nI 14) dX5_smallRingFault_7 rfl ?_
  refine g_icmp_leN 16 (by omega) (by omega) dX5_smallRingFault_9 (by decide) (fun h9 => ?_) (fun h9 => ?_)
  · refine g_iconst (nI 0) dX5_smallRingFault_16 rfl ?_
    exact g_ireturn dX5_smallRingFault_17 rfl rfl (by split <;> first | rfl | (exfalso; omega))
  · refine g_iconst (nI 1) dX5_smallRingFault_12 rfl ?_
    refine g_goto 17 dX5_smallRingFault_13 (by decide) ?_
    exact g_ireturn dX5_smallRingFault_17 rfl rfl (by split <;> first | rfl | (exfalso; omega))
theorem c_take (μ : Mm) (k m : Int32) : Ok mX3_take (rmL 1) [.ref 2, .int k, .int m] μ (none, sR (sI (sI μ 2 1 k) 2 2 m) 11 (fil (μ.1 11) (fun _ => 0) 60)) := by
  refine Ok.of (by decide) (Nat.le_of_ble_eq_true rfl) [some (.ref 2), some (.int k), some (.int m)] rfl ?_
  refine g_aload_n 0 _ dX3_take_0 rfl rfl ?_
  refine g_iload_n 1 _ dX3_take_1 rfl rfl ?_
  refine gp_X3_15 rfl dX3_take_2 ?_
  refine g_aload_n 0 _ dX3_take_5 rfl rfl ?_
  refine g_iload_n 2 _ dX3_take_6 rfl rfl ?_
  refine gp_X3_19 rfl dX3_take_7 ?_
  refine g_aload_n 0 _ dX3_take_10 rfl rfl ?_
  refine g_at 11 rfl ?_
  refine gf_X3_9 rfl dX3_take_11 ?_
  refine g_iconst (nI 0) dX3_take_14 rfl ?_
  refine g_backv (g_runS (c_fill (sI (sI μ 2 1 k) 2 2 m) _ isI_11 (by decide)) rfl mw_J7_fill_53178 ms_J7_fill_53178 ml_X3_22 ⟨rfl, rfl, Nat.le_of_ble_eq_true rfl, Nat.le_of_ble_eq_true rfl⟩ rfl rfl (Nat.le_of_ble_eq_true rfl) dX3_take_15) ?_
  exact g_return dX3_take_18 rfl rfl
theorem c_drop (μ : Mm) : Ok mX3_drop (rmL 0) [.ref 2] μ (none, sI (sI μ 2 1 (-1)) 2 2 0) := by
  refine Ok.of (by decide) (Nat.le_of_ble_eq_true rfl) [some (.ref 2)] rfl ?_
  refine g_aload_n 0 _ dX3_drop_0 rfl rfl ?_
  refine g_iconst (-1) dX3_drop_1 rfl ?_
  refine gp_X3_15 rfl dX3_drop_2 ?_
  refine g_aload_n 0 _ dX3_drop_5 rfl rfl ?_
  refine g_iconst (nI 0) dX3_drop_6 rfl ?_
  refine gp_X3_19 rfl dX3_drop_7 ?_
  exact g_return dX3_drop_10 rfl rfl
/-- what a sheet of a kind keeps of a number -/
def cutF (k v : Int32) : Int32 := if k = 0 then v.toInt8.toInt32 else if k = 1 then v.toInt16.toInt32 else v
theorem c_write (μ : Mm) {i : Nat} (v : Int32) (hi : i < 60) : Ok mX3_write (rmL 0) [.ref 2, .int (nI i), .int v] μ (none, sI μ 11 i (cutF (μ.1 2 1) v)) := by
  refine Ok.of (by decide) (Nat.le_of_ble_eq_true rfl) [some (.ref 2), some (.int (nI i)), some (.int v)] rfl ?_
  have e1 : nI 1 = 1 := rfl
  refine g_aload_n 0 _ dX3_write_0 rfl rfl ?_
  refine gf_X3_9 rfl dX3_write_1 ?_
  refine g_iload_n 1 _ dX3_write_4 rfl rfl ?_
  refine g_aload_n 0 _ dX3_write_5 rfl rfl ?_
  refine gf_X3_15 rfl dX3_write_6 ?_
  refine g_if_ne 17 dX3_write_9 (by decide) (fun h9 => ?_) (fun h9 => ?_)
  · refine g_aload_n 0 _ dX3_write_17 rfl rfl ?_
    refine gf_X3_15 rfl dX3_write_18 ?_
    refine g_iconst (nI 1) dX3_write_21 rfl ?_
    refine g_icmp_ne 30 dX3_write_22 (by decide) (fun h22 => ?_) (fun h22 => ?_)
    · refine g_iload_n 2 _ dX3_write_30 rfl rfl ?_
      refine g_iastore (j := i) isI_11 (rfl) (by omega) (by omega) dX3_write_31 ?_
      exact g_return dX3_write_32 rfl (by unfold cutF; simp_all)
    · refine g_iload_n 2 _ dX3_write_25 rfl rfl ?_
      refine g_i2s dX3_write_26 ?_
      refine g_goto 31 dX3_write_27 (by decide) ?_
      refine g_iastore (j := i) isI_11 (rfl) (by omega) (by omega) dX3_write_31 ?_
      exact g_return dX3_write_32 rfl (by unfold cutF; simp_all)
  · refine g_iload_n 2 _ dX3_write_12 rfl rfl ?_
    refine g_i2b dX3_write_13 ?_
    refine g_goto 31 dX3_write_14 (by decide) ?_
    refine g_iastore (j := i) isI_11 (rfl) (by omega) (by omega) dX3_write_31 ?_
    exact g_return dX3_write_32 rfl (by unfold cutF; simp_all)
theorem c_read (μ : Mm) {i n : Nat} (hi : i < 60) (hl : μ.1 2 2 = nI n) (hn : n ≤ 60) : Ok mX3_read (rmL 0) [.ref 2, .int (nI i)] μ (some (.int (if i < n then μ.1 11 i else 0)), μ) := by
  refine Ok.of (by decide) (Nat.le_of_ble_eq_true rfl) [some (.ref 2), some (.int (nI i))] rfl ?_
  refine g_iload_n 1 _ dX3_read_0 rfl rfl ?_
  refine g_if_ltN 21 (by omega) dX3_read_1 (by decide) ?_
  refine g_iload_n 1 _ dX3_read_4 rfl rfl ?_
  refine g_aload_n 0 _ dX3_read_5 rfl rfl ?_
  refine gf_X3_19 rfl dX3_read_6 ?_
  refine g_top (w := .int (nI n)) (congrArg Value.int hl) ?_
  refine g_icmp_geN 21 (by omega) (by omega) dX3_read_9 (by decide) (fun h9 => ?_) (fun h9 => ?_)
  · refine g_iconst (nI 0) dX3_read_21 rfl ?_
    exact g_ireturn dX3_read_22 rfl rfl (by split <;> first | rfl | (exfalso; omega))
  · refine g_aload_n 0 _ dX3_read_12 rfl rfl ?_
    refine gf_X3_9 rfl dX3_read_13 ?_
    refine g_iload_n 1 _ dX3_read_16 rfl rfl ?_
    refine g_iaload (j := i) isI_11 (rfl) (by omega) (by omega) dX3_read_17 ?_
    refine g_goto 22 dX3_read_18 (by decide) ?_
    exact g_ireturn dX3_read_22 rfl rfl (by split <;> first | rfl | (exfalso; omega))
theorem xor_neg (x y : Int32) : (x ^^^ y) < 0 ↔ (x < 0 ↔ ¬ y < 0) := by
  have h : ∀ z : Int32, z < 0 ↔ z.toBitVec.msb = true := fun z => by
    rw [fa_lt, t0, BitVec.msb_eq_toInt, decide_eq_true_iff]
    exact Iff.rfl
  rw [h, h, h, show (x ^^^ y).toBitVec = x.toBitVec ^^^ y.toBitVec from rfl, BitVec.msb_xor]
  cases x.toBitVec.msb <;> cases y.toBitVec.msb <;> simp
theorem modN_pos {x : Int32} {n : Nat} (h0 : 0 < n) (h : 0 ≤ x.toInt) : (x.toInt.tmod n) = (modN x n : Int) := by
  rw [Int.tmod_eq_emod_of_nonneg h]
  unfold modN
  have := Int.emod_nonneg x.toInt (show (n : Int) ≠ 0 by omega)
  omega
theorem modN_neg {x : Int32} {n : Nat} (h0 : 0 < n) (h : x.toInt < 0) : ((x.toInt.tmod n) = 0 ∧ modN x n = 0) ∨ ((x.toInt.tmod n) ≠ 0 ∧ (modN x n : Int) = x.toInt.tmod n + n) := by
  have e := Int.tmod_eq_emod (a := x.toInt) (b := n)
  have h1 := Int.emod_nonneg x.toInt (show (n : Int) ≠ 0 by omega)
  have h2 := Int.emod_lt_of_pos x.toInt (show (0 : Int) < n by omega)
  unfold modN
  by_cases hd : (n : Int) ∣ x.toInt
  · left
    have := Int.emod_eq_zero_of_dvd hd
    have h3 := Int.tmod_eq_zero_of_dvd hd
    omega
  · right
    rw [if_neg (by omega)] at e
    have h3 : x.toInt % (n : Int) ≠ 0 := fun q => hd (Int.dvd_of_emod_eq_zero q)
    simp at e
    omega
theorem i32_ext {x y : Int32} (h : x.toInt = y.toInt) : x = y := (fa_eq x y).mpr h
theorem c_floorMod (μ : Mm) (x : Int32) {n : Nat} (h0 : 0 < n) (hn : n ≤ 60) : Ok mJ9_floorMod_7cf53 (rmL 0) [.int x, .int (nI n)] μ (some (.int (nI (modN x n))), μ) := by
  have hlt := modN_lt (k := x) h0
  have ht : (nI n).toInt = n := nI_toInt (by omega)
  have hr : (x - x / nI n * nI n).toInt = x.toInt.tmod n := by rw [rem_toInt, ht]
  have hm : (nI (modN x n)).toInt = modN x n := nI_toInt (by omega)
  have hp : ¬ nI n < 0 := nI_pos (by omega)
  have hx := xor_neg x (nI n)
  refine Ok.ofF (by decide +kernel) (Nat.le_of_ble_eq_true rfl) [some (.int x), some (.int (nI n)), none] rfl ?_
  refine g_iload_n 0 _ dJ9_floorMod_7cf53_0 rfl rfl ?_
  refine g_iload_n 1 _ dJ9_floorMod_7cf53_1 rfl rfl ?_
  refine g_irem dJ9_floorMod_7cf53_2 (nI_ne0 h0 (by omega)) ?_
  refine g_istore_n [some (.int x), some (.int (nI n)), some (.int (x - x / (nI n) * (nI n)))] dJ9_floorMod_7cf53_3 rfl (Nat.le_of_ble_eq_true rfl) rfl rfl ?_
  refine g_iload_n 0 _ dJ9_floorMod_7cf53_4 rfl rfl ?_
  refine g_iload_n 1 _ dJ9_floorMod_7cf53_5 rfl rfl ?_
  refine g_ixor dJ9_floorMod_7cf53_6 ?_
  refine g_at 7 rfl ?_
  refine g_if_ge 18 dJ9_floorMod_7cf53_7 (by decide) (fun h7 => ?_) (fun h7 => ?_)
  · refine g_iload_n 2 _ dJ9_floorMod_7cf53_18 rfl rfl ?_
    exact g_ireturn dJ9_floorMod_7cf53_19 rfl rfl (by refine congrArg (fun z => (some (Value.int z), μ)) (i32_ext ?_); rw [hm, hr]; first | (have h12 : (x - x / nI n * nI n).toInt = 0 := by rw [h11]; rfl); (rw [hr] at h12; by_cases q : 0 ≤ x.toInt; (rw [modN_pos h0 q]); (rcases modN_neg h0 (show x.toInt < 0 by omega) with h | h <;> omega)) | (have hxn : ¬ x < 0 := fun q => (by have := hx.mpr ⟨fun _ => hp, fun _ => q⟩; rw [fa_lt, t0] at this; rw [fa_le, t0] at h7; omega)); (rw [fa_lt, t0] at hxn; rw [modN_pos h0 (show 0 ≤ x.toInt by omega)]))
  · refine g_iload_n 2 _ dJ9_floorMod_7cf53_10 rfl rfl ?_
    refine g_if_eq 18 dJ9_floorMod_7cf53_11 (by decide) (fun h11 => ?_) (fun h11 => ?_)
    · refine g_iload_n 2 _ dJ9_floorMod_7cf53_18 rfl rfl ?_
      exact g_ireturn dJ9_floorMod_7cf53_19 rfl rfl (by refine congrArg (fun z => (some (Value.int z), μ)) (i32_ext ?_); rw [hm, hr]; first | (have h12 : (x - x / nI n * nI n).toInt = 0 := by rw [h11]; rfl); (rw [hr] at h12; by_cases q : 0 ≤ x.toInt; (rw [modN_pos h0 q]); (rcases modN_neg h0 (show x.toInt < 0 by omega) with h | h <;> omega)) | (have hxn : ¬ x < 0 := fun q => (by have := hx.mpr ⟨fun _ => hp, fun _ => q⟩; rw [fa_lt, t0] at this; rw [fa_le, t0] at h7; omega)); (rw [fa_lt, t0] at hxn; rw [modN_pos h0 (show 0 ≤ x.toInt by omega)]))
    · refine g_iload_n 2 _ dJ9_floorMod_7cf53_14 rfl rfl ?_
      refine g_iload_n 1 _ dJ9_floorMod_7cf53_15 rfl rfl ?_
      refine g_iadd dJ9_floorMod_7cf53_16 ?_
      exact g_ireturn dJ9_floorMod_7cf53_17 rfl rfl (by refine congrArg (fun z => (some (Value.int z), μ)) (i32_ext ?_); have hxn : x < 0 := (hx.mp (by rw [fa_lt, t0]; rw [fa_le, t0] at h7; omega)).mpr hp; rw [fa_lt, t0] at hxn; rcases modN_neg h0 hxn with h | h <;> rw [hm, fb_addI] <;> rw [hr, ht] <;> first | omega | (exfalso; exact h11 (i32_ext (by rw [hr, t0]; omega))))
theorem c_turn_l {μ : Mm} {b n : Nat} (hn : μ.1 1 2 = nI n) (h60 : n ≤ 60) (hb : b < n) (R : Option Value × Mm) (k : Int32) (hE : G mX1_turnMask (rmL 1) R (sR μ 10 (fil (μ.1 10) (fun i => μ.1 7 ((i + b) % n)) n)) 57 [some (.ref 1), some (.int k), some (.int (nI b)), some (.int (nI n))] []) : ∀ (m i : Nat), i ≤ n → n < i + m → G mX1_turnMask (rmL 1) R (sR μ 10 (fil (μ.1 10) (fun i => μ.1 7 ((i + b) % n)) i)) 23 [some (.ref 1), some (.int k), some (.int (nI b)), some (.int (nI i))] [] := by
  intro m
  induction m with
  | zero => exact fun i h1 h2 => absurd h2 (by omega)
  | succ m ih =>
    intro i h1 h2
    have hm : (i + b) % n < n := Nat.mod_lt _ (by omega)
    refine g_iload_n 3 _ dX1_turnMask_23 rfl rfl ?_
    refine g_aload_n 0 _ dX1_turnMask_24 rfl rfl ?_
    refine gf_X1_20 rfl dX1_turnMask_25 ?_
    refine g_top (w := .int (nI n)) (congrArg Value.int hn) ?_
    refine g_icmp_geN 57 (by omega) (by omega) dX1_turnMask_28 (by decide) (fun h28 => ?_) (fun h28 => ?_)
    · rw [show i = n by omega]; exact hE
    · refine g_aload_n 0 _ dX1_turnMask_31 rfl rfl ?_
      refine gf_X1_16 rfl dX1_turnMask_32 ?_
      refine g_iload_n 3 _ dX1_turnMask_35 rfl rfl ?_
      refine g_aload_n 0 _ dX1_turnMask_36 rfl rfl ?_
      refine gf_X1_11 rfl dX1_turnMask_37 ?_
      refine g_iconst (nI 0) dX1_turnMask_40 rfl ?_
      refine g_aaload (j := 0) isQ_6 (Or.inl rfl) (rfl) (by omega) (by omega) dX1_turnMask_41 ?_
      refine g_at 42 rfl ?_
      refine g_aload_n 0 _ dX1_turnMask_42 rfl rfl ?_
      refine g_iload_n 3 _ dX1_turnMask_43 rfl rfl ?_
      refine g_iload_n 2 _ dX1_turnMask_44 rfl rfl ?_
      refine g_iaddN dX1_turnMask_45 ?_
      refine g_backi (g_runV ((c_wrap (sR μ 10 (fil (μ.1 10) (fun i => μ.1 7 ((i + b) % n)) i)) _ (n := n) hn).to (by rw [wrF_add h60 (by omega) hb])) rfl mw_X1_wrap mi_X1_wrap ml_X1_33 isO_1 ⟨rfl, rfl, Nat.le_of_ble_eq_true rfl, Nat.le_of_ble_eq_true rfl⟩ rfl rfl (Nat.le_of_ble_eq_true rfl) dX1_turnMask_46) ?_
      refine g_iaload (j := (i + b) % n) (isI_row (w := 0) (by decide)) (rfl) (by omega) (by omega) dX1_turnMask_49 ?_
      refine g_iastore (j := i) isI_10 (rfl) (by omega) (by omega) dX1_turnMask_50 ?_
      refine g_mem (sR_fil μ 10 i _ (fun i => μ.1 7 ((i + b) % n)) rfl) ?_
      refine g_iincN [some (.ref 1), some (.int k), some (.int (nI b)), some (.int (nI (i + 1)))] dX1_turnMask_51 rfl (Nat.le_of_ble_eq_true rfl) rfl rfl ?_
      refine g_at 54 rfl ?_
      refine g_goto 23 dX1_turnMask_54 (by decide) ?_
      exact ih (i + 1) (by omega) (by omega)
theorem c_turn_e {μ : Mm} {b n : Nat} (hn : μ.1 1 2 = nI n) (h60 : n ≤ 60) (hb : b < n) (R : Option Value × Mm) (k : Int32) (hE : G mX1_turnMask (rmL 1) R (sR μ 10 (fil (μ.1 10) (fun i => μ.1 7 ((i + b) % n)) n)) 57 [some (.ref 1), some (.int k), some (.int (nI b)), some (.int (nI n))] []) : G mX1_turnMask (rmL 1) R μ 23 [some (.ref 1), some (.int k), some (.int (nI b)), some (.int (nI 0))] [] := by
  have h := c_turn_l hn h60 hb _ k hE (n + 1) 0 (by omega) (by omega)
  rw [fil_0, sR_id] at h
  exact h
theorem c_turn_z (μ : Mm) (k : Int32) {n b : Nat} (hn : μ.1 1 2 = nI n) (h60 : n ≤ 60) : G mX1_turnMask (rmL 1) (none, sR (sR μ 10 (fil (μ.1 10) (fun i => μ.1 7 ((i + b) % n)) n)) 7 (fil (μ.1 7) (fun i => μ.1 7 ((i + b) % n)) n)) (sR μ 10 (fil (μ.1 10) (fun i => μ.1 7 ((i + b) % n)) n)) 57 [some (.ref 1), some (.int k), some (.int (nI b)), some (.int (nI n))] [] := by
  refine g_aload_n 0 _ dX1_turnMask_57 rfl rfl ?_
  refine gf_X1_16 rfl dX1_turnMask_58 ?_
  refine g_iconst (nI 0) dX1_turnMask_61 rfl ?_
  refine g_aload_n 0 _ dX1_turnMask_62 rfl rfl ?_
  refine gf_X1_11 rfl dX1_turnMask_63 ?_
  refine g_iconst (nI 0) dX1_turnMask_66 rfl ?_
  refine g_aaload (j := 0) isQ_6 (Or.inl rfl) (rfl) (by omega) (by omega) dX1_turnMask_67 ?_
  refine g_at 68 rfl ?_
  refine g_iconst (nI 0) dX1_turnMask_68 rfl ?_
  refine g_aload_n 0 _ dX1_turnMask_69 rfl rfl ?_
  refine gf_X1_20 rfl dX1_turnMask_70 ?_
  refine g_top (w := .int (nI n)) (congrArg Value.int hn) ?_
  refine g_copy isI_10 (isI_row (w := 0) (by decide)) rfl rfl rfl (n := n) (by omega) (by omega) (by decide) (Nat.le_of_ble_eq_true rfl) (Nat.le_of_ble_eq_true rfl) rfl dX1_turnMask_73 ?_
  refine g_return dX1_turnMask_76 rfl (Prod.ext rfl ?_)
  show sR _ 7 _ = sR _ 7 _
  congr 1
  funext j
  unfold va_cpy
  by_cases hj : j < n
  · rw [if_pos (by omega), fil_in hj, show 0 + (j - 0) = j by omega, sR_at, fil_in hj]
  · rw [if_neg (by omega), fil_out (by omega)]
    rfl
theorem c_turnMask (μ : Mm) (k : Int32) {n : Nat} (hn : μ.1 1 2 = nI n) (h1 : 1 ≤ n) (h60 : n ≤ 60) : Ok mX1_turnMask (rmL 1) [.ref 1, .int k] μ (none, sR (sR μ 10 (fil (μ.1 10) (fun i => μ.1 7 ((i + modN k n) % n)) n)) 7 (fil (μ.1 7) (fun i => μ.1 7 ((i + modN k n) % n)) n)) := by
  have hb := modN_lt (k := k) (show 0 < n by omega)
  refine Ok.of (by decide) (Nat.le_of_ble_eq_true rfl) [some (.ref 1), some (.int k), none, none] rfl ?_
  refine g_aload_n 0 _ dX1_turnMask_0 rfl rfl ?_
  refine gf_X1_20 rfl dX1_turnMask_1 ?_
  refine g_top (w := .int (nI n)) (congrArg Value.int hn) ?_
  refine g_iconst (nI 1) dX1_turnMask_4 rfl ?_
  refine g_icmp_geN 12 (by omega) (by omega) dX1_turnMask_5 (by decide) (fun h5 => ?_) (fun h5 => ?_)
  · refine g_iload_n 1 _ dX1_turnMask_12 rfl rfl ?_
    refine g_aload_n 0 _ dX1_turnMask_13 rfl rfl ?_
    refine gf_X1_20 rfl dX1_turnMask_14 ?_
    refine g_top (w := .int (nI n)) (congrArg Value.int hn) ?_
    refine g_backi (g_runS (c_floorMod μ k (by omega) h60) rfl mw_J9_floorMod_7cf53 ms_J9_floorMod_7cf53 ml_X1_44 ⟨rfl, rfl, Nat.le_of_ble_eq_true rfl, Nat.le_of_ble_eq_true rfl⟩ rfl rfl (Nat.le_of_ble_eq_true rfl) dX1_turnMask_17) ?_
    refine g_istore_n [some (.ref 1), some (.int k), some (.int (nI (modN k n))), none] dX1_turnMask_20 rfl (Nat.le_of_ble_eq_true rfl) rfl rfl ?_
    refine g_iconst (nI 0) dX1_turnMask_21 rfl ?_
    refine g_istore_n [some (.ref 1), some (.int k), some (.int (nI (modN k n))), some (.int (nI 0))] dX1_turnMask_22 rfl (Nat.le_of_ble_eq_true rfl) rfl rfl ?_
    exact c_turn_e hn h60 hb _ k (c_turn_z μ k hn h60)
  · exact absurd h5 (by omega)
