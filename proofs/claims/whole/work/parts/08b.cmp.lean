/-! comparing longs -/
theorem cmp_lt (x y : Int64) : lg_cmp x y < 0 ↔ x < y := lg_cmp_lt x y
theorem cmp_eq (x y : Int64) : lg_cmp x y = 0 ↔ x = y := by
  constructor
  · intro h
    have a := (lg_cmp_le x y).mp (by rw [h]; decide)
    have b := (lg_cmp_ge x y).mp (by rw [h]; decide)
    rw [Int64.le_iff_toInt_le] at a b
    exact Int64.toInt_inj.mp (by omega)
  · intro h
    subst h
    unfold lg_cmp
    simp
section
variable {M : Mb} {rm : Room} {R : Option Value × Mm} {μ : Mm} {pc : Nat} {lo : List (Option Value)} {st : List Value}
theorem g_if_eqC {x y : Int64} {off : Int} (tgt : Nat) (d : decode M.2.1 pc = .ok (.ifCond .eq off, 3)) (ht : (pc : Int) + off = (tgt : Int)) (kt : x = y → G M rm R μ tgt lo st) (kf : ¬ x = y → G M rm R μ (pc + 3) lo st) : G M rm R μ pc lo (.int (lg_cmp x y) :: st) := g_if_eq tgt d ht (fun h => kt ((cmp_eq x y).mp h)) (fun h => kf (fun q => h ((cmp_eq x y).mpr q)))
theorem g_if_neC {x y : Int64} {off : Int} (tgt : Nat) (d : decode M.2.1 pc = .ok (.ifCond .ne off, 3)) (ht : (pc : Int) + off = (tgt : Int)) (kt : ¬ x = y → G M rm R μ tgt lo st) (kf : x = y → G M rm R μ (pc + 3) lo st) : G M rm R μ pc lo (.int (lg_cmp x y) :: st) := g_if_ne tgt d ht (fun h => kt (fun q => h ((cmp_eq x y).mpr q))) (fun h => kf ((cmp_eq x y).mp h))
theorem g_if_ltC {x y : Int64} {off : Int} (tgt : Nat) (d : decode M.2.1 pc = .ok (.ifCond .lt off, 3)) (ht : (pc : Int) + off = (tgt : Int)) (kt : x < y → G M rm R μ tgt lo st) (kf : ¬ x < y → G M rm R μ (pc + 3) lo st) : G M rm R μ pc lo (.int (lg_cmp x y) :: st) := g_if_lt tgt d ht (fun h => kt ((cmp_lt x y).mp h)) (fun h => kf (fun q => h ((cmp_lt x y).mpr q)))
theorem g_if_geC {x y : Int64} {off : Int} (tgt : Nat) (d : decode M.2.1 pc = .ok (.ifCond .ge off, 3)) (ht : (pc : Int) + off = (tgt : Int)) (kt : ¬ x < y → G M rm R μ tgt lo st) (kf : x < y → G M rm R μ (pc + 3) lo st) : G M rm R μ pc lo (.int (lg_cmp x y) :: st) := g_if_ge tgt d ht (fun h => kt (fun q => by have := (cmp_lt x y).mpr q; have a := (Int32.le_iff_toInt_le).mp h; have b := (Int32.lt_iff_toInt_lt).mp this; omega)) (fun h => kf ((cmp_lt x y).mp (by rw [Int32.lt_iff_toInt_lt]; rw [Int32.le_iff_toInt_le] at h; omega)))
theorem cmp_le (x y : Int64) : lg_cmp x y ≤ 0 ↔ ¬ y < x := by
  rw [lg_cmp_le, Int64.le_iff_toInt_le, Int64.lt_iff_toInt_lt]; omega
theorem g_if_leC {x y : Int64} {off : Int} (tgt : Nat) (d : decode M.2.1 pc = .ok (.ifCond .le off, 3)) (ht : (pc : Int) + off = (tgt : Int)) (kt : ¬ y < x → G M rm R μ tgt lo st) (kf : y < x → G M rm R μ (pc + 3) lo st) : G M rm R μ pc lo (.int (lg_cmp x y) :: st) := g_if_le tgt d ht (fun h => kt ((cmp_le x y).mp h)) (fun h => kf (Decidable.byContradiction (fun q => h ((cmp_le x y).mpr q))))
theorem g_if_gtC {x y : Int64} {off : Int} (tgt : Nat) (d : decode M.2.1 pc = .ok (.ifCond .gt off, 3)) (ht : (pc : Int) + off = (tgt : Int)) (kt : y < x → G M rm R μ tgt lo st) (kf : ¬ y < x → G M rm R μ (pc + 3) lo st) : G M rm R μ pc lo (.int (lg_cmp x y) :: st) := g_if_gt tgt d ht (fun h => kt (Decidable.byContradiction (fun q => by have := (cmp_le x y).mpr q; rw [Int32.le_iff_toInt_le] at this; rw [Int32.lt_iff_toInt_lt] at h; omega))) (fun h => kf ((cmp_le x y).mp (by rw [Int32.le_iff_toInt_le]; rw [Int32.lt_iff_toInt_lt] at h; omega)))
end
