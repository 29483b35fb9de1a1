/-! the rules for numbers that are nI of a natural number, and for booleans -/
def bI (c : Prop) [Decidable c] : Int32 := if c then 1 else 0
theorem bI_t {c : Prop} [Decidable c] (h : c) : bI c = 1 := if_pos h
theorem bI_f {c : Prop} [Decidable c] (h : ¬ c) : bI c = 0 := if_neg h
theorem bI_nar {c : Prop} [Decidable c] : narrow .boolean (.int (bI c)) = .int (bI c) := by
  unfold bI; split <;> rfl
theorem bI_fit {c : Prop} [Decidable c] : fits .boolean (.int (bI c)) = true := by
  unfold bI; split <;> rfl
theorem bI_iff {c d : Prop} [Decidable c] [Decidable d] (h : c ↔ d) : bI c = bI d := by
  unfold bI; by_cases hc : c
  · rw [if_pos hc, if_pos (h.mp hc)]
  · rw [if_neg hc, if_neg (fun q => hc (h.mpr q))]
section
variable {M : Mb} {rm : Room} {R : Option Value × Mm} {μ : Mm} {pc : Nat} {lo : List (Option Value)} {st : List Value}
theorem g_iaddN {a b : Nat} (d : decode M.2.1 pc = .ok (.iadd, 1)) (k : G M rm R μ (pc + 1) lo (.int (nI (a + b)) :: st)) : G M rm R μ pc lo (.int (nI b) :: .int (nI a) :: st) := g_iadd d (by rw [nI_add]; exact k)
theorem g_isubN {a b : Nat} (h : b ≤ a) (d : decode M.2.1 pc = .ok (.isub, 1)) (k : G M rm R μ (pc + 1) lo (.int (nI (a - b)) :: st)) : G M rm R μ pc lo (.int (nI b) :: .int (nI a) :: st) := g_isub d (by rw [pk_sub h]; exact k)
theorem g_imulN {a b : Nat} (d : decode M.2.1 pc = .ok (.imul, 1)) (k : G M rm R μ (pc + 1) lo (.int (nI (a * b)) :: st)) : G M rm R μ pc lo (.int (nI b) :: .int (nI a) :: st) := g_imul d (by rw [pk_mul]; exact k)
theorem g_iremN {a b : Nat} (ha : a < 2 ^ 31) (h0 : 0 < b) (hb : b < 2 ^ 31) (d : decode M.2.1 pc = .ok (.irem, 1)) (k : G M rm R μ (pc + 1) lo (.int (nI (a % b)) :: st)) : G M rm R μ pc lo (.int (nI b) :: .int (nI a) :: st) := g_irem d (nI_ne0 h0 hb) (by rw [pk_rem ha h0 hb]; exact k)
theorem g_iincN {i a : Nat} (lo' : List (Option Value)) (d : decode M.2.1 pc = .ok (.iinc i 1, 3)) (h0 : lo[i]? = some (some (.int (nI a)))) (hn : i < M.2.2.1) (ho : okS lo i = true) (h : lo.set i (some (.int (nI (a + 1)))) = lo') (k : G M rm R μ (pc + 3) lo' st) : G M rm R μ pc lo st := g_iinc lo' d h0 (nI_1 a) hn ho h k
theorem g_icmp_eqN {a b : Nat} {off : Int} (tgt : Nat) (ha : a < 2 ^ 31) (hb : b < 2 ^ 31) (d : decode M.2.1 pc = .ok (.if_icmp .eq off, 3)) (ht : (pc : Int) + off = (tgt : Int)) (kt : a = b → G M rm R μ tgt lo st) (kf : a ≠ b → G M rm R μ (pc + 3) lo st) : G M rm R μ pc lo (.int (nI b) :: .int (nI a) :: st) := g_icmp_eq tgt d ht (fun h => kt ((nI_eq ha hb).mp h)) (fun h => kf (fun q => h ((nI_eq ha hb).mpr q)))
theorem g_icmp_neN {a b : Nat} {off : Int} (tgt : Nat) (ha : a < 2 ^ 31) (hb : b < 2 ^ 31) (d : decode M.2.1 pc = .ok (.if_icmp .ne off, 3)) (ht : (pc : Int) + off = (tgt : Int)) (kt : a ≠ b → G M rm R μ tgt lo st) (kf : a = b → G M rm R μ (pc + 3) lo st) : G M rm R μ pc lo (.int (nI b) :: .int (nI a) :: st) := g_icmp_ne tgt d ht (fun h => kt (fun q => h ((nI_eq ha hb).mpr q))) (fun h => kf ((nI_eq ha hb).mp h))
theorem g_icmp_ltN {a b : Nat} {off : Int} (tgt : Nat) (ha : a < 2 ^ 31) (hb : b < 2 ^ 31) (d : decode M.2.1 pc = .ok (.if_icmp .lt off, 3)) (ht : (pc : Int) + off = (tgt : Int)) (kt : a < b → G M rm R μ tgt lo st) (kf : b ≤ a → G M rm R μ (pc + 3) lo st) : G M rm R μ pc lo (.int (nI b) :: .int (nI a) :: st) := g_icmp_lt tgt d ht (fun h => kt ((nI_ltI ha hb).mp h)) (fun h => kf (Nat.not_lt.mp (fun q => h ((nI_ltI ha hb).mpr q))))
theorem g_icmp_geN {a b : Nat} {off : Int} (tgt : Nat) (ha : a < 2 ^ 31) (hb : b < 2 ^ 31) (d : decode M.2.1 pc = .ok (.if_icmp .ge off, 3)) (ht : (pc : Int) + off = (tgt : Int)) (kt : b ≤ a → G M rm R μ tgt lo st) (kf : a < b → G M rm R μ (pc + 3) lo st) : G M rm R μ pc lo (.int (nI b) :: .int (nI a) :: st) := g_icmp_ge tgt d ht (fun h => kt ((nI_leI hb ha).mp h)) (fun h => kf (Nat.not_le.mp (fun q => h ((nI_leI hb ha).mpr q))))
theorem g_icmp_gtN {a b : Nat} {off : Int} (tgt : Nat) (ha : a < 2 ^ 31) (hb : b < 2 ^ 31) (d : decode M.2.1 pc = .ok (.if_icmp .gt off, 3)) (ht : (pc : Int) + off = (tgt : Int)) (kt : b < a → G M rm R μ tgt lo st) (kf : a ≤ b → G M rm R μ (pc + 3) lo st) : G M rm R μ pc lo (.int (nI b) :: .int (nI a) :: st) := g_icmp_gt tgt d ht (fun h => kt ((nI_ltI hb ha).mp h)) (fun h => kf (Nat.not_lt.mp (fun q => h ((nI_ltI hb ha).mpr q))))
theorem g_icmp_leN {a b : Nat} {off : Int} (tgt : Nat) (ha : a < 2 ^ 31) (hb : b < 2 ^ 31) (d : decode M.2.1 pc = .ok (.if_icmp .le off, 3)) (ht : (pc : Int) + off = (tgt : Int)) (kt : a ≤ b → G M rm R μ tgt lo st) (kf : b < a → G M rm R μ (pc + 3) lo st) : G M rm R μ pc lo (.int (nI b) :: .int (nI a) :: st) := g_icmp_le tgt d ht (fun h => kt ((nI_leI ha hb).mp h)) (fun h => kf (Nat.not_le.mp (fun q => h ((nI_leI ha hb).mpr q))))
theorem g_if_eqN {a : Nat} {off : Int} (tgt : Nat) (ha : a < 2 ^ 31) (d : decode M.2.1 pc = .ok (.ifCond .eq off, 3)) (ht : (pc : Int) + off = (tgt : Int)) (kt : a = 0 → G M rm R μ tgt lo st) (kf : 0 < a → G M rm R μ (pc + 3) lo st) : G M rm R μ pc lo (.int (nI a) :: st) := g_if_eq tgt d ht (fun h => kt ((nI_eq (b := 0) ha (by decide)).mp h)) (fun h => kf (Nat.pos_of_ne_zero (fun q => h ((nI_eq (b := 0) ha (by decide)).mpr q))))
theorem g_if_neN {a : Nat} {off : Int} (tgt : Nat) (ha : a < 2 ^ 31) (d : decode M.2.1 pc = .ok (.ifCond .ne off, 3)) (ht : (pc : Int) + off = (tgt : Int)) (kt : 0 < a → G M rm R μ tgt lo st) (kf : a = 0 → G M rm R μ (pc + 3) lo st) : G M rm R μ pc lo (.int (nI a) :: st) := g_if_ne tgt d ht (fun h => kt (Nat.pos_of_ne_zero (fun q => h ((nI_eq (b := 0) ha (by decide)).mpr q)))) (fun h => kf ((nI_eq (b := 0) ha (by decide)).mp h))
theorem g_if_gtN {a : Nat} {off : Int} (tgt : Nat) (ha : a < 2 ^ 31) (d : decode M.2.1 pc = .ok (.ifCond .gt off, 3)) (ht : (pc : Int) + off = (tgt : Int)) (kt : 0 < a → G M rm R μ tgt lo st) (kf : a = 0 → G M rm R μ (pc + 3) lo st) : G M rm R μ pc lo (.int (nI a) :: st) := g_if_gt tgt d ht (fun h => kt ((nI_ltI (b := a) (a := 0) (by omega) ha).mp h)) (fun h => kf (Nat.eq_zero_of_not_pos (fun q => h ((nI_ltI (b := a) (a := 0) (by omega) ha).mpr q))))
theorem g_if_leN {a : Nat} {off : Int} (tgt : Nat) (ha : a < 2 ^ 31) (d : decode M.2.1 pc = .ok (.ifCond .le off, 3)) (ht : (pc : Int) + off = (tgt : Int)) (kt : a = 0 → G M rm R μ tgt lo st) (kf : 0 < a → G M rm R μ (pc + 3) lo st) : G M rm R μ pc lo (.int (nI a) :: st) := g_if_le tgt d ht (fun h => kt (Nat.le_zero.mp ((nI_leI (b := 0) ha (by omega)).mp h))) (fun h => kf (Nat.pos_of_ne_zero (fun q => h ((nI_leI (b := 0) ha (by omega)).mpr (Nat.le_of_eq q)))))
theorem g_if_ltN {a : Nat} {off : Int} (tgt : Nat) (ha : a < 2 ^ 31) (d : decode M.2.1 pc = .ok (.ifCond .lt off, 3)) (ht : (pc : Int) + off = (tgt : Int)) (kf : G M rm R μ (pc + 3) lo st) : G M rm R μ pc lo (.int (nI a) :: st) := g_if_lt tgt d ht (fun h => absurd h (nI_pos ha)) (fun _ => kf)
theorem g_if_geN {a : Nat} {off : Int} (tgt : Nat) (ha : a < 2 ^ 31) (d : decode M.2.1 pc = .ok (.ifCond .ge off, 3)) (ht : (pc : Int) + off = (tgt : Int)) (kt : G M rm R μ tgt lo st) : G M rm R μ pc lo (.int (nI a) :: st) := g_if_ge tgt d ht (fun _ => kt) (fun h => absurd (nI_pos' ha) h)
theorem g_if_eqB {c : Prop} [Decidable c] {off : Int} (tgt : Nat) (d : decode M.2.1 pc = .ok (.ifCond .eq off, 3)) (ht : (pc : Int) + off = (tgt : Int)) (kt : ¬ c → G M rm R μ tgt lo st) (kf : c → G M rm R μ (pc + 3) lo st) : G M rm R μ pc lo (.int (bI c) :: st) := by
  refine g_if_eq tgt d ht (fun h => ?_) (fun h => ?_)
  · exact kt (fun q => by rw [bI_t q] at h; exact absurd h (by decide))
  · by_cases q : c
    · exact kf q
    · exact absurd (bI_f q) h
theorem g_if_neB {c : Prop} [Decidable c] {off : Int} (tgt : Nat) (d : decode M.2.1 pc = .ok (.ifCond .ne off, 3)) (ht : (pc : Int) + off = (tgt : Int)) (kt : c → G M rm R μ tgt lo st) (kf : ¬ c → G M rm R μ (pc + 3) lo st) : G M rm R μ pc lo (.int (bI c) :: st) := by
  refine g_if_ne tgt d ht (fun h => ?_) (fun h => ?_)
  · by_cases q : c
    · exact kt q
    · exact absurd (bI_f q) h
  · exact kf (fun q => by rw [bI_t q] at h; exact absurd h (by decide))
end
