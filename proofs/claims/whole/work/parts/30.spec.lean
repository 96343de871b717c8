/-! ===== the shore's shape ===== -/
def nb (wd hi c k : Int) : Int := if k = 0 then (if c % wd + 1 < wd then c + 1 else -1) else if k = 1 then (if 0 < c % wd then c - 1 else -1) else if k = 2 then ((c / wd + 1) % hi) * wd + c % wd else ((c / wd + hi - 1) % hi) * wd + c % wd
def dims (n : Nat) (wd hi : Int) : Prop := (n : Int) = wd * hi ∧ 4 ≤ wd ∧ wd ≤ 16 ∧ 2 ≤ hi ∧ hi ≤ 10
theorem dims.n {n : Nat} {wd hi : Int} (h : dims n wd hi) : 8 ≤ (n : Int) ∧ (n : Int) ≤ 160 := by
  obtain ⟨h0, h1, h2, h3, h4⟩ := h
  rw [h0]
  have a1 : 4 * 2 ≤ wd * hi := Int.mul_le_mul h1 h3 (by omega) (by omega)
  have a2 : wd * hi ≤ 16 * 10 := Int.mul_le_mul h2 h4 (by omega) (by omega)
  omega
/-- the place 1 is a shore's shape -/
def Sh (V : Mem) (n : Nat) (wd hi : Int) : Prop := V 1 0 = wd ∧ V 1 1 = hi ∧ V 1 2 = (n : Int) ∧ dims n wd hi ∧ ∀ c k, 0 ≤ c → c < (n : Int) → 0 ≤ k → k < 4 → V 2 (c * 4 + k) = nb wd hi c k
def b01 (q : Prop) [Decidable q] : Int := if q then 1 else 0
theorem b01_1 {q : Prop} [Decidable q] (h : q) : b01 q = 1 := if_pos h
theorem b01_0 {q : Prop} [Decidable q] (h : ¬ q) : b01 q = 0 := if_neg h
theorem b01_c {q : Prop} [Decidable q] : b01 q = 0 ∨ b01 q = 1 := by unfold b01; split <;> simp
theorem b01_iff {q : Prop} [Decidable q] : b01 q = 1 ↔ q := by unfold b01; split <;> simp_all
theorem b01_iff0 {q : Prop} [Decidable q] : b01 q = 0 ↔ ¬ q := by unfold b01; split <;> simp_all
theorem b01_rg {q : Prop} [Decidable q] : rg (b01 q) := by unfold b01 rg; split <;> omega
theorem nb_range {n : Nat} {wd hi c k : Int} (h : dims n wd hi) (h0 : 0 ≤ c) (h1 : c < (n : Int)) : -1 ≤ nb wd hi c k ∧ nb wd hi c k < (n : Int) := by
  obtain ⟨e, a1, a2, a3, a4⟩ := h
  have hx0 : 0 ≤ c % wd := Int.emod_nonneg _ (by omega)
  have hx1 : c % wd < wd := Int.emod_lt_of_pos _ (by omega)
  have hd := Int.mul_ediv_add_emod c wd
  have hy0 : 0 ≤ c / wd := Int.ediv_nonneg h0 (by omega)
  have key : ∀ y : Int, 0 ≤ y → y < hi → 0 ≤ y * wd + c % wd ∧ y * wd + c % wd < (n : Int) := by
    intro y y0 y1
    have b1 : 0 ≤ y * wd := Int.mul_nonneg y0 (by omega)
    have b2 : (y + 1) * wd ≤ hi * wd := Int.mul_le_mul_of_nonneg_right (by omega) (by omega)
    rw [Int.add_mul] at b2
    rw [e, Int.mul_comm wd hi]
    omega
  have m2 : ∀ z : Int, 0 ≤ z % hi ∧ z % hi < hi := fun z => ⟨Int.emod_nonneg _ (by omega), Int.emod_lt_of_pos _ (by omega)⟩
  unfold nb
  split
  · split
    · have hr : c + 1 ≤ c - c % wd + (wd - 1) := by omega
      have hq : c < (n : Int) := h1
      -- the row of c ends inside
      have hc := key (c / wd) hy0 (by
        have : c / wd < hi := by
          apply Int.ediv_lt_of_lt_mul (by omega)
          rw [← Int.mul_comm wd hi, ← e]; exact h1
        exact this)
      have hyh : c / wd < hi := by
        apply Int.ediv_lt_of_lt_mul (by omega)
        rw [← Int.mul_comm wd hi, ← e]; exact h1
      have b2 : (c / wd + 1) * wd ≤ hi * wd := Int.mul_le_mul_of_nonneg_right (by omega) (by omega)
      rw [Int.add_mul, Int.mul_comm hi wd, ← e] at b2
      rw [Int.mul_comm] at hd
      omega
    · omega
  · split
    · split <;> omega
    · split
      · have := key _ (m2 (c / wd + 1)).1 (m2 (c / wd + 1)).2
        omega
      · have := key _ (m2 (c / wd + hi - 1)).1 (m2 (c / wd + hi - 1)).2
        omega
