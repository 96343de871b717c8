/-! ===== the model's memory, packed: the shore at b of V, the rest of U, doubts f from g on ===== -/
def pk (V : Mem) (b : Nat) (U : Mem) (f : Int → Int) (g : Int) : Mem := fun p => if p = 0 then (fun k => if k = 47 then g else if 11 ≤ k ∧ k ≤ 15 then V b k else if k = 16 then V (b + 11) 2 else if k = 19 then V (b + 11) 3 else if k = 20 then V (b + 11) 4 else U 0 k) else if p ≤ 7 then V (b + p) else if p = 8 then V (b + 10) else if p = 25 then f else U p
section PK
variable {V : Mem} {b : Nat} {U : Mem} {f : Int → Int} {g : Int}
theorem pk_h {j : Nat} (hj : 1 ≤ j ∧ j ≤ 7) (z v : Int) : st (pk V b U f g) j z v = pk (st V (b + j) z v) b U f g := by
  funext p k
  unfold st pk
  by_cases h0 : p = 0
  · subst h0
    simp only [if_true]
    rw [if_neg (by omega)]
    simp only [show ¬ (b = b + j) by omega, show ¬ (b + 11 = b + j) by omega, false_and, if_false]
  · rw [if_neg h0, if_neg h0]
    by_cases h7 : p ≤ 7
    · rw [if_pos h7, if_pos h7]
      by_cases e : p = j
      · subst e; simp
      · simp [e]
    · rw [if_neg h7, if_neg h7, if_neg (by omega)]
      split
      · simp only [show ¬ (b + 10 = b + j) by omega, false_and, if_false]
      · rfl
theorem pk_r (z v : Int) : st (pk V b U f g) 8 z v = pk (st V (b + 10) z v) b U f g := by
  funext p k
  unfold st pk
  by_cases h0 : p = 0
  · subst h0
    simp only [if_true]
    rw [if_neg (by omega)]
    simp only [show ¬ (b = b + 10) by omega, show ¬ (b + 11 = b + 10) by omega, false_and, if_false]
  · rw [if_neg h0, if_neg h0]
    by_cases h7 : p ≤ 7
    · rw [if_pos h7, if_pos h7, if_neg (by omega)]
      simp only [show ¬ (b + p = b + 10) by omega, false_and, if_false]
    · rw [if_neg h7, if_neg h7]
      by_cases e : p = 8
      · subst e; simp
      · simp [e]
theorem pk_n {j : Int} (hj : 11 ≤ j ∧ j ≤ 15) (b : Nat) (v : Int) : st (pk V b U f g) 0 j v = pk (st V b j v) b U f g := by
  funext p k
  unfold st pk
  by_cases h0 : p = 0
  · subst h0
    simp only [if_true, true_and, show ¬ (b + 11 = b) by omega, false_and, if_false]
    by_cases e : k = j
    · subst e; rw [if_pos rfl, if_neg (by omega), if_pos hj, if_pos rfl]
    · rw [if_neg e, if_neg e]
  · rw [if_neg h0, if_neg h0]
    by_cases h7 : p ≤ 7
    · rw [if_pos h7, if_pos h7, if_neg (by omega)]
      simp only [show ¬ (b + p = b) by omega, false_and, if_false]
    · rw [if_neg h7, if_neg h7, if_neg (by omega)]
      simp only [show ¬ (b + 10 = b) by omega, false_and, if_false]
theorem pk_w {j i : Int} (hj : (j = 16 ∧ i = 2) ∨ (j = 19 ∧ i = 3) ∨ (j = 20 ∧ i = 4)) (v : Int) : st (pk V b U f g) 0 j v = pk (st V (b + 11) i v) b U f g := by
  funext p k
  unfold st pk
  by_cases h0 : p = 0
  · subst h0
    simp only [if_true, true_and, show ¬ (b = b + 11) by omega, false_and, if_false]
    by_cases e : k = j
    · subst e; rw [if_pos rfl, if_neg (by omega), if_neg (by omega)]
      rcases hj with ⟨rfl, rfl⟩ | ⟨rfl, rfl⟩ | ⟨rfl, rfl⟩
      · rfl
      · rfl
      · rfl
    · rw [if_neg e]
      split
      · rfl
      · split
        · rfl
        · split
          · rw [if_neg (by omega)]
          · split
            · rw [if_neg (by omega)]
            · split
              · rw [if_neg (by omega)]
              · rfl
  · rw [if_neg h0, if_neg h0]
    by_cases h7 : p ≤ 7
    · rw [if_pos h7, if_pos h7, if_neg (by omega)]
      simp only [show ¬ (b + p = b + 11) by omega, false_and, if_false]
    · rw [if_neg h7, if_neg h7, if_neg (by omega)]
      simp only [show ¬ (b + 10 = b + 11) by omega, false_and, if_false]
theorem pk_w2 (v : Int) : st (pk V b U f g) 0 16 v = pk (st V (b + 11) 2 v) b U f g := pk_w (Or.inl ⟨rfl, rfl⟩) v
theorem pk_w3 (v : Int) : st (pk V b U f g) 0 19 v = pk (st V (b + 11) 3 v) b U f g := pk_w (Or.inr (Or.inl ⟨rfl, rfl⟩)) v
theorem pk_w4 (v : Int) : st (pk V b U f g) 0 20 v = pk (st V (b + 11) 4 v) b U f g := pk_w (Or.inr (Or.inr ⟨rfl, rfl⟩)) v
theorem pk_g (v : Int) : st (pk V b U f g) 0 47 v = pk V b U f v := by
  funext p k
  unfold st pk
  by_cases h0 : p = 0
  · subst h0
    simp only [if_true, true_and]
    by_cases e : k = 47
    · subst e; rfl
    · rw [if_neg e, if_neg e, if_neg e]
  · rw [if_neg (by omega)]
    simp only [if_neg h0]
theorem pk_f (z v : Int) : st (pk V b U f g) 25 z v = pk V b U (ui f z v) g := by
  funext p k
  unfold st pk
  by_cases h0 : p = 25
  · subst h0
    simp [ui]
  · rw [if_neg (by omega)]
    simp only [if_neg h0]
abbrev ofld (k : Int) : Prop := k ≠ 47 ∧ ¬ (11 ≤ k ∧ k ≤ 15) ∧ k ≠ 16 ∧ k ≠ 19 ∧ k ≠ 20
theorem pk_o {j : Int} (hj : ofld j) (v : Int) : st (pk V b U f g) 0 j v = pk V b (st U 0 j v) f g := by
  obtain ⟨h1, h2, h3, h4, h5⟩ := hj
  funext p k
  unfold st pk
  by_cases h0 : p = 0
  · subst h0
    simp only [if_true, true_and]
    by_cases e : k = j
    · subst e; rw [if_pos rfl, if_neg h1, if_neg h2, if_neg h3, if_neg h4, if_neg h5, if_pos rfl]
    · rw [if_neg e, if_neg e]
  · rw [if_neg (by omega)]
    simp only [if_neg h0, h0, false_and, if_false]
theorem pk_a {q : Nat} (hq : 9 ≤ q ∧ q ≠ 25) (z v : Int) : st (pk V b U f g) q z v = pk V b (st U q z v) f g := by
  obtain ⟨h9, h25⟩ := hq
  funext p k
  unfold st pk
  by_cases e : p = q
  · subst e
    simp only [if_neg (show ¬ p = 0 by omega), if_neg (show ¬ p ≤ 7 by omega), if_neg (show ¬ p = 8 by omega), if_neg h25, true_and]
  · rw [if_neg (fun z => e z.1)]
    simp only [e, false_and, if_false, show ¬ (0 = q) by omega]
end PK
/-- the model's shape -/
def MU (U : Mem) (n : Nat) (wd hi : Int) : Prop := U 0 0 = wd ∧ U 0 1 = hi ∧ U 0 2 = (n : Int) ∧ dims n wd hi
def bo (f : Int → Int) : Prop := ∀ c, f c = 0 ∨ f c = 1
theorem bo.set {f : Int → Int} (h : bo f) (z : Int) {v : Int} (hv : v = 0 ∨ v = 1) : bo (ui f z v) := by
  intro c; unfold ui; split
  · exact hv
  · exact h c
/-- what the model's touches leave -/
def TC (wd hi c k : Int) (f : Int → Int) (g : Int) (f1 : Int → Int) (g1 : Int) : Prop := bo f1 ∧ (∀ d, f d = 1 → f1 d = 1) ∧ f1 c = 1 ∧ g1 ≤ g ∧ g1 ≤ c ∧ 0 ≤ g1 ∧ ∀ j : Int, 0 ≤ j → j < k → 0 ≤ nb wd hi c j → f1 (nb wd hi c j) = 1 ∧ g1 ≤ nb wd hi c j
theorem hput_hall {n b : Nat} {wd hi c v : Int} {V : Mem} : hall n wd hi b (sp V (b + 1) (ui (V (b + 1)) c v)) = hput n wd hi b c v V := by
  unfold hall hput
  rw [sp_n (by omega), sp_s, sp_sp]
