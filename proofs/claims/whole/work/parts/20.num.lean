/-! ===== numbers: ints as jI z, longs as lI z, z an Int ===== -/
def jI (z : Int) : Int32 := Int32.ofInt z
def lI (z : Int) : Int64 := Int64.ofInt z
def rg (z : Int) : Prop := -2147483648 ≤ z ∧ z < 2147483648
theorem j_toInt {z : Int} (h : rg z) : (jI z).toInt = z := by
  obtain ⟨h1, h2⟩ := h
  have e : z.bmod (2 ^ 32) = z := Int.bmod_eq_of_le (by omega) (by omega)
  unfold jI
  rw [Int32.toInt_ofInt]
  exact e
theorem j_of (x : Int32) : jI x.toInt = x := Int32.ofInt_toInt x
theorem j_rg (x : Int32) : rg x.toInt := ⟨by have := Int32.le_toInt x; omega, by have := Int32.toInt_lt x; omega⟩
theorem j_ex (x : Int32) : ∃ z, rg z ∧ x = jI z := ⟨x.toInt, j_rg x, (j_of x).symm⟩
theorem j_bmod (z : Int) : (jI z).toInt = z.bmod (2 ^ 32) := by unfold jI; rw [Int32.toInt_ofInt]
theorem j_add (a b : Int) : jI a + jI b = jI (a + b) := by
  apply Int32.toInt_inj.1
  rw [Int32.toInt_add, j_bmod, j_bmod, j_bmod]
  simp
theorem j_sub (a b : Int) : jI a - jI b = jI (a - b) := by
  apply Int32.toInt_inj.1
  rw [Int32.toInt_sub, j_bmod, j_bmod, j_bmod]
  simp
theorem j_mul (a b : Int) : jI a * jI b = jI (a * b) := by
  apply Int32.toInt_inj.1
  rw [Int32.toInt_mul, j_bmod, j_bmod, j_bmod]
  simp
theorem j_neg (a : Int) : -jI a = jI (-a) := by
  apply Int32.toInt_inj.1
  rw [Int32.toInt_neg, j_bmod, j_bmod]
  simp
theorem j_lt {a b : Int} (ha : rg a) (hb : rg b) : jI a < jI b ↔ a < b := by
  rw [Int32.lt_iff_toInt_lt, j_toInt ha, j_toInt hb]
theorem j_le {a b : Int} (ha : rg a) (hb : rg b) : jI a ≤ jI b ↔ a ≤ b := by
  rw [Int32.le_iff_toInt_le, j_toInt ha, j_toInt hb]
theorem j_eq {a b : Int} (ha : rg a) (hb : rg b) : jI a = jI b ↔ a = b := by
  rw [← Int32.toInt_inj, j_toInt ha, j_toInt hb]
theorem j_0 : jI 0 = 0 := rfl
theorem rg_0 : rg 0 := by unfold rg; omega
theorem j_nat (n : Nat) : nI n = jI (n : Int) := by
  unfold nI jI
  rfl
theorem j_clamp {z : Int} (h0 : 0 ≤ z) (h : z < 2147483648) : (jI z).toNatClampNeg = z.toNat := by
  show (jI z).toInt.toNat = z.toNat
  rw [j_toInt ⟨by omega, h⟩]
theorem j_in {z : Int} {n : Nat} (h : 0 ≤ z ∧ z < (n : Int)) (hn : n < 2147483648) : vp_in (jI z) n := by
  rw [vp_in_iff, j_toInt ⟨by omega, by omega⟩]
  exact h
theorem j_div {a b : Int} (ha : 0 ≤ a) (ha2 : a < 2147483648) (hb : 0 < b) (hb2 : b < 2147483648) : jI a / jI b = jI (a / b) := by
  obtain ⟨x, rfl⟩ := Int.eq_ofNat_of_zero_le ha
  obtain ⟨y, rfl⟩ := Int.eq_ofNat_of_zero_le (Int.le_of_lt hb)
  rw [← j_nat, ← j_nat, pk_div (by omega) (by omega) (by omega), j_nat]
  rfl
theorem j_rem {a b : Int} (ha : rg a) (hb : 0 < b) (hb2 : b < 2147483648) : jI a - jI a / jI b * jI b = jI (a.tmod b) := by
  apply Int32.toInt_inj.1
  have hbr : rg b := ⟨by omega, hb2⟩
  rw [rem_toInt, j_toInt ha, j_toInt hbr]
  have h := tmod_bounds (a := a) hb
  rw [j_toInt ⟨by omega, by omega⟩]
theorem j_remN {a b : Int} (ha : 0 ≤ a) (ha2 : a < 2147483648) (hb : 0 < b) (hb2 : b < 2147483648) : jI a - jI a / jI b * jI b = jI (a % b) := by
  rw [j_rem ⟨by omega, ha2⟩ hb hb2, Int.tmod_eq_emod_of_nonneg ha]
theorem l_toInt {z : Int} (h1 : -9223372036854775808 ≤ z) (h2 : z < 9223372036854775808) : (lI z).toInt = z := by
  have e : z.bmod (2 ^ 64) = z := Int.bmod_eq_of_le (by omega) (by omega)
  unfold lI
  rw [Int64.toInt_ofInt]
  exact e
theorem l_of (x : Int64) : lI x.toInt = x := Int64.ofInt_toInt x
theorem l_bmod (z : Int) : (lI z).toInt = z.bmod (2 ^ 64) := by unfold lI; rw [Int64.toInt_ofInt]
theorem l_add (a b : Int) : lI a + lI b = lI (a + b) := by
  apply Int64.toInt_inj.1
  rw [Int64.toInt_add, l_bmod, l_bmod, l_bmod]
  simp
theorem l_sub (a b : Int) : lI a - lI b = lI (a - b) := by
  apply Int64.toInt_inj.1
  rw [Int64.toInt_sub, l_bmod, l_bmod, l_bmod]
  simp
theorem l_mul (a b : Int) : lI a * lI b = lI (a * b) := by
  apply Int64.toInt_inj.1
  rw [Int64.toInt_mul, l_bmod, l_bmod, l_bmod]
  simp
theorem l_nat (n : Nat) : lN n = lI (n : Int) := by
  unfold lN lI
  rfl
theorem l_j {z : Int} (h : rg z) : (jI z).toInt64 = lI z := by
  apply Int64.toInt_inj.1
  rw [Int32.toInt_toInt64, j_toInt h, l_toInt (by have := h.1; omega) (by have := h.2; omega)]
/-! ===== memory: what the places hold ===== -/
abbrev Mem : Type := Nat → Int → Int
def st (V : Mem) (p : Nat) (k v : Int) : Mem := fun q j => if q = p ∧ j = k then v else V q j
def sp (V : Mem) (p : Nat) (f : Int → Int) : Mem := fun q => if q = p then f else V q
def ui (f : Int → Int) (k v : Int) : Int → Int := fun j => if j = k then v else f j
theorem ui_s (f : Int → Int) (k v : Int) : ui f k v k = v := by simp [ui]
theorem ui_n {f : Int → Int} {k v j : Int} (h : j ≠ k) : ui f k v j = f j := by simp [ui, h]
theorem ui_self (f : Int → Int) (k : Int) : ui f k (f k) = f := by funext j; unfold ui; split <;> simp_all
theorem ui_ui (f : Int → Int) (k v w : Int) : ui (ui f k v) k w = ui f k w := by funext j; unfold ui; split <;> simp_all
theorem st_sp (V : Mem) (p : Nat) (k v : Int) : st V p k v = sp V p (ui (V p) k v) := by
  funext q j
  unfold st sp ui
  by_cases h : q = p
  · subst h; simp
  · simp [h]
theorem sp_s (V : Mem) (p : Nat) (f : Int → Int) : sp V p f p = f := by simp [sp]
theorem sp_n {V : Mem} {p q : Nat} {f : Int → Int} (h : q ≠ p) : sp V p f q = V q := by simp [sp, h]
theorem sp_sp (V : Mem) (p : Nat) (f g : Int → Int) : sp (sp V p f) p g = sp V p g := by funext q; unfold sp; split <;> rfl
theorem sp_self (V : Mem) (p : Nat) : sp V p (V p) = V := by funext q; unfold sp; split <;> simp_all
theorem sp_comm (V : Mem) {p q : Nat} (f g : Int → Int) (h : p ≠ q) : sp (sp V p f) q g = sp (sp V q g) p f := by
  funext r; unfold sp
  by_cases h1 : r = q
  · by_cases h2 : r = p
    · exact absurd (h2.symm.trans h1) h
    · simp [h1, Ne.symm h]
  · simp [h1]
theorem st_s (V : Mem) (p : Nat) (k v : Int) : st V p k v p k = v := by simp [st]
theorem st_p {V : Mem} {p q : Nat} {k v : Int} (h : q ≠ p) : st V p k v q = V q := by funext j; simp [st, h]
theorem st_k {V : Mem} {p : Nat} {k j v : Int} (h : j ≠ k) : st V p k v p j = V p j := by simp [st, h]
