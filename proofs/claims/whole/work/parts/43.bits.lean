/-! ===== bits ===== -/
theorem q_shrI {a : Int} (h0 : 0 ≤ a) (h1 : a < 2147483648) {s : Int32} (k : Nat) (hs : (s.toBitVec.smod 32).toNat = k) : jI a >>> s = jI (a / 2 ^ k) := by
  obtain ⟨x, rfl⟩ := Int.eq_ofNat_of_zero_le h0
  rw [← j_nat, pk_shrN (by omega) s k hs, j_nat]
  congr 1
theorem q_andI {a : Int} (h0 : 0 ≤ a) (h1 : a < 2147483648) {m : Int32} (k : Nat) (hm : m.toBitVec.toNat = 2 ^ k - 1) : jI a &&& m = jI (a % 2 ^ k) := by
  obtain ⟨x, rfl⟩ := Int.eq_ofNat_of_zero_le h0
  rw [← j_nat, pk_andN (by omega) k hm, j_nat]
  congr 1
theorem q_xorI (a b : Nat) : nI a ^^^ nI b = nI (a ^^^ b) := by
  apply Int32.toBitVec_inj.1
  show BitVec.ofNat 32 a ^^^ BitVec.ofNat 32 b = BitVec.ofNat 32 (a ^^^ b)
  apply BitVec.eq_of_getLsbD_eq
  intro i hi
  simp [hi]
theorem q_orI (a b : Nat) : nI a ||| nI b = nI (a ||| b) := by
  apply Int32.toBitVec_inj.1
  show BitVec.ofNat 32 a ||| BitVec.ofNat 32 b = BitVec.ofNat 32 (a ||| b)
  apply BitVec.eq_of_getLsbD_eq
  intro i hi
  simp [hi]
theorem q_andL (a b : Nat) : lN a &&& lN b = lN (a &&& b) := by
  apply Int64.toBitVec_inj.1
  show BitVec.ofNat 64 a &&& BitVec.ofNat 64 b = BitVec.ofNat 64 (a &&& b)
  apply BitVec.eq_of_getLsbD_eq
  intro i hi
  simp [hi]
theorem q_orL (a b : Nat) : lN a ||| lN b = lN (a ||| b) := by
  apply Int64.toBitVec_inj.1
  show BitVec.ofNat 64 a ||| BitVec.ofNat 64 b = BitVec.ofNat 64 (a ||| b)
  apply BitVec.eq_of_getLsbD_eq
  intro i hi
  simp [hi]
theorem q_xorL (a b : Nat) : lN a ^^^ lN b = lN (a ^^^ b) := by
  apply Int64.toBitVec_inj.1
  show BitVec.ofNat 64 a ^^^ BitVec.ofNat 64 b = BitVec.ofNat 64 (a ^^^ b)
  apply BitVec.eq_of_getLsbD_eq
  intro i hi
  simp [hi]
theorem q_cnt : ∀ k, k < 64 → ((nI k).toInt64 &&& 63) = lN k := by decide +kernel
theorem q_sm : ∀ k, k < 64 → (BitVec.ofNat 64 k).smod 64 = BitVec.ofNat 64 k := by decide +kernel
theorem q_shlL (n : Nat) {k : Nat} (hk : k < 64) : lN n <<< ((nI k).toInt64 &&& 63) = lN (n * 2 ^ k) := by
  rw [q_cnt k hk]
  apply Int64.toBitVec_inj.1
  rw [Int64.toBitVec_shiftLeft]
  show BitVec.ofNat 64 n <<< ((BitVec.ofNat 64 k).smod 64) = BitVec.ofNat 64 (n * 2 ^ k)
  rw [q_sm k hk]
  apply BitVec.eq_of_toNat_eq
  rw [BitVec.shiftLeft_eq', BitVec.toNat_shiftLeft, BitVec.toNat_ofNat, BitVec.toNat_ofNat, BitVec.toNat_ofNat, Nat.mod_eq_of_lt (show k < 2 ^ 64 by omega), Nat.shiftLeft_eq, Nat.mul_mod, Nat.mod_mod, ← Nat.mul_mod]
theorem q_negL {n : Nat} (h : n < 2 ^ 64) (h0 : 0 < n) : -lN n = lN (2 ^ 64 - n) := by
  apply Int64.toBitVec_inj.1
  show -(BitVec.ofNat 64 n) = BitVec.ofNat 64 (2 ^ 64 - n)
  apply BitVec.eq_of_toNat_eq
  rw [BitVec.toNat_neg, BitVec.toNat_ofNat, BitVec.toNat_ofNat, Nat.mod_eq_of_lt h]
theorem q_0L {n : Nat} (h : n < 2 ^ 64) : lN n = 0 ↔ n = 0 := by
  constructor
  · intro e
    have e2 : (lN n).toBitVec.toNat = (0 : Int64).toBitVec.toNat := by rw [e]
    have e3 : (BitVec.ofNat 64 n).toNat = 0 := e2
    rw [BitVec.toNat_ofNat, Nat.mod_eq_of_lt h] at e3
    exact e3
  · rintro rfl; rfl
theorem q_low {x : Nat} (h : 0 < x) : ∃ k m : Nat, x = 2 ^ k * (2 * m + 1) := by
  induction x using Nat.strongRecOn with
  | _ x ih =>
    rcases Nat.mod_two_eq_zero_or_one x with q | q
    · obtain ⟨k, m, e⟩ := ih (x / 2) (by omega) (by omega)
      refine ⟨k + 1, m, ?_⟩
      rw [Nat.pow_succ, Nat.mul_comm (2 ^ k) 2, Nat.mul_assoc, ← e]; omega
    · exact ⟨0, x / 2, by omega⟩
/-- the lowest bit by itself -/
theorem q_and_neg {x : Nat} (h0 : 0 < x) (h : x < 2 ^ 64) : ∃ k : Nat, k < 64 ∧ x.testBit k = true ∧ (∀ j, j < k → x.testBit j = false) ∧ x &&& (2 ^ 64 - x) = 2 ^ k := by
  obtain ⟨k, m, e⟩ := q_low h0
  have hk : k < 64 := by
    rcases Nat.lt_or_ge k 64 with q | q
    · exact q
    · have : 2 ^ 64 ≤ 2 ^ k := Nat.pow_le_pow_right (by decide) q
      have : 2 ^ k * 1 ≤ 2 ^ k * (2 * m + 1) := Nat.mul_le_mul_left _ (by omega)
      omega
  have hp : 0 < 2 ^ k := Nat.two_pow_pos k
  have t1 : ∀ j, x.testBit j = (decide (k ≤ j) && (2 * m + 1).testBit (j - k)) := by
    intro j
    rw [e, Nat.testBit_two_pow_mul]
  have e2 : x - 1 = 2 ^ k * (2 * m) + (2 ^ k - 1) := by
    rw [e, Nat.mul_add]; omega
  have t2 : ∀ j, (x - 1).testBit j = if j < k then (2 ^ k - 1).testBit j else (2 * m).testBit (j - k) := by
    intro j
    rw [e2, Nat.testBit_two_pow_mul_add _ (by omega)]
  have t3 : ∀ j, (2 ^ 64 - x).testBit j = (decide (j < 64) && !(x - 1).testBit j) := by
    intro j
    rw [show 2 ^ 64 - x = 2 ^ 64 - ((x - 1) + 1) by omega]
    exact Nat.testBit_two_pow_sub_succ (by omega) j
  have tk : x.testBit k = true := by
    rw [t1, Nat.sub_self]; simp
  have tj : ∀ j, j < k → x.testBit j = false := by
    intro j hj
    rw [t1]; simp; omega
  refine ⟨k, hk, tk, tj, ?_⟩
  apply Nat.eq_of_testBit_eq
  intro j
  rw [Nat.testBit_and, t3, t2, Nat.testBit_two_pow]
  rcases Nat.lt_trichotomy j k with q | q | q
  · rw [tj j q]; simp; omega
  · subst q
    rw [tk, if_neg (Nat.lt_irrefl _), Nat.sub_self]; simp [hk]
  · rw [t1, if_neg (by omega)]
    obtain ⟨i, rfl⟩ : ∃ i, j = k + (i + 1) := ⟨j - k - 1, by omega⟩
    rw [show k + (i + 1) - k = i + 1 by omega, Nat.testBit_succ, Nat.testBit_succ, show (2 * m + 1) / 2 = m by omega, show 2 * m / 2 = m by omega]
    have : ¬ k = k + (i + 1) := by omega
    simp [this]
    exact fun h _ => h
/-- three longs as a set of cells -/
def DB (f : Int → Int) (B : Int → Bool) : Prop := ∀ i : Nat, i < 3 → ∃ N : Nat, N < 2 ^ 64 ∧ f (i : Int) = (N : Int) ∧ ∀ j : Nat, j < 64 → N.testBit j = B ((64 * i + j : Nat) : Int)
def bset (B : Int → Bool) (c : Int) (v : Bool) : Int → Bool := fun d => if d = c then v else B d
theorem DB.ins {f : Int → Int} {B : Int → Bool} (h : DB f B) {i j N : Nat} (hi : i < 3) (hj : j < 64) (hN : N < 2 ^ 64) (hf : f (i : Int) = (N : Int)) (hb : ∀ k : Nat, k < 64 → N.testBit k = B ((64 * i + k : Nat) : Int)) : DB (ui f (i : Int) ((N ||| 2 ^ j : Nat) : Int)) (bset B ((64 * i + j : Nat) : Int) true) := by
  intro a ha
  by_cases e : a = i
  · subst e
    refine ⟨N ||| 2 ^ j, Nat.or_lt_two_pow hN (Nat.pow_lt_pow_right (by decide) hj), ui_s _ _ _, fun k hk => ?_⟩
    rw [Nat.testBit_or, Nat.testBit_two_pow, hb k hk]
    unfold bset
    by_cases q : k = j
    · subst q; simp
    · rw [if_neg (by omega)]; simp; omega
  · obtain ⟨M, h1, h2, h3⟩ := h a ha
    refine ⟨M, h1, by rw [ui_n (by omega)]; exact h2, fun k hk => ?_⟩
    unfold bset
    rw [if_neg (by omega)]; exact h3 k hk
theorem DB.del {f : Int → Int} {B : Int → Bool} (h : DB f B) {i j N : Nat} (hi : i < 3) (hj : j < 64) (hN : N < 2 ^ 64) (hf : f (i : Int) = (N : Int)) (hb : ∀ k : Nat, k < 64 → N.testBit k = B ((64 * i + k : Nat) : Int)) : DB (ui f (i : Int) ((N &&& (2 ^ j ^^^ (2 ^ 64 - 1)) : Nat) : Int)) (bset B ((64 * i + j : Nat) : Int) false) := by
  intro a ha
  by_cases e : a = i
  · subst e
    refine ⟨N &&& (2 ^ j ^^^ (2 ^ 64 - 1)), Nat.lt_of_le_of_lt Nat.and_le_left hN, ui_s _ _ _, fun k hk => ?_⟩
    rw [Nat.testBit_and, Nat.testBit_xor, Nat.testBit_two_pow, Nat.testBit_two_pow_sub_one, hb k hk]
    unfold bset
    by_cases q : k = j
    · subst q; simp [hk]
    · rw [if_neg (by omega)]
      have : ¬ j = k := fun z => q z.symm
      simp [hk, this]
  · obtain ⟨M, h1, h2, h3⟩ := h a ha
    refine ⟨M, h1, by rw [ui_n (by omega)]; exact h2, fun k hk => ?_⟩
    unfold bset
    rw [if_neg (by omega)]; exact h3 k hk
theorem DB.zero {f : Int → Int} (hf : ∀ i : Int, 0 ≤ i → i < 3 → f i = 0) : DB f (fun _ => false) := fun i hi => ⟨0, by decide, by rw [hf _ (by omega) (by omega)]; rfl, fun j _ => by simp⟩
theorem DB.none {f : Int → Int} {B : Int → Bool} (h : DB f B) (hb : ∀ d : Int, 0 ≤ d → d < 192 → B d = false) {i : Int} (h0 : 0 ≤ i) (h1 : i < 3) : f i = 0 := by
  obtain ⟨a, rfl⟩ := Int.eq_ofNat_of_zero_le h0
  obtain ⟨N, h1', h2, h3⟩ := h a (by omega)
  rw [h2]
  have : N = 0 := by
    apply Nat.eq_of_testBit_eq
    intro k
    rw [Nat.zero_testBit]
    rcases Nat.lt_or_ge k 64 with q | q
    · rw [h3 k q]; exact hb _ (by omega) (by omega)
    · exact Nat.testBit_lt_two_pow (Nat.lt_of_lt_of_le h1' (Nat.pow_le_pow_right (by decide) q))
  rw [this]; rfl
section XB
variable {p : Program} {l : Launch} {e : Env} {R : Room} {s : State} {m : MethodId} {args : Array Value} {below : List Frame} {meth : Method} {c : Code} {H : Heap} {locs : List Loc} {cells slots : Nat} {Q : State → Prop} {pc : Nat} {ls : Array Slot} {rest : List Value}
theorem x_rawi {x : Int32} (z : Int) (h : x = jI z) (k : W p l e R s m args below meth c H locs cells slots Q (F0 m pc ls (.int (jI z) :: rest))) : W p l e R s m args below meth c H locs cells slots Q (F0 m pc ls (.int x :: rest)) := by subst h; exact k
theorem x_rawl {x : Int64} (z : Int) (h : x = lI z) (k : W p l e R s m args below meth c H locs cells slots Q (F0 m pc ls (.long (lI z) :: rest))) : W p l e R s m args below meth c H locs cells slots Q (F0 m pc ls (.long x :: rest)) := by subst h; exact k
theorem x_rawL {x : Int64} (y : Int64) (h : x = y) (k : W p l e R s m args below meth c H locs cells slots Q (F0 m pc ls (.long y :: rest))) : W p l e R s m args below meth c H locs cells slots Q (F0 m pc ls (.long x :: rest)) := by subst h; exact k
end XB
