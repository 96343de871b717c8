/-- the model's reading head: at, token, sort, told -/
def q4 (U : Mem) (a t s d : Int) : Mem := fun p => if p = 0 then (fun k => if k = 23 then a else if k = 24 then t else if k = 25 then s else if k = 26 then d else U 0 k) else U p
theorem q4_self (U : Mem) : q4 U (U 0 23) (U 0 24) (U 0 25) (U 0 26) = U := by
  funext p
  unfold q4
  split
  · rename_i h
    subst h
    funext k
    split
    · rename_i e; rw [e]
    · split
      · rename_i e; rw [e]
      · split
        · rename_i e; rw [e]
        · split
          · rename_i e; rw [e]
          · rfl
  · rfl
section Q4
variable {V : Mem} {b : Nat} {U : Mem} {a t s d : Int} {f : Int → Int} {g : Int}
theorem q4_p {p : Nat} (h : p ≠ 0) : q4 U a t s d p = U p := by unfold q4; rw [if_neg h]
theorem q4_k {k : Int} (h : k < 23 ∨ 26 < k) : q4 U a t s d 0 k = U 0 k := by
  unfold q4
  rw [if_pos rfl, if_neg (by omega), if_neg (by omega), if_neg (by omega), if_neg (by omega)]
theorem q4_st {j v a1 t1 s1 d1 : Int} (h : ∀ k : Int, (if k = j then v else if k = 23 then a else if k = 24 then t else if k = 25 then s else if k = 26 then d else U 0 k) = (if k = 23 then a1 else if k = 24 then t1 else if k = 25 then s1 else if k = 26 then d1 else U 0 k)) : st (q4 U a t s d) 0 j v = q4 U a1 t1 s1 d1 := by
  funext p k
  unfold st q4
  by_cases e : p = 0
  · subst e
    simp only [true_and, if_true]
    exact h k
  · simp only [e, false_and, if_false]
theorem pk_q23 (v : Int) : st (pk V b (q4 U a t s d) f g) 0 23 v = pk V b (q4 U v t s d) f g := by
  rw [pk_o (by decide), q4_st (a1 := v) (t1 := t) (s1 := s) (d1 := d)]
  intro k; split <;> simp_all
theorem pk_q24 (v : Int) : st (pk V b (q4 U a t s d) f g) 0 24 v = pk V b (q4 U a v s d) f g := by
  rw [pk_o (by decide), q4_st (a1 := a) (t1 := v) (s1 := s) (d1 := d)]
  intro k; by_cases e : k = 24
  · subst e; rfl
  · simp [e]
theorem pk_q25 (v : Int) : st (pk V b (q4 U a t s d) f g) 0 25 v = pk V b (q4 U a t v d) f g := by
  rw [pk_o (by decide), q4_st (a1 := a) (t1 := t) (s1 := v) (d1 := d)]
  intro k; by_cases e : k = 25
  · subst e; rfl
  · simp [e]
theorem pk_q26 (v : Int) : st (pk V b (q4 U a t s d) f g) 0 26 v = pk V b (q4 U a t s v) f g := by
  rw [pk_o (by decide), q4_st (a1 := a) (t1 := t) (s1 := s) (d1 := v)]
  intro k; by_cases e : k = 26
  · subst e; rfl
  · simp [e]
end Q4
/-- letters packed, six bits each -/
def pkK (F : Int → Int) (i : Int) : Nat → Int
  | 0 => 0
  | k + 1 => 64 * pkK F i k + F (i + (k : Int)) - 64
def wof (z : Int) : Int := if z = 44806839204 then 0 else if z = 3544989965476 then 1 else if z = 3440 then 2 else if z = 9633262 then 3 else if z = 9313069 then 4 else -1
theorem isL_rg {x : Int} (h : isL x = true) : 65 ≤ x ∧ x ≤ 122 := by
  unfold isL at h; rw [decide_eq_true_iff] at h; omega
theorem pkK_rg {F : Int → Int} {i : Int} : ∀ k : Nat, (∀ j : Int, i ≤ j → j < i + (k : Int) → isL (F j) = true) → 0 ≤ pkK F i k ∧ pkK F i k < 64 ^ k
  | 0, _ => by show (0 : Int) ≤ 0 ∧ (0 : Int) < 1; omega
  | k + 1, h => by
    have ih := pkK_rg k (fun j h0 h1 => h j h0 (by omega))
    have q := isL_rg (h (i + (k : Int)) (by omega) (by omega))
    have e : (64 : Int) ^ (k + 1) = 64 ^ k * 64 := Int.pow_succ 64 k
    unfold pkK
    rw [e]
    omega
theorem wof_rg (z : Int) : -1 ≤ wof z ∧ wof z ≤ 4 := by
  unfold wof
  split; omega
  split; omega
  split; omega
  split; omega
  split <;> omega
theorem wdB_len {F : Int → Int} {w : Nat} {i j : Int} (h : j - i ≠ (zLen.getD w 0 : Int)) : wdB F w i j = false := by
  unfold wdB; rw [decide_eq_false h, Bool.false_and]
theorem wdB_0 (F : Int → Int) (i : Int) : wdB F 0 i (i + 6) = decide (F i = 105 ∧ F (i + 1) = 110 ∧ F (i + 2) = 108 ∧ F (i + 3) = 97 ∧ F (i + 4) = 110 ∧ F (i + 5) = 100) := by
  have : wdB F 0 i (i + 6) = (decide (i + 6 - i = 6) && (decide (F (i + 0) = 105) && (decide (F (i + 1) = 110) && (decide (F (i + 2) = 108) && (decide (F (i + 3) = 97) && (decide (F (i + 4) = 110) && (decide (F (i + 5) = 100) && true))))))) := rfl
  rw [this, decide_eq_true (show i + 6 - i = 6 by omega), Int.add_zero]
  simp [Bool.decide_and]
theorem wdB_1 (F : Int → Int) (i : Int) : wdB F 1 i (i + 7) = decide (F i = 115 ∧ F (i + 1) = 101 ∧ F (i + 2) = 97 ∧ F (i + 3) = 119 ∧ F (i + 4) = 97 ∧ F (i + 5) = 114 ∧ F (i + 6) = 100) := by
  have : wdB F 1 i (i + 7) = (decide (i + 7 - i = 7) && (decide (F (i + 0) = 115) && (decide (F (i + 1) = 101) && (decide (F (i + 2) = 97) && (decide (F (i + 3) = 119) && (decide (F (i + 4) = 97) && (decide (F (i + 5) = 114) && (decide (F (i + 6) = 100) && true)))))))) := rfl
  rw [this, decide_eq_true (show i + 7 - i = 7 by omega), Int.add_zero]
  simp [Bool.decide_and]
theorem wdB_2 (F : Int → Int) (i : Int) : wdB F 2 i (i + 2) = decide (F i = 117 ∧ F (i + 1) = 112) := by
  have : wdB F 2 i (i + 2) = (decide (i + 2 - i = 2) && (decide (F (i + 0) = 117) && (decide (F (i + 1) = 112) && true))) := rfl
  rw [this, decide_eq_true (show i + 2 - i = 2 by omega), Int.add_zero]
  simp [Bool.decide_and]
theorem wdB_3 (F : Int → Int) (i : Int) : wdB F 3 i (i + 4) = decide (F i = 100 ∧ F (i + 1) = 111 ∧ F (i + 2) = 119 ∧ F (i + 3) = 110) := by
  have : wdB F 3 i (i + 4) = (decide (i + 4 - i = 4) && (decide (F (i + 0) = 100) && (decide (F (i + 1) = 111) && (decide (F (i + 2) = 119) && (decide (F (i + 3) = 110) && true))))) := rfl
  rw [this, decide_eq_true (show i + 4 - i = 4 by omega), Int.add_zero]
  simp [Bool.decide_and]
theorem wdB_4 (F : Int → Int) (i : Int) : wdB F 4 i (i + 4) = decide (F i = 99 ∧ F (i + 1) = 97 ∧ F (i + 2) = 108 ∧ F (i + 3) = 109) := by
  have : wdB F 4 i (i + 4) = (decide (i + 4 - i = 4) && (decide (F (i + 0) = 99) && (decide (F (i + 1) = 97) && (decide (F (i + 2) = 108) && (decide (F (i + 3) = 109) && true))))) := rfl
  rw [this, decide_eq_true (show i + 4 - i = 4 by omega), Int.add_zero]
  simp [Bool.decide_and]

set_option maxHeartbeats 4000000 in
theorem word_eq {F : Int → Int} {i n : Int} (hn : 1 ≤ n) (hL : ∀ j : Int, i ≤ j → j < i + n → isL (F j) = true) : (if 7 < n then -1 else wof (pkK F i n.toNat)) = wv F i (i + n) := by
  have hq : ∀ k : Int, 0 ≤ k → k < n → 65 ≤ F (i + k) ∧ F (i + k) ≤ 122 := fun k h0 h1 => isL_rg (hL _ (by omega) (by omega))
  have e1 : pkK F i 1 = 64 * 0 + F (i + 0) - 64 := rfl
  have e2 : pkK F i 2 = 64 * pkK F i 1 + F (i + 1) - 64 := rfl
  have e3 : pkK F i 3 = 64 * pkK F i 2 + F (i + 2) - 64 := rfl
  have e4 : pkK F i 4 = 64 * pkK F i 3 + F (i + 3) - 64 := rfl
  have e5 : pkK F i 5 = 64 * pkK F i 4 + F (i + 4) - 64 := rfl
  have e6 : pkK F i 6 = 64 * pkK F i 5 + F (i + 5) - 64 := rfl
  have e7 : pkK F i 7 = 64 * pkK F i 6 + F (i + 6) - 64 := rfl
  by_cases h7 : 7 < n
  · rw [if_pos h7]
    unfold wv
    rw [wdB_len (show i + n - i ≠ ((zLen.getD 0 0 : Nat) : Int) by show i + n - i ≠ 6; omega), wdB_len (show i + n - i ≠ ((zLen.getD 1 0 : Nat) : Int) by show i + n - i ≠ 7; omega), wdB_len (show i + n - i ≠ ((zLen.getD 2 0 : Nat) : Int) by show i + n - i ≠ 2; omega), wdB_len (show i + n - i ≠ ((zLen.getD 3 0 : Nat) : Int) by show i + n - i ≠ 4; omega), wdB_len (show i + n - i ≠ ((zLen.getD 4 0 : Nat) : Int) by show i + n - i ≠ 4; omega)]
    rfl
  · rw [if_neg h7]
    have hL0 : n ≠ 6 → wdB F 0 i (i + n) = false := fun z => wdB_len (show i + n - i ≠ 6 by omega)
    have hL1 : n ≠ 7 → wdB F 1 i (i + n) = false := fun z => wdB_len (show i + n - i ≠ 7 by omega)
    have hL2 : n ≠ 2 → wdB F 2 i (i + n) = false := fun z => wdB_len (show i + n - i ≠ 2 by omega)
    have hL3 : n ≠ 4 → wdB F 3 i (i + n) = false := fun z => wdB_len (show i + n - i ≠ 4 by omega)
    have hL4 : n ≠ 4 → wdB F 4 i (i + n) = false := fun z => wdB_len (show i + n - i ≠ 4 by omega)
    have q0 := hq 0 (by omega) (by omega)
    rw [Int.add_zero] at q0 e1
    unfold wv wof
    rcases (show n = 1 ∨ n = 2 ∨ n = 3 ∨ n = 4 ∨ n = 5 ∨ n = 6 ∨ n = 7 by omega) with rfl | rfl | rfl | rfl | rfl | rfl | rfl
    · rw [hL0 (by decide), hL1 (by decide), hL2 (by decide), hL3 (by decide), hL4 (by decide), show (1 : Int).toNat = 1 from rfl]
      simp only [Bool.false_eq_true, if_false]
      (repeat' split) <;> omega
    · have q1 := hq 1 (by omega) (by omega)
      rw [hL0 (by decide), hL1 (by decide), wdB_2, hL3 (by decide), hL4 (by decide), show (2 : Int).toNat = 2 from rfl]
      simp only [Bool.false_eq_true, if_false, decide_eq_true_iff]
      (repeat' split) <;> omega
    · have q1 := hq 1 (by omega) (by omega)
      have q2 := hq 2 (by omega) (by omega)
      rw [hL0 (by decide), hL1 (by decide), hL2 (by decide), hL3 (by decide), hL4 (by decide), show (3 : Int).toNat = 3 from rfl]
      simp only [Bool.false_eq_true, if_false]
      (repeat' split) <;> omega
    · have q1 := hq 1 (by omega) (by omega)
      have q2 := hq 2 (by omega) (by omega)
      have q3 := hq 3 (by omega) (by omega)
      rw [hL0 (by decide), hL1 (by decide), hL2 (by decide), wdB_3, wdB_4, show (4 : Int).toNat = 4 from rfl]
      simp only [Bool.false_eq_true, if_false, decide_eq_true_iff]
      (repeat' split) <;> omega
    · have q1 := hq 1 (by omega) (by omega)
      have q2 := hq 2 (by omega) (by omega)
      have q3 := hq 3 (by omega) (by omega)
      have q4 := hq 4 (by omega) (by omega)
      rw [hL0 (by decide), hL1 (by decide), hL2 (by decide), hL3 (by decide), hL4 (by decide), show (5 : Int).toNat = 5 from rfl]
      simp only [Bool.false_eq_true, if_false]
      (repeat' split) <;> omega
    · have q1 := hq 1 (by omega) (by omega)
      have q2 := hq 2 (by omega) (by omega)
      have q3 := hq 3 (by omega) (by omega)
      have q4 := hq 4 (by omega) (by omega)
      have q5 := hq 5 (by omega) (by omega)
      rw [wdB_0, hL1 (by decide), hL2 (by decide), hL3 (by decide), hL4 (by decide), show (6 : Int).toNat = 6 from rfl]
      simp only [Bool.false_eq_true, if_false, decide_eq_true_iff]
      (repeat' split) <;> omega
    · have q1 := hq 1 (by omega) (by omega)
      have q2 := hq 2 (by omega) (by omega)
      have q3 := hq 3 (by omega) (by omega)
      have q4 := hq 4 (by omega) (by omega)
      have q5 := hq 5 (by omega) (by omega)
      have q6 := hq 6 (by omega) (by omega)
      rw [hL0 (by decide), wdB_1, hL2 (by decide), hL3 (by decide), hL4 (by decide), show (7 : Int).toNat = 7 from rfl]
      simp only [Bool.false_eq_true, if_false, decide_eq_true_iff]
      (repeat' split) <;> omega
theorem pow64 {k : Nat} (h : k ≤ 8) : (64 : Int) ^ k ≤ 281474976710656 := by
  rcases (show k = 0 ∨ k = 1 ∨ k = 2 ∨ k = 3 ∨ k = 4 ∨ k = 5 ∨ k = 6 ∨ k = 7 ∨ k = 8 by omega) with rfl | rfl | rfl | rfl | rfl | rfl | rfl | rfl | rfl <;> decide
theorem wdB_nl {F : Int → Int} {w : Nat} {i j : Int} (hw : w < 5) (h : isL (F i) = false) : wdB F w i j = false := by
  have h1 := h
  unfold isL at h1
  rw [decide_eq_false_iff_not] at h1
  by_cases e : j - i = (zLen.getD w 0 : Int)
  · rcases (show w = 0 ∨ w = 1 ∨ w = 2 ∨ w = 3 ∨ w = 4 by omega) with rfl | rfl | rfl | rfl | rfl
    · have e : j - i = 6 := e
      rw [show j = i + 6 by omega, wdB_0, decide_eq_false_iff_not]; omega
    · have e : j - i = 7 := e
      rw [show j = i + 7 by omega, wdB_1, decide_eq_false_iff_not]; omega
    · have e : j - i = 2 := e
      rw [show j = i + 2 by omega, wdB_2, decide_eq_false_iff_not]; omega
    · have e : j - i = 4 := e
      rw [show j = i + 4 by omega, wdB_3, decide_eq_false_iff_not]; omega
    · have e : j - i = 4 := e
      rw [show j = i + 4 by omega, wdB_4, decide_eq_false_iff_not]; omega
  · exact wdB_len e
theorem wv_no {F : Int → Int} {i j : Int} (h : isL (F i) = false) : wv F i j = -1 := by
  unfold wv
  rw [wdB_nl (by decide) h, wdB_nl (by decide) h, wdB_nl (by decide) h, wdB_nl (by decide) h, wdB_nl (by decide) h]
  rfl
theorem nvK_r (F : Int → Int) : ∀ (k : Nat) (i a : Int), nvK F (k + 1) i a = min 1000 (nvK F k i a * 10 + F (i + (k : Int)) - 48)
  | 0, i, a => by
    show min 1000 (a * 10 + F i - 48) = min 1000 (a * 10 + F (i + 0) - 48)
    rw [Int.add_zero]
  | k + 1, i, a => by
    show nvK F (k + 1) (i + 1) (min 1000 (a * 10 + F i - 48)) = min 1000 (nvK F k (i + 1) (min 1000 (a * 10 + F i - 48)) * 10 + F (i + ((k + 1 : Nat) : Int)) - 48)
    rw [nvK_r F k (i + 1) _, show i + 1 + (k : Int) = i + ((k + 1 : Nat) : Int) by omega]
/-- what next() leaves: at, token, sort, told -/
def NX (F : Int → Int) (L a0 a t s d : Int) : Prop := t = skF F L a0 ∧ ((L ≤ t ∧ s = 0 ∧ a = t) ∨ (t < L ∧ a = tend F L t ∧ ((isL (F t) = true ∧ d = wv F t a ∧ s = (if wv F t a = -1 then 4 else 1)) ∨ (isL (F t) = false ∧ isG (F t) = true ∧ s = 2 ∧ 0 ≤ d ∧ d ≤ 1000000 ∧ min 1000 d = nv F t a) ∨ (isL (F t) = false ∧ isG (F t) = false ∧ s = (if F t = 59 then 3 else 4)))))
theorem q_cmpc {z c : Int} {C : Int64} (hC : C = lI c) (h0 : 0 ≤ z) (h1 : z < 9223372036854775808) (h2 : 0 ≤ c) (h3 : c < 9223372036854775808) : (lg_cmp (lI z) C).toInt = 0 ↔ z = c := by
  subst hC
  have e : (lg_cmp (lI z) (lI c)).toInt = 0 ↔ lI z = lI c := by
    unfold lg_cmp
    split
    · rename_i q
      exact ⟨fun h => absurd h (by decide), fun h => by rw [h] at q; exact absurd q (by simp)⟩
    · split
      · rename_i q; exact ⟨fun _ => q, fun _ => by decide⟩
      · rename_i q; exact ⟨fun h => absurd h (by decide), fun h => absurd h q⟩
  rw [e]
  constructor
  · intro h
    have := congrArg Int64.toInt h
    rw [l_toInt (by omega) (by omega), l_toInt (by omega) (by omega)] at this
    exact this
  · intro h; rw [h]

set_option maxHeartbeats 4000000 in
set_option maxRecDepth 100000 in
theorem c_X8_isLetter (l : Launch) {X : We} (V : Mem) (x : Int) (hx : -128 ≤ x ∧ x ≤ 127) : Mt l X V yX8_isLetter cX8_isLetter 1 (some .boolean) 1 22 [.int (jI x)] (Qi X (fun z V1 => z = b2i (isL x) ∧ V1 = V)) := by
  refine Mt.go (by decide) (Nat.le_of_ble_eq_true rfl) ?_
  intro pg ev s0 mi bl mt cd ls Rm ag Qq hR hQ E hI hG hS hl
  have hl : lv_has ls 1 [(0, .int (jI x))] := hl
  have L27_1 : ∀ (z : Int), (z = b2i (isL x)) → ∀ (H : Heap) (locs : List Loc) (ls : Array Slot), GW X V H → va_S (wA X) s0.heap H locs → lv_has ls 1 [] → W pg l ev Rm s0 mi ag bl mt cd H locs 0 0 Qq (F0 mi 27 ls [.int (jI z)]) := by
    intro z hz H locs ls hG hS hl
    exact r_z E hQ hG hS dX8_isLetter_27 (by rw [hz]; exact b2i_c _) (⟨hz, rfl⟩)
  have L22_2 : (isL x = true) → ∀ (H : Heap) (locs : List Loc) (ls : Array Slot), GW X V H → va_S (wA X) s0.heap H locs → lv_has ls 1 [] → W pg l ev Rm s0 mi ag bl mt cd H locs 0 0 Qq (F0 mi 22 ls []) := by
    intro  hy H locs ls hG hS hl
    refine x_iconst E dX8_isLetter_22 ?_
    refine x_goto E 27 dX8_isLetter_23 (by decide) ?_
    exact L27_1 1 (by rw [hy]; rfl) _ _ _ hG hS (lv_sub hl [] rfl)
  refine x_iload_n E dX8_isLetter_0 (lv_at hl 0 rfl) ?_
  refine x_bipush E dX8_isLetter_1 (by decide) ?_
  refine x_bipush E dX8_isLetter_3 (by decide) ?_
  refine x_ci hG hS (x_runS E hI hG hS (c_X8_in l V x 97 122 (by unfold rg; omega) (by unfold rg; omega) (by unfold rg; omega)) mf_X8_in km_X8_110 rfl hl rfl (Nat.le_of_ble_eq_true rfl) (by rw [hR]; exact ⟨Nat.le_of_ble_eq_true rfl, Nat.le_of_ble_eq_true rfl⟩) ⟨Nat.zero_le _, Nat.zero_le _⟩ dX8_isLetter_5) (fun z1 V1 H locs hp hG hS => ?_)
  obtain ⟨ez, eV⟩ := hp
  rw [eV] at hG
  rw [ez]
  refine x_if_ne E 22 dX8_isLetter_8 (by decide) b01_rg (fun c8 => ?_) (fun c8 => ?_)
  · exact L22_2  ((isL_b x).mpr (Or.inl (b01_ne c8))) _ _ _ hG hS (lv_sub hl [] rfl)
  · refine x_iload_n E dX8_isLetter_11 (lv_at hl 0 rfl) ?_
    refine x_bipush E dX8_isLetter_12 (by decide) ?_
    refine x_bipush E dX8_isLetter_14 (by decide) ?_
    refine x_ci hG hS (x_runS E hI hG hS (c_X8_in l V x 65 90 (by unfold rg; omega) (by unfold rg; omega) (by unfold rg; omega)) mf_X8_in km_X8_110 rfl hl rfl (Nat.le_of_ble_eq_true rfl) (by rw [hR]; exact ⟨Nat.le_of_ble_eq_true rfl, Nat.le_of_ble_eq_true rfl⟩) ⟨Nat.zero_le _, Nat.zero_le _⟩ dX8_isLetter_16) (fun z1 V1 H locs hp hG hS => ?_)
    obtain ⟨ez, eV⟩ := hp
    rw [eV] at hG
    rw [ez]
    refine x_if_eq E 26 dX8_isLetter_19 (by decide) b01_rg (fun c19 => ?_) (fun c19 => ?_)
    · refine x_iconst E dX8_isLetter_26 ?_
      exact L27_1 0 (by
              have q : isL x = false := by
                cases q : isL x with
                | false => rfl
                | true => exact absurd ((isL_b x).mp q) (by have := b01_iff0.mp c8; have := b01_iff0.mp c19; omega)
              rw [q]; rfl) _ _ _ hG hS (lv_sub hl [] rfl)
    · exact L22_2  ((isL_b x).mpr (Or.inr (b01_ne c19))) _ _ _ hG hS (lv_sub hl [] rfl)

set_option maxHeartbeats 4000000 in
set_option maxRecDepth 100000 in
theorem c_X8_wordOf (l : Launch) {X : We} (V : Mem) (z : Int) (hz : 0 ≤ z ∧ z < 9223372036854775808) : Mt l X V yX8_wordOf cX8_wordOf 2 (some .int) 0 0 [.long (lI z)] (Qi X (fun y V1 => y = wof z ∧ V1 = V)) := by
  refine Mt.go (by decide) (Nat.le_of_ble_eq_true rfl) ?_
  intro pg ev s0 mi bl mt cd ls Rm ag Qq hR hQ E hI hG hS hl
  have hl : lv_has ls 2 [(0, .long (lI z))] := hl
  refine x_lload_n E dX8_wordOf_0 (lv_at hl 0 rfl) ?_
  refine lv_ldc2 E.1 E.2.1 E.2.2.2.1 (E.2.2.2.2.1 _ kk_X8_168) dX8_wordOf_1 ?_
  refine W.lcmp E.1 E.2.1 dX8_wordOf_4 ?_
  refine x_rawi ((lg_cmp (lI z) (44806839204)).toInt) ((j_of _).symm) ?_
  refine x_if_ne E 10 dX8_wordOf_5 (by decide) (j_rg _) (fun c5 => ?_) (fun c5 => ?_)
  · refine x_lload_n E dX8_wordOf_10 (lv_at hl 0 rfl) ?_
    refine lv_ldc2 E.1 E.2.1 E.2.2.2.1 (E.2.2.2.2.1 _ kk_X8_170) dX8_wordOf_11 ?_
    refine W.lcmp E.1 E.2.1 dX8_wordOf_14 ?_
    refine x_rawi ((lg_cmp (lI z) (3544989965476)).toInt) ((j_of _).symm) ?_
    refine x_if_ne E 20 dX8_wordOf_15 (by decide) (j_rg _) (fun c15 => ?_) (fun c15 => ?_)
    · refine x_lload_n E dX8_wordOf_20 (lv_at hl 0 rfl) ?_
      refine lv_ldc2 E.1 E.2.1 E.2.2.2.1 (E.2.2.2.2.1 _ kk_X8_172) dX8_wordOf_21 ?_
      refine W.lcmp E.1 E.2.1 dX8_wordOf_24 ?_
      refine x_rawi ((lg_cmp (lI z) (3440)).toInt) ((j_of _).symm) ?_
      refine x_if_ne E 30 dX8_wordOf_25 (by decide) (j_rg _) (fun c25 => ?_) (fun c25 => ?_)
      · refine x_lload_n E dX8_wordOf_30 (lv_at hl 0 rfl) ?_
        refine lv_ldc2 E.1 E.2.1 E.2.2.2.1 (E.2.2.2.2.1 _ kk_X8_174) dX8_wordOf_31 ?_
        refine W.lcmp E.1 E.2.1 dX8_wordOf_34 ?_
        refine x_rawi ((lg_cmp (lI z) (9633262)).toInt) ((j_of _).symm) ?_
        refine x_if_ne E 40 dX8_wordOf_35 (by decide) (j_rg _) (fun c35 => ?_) (fun c35 => ?_)
        · refine x_lload_n E dX8_wordOf_40 (lv_at hl 0 rfl) ?_
          refine lv_ldc2 E.1 E.2.1 E.2.2.2.1 (E.2.2.2.2.1 _ kk_X8_176) dX8_wordOf_41 ?_
          refine W.lcmp E.1 E.2.1 dX8_wordOf_44 ?_
          refine x_rawi ((lg_cmp (lI z) (9313069)).toInt) ((j_of _).symm) ?_
          refine x_if_ne E 50 dX8_wordOf_45 (by decide) (j_rg _) (fun c45 => ?_) (fun c45 => ?_)
          · refine x_iconst E dX8_wordOf_50 ?_
            exact r_i E hQ hG hS dX8_wordOf_51 (⟨by unfold wof; rw [if_neg (fun y => c5 ((q_cmpc (c := 44806839204) (by decide) hz.1 hz.2 (by omega) (by omega)).mpr y)), if_neg (fun y => c15 ((q_cmpc (c := 3544989965476) (by decide) hz.1 hz.2 (by omega) (by omega)).mpr y)), if_neg (fun y => c25 ((q_cmpc (c := 3440) (by decide) hz.1 hz.2 (by omega) (by omega)).mpr y)), if_neg (fun y => c35 ((q_cmpc (c := 9633262) (by decide) hz.1 hz.2 (by omega) (by omega)).mpr y)), if_neg (fun y => c45 ((q_cmpc (c := 9313069) (by decide) hz.1 hz.2 (by omega) (by omega)).mpr y))], rfl⟩)
          · refine x_iconst E dX8_wordOf_48 ?_
            exact r_i E hQ hG hS dX8_wordOf_49 (⟨by unfold wof; rw [if_neg (fun y => c5 ((q_cmpc (c := 44806839204) (by decide) hz.1 hz.2 (by omega) (by omega)).mpr y)), if_neg (fun y => c15 ((q_cmpc (c := 3544989965476) (by decide) hz.1 hz.2 (by omega) (by omega)).mpr y)), if_neg (fun y => c25 ((q_cmpc (c := 3440) (by decide) hz.1 hz.2 (by omega) (by omega)).mpr y)), if_neg (fun y => c35 ((q_cmpc (c := 9633262) (by decide) hz.1 hz.2 (by omega) (by omega)).mpr y)), if_pos ((q_cmpc (c := 9313069) (by decide) hz.1 hz.2 (by omega) (by omega)).mp c45)], rfl⟩)
        · refine x_iconst E dX8_wordOf_38 ?_
          exact r_i E hQ hG hS dX8_wordOf_39 (⟨by unfold wof; rw [if_neg (fun y => c5 ((q_cmpc (c := 44806839204) (by decide) hz.1 hz.2 (by omega) (by omega)).mpr y)), if_neg (fun y => c15 ((q_cmpc (c := 3544989965476) (by decide) hz.1 hz.2 (by omega) (by omega)).mpr y)), if_neg (fun y => c25 ((q_cmpc (c := 3440) (by decide) hz.1 hz.2 (by omega) (by omega)).mpr y)), if_pos ((q_cmpc (c := 9633262) (by decide) hz.1 hz.2 (by omega) (by omega)).mp c35)], rfl⟩)
      · refine x_iconst E dX8_wordOf_28 ?_
        exact r_i E hQ hG hS dX8_wordOf_29 (⟨by unfold wof; rw [if_neg (fun y => c5 ((q_cmpc (c := 44806839204) (by decide) hz.1 hz.2 (by omega) (by omega)).mpr y)), if_neg (fun y => c15 ((q_cmpc (c := 3544989965476) (by decide) hz.1 hz.2 (by omega) (by omega)).mpr y)), if_pos ((q_cmpc (c := 3440) (by decide) hz.1 hz.2 (by omega) (by omega)).mp c25)], rfl⟩)
    · refine x_iconst E dX8_wordOf_18 ?_
      exact r_i E hQ hG hS dX8_wordOf_19 (⟨by unfold wof; rw [if_neg (fun y => c5 ((q_cmpc (c := 44806839204) (by decide) hz.1 hz.2 (by omega) (by omega)).mpr y)), if_pos ((q_cmpc (c := 3544989965476) (by decide) hz.1 hz.2 (by omega) (by omega)).mp c15)], rfl⟩)
  · refine x_iconst E dX8_wordOf_8 ?_
    exact r_i E hQ hG hS dX8_wordOf_9 (⟨by unfold wof; rw [if_pos ((q_cmpc (c := 44806839204) (by decide) hz.1 hz.2 (by omega) (by omega)).mp c5)], rfl⟩)

set_option maxHeartbeats 4000000 in
set_option maxRecDepth 100000 in
theorem c_X8_next (l : Launch) {X : We} (hY : isY X) {b : Nat} (V U : Mem) (f : Int → Int) (g : Int) (L : Int) (hL : 0 ≤ L ∧ L ≤ 200) (ha : 0 ≤ U 0 23 ∧ U 0 23 ≤ L) (hby : ∀ k : Int, 0 ≤ k → k < 200 → -128 ≤ U 11 k ∧ U 11 k ≤ 127) : Mt l X (pk V b U f g) yX8_next cX8_next 6 none 2 42 [.ref (wa X 0), .int (jI L)] (Qv X (fun V1 => ∃ a t s d, V1 = pk V b (q4 U a t s d) f g ∧ NX (U 11) L (U 0 23) a t s d)) := by
  refine Mt.go (by decide) (Nat.le_of_ble_eq_true rfl) ?_
  intro pg ev s0 mi bl mt cd ls Rm ag Qq hR hQ E hI hG hS hl
  have hl : lv_has ls 6 [(0, .ref (wa X 0)), (1, .int (jI L))] := hl
  rw [show pk V b U f g = pk V b (q4 U (U 0 23) (U 0 24) (U 0 25) (U 0 26)) f g by rw [q4_self]] at hG
  have L0_1 : ∀ (N : Nat) (p : Int), (U 0 23 ≤ p) → (p ≤ L) → (skF (U 11) L p = skF (U 11) L (U 0 23)) → ((L - p).toNat) < N → ∀ (H : Heap) (locs : List Loc) (ls : Array Slot), GW X (pk V b (q4 U p (U 0 24) (U 0 25) (U 0 26)) f g) H → va_S (wA X) s0.heap H locs → lv_has ls 6 [(0, .ref (wa X 0)), (1, .int (jI L))] → W pg l ev Rm s0 mi ag bl mt cd H locs 0 0 Qq (F0 mi 0 ls []) := by
    intro N
    induction N with
    | zero => intro p p0 p1 ep hN; exact absurd hN (Nat.not_lt_zero _)
    | succ N ih0 =>
      intro p p0 p1 ep hN H locs ls hG hS hl
      have L35_2 : (p = skF (U 11) L (U 0 23)) → ∀ (H : Heap) (locs : List Loc) (ls : Array Slot), GW X (pk V b (q4 U p (U 0 24) (U 0 25) (U 0 26)) f g) H → va_S (wA X) s0.heap H locs → lv_has ls 6 [(0, .ref (wa X 0)), (1, .int (jI L))] → W pg l ev Rm s0 mi ag bl mt cd H locs 0 0 Qq (F0 mi 35 ls []) := by
        intro  ep2 H locs ls hG hS hl
        refine x_aload_n E dX8_next_35 (lv_at hl 0 rfl) ?_
        refine x_aload_n E dX8_next_36 (lv_at hl 0 rfl) ?_
        refine x_geti E hI hG (ym0 hY) cf8 23 (p) rfl (by decide) rfl kf_X8_178 dX8_next_37 ?_
        refine x_puti E hI hG hS (ym0 hY) cf8 24 24 rfl rfl (by decide) rfl rfl kf_X8_181 dX8_next_40 (fun H locs hG hS => ?_)
        rw [show (st (pk V b (q4 U p (U 0 24) (U 0 25) (U 0 26)) f g) 0 24 p) = (pk V b (q4 U p p (U 0 25) (U 0 26)) f g) from pk_q24 _] at hG
        refine x_aload_n E dX8_next_43 (lv_at hl 0 rfl) ?_
        refine x_geti E hI hG (ym0 hY) cf8 23 (p) rfl (by decide) rfl kf_X8_178 dX8_next_44 ?_
        refine x_iload_n E dX8_next_47 (lv_at hl 1 rfl) ?_
        refine x_icmp_ne E 57 dX8_next_48 (by decide) (by unfold rg; omega) (by unfold rg; omega) (fun c48 => ?_) (fun c48 => ?_)
        · have hv := (hby p (by omega) (by omega))
          have hpl : p < L := by omega
          have L314_3 : ∀ (a : Int) (t : Int) (s : Int) (d : Int), (NX (U 11) L (U 0 23) a t s d) → ∀ (H : Heap) (locs : List Loc) (ls : Array Slot), GW X (pk V b (q4 U a t s d) f g) H → va_S (wA X) s0.heap H locs → lv_has ls 6 [] → W pg l ev Rm s0 mi ag bl mt cd H locs 0 0 Qq (F0 mi 314 ls []) := by
            intro a t s d hN H locs ls hG hS hl
            exact r_v E hQ hG hS dX8_next_314 (⟨a, t, s, d, rfl, hN⟩)
          refine x_aload_n E dX8_next_57 (lv_at hl 0 rfl) ?_
          refine x_getr E hI hG (ym0 hY) cf8 21 11 rfl (by decide) kf_X8_44 dX8_next_58 ?_
          refine x_aload_n E dX8_next_61 (lv_at hl 0 rfl) ?_
          refine x_geti E hI hG (ym0 hY) cf8 23 (p) rfl (by decide) rfl kf_X8_178 dX8_next_62 ?_
          refine x_bald E hI hG (ym11 hY) (U 11 p) rfl (by omega) dX8_next_65 ?_
          refine x_istore_n E [(2, .int (jI (U 11 p))), (0, .ref (wa X 0)), (1, .int (jI L))] dX8_next_66 hl (by decide) rfl (fun ls hl => ?_)
          refine x_iload_n E dX8_next_67 (lv_at hl 0 rfl) ?_
          refine x_ci hG hS (x_runS E hI hG hS (c_X8_isLetter l (pk V b (q4 U p p (U 0 25) (U 0 26)) f g) (U 11 p) hv) mf_X8_isLetter km_X8_187 rfl hl rfl (Nat.le_of_ble_eq_true rfl) (by rw [hR]; exact ⟨Nat.le_of_ble_eq_true rfl, Nat.le_of_ble_eq_true rfl⟩) ⟨Nat.zero_le _, Nat.zero_le _⟩ dX8_next_68) (fun z1 V1 H locs hp hG hS => ?_)
          obtain ⟨ez, eV⟩ := hp
          rw [eV] at hG
          rw [ez]
          refine x_if_eq E 188 dX8_next_71 (by decide) (b2i_rg _) (fun c71 => ?_) (fun c71 => ?_)
          · have hLp := b2i_0.mp c71
            refine x_iload_n E dX8_next_188 (lv_at hl 0 rfl) ?_
            refine x_bipush E dX8_next_189 (by decide) ?_
            refine x_bipush E dX8_next_191 (by decide) ?_
            refine x_ci hG hS (x_runS E hI hG hS (c_X8_in l (pk V b (q4 U p p (U 0 25) (U 0 26)) f g) (U 11 p) 48 57 (by unfold rg; omega) (by unfold rg; omega) (by unfold rg; omega)) mf_X8_in km_X8_110 rfl hl rfl (Nat.le_of_ble_eq_true rfl) (by rw [hR]; exact ⟨Nat.le_of_ble_eq_true rfl, Nat.le_of_ble_eq_true rfl⟩) ⟨Nat.zero_le _, Nat.zero_le _⟩ dX8_next_193) (fun z1 V1 H locs hp hG hS => ?_)
            obtain ⟨ez, eV⟩ := hp
            rw [eV] at hG
            rw [ez]
            refine x_if_eq E 289 dX8_next_196 (by decide) b01_rg (fun c196 => ?_) (fun c196 => ?_)
            · have hGp : isG (U 11 p) = false := by unfold isG; rw [decide_eq_false_iff_not]; exact b01_iff0.mp c196
              refine x_aload_n E dX8_next_289 (lv_at hl 1 rfl) ?_
              refine x_dup E dX8_next_290 rfl ?_
              refine x_geti E hI hG (ym0 hY) cf8 23 (p) rfl (by decide) rfl kf_X8_178 dX8_next_291 ?_
              refine x_iconst E dX8_next_294 ?_
              refine x_iadd E dX8_next_295 ?_
              refine x_puti E hI hG hS (ym0 hY) cf8 23 23 rfl rfl (by decide) rfl rfl kf_X8_178 dX8_next_296 (fun H locs hG hS => ?_)
              rw [show (st (pk V b (q4 U p p (U 0 25) (U 0 26)) f g) 0 23 (p + 1)) = (pk V b (q4 U (p + 1) p (U 0 25) (U 0 26)) f g) from pk_q23 _] at hG
              have L311_4 : ∀ (s : Int), (s = if U 11 p = 59 then 3 else 4) → ∀ (H : Heap) (locs : List Loc) (ls : Array Slot), GW X (pk V b (q4 U (p + 1) p (U 0 25) (U 0 26)) f g) H → va_S (wA X) s0.heap H locs → lv_has ls 6 [] → W pg l ev Rm s0 mi ag bl mt cd H locs 0 0 Qq (F0 mi 311 ls [.int (jI s), .ref (wa X 0)]) := by
                intro s hs H locs ls hG hS hl
                refine x_puti E hI hG hS (ym0 hY) cf8 25 25 rfl rfl (by decide) rfl rfl kf_X8_184 dX8_next_311 (fun H locs hG hS => ?_)
                rw [show (st (pk V b (q4 U (p + 1) p (U 0 25) (U 0 26)) f g) 0 25 s) = (pk V b (q4 U (p + 1) p s (U 0 26)) f g) from pk_q25 _] at hG
                exact L314_3 (p + 1) p s (U 0 26) (⟨ep2, Or.inr ⟨hpl, by unfold tend; rw [hLp, if_neg (by decide), hGp, if_neg (by decide)], Or.inr (Or.inr ⟨hLp, hGp, hs⟩)⟩⟩) _ _ _ hG hS (lv_sub hl [] rfl)
              refine x_aload_n E dX8_next_299 (lv_at hl 1 rfl) ?_
              refine x_iload_n E dX8_next_300 (lv_at hl 0 rfl) ?_
              refine x_bipush E dX8_next_301 (by decide) ?_
              refine x_icmp_ne E 310 dX8_next_303 (by decide) (by unfold rg; omega) (by unfold rg; omega) (fun c303 => ?_) (fun c303 => ?_)
              · refine x_iconst E dX8_next_310 ?_
                exact L311_4 4 (by rw [if_neg (by omega)]) _ _ _ hG hS (lv_sub hl [] rfl)
              · refine x_iconst E dX8_next_306 ?_
                refine x_goto E 311 dX8_next_307 (by decide) ?_
                exact L311_4 3 (by rw [if_pos (by omega)]) _ _ _ hG hS (lv_sub hl [] rfl)
            · have hGp : isG (U 11 p) = true := by unfold isG; rw [decide_eq_true_iff]; exact b01_ne c196
              refine x_aload_n E dX8_next_199 (lv_at hl 1 rfl) ?_
              refine x_iconst E dX8_next_200 ?_
              refine x_puti E hI hG hS (ym0 hY) cf8 25 25 rfl rfl (by decide) rfl rfl kf_X8_184 dX8_next_201 (fun H locs hG hS => ?_)
              rw [show (st (pk V b (q4 U p p (U 0 25) (U 0 26)) f g) 0 25 2) = (pk V b (q4 U p p 2 (U 0 26)) f g) from pk_q25 _] at hG
              refine x_aload_n E dX8_next_204 (lv_at hl 1 rfl) ?_
              refine x_iconst E dX8_next_205 ?_
              refine x_puti E hI hG hS (ym0 hY) cf8 26 26 rfl rfl (by decide) rfl rfl kf_X8_196 dX8_next_206 (fun H locs hG hS => ?_)
              rw [show (st (pk V b (q4 U p p 2 (U 0 26)) f g) 0 26 0) = (pk V b (q4 U p p 2 0) f g) from pk_q26 _] at hG
              have L209_5 : ∀ (N : Nat) (j : Int) (d : Int), (p ≤ j) → (j ≤ L) → (∀ x : Int, p ≤ x → x < j → isG (U 11 x) = true) → (p < j → advL (fun j => isG (U 11 j)) L j = tend (U 11) L p) → (0 ≤ d ∧ d ≤ 1000000) → (min 1000 d = nvK (U 11) (j - p).toNat p 0) → ((L - j).toNat) < N → ∀ (H : Heap) (locs : List Loc) (ls : Array Slot), GW X (pk V b (q4 U j p 2 d) f g) H → va_S (wA X) s0.heap H locs → lv_has ls 6 [(0, .ref (wa X 0)), (1, .int (jI L))] → W pg l ev Rm s0 mi ag bl mt cd H locs 0 0 Qq (F0 mi 209 ls []) := by
                intro N
                induction N with
                | zero => intro j d j0 j1 hal ej d0 hd hN; exact absurd hN (Nat.not_lt_zero _)
                | succ N ih209 =>
                  intro j d j0 j1 hal ej d0 hd hN H locs ls hG hS hl
                  refine x_aload_n E dX8_next_209 (lv_at hl 0 rfl) ?_
                  refine x_geti E hI hG (ym0 hY) cf8 23 (j) rfl (by decide) rfl kf_X8_178 dX8_next_210 ?_
                  refine x_iload_n E dX8_next_213 (lv_at hl 1 rfl) ?_
                  refine x_icmp_ge E 314 dX8_next_214 (by decide) (by unfold rg; omega) (by unfold rg; omega) (fun c214 => ?_) (fun c214 => ?_)
                  · exact L314_3 j p 2 d (⟨ep2, Or.inr ⟨hpl, by rw [← ej (by omega)]; exact (advL_end _ (by omega)).symm, Or.inr (Or.inl ⟨hLp, hGp, rfl, d0.1, d0.2, hd⟩)⟩⟩) _ _ _ hG hS (lv_sub hl [] rfl)
                  · have hvj := (hby j (by omega) (by omega))
                    refine x_aload_n E dX8_next_217 (lv_at hl 0 rfl) ?_
                    refine x_getr E hI hG (ym0 hY) cf8 21 11 rfl (by decide) kf_X8_44 dX8_next_218 ?_
                    refine x_aload_n E dX8_next_221 (lv_at hl 0 rfl) ?_
                    refine x_geti E hI hG (ym0 hY) cf8 23 (j) rfl (by decide) rfl kf_X8_178 dX8_next_222 ?_
                    refine x_bald E hI hG (ym11 hY) (U 11 j) rfl (by omega) dX8_next_225 ?_
                    refine x_bipush E dX8_next_226 (by decide) ?_
                    refine x_bipush E dX8_next_228 (by decide) ?_
                    refine x_ci hG hS (x_runS E hI hG hS (c_X8_in l (pk V b (q4 U j p 2 d) f g) (U 11 j) 48 57 (by unfold rg; omega) (by unfold rg; omega) (by unfold rg; omega)) mf_X8_in km_X8_110 rfl hl rfl (Nat.le_of_ble_eq_true rfl) (by rw [hR]; exact ⟨Nat.le_of_ble_eq_true rfl, Nat.le_of_ble_eq_true rfl⟩) ⟨Nat.zero_le _, Nat.zero_le _⟩ dX8_next_230) (fun z1 V1 H locs hp hG hS => ?_)
                    obtain ⟨ez, eV⟩ := hp
                    rw [eV] at hG
                    rw [ez]
                    refine x_if_eq E 314 dX8_next_233 (by decide) b01_rg (fun c233 => ?_) (fun c233 => ?_)
                    · exact L314_3 j p 2 d (⟨ep2, Or.inr ⟨hpl, by
                                                                                  have hgj : isG (U 11 j) = false := by unfold isG; rw [decide_eq_false_iff_not]; exact b01_iff0.mp c233
                                                                                  have q : p < j := by
                                                                                    rcases (show p < j ∨ p = j by omega) with q | q
                                                                                    · exact q
                                                                                    · rw [← q, hGp] at hgj; cases hgj
                                                                                  rw [← ej q]; exact (advL_no (p := (fun j => isG (U 11 j))) hgj).symm, Or.inr (Or.inl ⟨hLp, hGp, rfl, d0.1, d0.2, hd⟩)⟩⟩) _ _ _ hG hS (lv_sub hl [] rfl)
                    · have hGj := b01_ne c233
                      have hns := nvK_r (U 11) (j - p).toNat p 0
                      rw [show (j - p).toNat + 1 = (j + 1 - p).toNat by omega, ← hd, show p + ((j - p).toNat : Int) = j by omega] at hns
                      have L273_6 : ∀ (d2 : Int), (0 ≤ d2 ∧ d2 ≤ 1000000) → (min 1000 d2 = nvK (U 11) (j + 1 - p).toNat p 0) → ∀ (H : Heap) (locs : List Loc) (ls : Array Slot), GW X (pk V b (q4 U j p 2 d) f g) H → va_S (wA X) s0.heap H locs → lv_has ls 6 [(0, .ref (wa X 0)), (1, .int (jI L))] → W pg l ev Rm s0 mi ag bl mt cd H locs 0 0 Qq (F0 mi 273 ls [.int (jI d2), .ref (wa X 0)]) := by
                        intro d2 d3 hd2 H locs ls hG hS hl
                        refine x_puti E hI hG hS (ym0 hY) cf8 26 26 rfl rfl (by decide) rfl rfl kf_X8_196 dX8_next_273 (fun H locs hG hS => ?_)
                        rw [show (st (pk V b (q4 U j p 2 d) f g) 0 26 d2) = (pk V b (q4 U j p 2 d2) f g) from pk_q26 _] at hG
                        refine x_aload_n E dX8_next_276 (lv_at hl 0 rfl) ?_
                        refine x_dup E dX8_next_277 rfl ?_
                        refine x_geti E hI hG (ym0 hY) cf8 23 (j) rfl (by decide) rfl kf_X8_178 dX8_next_278 ?_
                        refine x_iconst E dX8_next_281 ?_
                        refine x_iadd E dX8_next_282 ?_
                        refine x_puti E hI hG hS (ym0 hY) cf8 23 23 rfl rfl (by decide) rfl rfl kf_X8_178 dX8_next_283 (fun H locs hG hS => ?_)
                        rw [show (st (pk V b (q4 U j p 2 d2) f g) 0 23 (j + 1)) = (pk V b (q4 U (j + 1) p 2 d2) f g) from pk_q23 _] at hG
                        refine x_goto E 209 dX8_next_286 (by decide) ?_
                        exact ih209 (j + 1) d2 (by omega) (by omega) (fun x h0 h1 => by
                                                                                    rcases (show x < j ∨ x = j by omega) with q | q
                                                                                    · exact hal x h0 q
                                                                                    · rw [q]; unfold isG; rw [decide_eq_true_iff]; exact hGj) (fun _ => by
                                                                                    rcases (show p < j ∨ p = j by omega) with q | q
                                                                                    · rw [← ej q]; exact (advL_yes (p := (fun j => isG (U 11 j))) (by omega) (by show isG (U 11 j) = true; unfold isG; rw [decide_eq_true_iff]; exact hGj)).symm
                                                                                    · unfold tend; rw [hLp, if_neg (by decide), if_pos hGp, q]) d3 hd2 (by omega) _ _ _ hG hS (lv_sub hl [0, 1] rfl)
                      refine x_aload_n E dX8_next_236 (lv_at hl 0 rfl) ?_
                      refine x_aload_n E dX8_next_237 (lv_at hl 0 rfl) ?_
                      refine x_geti E hI hG (ym0 hY) cf8 26 (d) rfl (by decide) rfl kf_X8_196 dX8_next_238 ?_
                      refine x_ldc E 99999 kk_X8_199 (by decide) dX8_next_241 ?_
                      refine x_icmp_le E 253 dX8_next_243 (by decide) (by unfold rg; omega) (by unfold rg; omega) (fun c243 => ?_) (fun c243 => ?_)
                      · refine x_bipush E dX8_next_253 (by decide) ?_
                        refine x_aload_n E dX8_next_255 (lv_at hl 0 rfl) ?_
                        refine x_geti E hI hG (ym0 hY) cf8 26 (d) rfl (by decide) rfl kf_X8_196 dX8_next_256 ?_
                        refine x_imul E dX8_next_259 ?_
                        refine x_aload_n E dX8_next_260 (lv_at hl 0 rfl) ?_
                        refine x_getr E hI hG (ym0 hY) cf8 21 11 rfl (by decide) kf_X8_44 dX8_next_261 ?_
                        refine x_aload_n E dX8_next_264 (lv_at hl 0 rfl) ?_
                        refine x_geti E hI hG (ym0 hY) cf8 23 (j) rfl (by decide) rfl kf_X8_178 dX8_next_265 ?_
                        refine x_bald E hI hG (ym11 hY) (U 11 j) rfl (by omega) dX8_next_268 ?_
                        refine x_iadd E dX8_next_269 ?_
                        refine x_bipush E dX8_next_270 (by decide) ?_
                        refine x_isub E dX8_next_272 ?_
                        exact L273_6 (10 * d + U 11 j - 48) (by omega) (by rw [hns]; omega) _ _ _ hG hS (lv_sub hl [0, 1] rfl)
                      · refine x_aload_n E dX8_next_246 (lv_at hl 0 rfl) ?_
                        refine x_geti E hI hG (ym0 hY) cf8 26 (d) rfl (by decide) rfl kf_X8_196 dX8_next_247 ?_
                        refine x_goto E 273 dX8_next_250 (by decide) ?_
                        exact L273_6 d d0 (by rw [hns]; omega) _ _ _ hG hS (lv_sub hl [0, 1] rfl)
              exact L209_5 _ p 0 (by omega) (by omega) (fun x h0 h1 => by omega) (fun z => by omega) (by omega) (by rw [show (p - p).toNat = 0 by omega]; rfl) (Nat.lt_succ_self _) _ _ _ hG hS (lv_sub hl [1, 2] rfl)
          · have hLp := b2i_ne.mp c71
            refine lv_lconst (v := lN 0) E.1 E.2.1 dX8_next_74 rfl ?_
            refine x_rawL (lI (pkK (U 11) p (min 0 (8 : Int)).toNat)) (rfl) ?_
            refine x_lstore_n E [(3, .long (lI (pkK (U 11) p (min 0 (8 : Int)).toNat))), (2, .int (jI (U 11 p))), (0, .ref (wa X 0)), (1, .int (jI L))] dX8_next_75 hl (by decide) rfl (fun ls hl => ?_)
            refine x_iconst E dX8_next_76 ?_
            refine x_istore E [(5, .int (jI 0)), (3, .long (lI (pkK (U 11) p (min 0 (8 : Int)).toNat))), (2, .int (jI (U 11 p))), (0, .ref (wa X 0)), (1, .int (jI L))] dX8_next_77 hl (by decide) rfl (fun ls hl => ?_)
            have L79_7 : ∀ (N : Nat) (j : Int) (nn : Int), (p ≤ j) → (j ≤ L) → (nn = j - p) → (∀ x : Int, p ≤ x → x < j → isL (U 11 x) = true) → (p < j → advL (fun j => isL (U 11 j)) L j = tend (U 11) L p) → ((L - j).toNat) < N → ∀ (H : Heap) (locs : List Loc) (ls : Array Slot), GW X (pk V b (q4 U j p (U 0 25) (U 0 26)) f g) H → va_S (wA X) s0.heap H locs → lv_has ls 6 [(0, .ref (wa X 0)), (1, .int (jI L)), (3, .long (lI (pkK (U 11) p (min nn (8 : Int)).toNat))), (5, .int (jI nn))] → W pg l ev Rm s0 mi ag bl mt cd H locs 0 0 Qq (F0 mi 79 ls []) := by
              intro N
              induction N with
              | zero => intro j nn j0 j1 en hal ej hN; exact absurd hN (Nat.not_lt_zero _)
              | succ N ih79 =>
                intro j nn j0 j1 en hal ej hN H locs ls hG hS hl
                have L150_8 : (j = tend (U 11) L p) → ∀ (H : Heap) (locs : List Loc) (ls : Array Slot), GW X (pk V b (q4 U j p (U 0 25) (U 0 26)) f g) H → va_S (wA X) s0.heap H locs → lv_has ls 6 [(0, .ref (wa X 0)), (3, .long (lI (pkK (U 11) p (min nn (8 : Int)).toNat))), (5, .int (jI nn))] → W pg l ev Rm s0 mi ag bl mt cd H locs 0 0 Qq (F0 mi 150 ls []) := by
                  intro  ej2 H locs ls hG hS hl
                  have hj1 : p < j := by have := tend_rg (U 11) hpl; omega
                  have hwe := word_eq (F := U 11) (i := p) (n := nn) (by omega) (fun x h0 h1 => hal x h0 (by omega))
                  rw [show p + nn = j by omega] at hwe
                  have L166_9 : ∀ (z : Int), (z = wv (U 11) p j) → ∀ (H : Heap) (locs : List Loc) (ls : Array Slot), GW X (pk V b (q4 U j p (U 0 25) (U 0 26)) f g) H → va_S (wA X) s0.heap H locs → lv_has ls 6 [(0, .ref (wa X 0))] → W pg l ev Rm s0 mi ag bl mt cd H locs 0 0 Qq (F0 mi 166 ls [.int (jI z), .ref (wa X 0)]) := by
                    intro z hz H locs ls hG hS hl
                    refine x_puti E hI hG hS (ym0 hY) cf8 26 26 rfl rfl (by decide) rfl rfl kf_X8_196 dX8_next_166 (fun H locs hG hS => ?_)
                    rw [show (st (pk V b (q4 U j p (U 0 25) (U 0 26)) f g) 0 26 z) = (pk V b (q4 U j p (U 0 25) z) f g) from pk_q26 _] at hG
                    have hwr := wv_rg (U 11) p j
                    have L182_10 : ∀ (s : Int), (s = if wv (U 11) p j = -1 then 4 else 1) → ∀ (H : Heap) (locs : List Loc) (ls : Array Slot), GW X (pk V b (q4 U j p (U 0 25) z) f g) H → va_S (wA X) s0.heap H locs → lv_has ls 6 [] → W pg l ev Rm s0 mi ag bl mt cd H locs 0 0 Qq (F0 mi 182 ls [.int (jI s), .ref (wa X 0)]) := by
                      intro s hs H locs ls hG hS hl
                      refine x_puti E hI hG hS (ym0 hY) cf8 25 25 rfl rfl (by decide) rfl rfl kf_X8_184 dX8_next_182 (fun H locs hG hS => ?_)
                      rw [show (st (pk V b (q4 U j p (U 0 25) z) f g) 0 25 s) = (pk V b (q4 U j p s z) f g) from pk_q25 _] at hG
                      refine x_goto E 314 dX8_next_185 (by decide) ?_
                      exact L314_3 j p s z (⟨ep2, Or.inr ⟨hpl, ej2, Or.inl ⟨hLp, hz, hs⟩⟩⟩) _ _ _ hG hS (lv_sub hl [] rfl)
                    refine x_aload_n E dX8_next_169 (lv_at hl 0 rfl) ?_
                    refine x_aload_n E dX8_next_170 (lv_at hl 0 rfl) ?_
                    refine x_geti E hI hG (ym0 hY) cf8 26 (z) rfl (by decide) rfl kf_X8_196 dX8_next_171 ?_
                    refine x_if_ge E 181 dX8_next_174 (by decide) (by unfold rg; omega) (fun c174 => ?_) (fun c174 => ?_)
                    · refine x_iconst E dX8_next_181 ?_
                      exact L182_10 1 (by rw [← hz, if_neg (by omega)]) _ _ _ hG hS (lv_sub hl [] rfl)
                    · refine x_iconst E dX8_next_177 ?_
                      refine x_goto E 182 dX8_next_178 (by decide) ?_
                      exact L182_10 4 (by rw [← hz, if_pos (by omega)]) _ _ _ hG hS (lv_sub hl [] rfl)
                  refine x_aload_n E dX8_next_150 (lv_at hl 0 rfl) ?_
                  refine x_iload E dX8_next_151 (lv_at hl 2 rfl) ?_
                  refine x_bipush E dX8_next_153 (by decide) ?_
                  refine x_icmp_le E 162 dX8_next_155 (by decide) (by unfold rg; omega) (by unfold rg; omega) (fun c155 => ?_) (fun c155 => ?_)
                  · have hpk := pkK_rg (F := U 11) (i := p) (min nn 8).toNat (fun x h0 h1 => hal x h0 (by omega))
                    have hpw := pow64 (show (min nn 8).toNat ≤ 8 by omega)
                    rw [if_neg (by omega), show nn.toNat = (min nn 8).toNat by omega] at hwe
                    refine x_lload_n E dX8_next_162 (lv_at hl 1 rfl) ?_
                    refine x_ci hG hS (x_runS E hI hG hS (c_X8_wordOf l (pk V b (q4 U j p (U 0 25) (U 0 26)) f g) (pkK (U 11) p (min nn 8).toNat) (by omega)) mf_X8_wordOf km_X8_192 rfl hl rfl (Nat.le_of_ble_eq_true rfl) (by rw [hR]; exact ⟨Nat.le_of_ble_eq_true rfl, Nat.le_of_ble_eq_true rfl⟩) ⟨Nat.zero_le _, Nat.zero_le _⟩ dX8_next_163) (fun z1 V1 H locs hp hG hS => ?_)
                    obtain ⟨ez, eV⟩ := hp
                    rw [hwe] at ez
                    rw [eV] at hG
                    rw [ez]
                    exact L166_9 (wv (U 11) p j) rfl _ _ _ hG hS (lv_sub hl [0] rfl)
                  · refine x_iconst E dX8_next_158 ?_
                    refine x_goto E 166 dX8_next_159 (by decide) ?_
                    exact L166_9 (-1) (by rw [← hwe, if_pos (by omega)]) _ _ _ hG hS (lv_sub hl [0] rfl)
                refine x_aload_n E dX8_next_79 (lv_at hl 0 rfl) ?_
                refine x_geti E hI hG (ym0 hY) cf8 23 (j) rfl (by decide) rfl kf_X8_178 dX8_next_80 ?_
                refine x_iload_n E dX8_next_83 (lv_at hl 1 rfl) ?_
                refine x_icmp_ge E 150 dX8_next_84 (by decide) (by unfold rg; omega) (by unfold rg; omega) (fun c84 => ?_) (fun c84 => ?_)
                · exact L150_8  (by rw [← ej (by omega)]; exact (advL_end _ (by omega)).symm) _ _ _ hG hS (lv_sub hl [0, 2, 3] rfl)
                · have hvj := (hby j (by omega) (by omega))
                  refine x_aload_n E dX8_next_87 (lv_at hl 0 rfl) ?_
                  refine x_getr E hI hG (ym0 hY) cf8 21 11 rfl (by decide) kf_X8_44 dX8_next_88 ?_
                  refine x_aload_n E dX8_next_91 (lv_at hl 0 rfl) ?_
                  refine x_geti E hI hG (ym0 hY) cf8 23 (j) rfl (by decide) rfl kf_X8_178 dX8_next_92 ?_
                  refine x_bald E hI hG (ym11 hY) (U 11 j) rfl (by omega) dX8_next_95 ?_
                  refine x_ci hG hS (x_runS E hI hG hS (c_X8_isLetter l (pk V b (q4 U j p (U 0 25) (U 0 26)) f g) (U 11 j) hvj) mf_X8_isLetter km_X8_187 rfl hl rfl (Nat.le_of_ble_eq_true rfl) (by rw [hR]; exact ⟨Nat.le_of_ble_eq_true rfl, Nat.le_of_ble_eq_true rfl⟩) ⟨Nat.zero_le _, Nat.zero_le _⟩ dX8_next_96) (fun z1 V1 H locs hp hG hS => ?_)
                  obtain ⟨ez, eV⟩ := hp
                  rw [eV] at hG
                  rw [ez]
                  refine x_if_eq E 150 dX8_next_99 (by decide) (b2i_rg _) (fun c99 => ?_) (fun c99 => ?_)
                  · exact L150_8  (by
                                                                                have q : p < j := by
                                                                                  rcases (show p < j ∨ p = j by omega) with q | q
                                                                                  · exact q
                                                                                  · have := b2i_0.mp c99; rw [← q, hLp] at this; cases this
                                                                                rw [← ej q]; exact (advL_no (p := (fun j => isL (U 11 j))) (b2i_0.mp c99)).symm) _ _ _ hG hS (lv_sub hl [0, 2, 3] rfl)
                  · have hLj := b2i_ne.mp c99
                    have L133_11 : ∀ (H : Heap) (locs : List Loc) (ls : Array Slot), GW X (pk V b (q4 U j p (U 0 25) (U 0 26)) f g) H → va_S (wA X) s0.heap H locs → lv_has ls 6 [(0, .ref (wa X 0)), (1, .int (jI L)), (5, .int (jI nn))] → W pg l ev Rm s0 mi ag bl mt cd H locs 0 0 Qq (F0 mi 133 ls [.long (lI (pkK (U 11) p (min (nn + 1) (8 : Int)).toNat))]) := by
                      intro   H locs ls hG hS hl
                      refine x_lstore_n E [(3, .long (lI (pkK (U 11) p (min (nn + 1) (8 : Int)).toNat))), (0, .ref (wa X 0)), (1, .int (jI L)), (5, .int (jI nn))] dX8_next_133 hl (by decide) rfl (fun ls hl => ?_)
                      refine x_iinc E (k := 3) [(5, .int (jI (nn + 1))), (3, .long (lI (pkK (U 11) p (min (nn + 1) (8 : Int)).toNat))), (0, .ref (wa X 0)), (1, .int (jI L))] dX8_next_134 hl rfl (by decide) rfl (fun ls hl => ?_)
                      refine x_aload_n E dX8_next_137 (lv_at hl 2 rfl) ?_
                      refine x_dup E dX8_next_138 rfl ?_
                      refine x_geti E hI hG (ym0 hY) cf8 23 (j) rfl (by decide) rfl kf_X8_178 dX8_next_139 ?_
                      refine x_iconst E dX8_next_142 ?_
                      refine x_iadd E dX8_next_143 ?_
                      refine x_puti E hI hG hS (ym0 hY) cf8 23 23 rfl rfl (by decide) rfl rfl kf_X8_178 dX8_next_144 (fun H locs hG hS => ?_)
                      rw [show (st (pk V b (q4 U j p (U 0 25) (U 0 26)) f g) 0 23 (j + 1)) = (pk V b (q4 U (j + 1) p (U 0 25) (U 0 26)) f g) from pk_q23 _] at hG
                      refine x_goto E 79 dX8_next_147 (by decide) ?_
                      exact ih79 (j + 1) (nn + 1) (by omega) (by omega) (by omega) (fun x h0 h1 => by
                                                                                  rcases (show x < j ∨ x = j by omega) with q | q
                                                                                  · exact hal x h0 q
                                                                                  · rw [q]; exact hLj) (fun _ => by
                                                                                  rcases (show p < j ∨ p = j by omega) with q | q
                                                                                  · rw [← ej q]; exact (advL_yes (p := (fun j => isL (U 11 j))) (by omega) hLj).symm
                                                                                  · unfold tend; rw [if_pos hLp, q]) (by omega) _ _ _ hG hS (lv_sub hl [2, 3, 1, 0] rfl)
                    refine x_iload E dX8_next_102 (lv_at hl 3 rfl) ?_
                    refine x_bipush E dX8_next_104 (by decide) ?_
                    refine x_icmp_ge E 132 dX8_next_106 (by decide) (by unfold rg; omega) (by unfold rg; omega) (fun c106 => ?_) (fun c106 => ?_)
                    · refine x_lload_n E dX8_next_132 (lv_at hl 2 rfl) ?_
                      refine x_rawL (lI (pkK (U 11) p (min (nn + 1) (8 : Int)).toNat)) (by rw [show min (nn + 1) 8 = min nn 8 by omega]) ?_
                      exact L133_11   _ _ _ hG hS (lv_sub hl [0, 1, 3] rfl)
                    · refine lv_ldc2 E.1 E.2.1 E.2.2.2.1 (E.2.2.2.2.1 _ kk_X8_190) dX8_next_109 ?_
                      refine x_lload_n E dX8_next_112 (lv_at hl 2 rfl) ?_
                      refine lv_lmul E.1 E.2.1 dX8_next_113 ?_
                      refine x_aload_n E dX8_next_114 (lv_at hl 0 rfl) ?_
                      refine x_getr E hI hG (ym0 hY) cf8 21 11 rfl (by decide) kf_X8_44 dX8_next_115 ?_
                      refine x_aload_n E dX8_next_118 (lv_at hl 0 rfl) ?_
                      refine x_geti E hI hG (ym0 hY) cf8 23 (j) rfl (by decide) rfl kf_X8_178 dX8_next_119 ?_
                      refine x_bald E hI hG (ym11 hY) (U 11 j) rfl (by omega) dX8_next_122 ?_
                      refine lv_i2l E.1 E.2.1 dX8_next_123 rfl ?_
                      refine lv_ladd E.1 E.2.1 dX8_next_124 ?_
                      refine lv_ldc2 E.1 E.2.1 E.2.2.2.1 (E.2.2.2.2.1 _ kk_X8_190) dX8_next_125 ?_
                      refine lv_lsub E.1 E.2.1 dX8_next_128 ?_
                      refine x_rawL (lI (pkK (U 11) p (min (nn + 1) (8 : Int)).toNat)) (by
                                                                                  rw [show (64 : Int64) = lI 64 by decide, l_mul, l_j (by unfold rg; omega), l_add, l_sub, show (min (nn + 1) 8).toNat = (min nn 8).toNat + 1 by omega]
                                                                                  show _ = lI (64 * pkK (U 11) p (min nn 8).toNat + U 11 (p + ((min nn 8).toNat : Int)) - 64)
                                                                                  rw [show p + ((min nn 8).toNat : Int) = j by omega]) ?_
                      refine x_goto E 133 dX8_next_129 (by decide) ?_
                      exact L133_11   _ _ _ hG hS (lv_sub hl [0, 1, 3] rfl)
            exact L79_7 _ p 0 (by omega) (by omega) (by omega) (fun x h0 h1 => by omega) (fun z => by omega) (Nat.lt_succ_self _) _ _ _ hG hS (lv_sub hl [3, 4, 1, 0] rfl)
        · refine x_aload_n E dX8_next_51 (lv_at hl 0 rfl) ?_
          refine x_iconst E dX8_next_52 ?_
          refine x_puti E hI hG hS (ym0 hY) cf8 25 25 rfl rfl (by decide) rfl rfl kf_X8_184 dX8_next_53 (fun H locs hG hS => ?_)
          rw [show (st (pk V b (q4 U p p (U 0 25) (U 0 26)) f g) 0 25 0) = (pk V b (q4 U p p 0 (U 0 26)) f g) from pk_q25 _] at hG
          exact r_v E hQ hG hS dX8_next_56 (⟨p, p, 0, (U 0 26), rfl, ep2, Or.inl ⟨by omega, rfl, rfl⟩⟩)
      refine x_aload_n E dX8_next_0 (lv_at hl 0 rfl) ?_
      refine x_geti E hI hG (ym0 hY) cf8 23 (p) rfl (by decide) rfl kf_X8_178 dX8_next_1 ?_
      refine x_iload_n E dX8_next_4 (lv_at hl 1 rfl) ?_
      refine x_icmp_ge E 35 dX8_next_5 (by decide) (by unfold rg; omega) (by unfold rg; omega) (fun c5 => ?_) (fun c5 => ?_)
      · exact L35_2  (by rw [← ep]; exact (advL_end _ (by omega)).symm) _ _ _ hG hS (lv_sub hl [0, 1] rfl)
      · have hv := (hby p (by omega) (by omega))
        refine x_aload_n E dX8_next_8 (lv_at hl 0 rfl) ?_
        refine x_getr E hI hG (ym0 hY) cf8 21 11 rfl (by decide) kf_X8_44 dX8_next_9 ?_
        refine x_aload_n E dX8_next_12 (lv_at hl 0 rfl) ?_
        refine x_geti E hI hG (ym0 hY) cf8 23 (p) rfl (by decide) rfl kf_X8_178 dX8_next_13 ?_
        refine x_bald E hI hG (ym11 hY) (U 11 p) rfl (by omega) dX8_next_16 ?_
        refine x_bipush E dX8_next_17 (by decide) ?_
        refine x_icmp_ne E 35 dX8_next_19 (by decide) (by unfold rg; omega) (by unfold rg; omega) (fun c19 => ?_) (fun c19 => ?_)
        · exact L35_2  (by rw [← ep]; exact (advL_no (p := (fun j => decide (U 11 j = 32))) (decide_eq_false (by omega))).symm) _ _ _ hG hS (lv_sub hl [0, 1] rfl)
        · refine x_aload_n E dX8_next_22 (lv_at hl 0 rfl) ?_
          refine x_dup E dX8_next_23 rfl ?_
          refine x_geti E hI hG (ym0 hY) cf8 23 (p) rfl (by decide) rfl kf_X8_178 dX8_next_24 ?_
          refine x_iconst E dX8_next_27 ?_
          refine x_iadd E dX8_next_28 ?_
          refine x_puti E hI hG hS (ym0 hY) cf8 23 23 rfl rfl (by decide) rfl rfl kf_X8_178 dX8_next_29 (fun H locs hG hS => ?_)
          rw [show (st (pk V b (q4 U p (U 0 24) (U 0 25) (U 0 26)) f g) 0 23 (p + 1)) = (pk V b (q4 U (p + 1) (U 0 24) (U 0 25) (U 0 26)) f g) from pk_q23 _] at hG
          refine x_goto E 0 dX8_next_32 (by decide) ?_
          exact ih0 (p + 1) (by omega) (by omega) (by rw [← ep]; exact (advL_yes (p := (fun j => decide (U 11 j = 32))) (by omega) (decide_eq_true (by omega))).symm) (by omega) _ _ _ hG hS (lv_sub hl [0, 1] rfl)
  exact L0_1 _ (U 0 23) (by omega) (by omega) rfl (Nat.lt_succ_self _) _ _ _ hG hS (lv_sub hl [0, 1] rfl)
