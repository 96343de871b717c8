/-! ===== sliding: the pure part ===== -/
def stp (wd hi sl : Int) (h : Int → Int) (c : Int) : Prop := ∃ k : Int, 0 ≤ k ∧ k < 4 ∧ 0 ≤ nb wd hi c k ∧ sl < h c - h (nb wd hi c k)
def lb (h : Int → Int) (t d : Int) : Int := if 0 ≤ d ∧ (t < 0 ∨ h d < h t) then d else t
def lowK (wd hi : Int) (h : Int → Int) (c : Int) : Nat → Int
  | 0 => -1
  | j + 1 => lb h (lowK wd hi h c j) (nb wd hi c (j : Int))
def lowN (wd hi : Int) (h : Int → Int) (c : Int) : Int := lowK wd hi h c 4
def slide (wd hi : Int) (h : Int → Int) (c : Int) : Int → Int := ui (ui h c (h c - 1)) (lowN wd hi h c) (h (lowN wd hi h c) + 1)
theorem lowK_spec (wd hi : Int) (h : Int → Int) (c : Int) : ∀ j : Nat, (lowK wd hi h c j = -1 ∧ ∀ i : Nat, i < j → nb wd hi c (i : Int) < 0) ∨ (0 ≤ lowK wd hi h c j ∧ (∃ i : Nat, i < j ∧ lowK wd hi h c j = nb wd hi c (i : Int)) ∧ ∀ i : Nat, i < j → 0 ≤ nb wd hi c (i : Int) → h (lowK wd hi h c j) ≤ h (nb wd hi c (i : Int))) := by
  intro j
  induction j with
  | zero => exact Or.inl ⟨rfl, fun i hi => absurd hi (Nat.not_lt_zero _)⟩
  | succ j ih =>
    show (lb h (lowK wd hi h c j) (nb wd hi c (j : Int)) = -1 ∧ _) ∨ _
    have e : lowK wd hi h c (j + 1) = lb h (lowK wd hi h c j) (nb wd hi c (j : Int)) := rfl
    rw [e]
    generalize lowK wd hi h c j = t at ih
    unfold lb
    split
    · rename_i hq
      refine Or.inr ⟨hq.1, ⟨j, Nat.lt_succ_self j, rfl⟩, fun i hi h0 => ?_⟩
      rcases Nat.lt_succ_iff_lt_or_eq.mp hi with q | rfl
      · rcases ih with ⟨a1, a2⟩ | ⟨a1, a2, a3⟩
        · have := a2 i q; omega
        · have := a3 i q h0
          rcases hq.2 with z | z <;> omega
      · omega
    · rename_i hq
      rcases ih with ⟨a1, a2⟩ | ⟨a1, ⟨i, a2, a2'⟩, a3⟩
      · refine Or.inl ⟨a1, fun i hi => ?_⟩
        rcases Nat.lt_succ_iff_lt_or_eq.mp hi with q | rfl
        · exact a2 i q
        · rw [a1] at hq; omega
      · refine Or.inr ⟨a1, ⟨i, by omega, a2'⟩, fun i hi h0 => ?_⟩
        rcases Nat.lt_succ_iff_lt_or_eq.mp hi with q | rfl
        · exact a3 i q h0
        · omega
section PS
variable {n : Nat} {wd hi : Int}
theorem row_lt (hd : dims n wd hi) {c : Int} (h0 : 0 ≤ c) (h1 : c < (n : Int)) : 0 ≤ c / wd ∧ c / wd < hi ∧ 0 ≤ c % wd ∧ c % wd < wd ∧ c = c / wd * wd + c % wd := by
  obtain ⟨e, a1, a2, a3, a4⟩ := hd
  have hq := Int.mul_ediv_add_emod c wd
  refine ⟨Int.ediv_nonneg h0 (by omega), ?_, Int.emod_nonneg _ (by omega), Int.emod_lt_of_pos _ (by omega), ?_⟩
  · apply Int.ediv_lt_of_lt_mul (by omega)
    rw [← Int.mul_comm wd hi, ← e]; exact h1
  · rw [Int.mul_comm]; omega
theorem cell_of (hd : dims n wd hi) {x y : Int} (hy0 : 0 ≤ y) (hy1 : y < hi) (hx0 : 0 ≤ x) (hx1 : x < wd) : 0 ≤ y * wd + x ∧ y * wd + x < (n : Int) ∧ (y * wd + x) / wd = y ∧ (y * wd + x) % wd = x := by
  obtain ⟨e, a1, a2, a3, a4⟩ := hd
  have b1 : 0 ≤ y * wd := Int.mul_nonneg hy0 (by omega)
  have b2 : (y + 1) * wd ≤ hi * wd := Int.mul_le_mul_of_nonneg_right (by omega) (by omega)
  rw [Int.add_mul, Int.mul_comm hi wd, ← e] at b2
  refine ⟨by omega, by omega, ?_, ?_⟩
  · rw [Int.add_comm, Int.add_mul_ediv_right _ _ (by omega), Int.ediv_eq_zero_of_lt hx0 hx1]; omega
  · rw [Int.add_comm, Int.add_mul_emod_self_right]
    exact Int.emod_eq_of_lt hx0 hx1
/-- the neighbours, by row and column -/
theorem nb_xy (hd : dims n wd hi) {x y : Int} (hy0 : 0 ≤ y) (hy1 : y < hi) (hx0 : 0 ≤ x) (hx1 : x < wd) :
    nb wd hi (y * wd + x) 0 = (if x + 1 < wd then y * wd + (x + 1) else -1) ∧ nb wd hi (y * wd + x) 1 = (if 0 < x then y * wd + (x - 1) else -1) ∧ nb wd hi (y * wd + x) 2 = ((if y + 1 < hi then y + 1 else 0) * wd + x) ∧ nb wd hi (y * wd + x) 3 = ((if 0 < y then y - 1 else hi - 1) * wd + x) := by
  obtain ⟨_, _, e1, e2⟩ := cell_of hd hy0 hy1 hx0 hx1
  have hh : 2 ≤ hi := hd.2.2.2.1
  unfold nb
  rw [e1, e2]
  refine ⟨?_, ?_, ?_, ?_⟩
  · rw [if_pos rfl]; split <;> omega
  · rw [if_neg (by decide), if_pos rfl]; split <;> omega
  · rw [if_neg (by decide), if_neg (by decide), if_pos rfl]
    split
    · rw [Int.emod_eq_of_lt (by omega) (by omega)]
    · rw [show y + 1 = hi by omega, Int.emod_self]
  · rw [if_neg (by decide), if_neg (by decide), if_neg (by decide)]
    split
    · rw [show y + hi - 1 = (y - 1) + hi by omega, Int.add_emod_right, Int.emod_eq_of_lt (by omega) (by omega)]
    · rw [show y + hi - 1 = hi - 1 by omega, Int.emod_eq_of_lt (by omega) (by omega)]
theorem k4 {k : Int} (h0 : 0 ≤ k) (h1 : k < 4) : k = 0 ∨ k = 1 ∨ k = 2 ∨ k = 3 := by omega
theorem nb_sym (hd : dims n wd hi) {c k : Int} (h0 : 0 ≤ c) (h1 : c < (n : Int)) (k0 : 0 ≤ k) (k1 : k < 4) (hp : 0 ≤ nb wd hi c k) : ∃ j : Int, 0 ≤ j ∧ j < 4 ∧ nb wd hi (nb wd hi c k) j = c := by
  obtain ⟨y0, y1, x0, x1, ec⟩ := row_lt hd h0 h1
  generalize c / wd = y at *
  generalize c % wd = x at *
  subst ec
  obtain ⟨n0, n1, n2, n3⟩ := nb_xy hd y0 y1 x0 x1
  have hh : 2 ≤ hi := hd.2.2.2.1
  rcases k4 k0 k1 with rfl | rfl | rfl | rfl
  · rw [n0] at hp ⊢
    by_cases q : x + 1 < wd
    · rw [if_pos q] at hp ⊢
      refine ⟨1, by omega, by omega, ?_⟩
      rw [(nb_xy hd y0 y1 (x := x + 1) (by omega) q).2.1, if_pos (by omega)]; omega
    · rw [if_neg q] at hp; omega
  · rw [n1] at hp ⊢
    by_cases q : 0 < x
    · rw [if_pos q] at hp ⊢
      refine ⟨0, by omega, by omega, ?_⟩
      rw [(nb_xy hd y0 y1 (x := x - 1) (by omega) (by omega)).1, if_pos (by omega)]; omega
    · rw [if_neg q] at hp; omega
  · rw [n2]
    refine ⟨3, by omega, by omega, ?_⟩
    by_cases q : y + 1 < hi
    · rw [if_pos q, (nb_xy hd (y := y + 1) (by omega) q x0 x1).2.2.2, if_pos (by omega)]; congr 2; omega
    · rw [if_neg q, (nb_xy hd (y := 0) (by omega) (by omega) x0 x1).2.2.2, if_neg (by omega)]; congr 2; omega
  · rw [n3]
    refine ⟨2, by omega, by omega, ?_⟩
    by_cases q : 0 < y
    · rw [if_pos q, (nb_xy hd (y := y - 1) (by omega) (by omega) x0 x1).2.2.1, if_pos (by omega)]; congr 2; omega
    · rw [if_neg q, (nb_xy hd (y := hi - 1) (by omega) (by omega) x0 x1).2.2.1, if_neg (by omega)]; congr 2; omega
theorem nb_2 (hd : dims n wd hi) {c : Int} (h0 : 0 ≤ c) (h1 : c < (n : Int)) : 0 ≤ nb wd hi c 2 := by
  obtain ⟨y0, y1, x0, x1, ec⟩ := row_lt hd h0 h1
  generalize c / wd = y at *
  generalize c % wd = x at *
  subst ec
  rw [(nb_xy hd y0 y1 x0 x1).2.2.1]
  split
  · exact (cell_of hd (by omega) (by omega) x0 x1).1
  · exact (cell_of hd (by omega) (by omega) x0 x1).1
theorem nb_ne (hd : dims n wd hi) {c k : Int} (h0 : 0 ≤ c) (h1 : c < (n : Int)) (k0 : 0 ≤ k) (k1 : k < 4) : nb wd hi c k ≠ c := by
  obtain ⟨y0, y1, x0, x1, ec⟩ := row_lt hd h0 h1
  generalize c / wd = y at *
  generalize c % wd = x at *
  subst ec
  obtain ⟨n0, n1, n2, n3⟩ := nb_xy hd y0 y1 x0 x1
  have hh : 2 ≤ hi := hd.2.2.2.1
  have hne : ∀ z : Int, 0 ≤ z → z < hi → z ≠ y → z * wd + x ≠ y * wd + x := by
    intro z z0 z1 zy e
    have a := (cell_of hd z0 z1 x0 x1).2.2.1
    have b := (cell_of hd y0 y1 x0 x1).2.2.1
    rw [e] at a
    exact zy (a.symm.trans b)
  rcases k4 k0 k1 with rfl | rfl | rfl | rfl
  · rw [n0]; split <;> omega
  · rw [n1]; split <;> omega
  · rw [n2]; split
    · exact hne _ (by omega) (by omega) (by omega)
    · exact hne _ (by omega) (by omega) (by omega)
  · rw [n3]; split
    · exact hne _ (by omega) (by omega) (by omega)
    · exact hne _ (by omega) (by omega) (by omega)
theorem lowN_spec (hd : dims n wd hi) (h : Int → Int) {c : Int} (h0 : 0 ≤ c) (h1 : c < (n : Int)) : 0 ≤ lowN wd hi h c ∧ lowN wd hi h c < (n : Int) ∧ lowN wd hi h c ≠ c ∧ (∃ k : Int, 0 ≤ k ∧ k < 4 ∧ lowN wd hi h c = nb wd hi c k) ∧ ∀ k : Int, 0 ≤ k → k < 4 → 0 ≤ nb wd hi c k → h (lowN wd hi h c) ≤ h (nb wd hi c k) := by
  rcases lowK_spec wd hi h c 4 with ⟨a1, a2⟩ | ⟨a1, ⟨i, a2, a3⟩, a4⟩
  · have := a2 2 (by decide)
    have := nb_2 hd h0 h1
    simp at *
    omega
  · have e : lowN wd hi h c = nb wd hi c (i : Int) := a3
    refine ⟨a1, ?_, ?_, ⟨i, by omega, by omega, a3⟩, fun k k0 k1 hp => ?_⟩
    · rw [e]; exact (nb_range hd h0 h1).2
    · rw [e]; exact nb_ne hd h0 h1 (by omega) (by omega)
    · obtain ⟨j, rfl⟩ := Int.eq_ofNat_of_zero_le k0
      exact a4 j (by omega) hp
theorem stp_low (hd : dims n wd hi) {sl : Int} {h : Int → Int} {c : Int} (h0 : 0 ≤ c) (h1 : c < (n : Int)) : stp wd hi sl h c ↔ sl < h c - h (lowN wd hi h c) := by
  obtain ⟨a1, a2, a3, ⟨k, b0, b1, b2⟩, a4⟩ := lowN_spec hd h h0 h1
  constructor
  · rintro ⟨j, j0, j1, j2, j3⟩
    have := a4 j j0 j1 j2
    omega
  · intro q
    exact ⟨k, b0, b1, by rw [← b2]; exact a1, by rw [← b2]; exact q⟩
/-! sums -/
def su : Nat → (Int → Int) → Int
  | 0, _ => 0
  | k + 1, f => su k f + f (k : Int)
theorem su_congr {f g : Int → Int} : ∀ k : Nat, (∀ c : Int, 0 ≤ c → c < (k : Int) → f c = g c) → su k f = su k g
  | 0, _ => rfl
  | k + 1, h => by
    show su k f + f (k : Int) = su k g + g (k : Int)
    rw [su_congr k (fun c h0 h1 => h c h0 (by omega)), h (k : Int) (by omega) (by omega)]
theorem su_ui {f : Int → Int} {c v : Int} : ∀ k : Nat, 0 ≤ c → c < (k : Int) → su k (ui f c v) = su k f - f c + v
  | 0, h0, h1 => by omega
  | k + 1, h0, h1 => by
    show su k (ui f c v) + ui f c v (k : Int) = su k f + f (k : Int) - f c + v
    by_cases q : c = (k : Int)
    · rw [su_congr k (f := ui f c v) (g := f) (fun d d0 d1 => ui_n (by omega)), q, ui_s]; omega
    · rw [su_ui k h0 (by omega), ui_n (fun e => q e.symm)]; omega
theorem su_le {f g : Int → Int} : ∀ k : Nat, (∀ c : Int, 0 ≤ c → c < (k : Int) → f c ≤ g c) → su k f ≤ su k g
  | 0, _ => Int.le_refl _
  | k + 1, h => by
    have a := su_le k (fun c h0 h1 => h c h0 (by omega))
    have b := h (k : Int) (by omega) (by omega)
    show su k f + f (k : Int) ≤ su k g + g (k : Int)
    omega
theorem su_const (v : Int) : ∀ k : Nat, su k (fun _ => v) = (k : Int) * v
  | 0 => by simp [su]
  | k + 1 => by
    show su k (fun _ => v) + v = ((k + 1 : Nat) : Int) * v
    rw [su_const v k]
    rw [show ((k + 1 : Nat) : Int) = (k : Int) + 1 by omega, Int.add_mul]; omega
theorem su_at {f : Int → Int} {c : Int} : ∀ k : Nat, 0 ≤ c → c < (k : Int) → (∀ d : Int, 0 ≤ d → d < (k : Int) → 0 ≤ f d) → f c ≤ su k f
  | 0, h0, h1, _ => by omega
  | k + 1, h0, h1, hp => by
    show f c ≤ su k f + f (k : Int)
    have a : 0 ≤ su k f := by
      have := su_le k (f := fun _ => 0) (g := f) (fun d d0 d1 => hp d d0 (by omega))
      rw [su_const] at this
      omega
    by_cases q : c = (k : Int)
    · rw [q]; omega
    · have := su_at k h0 (by omega) (fun d d0 d1 => hp d d0 (by omega))
      have := hp (k : Int) (by omega) (by omega)
      omega
def sq (n : Nat) (m : Int) (h : Int → Int) : Int := su n (fun k => (h k - m) * (h k - m))
theorem sq_nonneg (n : Nat) (m : Int) (h : Int → Int) : 0 ≤ sq n m h := by
  have := su_le n (f := fun _ => 0) (g := fun k => (h k - m) * (h k - m)) (fun c _ _ => by
    show 0 ≤ (h c - m) * (h c - m)
    rcases Int.le_total 0 (h c - m) with q | q
    · exact Int.mul_nonneg q q
    · exact Int.mul_nonneg_of_nonpos_of_nonpos q q)
  rw [su_const] at this
  unfold sq
  omega
theorem sq_ui {m : Int} {h : Int → Int} {c v : Int} (h0 : 0 ≤ c) (h1 : c < (n : Int)) : sq n m (ui h c v) = sq n m h - (h c - m) * (h c - m) + (v - m) * (v - m) := by
  unfold sq
  rw [← su_ui n h0 h1]
  apply su_congr
  intro d _ _
  unfold ui
  split <;> rfl
theorem slide_sq (hd : dims n wd hi) {sl m : Int} {h : Int → Int} {c : Int} (hs : 1 ≤ sl) (h0 : 0 ≤ c) (h1 : c < (n : Int)) (q : stp wd hi sl h c) : sq n m (slide wd hi h c) ≤ sq n m h - 2 := by
  obtain ⟨a1, a2, a3, -, -⟩ := lowN_spec hd h h0 h1
  have q2 := (stp_low hd h0 h1).mp q
  unfold slide
  rw [sq_ui a1 a2, sq_ui h0 h1, ui_n a3]
  generalize lowN wd hi h c = t at *
  have hx : ∀ a b : Int, 2 ≤ a - b → -((b - m) * (b - m)) + (b + 1 - m) * (b + 1 - m) - (a - m) * (a - m) + (a - 1 - m) * (a - 1 - m) ≤ -2 := by
    intro a b hab
    have e1 : (b + 1 - m) * (b + 1 - m) = (b - m) * (b - m) + 2 * (b - m) + 1 := by
      rw [show b + 1 - m = (b - m) + 1 by omega, Int.add_mul, Int.mul_add]; omega
    have e2 : (a - 1 - m) * (a - 1 - m) = (a - m) * (a - m) - 2 * (a - m) + 1 := by
      rw [show a - 1 - m = (a - m) - 1 by omega, Int.sub_mul, Int.mul_sub]; omega
    rw [e1, e2]; omega
  have := hx (h c) (h t) (by omega)
  omega
end PS
