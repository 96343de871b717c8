/-! ===== winds, shadows, lots: the words of a day ===== -/
def gow (wd hi w : Int) : Nat → Int → Int
  | 0, c => c
  | k + 1, c => if 0 ≤ gow wd hi w k c then nb wd hi (gow wd hi w k c) w else -1
def opp (w : Int) : Int := if w = 0 then 1 else if w = 1 then 0 else if w = 2 then 3 else 2
def shK (wd hi : Int) (h : Int → Int) (c w : Int) : Nat → Bool
  | 0 => false
  | k + 1 => shK wd hi h c w k || decide (0 ≤ gow wd hi (opp w) (k + 1) c ∧ ((k + 1 : Nat) : Int) ≤ h (gow wd hi (opp w) (k + 1) c) - h c)
def shd (wd hi : Int) (h : Int → Int) (c w : Int) : Bool := shK wd hi h c w 8
def nx (z : Int) : Int := z * 1103515245 + 12345
def du (z : Int) : Int := (((jI z).toBitVec.toNat / 65536 : Nat) : Int)
def dw (z m : Int) : Int := du z % m
theorem du_rg (z : Int) : 0 ≤ du z ∧ du z < 65536 := by
  unfold du
  have := (jI z).toBitVec.isLt
  omega
theorem dw_rg (z : Int) {m : Int} (h : 0 < m) : 0 ≤ dw z m ∧ dw z m < m := ⟨Int.emod_nonneg _ (by omega), Int.emod_lt_of_pos _ h⟩
theorem q_du (z : Int) : ((jI z).toUInt32 >>> ((jI 16).toUInt32 &&& Int32.toUInt32 31)).toInt32 = jI (du z) := by
  apply Int32.toBitVec_inj.1
  apply BitVec.eq_of_toNat_eq
  rw [pk_ushr (jI z) (jI 16) 16 (by decide)]
  unfold du
  rw [← j_nat]
  have := (jI z).toBitVec.isLt
  rw [pk_tn (by omega)]
theorem opp_rg {w : Int} (h0 : 0 ≤ w) (h1 : w < 4) : 0 ≤ opp w ∧ opp w < 4 := by unfold opp; split; omega; split; omega; split <;> omega
theorem q_opp {w : Int} (h0 : 0 ≤ w) (h1 : w < 4) : jI w ^^^ jI 1 = jI (opp w) := by
  rcases (show w = 0 ∨ w = 1 ∨ w = 2 ∨ w = 3 by omega) with rfl | rfl | rfl | rfl <;> decide
theorem gow_rg {n : Nat} {wd hi c w : Int} (hd : dims n wd hi) (h0 : -1 ≤ c) (h1 : c < (n : Int)) : ∀ k : Nat, -1 ≤ gow wd hi w k c ∧ gow wd hi w k c < (n : Int)
  | 0 => ⟨h0, h1⟩
  | k + 1 => by
    have ih := gow_rg (w := w) hd h0 h1 k
    show -1 ≤ (if 0 ≤ gow wd hi w k c then nb wd hi (gow wd hi w k c) w else -1) ∧ (if 0 ≤ gow wd hi w k c then nb wd hi (gow wd hi w k c) w else -1) < (n : Int)
    split
    · exact nb_range hd (by assumption) ih.2
    · have := dims.n hd; omega
theorem gow_no {wd hi w c : Int} {k : Nat} (h : gow wd hi w k c < 0) : ∀ j : Nat, gow wd hi w (k + (j + 1)) c = -1
  | 0 => by show (if 0 ≤ gow wd hi w k c then _ else -1) = -1; rw [if_neg (by omega)]
  | j + 1 => by
    have ih := gow_no h j
    show (if 0 ≤ gow wd hi w (k + (j + 1)) c then _ else -1) = -1
    rw [ih, if_neg (by omega)]
theorem shK_no {wd hi : Int} {h : Int → Int} {c w : Int} {k : Nat} (hk : shK wd hi h c w k = false) (hn : gow wd hi (opp w) (k + 1) c < 0) : ∀ j : Nat, shK wd hi h c w (k + j) = false
  | 0 => hk
  | j + 1 => by
    have ih := shK_no hk hn j
    show (shK wd hi h c w (k + j) || _) = false
    rw [ih, Bool.false_or, decide_eq_false_iff_not]
    intro z
    have e : gow wd hi (opp w) (k + j + 1) c < 0 := by
      cases j with
      | zero => exact hn
      | succ j => have := gow_no hn j; rw [show k + (j + 1) + 1 = k + 1 + (j + 1) by omega, this]; omega
    exact Int.not_le.mpr e z.1
theorem shK_yes {wd hi : Int} {h : Int → Int} {c w : Int} {k : Nat} (hk : shK wd hi h c w k = true) : ∀ j : Nat, shK wd hi h c w (k + j) = true
  | 0 => hk
  | j + 1 => by
    show (shK wd hi h c w (k + j) || _) = true
    rw [shK_yes hk j, Bool.true_or]
/-! the day of a shore at place b: memory to memory -/
def drM (b : Nat) (V : Mem) : Mem := st V b 11 (nx (V b 11))
/-- is the grain of c lifted by w -/
def lfB (wd hi : Int) (b : Nat) (w c : Int) (V : Mem) : Bool := !decide (V (b + 1) c = 0) && !decide (0 < V (b + 6) c) && !shd wd hi (V (b + 1)) c w && (decide (V (b + 3) c = 0) || !decide (dw (nx (V b 11)) 100 < V (b + 3) c))
def lfM (wd hi : Int) (b : Nat) (w c : Int) (V : Mem) : Mem := if V (b + 1) c = 0 ∨ 0 < V (b + 6) c ∨ shd wd hi (V (b + 1)) c w = true ∨ V (b + 3) c = 0 then V else drM b V
/-- is it laid at c -/
def ldB (wd hi : Int) (b : Nat) (w c : Int) (V : Mem) : Bool := shd wd hi (V (b + 1)) c w || decide (V (b + 1) c < V (b + 4) c) || decide (dw (nx (V b 11)) 100 < if V (b + 1) c = 0 then V (b + 10) 2 else V (b + 10) 1)
def ldM (wd hi : Int) (b : Nat) (w c : Int) (V : Mem) : Mem := if shd wd hi (V (b + 1)) c w = true ∨ V (b + 1) c < V (b + 4) c then V else drM b V
def landR (wd hi : Int) (b : Nat) (w : Int) : Nat → Int → Mem → Int × Mem
  | 0, a, V => (a, V)
  | k + 1, a, V => if gow wd hi w (V (b + 10) 0).toNat a < 0 then (-1, V) else if k = 0 then (gow wd hi w (V (b + 10) 0).toNat a, V) else if ldB wd hi b w (gow wd hi w (V (b + 10) 0).toNat a) V = true then (gow wd hi w (V (b + 10) 0).toNat a, ldM wd hi b w (gow wd hi w (V (b + 10) 0).toNat a) V) else landR wd hi b w k (gow wd hi w (V (b + 10) 0).toNat a) (ldM wd hi b w (gow wd hi w (V (b + 10) 0).toNat a) V)
def loseM (b : Nat) (w : Int) (V : Mem) : Mem := if w = 0 then st V b 14 (V b 14 + 1) else st V b 13 (V b 13 + 1)
noncomputable def flyM (n : Nat) (wd hi : Int) (b : Nat) (w c : Int) (V : Mem) : Mem :=
  if (landR wd hi b w 10 c V).1 < 0 then loseM b w (landR wd hi b w 10 c V).2 else hput n wd hi b (landR wd hi b w 10 c V).1 ((landR wd hi b w 10 c V).2 (b + 1) (landR wd hi b w 10 c V).1 + 1) (landR wd hi b w 10 c V).2
noncomputable def liftM (n : Nat) (wd hi : Int) (b : Nat) (w : Int) (V : Mem) : Mem :=
  if lfB wd hi b w (dw (nx (V b 11)) (n : Int)) (drM b V) = true then
    flyM n wd hi b w (dw (nx (V b 11)) (n : Int)) (hput n wd hi b (dw (nx (V b 11)) (n : Int)) (V (b + 1) (dw (nx (V b 11)) (n : Int)) - 1) (lfM wd hi b w (dw (nx (V b 11)) (n : Int)) (drM b V)))
  else lfM wd hi b w (dw (nx (V b 11)) (n : Int)) (drM b V)
def itM (f : Mem → Mem) : Nat → Mem → Mem
  | 0, V => V
  | k + 1, V => f (itM f k V)
noncomputable def supM (n : Nat) (wd hi : Int) (b : Nat) (V : Mem) : Mem := hput n wd hi b (dw (nx (V b 11)) hi * wd) (V (b + 1) (dw (nx (V b 11)) hi * wd) + 1) (drM b (st V b 15 (V b 15 + 1)))
def wnd (w : Nat) (V : Mem) : Int := if V w 2 = 0 then 4 else V (w + 1) (V w 3)
/-- the winds' next day -/
def pdM (w : Nat) (V : Mem) : Mem := if V w 2 = 0 then V else if V w 4 + 1 < V (w + 2) (V w 3) then st V w 4 (V w 4 + 1) else st (st V w 4 0) w 3 (if V w 3 + 1 < V w 2 then V w 3 + 1 else 0)
def reM (n : Nat) (b : Nat) (V : Mem) : Mem := sp V (b + 7) (fun c => if 0 ≤ c ∧ c < (n : Int) ∧ 0 < V (b + 6) c ∧ V (b + 7) c = -1 ∧ V (b + 6) c ≤ V (b + 1) c then V b 12 else V (b + 7) c)
def grw (d : Int) : Int := if d < -2 then -20 else if d < 0 then -5 else if d = 0 then 1 else if d ≤ 3 then 6 else if d ≤ 6 then 2 else -30
def seM (n : Nat) (b : Nat) (V : Mem) : Mem := sp (sp V (b + 3) (fun c => if 0 ≤ c ∧ c < (n : Int) ∧ 0 < V (b + 3) c then max 0 (min 100 (V (b + 3) c + grw (V (b + 1) c - V (b + 2) c) - V (b + 5) c)) else V (b + 3) c)) (b + 2) (fun c => if 0 ≤ c ∧ c < (n : Int) then V (b + 1) c else V (b + 2) c)
noncomputable def blM (n : Nat) (wd hi : Int) (b : Nat) (w : Int) (V : Mem) : Mem := itM (liftM n wd hi b w) n V
noncomputable def dayA (n : Nat) (wd hi : Int) (b : Nat) (V : Mem) : Mem := if wnd (b + 11) V = 0 then itM (supM n wd hi b) (V (b + 10) 4).toNat V else V
noncomputable def dayB (n : Nat) (wd hi : Int) (b : Nat) (w : Int) (V : Mem) : Mem := if w = 4 then V else blM n wd hi b w V
def dayC (n : Nat) (b : Nat) (V : Mem) : Mem := reM n b (st (pdM (b + 11) V) b 12 (pdM (b + 11) V b 12 + 1))
def dayE (n : Nat) (b : Nat) (V : Mem) : Mem := if V b 12 % 30 = 0 then seM n b V else V
noncomputable def dayM (n : Nat) (wd hi : Int) (b : Nat) (V : Mem) : Mem := dayE n b (dayC n b (dayB n wd hi b (wnd (b + 11) V) (dayA n wd hi b V)))
noncomputable def psM (n : Nat) (wd hi : Int) (b : Nat) (k : Nat) (V : Mem) : Mem := itM (dayM n wd hi b) k V
/-! what holds of a shore at place b -/
def DR (V : Mem) (n b : Nat) : Prop := bnd n 0 9500 (V (b + 2)) ∧ bnd n 0 100 (V (b + 3)) ∧ bnd n 0 99 (V (b + 4)) ∧ bnd n 0 20 (V (b + 5)) ∧ bnd n 0 999 (V (b + 6)) ∧ bnd n (-1) 3000 (V (b + 7)) ∧ (1 ≤ V (b + 10) 0 ∧ V (b + 10) 0 ≤ 5) ∧ (0 ≤ V (b + 10) 1 ∧ V (b + 10) 1 ≤ 100) ∧ (0 ≤ V (b + 10) 2 ∧ V (b + 10) 2 ≤ 100) ∧ (0 ≤ V (b + 10) 4 ∧ V (b + 10) 4 ≤ 20)
def SK (V : Mem) (w : Nat) : Prop := 0 ≤ V w 2 ∧ V w 2 ≤ 20 ∧ ((V w 2 = 0 ∧ V w 3 = 0) ∨ (0 ≤ V w 3 ∧ V w 3 < V w 2 ∧ 0 ≤ V w 4 ∧ V w 4 < V (w + 2) (V w 3))) ∧ ∀ k : Int, 0 ≤ k → k < V w 2 → (0 ≤ V (w + 1) k ∧ V (w + 1) k ≤ 4) ∧ 1 ≤ V (w + 2) k ∧ V (w + 2) k ≤ 60
def Inv (V : Mem) (n : Nat) (wd hi : Int) (b : Nat) : Prop := DK V n wd hi b (20 * V b 12) ∧ DR V n b ∧ SK V (b + 11) ∧ 0 ≤ V b 12 ∧ V b 12 ≤ 3000
/-- mid-day: the heaps' bound told apart -/
def Mid (V : Mem) (n : Nat) (wd hi : Int) (b : Nat) (t : Int) : Prop := DK V n wd hi b t ∧ DR V n b ∧ SK V (b + 11) ∧ 0 ≤ V b 12 ∧ V b 12 ≤ 3000
