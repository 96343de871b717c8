section AH
variable {n : Nat} {wd hi : Int}
theorem gow_t {w c : Int} {k : Nat} : gow wd hi w (k + 1) c = if 0 ≤ gow wd hi w k c then nb wd hi (gow wd hi w k c) w else -1 := rfl
theorem em_succ {a m : Int} (hm : 0 < m) : (a + 1) % m = if a % m + 1 < m then a % m + 1 else 0 := by
  have h0 := Int.emod_nonneg a (show m ≠ 0 by omega)
  have h1 := Int.emod_lt_of_pos a hm
  rw [← Int.emod_add_emod a m 1]
  generalize a % m = r at *
  split
  · exact Int.emod_eq_of_lt (by omega) (by omega)
  · rw [show r + 1 = m by omega, Int.emod_self]
theorem em_pred {a m : Int} (hm : 0 < m) : (a - 1) % m = if 0 < a % m then a % m - 1 else m - 1 := by
  have h0 := Int.emod_nonneg a (show m ≠ 0 by omega)
  have h1 := Int.emod_lt_of_pos a hm
  rw [Int.sub_eq_add_neg, ← Int.emod_add_emod a m (-1)]
  generalize a % m = r at *
  split
  · rw [show r + -1 = r - 1 by omega]; exact Int.emod_eq_of_lt (by omega) (by omega)
  · rw [show r + -1 = (m - 1) - m by omega, Int.sub_emod_right, Int.emod_eq_of_lt (by omega) (by omega)]
theorem gow_xy (hd : dims n wd hi) {x y : Int} (y0 : 0 ≤ y) (y1 : y < hi) (x0 : 0 ≤ x) (x1 : x < wd) : ∀ k : Nat, gow wd hi 0 k (y * wd + x) = (if x + (k : Int) < wd then y * wd + (x + (k : Int)) else -1) ∧ gow wd hi 1 k (y * wd + x) = (if (k : Int) ≤ x then y * wd + (x - (k : Int)) else -1) ∧ gow wd hi 2 k (y * wd + x) = (y + (k : Int)) % hi * wd + x ∧ gow wd hi 3 k (y * wd + x) = (y - (k : Int)) % hi * wd + x := by
  have hh : 2 ≤ hi := hd.2.2.2.1
  intro k
  induction k with
  | zero =>
    refine ⟨?_, ?_, ?_, ?_⟩
    · rw [if_pos (by simpa using x1)]; show y * wd + x = _; simp
    · rw [if_pos (by simpa using x0)]; show y * wd + x = _; simp
    · show y * wd + x = _; rw [show y + ((0 : Nat) : Int) = y by simp, Int.emod_eq_of_lt y0 y1]
    · show y * wd + x = _; rw [show y - ((0 : Nat) : Int) = y by simp, Int.emod_eq_of_lt y0 y1]
  | succ k ih =>
    obtain ⟨i0, i1, i2, i3⟩ := ih
    have ec : ((k + 1 : Nat) : Int) = (k : Int) + 1 := by omega
    rw [ec]
    refine ⟨?_, ?_, ?_, ?_⟩
    · rw [gow_t, i0]
      by_cases q : x + (k : Int) < wd
      · rw [if_pos q, if_pos (cell_of hd y0 y1 (by omega) q).1, (nb_xy hd y0 y1 (by omega) q).1, Int.add_assoc]
      · rw [if_neg q, if_neg (by omega), if_neg (by omega)]
    · rw [gow_t, i1]
      by_cases q : (k : Int) ≤ x
      · rw [if_pos q, if_pos (cell_of hd y0 y1 (by omega) (by omega)).1, (nb_xy hd y0 y1 (x := x - (k : Int)) (by omega) (by omega)).2.1]
        by_cases z : (k : Int) + 1 ≤ x
        · rw [if_pos (by omega), if_pos z]; congr 1; omega
        · rw [if_neg (by omega), if_neg z]
      · rw [if_neg q, if_neg (by omega), if_neg (by omega)]
    · have m0 : 0 ≤ (y + (k : Int)) % hi := Int.emod_nonneg _ (by omega)
      have m1 : (y + (k : Int)) % hi < hi := Int.emod_lt_of_pos _ (by omega)
      rw [gow_t, i2, if_pos (cell_of hd m0 m1 x0 x1).1, (nb_xy hd m0 m1 x0 x1).2.2.1]
      congr 2
      rw [show y + ((k : Int) + 1) = (y + (k : Int)) + 1 by omega, em_succ (by omega)]
    · have m0 : 0 ≤ (y - (k : Int)) % hi := Int.emod_nonneg _ (by omega)
      have m1 : (y - (k : Int)) % hi < hi := Int.emod_lt_of_pos _ (by omega)
      rw [gow_t, i3, if_pos (cell_of hd m0 m1 x0 x1).1, (nb_xy hd m0 m1 x0 x1).2.2.2]
      congr 2
      rw [show y - ((k : Int) + 1) = (y - (k : Int)) - 1 by omega, em_pred (by omega)]
/-- the cell k steps ahead, as the model names it -/
def ahd (wd hi c w k : Int) : Int := if w < 2 then (if (if w = 0 then c % wd + k else c % wd - k) < 0 then -1 else if wd ≤ (if w = 0 then c % wd + k else c % wd - k) then -2 else c / wd * wd + (if w = 0 then c % wd + k else c % wd - k)) else (if w = 2 then c / wd + k else c / wd - k) % hi * wd + c % wd
theorem ahd_0 (c k : Int) : ahd wd hi c 0 k = if c % wd + k < 0 then -1 else if wd ≤ c % wd + k then -2 else c / wd * wd + (c % wd + k) := rfl
theorem ahd_1 (c k : Int) : ahd wd hi c 1 k = if c % wd - k < 0 then -1 else if wd ≤ c % wd - k then -2 else c / wd * wd + (c % wd - k) := rfl
theorem ahd_2 (c k : Int) : ahd wd hi c 2 k = (c / wd + k) % hi * wd + c % wd := rfl
theorem ahd_3 (c k : Int) : ahd wd hi c 3 k = (c / wd - k) % hi * wd + c % wd := rfl
theorem ahd_gow (hd : dims n wd hi) {c w k : Int} (h0 : 0 ≤ c) (h1 : c < (n : Int)) (w0 : 0 ≤ w) (w1 : w < 4) (k0 : 0 ≤ k) : (0 ≤ gow wd hi w k.toNat c → ahd wd hi c w k = gow wd hi w k.toNat c) ∧ (gow wd hi w k.toNat c < 0 → (w = 0 ∧ ahd wd hi c w k = -2) ∨ (w = 1 ∧ ahd wd hi c w k = -1)) := by
  obtain ⟨y0, y1, x0, x1, ec⟩ := row_lt hd h0 h1
  obtain ⟨g0, g1, g2, g3⟩ := gow_xy hd y0 y1 x0 x1 k.toNat
  rw [← ec, Int.toNat_of_nonneg k0] at g0 g1 g2 g3
  have hh : 2 ≤ hi := hd.2.2.2.1
  have a0 := ahd_0 (wd := wd) (hi := hi) c k
  have a1 := ahd_1 (wd := wd) (hi := hi) c k
  have a2 := ahd_2 (wd := wd) (hi := hi) c k
  have a3 := ahd_3 (wd := wd) (hi := hi) c k
  generalize c / wd = y at *
  generalize c % wd = x at *
  rcases k4 w0 w1 with rfl | rfl | rfl | rfl
  · rw [g0, a0]
    by_cases q : x + k < wd
    · have := (cell_of hd y0 y1 (x := x + k) (by omega) q).1
      rw [if_pos q, if_neg (show ¬ x + k < 0 by omega), if_neg (show ¬ wd ≤ x + k by omega)]; exact ⟨fun _ => rfl, fun z => by omega⟩
    · rw [if_neg q, if_neg (show ¬ x + k < 0 by omega), if_pos (show wd ≤ x + k by omega)]; exact ⟨fun z => by omega, fun _ => Or.inl ⟨rfl, rfl⟩⟩
  · rw [g1, a1]
    by_cases q : k ≤ x
    · have := (cell_of hd y0 y1 (x := x - k) (by omega) (by omega)).1
      rw [if_pos q, if_neg (show ¬ x - k < 0 by omega), if_neg (show ¬ wd ≤ x - k by omega)]; exact ⟨fun _ => rfl, fun z => by omega⟩
    · rw [if_neg q, if_pos (show x - k < 0 by omega)]; exact ⟨fun z => by omega, fun _ => Or.inr ⟨rfl, rfl⟩⟩
  · rw [g2, a2]
    have := (cell_of hd (Int.emod_nonneg (y + k) (by omega : hi ≠ 0)) (Int.emod_lt_of_pos (y + k) (by omega)) x0 x1).1
    exact ⟨fun _ => rfl, fun z => by omega⟩
  · rw [g3, a3]
    have := (cell_of hd (Int.emod_nonneg (y - k) (by omega : hi ≠ 0)) (Int.emod_lt_of_pos (y - k) (by omega)) x0 x1).1
    exact ⟨fun _ => rfl, fun z => by omega⟩
theorem ahd_opp (hd : dims n wd hi) {c w k : Int} (h0 : 0 ≤ c) (h1 : c < (n : Int)) (w0 : 0 ≤ w) (w1 : w < 4) (k0 : 0 ≤ k) : (0 ≤ gow wd hi (opp w) k.toNat c → ahd wd hi c w (-k) = gow wd hi (opp w) k.toNat c) ∧ (gow wd hi (opp w) k.toNat c < 0 → ahd wd hi c w (-k) < 0 ∧ -2 ≤ ahd wd hi c w (-k)) := by
  obtain ⟨y0, y1, x0, x1, ec⟩ := row_lt hd h0 h1
  obtain ⟨g0, g1, g2, g3⟩ := gow_xy hd y0 y1 x0 x1 k.toNat
  rw [← ec, Int.toNat_of_nonneg k0] at g0 g1 g2 g3
  have hh : 2 ≤ hi := hd.2.2.2.1
  have a0 := ahd_0 (wd := wd) (hi := hi) c (-k)
  have a1 := ahd_1 (wd := wd) (hi := hi) c (-k)
  have a2 := ahd_2 (wd := wd) (hi := hi) c (-k)
  have a3 := ahd_3 (wd := wd) (hi := hi) c (-k)
  generalize c / wd = y at *
  generalize c % wd = x at *
  rw [← Int.sub_eq_add_neg] at a0 a2
  rw [Int.sub_neg] at a1 a3
  rcases k4 w0 w1 with rfl | rfl | rfl | rfl
  · rw [show opp 0 = 1 from rfl, g1, a0]
    by_cases q : k ≤ x
    · have := (cell_of hd y0 y1 (x := x - k) (by omega) (by omega)).1
      rw [if_pos q, if_neg (show ¬ x - k < 0 by omega), if_neg (show ¬ wd ≤ x - k by omega)]; exact ⟨fun _ => rfl, fun z => by omega⟩
    · rw [if_neg q, if_pos (show x - k < 0 by omega)]; exact ⟨fun z => by omega, fun _ => by omega⟩
  · rw [show opp 1 = 0 from rfl, g0, a1]
    by_cases q : x + k < wd
    · have := (cell_of hd y0 y1 (x := x + k) (by omega) q).1
      rw [if_pos q, if_neg (show ¬ x + k < 0 by omega), if_neg (show ¬ wd ≤ x + k by omega)]; exact ⟨fun _ => rfl, fun z => by omega⟩
    · rw [if_neg q, if_neg (show ¬ x + k < 0 by omega), if_pos (show wd ≤ x + k by omega)]; exact ⟨fun z => by omega, fun _ => by omega⟩
  · rw [show opp 2 = 3 from rfl, g3, a2]
    have := (cell_of hd (Int.emod_nonneg (y - k) (by omega : hi ≠ 0)) (Int.emod_lt_of_pos (y - k) (by omega)) x0 x1).1
    exact ⟨fun _ => rfl, fun z => by omega⟩
  · rw [show opp 3 = 2 from rfl, g2, a3]
    have := (cell_of hd (Int.emod_nonneg (y + k) (by omega : hi ≠ 0)) (Int.emod_lt_of_pos (y + k) (by omega)) x0 x1).1
    exact ⟨fun _ => rfl, fun z => by omega⟩
theorem tm_em {a m : Int} (hm : 0 < m) : (if a.tmod m < 0 then a.tmod m + m else a.tmod m) = a % m := by
  have h1 := Int.emod_nonneg a (show m ≠ 0 by omega)
  have h2 := Int.emod_lt_of_pos a hm
  rw [Int.tmod_eq_emod]
  split <;> split <;> omega
end AH

set_option maxHeartbeats 4000000 in
set_option maxRecDepth 100000 in
theorem c_X8_ahead (l : Launch) {X : We} (hY : isY X) (V : Mem) {n : Nat} {wd hi : Int} (h0 : V 0 0 = wd) (h1 : V 0 1 = hi) (hd : dims n wd hi) (c w k : Int) (hc : 0 ≤ c ∧ c < (n : Int)) (hw : 0 ≤ w ∧ w < 4) (hk : -10 ≤ k ∧ k ≤ 10) : Mt l X V yX8_ahead cX8_ahead 7 (some .int) 0 0 [.ref (wa X 0), .int (jI c), .int (jI w), .int (jI k)] (Qi X (fun z V1 => z = ahd wd hi c w k ∧ V1 = V)) := by
  refine Mt.go (by decide) (Nat.le_of_ble_eq_true rfl) ?_
  intro pg ev s0 mi bl mt cd ls Rm ag Qq hR hQ E hI hG hS hl
  have hl : lv_has ls 7 [(0, .ref (wa X 0)), (1, .int (jI c)), (2, .int (jI w)), (3, .int (jI k))] := hl
  obtain ⟨hn1, hn2⟩ := dims.n hd
  obtain ⟨w1, w2, w3, w4⟩ := hd.2
  obtain ⟨y0, y1, x0, x1, ec⟩ := row_lt hd hc.1 hc.2
  refine x_iload_n E dX8_ahead_0 (lv_at hl 1 rfl) ?_
  refine x_aload_n E dX8_ahead_1 (lv_at hl 0 rfl) ?_
  refine x_geti E hI hG (ym0 hY) cf8 0 (wd) rfl (by decide) (show V 0 0 = wd from h0) kf_X8_97 dX8_ahead_2 ?_
  refine x_irem E (by omega) (by omega) dX8_ahead_5 ?_
  refine x_istore E [(4, .int (jI (c % wd))), (0, .ref (wa X 0)), (1, .int (jI c)), (2, .int (jI w)), (3, .int (jI k))] dX8_ahead_6 hl (by decide) rfl (fun ls hl => ?_)
  refine x_iload_n E dX8_ahead_8 (lv_at hl 2 rfl) ?_
  refine x_aload_n E dX8_ahead_9 (lv_at hl 1 rfl) ?_
  refine x_geti E hI hG (ym0 hY) cf8 0 (wd) rfl (by decide) (show V 0 0 = wd from h0) kf_X8_97 dX8_ahead_10 ?_
  refine x_idiv E (by omega) (by omega) dX8_ahead_13 ?_
  refine x_istore E [(5, .int (jI (c / wd))), (4, .int (jI (c % wd))), (0, .ref (wa X 0)), (1, .int (jI c)), (2, .int (jI w)), (3, .int (jI k))] dX8_ahead_14 hl (by decide) rfl (fun ls hl => ?_)
  refine x_iload_n E dX8_ahead_16 (lv_at hl 4 rfl) ?_
  refine x_iconst E dX8_ahead_17 ?_
  refine x_icmp_ge E 72 dX8_ahead_18 (by decide) (by unfold rg; omega) (by unfold rg; omega) (fun c18 => ?_) (fun c18 => ?_)
  · have L88_1 : ∀ (z : Int), (z = (if w = 2 then c / wd + k else c / wd - k)) → ∀ (H : Heap) (locs : List Loc) (ls : Array Slot), GW X V H → va_S (wA X) s0.heap H locs → lv_has ls 7 [(0, .ref (wa X 0)), (4, .int (jI (c % wd)))] → W pg l ev Rm s0 mi ag bl mt cd H locs 0 0 Qq (F0 mi 88 ls [.int (jI z)]) := by
      intro z hz H locs ls hG hS hl
      refine x_aload_n E dX8_ahead_88 (lv_at hl 0 rfl) ?_
      refine x_geti E hI hG (ym0 hY) cf8 1 (hi) rfl (by decide) (show V 0 1 = hi from h1) kf_X8_100 dX8_ahead_89 ?_
      refine x_iremT E (by unfold rg; rw [hz]; split <;> omega) (by omega) dX8_ahead_92 ?_
      refine x_istore E [(6, .int (jI (z.tmod hi))), (0, .ref (wa X 0)), (4, .int (jI (c % wd)))] dX8_ahead_93 hl (by decide) rfl (fun ls hl => ?_)
      have htm := tmod_bounds (a := z) (show 0 < hi by omega)
      have hem := tm_em (a := z) (show 0 < hi by omega)
      have L112_2 : ∀ (z2 : Int), (z2 = (if w = 2 then c / wd + k else c / wd - k) % hi) → ∀ (H : Heap) (locs : List Loc) (ls : Array Slot), GW X V H → va_S (wA X) s0.heap H locs → lv_has ls 7 [(0, .ref (wa X 0)), (4, .int (jI (c % wd)))] → W pg l ev Rm s0 mi ag bl mt cd H locs 0 0 Qq (F0 mi 112 ls [.int (jI z2)]) := by
        intro z2 hz2 H locs ls hG hS hl
        refine x_aload_n E dX8_ahead_112 (lv_at hl 0 rfl) ?_
        refine x_geti E hI hG (ym0 hY) cf8 0 (wd) rfl (by decide) (show V 0 0 = wd from h0) kf_X8_97 dX8_ahead_113 ?_
        refine x_imul E dX8_ahead_116 ?_
        refine x_iload E dX8_ahead_117 (lv_at hl 1 rfl) ?_
        refine x_iadd E dX8_ahead_119 ?_
        exact r_i E hQ hG hS dX8_ahead_120 (⟨by unfold ahd; rw [if_neg (by omega), hz2], rfl⟩)
      refine x_iload E dX8_ahead_95 (lv_at hl 0 rfl) ?_
      refine x_if_ge E 110 dX8_ahead_97 (by decide) (by unfold rg; omega) (fun c97 => ?_) (fun c97 => ?_)
      · refine x_iload E dX8_ahead_110 (lv_at hl 0 rfl) ?_
        exact L112_2 (z.tmod hi) (by rw [← hz, ← hem, if_neg (by omega)]) _ _ _ hG hS (lv_sub hl [1, 2] rfl)
      · refine x_iload E dX8_ahead_100 (lv_at hl 0 rfl) ?_
        refine x_aload_n E dX8_ahead_102 (lv_at hl 1 rfl) ?_
        refine x_geti E hI hG (ym0 hY) cf8 1 (hi) rfl (by decide) (show V 0 1 = hi from h1) kf_X8_100 dX8_ahead_103 ?_
        refine x_iadd E dX8_ahead_106 ?_
        refine x_goto E 112 dX8_ahead_107 (by decide) ?_
        exact L112_2 (z.tmod hi + hi) (by rw [← hz, ← hem, if_pos (by omega)]) _ _ _ hG hS (lv_sub hl [1, 2] rfl)
    refine x_iload_n E dX8_ahead_72 (lv_at hl 4 rfl) ?_
    refine x_iconst E dX8_ahead_73 ?_
    refine x_icmp_ne E 84 dX8_ahead_74 (by decide) (by unfold rg; omega) (by unfold rg; omega) (fun c74 => ?_) (fun c74 => ?_)
    · refine x_iload E dX8_ahead_84 (lv_at hl 0 rfl) ?_
      refine x_iload_n E dX8_ahead_86 (lv_at hl 5 rfl) ?_
      refine x_isub E dX8_ahead_87 ?_
      exact L88_1 (c / wd - k) (by rw [if_neg (by omega)]) _ _ _ hG hS (lv_sub hl [2, 1] rfl)
    · refine x_iload E dX8_ahead_77 (lv_at hl 0 rfl) ?_
      refine x_iload_n E dX8_ahead_79 (lv_at hl 5 rfl) ?_
      refine x_iadd E dX8_ahead_80 ?_
      refine x_goto E 88 dX8_ahead_81 (by decide) ?_
      exact L88_1 (c / wd + k) (by rw [if_pos (by omega)]) _ _ _ hG hS (lv_sub hl [2, 1] rfl)
  · have L36_3 : ∀ (z : Int), (z = (if w = 0 then c % wd + k else c % wd - k)) → ∀ (H : Heap) (locs : List Loc) (ls : Array Slot), GW X V H → va_S (wA X) s0.heap H locs → lv_has ls 7 [(0, .ref (wa X 0)), (5, .int (jI (c / wd)))] → W pg l ev Rm s0 mi ag bl mt cd H locs 0 0 Qq (F0 mi 36 ls [.int (jI z)]) := by
      intro z hz H locs ls hG hS hl
      refine x_istore E [(6, .int (jI z)), (0, .ref (wa X 0)), (5, .int (jI (c / wd)))] dX8_ahead_36 hl (by decide) rfl (fun ls hl => ?_)
      have L71_4 : ∀ (z2 : Int), (z2 = ahd wd hi c w k) → ∀ (H : Heap) (locs : List Loc) (ls : Array Slot), GW X V H → va_S (wA X) s0.heap H locs → lv_has ls 7 [] → W pg l ev Rm s0 mi ag bl mt cd H locs 0 0 Qq (F0 mi 71 ls [.int (jI z2)]) := by
        intro z2 hz2 H locs ls hG hS hl
        exact r_i E hQ hG hS dX8_ahead_71 (⟨hz2, rfl⟩)
      refine x_iload E dX8_ahead_38 (lv_at hl 0 rfl) ?_
      refine x_if_ge E 47 dX8_ahead_40 (by decide) (by unfold rg; omega) (fun c40 => ?_) (fun c40 => ?_)
      · refine x_iload E dX8_ahead_47 (lv_at hl 0 rfl) ?_
        refine x_aload_n E dX8_ahead_49 (lv_at hl 1 rfl) ?_
        refine x_geti E hI hG (ym0 hY) cf8 0 (wd) rfl (by decide) (show V 0 0 = wd from h0) kf_X8_97 dX8_ahead_50 ?_
        refine x_icmp_lt E 61 dX8_ahead_53 (by decide) (by unfold rg; omega) (by unfold rg; omega) (fun c53 => ?_) (fun c53 => ?_)
        · refine x_iload E dX8_ahead_61 (lv_at hl 2 rfl) ?_
          refine x_aload_n E dX8_ahead_63 (lv_at hl 1 rfl) ?_
          refine x_geti E hI hG (ym0 hY) cf8 0 (wd) rfl (by decide) (show V 0 0 = wd from h0) kf_X8_97 dX8_ahead_64 ?_
          refine x_imul E dX8_ahead_67 ?_
          refine x_iload E dX8_ahead_68 (lv_at hl 0 rfl) ?_
          refine x_iadd E dX8_ahead_70 ?_
          exact L71_4 (c / wd * wd + z) (by unfold ahd; rw [if_pos (by omega), ← hz, if_neg (by omega), if_neg (by omega)]) _ _ _ hG hS (lv_sub hl [] rfl)
        · refine x_bipush E dX8_ahead_56 (by decide) ?_
          refine x_goto E 71 dX8_ahead_58 (by decide) ?_
          exact L71_4 (-2) (by unfold ahd; rw [if_pos (by omega), ← hz, if_neg (by omega), if_pos (by omega)]) _ _ _ hG hS (lv_sub hl [] rfl)
      · refine x_iconst E dX8_ahead_43 ?_
        refine x_goto E 71 dX8_ahead_44 (by decide) ?_
        exact L71_4 (-1) (by unfold ahd; rw [if_pos (by omega), ← hz, if_pos (by omega)]) _ _ _ hG hS (lv_sub hl [] rfl)
    refine x_iload_n E dX8_ahead_21 (lv_at hl 4 rfl) ?_
    refine x_if_ne E 32 dX8_ahead_22 (by decide) (by unfold rg; omega) (fun c22 => ?_) (fun c22 => ?_)
    · refine x_iload E dX8_ahead_32 (lv_at hl 1 rfl) ?_
      refine x_iload_n E dX8_ahead_34 (lv_at hl 5 rfl) ?_
      refine x_isub E dX8_ahead_35 ?_
      exact L36_3 (c % wd - k) (by rw [if_neg (by omega)]) _ _ _ hG hS (lv_sub hl [2, 0] rfl)
    · refine x_iload E dX8_ahead_25 (lv_at hl 1 rfl) ?_
      refine x_iload_n E dX8_ahead_27 (lv_at hl 5 rfl) ?_
      refine x_iadd E dX8_ahead_28 ?_
      refine x_goto E 36 dX8_ahead_29 (by decide) ?_
      exact L36_3 (c % wd + k) (by rw [if_pos (by omega)]) _ _ _ hG hS (lv_sub hl [2, 0] rfl)

set_option maxHeartbeats 4000000 in
set_option maxRecDepth 100000 in
theorem c_X8_isShadow (l : Launch) {X : We} (hY : isY X) {n b : Nat} {wd hi : Int} (U : Mem) (hU : MU U n wd hi) (V : Mem) (f : Int → Int) (g : Int) (h : Int → Int) (hV : V (b + 1) = h) (hh : bnd n 0 9500 h) (c w : Int) (hc : 0 ≤ c ∧ c < (n : Int)) (hw : 0 ≤ w ∧ w < 4) : Mt l X (pk V b U f g) yX8_isShadow cX8_isShadow 6 (some .boolean) 1 26 [.ref (wa X 0), .int (jI c), .int (jI w)] (Qi X (fun z V1 => z = b2i (shd wd hi h c w) ∧ V1 = (pk V b U f g))) := by
  refine Mt.go (by decide) (Nat.le_of_ble_eq_true rfl) ?_
  intro pg ev s0 mi bl mt cd ls Rm ag Qq hR hQ E hI hG hS hl
  have hl : lv_has ls 6 [(0, .ref (wa X 0)), (1, .int (jI c)), (2, .int (jI w))] := hl
  have hd := hU.2.2.2
  obtain ⟨hn1, hn2⟩ := dims.n hd
  refine x_iconst E dX8_isShadow_0 ?_
  refine x_istore_n E [(3, .int (jI 0)), (0, .ref (wa X 0)), (1, .int (jI c)), (2, .int (jI w))] dX8_isShadow_1 hl (by decide) rfl (fun ls hl => ?_)
  refine x_iconst E dX8_isShadow_2 ?_
  refine x_istore E [(4, .int (jI 1)), (3, .int (jI 0)), (0, .ref (wa X 0)), (1, .int (jI c)), (2, .int (jI w))] dX8_isShadow_3 hl (by decide) rfl (fun ls hl => ?_)
  have L5_1 : ∀ (N : Nat) (k : Int) (z : Int), (1 ≤ k) → (k ≤ 9) → (z = b2i (shK wd hi h c w (k - 1).toNat)) → ((9 - k).toNat) < N → ∀ (H : Heap) (locs : List Loc) (ls : Array Slot), GW X (pk V b U f g) H → va_S (wA X) s0.heap H locs → lv_has ls 6 [(0, .ref (wa X 0)), (1, .int (jI c)), (2, .int (jI w)), (3, .int (jI z)), (4, .int (jI k))] → W pg l ev Rm s0 mi ag bl mt cd H locs 0 0 Qq (F0 mi 5 ls []) := by
    intro N
    induction N with
    | zero => intro k z k0 k1 hz hN; exact absurd hN (Nat.not_lt_zero _)
    | succ N ih5 =>
      intro k z k0 k1 hz hN H locs ls hG hS hl
      refine x_iload E dX8_isShadow_5 (lv_at hl 4 rfl) ?_
      refine x_bipush E dX8_isShadow_7 (by decide) ?_
      refine x_icmp_ge E 63 dX8_isShadow_9 (by decide) (by unfold rg; omega) (by unfold rg; omega) (fun c9 => ?_) (fun c9 => ?_)
      · refine x_iload_n E dX8_isShadow_63 (lv_at hl 3 rfl) ?_
        exact r_z E hQ hG hS dX8_isShadow_64 (by rw [hz]; exact b2i_c _) (⟨by rw [hz, show (k - 1).toNat = 8 by omega]; rfl, rfl⟩)
      · have hss := shK_s (wd := wd) (hi := hi) (h := h) (c := c) (w := w) k0
        obtain ⟨a1, a2⟩ := ahd_opp (k := k) hd hc.1 hc.2 hw.1 hw.2 (by omega)
        have hr := gow_rg (w := opp w) hd (show -1 ≤ c by omega) hc.2 k.toNat
        have hv1 := hh c hc.1 hc.2
        have hzb := b2i_c (shK wd hi h c w (k - 1).toNat)
        have hah : -2 ≤ ahd wd hi c w (-k) ∧ ahd wd hi c w (-k) < (n : Int) := by
          rcases Int.lt_or_le (gow wd hi (opp w) k.toNat c) 0 with q | q
          · have := a2 q; omega
          · rw [a1 q]; omega
        have L56_2 : ∀ (z2 : Int), (z2 = b2i (shK wd hi h c w k.toNat)) → ∀ (H : Heap) (locs : List Loc) (ls : Array Slot), GW X (pk V b U f g) H → va_S (wA X) s0.heap H locs → lv_has ls 6 [(0, .ref (wa X 0)), (1, .int (jI c)), (2, .int (jI w)), (4, .int (jI k))] → W pg l ev Rm s0 mi ag bl mt cd H locs 0 0 Qq (F0 mi 56 ls [.int (jI z2)]) := by
          intro z2 hz2 H locs ls hG hS hl
          refine x_istore_n E [(3, .int (jI z2)), (0, .ref (wa X 0)), (1, .int (jI c)), (2, .int (jI w)), (4, .int (jI k))] dX8_isShadow_56 hl (by decide) rfl (fun ls hl => ?_)
          refine x_iinc E (k := 4) [(4, .int (jI (k + 1))), (3, .int (jI z2)), (0, .ref (wa X 0)), (1, .int (jI c)), (2, .int (jI w))] dX8_isShadow_57 hl rfl (by decide) rfl (fun ls hl => ?_)
          refine x_goto E 5 dX8_isShadow_60 (by decide) ?_
          exact ih5 (k + 1) z2 (by omega) (by omega) (by rw [show k + 1 - 1 = k by omega]; exact hz2) (by omega) _ _ _ hG hS (lv_sub hl [2, 3, 4, 1, 0] rfl)
        have L55_3 : (shK wd hi h c w k.toNat = false) → ∀ (H : Heap) (locs : List Loc) (ls : Array Slot), GW X (pk V b U f g) H → va_S (wA X) s0.heap H locs → lv_has ls 6 [(0, .ref (wa X 0)), (1, .int (jI c)), (2, .int (jI w)), (4, .int (jI k))] → W pg l ev Rm s0 mi ag bl mt cd H locs 0 0 Qq (F0 mi 55 ls []) := by
          intro  hy H locs ls hG hS hl
          refine x_iconst E dX8_isShadow_55 ?_
          exact L56_2 0 (by rw [hy]; rfl) _ _ _ hG hS (lv_sub hl [0, 1, 2, 3] rfl)
        have L51_4 : (shK wd hi h c w k.toNat = true) → ∀ (H : Heap) (locs : List Loc) (ls : Array Slot), GW X (pk V b U f g) H → va_S (wA X) s0.heap H locs → lv_has ls 6 [(0, .ref (wa X 0)), (1, .int (jI c)), (2, .int (jI w)), (4, .int (jI k))] → W pg l ev Rm s0 mi ag bl mt cd H locs 0 0 Qq (F0 mi 51 ls []) := by
          intro  hy H locs ls hG hS hl
          refine x_iconst E dX8_isShadow_51 ?_
          refine x_goto E 56 dX8_isShadow_52 (by decide) ?_
          exact L56_2 1 (by rw [hy]; rfl) _ _ _ hG hS (lv_sub hl [0, 1, 2, 3] rfl)
        refine x_aload_n E dX8_isShadow_12 (lv_at hl 0 rfl) ?_
        refine x_iload_n E dX8_isShadow_13 (lv_at hl 1 rfl) ?_
        refine x_iload_n E dX8_isShadow_14 (lv_at hl 2 rfl) ?_
        refine x_iload E dX8_isShadow_15 (lv_at hl 4 rfl) ?_
        refine x_ineg E dX8_isShadow_17 ?_
        refine x_ci hG hS (x_runV E hI hG hS (ym0 hY) cf8 rfl (c_X8_ahead l hY (pk V b U f g) hU.1 hU.2.1 hd c w (-k) hc hw (by omega)) mf_X8_ahead km_X8_212 rfl hl rfl (Nat.le_of_ble_eq_true rfl) (by rw [hR]; exact ⟨Nat.le_of_ble_eq_true rfl, Nat.le_of_ble_eq_true rfl⟩) ⟨Nat.zero_le _, Nat.zero_le _⟩ dX8_isShadow_18) (fun z1 V1 H locs hp hG hS => ?_)
        obtain ⟨ez, eV⟩ := hp
        rw [eV] at hG
        rw [ez]
        refine x_istore E [(5, .int (jI (ahd wd hi c w (-k)))), (0, .ref (wa X 0)), (1, .int (jI c)), (2, .int (jI w)), (3, .int (jI z)), (4, .int (jI k))] dX8_isShadow_21 hl (by decide) rfl (fun ls hl => ?_)
        refine x_iload_n E dX8_isShadow_23 (lv_at hl 4 rfl) ?_
        refine x_if_ne E 51 dX8_isShadow_24 (by decide) (by unfold rg; omega) (fun c24 => ?_) (fun c24 => ?_)
        · have hsk : shK wd hi h c w (k - 1).toNat = true := b2i_ne.mp (by rw [← hz]; exact c24)
          exact L51_4  (by rw [hss, hsk, Bool.true_or]) _ _ _ hG hS (lv_sub hl [1, 2, 3, 5] rfl)
        · have hsk : shK wd hi h c w (k - 1).toNat = false := b2i_0.mp (by rw [← hz]; exact c24)
          refine x_iload E dX8_isShadow_27 (lv_at hl 0 rfl) ?_
          refine x_if_lt E 55 dX8_isShadow_29 (by decide) (by unfold rg; omega) (fun c29 => ?_) (fun c29 => ?_)
          · exact L55_3  (by rw [hss, hsk, Bool.false_or, decide_eq_false_iff_not]; intro q; rw [a1 q.1] at c29; omega) _ _ _ hG hS (lv_sub hl [1, 2, 3, 5] rfl)
          · have ego : ahd wd hi c w (-k) = gow wd hi (opp w) k.toNat c := a1 (by rcases Int.lt_or_le (gow wd hi (opp w) k.toNat c) 0 with q | q; exact absurd (a2 q).1 c29; exact q)
            have hv2 := hh (ahd wd hi c w (-k)) (by omega) hah.2
            refine x_aload_n E dX8_isShadow_32 (lv_at hl 1 rfl) ?_
            refine x_getr E hI hG (ym0 hY) cf8 3 1 rfl (by decide) kf_X8_7 dX8_isShadow_33 ?_
            refine x_iload E dX8_isShadow_36 (lv_at hl 0 rfl) ?_
            refine x_iald E hI hG (ym1 hY) (h (ahd wd hi c w (-k))) (by rw [← hV]; rfl) (by omega) dX8_isShadow_38 ?_
            refine x_aload_n E dX8_isShadow_39 (lv_at hl 1 rfl) ?_
            refine x_getr E hI hG (ym0 hY) cf8 3 1 rfl (by decide) kf_X8_7 dX8_isShadow_40 ?_
            refine x_iload_n E dX8_isShadow_43 (lv_at hl 2 rfl) ?_
            refine x_iald E hI hG (ym1 hY) (h c) (by rw [← hV]; rfl) (by omega) dX8_isShadow_44 ?_
            refine x_iload E dX8_isShadow_45 (lv_at hl 5 rfl) ?_
            refine x_iadd E dX8_isShadow_47 ?_
            refine x_icmp_lt E 55 dX8_isShadow_48 (by decide) (by unfold rg; omega) (by unfold rg; omega) (fun c48 => ?_) (fun c48 => ?_)
            · exact L55_3  (by rw [hss, hsk, Bool.false_or, decide_eq_false_iff_not, ← ego]; omega) _ _ _ hG hS (lv_sub hl [1, 2, 3, 5] rfl)
            · exact L51_4  (by rw [hss, decide_eq_true (by rw [← ego]; omega), Bool.or_true]) _ _ _ hG hS (lv_sub hl [1, 2, 3, 5] rfl)
  exact L5_1 _ 1 0 (by omega) (by omega) rfl (Nat.lt_succ_self _) _ _ _ hG hS (lv_sub hl [2, 3, 4, 1, 0] rfl)

theorem st_same (V : Mem) (p : Nat) (k : Int) : st V p k (V p k) = V := by
  funext q j; unfold st; split
  · rename_i h; rw [h.1, h.2]
  · rfl
theorem liftM_yes {n : Nat} {wd hi : Int} {b : Nat} {w c : Int} {V : Mem} (hc : c = dw (nx (V b 11)) (n : Int)) (h : lfB wd hi b w c (drM b V) = true) : liftM n wd hi b w V = flyM n wd hi b w c (hput n wd hi b c (V (b + 1) c - 1) (lfM wd hi b w c (drM b V))) := by
  subst hc; unfold liftM; rw [if_pos h]
theorem liftM_no {n : Nat} {wd hi : Int} {b : Nat} {w c : Int} {V : Mem} (hc : c = dw (nx (V b 11)) (n : Int)) (h : lfB wd hi b w c (drM b V) = false) : liftM n wd hi b w V = lfM wd hi b w c (drM b V) := by
  subst hc; unfold liftM; rw [if_neg (by rw [h]; decide)]

set_option maxHeartbeats 4000000 in
set_option maxRecDepth 100000 in
theorem c_X8_lifts (l : Launch) {X : We} (hY : isY X) {n b : Nat} {wd hi : Int} (U : Mem) (hU : MU U n wd hi) (V : Mem) (f : Int → Int) (g : Int) (hf : bo f) (hb1 : 3 ≤ b) {t : Int} (hk : Mid V n wd hi b t) (w : Int) (hw : 0 ≤ w ∧ w < 4) : Mt l X (pk V b U f g) yX8_lifts cX8_lifts 5 none 4 93 [.ref (wa X 0), .int (jI w)] (Qv X (fun V1 => ∃ f1 g1, V1 = pk (liftM n wd hi b w V) b U f1 g1 ∧ bo f1)) := by
  refine Mt.go (by decide) (Nat.le_of_ble_eq_true rfl) ?_
  intro pg ev s0 mi bl mt cd ls Rm ag Qq hR hQ E hI hG hS hl
  have hl : lv_has ls 5 [(0, .ref (wa X 0)), (1, .int (jI w))] := hl
  obtain ⟨⟨hs, hh, hz⟩, ⟨r2, r3, r4, r5, r6, r7, r8, r9, r10, r11⟩, hsk, hday⟩ := id hk
  have hd := hU.2.2.2
  have hbn : bnd n 0 9500 (V (b + 1)) := hh.ps hd |>.1
  obtain ⟨hn1, hn2⟩ := dims.n hd
  refine x_aload_n E dX8_lifts_0 (lv_at hl 0 rfl) ?_
  refine x_aload_n E dX8_lifts_1 (lv_at hl 0 rfl) ?_
  refine x_geti E hI hG (ym0 hY) cf8 2 ((n : Int)) rfl (by decide) (show (pk V b U f g) 0 2 = (n : Int) from hU.2.2.1) kf_X8_103 dX8_lifts_2 ?_
  refine x_ci hG hS (x_runV E hI hG hS (ym0 hY) cf8 rfl (c_X8_draw l hY U V f g (n : Int) (by omega)) mf_X8_draw km_X8_216 rfl hl rfl (Nat.le_of_ble_eq_true rfl) (by rw [hR]; exact ⟨Nat.le_of_ble_eq_true rfl, Nat.le_of_ble_eq_true rfl⟩) ⟨Nat.zero_le _, Nat.zero_le _⟩ dX8_lifts_5) (fun cc V1 H locs hp hG hS => ?_)
  obtain ⟨ec, eV⟩ := hp
  rw [eV] at hG
  have hcc := dw_rg (nx (V b 11)) (m := (n : Int)) (by omega)
  rw [← ec] at hcc
  refine x_istore_n E [(2, .int (jI cc)), (0, .ref (wa X 0)), (1, .int (jI w))] dX8_lifts_8 hl (by decide) rfl (fun ls hl => ?_)
  have hv1 := hbn cc hcc.1 hcc.2
  have hv2 := r6 cc hcc.1 hcc.2
  have hv3 := r3 cc hcc.1 hcc.2
  have hM1 := hk.dr hb1
  have e1 : ∀ p, p ≠ b → drM b V p = V p := fun p hp => drM_p hp
  have L61_1 : ∀ (Vx : Mem), (Vx = lfM wd hi b w cc (drM b V)) → (lfB wd hi b w cc (drM b V) = true) → ∀ (H : Heap) (locs : List Loc) (ls : Array Slot), GW X (pk Vx b U f g) H → va_S (wA X) s0.heap H locs → lv_has ls 5 [(0, .ref (wa X 0)), (1, .int (jI w)), (2, .int (jI cc))] → W pg l ev Rm s0 mi ag bl mt cd H locs 0 0 Qq (F0 mi 61 ls []) := by
    intro Vx ex hx H locs ls hG hS hl
    have hM2 : Mid Vx n wd hi b t := by rw [ex]; exact hM1.lf hb1 w cc
    have eH : Vx (b + 1) = V (b + 1) := by rw [ex, lfM_p _ _ _ _ (by omega), drM_p (by omega)]
    have hp0 := lfB_pos hx
    rw [drM_p (by omega)] at hp0
    have hM3 := (hM2.lower hb1 (c := cc) (v := V (b + 1) cc - 1) hcc.1 hcc.2 (by omega) (by rw [eH]; omega)).1
    rw [ex] at hM3
    refine x_aload_n E dX8_lifts_61 (lv_at hl 0 rfl) ?_
    refine x_getr E hI hG (ym0 hY) cf8 3 1 rfl (by decide) kf_X8_7 dX8_lifts_62 ?_
    refine x_iload_n E dX8_lifts_65 (lv_at hl 2 rfl) ?_
    refine x_dup2 E dX8_lifts_66 rfl rfl ?_
    refine x_iald E hI hG (ym1 hY) (V (b + 1) cc) (by rw [← eH]; rfl) (by omega) dX8_lifts_67 ?_
    refine x_iconst E dX8_lifts_68 ?_
    refine x_isub E dX8_lifts_69 ?_
    refine x_iast E hI hG hS (ym1 hY) (by omega) dX8_lifts_70 (fun H locs hG hS => ?_)
    rw [show (st (pk Vx b U f g) 1 cc ((V (b + 1) cc) - 1)) = (pk (st Vx (b + 1) cc ((V (b + 1) cc) - 1)) b U f g) from pk_h (by decide) _ _] at hG
    rw [show (pk (st Vx (b + 1) cc ((V (b + 1) cc) - 1)) b U f g) = (pk (sp Vx (b + 1) (ui (Vx (b + 1)) cc (V (b + 1) cc - 1))) b U f g) from by rw [st_sp]] at hG
    refine x_aload_n E dX8_lifts_71 (lv_at hl 0 rfl) ?_
    refine x_iload_n E dX8_lifts_72 (lv_at hl 2 rfl) ?_
    refine x_cv hG hS (x_runV E hI hG hS (ym0 hY) cf8 rfl (c_X8_settledAt l hY U hU Vx f g hf hM2.1.2.1 cc (V (b + 1) cc - 1) hcc (by omega)) mf_X8_settledAt km_X8_156 rfl hl rfl (Nat.le_of_ble_eq_true rfl) (by rw [hR]; exact ⟨Nat.le_of_ble_eq_true rfl, Nat.le_of_ble_eq_true rfl⟩) ⟨Nat.zero_le _, Nat.zero_le _⟩ dX8_lifts_73) (fun V1 H locs hp hG hS => ?_)
    obtain ⟨f2, g2, eV, hf2⟩ := hp
    rw [ex] at eV
    rw [eV] at hG
    refine x_iload_n E dX8_lifts_76 (lv_at hl 2 rfl) ?_
    refine x_istore_n E [(3, .int (jI cc)), (0, .ref (wa X 0)), (1, .int (jI w)), (2, .int (jI cc))] dX8_lifts_77 hl (by decide) rfl (fun ls hl => ?_)
    refine x_iconst E dX8_lifts_78 ?_
    refine x_istore E [(4, .int (jI 1)), (3, .int (jI cc)), (0, .ref (wa X 0)), (1, .int (jI w)), (2, .int (jI cc))] dX8_lifts_79 hl (by decide) rfl (fun ls hl => ?_)
    have L81_2 : ∀ (N : Nat) (k : Int) (a : Int) (Y : Mem) (f1 : Int → Int) (g1 : Int), (1 ≤ k) → (k ≤ 10) → (0 ≤ a) → (a < (n : Int)) → (Mid Y n wd hi b t) → (bo f1) → (landR wd hi b w (11 - k).toNat a Y = landR wd hi b w 10 cc (hput n wd hi b cc (V (b + 1) cc - 1) (lfM wd hi b w cc (drM b V)))) → ((11 - k).toNat) < N → ∀ (H : Heap) (locs : List Loc) (ls : Array Slot), GW X (pk Y b U f1 g1) H → va_S (wA X) s0.heap H locs → lv_has ls 5 [(0, .ref (wa X 0)), (1, .int (jI w)), (3, .int (jI a)), (4, .int (jI k))] → W pg l ev Rm s0 mi ag bl mt cd H locs 0 0 Qq (F0 mi 81 ls []) := by
      intro N
      induction N with
      | zero => intro k a Y f1 g1 k1 k2 a0 a1 hYm hf1 eY hN; exact absurd hN (Nat.not_lt_zero _)
      | succ N ih81 =>
        intro k a Y f1 g1 k1 k2 a0 a1 hYm hf1 eY hN H locs ls hG hS hl
        refine x_iload E dX8_lifts_81 (lv_at hl 3 rfl) ?_
        refine x_bipush E dX8_lifts_83 (by decide) ?_
        refine x_icmp_ge E 231 dX8_lifts_85 (by decide) (by unfold rg; omega) (by unfold rg; omega) (fun c85 => ?_) (fun c85 => ?_)
        · omega
        · obtain ⟨⟨us, uh, uz⟩, ⟨-, -, u4, -, -, -, u8, u9, u10, -⟩, -, -⟩ := id hYm
          have ubn : bnd n 0 9500 (Y (b + 1)) := uh.ps hd |>.1
          have hr := gow_rg (w := w) hd (show -1 ≤ a by omega) a1 (Y (b + 10) 0).toNat
          obtain ⟨p1, p2⟩ := ahd_gow (k := Y (b + 10) 0) hd a0 a1 hw.1 hw.2 (by omega)
          obtain ⟨j, ej⟩ : ∃ j : Nat, (11 - k).toNat = j + 1 := ⟨(10 - k).toNat, by omega⟩
          rw [ej, landR_s] at eY
          have har : -2 ≤ ahd wd hi a w (Y (b + 10) 0) ∧ ahd wd hi a w (Y (b + 10) 0) < (n : Int) := by
            rcases Int.lt_or_le (gow wd hi w (Y (b + 10) 0).toNat a) 0 with q | q
            · have := p2 q; omega
            · rw [p1 q]; omega
          refine x_aload_n E dX8_lifts_88 (lv_at hl 0 rfl) ?_
          refine x_iload_n E dX8_lifts_89 (lv_at hl 2 rfl) ?_
          refine x_iload_n E dX8_lifts_90 (lv_at hl 1 rfl) ?_
          refine x_aload_n E dX8_lifts_91 (lv_at hl 0 rfl) ?_
          refine x_getr E hI hG (ym0 hY) cf8 10 8 rfl (by decide) kf_X8_31 dX8_lifts_92 ?_
          refine x_iconst E dX8_lifts_95 ?_
          refine x_iald E hI hG (ym8 hY) (Y (b + 10) 0) rfl (by omega) dX8_lifts_96 ?_
          refine x_ci hG hS (x_runV E hI hG hS (ym0 hY) cf8 rfl (c_X8_ahead l hY (pk Y b U f1 g1) hU.1 hU.2.1 hd a w (Y (b + 10) 0) ⟨a0, a1⟩ hw (by omega)) mf_X8_ahead km_X8_212 rfl hl rfl (Nat.le_of_ble_eq_true rfl) (by rw [hR]; exact ⟨Nat.le_of_ble_eq_true rfl, Nat.le_of_ble_eq_true rfl⟩) ⟨Nat.zero_le _, Nat.zero_le _⟩ dX8_lifts_97) (fun z1 V1 H locs hp hG hS => ?_)
          obtain ⟨ez, eV⟩ := hp
          rw [eV] at hG
          rw [ez]
          refine x_istore_n E [(3, .int (jI (ahd wd hi a w (Y (b + 10) 0)))), (0, .ref (wa X 0)), (1, .int (jI w)), (4, .int (jI k))] dX8_lifts_100 hl (by decide) rfl (fun ls hl => ?_)
          refine x_iload_n E dX8_lifts_101 (lv_at hl 0 rfl) ?_
          refine x_if_ge E 145 dX8_lifts_102 (by decide) (by unfold rg; omega) (fun c102 => ?_) (fun c102 => ?_)
          · have hgp : 0 ≤ gow wd hi w (Y (b + 10) 0).toNat a := by
              rcases Int.lt_or_le (gow wd hi w (Y (b + 10) 0).toNat a) 0 with q | q
              · have := p2 q; omega
              · exact q
            rw [p1 hgp] at hl
            have L209_3 : ∀ (Z : Mem), (landR wd hi b w 10 cc (hput n wd hi b cc (V (b + 1) cc - 1) (lfM wd hi b w cc (drM b V))) = (gow wd hi w (Y (b + 10) 0).toNat a, Z)) → (Mid Z n wd hi b t) → (Z (b + 1) = Y (b + 1)) → ∀ (H : Heap) (locs : List Loc) (ls : Array Slot), GW X (pk Z b U f1 g1) H → va_S (wA X) s0.heap H locs → lv_has ls 5 [(0, .ref (wa X 0)), (3, .int (jI (gow wd hi w (Y (b + 10) 0).toNat a)))] → W pg l ev Rm s0 mi ag bl mt cd H locs 0 0 Qq (F0 mi 209 ls []) := by
              intro Z eZ hZ eh H locs ls hG hS hl
              have hq0 : 0 ≤ gow wd hi w (Y (b + 10) 0).toNat a ∧ gow wd hi w (Y (b + 10) 0).toNat a < (n : Int) := ⟨hgp, hr.2⟩
              have hzt := hZ.1.2.1.bnd hd _ hq0.1 hq0.2
              rw [eh] at hzt
              refine x_aload_n E dX8_lifts_209 (lv_at hl 0 rfl) ?_
              refine x_getr E hI hG (ym0 hY) cf8 3 1 rfl (by decide) kf_X8_7 dX8_lifts_210 ?_
              refine x_iload_n E dX8_lifts_213 (lv_at hl 1 rfl) ?_
              refine x_dup2 E dX8_lifts_214 rfl rfl ?_
              refine x_iald E hI hG (ym1 hY) (Y (b + 1) (gow wd hi w (Y (b + 10) 0).toNat a)) (by rw [← eh]; rfl) (by omega) dX8_lifts_215 ?_
              refine x_iconst E dX8_lifts_216 ?_
              refine x_iadd E dX8_lifts_217 ?_
              refine x_iast E hI hG hS (ym1 hY) (by omega) dX8_lifts_218 (fun H locs hG hS => ?_)
              rw [show (st (pk Z b U f1 g1) 1 (gow wd hi w (Y (b + 10) 0).toNat a) ((Y (b + 1) (gow wd hi w (Y (b + 10) 0).toNat a)) + 1)) = (pk (st Z (b + 1) (gow wd hi w (Y (b + 10) 0).toNat a) ((Y (b + 1) (gow wd hi w (Y (b + 10) 0).toNat a)) + 1)) b U f1 g1) from pk_h (by decide) _ _] at hG
              rw [show (pk (st Z (b + 1) (gow wd hi w (Y (b + 10) 0).toNat a) ((Y (b + 1) (gow wd hi w (Y (b + 10) 0).toNat a)) + 1)) b U f1 g1) = (pk (sp Z (b + 1) (ui (Z (b + 1)) (gow wd hi w (Y (b + 10) 0).toNat a) (Y (b + 1) (gow wd hi w (Y (b + 10) 0).toNat a) + 1))) b U f1 g1) from by rw [st_sp]] at hG
              refine x_aload_n E dX8_lifts_219 (lv_at hl 0 rfl) ?_
              refine x_iload_n E dX8_lifts_220 (lv_at hl 1 rfl) ?_
              refine x_cv hG hS (x_runV E hI hG hS (ym0 hY) cf8 rfl (c_X8_settledAt l hY U hU Z f1 g1 hf1 hZ.1.2.1 (gow wd hi w (Y (b + 10) 0).toNat a) (Y (b + 1) (gow wd hi w (Y (b + 10) 0).toNat a) + 1) hq0 (by omega)) mf_X8_settledAt km_X8_156 rfl hl rfl (Nat.le_of_ble_eq_true rfl) (by rw [hR]; exact ⟨Nat.le_of_ble_eq_true rfl, Nat.le_of_ble_eq_true rfl⟩) ⟨Nat.zero_le _, Nat.zero_le _⟩ dX8_lifts_221) (fun V1 H locs hp hG hS => ?_)
              obtain ⟨f4, g4, eV, hf4⟩ := hp
              rw [eV] at hG
              exact r_v E hQ hG hS dX8_lifts_224 (⟨f4, g4, by
                      rw [liftM_yes ec hx]
                      unfold flyM
                      rw [eZ]
                      dsimp only
                      rw [if_neg (by omega), eh], hf4⟩)
            refine x_iload E dX8_lifts_145 (lv_at hl 3 rfl) ?_
            refine x_bipush E dX8_lifts_147 (by decide) ?_
            refine x_icmp_eq E 209 dX8_lifts_149 (by decide) (by unfold rg; omega) (by unfold rg; omega) (fun c149 => ?_) (fun c149 => ?_)
            · exact L209_3 Y (by rw [← eY, if_neg (by omega), if_pos (by omega)]) hYm rfl _ _ _ hG hS (lv_sub hl [1, 0] rfl)
            · have hg0 : 0 ≤ gow wd hi w (Y (b + 10) 0).toNat a ∧ gow wd hi w (Y (b + 10) 0).toNat a < (n : Int) := ⟨hgp, hr.2⟩
              refine x_aload_n E dX8_lifts_152 (lv_at hl 1 rfl) ?_
              refine x_iload_n E dX8_lifts_153 (lv_at hl 0 rfl) ?_
              refine x_iload_n E dX8_lifts_154 (lv_at hl 2 rfl) ?_
              refine x_ci hG hS (x_runV E hI hG hS (ym0 hY) cf8 rfl (c_X8_isShadow l hY U hU Y f1 g1 (Y (b + 1)) rfl ubn (gow wd hi w (Y (b + 10) 0).toNat a) w hg0 hw) mf_X8_isShadow km_X8_220 rfl hl rfl (Nat.le_of_ble_eq_true rfl) (by rw [hR]; exact ⟨Nat.le_of_ble_eq_true rfl, Nat.le_of_ble_eq_true rfl⟩) ⟨Nat.zero_le _, Nat.zero_le _⟩ dX8_lifts_155) (fun z1 V1 H locs hp hG hS => ?_)
              obtain ⟨ez, eV⟩ := hp
              rw [eV] at hG
              rw [ez]
              refine x_if_ne E 209 dX8_lifts_158 (by decide) (b2i_rg _) (fun c158 => ?_) (fun c158 => ?_)
              · exact L209_3 Y (by rw [← eY, if_neg (by omega), if_neg (by omega), if_pos (by unfold ldB; rw [b2i_ne.mp c158]; rfl)]; unfold ldM; rw [if_pos (Or.inl (b2i_ne.mp c158))]) hYm rfl _ _ _ hG hS (lv_sub hl [1, 0] rfl)
              · have hsa : shd wd hi (Y (b + 1)) (gow wd hi w (Y (b + 10) 0).toNat a) w = false := b2i_0.mp c158
                have hq1 := ubn (gow wd hi w (Y (b + 10) 0).toNat a) hgp hr.2
                have hq2 := u4 (gow wd hi w (Y (b + 10) 0).toNat a) hgp hr.2
                refine x_aload_n E dX8_lifts_161 (lv_at hl 1 rfl) ?_
                refine x_getr E hI hG (ym0 hY) cf8 3 1 rfl (by decide) kf_X8_7 dX8_lifts_162 ?_
                refine x_iload_n E dX8_lifts_165 (lv_at hl 0 rfl) ?_
                refine x_iald E hI hG (ym1 hY) (Y (b + 1) (gow wd hi w (Y (b + 10) 0).toNat a)) rfl (by omega) dX8_lifts_166 ?_
                refine x_aload_n E dX8_lifts_167 (lv_at hl 1 rfl) ?_
                refine x_getr E hI hG (ym0 hY) cf8 6 4 rfl (by decide) kf_X8_19 dX8_lifts_168 ?_
                refine x_iload_n E dX8_lifts_171 (lv_at hl 0 rfl) ?_
                refine x_iald E hI hG (ym4 hY) (Y (b + 4) (gow wd hi w (Y (b + 10) 0).toNat a)) rfl (by omega) dX8_lifts_172 ?_
                refine x_icmp_lt E 209 dX8_lifts_173 (by decide) (by unfold rg; omega) (by unfold rg; omega) (fun c173 => ?_) (fun c173 => ?_)
                · exact L209_3 Y (by rw [← eY, if_neg (by omega), if_neg (by omega), if_pos (by unfold ldB; rw [decide_eq_true c173]; simp)]; unfold ldM; rw [if_pos (Or.inr c173)]) hYm rfl _ _ _ hG hS (lv_sub hl [1, 0] rfl)
                · have hno : ¬ (shd wd hi (Y (b + 1)) (gow wd hi w (Y (b + 10) 0).toNat a) w = true ∨ Y (b + 1) (gow wd hi w (Y (b + 10) 0).toNat a) < Y (b + 4) (gow wd hi w (Y (b + 10) 0).toNat a)) := by rw [hsa]; simp; omega
                  have hdy := dw_rg (nx (Y b 11)) (show (0 : Int) < 100 by omega)
                  refine x_aload_n E dX8_lifts_176 (lv_at hl 1 rfl) ?_
                  refine x_bipush E dX8_lifts_177 (by decide) ?_
                  refine x_ci hG hS (x_runV E hI hG hS (ym0 hY) cf8 rfl (c_X8_draw l hY U Y f1 g1 100 (by omega)) mf_X8_draw km_X8_216 rfl hl rfl (Nat.le_of_ble_eq_true rfl) (by rw [hR]; exact ⟨Nat.le_of_ble_eq_true rfl, Nat.le_of_ble_eq_true rfl⟩) ⟨Nat.zero_le _, Nat.zero_le _⟩ dX8_lifts_179) (fun z1 V1 H locs hp hG hS => ?_)
                  obtain ⟨ez, eV⟩ := hp
                  rw [eV] at hG
                  rw [ez]
                  have L206_4 : ∀ (z2 : Int), (z2 = if Y (b + 1) (gow wd hi w (Y (b + 10) 0).toNat a) = 0 then Y (b + 10) 2 else Y (b + 10) 1) → ∀ (H : Heap) (locs : List Loc) (ls : Array Slot), GW X (pk (drM b Y) b U f1 g1) H → va_S (wA X) s0.heap H locs → lv_has ls 5 [(0, .ref (wa X 0)), (1, .int (jI w)), (3, .int (jI (gow wd hi w (Y (b + 10) 0).toNat a))), (4, .int (jI k))] → W pg l ev Rm s0 mi ag bl mt cd H locs 0 0 Qq (F0 mi 206 ls [.int (jI z2), .int (jI (dw (nx (Y b 11)) 100))]) := by
                    intro z2 hz2 H locs ls hG hS hl
                    refine x_icmp_ge E 225 dX8_lifts_206 (by decide) (by unfold rg; omega) (by unfold rg; omega) (fun c206 => ?_) (fun c206 => ?_)
                    · refine x_iinc E (k := 3) [(4, .int (jI (k + 1))), (0, .ref (wa X 0)), (1, .int (jI w)), (3, .int (jI (gow wd hi w (Y (b + 10) 0).toNat a)))] dX8_lifts_225 hl rfl (by decide) rfl (fun ls hl => ?_)
                      refine x_goto E 81 dX8_lifts_228 (by decide) ?_
                      exact ih81 (k + 1) (gow wd hi w (Y (b + 10) 0).toNat a) (drM b Y) f1 g1 (by omega) (by omega) hgp hr.2 (hYm.dr hb1) hf1 (by rw [← eY, if_neg (by omega), if_neg (by omega), if_neg (by unfold ldB; rw [← hz2, hsa, decide_eq_false (p := Y (b + 1) _ < _) (by omega), decide_eq_false (p := dw (nx (Y b 11)) 100 < z2) (by omega)]; decide), show (11 - (k + 1)).toNat = j by omega]; unfold ldM; rw [if_neg hno]) (by omega) _ _ _ hG hS (lv_sub hl [1, 2, 3, 0] rfl)
                    · exact L209_3 (drM b Y) (by rw [← eY, if_neg (by omega), if_neg (by omega), if_pos (by unfold ldB; rw [← hz2, decide_eq_true (p := dw (nx (Y b 11)) 100 < z2) (by omega)]; simp)]; unfold ldM; rw [if_neg hno]) (hYm.dr hb1) (drM_p (by omega)) _ _ _ hG hS (lv_sub hl [0, 2] rfl)
                  refine x_aload_n E dX8_lifts_182 (lv_at hl 1 rfl) ?_
                  refine x_getr E hI hG (ym0 hY) cf8 3 1 rfl (by decide) kf_X8_7 dX8_lifts_183 ?_
                  refine x_iload_n E dX8_lifts_186 (lv_at hl 0 rfl) ?_
                  refine x_iald E hI hG (ym1 hY) (Y (b + 1) (gow wd hi w (Y (b + 10) 0).toNat a)) (congrFun (drM_p (b := b) (V := Y) (p := b + 1) (by omega)) _) (by omega) dX8_lifts_187 ?_
                  refine x_if_ne E 200 dX8_lifts_188 (by decide) (by unfold rg; omega) (fun c188 => ?_) (fun c188 => ?_)
                  · refine x_aload_n E dX8_lifts_200 (lv_at hl 1 rfl) ?_
                    refine x_getr E hI hG (ym0 hY) cf8 10 8 rfl (by decide) kf_X8_31 dX8_lifts_201 ?_
                    refine x_iconst E dX8_lifts_204 ?_
                    refine x_iald E hI hG (ym8 hY) (Y (b + 10) 1) (congrFun (drM_p (b := b) (V := Y) (p := b + 10) (by omega)) _) (by omega) dX8_lifts_205 ?_
                    exact L206_4 (Y (b + 10) 1) (by rw [if_neg c188]) _ _ _ hG hS (lv_sub hl [1, 2, 0, 3] rfl)
                  · refine x_aload_n E dX8_lifts_191 (lv_at hl 1 rfl) ?_
                    refine x_getr E hI hG (ym0 hY) cf8 10 8 rfl (by decide) kf_X8_31 dX8_lifts_192 ?_
                    refine x_iconst E dX8_lifts_195 ?_
                    refine x_iald E hI hG (ym8 hY) (Y (b + 10) 2) (congrFun (drM_p (b := b) (V := Y) (p := b + 10) (by omega)) _) (by omega) dX8_lifts_196 ?_
                    refine x_goto E 206 dX8_lifts_197 (by decide) ?_
                    exact L206_4 (Y (b + 10) 2) (by rw [if_pos c188]) _ _ _ hG hS (lv_sub hl [1, 2, 0, 3] rfl)
          · have hgn : gow wd hi w (Y (b + 10) 0).toNat a < 0 := by
              rcases Int.lt_or_le (gow wd hi w (Y (b + 10) 0).toNat a) 0 with q | q
              · exact q
              · have := p1 q; omega
            have hp2 := p2 hgn
            have L120_5 : ∀ (z1 : Int), (z1 = if w = 0 then 0 else 1) → ∀ (H : Heap) (locs : List Loc) (ls : Array Slot), GW X (pk Y b U f1 g1) H → va_S (wA X) s0.heap H locs → lv_has ls 5 [(0, .ref (wa X 0)), (3, .int (jI (ahd wd hi a w (Y (b + 10) 0))))] → W pg l ev Rm s0 mi ag bl mt cd H locs 0 0 Qq (F0 mi 120 ls [.int (jI z1), .int (jI (Y b 13)), .ref (wa X 0)]) := by
              intro z1 hz1 H locs ls hG hS hl
              refine x_iadd E dX8_lifts_120 ?_
              refine x_puti E hI hG hS (ym0 hY) cf8 13 13 rfl rfl (by decide) rfl rfl kf_X8_118 dX8_lifts_121 (fun H locs hG hS => ?_)
              rw [show (st (pk Y b U f1 g1) 0 13 ((Y b 13) + z1)) = (pk (st Y b 13 ((Y b 13) + z1)) b U f1 g1) from pk_n (by decide) _ _] at hG
              have L140_6 : ∀ (z2 : Int), (z2 = if w = 0 then 1 else 0) → ∀ (H : Heap) (locs : List Loc) (ls : Array Slot), GW X (pk (st Y b 13 (Y b 13 + z1)) b U f1 g1) H → va_S (wA X) s0.heap H locs → lv_has ls 5 [(0, .ref (wa X 0))] → W pg l ev Rm s0 mi ag bl mt cd H locs 0 0 Qq (F0 mi 140 ls [.int (jI z2), .int (jI (Y b 14)), .ref (wa X 0)]) := by
                intro z2 hz2 H locs ls hG hS hl
                refine x_iadd E dX8_lifts_140 ?_
                refine x_puti E hI hG hS (ym0 hY) cf8 14 14 rfl rfl (by decide) rfl rfl kf_X8_121 dX8_lifts_141 (fun H locs hG hS => ?_)
                rw [show (st (pk (st Y b 13 (Y b 13 + z1)) b U f1 g1) 0 14 ((Y b 14) + z2)) = (pk (st (st Y b 13 (Y b 13 + z1)) b 14 ((Y b 14) + z2)) b U f1 g1) from pk_n (by decide) _ _] at hG
                exact r_v E hQ hG hS dX8_lifts_144 (⟨f1, g1, by
                        rw [liftM_yes ec hx]
                        unfold flyM
                        rw [← eY, if_pos hgn]
                        dsimp only
                        rw [if_pos (by decide)]
                        unfold loseM
                        rw [hz1, hz2]
                        rcases hp2 with ⟨q, -⟩ | ⟨q, -⟩
                        · rw [if_pos q, if_pos q, if_pos q, Int.add_zero, st_same]
                        · rw [if_neg (by omega), if_neg (by omega), if_neg (by omega), Int.add_zero]
                          congr 1
                          have := st_same (st Y b 13 (Y b 13 + 1)) b 14
                          rw [st_k (by decide)] at this
                          exact this, hf1⟩)
              refine x_aload_n E dX8_lifts_124 (lv_at hl 0 rfl) ?_
              refine x_dup E dX8_lifts_125 rfl ?_
              refine x_geti E hI hG (ym0 hY) cf8 14 (Y b 14) rfl (by decide) (show (pk (st Y b 13 ((Y b 13) + z1)) b U f1 g1) 0 14 = Y b 14 from (st_k (by decide))) kf_X8_121 dX8_lifts_126 ?_
              refine x_iload_n E dX8_lifts_129 (lv_at hl 1 rfl) ?_
              refine x_bipush E dX8_lifts_130 (by decide) ?_
              refine x_icmp_ne E 139 dX8_lifts_132 (by decide) (by unfold rg; omega) (by unfold rg; omega) (fun c132 => ?_) (fun c132 => ?_)
              · refine x_iconst E dX8_lifts_139 ?_
                exact L140_6 0 (by rw [if_neg (by omega)]) _ _ _ hG hS (lv_sub hl [0] rfl)
              · refine x_iconst E dX8_lifts_135 ?_
                refine x_goto E 140 dX8_lifts_136 (by decide) ?_
                exact L140_6 1 (by rw [if_pos (by omega)]) _ _ _ hG hS (lv_sub hl [0] rfl)
            refine x_aload_n E dX8_lifts_105 (lv_at hl 1 rfl) ?_
            refine x_dup E dX8_lifts_106 rfl ?_
            refine x_geti E hI hG (ym0 hY) cf8 13 (Y b 13) rfl (by decide) rfl kf_X8_118 dX8_lifts_107 ?_
            refine x_iload_n E dX8_lifts_110 (lv_at hl 0 rfl) ?_
            refine x_iconst E dX8_lifts_111 ?_
            refine x_icmp_ne E 119 dX8_lifts_112 (by decide) (by unfold rg; omega) (by unfold rg; omega) (fun c112 => ?_) (fun c112 => ?_)
            · refine x_iconst E dX8_lifts_119 ?_
              exact L120_5 0 (by rw [if_pos (by omega)]) _ _ _ hG hS (lv_sub hl [1, 0] rfl)
            · refine x_iconst E dX8_lifts_115 ?_
              refine x_goto E 120 dX8_lifts_116 (by decide) ?_
              exact L120_5 1 (by rw [if_neg (by omega)]) _ _ _ hG hS (lv_sub hl [1, 0] rfl)
    exact L81_2 _ 1 cc (hput n wd hi b cc (V (b + 1) cc - 1) (lfM wd hi b w cc (drM b V))) f2 g2 (by omega) (by omega) hcc.1 hcc.2 hM3 hf2 rfl (Nat.lt_succ_self _) _ _ _ hG hS (lv_sub hl [2, 3, 1, 0] rfl)
  have L60_7 : ∀ (Vx : Mem), (Vx = lfM wd hi b w cc (drM b V)) → (lfB wd hi b w cc (drM b V) = false) → ∀ (H : Heap) (locs : List Loc) (ls : Array Slot), GW X (pk Vx b U f g) H → va_S (wA X) s0.heap H locs → lv_has ls 5 [] → W pg l ev Rm s0 mi ag bl mt cd H locs 0 0 Qq (F0 mi 60 ls []) := by
    intro Vx ex hx H locs ls hG hS hl
    exact r_v E hQ hG hS dX8_lifts_60 (⟨f, g, by rw [ex, liftM_no ec hx], hf⟩)
  refine x_aload_n E dX8_lifts_9 (lv_at hl 1 rfl) ?_
  refine x_getr E hI hG (ym0 hY) cf8 3 1 rfl (by decide) kf_X8_7 dX8_lifts_10 ?_
  refine x_iload_n E dX8_lifts_13 (lv_at hl 0 rfl) ?_
  refine x_iald E hI hG (ym1 hY) (V (b + 1) cc) (by rw [← e1 (b + 1) (by omega)]; rfl) (by omega) dX8_lifts_14 ?_
  refine x_if_eq E 60 dX8_lifts_15 (by decide) (by unfold rg; omega) (fun c15 => ?_) (fun c15 => ?_)
  · exact L60_7 (drM b V) (by unfold lfM; rw [if_pos (Or.inl (by rw [e1 _ (by omega)]; exact c15))]) (by unfold lfB; rw [e1 _ (by omega), decide_eq_true c15]; rfl) _ _ _ hG hS (lv_sub hl [] rfl)
  · refine x_aload_n E dX8_lifts_18 (lv_at hl 1 rfl) ?_
    refine x_iload_n E dX8_lifts_19 (lv_at hl 0 rfl) ?_
    refine x_iload_n E dX8_lifts_20 (lv_at hl 2 rfl) ?_
    refine x_ci hG hS (x_runV E hI hG hS (ym0 hY) cf8 rfl (c_X8_isShadow l hY U hU (drM b V) f g (V (b + 1)) (e1 _ (by omega)) hbn cc w hcc hw) mf_X8_isShadow km_X8_220 rfl hl rfl (Nat.le_of_ble_eq_true rfl) (by rw [hR]; exact ⟨Nat.le_of_ble_eq_true rfl, Nat.le_of_ble_eq_true rfl⟩) ⟨Nat.zero_le _, Nat.zero_le _⟩ dX8_lifts_21) (fun z1 V1 H locs hp hG hS => ?_)
    obtain ⟨ez, eV⟩ := hp
    rw [eV] at hG
    rw [ez]
    refine x_if_ne E 60 dX8_lifts_24 (by decide) (b2i_rg _) (fun c24 => ?_) (fun c24 => ?_)
    · exact L60_7 (drM b V) (by unfold lfM; rw [if_pos (Or.inr (Or.inr (Or.inl (by rw [e1 _ (by omega)]; exact b2i_ne.mp c24))))]) (by unfold lfB; rw [e1 _ (by omega), b2i_ne.mp c24]; simp) _ _ _ hG hS (lv_sub hl [] rfl)
    · have hsf : shd wd hi (V (b + 1)) cc w = false := b2i_0.mp c24
      refine x_aload_n E dX8_lifts_27 (lv_at hl 1 rfl) ?_
      refine x_getr E hI hG (ym0 hY) cf8 8 6 rfl (by decide) kf_X8_25 dX8_lifts_28 ?_
      refine x_iload_n E dX8_lifts_31 (lv_at hl 0 rfl) ?_
      refine x_iald E hI hG (ym6 hY) (V (b + 6) cc) (by rw [← e1 (b + 6) (by omega)]; rfl) (by omega) dX8_lifts_32 ?_
      refine x_if_gt E 60 dX8_lifts_33 (by decide) (by unfold rg; omega) (fun c33 => ?_) (fun c33 => ?_)
      · exact L60_7 (drM b V) (by unfold lfM; rw [if_pos (Or.inr (Or.inl (by rw [e1 _ (by omega)]; exact c33)))]) (by unfold lfB; rw [e1 (b + 6) (by omega), decide_eq_true c33]; simp) _ _ _ hG hS (lv_sub hl [] rfl)
      · refine x_aload_n E dX8_lifts_36 (lv_at hl 1 rfl) ?_
        refine x_getr E hI hG (ym0 hY) cf8 5 3 rfl (by decide) kf_X8_16 dX8_lifts_37 ?_
        refine x_iload_n E dX8_lifts_40 (lv_at hl 0 rfl) ?_
        refine x_iald E hI hG (ym3 hY) (V (b + 3) cc) (by rw [← e1 (b + 3) (by omega)]; rfl) (by omega) dX8_lifts_41 ?_
        refine x_if_le E 61 dX8_lifts_42 (by decide) (by unfold rg; omega) (fun c42 => ?_) (fun c42 => ?_)
        · exact L61_1 (drM b V) (by unfold lfM; rw [if_pos (Or.inr (Or.inr (Or.inr (by rw [e1 _ (by omega)]; omega))))]) (by unfold lfB; rw [e1 _ (by omega), e1 _ (by omega), e1 _ (by omega), decide_eq_false c15, decide_eq_false c33, hsf, decide_eq_true (p := V (b + 3) cc = 0) (by omega)]; rfl) _ _ _ hG hS (lv_sub hl [1, 2, 0] rfl)
        · refine x_aload_n E dX8_lifts_45 (lv_at hl 1 rfl) ?_
          refine x_bipush E dX8_lifts_46 (by decide) ?_
          have hdw := dw_rg (nx (drM b V b 11)) (show (0 : Int) < 100 by omega)
          refine x_ci hG hS (x_runV E hI hG hS (ym0 hY) cf8 rfl (c_X8_draw l hY U (drM b V) f g 100 (by omega)) mf_X8_draw km_X8_216 rfl hl rfl (Nat.le_of_ble_eq_true rfl) (by rw [hR]; exact ⟨Nat.le_of_ble_eq_true rfl, Nat.le_of_ble_eq_true rfl⟩) ⟨Nat.zero_le _, Nat.zero_le _⟩ dX8_lifts_48) (fun z1 V1 H locs hp hG hS => ?_)
          obtain ⟨ez, eV⟩ := hp
          rw [eV] at hG
          rw [ez]
          refine x_aload_n E dX8_lifts_51 (lv_at hl 1 rfl) ?_
          refine x_getr E hI hG (ym0 hY) cf8 5 3 rfl (by decide) kf_X8_16 dX8_lifts_52 ?_
          refine x_iload_n E dX8_lifts_55 (lv_at hl 0 rfl) ?_
          refine x_iald E hI hG (ym3 hY) (V (b + 3) cc) (by rw [← e1 (b + 3) (by omega), ← drM_p (b := b) (V := drM b V) (by omega)]; rfl) (by omega) dX8_lifts_56 ?_
          refine x_icmp_ge E 61 dX8_lifts_57 (by decide) (by unfold rg; omega) (by unfold rg; omega) (fun c57 => ?_) (fun c57 => ?_)
          · exact L61_1 (drM b (drM b V)) (by unfold lfM; rw [if_neg (by rw [e1 _ (by omega), e1 _ (by omega), e1 _ (by omega), hsf]; simp; omega)]) (by unfold lfB; rw [e1 _ (by omega), e1 _ (by omega), e1 _ (by omega), decide_eq_false c15, decide_eq_false c33, hsf, decide_eq_false (p := dw (nx (drM b V b 11)) 100 < V (b + 3) cc) (by omega)]; simp) _ _ _ hG hS (lv_sub hl [1, 2, 0] rfl)
          · exact L60_7 (drM b (drM b V)) (by unfold lfM; rw [if_neg (by rw [e1 _ (by omega), e1 _ (by omega), e1 _ (by omega), hsf]; simp; omega)]) (by unfold lfB; rw [e1 (b + 3) (by omega), decide_eq_false (p := V (b + 3) cc = 0) (by omega), decide_eq_true (p := dw (nx (drM b V b 11)) 100 < V (b + 3) cc) (by omega)]; simp) _ _ _ hG hS (lv_sub hl [] rfl)
