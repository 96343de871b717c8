theorem b01_eq {p q : Prop} [Decidable p] [Decidable q] (h : p ↔ q) : b01 p = b01 q := by unfold b01; by_cases z : p <;> simp [z, h.mp]; exact fun y => absurd (h.mpr y) z

set_option maxHeartbeats 4000000 in
set_option maxRecDepth 100000 in
theorem c_X8_in (l : Launch) {X : We} (V : Mem) (v lo up : Int) (h1 : rg v) (h2 : rg lo) (h3 : rg up) : Mt l X V yX8_in cX8_in 3 (some .boolean) 0 0 [.int (jI v), .int (jI lo), .int (jI up)] (Qi X (fun z V1 => z = b01 (lo ≤ v ∧ v ≤ up) ∧ V1 = V)) := by
  refine Mt.go (by decide) (Nat.le_of_ble_eq_true rfl) ?_
  intro pg ev s0 mi bl mt cd ls Rm ag Qq hR hQ E hI hG hS hl
  have hl : lv_has ls 3 [(0, .int (jI v)), (1, .int (jI lo)), (2, .int (jI up))] := hl
  unfold rg at h1 h2 h3
  have L15_1 : ∀ (z : Int), (z = b01 (lo ≤ v ∧ v ≤ up)) → ∀ (H : Heap) (locs : List Loc) (ls : Array Slot), GW X V H → va_S (wA X) s0.heap H locs → lv_has ls 3 [] → W pg l ev Rm s0 mi ag bl mt cd H locs 0 0 Qq (F0 mi 15 ls [.int (jI z)]) := by
    intro z hz H locs ls hG hS hl
    exact r_z E hQ hG hS dX8_in_15 (by rw [hz]; exact b01_c) (⟨hz, rfl⟩)
  refine x_iload_n E dX8_in_0 (lv_at hl 0 rfl) ?_
  refine x_iload_n E dX8_in_1 (lv_at hl 1 rfl) ?_
  refine x_icmp_lt E 14 dX8_in_2 (by decide) (by unfold rg; omega) (by unfold rg; omega) (fun c2 => ?_) (fun c2 => ?_)
  · refine x_iconst E dX8_in_14 ?_
    exact L15_1 0 ((b01_0 (by omega)).symm) _ _ _ hG hS (lv_sub hl [] rfl)
  · refine x_iload_n E dX8_in_5 (lv_at hl 0 rfl) ?_
    refine x_iload_n E dX8_in_6 (lv_at hl 2 rfl) ?_
    refine x_icmp_gt E 14 dX8_in_7 (by decide) (by unfold rg; omega) (by unfold rg; omega) (fun c7 => ?_) (fun c7 => ?_)
    · refine x_iconst E dX8_in_14 ?_
      exact L15_1 0 ((b01_0 (by omega)).symm) _ _ _ hG hS (lv_sub hl [] rfl)
    · refine x_iconst E dX8_in_10 ?_
      refine x_goto E 15 dX8_in_11 (by decide) ?_
      exact L15_1 1 ((b01_1 (by omega)).symm) _ _ _ hG hS (lv_sub hl [] rfl)

set_option maxHeartbeats 4000000 in
set_option maxRecDepth 100000 in
theorem c_X8_isCell (l : Launch) {X : We} (hY : isY X) (V : Mem) {n : Nat} (h2 : V 0 2 = (n : Int)) (hn : (n : Int) ≤ 160) (c : Int) (hc : rg c) : Mt l X V yX8_isCell cX8_isCell 2 (some .boolean) 1 22 [.ref (wa X 0), .int (jI c)] (Qi X (fun z V1 => z = b01 (0 ≤ c ∧ c < (n : Int)) ∧ V1 = V)) := by
  refine Mt.go (by decide) (Nat.le_of_ble_eq_true rfl) ?_
  intro pg ev s0 mi bl mt cd ls Rm ag Qq hR hQ E hI hG hS hl
  have hl : lv_has ls 2 [(0, .ref (wa X 0)), (1, .int (jI c))] := hl
  refine x_iload_n E dX8_isCell_0 (lv_at hl 1 rfl) ?_
  refine x_iconst E dX8_isCell_1 ?_
  refine x_aload_n E dX8_isCell_2 (lv_at hl 0 rfl) ?_
  refine x_geti E hI hG (ym0 hY) cf8 2 ((n : Int)) rfl (by decide) (show V 0 2 = (n : Int) from h2) kf_X8_103 dX8_isCell_3 ?_
  refine x_iconst E dX8_isCell_6 ?_
  refine x_isub E dX8_isCell_7 ?_
  refine x_ci hG hS (x_runS E hI hG hS (c_X8_in l V c 0 ((n : Int) - 1) hc (by unfold rg; omega) (by unfold rg; omega)) mf_X8_in km_X8_110 rfl hl rfl (Nat.le_of_ble_eq_true rfl) (by rw [hR]; exact ⟨Nat.le_of_ble_eq_true rfl, Nat.le_of_ble_eq_true rfl⟩) ⟨Nat.zero_le _, Nat.zero_le _⟩ dX8_isCell_8) (fun z1 V1 H locs hp hG hS => ?_)
  obtain ⟨ez, eV⟩ := hp
  rw [eV] at hG
  rw [ez]
  rw [show b01 (0 ≤ c ∧ c ≤ (n : Int) - 1) = b01 (0 ≤ c ∧ c < (n : Int)) from b01_eq (by omega)]
  exact r_z E hQ hG hS dX8_isCell_11 b01_c (⟨rfl, rfl⟩)

set_option maxHeartbeats 4000000 in
set_option maxRecDepth 100000 in
theorem c_X8_near (l : Launch) {X : We} (hY : isY X) (V : Mem) {n : Nat} {wd hi : Int} (h0 : V 0 0 = wd) (h1 : V 0 1 = hi) (hd : dims n wd hi) (c k : Int) (hc : 0 ≤ c ∧ c < (n : Int)) (hk : 0 ≤ k ∧ k < 4) : Mt l X V yX8_near cX8_near 5 (some .int) 0 0 [.ref (wa X 0), .int (jI c), .int (jI k)] (Qi X (fun z V1 => z = nb wd hi c k ∧ V1 = V)) := by
  refine Mt.go (by decide) (Nat.le_of_ble_eq_true rfl) ?_
  intro pg ev s0 mi bl mt cd ls Rm ag Qq hR hQ E hI hG hS hl
  have hl : lv_has ls 5 [(0, .ref (wa X 0)), (1, .int (jI c)), (2, .int (jI k))] := hl
  obtain ⟨hn1, hn2⟩ := dims.n hd
  obtain ⟨w1, w2, w3, w4⟩ := hd.2
  obtain ⟨y0, y1, x0, x1, ec⟩ := row_lt hd hc.1 hc.2
  refine x_iload_n E dX8_near_0 (lv_at hl 1 rfl) ?_
  refine x_aload_n E dX8_near_1 (lv_at hl 0 rfl) ?_
  refine x_geti E hI hG (ym0 hY) cf8 0 (wd) rfl (by decide) (show V 0 0 = wd from h0) kf_X8_97 dX8_near_2 ?_
  refine x_irem E (by omega) (by omega) dX8_near_5 ?_
  refine x_istore_n E [(3, .int (jI (c % wd))), (0, .ref (wa X 0)), (1, .int (jI c)), (2, .int (jI k))] dX8_near_6 hl (by decide) rfl (fun ls hl => ?_)
  refine x_iload_n E dX8_near_7 (lv_at hl 2 rfl) ?_
  refine x_aload_n E dX8_near_8 (lv_at hl 1 rfl) ?_
  refine x_geti E hI hG (ym0 hY) cf8 0 (wd) rfl (by decide) (show V 0 0 = wd from h0) kf_X8_97 dX8_near_9 ?_
  refine x_idiv E (by omega) (by omega) dX8_near_12 ?_
  refine x_istore E [(4, .int (jI (c / wd))), (3, .int (jI (c % wd))), (0, .ref (wa X 0)), (1, .int (jI c)), (2, .int (jI k))] dX8_near_13 hl (by decide) rfl (fun ls hl => ?_)
  refine x_iload_n E dX8_near_15 (lv_at hl 4 rfl) ?_
  rcases k4 hk.1 hk.2 with q | q | q | q
  · refine lv_tableIn E.1 E.2.1 dX8_near_16 (by rw [q]; decide) (by rw [q]; decide) (off := 28) (tgt := 44) (by rw [q]; decide) (by decide) ?_
    have L61_1 : ∀ (z : Int), (z = nb wd hi c k) → ∀ (H : Heap) (locs : List Loc) (ls : Array Slot), GW X V H → va_S (wA X) s0.heap H locs → lv_has ls 5 [] → W pg l ev Rm s0 mi ag bl mt cd H locs 0 0 Qq (F0 mi 61 ls [.int (jI z)]) := by
      intro z hz H locs ls hG hS hl
      exact r_i E hQ hG hS dX8_near_61 (⟨hz, rfl⟩)
    refine x_iload_n E dX8_near_44 (lv_at hl 1 rfl) ?_
    refine x_iconst E dX8_near_45 ?_
    refine x_iadd E dX8_near_46 ?_
    refine x_aload_n E dX8_near_47 (lv_at hl 2 rfl) ?_
    refine x_geti E hI hG (ym0 hY) cf8 0 (wd) rfl (by decide) (show V 0 0 = wd from h0) kf_X8_97 dX8_near_48 ?_
    refine x_icmp_ge E 60 dX8_near_51 (by decide) (by unfold rg; omega) (by unfold rg; omega) (fun c51 => ?_) (fun c51 => ?_)
    · refine x_iconst E dX8_near_60 ?_
      exact L61_1 (-1) (by unfold nb; rw [if_pos q, if_neg (by omega)]) _ _ _ hG hS (lv_sub hl [] rfl)
    · refine x_iload_n E dX8_near_54 (lv_at hl 3 rfl) ?_
      refine x_iconst E dX8_near_55 ?_
      refine x_iadd E dX8_near_56 ?_
      refine x_goto E 61 dX8_near_57 (by decide) ?_
      exact L61_1 (c + 1) (by unfold nb; rw [if_pos q, if_pos (by omega)]) _ _ _ hG hS (lv_sub hl [] rfl)
  · refine lv_tableIn E.1 E.2.1 dX8_near_16 (by rw [q]; decide) (by rw [q]; decide) (off := 46) (tgt := 62) (by rw [q]; decide) (by decide) ?_
    have L73_2 : ∀ (z : Int), (z = nb wd hi c k) → ∀ (H : Heap) (locs : List Loc) (ls : Array Slot), GW X V H → va_S (wA X) s0.heap H locs → lv_has ls 5 [] → W pg l ev Rm s0 mi ag bl mt cd H locs 0 0 Qq (F0 mi 73 ls [.int (jI z)]) := by
      intro z hz H locs ls hG hS hl
      exact r_i E hQ hG hS dX8_near_73 (⟨hz, rfl⟩)
    refine x_iload_n E dX8_near_62 (lv_at hl 1 rfl) ?_
    refine x_if_le E 72 dX8_near_63 (by decide) (by unfold rg; omega) (fun c63 => ?_) (fun c63 => ?_)
    · refine x_iconst E dX8_near_72 ?_
      exact L73_2 (-1) (by unfold nb; rw [if_neg (by omega), if_pos q, if_neg (by omega)]) _ _ _ hG hS (lv_sub hl [] rfl)
    · refine x_iload_n E dX8_near_66 (lv_at hl 3 rfl) ?_
      refine x_iconst E dX8_near_67 ?_
      refine x_isub E dX8_near_68 ?_
      refine x_goto E 73 dX8_near_69 (by decide) ?_
      exact L73_2 (c - 1) (by unfold nb; rw [if_neg (by omega), if_pos q, if_pos (by omega)]) _ _ _ hG hS (lv_sub hl [] rfl)
  · refine lv_tableIn E.1 E.2.1 dX8_near_16 (by rw [q]; decide) (by rw [q]; decide) (off := 58) (tgt := 74) (by rw [q]; decide) (by decide) ?_
    refine x_iload E dX8_near_74 (lv_at hl 0 rfl) ?_
    refine x_iconst E dX8_near_76 ?_
    refine x_iadd E dX8_near_77 ?_
    refine x_aload_n E dX8_near_78 (lv_at hl 2 rfl) ?_
    refine x_geti E hI hG (ym0 hY) cf8 1 (hi) rfl (by decide) (show V 0 1 = hi from h1) kf_X8_100 dX8_near_79 ?_
    refine x_irem E (by omega) (by omega) dX8_near_82 ?_
    refine x_aload_n E dX8_near_83 (lv_at hl 2 rfl) ?_
    refine x_geti E hI hG (ym0 hY) cf8 0 (wd) rfl (by decide) (show V 0 0 = wd from h0) kf_X8_97 dX8_near_84 ?_
    refine x_imul E dX8_near_87 ?_
    refine x_iload_n E dX8_near_88 (lv_at hl 1 rfl) ?_
    refine x_iadd E dX8_near_89 ?_
    exact r_i E hQ hG hS dX8_near_90 (⟨by unfold nb; rw [if_neg (by omega), if_neg (by omega), if_pos q], rfl⟩)
  · refine lv_tableOut (tgt := 91) E.1 E.2.1 dX8_near_16 (by rw [q]; decide) (by decide) ?_
    refine x_iload E dX8_near_91 (lv_at hl 0 rfl) ?_
    refine x_aload_n E dX8_near_93 (lv_at hl 2 rfl) ?_
    refine x_geti E hI hG (ym0 hY) cf8 1 (hi) rfl (by decide) (show V 0 1 = hi from h1) kf_X8_100 dX8_near_94 ?_
    refine x_iadd E dX8_near_97 ?_
    refine x_iconst E dX8_near_98 ?_
    refine x_isub E dX8_near_99 ?_
    refine x_aload_n E dX8_near_100 (lv_at hl 2 rfl) ?_
    refine x_geti E hI hG (ym0 hY) cf8 1 (hi) rfl (by decide) (show V 0 1 = hi from h1) kf_X8_100 dX8_near_101 ?_
    refine x_irem E (by omega) (by omega) dX8_near_104 ?_
    refine x_aload_n E dX8_near_105 (lv_at hl 2 rfl) ?_
    refine x_geti E hI hG (ym0 hY) cf8 0 (wd) rfl (by decide) (show V 0 0 = wd from h0) kf_X8_97 dX8_near_106 ?_
    refine x_imul E dX8_near_109 ?_
    refine x_iload_n E dX8_near_110 (lv_at hl 1 rfl) ?_
    refine x_iadd E dX8_near_111 ?_
    exact r_i E hQ hG hS dX8_near_112 (⟨by unfold nb; rw [if_neg (by omega), if_neg (by omega), if_neg (by omega)], rfl⟩)

set_option maxHeartbeats 4000000 in
set_option maxRecDepth 100000 in
theorem c_X8_isSteep (l : Launch) {X : We} (hY : isY X) {n b : Nat} {wd hi : Int} (U : Mem) (hU : MU U n wd hi) (V : Mem) (f : Int → Int) (g : Int) (h : Int → Int) (hV : V (b + 1) = h) (hh : bnd n 0 9500 h) (sl : Int) (hsl : V (b + 10) 3 = sl) (hl9 : 1 ≤ sl ∧ sl ≤ 9) (c : Int) (hc : 0 ≤ c ∧ c < (n : Int)) : Mt l X (pk V b U f g) yX8_isSteep cX8_isSteep 5 (some .boolean) 1 24 [.ref (wa X 0), .int (jI c)] (Qi X (fun z V1 => (z = 0 ∨ z = 1) ∧ (z = 1 ↔ stp wd hi sl h c) ∧ V1 = (pk V b U f g))) := by
  refine Mt.go (by decide) (Nat.le_of_ble_eq_true rfl) ?_
  intro pg ev s0 mi bl mt cd ls Rm ag Qq hR hQ E hI hG hS hl
  have hl : lv_has ls 5 [(0, .ref (wa X 0)), (1, .int (jI c))] := hl
  have hd := hU.2.2.2
  obtain ⟨hn1, hn2⟩ := dims.n hd
  refine x_iconst E dX8_isSteep_0 ?_
  refine x_istore_n E [(2, .int (jI 0)), (0, .ref (wa X 0)), (1, .int (jI c))] dX8_isSteep_1 hl (by decide) rfl (fun ls hl => ?_)
  refine x_iconst E dX8_isSteep_2 ?_
  refine x_istore_n E [(3, .int (jI 0)), (2, .int (jI 0)), (0, .ref (wa X 0)), (1, .int (jI c))] dX8_isSteep_3 hl (by decide) rfl (fun ls hl => ?_)
  have L4_1 : ∀ (N : Nat) (k : Int) (z : Int), (0 ≤ k) → (k ≤ 4) → (z = 0 ∨ z = 1) → (z = 1 ↔ (∃ j : Int, 0 ≤ j ∧ j < k ∧ 0 ≤ nb wd hi c j ∧ sl < h c - h (nb wd hi c j))) → ((4 - k).toNat) < N → ∀ (H : Heap) (locs : List Loc) (ls : Array Slot), GW X (pk V b U f g) H → va_S (wA X) s0.heap H locs → lv_has ls 5 [(0, .ref (wa X 0)), (1, .int (jI c)), (2, .int (jI z)), (3, .int (jI k))] → W pg l ev Rm s0 mi ag bl mt cd H locs 0 0 Qq (F0 mi 4 ls []) := by
    intro N
    induction N with
    | zero => intro k z k0 k1 hz hzi hN; exact absurd hN (Nat.not_lt_zero _)
    | succ N ih4 =>
      intro k z k0 k1 hz hzi hN H locs ls hG hS hl
      refine x_iload_n E dX8_isSteep_4 (lv_at hl 3 rfl) ?_
      refine x_iconst E dX8_isSteep_5 ?_
      refine x_icmp_ge E 61 dX8_isSteep_6 (by decide) (by unfold rg; omega) (by unfold rg; omega) (fun c6 => ?_) (fun c6 => ?_)
      · refine x_iload_n E dX8_isSteep_61 (lv_at hl 2 rfl) ?_
        exact r_z E hQ hG hS dX8_isSteep_62 hz (⟨hz, by rw [hzi]; unfold stp; rw [show k = 4 by omega], rfl⟩)
      · have hr := nb_range (k := k) hd hc.1 hc.2
        have hv1 := hh c hc.1 hc.2
        have L54_2 : ∀ (z2 : Int), (z2 = 0 ∨ z2 = 1) → (z2 = 1 ↔ (∃ j : Int, 0 ≤ j ∧ j < (k + 1) ∧ 0 ≤ nb wd hi c j ∧ sl < h c - h (nb wd hi c j))) → ∀ (H : Heap) (locs : List Loc) (ls : Array Slot), GW X (pk V b U f g) H → va_S (wA X) s0.heap H locs → lv_has ls 5 [(0, .ref (wa X 0)), (1, .int (jI c)), (3, .int (jI k))] → W pg l ev Rm s0 mi ag bl mt cd H locs 0 0 Qq (F0 mi 54 ls [.int (jI z2)]) := by
          intro z2 hz2 hzi2 H locs ls hG hS hl
          refine x_istore_n E [(2, .int (jI z2)), (0, .ref (wa X 0)), (1, .int (jI c)), (3, .int (jI k))] dX8_isSteep_54 hl (by decide) rfl (fun ls hl => ?_)
          refine x_iinc E (k := 3) [(3, .int (jI (k + 1))), (2, .int (jI z2)), (0, .ref (wa X 0)), (1, .int (jI c))] dX8_isSteep_55 hl rfl (by decide) rfl (fun ls hl => ?_)
          refine x_goto E 4 dX8_isSteep_58 (by decide) ?_
          exact ih4 (k + 1) z2 (by omega) (by omega) hz2 hzi2 (by clear hzi hzi2; omega) _ _ _ hG hS (lv_sub hl [2, 3, 1, 0] rfl)
        have L49_3 : ((∃ j : Int, 0 ≤ j ∧ j < (k + 1) ∧ 0 ≤ nb wd hi c j ∧ sl < h c - h (nb wd hi c j))) → ∀ (H : Heap) (locs : List Loc) (ls : Array Slot), GW X (pk V b U f g) H → va_S (wA X) s0.heap H locs → lv_has ls 5 [(0, .ref (wa X 0)), (1, .int (jI c)), (3, .int (jI k))] → W pg l ev Rm s0 mi ag bl mt cd H locs 0 0 Qq (F0 mi 49 ls []) := by
          intro  hy H locs ls hG hS hl
          refine x_iconst E dX8_isSteep_49 ?_
          refine x_goto E 54 dX8_isSteep_50 (by decide) ?_
          exact L54_2 1 (Or.inr rfl) (⟨fun _ => hy, fun _ => rfl⟩) _ _ _ hG hS (lv_sub hl [0, 1, 2] rfl)
        refine x_aload_n E dX8_isSteep_9 (lv_at hl 0 rfl) ?_
        refine x_iload_n E dX8_isSteep_10 (lv_at hl 1 rfl) ?_
        refine x_iload_n E dX8_isSteep_11 (lv_at hl 3 rfl) ?_
        refine x_ci hG hS (x_runV E hI hG hS (ym0 hY) cf8 rfl (c_X8_near l hY (pk V b U f g) hU.1 hU.2.1 hd c k hc (by omega)) mf_X8_near km_X8_136 rfl hl rfl (Nat.le_of_ble_eq_true rfl) (by rw [hR]; exact ⟨Nat.le_of_ble_eq_true rfl, Nat.le_of_ble_eq_true rfl⟩) ⟨Nat.zero_le _, Nat.zero_le _⟩ dX8_isSteep_12) (fun z1 V1 H locs hp hG hS => ?_)
        obtain ⟨ez, eV⟩ := hp
        rw [eV] at hG
        rw [ez]
        refine x_istore E [(4, .int (jI (nb wd hi c k))), (0, .ref (wa X 0)), (1, .int (jI c)), (2, .int (jI z)), (3, .int (jI k))] dX8_isSteep_15 hl (by decide) rfl (fun ls hl => ?_)
        refine x_iload_n E dX8_isSteep_17 (lv_at hl 3 rfl) ?_
        refine x_if_ne E 49 dX8_isSteep_18 (by decide) (by unfold rg; omega) (fun c18 => ?_) (fun c18 => ?_)
        · exact L49_3  (by obtain ⟨j, a, e, r⟩ := hzi.mp (by omega); exact ⟨j, a, by omega, r⟩) _ _ _ hG hS (lv_sub hl [1, 2, 4] rfl)
        · refine x_iload E dX8_isSteep_21 (lv_at hl 0 rfl) ?_
          refine x_if_lt E 53 dX8_isSteep_23 (by decide) (by unfold rg; omega) (fun c23 => ?_) (fun c23 => ?_)
          · refine x_iconst E dX8_isSteep_53 ?_
            exact L54_2 0 (Or.inl rfl) (⟨fun q => by omega, fun ⟨j, a, e, r1, r2⟩ => by
                    exfalso
                    rcases (show j < k ∨ j = k by omega) with y | y
                    · have := hzi.mpr ⟨j, a, y, r1, r2⟩; omega
                    · rw [y] at r1 r2; omega⟩) _ _ _ hG hS (lv_sub hl [1, 2, 4] rfl)
          · have hv2 := hh (nb wd hi c k) (by omega) hr.2
            refine x_aload_n E dX8_isSteep_26 (lv_at hl 1 rfl) ?_
            refine x_getr E hI hG (ym0 hY) cf8 3 1 rfl (by decide) kf_X8_7 dX8_isSteep_27 ?_
            refine x_iload_n E dX8_isSteep_30 (lv_at hl 2 rfl) ?_
            refine x_iald E hI hG (ym1 hY) (h c) (by rw [← hV]; rfl) (by omega) dX8_isSteep_31 ?_
            refine x_aload_n E dX8_isSteep_32 (lv_at hl 1 rfl) ?_
            refine x_getr E hI hG (ym0 hY) cf8 3 1 rfl (by decide) kf_X8_7 dX8_isSteep_33 ?_
            refine x_iload E dX8_isSteep_36 (lv_at hl 0 rfl) ?_
            refine x_iald E hI hG (ym1 hY) (h (nb wd hi c k)) (by rw [← hV]; rfl) (by omega) dX8_isSteep_38 ?_
            refine x_isub E dX8_isSteep_39 ?_
            refine x_aload_n E dX8_isSteep_40 (lv_at hl 1 rfl) ?_
            refine x_getr E hI hG (ym0 hY) cf8 10 8 rfl (by decide) kf_X8_31 dX8_isSteep_41 ?_
            refine x_iconst E dX8_isSteep_44 ?_
            refine x_iald E hI hG (ym8 hY) (sl) (by rw [← hsl]; rfl) (by omega) dX8_isSteep_45 ?_
            refine x_icmp_le E 53 dX8_isSteep_46 (by decide) (by unfold rg; omega) (by unfold rg; omega) (fun c46 => ?_) (fun c46 => ?_)
            · refine x_iconst E dX8_isSteep_53 ?_
              exact L54_2 0 (Or.inl rfl) (⟨fun q => by omega, fun ⟨j, a, e, r1, r2⟩ => by
                      exfalso
                      rcases (show j < k ∨ j = k by omega) with y | y
                      · have := hzi.mpr ⟨j, a, y, r1, r2⟩; omega
                      · rw [y] at r1 r2; omega⟩) _ _ _ hG hS (lv_sub hl [1, 2, 4] rfl)
            · exact L49_3  (⟨k, by omega, by omega, by omega, by omega⟩) _ _ _ hG hS (lv_sub hl [1, 2, 4] rfl)
  exact L4_1 _ 0 0 (by omega) (by omega) (Or.inl rfl) (⟨fun q => by omega, fun ⟨j, a, e, _⟩ => by omega⟩) (Nat.lt_succ_self _) _ _ _ hG hS (lv_sub hl [2, 3, 1, 0] rfl)

set_option maxHeartbeats 4000000 in
set_option maxRecDepth 100000 in
theorem c_X8_touches (l : Launch) {X : We} (hY : isY X) {n b : Nat} {wd hi : Int} (U : Mem) (hU : MU U n wd hi) (V : Mem) (f : Int → Int) (g : Int) (hf : bo f) (hg : 0 ≤ g ∧ g ≤ 1000) (c : Int) (hc : 0 ≤ c ∧ c < (n : Int)) : Mt l X (pk V b U f g) yX8_touches cX8_touches 4 none 1 24 [.ref (wa X 0), .int (jI c)] (Qv X (fun V1 => ∃ f1 g1, V1 = pk V b U f1 g1 ∧ TC wd hi c 4 f g f1 g1)) := by
  refine Mt.go (by decide) (Nat.le_of_ble_eq_true rfl) ?_
  intro pg ev s0 mi bl mt cd ls Rm ag Qq hR hQ E hI hG hS hl
  have hl : lv_has ls 4 [(0, .ref (wa X 0)), (1, .int (jI c))] := hl
  have hd := hU.2.2.2
  obtain ⟨hn1, hn2⟩ := dims.n hd
  refine x_aload_n E dX8_touches_0 (lv_at hl 0 rfl) ?_
  refine x_getr E hI hG (ym0 hY) cf8 46 25 rfl (by decide) kf_X8_93 dX8_touches_1 ?_
  refine x_iload_n E dX8_touches_4 (lv_at hl 1 rfl) ?_
  refine x_iconst E dX8_touches_5 ?_
  refine x_zast E hI hG hS (ym25 hY) (by omega) (Or.inr rfl) dX8_touches_6 (fun H locs hG hS => ?_)
  rw [show (st (pk V b U f g) 25 c 1) = (pk V b U (ui f c 1) g) from pk_f _ _] at hG
  have L24_1 : ∀ (z : Int), (z = if c < g then c else g) → ∀ (H : Heap) (locs : List Loc) (ls : Array Slot), GW X (pk V b U (ui f c 1) g) H → va_S (wA X) s0.heap H locs → lv_has ls 4 [(0, .ref (wa X 0)), (1, .int (jI c))] → W pg l ev Rm s0 mi ag bl mt cd H locs 0 0 Qq (F0 mi 24 ls [.int (jI z), .ref (wa X 0)]) := by
    intro z hz H locs ls hG hS hl
    refine x_puti E hI hG hS (ym0 hY) cf8 47 47 rfl rfl (by decide) rfl rfl kf_X8_140 dX8_touches_24 (fun H locs hG hS => ?_)
    rw [show (st (pk V b U (ui f c 1) g) 0 47 z) = (pk V b U (ui f c 1) z) from pk_g _] at hG
    refine x_iconst E dX8_touches_27 ?_
    refine x_istore_n E [(2, .int (jI 0)), (0, .ref (wa X 0)), (1, .int (jI c))] dX8_touches_28 hl (by decide) rfl (fun ls hl => ?_)
    have L29_2 : ∀ (N : Nat) (k : Int) (f1 : Int → Int) (g1 : Int), (0 ≤ k) → (k ≤ 4) → (TC wd hi c k f g f1 g1) → ((4 - k).toNat) < N → ∀ (H : Heap) (locs : List Loc) (ls : Array Slot), GW X (pk V b U f1 g1) H → va_S (wA X) s0.heap H locs → lv_has ls 4 [(0, .ref (wa X 0)), (1, .int (jI c)), (2, .int (jI k))] → W pg l ev Rm s0 mi ag bl mt cd H locs 0 0 Qq (F0 mi 29 ls []) := by
      intro N
      induction N with
      | zero => intro k f1 g1 k0 k1 ht hN; exact absurd hN (Nat.not_lt_zero _)
      | succ N ih29 =>
        intro k f1 g1 k0 k1 ht hN H locs ls hG hS hl
        refine x_iload_n E dX8_touches_29 (lv_at hl 2 rfl) ?_
        refine x_iconst E dX8_touches_30 ?_
        refine x_icmp_ge E 78 dX8_touches_31 (by decide) (by unfold rg; omega) (by unfold rg; omega) (fun c31 => ?_) (fun c31 => ?_)
        · exact r_v E hQ hG hS dX8_touches_78 (⟨f1, g1, rfl, by rw [← show k = 4 by omega]; exact ht⟩)
        · have hr := nb_range (k := k) hd hc.1 hc.2
          obtain ⟨t1, t2, t3, t4, t5, t6, t7⟩ := ht
          have L72_3 : ∀ (f2 : Int → Int) (g2 : Int), (TC wd hi c (k + 1) f g f2 g2) → ∀ (H : Heap) (locs : List Loc) (ls : Array Slot), GW X (pk V b U f2 g2) H → va_S (wA X) s0.heap H locs → lv_has ls 4 [(0, .ref (wa X 0)), (1, .int (jI c)), (2, .int (jI k))] → W pg l ev Rm s0 mi ag bl mt cd H locs 0 0 Qq (F0 mi 72 ls []) := by
            intro f2 g2 ht2 H locs ls hG hS hl
            refine x_iinc E (k := 2) [(2, .int (jI (k + 1))), (0, .ref (wa X 0)), (1, .int (jI c))] dX8_touches_72 hl rfl (by decide) rfl (fun ls hl => ?_)
            refine x_goto E 29 dX8_touches_75 (by decide) ?_
            exact ih29 (k + 1) f2 g2 (by omega) (by omega) ht2 (by omega) _ _ _ hG hS (lv_sub hl [1, 2, 0] rfl)
          refine x_aload_n E dX8_touches_34 (lv_at hl 0 rfl) ?_
          refine x_iload_n E dX8_touches_35 (lv_at hl 1 rfl) ?_
          refine x_iload_n E dX8_touches_36 (lv_at hl 2 rfl) ?_
          refine x_ci hG hS (x_runV E hI hG hS (ym0 hY) cf8 rfl (c_X8_near l hY (pk V b U f1 g1) hU.1 hU.2.1 hd c k hc (by omega)) mf_X8_near km_X8_136 rfl hl rfl (Nat.le_of_ble_eq_true rfl) (by rw [hR]; exact ⟨Nat.le_of_ble_eq_true rfl, Nat.le_of_ble_eq_true rfl⟩) ⟨Nat.zero_le _, Nat.zero_le _⟩ dX8_touches_37) (fun z1 V1 H locs hp hG hS => ?_)
          obtain ⟨ez, eV⟩ := hp
          rw [eV] at hG
          rw [ez]
          refine x_istore_n E [(3, .int (jI (nb wd hi c k))), (0, .ref (wa X 0)), (1, .int (jI c)), (2, .int (jI k))] dX8_touches_40 hl (by decide) rfl (fun ls hl => ?_)
          refine x_iload_n E dX8_touches_41 (lv_at hl 0 rfl) ?_
          refine x_if_lt E 72 dX8_touches_42 (by decide) (by unfold rg; omega) (fun c42 => ?_) (fun c42 => ?_)
          · exact L72_3 f1 g1 (⟨t1, t2, t3, t4, t5, t6, fun j a e q => by
                    rcases (show j < k ∨ j = k by omega) with y | y
                    · exact t7 j a y q
                    · rw [y] at q; omega⟩) _ _ _ hG hS (lv_sub hl [1, 2, 3] rfl)
          · refine x_aload_n E dX8_touches_45 (lv_at hl 1 rfl) ?_
            refine x_getr E hI hG (ym0 hY) cf8 46 25 rfl (by decide) kf_X8_93 dX8_touches_46 ?_
            refine x_iload_n E dX8_touches_49 (lv_at hl 0 rfl) ?_
            refine x_iconst E dX8_touches_50 ?_
            refine x_zast E hI hG hS (ym25 hY) (by omega) (Or.inr rfl) dX8_touches_51 (fun H locs hG hS => ?_)
            rw [show (st (pk V b U f1 g1) 25 (nb wd hi c k) 1) = (pk V b U (ui f1 (nb wd hi c k) 1) g1) from pk_f _ _] at hG
            have L69_4 : ∀ (z : Int), (z = if nb wd hi c k < g1 then nb wd hi c k else g1) → ∀ (H : Heap) (locs : List Loc) (ls : Array Slot), GW X (pk V b U (ui f1 (nb wd hi c k) 1) g1) H → va_S (wA X) s0.heap H locs → lv_has ls 4 [(0, .ref (wa X 0)), (1, .int (jI c)), (2, .int (jI k))] → W pg l ev Rm s0 mi ag bl mt cd H locs 0 0 Qq (F0 mi 69 ls [.int (jI z), .ref (wa X 0)]) := by
              intro z hz H locs ls hG hS hl
              refine x_puti E hI hG hS (ym0 hY) cf8 47 47 rfl rfl (by decide) rfl rfl kf_X8_140 dX8_touches_69 (fun H locs hG hS => ?_)
              rw [show (st (pk V b U (ui f1 (nb wd hi c k) 1) g1) 0 47 z) = (pk V b U (ui f1 (nb wd hi c k) 1) z) from pk_g _] at hG
              exact L72_3 (ui f1 (nb wd hi c k) 1) z (⟨t1.set _ (Or.inr rfl), fun d q => by (unfold ui; split; rfl; exact t2 d q), by (unfold ui; split; rfl; exact t3), by rw [hz]; split <;> omega, by rw [hz]; split <;> omega, by rw [hz]; split <;> omega, fun j a e q => by
                      rcases (show j < k ∨ j = k by omega) with y | y
                      · have := t7 j a y q
                        refine ⟨by (unfold ui; split; rfl; exact this.1), ?_⟩
                        rw [hz]; split <;> omega
                      · rw [y]
                        refine ⟨ui_s _ _ _, ?_⟩
                        rw [hz]; split <;> omega⟩) _ _ _ hG hS (lv_sub hl [0, 1, 2] rfl)
            refine x_aload_n E dX8_touches_52 (lv_at hl 1 rfl) ?_
            refine x_iload_n E dX8_touches_53 (lv_at hl 0 rfl) ?_
            refine x_aload_n E dX8_touches_54 (lv_at hl 1 rfl) ?_
            refine x_geti E hI hG (ym0 hY) cf8 47 (g1) rfl (by decide) rfl kf_X8_140 dX8_touches_55 ?_
            refine x_icmp_ge E 65 dX8_touches_58 (by decide) (by unfold rg; omega) (by unfold rg; omega) (fun c58 => ?_) (fun c58 => ?_)
            · refine x_aload_n E dX8_touches_65 (lv_at hl 1 rfl) ?_
              refine x_geti E hI hG (ym0 hY) cf8 47 (g1) rfl (by decide) rfl kf_X8_140 dX8_touches_66 ?_
              exact L69_4 g1 (by rw [if_neg (by omega)]) _ _ _ hG hS (lv_sub hl [1, 2, 3] rfl)
            · refine x_iload_n E dX8_touches_61 (lv_at hl 0 rfl) ?_
              refine x_goto E 69 dX8_touches_62 (by decide) ?_
              exact L69_4 (nb wd hi c k) (by rw [if_pos (by omega)]) _ _ _ hG hS (lv_sub hl [1, 2, 3] rfl)
    exact L29_2 _ 0 (ui f c 1) z (by omega) (by omega) (⟨hf.set _ (Or.inr rfl), fun d q => by unfold ui; split; rfl; exact q, ui_s _ _ _, by rw [hz]; split <;> omega, by rw [hz]; split <;> omega, by rw [hz]; split <;> omega, fun j a e => by omega⟩) (Nat.lt_succ_self _) _ _ _ hG hS (lv_sub hl [1, 2, 0] rfl)
  refine x_aload_n E dX8_touches_7 (lv_at hl 0 rfl) ?_
  refine x_iload_n E dX8_touches_8 (lv_at hl 1 rfl) ?_
  refine x_aload_n E dX8_touches_9 (lv_at hl 0 rfl) ?_
  refine x_geti E hI hG (ym0 hY) cf8 47 (g) rfl (by decide) rfl kf_X8_140 dX8_touches_10 ?_
  refine x_icmp_ge E 20 dX8_touches_13 (by decide) (by unfold rg; omega) (by unfold rg; omega) (fun c13 => ?_) (fun c13 => ?_)
  · refine x_aload_n E dX8_touches_20 (lv_at hl 0 rfl) ?_
    refine x_geti E hI hG (ym0 hY) cf8 47 (g) rfl (by decide) rfl kf_X8_140 dX8_touches_21 ?_
    exact L24_1 g (by rw [if_neg (by omega)]) _ _ _ hG hS (lv_sub hl [0, 1] rfl)
  · refine x_iload_n E dX8_touches_16 (lv_at hl 1 rfl) ?_
    refine x_goto E 24 dX8_touches_17 (by decide) ?_
    exact L24_1 c (by rw [if_pos (by omega)]) _ _ _ hG hS (lv_sub hl [0, 1] rfl)

theorem sp_sz (V : Mem) (p : Nat) (h : Int → Int) (z : Int) : sp V p h p z = h z := by rw [sp_s]
theorem sp_st (V : Mem) (p : Nat) (h : Int → Int) (z v : Int) : st (sp V p h) p z v = sp V p (ui h z v) := by rw [st_sp, sp_s, sp_sp]
theorem lowK_rg {n : Nat} {wd hi : Int} (hd : dims n wd hi) (h : Int → Int) {c : Int} (h0 : 0 ≤ c) (h1 : c < (n : Int)) (j : Nat) : -1 ≤ lowK wd hi h c j ∧ lowK wd hi h c j < (n : Int) := by
  have := dims.n hd
  rcases lowK_spec wd hi h c j with ⟨a, -⟩ | ⟨a, ⟨i, -, e⟩, -⟩
  · omega
  · rw [e] at a ⊢
    have := nb_range (k := (i : Int)) hd h0 h1
    omega
theorem lowK_t {wd hi : Int} {h : Int → Int} {c k : Int} (h0 : 0 ≤ k) : lowK wd hi h c (k + 1).toNat = lb h (lowK wd hi h c k.toNat) (nb wd hi c k) := by
  rw [show (k + 1).toNat = k.toNat + 1 by omega]
  show lb h (lowK wd hi h c k.toNat) (nb wd hi c (k.toNat : Int)) = _
  rw [Int.toNat_of_nonneg h0]

set_option maxHeartbeats 4000000 in
set_option maxRecDepth 100000 in
theorem c_X8_settles (l : Launch) {X : We} (hY : isY X) {n b : Nat} {wd hi : Int} (U : Mem) (hU : MU U n wd hi) (V : Mem) (f : Int → Int) (g : Int) (hf : bo f) (hg : 0 ≤ g ∧ g ≤ (n : Int)) (hps : PS n (V (b + 1))) (sl : Int) (hsl : V (b + 10) 3 = sl) (hl9 : 1 ≤ sl ∧ sl ≤ 9) (hst : ∀ d : Int, 0 ≤ d → d < (n : Int) → stp wd hi sl (V (b + 1)) d → f d = 1 ∧ g ≤ d) : Mt l X (pk V b U f g) yX8_settles cX8_settles 5 none 2 48 [.ref (wa X 0)] (Qv X (fun V1 => ∃ f1 g1, V1 = pk (hall n wd hi b V) b U f1 g1 ∧ bo f1)) := by
  refine Mt.go (by decide) (Nat.le_of_ble_eq_true rfl) ?_
  intro pg ev s0 mi bl mt cd ls Rm ag Qq hR hQ E hI hG hS hl
  have hl : lv_has ls 5 [(0, .ref (wa X 0))] := hl
  have hd := hU.2.2.2
  obtain ⟨hn1, hn2⟩ := dims.n hd
  rw [show V = sp V (b + 1) (V (b + 1)) from (sp_self _ _).symm] at hG
  have L0_1 : ∀ (N : Nat) (h : Int → Int) (f1 : Int → Int) (g1 : Int), (∃ k, h = itr n wd hi sl (V (b + 1)) k) → (bnd n 0 9500 h) → (bo f1) → (0 ≤ g1 ∧ g1 ≤ (n : Int)) → (∀ d : Int, 0 ≤ d → d < (n : Int) → stp wd hi sl h d → f1 d = 1 ∧ g1 ≤ d) → ((161 * sq n 0 h + 160 - g1).toNat) < N → ∀ (H : Heap) (locs : List Loc) (ls : Array Slot), GW X (pk (sp V (b + 1) h) b U f1 g1) H → va_S (wA X) s0.heap H locs → lv_has ls 5 [(0, .ref (wa X 0))] → W pg l ev Rm s0 mi ag bl mt cd H locs 0 0 Qq (F0 mi 0 ls []) := by
    intro N
    induction N with
    | zero => intro h f1 g1 hk hh hf1 hg1 hst1 hN; exact absurd hN (Nat.not_lt_zero _)
    | succ N ih0 =>
      intro h f1 g1 hk hh hf1 hg1 hst1 hN H locs ls hG hS hl
      have hsq := sq_nonneg n 0 h
      refine x_aload_n E dX8_settles_0 (lv_at hl 0 rfl) ?_
      refine x_geti E hI hG (ym0 hY) cf8 47 (g1) rfl (by decide) rfl kf_X8_140 dX8_settles_1 ?_
      refine x_aload_n E dX8_settles_4 (lv_at hl 0 rfl) ?_
      refine x_geti E hI hG (ym0 hY) cf8 2 ((n : Int)) rfl (by decide) (show (pk (sp V (b + 1) h) b U f1 g1) 0 2 = (n : Int) from hU.2.2.1) kf_X8_103 dX8_settles_5 ?_
      refine x_icmp_ge E 141 dX8_settles_8 (by decide) (by unfold rg; omega) (by unfold rg; omega) (fun c8 => ?_) (fun c8 => ?_)
      · have hset : settled n wd hi sl h := fun d d0 d1 q => by have := (hst1 d d0 d1 q).2; omega
        have est : hall n wd hi b V = sp V (b + 1) h := by
          obtain ⟨k, ek⟩ := hk
          unfold hall
          rw [hsl, stl_of (k := k) (by rw [← ek]; exact hset), ← ek]
        exact r_v E hQ hG hS dX8_settles_141 (⟨f1, g1, by rw [est], hf1⟩)
      · have hc : 0 ≤ g1 ∧ g1 < (n : Int) := by omega
        have hfg := hf1 g1
        have hv0 := hh g1 hc.1 hc.2
        have L33_2 : (¬ stp wd hi sl h g1) → ∀ (H : Heap) (locs : List Loc) (ls : Array Slot), GW X (pk (sp V (b + 1) h) b U f1 g1) H → va_S (wA X) s0.heap H locs → lv_has ls 5 [(0, .ref (wa X 0)), (1, .int (jI g1))] → W pg l ev Rm s0 mi ag bl mt cd H locs 0 0 Qq (F0 mi 33 ls []) := by
          intro  hns H locs ls hG hS hl
          refine x_aload_n E dX8_settles_33 (lv_at hl 0 rfl) ?_
          refine x_getr E hI hG (ym0 hY) cf8 46 25 rfl (by decide) kf_X8_93 dX8_settles_34 ?_
          refine x_iload_n E dX8_settles_37 (lv_at hl 1 rfl) ?_
          refine x_iconst E dX8_settles_38 ?_
          refine x_zast E hI hG hS (ym25 hY) (by omega) (Or.inl rfl) dX8_settles_39 (fun H locs hG hS => ?_)
          rw [show (st (pk (sp V (b + 1) h) b U f1 g1) 25 g1 0) = (pk (sp V (b + 1) h) b U (ui f1 g1 0) g1) from pk_f _ _] at hG
          refine x_aload_n E dX8_settles_40 (lv_at hl 0 rfl) ?_
          refine x_dup E dX8_settles_41 rfl ?_
          refine x_geti E hI hG (ym0 hY) cf8 47 (g1) rfl (by decide) rfl kf_X8_140 dX8_settles_42 ?_
          refine x_iconst E dX8_settles_45 ?_
          refine x_iadd E dX8_settles_46 ?_
          refine x_puti E hI hG hS (ym0 hY) cf8 47 47 rfl rfl (by decide) rfl rfl kf_X8_140 dX8_settles_47 (fun H locs hG hS => ?_)
          rw [show (st (pk (sp V (b + 1) h) b U (ui f1 g1 0) g1) 0 47 (g1 + 1)) = (pk (sp V (b + 1) h) b U (ui f1 g1 0) (g1 + 1)) from pk_g _] at hG
          refine x_goto E 0 dX8_settles_50 (by decide) ?_
          exact ih0 h (ui f1 g1 0) (g1 + 1) hk hh (hf1.set _ (Or.inl rfl)) (by omega) (fun d d0 d1 q => by
                  have a := hst1 d d0 d1 q
                  have e : d ≠ g1 := fun e => hns (by rw [← e]; exact q)
                  rw [ui_n e]
                  exact ⟨a.1, by omega⟩) (by omega) _ _ _ hG hS (lv_sub hl [0] rfl)
        refine x_aload_n E dX8_settles_11 (lv_at hl 0 rfl) ?_
        refine x_geti E hI hG (ym0 hY) cf8 47 (g1) rfl (by decide) rfl kf_X8_140 dX8_settles_12 ?_
        refine x_istore_n E [(1, .int (jI g1)), (0, .ref (wa X 0))] dX8_settles_15 hl (by decide) rfl (fun ls hl => ?_)
        refine x_aload_n E dX8_settles_16 (lv_at hl 1 rfl) ?_
        refine x_getr E hI hG (ym0 hY) cf8 46 25 rfl (by decide) kf_X8_93 dX8_settles_17 ?_
        refine x_iload_n E dX8_settles_20 (lv_at hl 0 rfl) ?_
        refine x_zald E hI hG (ym25 hY) (f1 g1) rfl (by omega) dX8_settles_21 ?_
        refine x_if_eq E 33 dX8_settles_22 (by decide) (by unfold rg; omega) (fun c22 => ?_) (fun c22 => ?_)
        · exact L33_2  (fun q => by have := (hst1 g1 hc.1 hc.2 q).1; omega) _ _ _ hG hS (lv_sub hl [1, 0] rfl)
        · refine x_aload_n E dX8_settles_25 (lv_at hl 1 rfl) ?_
          refine x_iload_n E dX8_settles_26 (lv_at hl 0 rfl) ?_
          refine x_ci hG hS (x_runV E hI hG hS (ym0 hY) cf8 rfl (c_X8_isSteep l hY U hU (sp V (b + 1) h) f1 g1 h (sp_s _ _ _) hh sl (by rw [sp_n (by omega)]; exact hsl) hl9 g1 hc) mf_X8_isSteep km_X8_143 rfl hl rfl (Nat.le_of_ble_eq_true rfl) (by rw [hR]; exact ⟨Nat.le_of_ble_eq_true rfl, Nat.le_of_ble_eq_true rfl⟩) ⟨Nat.zero_le _, Nat.zero_le _⟩ dX8_settles_27) (fun zs V1 H locs hp hG hS => ?_)
          obtain ⟨hz01, hzi, eV⟩ := hp
          rw [eV] at hG
          refine x_if_ne E 53 dX8_settles_30 (by decide) (by unfold rg; omega) (fun c30 => ?_) (fun c30 => ?_)
          · have hstp : stp wd hi sl h g1 := hzi.mp (by omega)
            refine x_iconst E dX8_settles_53 ?_
            refine x_istore_n E [(2, .int (jI (-1))), (1, .int (jI g1)), (0, .ref (wa X 0))] dX8_settles_54 hl (by decide) rfl (fun ls hl => ?_)
            refine x_iconst E dX8_settles_55 ?_
            refine x_istore_n E [(3, .int (jI 0)), (2, .int (jI (-1))), (1, .int (jI g1)), (0, .ref (wa X 0))] dX8_settles_56 hl (by decide) rfl (fun ls hl => ?_)
            have L57_3 : ∀ (N : Nat) (k : Int) (tt : Int), (0 ≤ k) → (k ≤ 4) → (tt = lowK wd hi h g1 k.toNat) → ((4 - k).toNat) < N → ∀ (H : Heap) (locs : List Loc) (ls : Array Slot), GW X (pk (sp V (b + 1) h) b U f1 g1) H → va_S (wA X) s0.heap H locs → lv_has ls 5 [(0, .ref (wa X 0)), (1, .int (jI g1)), (2, .int (jI tt)), (3, .int (jI k))] → W pg l ev Rm s0 mi ag bl mt cd H locs 0 0 Qq (F0 mi 57 ls []) := by
              intro N
              induction N with
              | zero => intro k tt k0 k1 et hN; exact absurd hN (Nat.not_lt_zero _)
              | succ N ih57 =>
                intro k tt k0 k1 et hN H locs ls hG hS hl
                refine x_iload_n E dX8_settles_57 (lv_at hl 3 rfl) ?_
                refine x_iconst E dX8_settles_58 ?_
                refine x_icmp_ge E 108 dX8_settles_59 (by decide) (by unfold rg; omega) (by unfold rg; omega) (fun c59 => ?_) (fun c59 => ?_)
                · have ek : tt = lowN wd hi h g1 := by rw [et, show k.toNat = 4 by omega]; rfl
                  obtain ⟨t1, t2, t3, -, -⟩ := lowN_spec hd h hc.1 hc.2
                  rw [← ek] at t1 t2 t3
                  have esl : slide wd hi h g1 = ui (ui h g1 (h g1 - 1)) tt (h tt + 1) := by unfold slide; rw [← ek]
                  refine x_aload_n E dX8_settles_108 (lv_at hl 0 rfl) ?_
                  refine x_getr E hI hG (ym0 hY) cf8 3 1 rfl (by decide) kf_X8_7 dX8_settles_109 ?_
                  refine x_iload_n E dX8_settles_112 (lv_at hl 1 rfl) ?_
                  refine x_dup2 E dX8_settles_113 rfl rfl ?_
                  refine x_iald E hI hG (ym1 hY) (h g1) (sp_sz _ _ _ _) (by omega) dX8_settles_114 ?_
                  refine x_iconst E dX8_settles_115 ?_
                  refine x_isub E dX8_settles_116 ?_
                  refine x_iast E hI hG hS (ym1 hY) (by omega) dX8_settles_117 (fun H locs hG hS => ?_)
                  rw [show (st (pk (sp V (b + 1) h) b U f1 g1) 1 g1 ((h g1) - 1)) = (pk (st (sp V (b + 1) h) (b + 1) g1 ((h g1) - 1)) b U f1 g1) from pk_h (by decide) _ _] at hG
                  rw [show (pk (st (sp V (b + 1) h) (b + 1) g1 ((h g1) - 1)) b U f1 g1) = (pk (sp V (b + 1) (ui h g1 (h g1 - 1))) b U f1 g1) from by rw [sp_st]] at hG
                  refine x_aload_n E dX8_settles_118 (lv_at hl 0 rfl) ?_
                  refine x_getr E hI hG (ym0 hY) cf8 3 1 rfl (by decide) kf_X8_7 dX8_settles_119 ?_
                  refine x_iload_n E dX8_settles_122 (lv_at hl 2 rfl) ?_
                  refine x_dup2 E dX8_settles_123 rfl rfl ?_
                  refine x_iald E hI hG (ym1 hY) (h tt) ((sp_sz _ _ _ _).trans (ui_n t3)) (by omega) dX8_settles_124 ?_
                  refine x_iconst E dX8_settles_125 ?_
                  refine x_iadd E dX8_settles_126 ?_
                  refine x_iast E hI hG hS (ym1 hY) (by omega) dX8_settles_127 (fun H locs hG hS => ?_)
                  rw [show (st (pk (sp V (b + 1) (ui h g1 (h g1 - 1))) b U f1 g1) 1 tt ((h tt) + 1)) = (pk (st (sp V (b + 1) (ui h g1 (h g1 - 1))) (b + 1) tt ((h tt) + 1)) b U f1 g1) from pk_h (by decide) _ _] at hG
                  rw [show (pk (st (sp V (b + 1) (ui h g1 (h g1 - 1))) (b + 1) tt ((h tt) + 1)) b U f1 g1) = (pk (sp V (b + 1) (slide wd hi h g1)) b U f1 g1) from by rw [sp_st, ← esl]] at hG
                  refine x_aload_n E dX8_settles_128 (lv_at hl 0 rfl) ?_
                  refine x_iload_n E dX8_settles_129 (lv_at hl 1 rfl) ?_
                  refine x_cv hG hS (x_runV E hI hG hS (ym0 hY) cf8 rfl (c_X8_touches l hY U hU (sp V (b + 1) (slide wd hi h g1)) f1 g1 hf1 (by omega) g1 hc) mf_X8_touches km_X8_147 rfl hl rfl (Nat.le_of_ble_eq_true rfl) (by rw [hR]; exact ⟨Nat.le_of_ble_eq_true rfl, Nat.le_of_ble_eq_true rfl⟩) ⟨Nat.zero_le _, Nat.zero_le _⟩ dX8_settles_130) (fun V1 H locs hp hG hS => ?_)
                  obtain ⟨f2, g2, eV, ⟨s1, s2, s3, s4, s5, s6, s7⟩⟩ := hp
                  rw [eV] at hG
                  refine x_aload_n E dX8_settles_133 (lv_at hl 0 rfl) ?_
                  refine x_iload_n E dX8_settles_134 (lv_at hl 2 rfl) ?_
                  refine x_cv hG hS (x_runV E hI hG hS (ym0 hY) cf8 rfl (c_X8_touches l hY U hU (sp V (b + 1) (slide wd hi h g1)) f2 g2 s1 (by omega) tt ⟨t1, t2⟩) mf_X8_touches km_X8_147 rfl hl rfl (Nat.le_of_ble_eq_true rfl) (by rw [hR]; exact ⟨Nat.le_of_ble_eq_true rfl, Nat.le_of_ble_eq_true rfl⟩) ⟨Nat.zero_le _, Nat.zero_le _⟩ dX8_settles_135) (fun V1 H locs hp hG hS => ?_)
                  obtain ⟨f3, g3, eV, ⟨u1, u2, u3, u4, u5, u6, u7⟩⟩ := hp
                  rw [eV] at hG
                  refine x_goto E 0 dX8_settles_138 (by decide) ?_
                  exact ih0 (slide wd hi h g1) f3 g3 (by
                            obtain ⟨k, ek⟩ := hk
                            refine ⟨k + 1, ?_⟩
                            show _ = sstep n wd hi sl (itr n wd hi sl (V (b + 1)) k)
                            rw [← ek]
                            exact (sstep_at ⟨hc.1, hc.2, hstp, fun d d0 d1 q => by have := (hst1 d d0 (by omega) q).2; omega⟩).symm) (slide_bnd hd hl9.1 hh hc.1 hc.2 hstp) u1 (by omega) (fun d d0 d1 q => by
                            rcases slide_new hd hl9.1 hc.1 hc.2 hstp d0 d1 q with y | y | ⟨k, k0, k1, k2, -⟩
                            · have a := hst1 d d0 d1 y
                              exact ⟨u2 d (s2 d a.1), by omega⟩
                            · rw [y, ← ek]; exact ⟨u3, u5⟩
                            · have a := s7 k k0 k1 (by omega)
                              rw [k2] at a
                              exact ⟨u2 d a.1, by omega⟩) (by have a := slide_sq (m := 0) hd hl9.1 hc.1 hc.2 hstp; have b1 := sq_nonneg n 0 (slide wd hi h g1); omega) _ _ _ hG hS (lv_sub hl [0] rfl)
                · have hr := nb_range (k := k) hd hc.1 hc.2
                  have htr := lowK_rg hd h hc.1 hc.2 k.toNat
                  rw [← et] at htr
                  have hls := lowK_t (wd := wd) (hi := hi) (h := h) (c := g1) k0
                  rw [← et] at hls
                  unfold lb at hls
                  have L101_4 : ∀ (z : Int), (z = lowK wd hi h g1 (k + 1).toNat) → ∀ (H : Heap) (locs : List Loc) (ls : Array Slot), GW X (pk (sp V (b + 1) h) b U f1 g1) H → va_S (wA X) s0.heap H locs → lv_has ls 5 [(0, .ref (wa X 0)), (1, .int (jI g1)), (3, .int (jI k))] → W pg l ev Rm s0 mi ag bl mt cd H locs 0 0 Qq (F0 mi 101 ls [.int (jI z)]) := by
                    intro z hz H locs ls hG hS hl
                    refine x_istore_n E [(2, .int (jI z)), (0, .ref (wa X 0)), (1, .int (jI g1)), (3, .int (jI k))] dX8_settles_101 hl (by decide) rfl (fun ls hl => ?_)
                    refine x_iinc E (k := 3) [(3, .int (jI (k + 1))), (2, .int (jI z)), (0, .ref (wa X 0)), (1, .int (jI g1))] dX8_settles_102 hl rfl (by decide) rfl (fun ls hl => ?_)
                    refine x_goto E 57 dX8_settles_105 (by decide) ?_
                    exact ih57 (k + 1) z (by omega) (by omega) hz (by omega) _ _ _ hG hS (lv_sub hl [2, 3, 1, 0] rfl)
                  have L100_5 : (¬ (0 ≤ nb wd hi g1 k ∧ (tt < 0 ∨ h (nb wd hi g1 k) < h tt))) → ∀ (H : Heap) (locs : List Loc) (ls : Array Slot), GW X (pk (sp V (b + 1) h) b U f1 g1) H → va_S (wA X) s0.heap H locs → lv_has ls 5 [(0, .ref (wa X 0)), (1, .int (jI g1)), (2, .int (jI tt)), (3, .int (jI k))] → W pg l ev Rm s0 mi ag bl mt cd H locs 0 0 Qq (F0 mi 100 ls []) := by
                    intro  hy H locs ls hG hS hl
                    refine x_iload_n E dX8_settles_100 (lv_at hl 2 rfl) ?_
                    exact L101_4 tt (by rw [hls, if_neg hy]) _ _ _ hG hS (lv_sub hl [0, 1, 3] rfl)
                  have L95_6 : (0 ≤ nb wd hi g1 k ∧ (tt < 0 ∨ h (nb wd hi g1 k) < h tt)) → ∀ (H : Heap) (locs : List Loc) (ls : Array Slot), GW X (pk (sp V (b + 1) h) b U f1 g1) H → va_S (wA X) s0.heap H locs → lv_has ls 5 [(0, .ref (wa X 0)), (1, .int (jI g1)), (2, .int (jI tt)), (3, .int (jI k)), (4, .int (jI (nb wd hi g1 k)))] → W pg l ev Rm s0 mi ag bl mt cd H locs 0 0 Qq (F0 mi 95 ls []) := by
                    intro  hy H locs ls hG hS hl
                    refine x_iload E dX8_settles_95 (lv_at hl 4 rfl) ?_
                    refine x_goto E 101 dX8_settles_97 (by decide) ?_
                    exact L101_4 (nb wd hi g1 k) (by rw [hls, if_pos hy]) _ _ _ hG hS (lv_sub hl [0, 1, 3] rfl)
                  refine x_aload_n E dX8_settles_62 (lv_at hl 0 rfl) ?_
                  refine x_iload_n E dX8_settles_63 (lv_at hl 1 rfl) ?_
                  refine x_iload_n E dX8_settles_64 (lv_at hl 3 rfl) ?_
                  refine x_ci hG hS (x_runV E hI hG hS (ym0 hY) cf8 rfl (c_X8_near l hY (pk (sp V (b + 1) h) b U f1 g1) hU.1 hU.2.1 hd g1 k hc (by omega)) mf_X8_near km_X8_136 rfl hl rfl (Nat.le_of_ble_eq_true rfl) (by rw [hR]; exact ⟨Nat.le_of_ble_eq_true rfl, Nat.le_of_ble_eq_true rfl⟩) ⟨Nat.zero_le _, Nat.zero_le _⟩ dX8_settles_65) (fun z1 V1 H locs hp hG hS => ?_)
                  obtain ⟨ez, eV⟩ := hp
                  rw [eV] at hG
                  rw [ez]
                  refine x_istore E [(4, .int (jI (nb wd hi g1 k))), (0, .ref (wa X 0)), (1, .int (jI g1)), (2, .int (jI tt)), (3, .int (jI k))] dX8_settles_68 hl (by decide) rfl (fun ls hl => ?_)
                  refine x_iload E dX8_settles_70 (lv_at hl 0 rfl) ?_
                  refine x_if_lt E 100 dX8_settles_72 (by decide) (by unfold rg; omega) (fun c72 => ?_) (fun c72 => ?_)
                  · exact L100_5  (by omega) _ _ _ hG hS (lv_sub hl [1, 2, 3, 4] rfl)
                  · refine x_iload_n E dX8_settles_75 (lv_at hl 3 rfl) ?_
                    refine x_if_lt E 95 dX8_settles_76 (by decide) (by unfold rg; omega) (fun c76 => ?_) (fun c76 => ?_)
                    · exact L95_6  (⟨by omega, Or.inl c76⟩) _ _ _ hG hS (lv_sub hl [1, 2, 3, 4, 0] rfl)
                    · have hv1 := hh (nb wd hi g1 k) (by omega) hr.2
                      have hv2 := hh tt (by omega) htr.2
                      refine x_aload_n E dX8_settles_79 (lv_at hl 1 rfl) ?_
                      refine x_getr E hI hG (ym0 hY) cf8 3 1 rfl (by decide) kf_X8_7 dX8_settles_80 ?_
                      refine x_iload E dX8_settles_83 (lv_at hl 0 rfl) ?_
                      refine x_iald E hI hG (ym1 hY) (h (nb wd hi g1 k)) (sp_sz _ _ _ _) (by omega) dX8_settles_85 ?_
                      refine x_aload_n E dX8_settles_86 (lv_at hl 1 rfl) ?_
                      refine x_getr E hI hG (ym0 hY) cf8 3 1 rfl (by decide) kf_X8_7 dX8_settles_87 ?_
                      refine x_iload_n E dX8_settles_90 (lv_at hl 3 rfl) ?_
                      refine x_iald E hI hG (ym1 hY) (h tt) (sp_sz _ _ _ _) (by omega) dX8_settles_91 ?_
                      refine x_icmp_ge E 100 dX8_settles_92 (by decide) (by unfold rg; omega) (by unfold rg; omega) (fun c92 => ?_) (fun c92 => ?_)
                      · exact L100_5  (by omega) _ _ _ hG hS (lv_sub hl [1, 2, 3, 4] rfl)
                      · exact L95_6  (⟨by omega, Or.inr (by omega)⟩) _ _ _ hG hS (lv_sub hl [1, 2, 3, 4, 0] rfl)
            exact L57_3 _ 0 (-1) (by omega) (by omega) rfl (Nat.lt_succ_self _) _ _ _ hG hS (lv_sub hl [3, 2, 1, 0] rfl)
          · exact L33_2  (fun q => by have := hzi.mpr q; omega) _ _ _ hG hS (lv_sub hl [1, 0] rfl)
  exact L0_1 _ (V (b + 1)) f g (⟨0, rfl⟩) hps.1 hf hg hst (Nat.lt_succ_self _) _ _ _ hG hS (lv_sub hl [0] rfl)

set_option maxHeartbeats 4000000 in
set_option maxRecDepth 100000 in
theorem c_X8_settledAt (l : Launch) {X : We} (hY : isY X) {n b : Nat} {wd hi : Int} (U : Mem) (hU : MU U n wd hi) (V : Mem) (f : Int → Int) (g : Int) (hf : bo f) {t : Int} (hh : HI n wd hi (V (b + 10) 3) t (V (b + 1))) (c v : Int) (hc : 0 ≤ c ∧ c < (n : Int)) (hv : 0 ≤ v ∧ v ≤ 9500) : Mt l X (pk (sp V (b + 1) (ui (V (b + 1)) c v)) b U f g) yX8_settledAt cX8_settledAt 2 none 3 72 [.ref (wa X 0), .int (jI c)] (Qv X (fun V1 => ∃ f1 g1, V1 = pk (hput n wd hi b c v V) b U f1 g1 ∧ bo f1)) := by
  refine Mt.go (by decide) (Nat.le_of_ble_eq_true rfl) ?_
  intro pg ev s0 mi bl mt cd ls Rm ag Qq hR hQ E hI hG hS hl
  have hl : lv_has ls 2 [(0, .ref (wa X 0)), (1, .int (jI c))] := hl
  have hd := hU.2.2.2
  obtain ⟨hn1, hn2⟩ := dims.n hd
  refine x_aload_n E dX8_settledAt_0 (lv_at hl 0 rfl) ?_
  refine x_aload_n E dX8_settledAt_1 (lv_at hl 0 rfl) ?_
  refine x_geti E hI hG (ym0 hY) cf8 2 ((n : Int)) rfl (by decide) (show (pk (sp V (b + 1) (ui (V (b + 1)) c v)) b U f g) 0 2 = (n : Int) from hU.2.2.1) kf_X8_103 dX8_settledAt_2 ?_
  refine x_puti E hI hG hS (ym0 hY) cf8 47 47 rfl rfl (by decide) rfl rfl kf_X8_140 dX8_settledAt_5 (fun H locs hG hS => ?_)
  rw [show (st (pk (sp V (b + 1) (ui (V (b + 1)) c v)) b U f g) 0 47 (n : Int)) = (pk (sp V (b + 1) (ui (V (b + 1)) c v)) b U f (n : Int)) from pk_g _] at hG
  refine x_aload_n E dX8_settledAt_8 (lv_at hl 0 rfl) ?_
  refine x_iload_n E dX8_settledAt_9 (lv_at hl 1 rfl) ?_
  refine x_cv hG hS (x_runV E hI hG hS (ym0 hY) cf8 rfl (c_X8_touches l hY U hU (sp V (b + 1) (ui (V (b + 1)) c v)) f (n : Int) hf (by omega) c hc) mf_X8_touches km_X8_147 rfl hl rfl (Nat.le_of_ble_eq_true rfl) (by rw [hR]; exact ⟨Nat.le_of_ble_eq_true rfl, Nat.le_of_ble_eq_true rfl⟩) ⟨Nat.zero_le _, Nat.zero_le _⟩ dX8_settledAt_10) (fun V1 H locs hp hG hS => ?_)
  obtain ⟨f2, g2, eV, ⟨s1, s2, s3, s4, s5, s6, s7⟩⟩ := hp
  rw [eV] at hG
  refine x_aload_n E dX8_settledAt_13 (lv_at hl 0 rfl) ?_
  refine x_cv hG hS (x_runV E hI hG hS (ym0 hY) cf8 rfl (c_X8_settles l hY U hU (sp V (b + 1) (ui (V (b + 1)) c v)) f2 g2 s1 (by omega) (by rw [sp_s]; exact HI.put hd hh hc.1 hc.2 hv.1 hv.2) (V (b + 10) 3) (by rw [sp_n (by omega)]) ⟨hh.2.2.2.1, hh.2.2.2.2.1⟩ (fun d d0 d1 q => by
    rw [sp_s] at q
    rcases ui_new hd hc.1 hc.2 hh.1 d0 d1 q with ⟨e, -⟩ | ⟨-, k, k0, k1, e, -⟩
    · rw [e]; exact ⟨s3, s5⟩
    · have := s7 k k0 k1 (by omega)
      rw [e] at this; exact this)) mf_X8_settles km_X8_150 rfl hl rfl (Nat.le_of_ble_eq_true rfl) (by rw [hR]; exact ⟨Nat.le_of_ble_eq_true rfl, Nat.le_of_ble_eq_true rfl⟩) ⟨Nat.zero_le _, Nat.zero_le _⟩ dX8_settledAt_14) (fun V1 H locs hp hG hS => ?_)
  obtain ⟨f3, g3, eV, hf3⟩ := hp
  rw [hput_hall] at eV
  rw [eV] at hG
  exact r_v E hQ hG hS dX8_settledAt_17 (⟨f3, g3, rfl, hf3⟩)

set_option maxHeartbeats 4000000 in
set_option maxRecDepth 100000 in
theorem c_X8_settledAll (l : Launch) {X : We} (hY : isY X) {n b : Nat} {wd hi : Int} (U : Mem) (hU : MU U n wd hi) (V : Mem) (f : Int → Int) (g : Int) (hf : bo f) (hps : PS n (V (b + 1))) (hl9 : 1 ≤ V (b + 10) 3 ∧ V (b + 10) 3 ≤ 9) : Mt l X (pk V b U f g) yX8_settledAll cX8_settledAll 2 none 3 72 [.ref (wa X 0)] (Qv X (fun V1 => ∃ f1 g1, V1 = pk (hall n wd hi b V) b U f1 g1 ∧ bo f1)) := by
  refine Mt.go (by decide) (Nat.le_of_ble_eq_true rfl) ?_
  intro pg ev s0 mi bl mt cd ls Rm ag Qq hR hQ E hI hG hS hl
  have hl : lv_has ls 2 [(0, .ref (wa X 0))] := hl
  have hd := hU.2.2.2
  obtain ⟨hn1, hn2⟩ := dims.n hd
  refine x_aload_n E dX8_settledAll_0 (lv_at hl 0 rfl) ?_
  refine x_iconst E dX8_settledAll_1 ?_
  refine x_puti E hI hG hS (ym0 hY) cf8 47 47 rfl rfl (by decide) rfl rfl kf_X8_140 dX8_settledAll_2 (fun H locs hG hS => ?_)
  rw [show (st (pk V b U f g) 0 47 0) = (pk V b U f 0) from pk_g _] at hG
  refine x_iconst E dX8_settledAll_5 ?_
  refine x_istore_n E [(1, .int (jI 0)), (0, .ref (wa X 0))] dX8_settledAll_6 hl (by decide) rfl (fun ls hl => ?_)
  have L7_1 : ∀ (N : Nat) (i : Int) (f1 : Int → Int), (0 ≤ i) → (i ≤ (n : Int)) → (bo f1) → (∀ d : Int, 0 ≤ d → d < i → f1 d = 1) → (((n : Int) - i).toNat) < N → ∀ (H : Heap) (locs : List Loc) (ls : Array Slot), GW X (pk V b U f1 0) H → va_S (wA X) s0.heap H locs → lv_has ls 2 [(0, .ref (wa X 0)), (1, .int (jI i))] → W pg l ev Rm s0 mi ag bl mt cd H locs 0 0 Qq (F0 mi 7 ls []) := by
    intro N
    induction N with
    | zero => intro i f1 i0 i1 hf1 hq hN; exact absurd hN (Nat.not_lt_zero _)
    | succ N ih7 =>
      intro i f1 i0 i1 hf1 hq hN H locs ls hG hS hl
      refine x_iload_n E dX8_settledAll_7 (lv_at hl 1 rfl) ?_
      refine x_aload_n E dX8_settledAll_8 (lv_at hl 0 rfl) ?_
      refine x_geti E hI hG (ym0 hY) cf8 2 ((n : Int)) rfl (by decide) (show (pk V b U f1 0) 0 2 = (n : Int) from hU.2.2.1) kf_X8_103 dX8_settledAll_9 ?_
      refine x_icmp_ge E 28 dX8_settledAll_12 (by decide) (by unfold rg; omega) (by unfold rg; omega) (fun c12 => ?_) (fun c12 => ?_)
      · refine x_aload_n E dX8_settledAll_28 (lv_at hl 0 rfl) ?_
        refine x_cv hG hS (x_runV E hI hG hS (ym0 hY) cf8 rfl (c_X8_settles l hY U hU V f1 0 hf1 (by omega) hps (V (b + 10) 3) rfl hl9 (fun d d0 d1 _ => ⟨hq d d0 (by omega), d0⟩)) mf_X8_settles km_X8_150 rfl hl rfl (Nat.le_of_ble_eq_true rfl) (by rw [hR]; exact ⟨Nat.le_of_ble_eq_true rfl, Nat.le_of_ble_eq_true rfl⟩) ⟨Nat.zero_le _, Nat.zero_le _⟩ dX8_settledAll_29) (fun V1 H locs hp hG hS => ?_)
        obtain ⟨f3, g3, eV, hf3⟩ := hp
        rw [eV] at hG
        exact r_v E hQ hG hS dX8_settledAll_32 (⟨f3, g3, rfl, hf3⟩)
      · refine x_aload_n E dX8_settledAll_15 (lv_at hl 0 rfl) ?_
        refine x_getr E hI hG (ym0 hY) cf8 46 25 rfl (by decide) kf_X8_93 dX8_settledAll_16 ?_
        refine x_iload_n E dX8_settledAll_19 (lv_at hl 1 rfl) ?_
        refine x_iconst E dX8_settledAll_20 ?_
        refine x_zast E hI hG hS (ym25 hY) (by omega) (Or.inr rfl) dX8_settledAll_21 (fun H locs hG hS => ?_)
        rw [show (st (pk V b U f1 0) 25 i 1) = (pk V b U (ui f1 i 1) 0) from pk_f _ _] at hG
        refine x_iinc E (k := 1) [(1, .int (jI (i + 1))), (0, .ref (wa X 0))] dX8_settledAll_22 hl rfl (by decide) rfl (fun ls hl => ?_)
        refine x_goto E 7 dX8_settledAll_25 (by decide) ?_
        exact ih7 (i + 1) (ui f1 i 1) (by omega) (by omega) (hf1.set _ (Or.inr rfl)) (fun d d0 d1 => by (unfold ui; split; rfl; exact hq d d0 (by omega))) (by omega) _ _ _ hG hS (lv_sub hl [1, 0] rfl)
  exact L7_1 _ 0 f (by omega) (by omega) hf (fun d d0 d1 => by omega) (Nat.lt_succ_self _) _ _ _ hG hS (lv_sub hl [1, 0] rfl)

set_option maxHeartbeats 4000000 in
set_option maxRecDepth 100000 in
theorem c_X8_draw (l : Launch) {X : We} (hY : isY X) {b : Nat} (U V : Mem) (f : Int → Int) (g : Int) (m : Int) (hm : 0 < m ∧ m < 65536) : Mt l X (pk V b U f g) yX8_draw cX8_draw 2 (some .int) 0 0 [.ref (wa X 0), .int (jI m)] (Qi X (fun z V1 => z = dw (nx (V b 11)) m ∧ V1 = pk (drM b V) b U f g)) := by
  refine Mt.go (by decide) (Nat.le_of_ble_eq_true rfl) ?_
  intro pg ev s0 mi bl mt cd ls Rm ag Qq hR hQ E hI hG hS hl
  have hl : lv_has ls 2 [(0, .ref (wa X 0)), (1, .int (jI m))] := hl
  refine x_aload_n E dX8_draw_0 (lv_at hl 0 rfl) ?_
  refine x_aload_n E dX8_draw_1 (lv_at hl 0 rfl) ?_
  refine x_geti E hI hG (ym0 hY) cf8 11 (V b 11) rfl (by decide) rfl kf_X8_34 dX8_draw_2 ?_
  refine x_ldc E 1103515245 kk_X8_114 (by decide) dX8_draw_5 ?_
  refine x_imul E dX8_draw_7 ?_
  refine x_sipush E dX8_draw_8 (by decide) ?_
  refine x_iadd E dX8_draw_11 ?_
  refine x_puti E hI hG hS (ym0 hY) cf8 11 11 rfl rfl (by decide) rfl rfl kf_X8_34 dX8_draw_12 (fun H locs hG hS => ?_)
  rw [show (st (pk V b U f g) 0 11 (((V b 11) * 1103515245) + 12345)) = (pk (st V b 11 (((V b 11) * 1103515245) + 12345)) b U f g) from pk_n (by decide) _ _] at hG
  rw [show (pk (st V b 11 (((V b 11) * 1103515245) + 12345)) b U f g) = (pk (drM b V) b U f g) from rfl] at hG
  refine x_aload_n E dX8_draw_15 (lv_at hl 0 rfl) ?_
  refine x_geti E hI hG (ym0 hY) cf8 11 ((nx (V b 11))) rfl (by decide) (show (pk (drM b V) b U f g) 0 11 = (nx (V b 11)) from (st_s _ _ _ _)) kf_X8_34 dX8_draw_16 ?_
  refine x_bipush E dX8_draw_19 (by decide) ?_
  refine lv_iushr E.1 E.2.1 dX8_draw_21 rfl ?_
  refine x_rawi (du (nx (V b 11))) (q_du _) ?_
  have hdu := du_rg (nx (V b 11))
  refine x_iload_n E dX8_draw_22 (lv_at hl 1 rfl) ?_
  refine x_irem E (by omega) (by omega) dX8_draw_23 ?_
  exact r_i E hQ hG hS dX8_draw_24 (⟨rfl, rfl⟩)
