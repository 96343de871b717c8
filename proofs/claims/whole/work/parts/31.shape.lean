set_option maxHeartbeats 4000000 in
set_option maxRecDepth 100000 in
theorem c_X3_has (l : Launch) {X : We} {n : Nat} (hX : isX X n) {wd hi : Int} (V : Mem) (hs : Sh V n wd hi) (c : Int) (hc : rg c) : Mt l X V yX3_has cX3_has 2 (some .boolean) 0 0 [.ref (wa X 1), .int (jI c)] (Qi X (fun z V1 => z = b01 (0 ≤ c ∧ c < (n : Int)) ∧ V1 = V)) := by
  refine Mt.go (by decide) (Nat.le_of_ble_eq_true rfl) ?_
  intro pg ev s0 mi bl mt cd ls Rm ag Qq hR hQ E hI hG hS hl
  have hl : lv_has ls 2 [(0, .ref (wa X 1)), (1, .int (jI c))] := hl
  obtain ⟨hn1, hn2⟩ := dims.n hs.2.2.2.1
  unfold rg at hc
  have L17_1 : ∀ (z : Int), (z = b01 (0 ≤ c ∧ c < (n : Int))) → ∀ (H : Heap) (locs : List Loc) (ls : Array Slot), GW X V H → va_S (wA X) s0.heap H locs → lv_has ls 2 [] → W pg l ev Rm s0 mi ag bl mt cd H locs 0 0 Qq (F0 mi 17 ls [.int (jI z)]) := by
    intro z hz H locs ls hG hS hl
    exact r_z E hQ hG hS dX3_has_17 (by rw [hz]; exact b01_c) (⟨hz, rfl⟩)
  refine x_iload_n E dX3_has_0 (lv_at hl 1 rfl) ?_
  refine x_if_lt E 16 dX3_has_1 (by decide) (by unfold rg; omega) (fun c1 => ?_) (fun c1 => ?_)
  · refine x_iconst E dX3_has_16 ?_
    exact L17_1 0 ((b01_0 (by omega)).symm) _ _ _ hG hS (lv_sub hl [] rfl)
  · refine x_iload_n E dX3_has_4 (lv_at hl 1 rfl) ?_
    refine x_aload_n E dX3_has_5 (lv_at hl 0 rfl) ?_
    refine x_geti E hI hG (xs0 hX) cf3 2 (n) rfl (by decide) hs.2.2.1 kf_X3_18 dX3_has_6 ?_
    refine x_icmp_ge E 16 dX3_has_9 (by decide) (by unfold rg; omega) (by unfold rg; omega) (fun c9 => ?_) (fun c9 => ?_)
    · refine x_iconst E dX3_has_16 ?_
      exact L17_1 0 ((b01_0 (by omega)).symm) _ _ _ hG hS (lv_sub hl [] rfl)
    · refine x_iconst E dX3_has_12 ?_
      refine x_goto E 17 dX3_has_13 (by decide) ?_
      exact L17_1 1 ((b01_1 (by omega)).symm) _ _ _ hG hS (lv_sub hl [] rfl)

set_option maxHeartbeats 4000000 in
set_option maxRecDepth 100000 in
theorem c_X3_beside (l : Launch) {X : We} {n : Nat} (hX : isX X n) {wd hi : Int} (V : Mem) (hs : Sh V n wd hi) (c k : Int) (hc : -1 ≤ c ∧ c < (n : Int)) (hk : 0 ≤ k ∧ k < 4) : Mt l X V yX3_beside cX3_beside 4 (some .int) 0 0 [.ref (wa X 1), .int (jI c), .int (jI k)] (Qi X (fun z V1 => z = (if 0 ≤ c then nb wd hi c k else -1) ∧ V1 = V)) := by
  refine Mt.go (by decide) (Nat.le_of_ble_eq_true rfl) ?_
  intro pg ev s0 mi bl mt cd ls Rm ag Qq hR hQ E hI hG hS hl
  have hl : lv_has ls 4 [(0, .ref (wa X 1)), (1, .int (jI c)), (2, .int (jI k))] := hl
  obtain ⟨hn1, hn2⟩ := dims.n hs.2.2.2.1
  have L33_1 : ∀ (z : Int), (z = (if 0 ≤ c then nb wd hi c k else -1)) → ∀ (H : Heap) (locs : List Loc) (ls : Array Slot), GW X V H → va_S (wA X) s0.heap H locs → lv_has ls 4 [] → W pg l ev Rm s0 mi ag bl mt cd H locs 0 0 Qq (F0 mi 33 ls [.int (jI z)]) := by
    intro z hz H locs ls hG hS hl
    exact r_i E hQ hG hS dX3_beside_33 (⟨hz, rfl⟩)
  refine x_iload_n E dX3_beside_0 (lv_at hl 1 rfl) ?_
  refine x_iconst E dX3_beside_1 ?_
  refine x_imul E dX3_beside_2 ?_
  refine x_iload_n E dX3_beside_3 (lv_at hl 2 rfl) ?_
  refine x_iadd E dX3_beside_4 ?_
  refine x_istore_n E [(3, .int (jI ((c * 4) + k))), (0, .ref (wa X 1)), (1, .int (jI c)), (2, .int (jI k))] dX3_beside_5 hl (by decide) rfl (fun ls hl => ?_)
  refine x_iload_n E dX3_beside_6 (lv_at hl 2 rfl) ?_
  refine x_if_lt E 32 dX3_beside_7 (by decide) (by unfold rg; omega) (fun c7 => ?_) (fun c7 => ?_)
  · refine x_iconst E dX3_beside_32 ?_
    exact L33_1 (-1) (by rw [if_neg (by omega)]) _ _ _ hG hS (lv_sub hl [] rfl)
  · refine x_iload_n E dX3_beside_10 (lv_at hl 0 rfl) ?_
    refine x_if_lt E 32 dX3_beside_11 (by decide) (by unfold rg; omega) (fun c11 => ?_) (fun c11 => ?_)
    · refine x_iconst E dX3_beside_32 ?_
      exact L33_1 (-1) (by rw [if_neg (by omega)]) _ _ _ hG hS (lv_sub hl [] rfl)
    · refine x_iload_n E dX3_beside_14 (lv_at hl 0 rfl) ?_
      refine x_aload_n E dX3_beside_15 (lv_at hl 1 rfl) ?_
      refine x_getr E hI hG (xs0 hX) cf3 3 2 rfl (by decide) kf_X3_21 dX3_beside_16 ?_
      refine x_alen E hI hG (xs1 hX) (by decide) dX3_beside_19 ?_
      refine x_icmp_ge E 32 dX3_beside_20 (by decide) (by unfold rg; omega) (by unfold rg; omega) (fun c20 => ?_) (fun c20 => ?_)
      · refine x_iconst E dX3_beside_32 ?_
        exact L33_1 (-1) (by rw [if_neg (by omega)]) _ _ _ hG hS (lv_sub hl [] rfl)
      · refine x_aload_n E dX3_beside_23 (lv_at hl 1 rfl) ?_
        refine x_getr E hI hG (xs0 hX) cf3 3 2 rfl (by decide) kf_X3_21 dX3_beside_24 ?_
        refine x_iload_n E dX3_beside_27 (lv_at hl 0 rfl) ?_
        refine x_iald E hI hG (xs1 hX) (nb wd hi c k) (hs.2.2.2.2 c k (by omega) (by omega) hk.1 hk.2) (by omega) dX3_beside_28 ?_
        refine x_goto E 33 dX3_beside_29 (by decide) ?_
        exact L33_1 (nb wd hi c k) (by rw [if_pos (by omega)]) _ _ _ hG hS (lv_sub hl [] rfl)
