def TP (V : Mem) : Prop := (0 ≤ V 45 1 ∧ V 45 1 ≤ 200) ∧ ∀ k : Int, 0 ≤ k → k < 200 → -128 ≤ V 46 k ∧ V 46 k ≤ 127
theorem isL_b (x : Int) : isL x = true ↔ (97 ≤ x ∧ x ≤ 122) ∨ (65 ≤ x ∧ x ≤ 90) := by unfold isL; exact decide_eq_true_iff
theorem isG_b (x : Int) : isG x = true ↔ 48 ≤ x ∧ x ≤ 57 := by unfold isG; exact decide_eq_true_iff
theorem b2i_of {q : Bool} {P : Prop} (h : q = true ↔ P) [Decidable P] : b2i q = b01 P := by
  unfold b2i b01
  by_cases e : P
  · rw [if_pos e, if_pos (h.mpr e)]
  · rw [if_neg e, if_neg (fun z => e (h.mp z))]
theorem wdB_no {f : Int → Int} {w : Nat} {i j : Int} (h : ¬ j - i = (zLen.getD w 0 : Int)) : wdB f w i j = false := by unfold wdB; rw [decide_eq_false h, Bool.false_and]
theorem wdB_ne {f : Int → Int} {w : Nat} {i j : Int} {k : Nat} (hk : k < zLen.getD w 0) (h : ¬ f (i + (k : Int)) = ((zByt.getD w []).getD k 0).toInt) : wdB f w i j = false := by
  unfold wdB
  rw [Bool.and_eq_false_iff]
  refine Or.inr ?_
  rw [List.all_eq_false]
  exact ⟨k, List.mem_range.mpr hk, by rw [decide_eq_false h]; decide⟩
theorem wdB_yes {f : Int → Int} {w : Nat} {i j : Int} (h : j - i = (zLen.getD w 0 : Int)) (hk : ∀ k : Nat, k < zLen.getD w 0 → f (i + (k : Int)) = ((zByt.getD w []).getD k 0).toInt) : wdB f w i j = true := by
  unfold wdB
  rw [decide_eq_true h, Bool.true_and, List.all_eq_true]
  intro k q
  rw [decide_eq_true_iff]; exact hk k (List.mem_range.mp q)
theorem zLen_le (w : Nat) : zLen.getD w 0 ≤ 7 := by
  rcases (show w = 0 ∨ w = 1 ∨ w = 2 ∨ w = 3 ∨ w = 4 ∨ 5 ≤ w by omega) with rfl | rfl | rfl | rfl | rfl | h
  · decide
  · decide
  · decide
  · decide
  · decide
  · obtain ⟨k, rfl⟩ : ∃ k, w = k + 5 := ⟨w - 5, by omega⟩
    exact Nat.zero_le 7
theorem zByt_rg (w k : Nat) : rg ((zByt.getD w []).getD k 0).toInt := j_rg _
set_option maxHeartbeats 4000000 in
set_option maxRecDepth 100000 in
theorem c_X4_nameOf (l : Launch) {X : We} (V : Mem) (w : Nat) (hw : w < 5) : Mt l X V yX4_nameOf cX4_nameOf 1 (some (.object "java/lang/String")) 0 0 [.int (jI (w : Int))] (Qs X (wz X (10 + w)) (fun V1 => V1 = V)) := by
  refine Mt.go (by decide) (Nat.le_of_ble_eq_true rfl) ?_
  intro pg ev s0 mi bl mt cd ls Rm ag Qq hR hQ E hI hG hS hl
  have hl : lv_has ls 1 [(0, .int (jI (w : Int)))] := hl
  obtain ⟨-, -, -, -, -, -, -, -, z9, -⟩ := id hI.2.2.2.1
  refine x_iload_n E dX4_nameOf_0 (lv_at hl 0 rfl) ?_
  rcases (show w = 0 ∨ w = 1 ∨ w = 2 ∨ w = 3 ∨ w = 4 by omega) with rfl | rfl | rfl | rfl | rfl
  · refine lv_tableIn E.1 E.2.1 dX4_nameOf_1 (by decide) (by decide) (off := 31) (tgt := 32) (by decide) (by decide) ?_
    refine va_ldcS E.1 E.2.1 E.2.2.2.1 (z9 0 hw) dX4_nameOf_32 ?_
    exact r_s E hQ hG hS dX4_nameOf_34 rfl
  · refine lv_tableIn E.1 E.2.1 dX4_nameOf_1 (by decide) (by decide) (off := 34) (tgt := 35) (by decide) (by decide) ?_
    refine va_ldcS E.1 E.2.1 E.2.2.2.1 (z9 1 hw) dX4_nameOf_35 ?_
    exact r_s E hQ hG hS dX4_nameOf_37 rfl
  · refine lv_tableIn E.1 E.2.1 dX4_nameOf_1 (by decide) (by decide) (off := 37) (tgt := 38) (by decide) (by decide) ?_
    refine va_ldcS E.1 E.2.1 E.2.2.2.1 (z9 2 hw) dX4_nameOf_38 ?_
    exact r_s E hQ hG hS dX4_nameOf_40 rfl
  · refine lv_tableIn E.1 E.2.1 dX4_nameOf_1 (by decide) (by decide) (off := 40) (tgt := 41) (by decide) (by decide) ?_
    refine va_ldcS E.1 E.2.1 E.2.2.2.1 (z9 3 hw) dX4_nameOf_41 ?_
    exact r_s E hQ hG hS dX4_nameOf_43 rfl
  · refine lv_tableOut E.1 E.2.1 dX4_nameOf_1 (by decide) (tgt := 44) (by decide) ?_
    refine va_ldcS E.1 E.2.1 E.2.2.2.1 (z9 4 hw) dX4_nameOf_44 ?_
    exact r_s E hQ hG hS dX4_nameOf_46 rfl

set_option maxHeartbeats 4000000 in
set_option maxRecDepth 100000 in
theorem c_X4_isLetter (l : Launch) {X : We} (V : Mem) (x : Int) (hx : -128 ≤ x ∧ x ≤ 127) : Mt l X V yX4_isLetter cX4_isLetter 1 (some .boolean) 1 22 [.int (jI x)] (Qi X (fun z V1 => z = b2i (isL x) ∧ V1 = V)) := by
  refine Mt.go (by decide) (Nat.le_of_ble_eq_true rfl) ?_
  intro pg ev s0 mi bl mt cd ls Rm ag Qq hR hQ E hI hG hS hl
  have hl : lv_has ls 1 [(0, .int (jI x))] := hl
  have L27_1 : ∀ (z : Int), (z = b2i (isL x)) → ∀ (H : Heap) (locs : List Loc) (ls : Array Slot), GW X V H → va_S (wA X) s0.heap H locs → lv_has ls 1 [] → W pg l ev Rm s0 mi ag bl mt cd H locs 0 0 Qq (F0 mi 27 ls [.int (jI z)]) := by
    intro z hz H locs ls hG hS hl
    exact r_z E hQ hG hS dX4_isLetter_27 (by rw [hz]; exact b2i_c _) (⟨hz, rfl⟩)
  have L22_2 : (isL x = true) → ∀ (H : Heap) (locs : List Loc) (ls : Array Slot), GW X V H → va_S (wA X) s0.heap H locs → lv_has ls 1 [] → W pg l ev Rm s0 mi ag bl mt cd H locs 0 0 Qq (F0 mi 22 ls []) := by
    intro  hy H locs ls hG hS hl
    refine x_iconst E dX4_isLetter_22 ?_
    refine x_goto E 27 dX4_isLetter_23 (by decide) ?_
    exact L27_1 1 (by rw [hy]; rfl) _ _ _ hG hS (lv_sub hl [] rfl)
  refine x_iload_n E dX4_isLetter_0 (lv_at hl 0 rfl) ?_
  refine x_bipush E dX4_isLetter_1 (by decide) ?_
  refine x_bipush E dX4_isLetter_3 (by decide) ?_
  refine x_ci hG hS (x_runSN E hI hG hS (c_X7_isWithin l V x 97 122 (by unfold rg; omega) (by unfold rg; omega) (by unfold rg; omega)) mf_X7_isWithin (by decide : (_, _, _, RX7) ∈ zNest) rfl hl rfl (Nat.le_of_ble_eq_true rfl) (by rw [hR]; exact ⟨Nat.le_of_ble_eq_true rfl, Nat.le_of_ble_eq_true rfl⟩) ⟨Nat.zero_le _, Nat.zero_le _⟩ dX4_isLetter_5) (fun z1 V1 H locs hp hG hS => ?_)
  obtain ⟨ez, eV⟩ := hp
  rw [eV] at hG
  rw [ez]
  refine x_if_ne E 22 dX4_isLetter_8 (by decide) b01_rg (fun c8 => ?_) (fun c8 => ?_)
  · exact L22_2  ((isL_b x).mpr (Or.inl (b01_ne c8))) _ _ _ hG hS (lv_sub hl [] rfl)
  · refine x_iload_n E dX4_isLetter_11 (lv_at hl 0 rfl) ?_
    refine x_bipush E dX4_isLetter_12 (by decide) ?_
    refine x_bipush E dX4_isLetter_14 (by decide) ?_
    refine x_ci hG hS (x_runSN E hI hG hS (c_X7_isWithin l V x 65 90 (by unfold rg; omega) (by unfold rg; omega) (by unfold rg; omega)) mf_X7_isWithin (by decide : (_, _, _, RX7) ∈ zNest) rfl hl rfl (Nat.le_of_ble_eq_true rfl) (by rw [hR]; exact ⟨Nat.le_of_ble_eq_true rfl, Nat.le_of_ble_eq_true rfl⟩) ⟨Nat.zero_le _, Nat.zero_le _⟩ dX4_isLetter_16) (fun z1 V1 H locs hp hG hS => ?_)
    obtain ⟨ez, eV⟩ := hp
    rw [eV] at hG
    rw [ez]
    refine x_if_eq E 26 dX4_isLetter_19 (by decide) b01_rg (fun c19 => ?_) (fun c19 => ?_)
    · refine x_iconst E dX4_isLetter_26 ?_
      exact L27_1 0 (by
              have q : isL x = false := by
                cases q : isL x with
                | false => rfl
                | true => exact absurd ((isL_b x).mp q) (by have := b01_iff0.mp c8; have := b01_iff0.mp c19; omega)
              rw [q]; rfl) _ _ _ hG hS (lv_sub hl [] rfl)
    · exact L22_2  ((isL_b x).mpr (Or.inr (b01_ne c19))) _ _ _ hG hS (lv_sub hl [] rfl)

set_option maxHeartbeats 4000000 in
set_option maxRecDepth 100000 in
theorem c_X4_isDigit (l : Launch) {X : We} (V : Mem) (x : Int) (hx : -128 ≤ x ∧ x ≤ 127) : Mt l X V yX4_isDigit cX4_isDigit 1 (some .boolean) 1 22 [.int (jI x)] (Qi X (fun z V1 => z = b2i (isG x) ∧ V1 = V)) := by
  refine Mt.go (by decide) (Nat.le_of_ble_eq_true rfl) ?_
  intro pg ev s0 mi bl mt cd ls Rm ag Qq hR hQ E hI hG hS hl
  have hl : lv_has ls 1 [(0, .int (jI x))] := hl
  refine x_iload_n E dX4_isDigit_0 (lv_at hl 0 rfl) ?_
  refine x_bipush E dX4_isDigit_1 (by decide) ?_
  refine x_bipush E dX4_isDigit_3 (by decide) ?_
  refine x_ci hG hS (x_runSN E hI hG hS (c_X7_isWithin l V x 48 57 (by unfold rg; omega) (by unfold rg; omega) (by unfold rg; omega)) mf_X7_isWithin (by decide : (_, _, _, RX7) ∈ zNest) rfl hl rfl (Nat.le_of_ble_eq_true rfl) (by rw [hR]; exact ⟨Nat.le_of_ble_eq_true rfl, Nat.le_of_ble_eq_true rfl⟩) ⟨Nat.zero_le _, Nat.zero_le _⟩ dX4_isDigit_5) (fun z1 V1 H locs hp hG hS => ?_)
  obtain ⟨ez, eV⟩ := hp
  rw [eV] at hG
  rw [ez]
  exact r_z E hQ hG hS dX4_isDigit_8 b01_c (⟨(b2i_of (isG_b x)).symm, rfl⟩)

set_option maxHeartbeats 4000000 in
set_option maxRecDepth 100000 in
theorem c_X4_byteAt (l : Launch) {X : We} {n : Nat} (hX : isX X n) (V : Mem) (hk : TP V) (i : Int) (hi : 0 ≤ i ∧ i < V 45 1) : Mt l X V yX4_byteAt cX4_byteAt 2 (some .int) 0 0 [.ref (wa X 45), .int (jI i)] (Qi X (fun z V1 => z = V 46 i ∧ V1 = V)) := by
  refine Mt.go (by decide) (Nat.le_of_ble_eq_true rfl) ?_
  intro pg ev s0 mi bl mt cd ls Rm ag Qq hR hQ E hI hG hS hl
  have hl : lv_has ls 2 [(0, .ref (wa X 45)), (1, .int (jI i))] := hl
  obtain ⟨⟨l0, l1⟩, hby⟩ := id hk
  refine x_iload_n E dX4_byteAt_0 (lv_at hl 1 rfl) ?_
  refine x_if_lt E 30 dX4_byteAt_1 (by decide) (by unfold rg; omega) (fun c1 => ?_) (fun c1 => ?_)
  · omega
  · refine x_iload_n E dX4_byteAt_4 (lv_at hl 1 rfl) ?_
    refine x_aload_n E dX4_byteAt_5 (lv_at hl 0 rfl) ?_
    refine x_geti E hI hG (xt0 hX) cf4 1 (V 45 1) rfl (by decide) rfl kf_X4_29 dX4_byteAt_6 ?_
    refine x_icmp_ge E 30 dX4_byteAt_9 (by decide) (by unfold rg; omega) (by unfold rg; omega) (fun c9 => ?_) (fun c9 => ?_)
    · omega
    · refine x_iload_n E dX4_byteAt_12 (lv_at hl 1 rfl) ?_
      refine x_aload_n E dX4_byteAt_13 (lv_at hl 0 rfl) ?_
      refine x_getr E hI hG (xt0 hX) cf4 0 46 rfl (by decide) kf_X4_9 dX4_byteAt_14 ?_
      refine x_alen E hI hG (xt1 hX) (by decide) dX4_byteAt_17 ?_
      refine x_icmp_ge E 30 dX4_byteAt_18 (by decide) (by unfold rg; omega) (by unfold rg; omega) (fun c18 => ?_) (fun c18 => ?_)
      · omega
      · refine x_aload_n E dX4_byteAt_21 (lv_at hl 0 rfl) ?_
        refine x_getr E hI hG (xt0 hX) cf4 0 46 rfl (by decide) kf_X4_9 dX4_byteAt_22 ?_
        refine x_iload_n E dX4_byteAt_25 (lv_at hl 1 rfl) ?_
        refine x_bald E hI hG (xt1 hX) (V 46 i) rfl (by omega) dX4_byteAt_26 ?_
        refine x_goto E 31 dX4_byteAt_27 (by decide) ?_
        exact r_i E hQ hG hS dX4_byteAt_31 (⟨rfl, rfl⟩)

set_option maxHeartbeats 4000000 in
set_option maxRecDepth 100000 in
theorem c_X4_afterBlanks (l : Launch) {X : We} {n : Nat} (hX : isX X n) (V : Mem) (hk : TP V) (i : Int) (hi : 0 ≤ i ∧ i ≤ V 45 1) : Mt l X V yX4_afterBlanks cX4_afterBlanks 3 (some .int) 1 21 [.ref (wa X 45), .int (jI i)] (Qi X (fun z V1 => z = skF (V 46) (V 45 1) i ∧ V1 = V)) := by
  refine Mt.go (by decide) (Nat.le_of_ble_eq_true rfl) ?_
  intro pg ev s0 mi bl mt cd ls Rm ag Qq hR hQ E hI hG hS hl
  have hl : lv_has ls 3 [(0, .ref (wa X 45)), (1, .int (jI i))] := hl
  obtain ⟨⟨l0, l1⟩, hby⟩ := id hk
  refine x_iload_n E dX4_afterBlanks_0 (lv_at hl 1 rfl) ?_
  refine x_istore_n E [(2, .int (jI i)), (0, .ref (wa X 45)), (1, .int (jI i))] dX4_afterBlanks_1 hl (by decide) rfl (fun ls hl => ?_)
  have L2_1 : ∀ (N : Nat) (j : Int), (0 ≤ j) → (j ≤ V 45 1) → (skF (V 46) (V 45 1) j = skF (V 46) (V 45 1) i) → ((V 45 1 - j).toNat) < N → ∀ (H : Heap) (locs : List Loc) (ls : Array Slot), GW X V H → va_S (wA X) s0.heap H locs → lv_has ls 3 [(0, .ref (wa X 45)), (2, .int (jI j))] → W pg l ev Rm s0 mi ag bl mt cd H locs 0 0 Qq (F0 mi 2 ls []) := by
    intro N
    induction N with
    | zero => intro j j0 j1 ej hN; exact absurd hN (Nat.not_lt_zero _)
    | succ N ih2 =>
      intro j j0 j1 ej hN H locs ls hG hS hl
      refine x_iload_n E dX4_afterBlanks_2 (lv_at hl 1 rfl) ?_
      have L26_2 : (j = skF (V 46) (V 45 1) i) → ∀ (H : Heap) (locs : List Loc) (ls : Array Slot), GW X V H → va_S (wA X) s0.heap H locs → lv_has ls 3 [(2, .int (jI j))] → W pg l ev Rm s0 mi ag bl mt cd H locs 0 0 Qq (F0 mi 26 ls []) := by
        intro  ez2 H locs ls hG hS hl
        refine x_iload_n E dX4_afterBlanks_26 (lv_at hl 0 rfl) ?_
        exact r_i E hQ hG hS dX4_afterBlanks_27 (⟨ez2, rfl⟩)
      refine x_aload_n E dX4_afterBlanks_3 (lv_at hl 0 rfl) ?_
      refine x_geti E hI hG (xt0 hX) cf4 1 (V 45 1) rfl (by decide) rfl kf_X4_29 dX4_afterBlanks_4 ?_
      refine x_icmp_ge E 26 dX4_afterBlanks_7 (by decide) (by unfold rg; omega) (by unfold rg; omega) (fun c7 => ?_) (fun c7 => ?_)
      · exact L26_2  (by rw [← ej]; exact (advL_end _ (by omega)).symm) _ _ _ hG hS (lv_sub hl [1] rfl)
      · have hv := hby j j0 (by omega)
        refine x_aload_n E dX4_afterBlanks_10 (lv_at hl 0 rfl) ?_
        refine x_iload_n E dX4_afterBlanks_11 (lv_at hl 1 rfl) ?_
        refine x_ci hG hS (x_runV E hI hG hS (xt0 hX) cf4 rfl (c_X4_byteAt l hX V hk j (by omega)) mf_X4_byteAt km_X4_65 rfl hl rfl (Nat.le_of_ble_eq_true rfl) (by rw [hR]; exact ⟨Nat.le_of_ble_eq_true rfl, Nat.le_of_ble_eq_true rfl⟩) ⟨Nat.zero_le _, Nat.zero_le _⟩ dX4_afterBlanks_12) (fun z1 V1 H locs hp hG hS => ?_)
        obtain ⟨ez, eV⟩ := hp
        rw [eV] at hG
        rw [ez]
        refine x_bipush E dX4_afterBlanks_15 (by decide) ?_
        refine x_icmp_ne E 26 dX4_afterBlanks_17 (by decide) (by unfold rg; omega) (by unfold rg; omega) (fun c17 => ?_) (fun c17 => ?_)
        · exact L26_2  (by rw [← ej]; exact (advL_no (p := fun j => decide (V 46 j = 32)) (decide_eq_false c17)).symm) _ _ _ hG hS (lv_sub hl [1] rfl)
        · refine x_iinc E (k := 1) [(2, .int (jI (j + 1))), (0, .ref (wa X 45))] dX4_afterBlanks_20 hl rfl (by decide) rfl (fun ls hl => ?_)
          refine x_goto E 2 dX4_afterBlanks_23 (by decide) ?_
          exact ih2 (j + 1) (by omega) (by omega) (by rw [← ej]; exact (advL_yes (p := fun j => decide (V 46 j = 32)) (by omega) (decide_eq_true c17)).symm) (by omega) _ _ _ hG hS (lv_sub hl [1, 0] rfl)
  exact L2_1 _ i hi.1 hi.2 rfl (Nat.lt_succ_self _) _ _ _ hG hS (lv_sub hl [1, 0] rfl)

set_option maxHeartbeats 4000000 in
set_option maxRecDepth 100000 in
theorem c_X4_tokenEnd (l : Launch) {X : We} {n : Nat} (hX : isX X n) (V : Mem) (hk : TP V) (i : Int) (hi : 0 ≤ i ∧ i < V 45 1) : Mt l X V yX4_tokenEnd cX4_tokenEnd 3 (some .int) 2 42 [.ref (wa X 45), .int (jI i)] (Qi X (fun z V1 => z = tend (V 46) (V 45 1) i ∧ V1 = V)) := by
  refine Mt.go (by decide) (Nat.le_of_ble_eq_true rfl) ?_
  intro pg ev s0 mi bl mt cd ls Rm ag Qq hR hQ E hI hG hS hl
  have hl : lv_has ls 3 [(0, .ref (wa X 45)), (1, .int (jI i))] := hl
  obtain ⟨⟨l0, l1⟩, hby⟩ := id hk
  have hv := hby i (by omega) (by omega)
  have L76_1 : ∀ (z : Int), (z = tend (V 46) (V 45 1) i) → ∀ (H : Heap) (locs : List Loc) (ls : Array Slot), GW X V H → va_S (wA X) s0.heap H locs → lv_has ls 3 [(2, .int (jI z))] → W pg l ev Rm s0 mi ag bl mt cd H locs 0 0 Qq (F0 mi 76 ls []) := by
    intro z hz H locs ls hG hS hl
    refine x_iload_n E dX4_tokenEnd_76 (lv_at hl 0 rfl) ?_
    exact r_i E hQ hG hS dX4_tokenEnd_77 (⟨hz, rfl⟩)
  refine x_iload_n E dX4_tokenEnd_0 (lv_at hl 1 rfl) ?_
  refine x_iconst E dX4_tokenEnd_1 ?_
  refine x_iadd E dX4_tokenEnd_2 ?_
  refine x_istore_n E [(2, .int (jI (i + 1))), (0, .ref (wa X 45)), (1, .int (jI i))] dX4_tokenEnd_3 hl (by decide) rfl (fun ls hl => ?_)
  refine x_aload_n E dX4_tokenEnd_4 (lv_at hl 1 rfl) ?_
  refine x_iload_n E dX4_tokenEnd_5 (lv_at hl 2 rfl) ?_
  refine x_ci hG hS (x_runV E hI hG hS (xt0 hX) cf4 rfl (c_X4_byteAt l hX V hk i (by omega)) mf_X4_byteAt km_X4_65 rfl hl rfl (Nat.le_of_ble_eq_true rfl) (by rw [hR]; exact ⟨Nat.le_of_ble_eq_true rfl, Nat.le_of_ble_eq_true rfl⟩) ⟨Nat.zero_le _, Nat.zero_le _⟩ dX4_tokenEnd_6) (fun z1 V1 H locs hp hG hS => ?_)
  obtain ⟨ez, eV⟩ := hp
  rw [eV] at hG
  rw [ez]
  refine x_ci hG hS (x_runS E hI hG hS (c_X4_isLetter l V (V 46 i) hv) mf_X4_isLetter km_X4_76 rfl hl rfl (Nat.le_of_ble_eq_true rfl) (by rw [hR]; exact ⟨Nat.le_of_ble_eq_true rfl, Nat.le_of_ble_eq_true rfl⟩) ⟨Nat.zero_le _, Nat.zero_le _⟩ dX4_tokenEnd_9) (fun z1 V1 H locs hp hG hS => ?_)
  obtain ⟨ez, eV⟩ := hp
  rw [eV] at hG
  rw [ez]
  refine x_if_eq E 40 dX4_tokenEnd_12 (by decide) (b2i_rg _) (fun c12 => ?_) (fun c12 => ?_)
  · have hL := b2i_0.mp c12
    refine x_aload_n E dX4_tokenEnd_40 (lv_at hl 1 rfl) ?_
    refine x_iload_n E dX4_tokenEnd_41 (lv_at hl 2 rfl) ?_
    refine x_ci hG hS (x_runV E hI hG hS (xt0 hX) cf4 rfl (c_X4_byteAt l hX V hk i (by omega)) mf_X4_byteAt km_X4_65 rfl hl rfl (Nat.le_of_ble_eq_true rfl) (by rw [hR]; exact ⟨Nat.le_of_ble_eq_true rfl, Nat.le_of_ble_eq_true rfl⟩) ⟨Nat.zero_le _, Nat.zero_le _⟩ dX4_tokenEnd_42) (fun z1 V1 H locs hp hG hS => ?_)
    obtain ⟨ez, eV⟩ := hp
    rw [eV] at hG
    rw [ez]
    refine x_ci hG hS (x_runS E hI hG hS (c_X4_isDigit l V (V 46 i) hv) mf_X4_isDigit km_X4_68 rfl hl rfl (Nat.le_of_ble_eq_true rfl) (by rw [hR]; exact ⟨Nat.le_of_ble_eq_true rfl, Nat.le_of_ble_eq_true rfl⟩) ⟨Nat.zero_le _, Nat.zero_le _⟩ dX4_tokenEnd_45) (fun z1 V1 H locs hp hG hS => ?_)
    obtain ⟨ez, eV⟩ := hp
    rw [eV] at hG
    rw [ez]
    refine x_if_eq E 76 dX4_tokenEnd_48 (by decide) (b2i_rg _) (fun c48 => ?_) (fun c48 => ?_)
    · have hD := b2i_0.mp c48
      exact L76_1 (i + 1) (by unfold tend; rw [hL, if_neg (by decide), hD, if_neg (by decide)]) _ _ _ hG hS (lv_sub hl [0] rfl)
    · have hD := b2i_ne.mp c48
      have eT : tend (V 46) (V 45 1) i = advL (fun j => isG (V 46 j)) (V 45 1) (i + 1) := by unfold tend; rw [hL, if_neg (by decide), if_pos hD]
      have L51_2 : ∀ (N : Nat) (j : Int), (i + 1 ≤ j) → (j ≤ V 45 1) → (advL (fun j => isG (V 46 j)) (V 45 1) j = tend (V 46) (V 45 1) i) → ((V 45 1 - j).toNat) < N → ∀ (H : Heap) (locs : List Loc) (ls : Array Slot), GW X V H → va_S (wA X) s0.heap H locs → lv_has ls 3 [(0, .ref (wa X 45)), (2, .int (jI j))] → W pg l ev Rm s0 mi ag bl mt cd H locs 0 0 Qq (F0 mi 51 ls []) := by
        intro N
        induction N with
        | zero => intro j j0 j1 ej hN; exact absurd hN (Nat.not_lt_zero _)
        | succ N ih51 =>
          intro j j0 j1 ej hN H locs ls hG hS hl
          refine x_iload_n E dX4_tokenEnd_51 (lv_at hl 1 rfl) ?_
          refine x_aload_n E dX4_tokenEnd_52 (lv_at hl 0 rfl) ?_
          refine x_geti E hI hG (xt0 hX) cf4 1 (V 45 1) rfl (by decide) rfl kf_X4_29 dX4_tokenEnd_53 ?_
          refine x_icmp_ge E 76 dX4_tokenEnd_56 (by decide) (by unfold rg; omega) (by unfold rg; omega) (fun c56 => ?_) (fun c56 => ?_)
          · exact L76_1 j (by rw [← ej]; exact (advL_end _ (by omega)).symm) _ _ _ hG hS (lv_sub hl [1] rfl)
          · have hvj := hby j (by omega) (by omega)
            refine x_aload_n E dX4_tokenEnd_59 (lv_at hl 0 rfl) ?_
            refine x_iload_n E dX4_tokenEnd_60 (lv_at hl 1 rfl) ?_
            refine x_ci hG hS (x_runV E hI hG hS (xt0 hX) cf4 rfl (c_X4_byteAt l hX V hk j (by omega)) mf_X4_byteAt km_X4_65 rfl hl rfl (Nat.le_of_ble_eq_true rfl) (by rw [hR]; exact ⟨Nat.le_of_ble_eq_true rfl, Nat.le_of_ble_eq_true rfl⟩) ⟨Nat.zero_le _, Nat.zero_le _⟩ dX4_tokenEnd_61) (fun z1 V1 H locs hp hG hS => ?_)
            obtain ⟨ez, eV⟩ := hp
            rw [eV] at hG
            rw [ez]
            refine x_ci hG hS (x_runS E hI hG hS (c_X4_isDigit l V (V 46 j) hvj) mf_X4_isDigit km_X4_68 rfl hl rfl (Nat.le_of_ble_eq_true rfl) (by rw [hR]; exact ⟨Nat.le_of_ble_eq_true rfl, Nat.le_of_ble_eq_true rfl⟩) ⟨Nat.zero_le _, Nat.zero_le _⟩ dX4_tokenEnd_64) (fun z1 V1 H locs hp hG hS => ?_)
            obtain ⟨ez, eV⟩ := hp
            rw [eV] at hG
            rw [ez]
            refine x_if_eq E 76 dX4_tokenEnd_67 (by decide) (b2i_rg _) (fun c67 => ?_) (fun c67 => ?_)
            · exact L76_1 j (by rw [← ej]; exact (advL_no (p := (fun j => isG (V 46 j))) (b2i_0.mp c67)).symm) _ _ _ hG hS (lv_sub hl [1] rfl)
            · refine x_iinc E (k := 1) [(2, .int (jI (j + 1))), (0, .ref (wa X 45))] dX4_tokenEnd_70 hl rfl (by decide) rfl (fun ls hl => ?_)
              refine x_goto E 51 dX4_tokenEnd_73 (by decide) ?_
              exact ih51 (j + 1) (by omega) (by omega) (by rw [← ej]; exact (advL_yes (p := (fun j => isG (V 46 j))) (by omega) (b2i_ne.mp c67)).symm) (by omega) _ _ _ hG hS (lv_sub hl [1, 0] rfl)
      exact L51_2 _ (i + 1) (by omega) (by omega) eT.symm (Nat.lt_succ_self _) _ _ _ hG hS (lv_sub hl [1, 0] rfl)
  · have hL := b2i_ne.mp c12
    have eT : tend (V 46) (V 45 1) i = advL (fun j => isL (V 46 j)) (V 45 1) (i + 1) := by unfold tend; rw [if_pos hL]
    have L15_3 : ∀ (N : Nat) (j : Int), (i + 1 ≤ j) → (j ≤ V 45 1) → (advL (fun j => isL (V 46 j)) (V 45 1) j = tend (V 46) (V 45 1) i) → ((V 45 1 - j).toNat) < N → ∀ (H : Heap) (locs : List Loc) (ls : Array Slot), GW X V H → va_S (wA X) s0.heap H locs → lv_has ls 3 [(0, .ref (wa X 45)), (2, .int (jI j))] → W pg l ev Rm s0 mi ag bl mt cd H locs 0 0 Qq (F0 mi 15 ls []) := by
      intro N
      induction N with
      | zero => intro j j0 j1 ej hN; exact absurd hN (Nat.not_lt_zero _)
      | succ N ih15 =>
        intro j j0 j1 ej hN H locs ls hG hS hl
        refine x_iload_n E dX4_tokenEnd_15 (lv_at hl 1 rfl) ?_
        refine x_aload_n E dX4_tokenEnd_16 (lv_at hl 0 rfl) ?_
        refine x_geti E hI hG (xt0 hX) cf4 1 (V 45 1) rfl (by decide) rfl kf_X4_29 dX4_tokenEnd_17 ?_
        refine x_icmp_ge E 76 dX4_tokenEnd_20 (by decide) (by unfold rg; omega) (by unfold rg; omega) (fun c20 => ?_) (fun c20 => ?_)
        · exact L76_1 j (by rw [← ej]; exact (advL_end _ (by omega)).symm) _ _ _ hG hS (lv_sub hl [1] rfl)
        · have hvj := hby j (by omega) (by omega)
          refine x_aload_n E dX4_tokenEnd_23 (lv_at hl 0 rfl) ?_
          refine x_iload_n E dX4_tokenEnd_24 (lv_at hl 1 rfl) ?_
          refine x_ci hG hS (x_runV E hI hG hS (xt0 hX) cf4 rfl (c_X4_byteAt l hX V hk j (by omega)) mf_X4_byteAt km_X4_65 rfl hl rfl (Nat.le_of_ble_eq_true rfl) (by rw [hR]; exact ⟨Nat.le_of_ble_eq_true rfl, Nat.le_of_ble_eq_true rfl⟩) ⟨Nat.zero_le _, Nat.zero_le _⟩ dX4_tokenEnd_25) (fun z1 V1 H locs hp hG hS => ?_)
          obtain ⟨ez, eV⟩ := hp
          rw [eV] at hG
          rw [ez]
          refine x_ci hG hS (x_runS E hI hG hS (c_X4_isLetter l V (V 46 j) hvj) mf_X4_isLetter km_X4_76 rfl hl rfl (Nat.le_of_ble_eq_true rfl) (by rw [hR]; exact ⟨Nat.le_of_ble_eq_true rfl, Nat.le_of_ble_eq_true rfl⟩) ⟨Nat.zero_le _, Nat.zero_le _⟩ dX4_tokenEnd_28) (fun z1 V1 H locs hp hG hS => ?_)
          obtain ⟨ez, eV⟩ := hp
          rw [eV] at hG
          rw [ez]
          refine x_if_eq E 76 dX4_tokenEnd_31 (by decide) (b2i_rg _) (fun c31 => ?_) (fun c31 => ?_)
          · exact L76_1 j (by rw [← ej]; exact (advL_no (p := (fun j => isL (V 46 j))) (b2i_0.mp c31)).symm) _ _ _ hG hS (lv_sub hl [1] rfl)
          · refine x_iinc E (k := 1) [(2, .int (jI (j + 1))), (0, .ref (wa X 45))] dX4_tokenEnd_34 hl rfl (by decide) rfl (fun ls hl => ?_)
            refine x_goto E 15 dX4_tokenEnd_37 (by decide) ?_
            exact ih15 (j + 1) (by omega) (by omega) (by rw [← ej]; exact (advL_yes (p := (fun j => isL (V 46 j))) (by omega) (b2i_ne.mp c31)).symm) (by omega) _ _ _ hG hS (lv_sub hl [1, 0] rfl)
    exact L15_3 _ (i + 1) (by omega) (by omega) eT.symm (Nat.lt_succ_self _) _ _ _ hG hS (lv_sub hl [1, 0] rfl)

set_option maxHeartbeats 4000000 in
set_option maxRecDepth 100000 in
theorem c_X4_isWord (l : Launch) {X : We} {n : Nat} (hX : isX X n) (V : Mem) (hk : TP V) (w : Nat) (hw : w < 5) (i j : Int) (hi : 0 ≤ i ∧ i ≤ j ∧ j ≤ V 45 1) : Mt l X V yX4_isWord cX4_isWord 5 (some .boolean) 4 85 [.ref (wa X 45), .ref (wz X (10 + w)), .int (jI i), .int (jI j)] (Qi X (fun z V1 => z = b2i (wdB (V 46) w i j) ∧ V1 = V)) := by
  refine Mt.go (by decide) (Nat.le_of_ble_eq_true rfl) ?_
  intro pg ev s0 mi bl mt cd ls Rm ag Qq hR hQ E hI hG hS hl
  have hl : lv_has ls 5 [(0, .ref (wa X 45)), (1, .ref (wz X (10 + w))), (2, .int (jI i)), (3, .int (jI j))] := hl
  obtain ⟨⟨l0, l1⟩, hby⟩ := id hk
  have hz7 := zLen_le w
  refine x_iload_n E dX4_isWord_0 (lv_at hl 3 rfl) ?_
  refine x_iload_n E dX4_isWord_1 (lv_at hl 2 rfl) ?_
  refine x_isub E dX4_isWord_2 ?_
  refine x_aload_n E dX4_isWord_3 (lv_at hl 1 rfl) ?_
  refine x_ci hG hS (x_runR E hI hG hS ((vk_recv (hI.2.2.2.1.2.2.2.2.2.2.2.1) hw hS)) (c_strlen l V w hw) mf_J0_length_8abf5 km_X4_87 rfl hl rfl (Nat.le_of_ble_eq_true rfl) (by rw [hR]; exact ⟨Nat.le_of_ble_eq_true rfl, Nat.le_of_ble_eq_true rfl⟩) ⟨Nat.zero_le _, Nat.zero_le _⟩ dX4_isWord_4) (fun z1 V1 H locs hp hG hS => ?_)
  obtain ⟨ez, eV⟩ := hp
  rw [eV] at hG
  rw [ez]
  refine x_icmp_eq E 12 dX4_isWord_7 (by decide) (by unfold rg; omega) (by unfold rg; omega) (fun c7 => ?_) (fun c7 => ?_)
  · refine x_iconst E dX4_isWord_12 ?_
    refine x_istore E [(4, .int (jI 0)), (0, .ref (wa X 45)), (1, .ref (wz X (10 + w))), (2, .int (jI i)), (3, .int (jI j))] dX4_isWord_13 hl (by decide) rfl (fun ls hl => ?_)
    have L15_1 : ∀ (N : Nat) (k : Int), (0 ≤ k) → (k ≤ (zLen.getD w 0 : Int)) → (∀ q : Nat, (q : Int) < k → V 46 (i + (q : Int)) = ((zByt.getD w []).getD q 0).toInt) → (((zLen.getD w 0 : Int) - k).toNat) < N → ∀ (H : Heap) (locs : List Loc) (ls : Array Slot), GW X V H → va_S (wA X) s0.heap H locs → lv_has ls 5 [(0, .ref (wa X 45)), (1, .ref (wz X (10 + w))), (2, .int (jI i)), (4, .int (jI k))] → W pg l ev Rm s0 mi ag bl mt cd H locs 0 0 Qq (F0 mi 15 ls []) := by
      intro N
      induction N with
      | zero => intro k k0 k1 hall hN; exact absurd hN (Nat.not_lt_zero _)
      | succ N ih15 =>
        intro k k0 k1 hall hN H locs ls hG hS hl
        refine x_iload E dX4_isWord_15 (lv_at hl 3 rfl) ?_
        refine x_aload_n E dX4_isWord_17 (lv_at hl 1 rfl) ?_
        refine x_ci hG hS (x_runR E hI hG hS ((vk_recv (hI.2.2.2.1.2.2.2.2.2.2.2.1) hw hS)) (c_strlen l V w hw) mf_J0_length_8abf5 km_X4_87 rfl hl rfl (Nat.le_of_ble_eq_true rfl) (by rw [hR]; exact ⟨Nat.le_of_ble_eq_true rfl, Nat.le_of_ble_eq_true rfl⟩) ⟨Nat.zero_le _, Nat.zero_le _⟩ dX4_isWord_18) (fun z1 V1 H locs hp hG hS => ?_)
        obtain ⟨ez, eV⟩ := hp
        rw [eV] at hG
        rw [ez]
        refine x_icmp_ge E 49 dX4_isWord_21 (by decide) (by unfold rg; omega) (by unfold rg; omega) (fun c21 => ?_) (fun c21 => ?_)
        · refine x_iconst E dX4_isWord_49 ?_
          exact r_z E hQ hG hS dX4_isWord_50 (Or.inr rfl) (⟨by rw [wdB_yes c7 (fun q hq => hall q (by omega))]; rfl, rfl⟩)
        · have hvk := hby (i + k) (by omega) (by omega)
          have hch := zByt_rg w k.toNat
          refine x_aload_n E dX4_isWord_24 (lv_at hl 0 rfl) ?_
          refine x_iload_n E dX4_isWord_25 (lv_at hl 2 rfl) ?_
          refine x_iload E dX4_isWord_26 (lv_at hl 3 rfl) ?_
          refine x_iadd E dX4_isWord_28 ?_
          refine x_ci hG hS (x_runV E hI hG hS (xt0 hX) cf4 rfl (c_X4_byteAt l hX V hk (i + k) (by omega)) mf_X4_byteAt km_X4_65 rfl hl rfl (Nat.le_of_ble_eq_true rfl) (by rw [hR]; exact ⟨Nat.le_of_ble_eq_true rfl, Nat.le_of_ble_eq_true rfl⟩) ⟨Nat.zero_le _, Nat.zero_le _⟩ dX4_isWord_29) (fun z1 V1 H locs hp hG hS => ?_)
          obtain ⟨ez, eV⟩ := hp
          rw [eV] at hG
          rw [ez]
          refine x_aload_n E dX4_isWord_32 (lv_at hl 1 rfl) ?_
          refine x_iload E dX4_isWord_33 (lv_at hl 3 rfl) ?_
          refine x_ci hG hS (x_runR E hI hG hS ((vk_recv (hI.2.2.2.1.2.2.2.2.2.2.2.1) hw hS)) (c_charAt l V w hw k (by omega)) mf_J0_charAt_5068e km_X4_92 rfl hl rfl (Nat.le_of_ble_eq_true rfl) (by rw [hR]; exact ⟨Nat.le_of_ble_eq_true rfl, Nat.le_of_ble_eq_true rfl⟩) ⟨Nat.zero_le _, Nat.zero_le _⟩ dX4_isWord_35) (fun z1 V1 H locs hp hG hS => ?_)
          obtain ⟨ez, eV⟩ := hp
          rw [eV] at hG
          rw [ez]
          refine x_icmp_eq E 43 dX4_isWord_38 (by decide) (by unfold rg; omega) hch (fun c38 => ?_) (fun c38 => ?_)
          · refine x_iinc E (k := 3) [(4, .int (jI (k + 1))), (0, .ref (wa X 45)), (1, .ref (wz X (10 + w))), (2, .int (jI i))] dX4_isWord_43 hl rfl (by decide) rfl (fun ls hl => ?_)
            refine x_goto E 15 dX4_isWord_46 (by decide) ?_
            exact ih15 (k + 1) (by omega) (by omega) (fun q hq => by
                    by_cases e : (q : Int) = k
                    · rw [e, c38, ← e]; rfl
                    · exact hall q (by omega)) (by omega) _ _ _ hG hS (lv_sub hl [1, 2, 3, 0] rfl)
          · refine x_iconst E dX4_isWord_41 ?_
            exact r_z E hQ hG hS dX4_isWord_42 (Or.inl rfl) (⟨by rw [wdB_ne (k := k.toNat) (by omega) (by rw [Int.toNat_of_nonneg k0]; exact c38)]; rfl, rfl⟩)
    exact L15_1 _ 0 (by omega) (by omega) (fun q hq => by omega) (Nat.lt_succ_self _) _ _ _ hG hS (lv_sub hl [1, 2, 3, 0] rfl)
  · refine x_iconst E dX4_isWord_10 ?_
    exact r_z E hQ hG hS dX4_isWord_11 (Or.inl rfl) (⟨by rw [wdB_no c7]; rfl, rfl⟩)

set_option maxHeartbeats 4000000 in
set_option maxRecDepth 100000 in
theorem c_X4_windOf (l : Launch) {X : We} {n : Nat} (hX : isX X n) (V : Mem) (hk : TP V) (i j : Int) (hi : 0 ≤ i ∧ i ≤ j ∧ j ≤ V 45 1) : Mt l X V yX4_windOf cX4_windOf 4 (some .int) 5 109 [.ref (wa X 45), .int (jI i), .int (jI j)] (Qi X (fun z V1 => z = wv (V 46) i j ∧ V1 = V)) := by
  refine Mt.go (by decide) (Nat.le_of_ble_eq_true rfl) ?_
  intro pg ev s0 mi bl mt cd ls Rm ag Qq hR hQ E hI hG hS hl
  have hl : lv_has ls 4 [(0, .ref (wa X 45)), (1, .int (jI i)), (2, .int (jI j))] := hl
  obtain ⟨⟨l0, l1⟩, hby⟩ := id hk
  refine x_iconst E dX4_windOf_0 ?_
  refine x_istore_n E [(3, .int (jI 0)), (0, .ref (wa X 45)), (1, .int (jI i)), (2, .int (jI j))] dX4_windOf_1 hl (by decide) rfl (fun ls hl => ?_)
  have L2_1 : ∀ (N : Nat) (w : Nat), (w ≤ 5) → (∀ q : Nat, q < w → wdB (V 46) q i j = false) → (5 - w) < N → ∀ (H : Heap) (locs : List Loc) (ls : Array Slot), GW X V H → va_S (wA X) s0.heap H locs → lv_has ls 4 [(0, .ref (wa X 45)), (1, .int (jI i)), (2, .int (jI j)), (3, .int (jI (w : Int)))] → W pg l ev Rm s0 mi ag bl mt cd H locs 0 0 Qq (F0 mi 2 ls []) := by
    intro N
    induction N with
    | zero => intro w w1 hno hN; exact absurd hN (Nat.not_lt_zero _)
    | succ N ih2 =>
      intro w w1 hno hN H locs ls hG hS hl
      refine x_iload_n E dX4_windOf_2 (lv_at hl 3 rfl) ?_
      refine x_iconst E dX4_windOf_3 ?_
      refine x_icmp_gt E 28 dX4_windOf_4 (by decide) (by unfold rg; omega) (by unfold rg; omega) (fun c4 => ?_) (fun c4 => ?_)
      · refine x_iconst E dX4_windOf_28 ?_
        exact r_i E hQ hG hS dX4_windOf_29 (⟨by unfold wv; rw [hno 0 (by omega), hno 1 (by omega), hno 2 (by omega), hno 3 (by omega), hno 4 (by omega)]; rfl, rfl⟩)
      · refine x_aload_n E dX4_windOf_7 (lv_at hl 0 rfl) ?_
        refine x_iload_n E dX4_windOf_8 (lv_at hl 3 rfl) ?_
        refine x_cs hG hS (x_runS E hI hG hS (c_X4_nameOf l V w (by omega)) mf_X4_nameOf km_X4_79 rfl hl rfl (Nat.le_of_ble_eq_true rfl) (by rw [hR]; exact ⟨Nat.le_of_ble_eq_true rfl, Nat.le_of_ble_eq_true rfl⟩) ⟨Nat.zero_le _, Nat.zero_le _⟩ dX4_windOf_9) (fun V1 H locs hp hG hS => ?_)
        have eV := hp
        rw [eV] at hG
        refine x_iload_n E dX4_windOf_12 (lv_at hl 1 rfl) ?_
        refine x_iload_n E dX4_windOf_13 (lv_at hl 2 rfl) ?_
        refine x_ci hG hS (x_runV E hI hG hS (xt0 hX) cf4 rfl (c_X4_isWord l hX V hk w (by omega) i j hi) mf_X4_isWord km_X4_83 rfl hl rfl (Nat.le_of_ble_eq_true rfl) (by rw [hR]; exact ⟨Nat.le_of_ble_eq_true rfl, Nat.le_of_ble_eq_true rfl⟩) ⟨Nat.zero_le _, Nat.zero_le _⟩ dX4_windOf_14) (fun z1 V1 H locs hp hG hS => ?_)
        obtain ⟨ez, eV⟩ := hp
        rw [eV] at hG
        rw [ez]
        refine x_if_eq E 22 dX4_windOf_17 (by decide) (b2i_rg _) (fun c17 => ?_) (fun c17 => ?_)
        · refine x_iinc E (k := 3) [(3, .int (jI ((w : Int) + 1))), (0, .ref (wa X 45)), (1, .int (jI i)), (2, .int (jI j))] dX4_windOf_22 hl rfl (by decide) rfl (fun ls hl => ?_)
          refine x_goto E 2 dX4_windOf_25 (by decide) ?_
          exact ih2 (w + 1) (by omega) (fun q hq => by
                  by_cases e : q = w
                  · rw [e]; exact b2i_0.mp c17
                  · exact hno q (by omega)) (by omega) _ _ _ hG hS (lv_sub hl [1, 2, 3, 0] rfl)
        · refine x_iload_n E dX4_windOf_20 (lv_at hl 3 rfl) ?_
          exact r_i E hQ hG hS dX4_windOf_21 (⟨by
                    have hy := b2i_ne.mp c17
                    unfold wv
                    rcases (show w = 0 ∨ w = 1 ∨ w = 2 ∨ w = 3 ∨ w = 4 by omega) with rfl | rfl | rfl | rfl | rfl
                    · rw [hy]; rfl
                    · rw [hno 0 (by omega), hy]; rfl
                    · rw [hno 0 (by omega), hno 1 (by omega), hy]; rfl
                    · rw [hno 0 (by omega), hno 1 (by omega), hno 2 (by omega), hy]; rfl
                    · rw [hno 0 (by omega), hno 1 (by omega), hno 2 (by omega), hno 3 (by omega), hy]; rfl, rfl⟩)
  exact L2_1 _ 0 (by omega) (fun q hq => by omega) (Nat.lt_succ_self _) _ _ _ hG hS (lv_sub hl [1, 2, 3, 0] rfl)

set_option maxHeartbeats 4000000 in
set_option maxRecDepth 100000 in
theorem c_X4_numberOf (l : Launch) {X : We} {n : Nat} (hX : isX X n) (V : Mem) (hk : TP V) (i j : Int) (hi : 0 ≤ i ∧ i ≤ j ∧ j ≤ V 45 1) (hdg : ∀ q : Int, i ≤ q → q < j → isG (V 46 q) = true) : Mt l X V yX4_numberOf cX4_numberOf 5 (some .int) 1 24 [.ref (wa X 45), .int (jI i), .int (jI j)] (Qi X (fun z V1 => z = nv (V 46) i j ∧ V1 = V)) := by
  refine Mt.go (by decide) (Nat.le_of_ble_eq_true rfl) ?_
  intro pg ev s0 mi bl mt cd ls Rm ag Qq hR hQ E hI hG hS hl
  have hl : lv_has ls 5 [(0, .ref (wa X 45)), (1, .int (jI i)), (2, .int (jI j))] := hl
  obtain ⟨⟨l0, l1⟩, hby⟩ := id hk
  refine x_iconst E dX4_numberOf_0 ?_
  refine x_istore_n E [(3, .int (jI 0)), (0, .ref (wa X 45)), (1, .int (jI i)), (2, .int (jI j))] dX4_numberOf_1 hl (by decide) rfl (fun ls hl => ?_)
  refine x_iload_n E dX4_numberOf_2 (lv_at hl 2 rfl) ?_
  refine x_istore E [(4, .int (jI i)), (3, .int (jI 0)), (0, .ref (wa X 45)), (1, .int (jI i)), (2, .int (jI j))] dX4_numberOf_3 hl (by decide) rfl (fun ls hl => ?_)
  have L5_1 : ∀ (N : Nat) (k : Int) (a : Int), (i ≤ k) → (k ≤ j) → (0 ≤ a ∧ a ≤ 1000) → (nvK (V 46) (j - k).toNat k a = nv (V 46) i j) → ((j - k).toNat) < N → ∀ (H : Heap) (locs : List Loc) (ls : Array Slot), GW X V H → va_S (wA X) s0.heap H locs → lv_has ls 5 [(0, .ref (wa X 45)), (2, .int (jI j)), (3, .int (jI a)), (4, .int (jI k))] → W pg l ev Rm s0 mi ag bl mt cd H locs 0 0 Qq (F0 mi 5 ls []) := by
    intro N
    induction N with
    | zero => intro k a k0 k1 a0 ea hN; exact absurd hN (Nat.not_lt_zero _)
    | succ N ih5 =>
      intro k a k0 k1 a0 ea hN H locs ls hG hS hl
      refine x_iload E dX4_numberOf_5 (lv_at hl 3 rfl) ?_
      refine x_iload_n E dX4_numberOf_7 (lv_at hl 1 rfl) ?_
      refine x_icmp_ge E 38 dX4_numberOf_8 (by decide) (by unfold rg; omega) (by unfold rg; omega) (fun c8 => ?_) (fun c8 => ?_)
      · refine x_iload_n E dX4_numberOf_38 (lv_at hl 2 rfl) ?_
        exact r_i E hQ hG hS dX4_numberOf_39 (⟨by rw [← ea, show (j - k).toNat = 0 by omega]; rfl, rfl⟩)
      · have hvk := (isG_b _).mp (hdg k (by omega) (by omega))
        refine x_sipush E dX4_numberOf_11 (by decide) ?_
        refine x_iload_n E dX4_numberOf_14 (lv_at hl 2 rfl) ?_
        refine x_bipush E dX4_numberOf_15 (by decide) ?_
        refine x_imul E dX4_numberOf_17 ?_
        refine x_aload_n E dX4_numberOf_18 (lv_at hl 0 rfl) ?_
        refine x_iload E dX4_numberOf_19 (lv_at hl 3 rfl) ?_
        refine x_ci hG hS (x_runV E hI hG hS (xt0 hX) cf4 rfl (c_X4_byteAt l hX V hk k (by omega)) mf_X4_byteAt km_X4_65 rfl hl rfl (Nat.le_of_ble_eq_true rfl) (by rw [hR]; exact ⟨Nat.le_of_ble_eq_true rfl, Nat.le_of_ble_eq_true rfl⟩) ⟨Nat.zero_le _, Nat.zero_le _⟩ dX4_numberOf_21) (fun z1 V1 H locs hp hG hS => ?_)
        obtain ⟨ez, eV⟩ := hp
        rw [eV] at hG
        rw [ez]
        refine x_iadd E dX4_numberOf_24 ?_
        refine x_bipush E dX4_numberOf_25 (by decide) ?_
        refine x_isub E dX4_numberOf_27 ?_
        refine x_min E hl km_X4_96 (by rw [hR]; exact ⟨Nat.le_of_ble_eq_true rfl, Nat.le_of_ble_eq_true rfl⟩) ⟨Nat.zero_le _, Nat.zero_le _⟩ (by unfold rg; omega) (by unfold rg; omega) dX4_numberOf_28 ?_
        refine x_istore_n E [(3, .int (jI (min 1000 (((a * 10) + (V 46 k)) - 48)))), (0, .ref (wa X 45)), (2, .int (jI j)), (4, .int (jI k))] dX4_numberOf_31 hl (by decide) rfl (fun ls hl => ?_)
        refine x_iinc E (k := 3) [(4, .int (jI (k + 1))), (3, .int (jI (min 1000 (((a * 10) + (V 46 k)) - 48)))), (0, .ref (wa X 45)), (2, .int (jI j))] dX4_numberOf_32 hl rfl (by decide) rfl (fun ls hl => ?_)
        refine x_goto E 5 dX4_numberOf_35 (by decide) ?_
        exact ih5 (k + 1) (min 1000 (a * 10 + V 46 k - 48)) (by omega) (by omega) (by omega) (by rw [← ea, show (j - k).toNat = (j - (k + 1)).toNat + 1 by omega]; rfl) (by omega) _ _ _ hG hS (lv_sub hl [2, 3, 1, 0] rfl)
  exact L5_1 _ i 0 (by omega) (by omega) (by omega) rfl (Nat.lt_succ_self _) _ _ _ hG hS (lv_sub hl [2, 4, 1, 0] rfl)

set_option maxHeartbeats 4000000 in
set_option maxRecDepth 100000 in
theorem c_X5_clear (l : Launch) {X : We} {n w : Nat} (hX : isX X n) (hw : isW w) (V : Mem) : Mt l X V yX5_clear cX5_clear 1 none 0 0 [.ref (wa X w)] (Qv X (fun V1 => V1 = st (st (st V w 2 0) w 3 0) w 4 0)) := by
  refine Mt.go (by decide) (Nat.le_of_ble_eq_true rfl) ?_
  intro pg ev s0 mi bl mt cd ls Rm ag Qq hR hQ E hI hG hS hl
  have hl : lv_has ls 1 [(0, .ref (wa X w))] := hl
  refine x_aload_n E dX5_clear_0 (lv_at hl 0 rfl) ?_
  refine x_iconst E dX5_clear_1 ?_
  refine x_puti E hI hG hS (xw0 hX hw) cf5 2 2 rfl rfl (by decide) rfl rfl kf_X5_18 dX5_clear_2 (fun H locs hG hS => ?_)
  refine x_aload_n E dX5_clear_5 (lv_at hl 0 rfl) ?_
  refine x_iconst E dX5_clear_6 ?_
  refine x_puti E hI hG hS (xw0 hX hw) cf5 3 3 rfl rfl (by decide) rfl rfl kf_X5_22 dX5_clear_7 (fun H locs hG hS => ?_)
  refine x_aload_n E dX5_clear_10 (lv_at hl 0 rfl) ?_
  refine x_iconst E dX5_clear_11 ?_
  refine x_puti E hI hG hS (xw0 hX hw) cf5 4 4 rfl rfl (by decide) rfl rfl kf_X5_25 dX5_clear_12 (fun H locs hG hS => ?_)
  exact r_v E hQ hG hS dX5_clear_15 rfl

set_option maxHeartbeats 4000000 in
set_option maxRecDepth 100000 in
theorem c_X5_isFull (l : Launch) {X : We} {n w : Nat} (hX : isX X n) (hw : isW w) (V : Mem) (hc : 0 ≤ V w 2 ∧ V w 2 ≤ 20) : Mt l X V yX5_isFull cX5_isFull 1 (some .boolean) 0 0 [.ref (wa X w)] (Qi X (fun z V1 => z = b01 (20 ≤ V w 2) ∧ V1 = V)) := by
  refine Mt.go (by decide) (Nat.le_of_ble_eq_true rfl) ?_
  intro pg ev s0 mi bl mt cd ls Rm ag Qq hR hQ E hI hG hS hl
  have hl : lv_has ls 1 [(0, .ref (wa X w))] := hl
  have L14_1 : ∀ (z : Int), (z = b01 (20 ≤ V w 2)) → ∀ (H : Heap) (locs : List Loc) (ls : Array Slot), GW X V H → va_S (wA X) s0.heap H locs → lv_has ls 1 [] → W pg l ev Rm s0 mi ag bl mt cd H locs 0 0 Qq (F0 mi 14 ls [.int (jI z)]) := by
    intro z hz H locs ls hG hS hl
    exact r_z E hQ hG hS dX5_isFull_14 (by rw [hz]; exact b01_c) (⟨hz, rfl⟩)
  refine x_aload_n E dX5_isFull_0 (lv_at hl 0 rfl) ?_
  refine x_geti E hI hG (xw0 hX hw) cf5 2 (V w 2) rfl (by decide) rfl kf_X5_18 dX5_isFull_1 ?_
  refine x_bipush E dX5_isFull_4 (by decide) ?_
  refine x_icmp_lt E 13 dX5_isFull_6 (by decide) (by unfold rg; omega) (by unfold rg; omega) (fun c6 => ?_) (fun c6 => ?_)
  · refine x_iconst E dX5_isFull_13 ?_
    exact L14_1 0 ((b01_0 (by omega)).symm) _ _ _ hG hS (lv_sub hl [] rfl)
  · refine x_iconst E dX5_isFull_9 ?_
    refine x_goto E 14 dX5_isFull_10 (by decide) ?_
    exact L14_1 1 ((b01_1 (by omega)).symm) _ _ _ hG hS (lv_sub hl [] rfl)

set_option maxHeartbeats 4000000 in
set_option maxRecDepth 100000 in
theorem c_X5_add (l : Launch) {X : We} {n w : Nat} (hX : isX X n) (hw : isW w) (V : Mem) (hc : 0 ≤ V w 2 ∧ V w 2 < 20) (a d : Int) : Mt l X V yX5_add cX5_add 3 none 1 20 [.ref (wa X w), .int (jI a), .int (jI d)] (Qv X (fun V1 => V1 = st (st (st V (w + 1) (V w 2) a) (w + 2) (V w 2) d) w 2 (V w 2 + 1))) := by
  refine Mt.go (by decide) (Nat.le_of_ble_eq_true rfl) ?_
  intro pg ev s0 mi bl mt cd ls Rm ag Qq hR hQ E hI hG hS hl
  have hl : lv_has ls 3 [(0, .ref (wa X w)), (1, .int (jI a)), (2, .int (jI d))] := hl
  refine x_aload_n E dX5_add_0 (lv_at hl 0 rfl) ?_
  refine x_ci hG hS (x_runV E hI hG hS (xw0 hX hw) cf5 rfl (c_X5_isFull l hX hw V (by omega)) mf_X5_isFull km_X5_28 rfl hl rfl (Nat.le_of_ble_eq_true rfl) (by rw [hR]; exact ⟨Nat.le_of_ble_eq_true rfl, Nat.le_of_ble_eq_true rfl⟩) ⟨Nat.zero_le _, Nat.zero_le _⟩ dX5_add_1) (fun z1 V1 H locs hp hG hS => ?_)
  obtain ⟨ez, eV⟩ := hp
  rw [eV] at hG
  rw [ez]
  refine x_if_ne E 14 dX5_add_4 (by decide) b01_rg (fun c4 => ?_) (fun c4 => ?_)
  · have := b01_ne c4; omega
  · refine x_aload_n E dX5_add_7 (lv_at hl 0 rfl) ?_
    refine x_geti E hI hG (xw0 hX hw) cf5 2 (V w 2) rfl (by decide) rfl kf_X5_18 dX5_add_8 ?_
    refine x_if_ge E 15 dX5_add_11 (by decide) (by unfold rg; omega) (fun c11 => ?_) (fun c11 => ?_)
    · refine x_aload_n E dX5_add_15 (lv_at hl 0 rfl) ?_
      refine x_getr E hI hG (xw0 hX hw) cf5 0 (w + 1) rfl (by decide) kf_X5_9 dX5_add_16 ?_
      refine x_aload_n E dX5_add_19 (lv_at hl 0 rfl) ?_
      refine x_geti E hI hG (xw0 hX hw) cf5 2 (V w 2) rfl (by decide) rfl kf_X5_18 dX5_add_20 ?_
      refine x_iload_n E dX5_add_23 (lv_at hl 1 rfl) ?_
      refine x_iast E hI hG hS (xw1 hX hw) (by omega) dX5_add_24 (fun H locs hG hS => ?_)
      refine x_aload_n E dX5_add_25 (lv_at hl 0 rfl) ?_
      refine x_getr E hI hG (xw0 hX hw) cf5 1 (w + 2) rfl (by decide) kf_X5_15 dX5_add_26 ?_
      refine x_aload_n E dX5_add_29 (lv_at hl 0 rfl) ?_
      refine x_geti E hI hG (xw0 hX hw) cf5 2 (V w 2) rfl (by decide) (show (st V (w + 1) (V w 2) a) w 2 = V w 2 from (by rw [st_p (by omega)])) kf_X5_18 dX5_add_30 ?_
      refine x_iload_n E dX5_add_33 (lv_at hl 2 rfl) ?_
      refine x_iast E hI hG hS (xw2 hX hw) (by omega) dX5_add_34 (fun H locs hG hS => ?_)
      refine x_aload_n E dX5_add_35 (lv_at hl 0 rfl) ?_
      refine x_dup E dX5_add_36 rfl ?_
      refine x_geti E hI hG (xw0 hX hw) cf5 2 (V w 2) rfl (by decide) (show (st (st V (w + 1) (V w 2) a) (w + 2) (V w 2) d) w 2 = V w 2 from (by rw [st_p (by omega), st_p (by omega)])) kf_X5_18 dX5_add_37 ?_
      refine x_iconst E dX5_add_40 ?_
      refine x_iadd E dX5_add_41 ?_
      refine x_puti E hI hG hS (xw0 hX hw) cf5 2 2 rfl rfl (by decide) rfl rfl kf_X5_18 dX5_add_42 (fun H locs hG hS => ?_)
      exact r_v E hQ hG hS dX5_add_45 rfl
    · omega

set_option maxHeartbeats 4000000 in
set_option maxRecDepth 100000 in
theorem c_X4_tell (l : Launch) {X : We} {n : Nat} (hX : isX X n) (V : Mem) (k q : Int) (hk : rg k) : Mt l X V yX4_tell cX4_tell 3 (some .boolean) 0 0 [.ref (wa X 45), .int (jI k), .int (jI q)] (Qi X (fun z V1 => z = b01 (k = 0) ∧ V1 = st (st V 45 2 k) 45 3 q)) := by
  refine Mt.go (by decide) (Nat.le_of_ble_eq_true rfl) ?_
  intro pg ev s0 mi bl mt cd ls Rm ag Qq hR hQ E hI hG hS hl
  have hl : lv_has ls 3 [(0, .ref (wa X 45)), (1, .int (jI k)), (2, .int (jI q))] := hl
  unfold rg at hk
  refine x_aload_n E dX4_tell_0 (lv_at hl 0 rfl) ?_
  refine x_iload_n E dX4_tell_1 (lv_at hl 1 rfl) ?_
  refine x_puti E hI hG hS (xt0 hX) cf4 2 2 rfl rfl (by decide) rfl rfl kf_X4_15 dX4_tell_2 (fun H locs hG hS => ?_)
  refine x_aload_n E dX4_tell_5 (lv_at hl 0 rfl) ?_
  refine x_iload_n E dX4_tell_6 (lv_at hl 2 rfl) ?_
  refine x_puti E hI hG hS (xt0 hX) cf4 3 3 rfl rfl (by decide) rfl rfl kf_X4_19 dX4_tell_7 (fun H locs hG hS => ?_)
  have L19_1 : ∀ (z : Int), (z = b01 (k = 0)) → ∀ (H : Heap) (locs : List Loc) (ls : Array Slot), GW X (st (st V 45 2 k) 45 3 q) H → va_S (wA X) s0.heap H locs → lv_has ls 3 [] → W pg l ev Rm s0 mi ag bl mt cd H locs 0 0 Qq (F0 mi 19 ls [.int (jI z)]) := by
    intro z hz H locs ls hG hS hl
    exact r_z E hQ hG hS dX4_tell_19 (by rw [hz]; exact b01_c) (⟨hz, rfl⟩)
  refine x_iload_n E dX4_tell_10 (lv_at hl 1 rfl) ?_
  refine x_if_ne E 18 dX4_tell_11 (by decide) (by unfold rg; omega) (fun c11 => ?_) (fun c11 => ?_)
  · refine x_iconst E dX4_tell_18 ?_
    exact L19_1 0 ((b01_0 c11).symm) _ _ _ hG hS (lv_sub hl [] rfl)
  · refine x_iconst E dX4_tell_14 ?_
    refine x_goto E 19 dX4_tell_15 (by decide) ?_
    exact L19_1 1 ((b01_1 c11).symm) _ _ _ hG hS (lv_sub hl [] rfl)

set_option maxHeartbeats 4000000 in
set_option maxRecDepth 100000 in
theorem c_X4_faultOf (l : Launch) {X : We} {n : Nat} (hX : isX X n) (V : Mem) (hk : TP V) (due i j : Int) (hdue : 0 ≤ due ∧ due ≤ 2) (hi : 0 ≤ i ∧ i < V 45 1) (hj : j = tend (V 46) (V 45 1) i) (hcn : 0 ≤ V 47 2 ∧ V 47 2 ≤ 20) : Mt l X V yX4_faultOf cX4_faultOf 4 (some .int) 6 132 [.ref (wa X 45), .int (jI due), .int (jI i), .int (jI j)] (Qi X (fun z V1 => z = fo (V 46) due i j (V 47 2) ∧ V1 = V)) := by
  refine Mt.go (by decide) (Nat.le_of_ble_eq_true rfl) ?_
  intro pg ev s0 mi bl mt cd ls Rm ag Qq hR hQ E hI hG hS hl
  have hl : lv_has ls 4 [(0, .ref (wa X 45)), (1, .int (jI due)), (2, .int (jI i)), (3, .int (jI j))] := hl
  obtain ⟨⟨l0, l1⟩, hby⟩ := id hk
  have hte := tend_rg (V 46) hi.2
  rw [← hj] at hte
  have hv := hby i (by omega) (by omega)
  have hwr := wv_rg (V 46) i j
  have L86_1 : ∀ (z : Int), (z = fo (V 46) due i j (V 47 2)) → ∀ (H : Heap) (locs : List Loc) (ls : Array Slot), GW X V H → va_S (wA X) s0.heap H locs → lv_has ls 4 [] → W pg l ev Rm s0 mi ag bl mt cd H locs 0 0 Qq (F0 mi 86 ls [.int (jI z)]) := by
    intro z hz H locs ls hG hS hl
    exact r_i E hQ hG hS dX4_faultOf_86 (⟨hz, rfl⟩)
  have L70_2 : ∀ (z : Int), (z = fo (V 46) due i j (V 47 2)) → ∀ (H : Heap) (locs : List Loc) (ls : Array Slot), GW X V H → va_S (wA X) s0.heap H locs → lv_has ls 4 [] → W pg l ev Rm s0 mi ag bl mt cd H locs 0 0 Qq (F0 mi 70 ls [.int (jI z)]) := by
    intro z hz H locs ls hG hS hl
    exact r_i E hQ hG hS dX4_faultOf_70 (⟨hz, rfl⟩)
  have L31_3 : ∀ (z : Int), (z = fo (V 46) due i j (V 47 2)) → ∀ (H : Heap) (locs : List Loc) (ls : Array Slot), GW X V H → va_S (wA X) s0.heap H locs → lv_has ls 4 [] → W pg l ev Rm s0 mi ag bl mt cd H locs 0 0 Qq (F0 mi 31 ls [.int (jI z)]) := by
    intro z hz H locs ls hG hS hl
    exact r_i E hQ hG hS dX4_faultOf_31 (⟨hz, rfl⟩)
  refine x_iload_n E dX4_faultOf_0 (lv_at hl 1 rfl) ?_
  refine x_if_ne E 32 dX4_faultOf_1 (by decide) (by unfold rg; omega) (fun c1 => ?_) (fun c1 => ?_)
  · refine x_iload_n E dX4_faultOf_32 (lv_at hl 1 rfl) ?_
    refine x_iconst E dX4_faultOf_33 ?_
    refine x_icmp_ne E 71 dX4_faultOf_34 (by decide) (by unfold rg; omega) (by unfold rg; omega) (fun c34 => ?_) (fun c34 => ?_)
    · refine x_aload_n E dX4_faultOf_71 (lv_at hl 0 rfl) ?_
      refine x_iload_n E dX4_faultOf_72 (lv_at hl 2 rfl) ?_
      refine x_ci hG hS (x_runV E hI hG hS (xt0 hX) cf4 rfl (c_X4_byteAt l hX V hk i (by omega)) mf_X4_byteAt km_X4_65 rfl hl rfl (Nat.le_of_ble_eq_true rfl) (by rw [hR]; exact ⟨Nat.le_of_ble_eq_true rfl, Nat.le_of_ble_eq_true rfl⟩) ⟨Nat.zero_le _, Nat.zero_le _⟩ dX4_faultOf_73) (fun z1 V1 H locs hp hG hS => ?_)
      obtain ⟨ez, eV⟩ := hp
      rw [eV] at hG
      rw [ez]
      refine x_bipush E dX4_faultOf_76 (by decide) ?_
      refine x_icmp_ne E 85 dX4_faultOf_78 (by decide) (by unfold rg; omega) (by unfold rg; omega) (fun c78 => ?_) (fun c78 => ?_)
      · refine x_iconst E dX4_faultOf_85 ?_
        exact L86_1 1 (by unfold fo; rw [if_neg c1, if_neg c34, if_neg c78]) _ _ _ hG hS (lv_sub hl [] rfl)
      · refine x_iconst E dX4_faultOf_81 ?_
        refine x_goto E 86 dX4_faultOf_82 (by decide) ?_
        exact L86_1 0 (by unfold fo; rw [if_neg c1, if_neg c34, if_pos c78]) _ _ _ hG hS (lv_sub hl [] rfl)
    · refine x_aload_n E dX4_faultOf_37 (lv_at hl 0 rfl) ?_
      refine x_iload_n E dX4_faultOf_38 (lv_at hl 2 rfl) ?_
      refine x_ci hG hS (x_runV E hI hG hS (xt0 hX) cf4 rfl (c_X4_byteAt l hX V hk i (by omega)) mf_X4_byteAt km_X4_65 rfl hl rfl (Nat.le_of_ble_eq_true rfl) (by rw [hR]; exact ⟨Nat.le_of_ble_eq_true rfl, Nat.le_of_ble_eq_true rfl⟩) ⟨Nat.zero_le _, Nat.zero_le _⟩ dX4_faultOf_39) (fun z1 V1 H locs hp hG hS => ?_)
      obtain ⟨ez, eV⟩ := hp
      rw [eV] at hG
      rw [ez]
      refine x_ci hG hS (x_runS E hI hG hS (c_X4_isDigit l V (V 46 i) hv) mf_X4_isDigit km_X4_68 rfl hl rfl (Nat.le_of_ble_eq_true rfl) (by rw [hR]; exact ⟨Nat.le_of_ble_eq_true rfl, Nat.le_of_ble_eq_true rfl⟩) ⟨Nat.zero_le _, Nat.zero_le _⟩ dX4_faultOf_42) (fun z1 V1 H locs hp hG hS => ?_)
      obtain ⟨ez, eV⟩ := hp
      rw [eV] at hG
      rw [ez]
      refine x_if_ne E 50 dX4_faultOf_45 (by decide) (b2i_rg _) (fun c45 => ?_) (fun c45 => ?_)
      · have hD := b2i_ne.mp c45
        have hnr : 0 ≤ nv (V 46) i j ∧ nv (V 46) i j ≤ 1000 := nvK_rg _ _ _ (by omega) (by omega) (fun q q0 q1 => tend_dig (L := V 45 1) hD q q0 (by omega))
        refine x_aload_n E dX4_faultOf_50 (lv_at hl 0 rfl) ?_
        refine x_iload_n E dX4_faultOf_51 (lv_at hl 2 rfl) ?_
        refine x_iload_n E dX4_faultOf_52 (lv_at hl 3 rfl) ?_
        refine x_ci hG hS (x_runV E hI hG hS (xt0 hX) cf4 rfl (c_X4_numberOf l hX V hk i j (by omega) (by rw [hj]; exact tend_dig hD)) mf_X4_numberOf km_X4_54 rfl hl rfl (Nat.le_of_ble_eq_true rfl) (by rw [hR]; exact ⟨Nat.le_of_ble_eq_true rfl, Nat.le_of_ble_eq_true rfl⟩) ⟨Nat.zero_le _, Nat.zero_le _⟩ dX4_faultOf_53) (fun z1 V1 H locs hp hG hS => ?_)
        obtain ⟨ez, eV⟩ := hp
        rw [eV] at hG
        rw [ez]
        refine x_iconst E dX4_faultOf_56 ?_
        refine x_bipush E dX4_faultOf_57 (by decide) ?_
        refine x_ci hG hS (x_runSN E hI hG hS (c_X7_isWithin l V (nv (V 46) i j) 1 60 (by unfold rg; omega) (by unfold rg; omega) (by unfold rg; omega)) mf_X7_isWithin (by decide : (_, _, _, RX7) ∈ zNest) rfl hl rfl (Nat.le_of_ble_eq_true rfl) (by rw [hR]; exact ⟨Nat.le_of_ble_eq_true rfl, Nat.le_of_ble_eq_true rfl⟩) ⟨Nat.zero_le _, Nat.zero_le _⟩ dX4_faultOf_59) (fun z1 V1 H locs hp hG hS => ?_)
        obtain ⟨ez, eV⟩ := hp
        rw [eV] at hG
        rw [ez]
        refine x_if_eq E 69 dX4_faultOf_62 (by decide) b01_rg (fun c62 => ?_) (fun c62 => ?_)
        · refine x_iconst E dX4_faultOf_69 ?_
          exact L70_2 2 (by unfold fo; rw [if_neg c1, if_pos c34, if_pos hD, if_neg (b01_iff0.mp c62)]) _ _ _ hG hS (lv_sub hl [] rfl)
        · refine x_iconst E dX4_faultOf_65 ?_
          refine x_goto E 70 dX4_faultOf_66 (by decide) ?_
          exact L70_2 0 (by unfold fo; rw [if_neg c1, if_pos c34, if_pos hD, if_pos (b01_ne c62)]) _ _ _ hG hS (lv_sub hl [] rfl)
      · refine x_iconst E dX4_faultOf_48 ?_
        exact r_i E hQ hG hS dX4_faultOf_49 (⟨by unfold fo; rw [if_neg c1, if_pos c34, b2i_0.mp c45, if_neg (by decide)], rfl⟩)
  · refine x_aload_n E dX4_faultOf_4 (lv_at hl 0 rfl) ?_
    refine x_iload_n E dX4_faultOf_5 (lv_at hl 2 rfl) ?_
    refine x_iload_n E dX4_faultOf_6 (lv_at hl 3 rfl) ?_
    refine x_ci hG hS (x_runV E hI hG hS (xt0 hX) cf4 rfl (c_X4_windOf l hX V hk i j (by omega)) mf_X4_windOf km_X4_50 rfl hl rfl (Nat.le_of_ble_eq_true rfl) (by rw [hR]; exact ⟨Nat.le_of_ble_eq_true rfl, Nat.le_of_ble_eq_true rfl⟩) ⟨Nat.zero_le _, Nat.zero_le _⟩ dX4_faultOf_7) (fun z1 V1 H locs hp hG hS => ?_)
    obtain ⟨ez, eV⟩ := hp
    rw [eV] at hG
    rw [ez]
    refine x_iconst E dX4_faultOf_10 ?_
    refine x_icmp_ne E 16 dX4_faultOf_11 (by decide) (by unfold rg; omega) (by unfold rg; omega) (fun c11 => ?_) (fun c11 => ?_)
    · refine x_aload_n E dX4_faultOf_16 (lv_at hl 0 rfl) ?_
      refine x_getr E hI hG (xt0 hX) cf4 4 47 rfl (by decide) kf_X4_25 dX4_faultOf_17 ?_
      refine x_ci hG hS (x_runV E hI hG hS (xw0 hX isW47) cf5 rfl (c_X5_isFull l hX isW47 V hcn) mf_X5_isFull km_X4_61 rfl hl rfl (Nat.le_of_ble_eq_true rfl) (by rw [hR]; exact ⟨Nat.le_of_ble_eq_true rfl, Nat.le_of_ble_eq_true rfl⟩) ⟨Nat.zero_le _, Nat.zero_le _⟩ dX4_faultOf_20) (fun z1 V1 H locs hp hG hS => ?_)
      obtain ⟨ez, eV⟩ := hp
      rw [eV] at hG
      rw [ez]
      refine x_if_eq E 30 dX4_faultOf_23 (by decide) b01_rg (fun c23 => ?_) (fun c23 => ?_)
      · refine x_iconst E dX4_faultOf_30 ?_
        exact L31_3 0 (by unfold fo; rw [if_pos c1, if_neg c11, if_neg (b01_iff0.mp c23)]) _ _ _ hG hS (lv_sub hl [] rfl)
      · refine x_iconst E dX4_faultOf_26 ?_
        refine x_goto E 31 dX4_faultOf_27 (by decide) ?_
        exact L31_3 3 (by unfold fo; rw [if_pos c1, if_neg c11, if_pos (b01_ne c23)]) _ _ _ hG hS (lv_sub hl [] rfl)
    · refine x_iconst E dX4_faultOf_14 ?_
      exact r_i E hQ hG hS dX4_faultOf_15 (⟨by unfold fo; rw [if_pos c1, if_pos c11], rfl⟩)
