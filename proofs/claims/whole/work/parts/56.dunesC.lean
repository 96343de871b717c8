theorem shK_s {wd hi : Int} {h : Int → Int} {c w k : Int} (h1 : 1 ≤ k) : shK wd hi h c w k.toNat = (shK wd hi h c w (k - 1).toNat || decide (0 ≤ gow wd hi (opp w) k.toNat c ∧ k ≤ h (gow wd hi (opp w) k.toNat c) - h c)) := by
  obtain ⟨j, rfl⟩ : ∃ j : Nat, k = (j : Int) + 1 := ⟨(k - 1).toNat, by omega⟩
  rw [show ((j : Int) + 1).toNat = j + 1 by omega, show ((j : Int) + 1 - 1).toNat = j by omega]
  rfl
theorem gow_s {wd hi w c k : Int} (h0 : 0 ≤ k) : gow wd hi w (k + 1).toNat c = if 0 ≤ gow wd hi w k.toNat c then nb wd hi (gow wd hi w k.toNat c) w else -1 := by
  rw [show (k + 1).toNat = k.toNat + 1 by omega]; rfl
theorem b2i_b01 (q : Bool) : b2i q = b01 (q = true) := by unfold b2i b01; rfl
theorem b2i_c (q : Bool) : b2i q = 0 ∨ b2i q = 1 := by unfold b2i; split <;> simp
theorem b2i_rg (q : Bool) : rg (b2i q) := by unfold b2i rg; split <;> omega
theorem b2i_0 {q : Bool} : b2i q = 0 ↔ q = false := by cases q <;> simp [b2i]
theorem b2i_1 {q : Bool} : b2i q = 1 ↔ q = true := by cases q <;> simp [b2i]
theorem b2i_ne {q : Bool} : b2i q ≠ 0 ↔ q = true := by cases q <;> simp [b2i]

set_option maxHeartbeats 4000000 in
set_option maxRecDepth 100000 in
theorem c_X1_isInShadow (l : Launch) {X : We} {n b : Nat} (hX : isX X n) (hb : isD b) {wd hi : Int} (V : Mem) (hs : Sh V n wd hi) (h : Int → Int) (hV : V (b + 1) = h) (hh : bnd n 0 9500 h) (c w : Int) (hc : 0 ≤ c ∧ c < (n : Int)) (hw : 0 ≤ w ∧ w < 4) : Mt l X V yX1_isInShadow cX1_isInShadow 6 (some .boolean) 1 23 [.ref (wa X b), .int (jI c), .int (jI w)] (Qi X (fun z V1 => z = b2i (shd wd hi h c w) ∧ V1 = V)) := by
  refine Mt.go (by decide) (Nat.le_of_ble_eq_true rfl) ?_
  intro pg ev s0 mi bl mt cd ls Rm ag Qq hR hQ E hI hG hS hl
  have hl : lv_has ls 6 [(0, .ref (wa X b)), (1, .int (jI c)), (2, .int (jI w))] := hl
  have hd := hs.2.2.2.1
  obtain ⟨hn1, hn2⟩ := dims.n hd
  obtain ⟨hb1, hb2⟩ := isD.ge hb
  refine x_iload_n E dX1_isInShadow_0 (lv_at hl 2 rfl) ?_
  refine x_iconst E dX1_isInShadow_1 ?_
  refine lv_ixor E.1 E.2.1 dX1_isInShadow_2 ?_
  refine x_rawi (opp w) (q_opp hw.1 hw.2) ?_
  refine x_istore_n E [(3, .int (jI (opp w))), (0, .ref (wa X b)), (1, .int (jI c)), (2, .int (jI w))] dX1_isInShadow_3 hl (by decide) rfl (fun ls hl => ?_)
  refine x_iload_n E dX1_isInShadow_4 (lv_at hl 2 rfl) ?_
  refine x_istore E [(4, .int (jI c)), (3, .int (jI (opp w))), (0, .ref (wa X b)), (1, .int (jI c)), (2, .int (jI w))] dX1_isInShadow_5 hl (by decide) rfl (fun ls hl => ?_)
  refine x_iconst E dX1_isInShadow_7 ?_
  refine x_istore E [(5, .int (jI 1)), (4, .int (jI c)), (3, .int (jI (opp w))), (0, .ref (wa X b)), (1, .int (jI c)), (2, .int (jI w))] dX1_isInShadow_8 hl (by decide) rfl (fun ls hl => ?_)
  have L10_1 : ∀ (N : Nat) (k : Int) (a : Int), (1 ≤ k) → (k ≤ 9) → (a = gow wd hi (opp w) (k - 1).toNat c) → (0 ≤ a) → (shK wd hi h c w (k - 1).toNat = false) → ((9 - k).toNat) < N → ∀ (H : Heap) (locs : List Loc) (ls : Array Slot), GW X V H → va_S (wA X) s0.heap H locs → lv_has ls 6 [(0, .ref (wa X b)), (1, .int (jI c)), (3, .int (jI (opp w))), (4, .int (jI a)), (5, .int (jI k))] → W pg l ev Rm s0 mi ag bl mt cd H locs 0 0 Qq (F0 mi 10 ls []) := by
    intro N
    induction N with
    | zero => intro k a k1 k2 ea ha hsk hN; exact absurd hN (Nat.not_lt_zero _)
    | succ N ih10 =>
      intro k a k1 k2 ea ha hsk hN H locs ls hG hS hl
      refine x_iload E dX1_isInShadow_10 (lv_at hl 4 rfl) ?_
      refine x_bipush E dX1_isInShadow_12 (by decide) ?_
      refine x_icmp_gt E 64 dX1_isInShadow_14 (by decide) (by unfold rg; omega) (by unfold rg; omega) (fun c14 => ?_) (fun c14 => ?_)
      · refine x_iconst E dX1_isInShadow_64 ?_
        exact r_z E hQ hG hS dX1_isInShadow_65 (Or.inl rfl) (⟨by rw [show (k - 1).toNat = 8 by omega] at hsk; unfold shd; rw [hsk]; rfl, rfl⟩)
      · have hr := gow_rg (w := opp w) hd (show -1 ≤ c by omega) hc.2 (k - 1).toNat
        have hr2 := gow_rg (w := opp w) hd (show -1 ≤ c by omega) hc.2 k.toNat
        have hst := gow_s (wd := wd) (hi := hi) (w := opp w) (c := c) (k := k - 1) (by omega)
        rw [show k - 1 + 1 = k by omega, ← ea, if_pos ha] at hst
        rw [← ea] at hr
        have ho := opp_rg hw.1 hw.2
        have hss := shK_s (wd := wd) (hi := hi) (h := h) (c := c) (w := w) k1
        refine x_aload_n E dX1_isInShadow_17 (lv_at hl 0 rfl) ?_
        refine x_getr E hI hG (xd0 hX hb) cf1 0 1 rfl (by decide) kf_X1_36 dX1_isInShadow_18 ?_
        refine x_iload E dX1_isInShadow_21 (lv_at hl 3 rfl) ?_
        refine x_iload_n E dX1_isInShadow_23 (lv_at hl 2 rfl) ?_
        refine x_ci hG hS (x_runV E hI hG hS (xs0 hX) cf3 rfl (c_X3_beside l hX V hs a (opp w) ⟨hr.1, hr.2⟩ ho) mf_X3_beside km_X1_119 rfl hl rfl (Nat.le_of_ble_eq_true rfl) (by rw [hR]; exact ⟨Nat.le_of_ble_eq_true rfl, Nat.le_of_ble_eq_true rfl⟩) ⟨Nat.zero_le _, Nat.zero_le _⟩ dX1_isInShadow_24) (fun z1 V1 H locs hp hG hS => ?_)
        obtain ⟨ez, eV⟩ := hp
        rw [if_pos ha, ← hst] at ez
        rw [eV] at hG
        rw [ez]
        refine x_istore E [(4, .int (jI (gow wd hi (opp w) k.toNat c))), (0, .ref (wa X b)), (1, .int (jI c)), (3, .int (jI (opp w))), (5, .int (jI k))] dX1_isInShadow_27 hl (by decide) rfl (fun ls hl => ?_)
        refine x_iload E dX1_isInShadow_29 (lv_at hl 0 rfl) ?_
        refine x_iconst E dX1_isInShadow_31 ?_
        refine x_icmp_ne E 37 dX1_isInShadow_32 (by decide) (by unfold rg; omega) (by unfold rg; omega) (fun c32 => ?_) (fun c32 => ?_)
        · have hv1 := hh (gow wd hi (opp w) k.toNat c) (by omega) (by omega)
          have hv2 := hh c hc.1 hc.2
          refine x_aload_n E dX1_isInShadow_37 (lv_at hl 1 rfl) ?_
          refine x_getr E hI hG (xd0 hX hb) cf1 1 (b + 1) rfl (by decide) kf_X1_45 dX1_isInShadow_38 ?_
          refine x_iload E dX1_isInShadow_41 (lv_at hl 0 rfl) ?_
          refine x_iald E hI hG (xd1 hX hb) (h (gow wd hi (opp w) k.toNat c)) (by rw [hV]) (by omega) dX1_isInShadow_43 ?_
          refine x_aload_n E dX1_isInShadow_44 (lv_at hl 1 rfl) ?_
          refine x_getr E hI hG (xd0 hX hb) cf1 1 (b + 1) rfl (by decide) kf_X1_45 dX1_isInShadow_45 ?_
          refine x_iload_n E dX1_isInShadow_48 (lv_at hl 2 rfl) ?_
          refine x_iald E hI hG (xd1 hX hb) (h c) (by rw [hV]) (by omega) dX1_isInShadow_49 ?_
          refine x_isub E dX1_isInShadow_50 ?_
          refine x_iload E dX1_isInShadow_51 (lv_at hl 4 rfl) ?_
          refine x_icmp_lt E 58 dX1_isInShadow_53 (by decide) (by unfold rg; omega) (by unfold rg; omega) (fun c53 => ?_) (fun c53 => ?_)
          · refine x_iinc E (k := 4) [(5, .int (jI (k + 1))), (4, .int (jI (gow wd hi (opp w) k.toNat c))), (0, .ref (wa X b)), (1, .int (jI c)), (3, .int (jI (opp w)))] dX1_isInShadow_58 hl rfl (by decide) rfl (fun ls hl => ?_)
            refine x_goto E 10 dX1_isInShadow_61 (by decide) ?_
            exact ih10 (k + 1) (gow wd hi (opp w) k.toNat c) (by omega) (by omega) (by rw [show k + 1 - 1 = k by omega]) (by omega) (by rw [show k + 1 - 1 = k by omega, hss, hsk, Bool.false_or, decide_eq_false_iff_not]; omega) (by omega) _ _ _ hG hS (lv_sub hl [2, 3, 4, 1, 0] rfl)
          · refine x_iconst E dX1_isInShadow_56 ?_
            exact r_z E hQ hG hS dX1_isInShadow_57 (Or.inr rfl) (⟨by
                      have : shK wd hi h c w k.toNat = true := by rw [hss, hsk, Bool.false_or, decide_eq_true_iff]; omega
                      have := shK_yes this (8 - k.toNat)
                      rw [show k.toNat + (8 - k.toNat) = 8 by omega] at this
                      unfold shd; rw [this]; rfl, rfl⟩)
        · refine x_iconst E dX1_isInShadow_35 ?_
          exact r_z E hQ hG hS dX1_isInShadow_36 (Or.inl rfl) (⟨by
                    have := shK_no (k := (k - 1).toNat) hsk (by rw [show (k - 1).toNat + 1 = k.toNat by omega, c32]; omega) (8 - (k - 1).toNat)
                    rw [show (k - 1).toNat + (8 - (k - 1).toNat) = 8 by omega] at this
                    unfold shd; rw [this]; rfl, rfl⟩)
  exact L10_1 _ 1 c (by omega) (by omega) rfl hc.1 rfl (Nat.lt_succ_self _) _ _ _ hG hS (lv_sub hl [3, 4, 2, 1, 0] rfl)

set_option maxHeartbeats 4000000 in
set_option maxRecDepth 100000 in
theorem c_X1_draw (l : Launch) {X : We} {n b : Nat} (hX : isX X n) (hb : isD b) (V : Mem) (m : Int) (hm : 0 < m ∧ m < 65536) : Mt l X V yX1_draw cX1_draw 2 (some .int) 0 0 [.ref (wa X b), .int (jI m)] (Qi X (fun z V1 => z = dw (nx (V b 11)) m ∧ V1 = drM b V)) := by
  refine Mt.go (by decide) (Nat.le_of_ble_eq_true rfl) ?_
  intro pg ev s0 mi bl mt cd ls Rm ag Qq hR hQ E hI hG hS hl
  have hl : lv_has ls 2 [(0, .ref (wa X b)), (1, .int (jI m))] := hl
  refine x_aload_n E dX1_draw_0 (lv_at hl 0 rfl) ?_
  refine x_aload_n E dX1_draw_1 (lv_at hl 0 rfl) ?_
  refine x_geti E hI hG (xd0 hX hb) cf1 11 (V b 11) rfl (by decide) rfl kf_X1_32 dX1_draw_2 ?_
  refine x_ldc E 1103515245 kk_X1_134 (by decide) dX1_draw_5 ?_
  refine x_imul E dX1_draw_7 ?_
  refine x_sipush E dX1_draw_8 (by decide) ?_
  refine x_iadd E dX1_draw_11 ?_
  refine x_puti E hI hG hS (xd0 hX hb) cf1 11 11 rfl rfl (by decide) rfl rfl kf_X1_32 dX1_draw_12 (fun H locs hG hS => ?_)
  rw [show (st V b 11 (((V b 11) * 1103515245) + 12345)) = (drM b V) from rfl] at hG
  refine x_iload_n E dX1_draw_15 (lv_at hl 1 rfl) ?_
  refine x_if_le E 31 dX1_draw_16 (by decide) (by unfold rg; omega) (fun c16 => ?_) (fun c16 => ?_)
  · omega
  · refine x_aload_n E dX1_draw_19 (lv_at hl 0 rfl) ?_
    refine x_geti E hI hG (xd0 hX hb) cf1 11 ((nx (V b 11))) rfl (by decide) (st_s _ _ _ _) kf_X1_32 dX1_draw_20 ?_
    refine x_bipush E dX1_draw_23 (by decide) ?_
    refine lv_iushr E.1 E.2.1 dX1_draw_25 rfl ?_
    refine x_rawi (du (nx (V b 11))) (q_du _) ?_
    have hdu := du_rg (nx (V b 11))
    refine x_iload_n E dX1_draw_26 (lv_at hl 1 rfl) ?_
    refine x_irem E (by omega) (by omega) dX1_draw_27 ?_
    refine x_goto E 32 dX1_draw_28 (by decide) ?_
    exact r_i E hQ hG hS dX1_draw_32 (⟨rfl, rfl⟩)

set_option maxHeartbeats 4000000 in
set_option maxRecDepth 100000 in
theorem c_X1_afterHop (l : Launch) {X : We} {n b : Nat} (hX : isX X n) (hb : isD b) {wd hi : Int} (V : Mem) (hs : Sh V n wd hi) (c w : Int) (hc : 0 ≤ c ∧ c < (n : Int)) (hw : 0 ≤ w ∧ w < 4) (hho : 1 ≤ V (b + 10) 0 ∧ V (b + 10) 0 ≤ 5) : Mt l X V yX1_afterHop cX1_afterHop 5 (some .int) 1 23 [.ref (wa X b), .int (jI c), .int (jI w)] (Qi X (fun z V1 => z = gow wd hi w (V (b + 10) 0).toNat c ∧ V1 = V)) := by
  refine Mt.go (by decide) (Nat.le_of_ble_eq_true rfl) ?_
  intro pg ev s0 mi bl mt cd ls Rm ag Qq hR hQ E hI hG hS hl
  have hl : lv_has ls 5 [(0, .ref (wa X b)), (1, .int (jI c)), (2, .int (jI w))] := hl
  have hd := hs.2.2.2.1
  obtain ⟨hn1, hn2⟩ := dims.n hd
  obtain ⟨hb1, hb2⟩ := isD.ge hb
  refine x_iload_n E dX1_afterHop_0 (lv_at hl 1 rfl) ?_
  refine x_istore_n E [(3, .int (jI c)), (0, .ref (wa X b)), (1, .int (jI c)), (2, .int (jI w))] dX1_afterHop_1 hl (by decide) rfl (fun ls hl => ?_)
  refine x_iconst E dX1_afterHop_2 ?_
  refine x_istore E [(4, .int (jI 0)), (3, .int (jI c)), (0, .ref (wa X b)), (1, .int (jI c)), (2, .int (jI w))] dX1_afterHop_3 hl (by decide) rfl (fun ls hl => ?_)
  have L5_1 : ∀ (N : Nat) (i : Int), (0 ≤ i) → (i ≤ V (b + 10) 0) → ((V (b + 10) 0 - i).toNat) < N → ∀ (H : Heap) (locs : List Loc) (ls : Array Slot), GW X V H → va_S (wA X) s0.heap H locs → lv_has ls 5 [(0, .ref (wa X b)), (2, .int (jI w)), (3, .int (jI (gow wd hi w i.toNat c))), (4, .int (jI i))] → W pg l ev Rm s0 mi ag bl mt cd H locs 0 0 Qq (F0 mi 5 ls []) := by
    intro N
    induction N with
    | zero => intro i i0 i1 hN; exact absurd hN (Nat.not_lt_zero _)
    | succ N ih5 =>
      intro i i0 i1 hN H locs ls hG hS hl
      refine x_iload E dX1_afterHop_5 (lv_at hl 3 rfl) ?_
      refine x_aload_n E dX1_afterHop_7 (lv_at hl 0 rfl) ?_
      refine x_getr E hI hG (xd0 hX hb) cf1 9 (b + 10) rfl (by decide) kf_X1_22 dX1_afterHop_8 ?_
      refine x_iconst E dX1_afterHop_11 ?_
      refine x_iald E hI hG (xd10 hX hb) (V (b + 10) 0) rfl (by omega) dX1_afterHop_12 ?_
      refine x_icmp_ge E 32 dX1_afterHop_13 (by decide) (by unfold rg; omega) (by unfold rg; omega) (fun c13 => ?_) (fun c13 => ?_)
      · refine x_iload_n E dX1_afterHop_32 (lv_at hl 2 rfl) ?_
        exact r_i E hQ hG hS dX1_afterHop_33 (⟨by rw [show i = V (b + 10) 0 by omega], rfl⟩)
      · have hr := gow_rg (w := w) hd (show -1 ≤ c by omega) hc.2 i.toNat
        have hst := gow_s (wd := wd) (hi := hi) (w := w) (c := c) i0
        refine x_aload_n E dX1_afterHop_16 (lv_at hl 0 rfl) ?_
        refine x_getr E hI hG (xd0 hX hb) cf1 0 1 rfl (by decide) kf_X1_36 dX1_afterHop_17 ?_
        refine x_iload_n E dX1_afterHop_20 (lv_at hl 2 rfl) ?_
        refine x_iload_n E dX1_afterHop_21 (lv_at hl 1 rfl) ?_
        refine x_ci hG hS (x_runV E hI hG hS (xs0 hX) cf3 rfl (c_X3_beside l hX V hs (gow wd hi w i.toNat c) w ⟨hr.1, hr.2⟩ hw) mf_X3_beside km_X1_119 rfl hl rfl (Nat.le_of_ble_eq_true rfl) (by rw [hR]; exact ⟨Nat.le_of_ble_eq_true rfl, Nat.le_of_ble_eq_true rfl⟩) ⟨Nat.zero_le _, Nat.zero_le _⟩ dX1_afterHop_22) (fun z1 V1 H locs hp hG hS => ?_)
        obtain ⟨ez, eV⟩ := hp
        rw [← hst] at ez
        rw [eV] at hG
        rw [ez]
        refine x_istore_n E [(3, .int (jI (gow wd hi w (i + 1).toNat c))), (0, .ref (wa X b)), (2, .int (jI w)), (4, .int (jI i))] dX1_afterHop_25 hl (by decide) rfl (fun ls hl => ?_)
        refine x_iinc E (k := 3) [(4, .int (jI (i + 1))), (3, .int (jI (gow wd hi w (i + 1).toNat c))), (0, .ref (wa X b)), (2, .int (jI w))] dX1_afterHop_26 hl rfl (by decide) rfl (fun ls hl => ?_)
        refine x_goto E 5 dX1_afterHop_29 (by decide) ?_
        exact ih5 (i + 1) (by omega) (by omega) (by omega) _ _ _ hG hS (lv_sub hl [2, 3, 1, 0] rfl)
  exact L5_1 _ 0 (by omega) (by omega) (Nat.lt_succ_self _) _ _ _ hG hS (lv_sub hl [2, 4, 1, 0] rfl)

set_option maxHeartbeats 4000000 in
set_option maxRecDepth 100000 in
theorem c_X1_isLaid (l : Launch) {X : We} {n b : Nat} (hX : isX X n) (hb : isD b) {wd hi t : Int} (V : Mem) (hk : Mid V n wd hi b t) (c w : Int) (hc : 0 ≤ c ∧ c < (n : Int)) (hw : 0 ≤ w ∧ w < 4) : Mt l X V yX1_isLaid cX1_isLaid 3 (some .boolean) 2 48 [.ref (wa X b), .int (jI c), .int (jI w)] (Qi X (fun z V1 => z = b2i (ldB wd hi b w c V) ∧ V1 = ldM wd hi b w c V)) := by
  refine Mt.go (by decide) (Nat.le_of_ble_eq_true rfl) ?_
  intro pg ev s0 mi bl mt cd ls Rm ag Qq hR hQ E hI hG hS hl
  have hl : lv_has ls 3 [(0, .ref (wa X b)), (1, .int (jI c)), (2, .int (jI w))] := hl
  obtain ⟨⟨hs, hh, hz⟩, ⟨r2, r3, r4, r5, r6, r7, r8, r9, r10, r11⟩, hsk, hday⟩ := hk
  have hd := hs.2.2.2.1
  have hbn : bnd n 0 9500 (V (b + 1)) := hh.ps hd |>.1
  obtain ⟨hn1, hn2⟩ := dims.n hd
  obtain ⟨hb1, hb2⟩ := isD.ge hb
  have L24_1 : (shd wd hi (V (b + 1)) c w = true ∨ V (b + 1) c < V (b + 4) c) → ∀ (H : Heap) (locs : List Loc) (ls : Array Slot), GW X V H → va_S (wA X) s0.heap H locs → lv_has ls 3 [] → W pg l ev Rm s0 mi ag bl mt cd H locs 0 0 Qq (F0 mi 24 ls []) := by
    intro  hy H locs ls hG hS hl
    refine x_iconst E dX1_isLaid_24 ?_
    exact r_z E hQ hG hS dX1_isLaid_25 (Or.inr rfl) (⟨by
          unfold ldB
          rcases hy with q | q
          · rw [q]; rfl
          · rw [decide_eq_true q, Bool.or_true, Bool.true_or]; rfl, by unfold ldM; rw [if_pos hy]⟩)
  refine x_aload_n E dX1_isLaid_0 (lv_at hl 0 rfl) ?_
  refine x_iload_n E dX1_isLaid_1 (lv_at hl 1 rfl) ?_
  refine x_iload_n E dX1_isLaid_2 (lv_at hl 2 rfl) ?_
  refine x_ci hG hS (x_runV E hI hG hS (xd0 hX hb) cf1 rfl (c_X1_isInShadow l hX hb V hs (V (b + 1)) rfl hbn c w hc hw) mf_X1_isInShadow km_X1_100 rfl hl rfl (Nat.le_of_ble_eq_true rfl) (by rw [hR]; exact ⟨Nat.le_of_ble_eq_true rfl, Nat.le_of_ble_eq_true rfl⟩) ⟨Nat.zero_le _, Nat.zero_le _⟩ dX1_isLaid_3) (fun z1 V1 H locs hp hG hS => ?_)
  obtain ⟨ez, eV⟩ := hp
  rw [eV] at hG
  rw [ez]
  refine x_if_ne E 24 dX1_isLaid_6 (by decide) (b2i_rg _) (fun c6 => ?_) (fun c6 => ?_)
  · exact L24_1  (Or.inl (b2i_ne.mp c6)) _ _ _ hG hS (lv_sub hl [] rfl)
  · have hv1 := hbn c hc.1 hc.2
    have hv2 := r4 c hc.1 hc.2
    have hsf : shd wd hi (V (b + 1)) c w = false := b2i_0.mp c6
    refine x_aload_n E dX1_isLaid_9 (lv_at hl 0 rfl) ?_
    refine x_getr E hI hG (xd0 hX hb) cf1 1 (b + 1) rfl (by decide) kf_X1_45 dX1_isLaid_10 ?_
    refine x_iload_n E dX1_isLaid_13 (lv_at hl 1 rfl) ?_
    refine x_iald E hI hG (xd1 hX hb) (V (b + 1) c) rfl (by omega) dX1_isLaid_14 ?_
    refine x_aload_n E dX1_isLaid_15 (lv_at hl 0 rfl) ?_
    refine x_getr E hI hG (xd0 hX hb) cf1 4 (b + 4) rfl (by decide) kf_X1_54 dX1_isLaid_16 ?_
    refine x_iload_n E dX1_isLaid_19 (lv_at hl 1 rfl) ?_
    refine x_iald E hI hG (xd4 hX hb) (V (b + 4) c) rfl (by omega) dX1_isLaid_20 ?_
    refine x_icmp_ge E 26 dX1_isLaid_21 (by decide) (by unfold rg; omega) (by unfold rg; omega) (fun c21 => ?_) (fun c21 => ?_)
    · refine x_aload_n E dX1_isLaid_26 (lv_at hl 0 rfl) ?_
      refine x_bipush E dX1_isLaid_27 (by decide) ?_
      refine x_ci hG hS (x_runV E hI hG hS (xd0 hX hb) cf1 rfl (c_X1_draw l hX hb V 100 (by omega)) mf_X1_draw km_X1_157 rfl hl rfl (Nat.le_of_ble_eq_true rfl) (by rw [hR]; exact ⟨Nat.le_of_ble_eq_true rfl, Nat.le_of_ble_eq_true rfl⟩) ⟨Nat.zero_le _, Nat.zero_le _⟩ dX1_isLaid_29) (fun z1 V1 H locs hp hG hS => ?_)
      obtain ⟨ez, eV⟩ := hp
      rw [eV] at hG
      rw [ez]
      have hdw := dw_rg (nx (V b 11)) (show (0 : Int) < 100 by omega)
      have hno : ¬ (shd wd hi (V (b + 1)) c w = true ∨ V (b + 1) c < V (b + 4) c) := by rw [hsf]; simp; omega
      have L56_2 : ∀ (y : Int), (y = if V (b + 1) c = 0 then V (b + 10) 2 else V (b + 10) 1) → ∀ (H : Heap) (locs : List Loc) (ls : Array Slot), GW X (drM b V) H → va_S (wA X) s0.heap H locs → lv_has ls 3 [] → W pg l ev Rm s0 mi ag bl mt cd H locs 0 0 Qq (F0 mi 56 ls [.int (jI y), .int (jI (dw (nx (V b 11)) 100))]) := by
        intro y hy H locs ls hG hS hl
        refine x_icmp_ge E 63 dX1_isLaid_56 (by decide) (by unfold rg; omega) (by unfold rg; omega) (fun c56 => ?_) (fun c56 => ?_)
        · refine x_iconst E dX1_isLaid_63 ?_
          exact r_z E hQ hG hS dX1_isLaid_64 (by omega) (⟨by
          unfold ldB
          rw [hsf, decide_eq_false (p := V (b + 1) c < _) (by omega), decide_eq_false (p := dw (nx (V b 11)) 100 < _) (by rw [← hy]; omega)]; rfl, by unfold ldM; rw [if_neg hno]⟩)
        · refine x_iconst E dX1_isLaid_59 ?_
          refine x_goto E 64 dX1_isLaid_60 (by decide) ?_
          exact r_z E hQ hG hS dX1_isLaid_64 (by omega) (⟨by
          unfold ldB
          rw [decide_eq_true (p := dw (nx (V b 11)) 100 < _) (by rw [← hy]; omega), Bool.or_true]; rfl, by unfold ldM; rw [if_neg hno]⟩)
      refine x_aload_n E dX1_isLaid_32 (lv_at hl 0 rfl) ?_
      refine x_getr E hI hG (xd0 hX hb) cf1 1 (b + 1) rfl (by decide) kf_X1_45 dX1_isLaid_33 ?_
      refine x_iload_n E dX1_isLaid_36 (lv_at hl 1 rfl) ?_
      refine x_iald E hI hG (xd1 hX hb) (V (b + 1) c) (by unfold drM; rw [st_p (by omega)]) (by omega) dX1_isLaid_37 ?_
      refine x_if_ne E 50 dX1_isLaid_38 (by decide) (by unfold rg; omega) (fun c38 => ?_) (fun c38 => ?_)
      · refine x_aload_n E dX1_isLaid_50 (lv_at hl 0 rfl) ?_
        refine x_getr E hI hG (xd0 hX hb) cf1 9 (b + 10) rfl (by decide) kf_X1_22 dX1_isLaid_51 ?_
        refine x_iconst E dX1_isLaid_54 ?_
        refine x_iald E hI hG (xd10 hX hb) (V (b + 10) 1) (by unfold drM; rw [st_p (by omega)]) (by omega) dX1_isLaid_55 ?_
        exact L56_2 (V (b + 10) 1) (by rw [if_neg c38]) _ _ _ hG hS (lv_sub hl [] rfl)
      · refine x_aload_n E dX1_isLaid_41 (lv_at hl 0 rfl) ?_
        refine x_getr E hI hG (xd0 hX hb) cf1 9 (b + 10) rfl (by decide) kf_X1_22 dX1_isLaid_42 ?_
        refine x_iconst E dX1_isLaid_45 ?_
        refine x_iald E hI hG (xd10 hX hb) (V (b + 10) 2) (by unfold drM; rw [st_p (by omega)]) (by omega) dX1_isLaid_46 ?_
        refine x_goto E 56 dX1_isLaid_47 (by decide) ?_
        exact L56_2 (V (b + 10) 2) (by rw [if_pos c38]) _ _ _ hG hS (lv_sub hl [] rfl)
    · exact L24_1  (Or.inr (by omega)) _ _ _ hG hS (lv_sub hl [] rfl)
