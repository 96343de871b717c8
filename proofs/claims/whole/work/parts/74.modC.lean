/-- the model's winds are those of V at b -/
def WR (U V : Mem) (b : Nat) : Prop := ∀ k : Int, 0 ≤ k → k < V (b + 11) 2 → U 9 k = V (b + 12) k ∧ U 10 k = V (b + 13) k
theorem WR.of {U V V1 : Mem} {b : Nat} (h : WR U V b) (h1 : V1 (b + 11) 2 = V (b + 11) 2) (h2 : V1 (b + 12) = V (b + 12)) (h3 : V1 (b + 13) = V (b + 13)) : WR U V1 b := by
  unfold WR at *; rw [h1, h2, h3]; exact h
theorem liftM_p {n b : Nat} {wd hi w : Int} {V : Mem} {p : Nat} (h0 : p ≠ b) (h1 : p ≠ b + 1) : liftM n wd hi b w V p = V p := by
  unfold liftM
  split
  · unfold flyM
    split
    · rw [loseM_p w h0, landR_p w _ _ _ h0, hput_p _ _ h1, lfM_p _ _ _ _ h0, drM_p h0]
    · rw [hput_p _ _ h1, landR_p w _ _ _ h0, hput_p _ _ h1, lfM_p _ _ _ _ h0, drM_p h0]
  · rw [lfM_p _ _ _ _ h0, drM_p h0]
theorem supM_p {n b : Nat} {wd hi : Int} {V : Mem} {p : Nat} (h0 : p ≠ b) (h1 : p ≠ b + 1) : supM n wd hi b V p = V p := by
  unfold supM; rw [hput_p _ _ h1, drM_p h0, st_p h0]
theorem itM_p {F : Mem → Mem} {p : Nat} (h : ∀ V, F V p = V p) : ∀ (k : Nat) (V : Mem), itM F k V p = V p
  | 0, _ => rfl
  | k + 1, V => by show F (itM F k V) p = V p; rw [h, itM_p h k V]
theorem itM_s {F : Mem → Mem} {i : Int} (h : 0 ≤ i) (V : Mem) : itM F (i + 1).toNat V = F (itM F i.toNat V) := by
  rw [show (i + 1).toNat = i.toNat + 1 by omega]; rfl
theorem dayA_p {n b : Nat} {wd hi : Int} {V : Mem} {p : Nat} (h0 : p ≠ b) (h1 : p ≠ b + 1) : dayA n wd hi b V p = V p := by
  unfold dayA; split
  · exact itM_p (fun V => supM_p h0 h1) _ V
  · rfl
theorem dayB_p {n b : Nat} {wd hi w : Int} {V : Mem} {p : Nat} (h0 : p ≠ b) (h1 : p ≠ b + 1) : dayB n wd hi b w V p = V p := by
  unfold dayB; split
  · rfl
  · exact itM_p (fun V => liftM_p h0 h1) _ V
theorem pdM_2 {w : Nat} {V : Mem} : pdM w V w 2 = V w 2 := by
  unfold pdM; split
  · rfl
  · split
    · rw [st_k (by decide)]
    · rw [st_k (by decide), st_k (by decide)]
theorem dayM_w {n b : Nat} {wd hi : Int} {V : Mem} : dayM n wd hi b V (b + 11) 2 = V (b + 11) 2 ∧ dayM n wd hi b V (b + 12) = V (b + 12) ∧ dayM n wd hi b V (b + 13) = V (b + 13) := by
  have key : ∀ p : Nat, b + 11 ≤ p → dayM n wd hi b V p = pdM (b + 11) (dayB n wd hi b (wnd (b + 11) V) (dayA n wd hi b V)) p := by
    intro p hp
    unfold dayM dayE dayC
    split
    · rw [seM_p (by omega) (by omega), reM_p (by omega), st_p (by omega)]
    · rw [reM_p (by omega), st_p (by omega)]
  refine ⟨?_, ?_, ?_⟩
  · rw [key _ (by omega), pdM_2, dayB_p (by omega) (by omega), dayA_p (by omega) (by omega)]
  · rw [key _ (by omega), pdM_p (by omega), dayB_p (by omega) (by omega), dayA_p (by omega) (by omega)]
  · rw [key _ (by omega), pdM_p (by omega), dayB_p (by omega) (by omega), dayA_p (by omega) (by omega)]
theorem WR.day {U V : Mem} {n b : Nat} {wd hi : Int} (h : WR U V b) : WR U (dayM n wd hi b V) b := h.of dayM_w.1 dayM_w.2.1 dayM_w.2.2
theorem WR.ps {U V : Mem} {n b : Nat} {wd hi : Int} (h : WR U V b) : ∀ k : Nat, WR U (psM n wd hi b k V) b
  | 0 => h
  | k + 1 => (WR.ps h k).day
theorem sup_mem (b : Nat) (V : Mem) (c v x : Int) : st (st (drM b V) (b + 1) c v) b 15 x = sp (drM b (st V b 15 x)) (b + 1) (ui (drM b (st V b 15 x) (b + 1)) c v) := by
  funext q j
  unfold drM st sp ui
  by_cases h : q = b + 1
  · subst h
    simp only [show ¬ (b + 1 = b) by omega, false_and, if_false, true_and, if_true]
  · rw [if_neg h]
    by_cases h2 : q = b
    · subst h2
      simp only [true_and, show ¬ (q = q + 1) by omega, false_and, if_false]
      by_cases h3 : j = 15
      · subst h3; simp
      · rw [if_neg h3, if_neg h3]
        simp
    · simp [h, h2]

set_option maxHeartbeats 4000000 in
set_option maxRecDepth 100000 in
theorem c_X8_grown (l : Launch) {X : We} (V : Mem) (d : Int) (hd : rg d) : Mt l X V yX8_grown cX8_grown 1 (some .int) 0 0 [.int (jI d)] (Qi X (fun z V1 => z = grw d ∧ V1 = V)) := by
  refine Mt.go (by decide) (Nat.le_of_ble_eq_true rfl) ?_
  intro pg ev s0 mi bl mt cd ls Rm ag Qq hR hQ E hI hG hS hl
  have hl : lv_has ls 1 [(0, .int (jI d))] := hl
  unfold rg at hd
  have L50_1 : ∀ (z : Int), (z = grw d) → ∀ (H : Heap) (locs : List Loc) (ls : Array Slot), GW X V H → va_S (wA X) s0.heap H locs → lv_has ls 1 [] → W pg l ev Rm s0 mi ag bl mt cd H locs 0 0 Qq (F0 mi 50 ls [.int (jI z)]) := by
    intro z hz H locs ls hG hS hl
    exact r_i E hQ hG hS dX8_grown_50 (⟨hz, rfl⟩)
  refine x_iload_n E dX8_grown_0 (lv_at hl 0 rfl) ?_
  refine x_bipush E dX8_grown_1 (by decide) ?_
  refine x_icmp_ge E 11 dX8_grown_3 (by decide) (by unfold rg; omega) (by unfold rg; omega) (fun c3 => ?_) (fun c3 => ?_)
  · refine x_iload_n E dX8_grown_11 (lv_at hl 0 rfl) ?_
    refine x_if_ge E 20 dX8_grown_12 (by decide) (by unfold rg; omega) (fun c12 => ?_) (fun c12 => ?_)
    · refine x_iload_n E dX8_grown_20 (lv_at hl 0 rfl) ?_
      refine x_if_ne E 28 dX8_grown_21 (by decide) (by unfold rg; omega) (fun c21 => ?_) (fun c21 => ?_)
      · refine x_iload_n E dX8_grown_28 (lv_at hl 0 rfl) ?_
        refine x_iconst E dX8_grown_29 ?_
        refine x_icmp_gt E 38 dX8_grown_30 (by decide) (by unfold rg; omega) (by unfold rg; omega) (fun c30 => ?_) (fun c30 => ?_)
        · refine x_iload_n E dX8_grown_38 (lv_at hl 0 rfl) ?_
          refine x_bipush E dX8_grown_39 (by decide) ?_
          refine x_icmp_gt E 48 dX8_grown_41 (by decide) (by unfold rg; omega) (by unfold rg; omega) (fun c41 => ?_) (fun c41 => ?_)
          · refine x_bipush E dX8_grown_48 (by decide) ?_
            exact L50_1 (-30) (by unfold grw; rw [if_neg (by omega), if_neg (by omega), if_neg (by omega), if_neg (by omega), if_neg (by omega)]) _ _ _ hG hS (lv_sub hl [] rfl)
          · refine x_iconst E dX8_grown_44 ?_
            refine x_goto E 50 dX8_grown_45 (by decide) ?_
            exact L50_1 2 (by unfold grw; rw [if_neg (by omega), if_neg (by omega), if_neg (by omega), if_neg (by omega), if_pos (by omega)]) _ _ _ hG hS (lv_sub hl [] rfl)
        · refine x_bipush E dX8_grown_33 (by decide) ?_
          refine x_goto E 50 dX8_grown_35 (by decide) ?_
          exact L50_1 6 (by unfold grw; rw [if_neg (by omega), if_neg (by omega), if_neg (by omega), if_pos (by omega)]) _ _ _ hG hS (lv_sub hl [] rfl)
      · refine x_iconst E dX8_grown_24 ?_
        refine x_goto E 50 dX8_grown_25 (by decide) ?_
        exact L50_1 1 (by unfold grw; rw [if_neg (by omega), if_neg (by omega), if_pos (by omega)]) _ _ _ hG hS (lv_sub hl [] rfl)
    · refine x_bipush E dX8_grown_15 (by decide) ?_
      refine x_goto E 50 dX8_grown_17 (by decide) ?_
      exact L50_1 (-5) (by unfold grw; rw [if_neg (by omega), if_pos (by omega)]) _ _ _ hG hS (lv_sub hl [] rfl)
  · refine x_bipush E dX8_grown_6 (by decide) ?_
    refine x_goto E 50 dX8_grown_8 (by decide) ?_
    exact L50_1 (-20) (by unfold grw; rw [if_pos (by omega)]) _ _ _ hG hS (lv_sub hl [] rfl)

set_option maxHeartbeats 4000000 in
set_option maxRecDepth 100000 in
theorem c_X8_season (l : Launch) {X : We} (hY : isY X) {n b : Nat} {wd hi : Int} (U : Mem) (hU : MU U n wd hi) (V : Mem) (f : Int → Int) (g : Int) (hf : bo f) (hb1 : 3 ≤ b) {t : Int} (hk : Mid V n wd hi b t) : Mt l X (pk V b U f g) yX8_season cX8_season 3 none 1 20 [.ref (wa X 0)] (Qv X (fun V1 => V1 = pk (seM n b V) b U f g)) := by
  refine Mt.go (by decide) (Nat.le_of_ble_eq_true rfl) ?_
  intro pg ev s0 mi bl mt cd ls Rm ag Qq hR hQ E hI hG hS hl
  have hl : lv_has ls 3 [(0, .ref (wa X 0))] := hl
  obtain ⟨⟨hs, hh, hz⟩, ⟨r2, r3, r4, r5, r6, r7, r8, r9, r10, r11⟩, hsk, hday⟩ := id hk
  have hd := hU.2.2.2
  have hbn : bnd n 0 9500 (V (b + 1)) := hh.ps hd |>.1
  obtain ⟨hn1, hn2⟩ := dims.n hd
  rw [show V = sp (sp V (b + 3) (seG V b 0)) (b + 2) (seL V b 0) by rw [seG_0, seL_0, sp_self V (b + 3), sp_self]] at hG
  refine x_iconst E dX8_season_0 ?_
  refine x_istore_n E [(1, .int (jI 0)), (0, .ref (wa X 0))] dX8_season_1 hl (by decide) rfl (fun ls hl => ?_)
  have L2_1 : ∀ (N : Nat) (i : Int), (0 ≤ i) → (i ≤ (n : Int)) → (((n : Int) - i).toNat) < N → ∀ (H : Heap) (locs : List Loc) (ls : Array Slot), GW X (pk (sp (sp V (b + 3) (seG V b i)) (b + 2) (seL V b i)) b U f g) H → va_S (wA X) s0.heap H locs → lv_has ls 3 [(0, .ref (wa X 0)), (1, .int (jI i))] → W pg l ev Rm s0 mi ag bl mt cd H locs 0 0 Qq (F0 mi 2 ls []) := by
    intro N
    induction N with
    | zero => intro i i0 i1 hN; exact absurd hN (Nat.not_lt_zero _)
    | succ N ih2 =>
      intro i i0 i1 hN H locs ls hG hS hl
      refine x_iload_n E dX8_season_2 (lv_at hl 1 rfl) ?_
      refine x_aload_n E dX8_season_3 (lv_at hl 0 rfl) ?_
      refine x_geti E hI hG (ym0 hY) cf8 2 ((n : Int)) rfl (by decide) (show (pk (sp (sp V (b + 3) (seG V b i)) (b + 2) (seL V b i)) b U f g) 0 2 = (n : Int) from hU.2.2.1) kf_X8_103 dX8_season_4 ?_
      refine x_icmp_ge E 94 dX8_season_7 (by decide) (by unfold rg; omega) (by unfold rg; omega) (fun c7 => ?_) (fun c7 => ?_)
      · exact r_v E hQ hG hS dX8_season_94 (by unfold seM; rw [show i = (n : Int) by omega]; rfl)
      · have q1 := r3 i i0 (by omega)
        have q2 := r2 i i0 (by omega)
        have q3 := hbn i i0 (by omega)
        have q4 := r5 i i0 (by omega)
        have q5 := grw_rg (V (b + 1) i - V (b + 2) i)
        have L76_2 : ∀ (H : Heap) (locs : List Loc) (ls : Array Slot), GW X (pk (sp (sp V (b + 3) (seG V b (i + 1))) (b + 2) (seL V b i)) b U f g) H → va_S (wA X) s0.heap H locs → lv_has ls 3 [(0, .ref (wa X 0)), (1, .int (jI i))] → W pg l ev Rm s0 mi ag bl mt cd H locs 0 0 Qq (F0 mi 76 ls []) := by
          intro   H locs ls hG hS hl
          refine x_aload_n E dX8_season_76 (lv_at hl 0 rfl) ?_
          refine x_getr E hI hG (ym0 hY) cf8 4 2 rfl (by decide) kf_X8_13 dX8_season_77 ?_
          refine x_iload_n E dX8_season_80 (lv_at hl 1 rfl) ?_
          refine x_aload_n E dX8_season_81 (lv_at hl 0 rfl) ?_
          refine x_getr E hI hG (ym0 hY) cf8 3 1 rfl (by decide) kf_X8_7 dX8_season_82 ?_
          refine x_iload_n E dX8_season_85 (lv_at hl 1 rfl) ?_
          refine x_iald E hI hG (ym1 hY) (V (b + 1) i) (congrFun (sp_3 V (p := b + 3) (q := b + 2) (r := b + 1) (by omega) (by omega) _ _) _) (by omega) dX8_season_86 ?_
          refine x_iast E hI hG hS (ym2 hY) (by omega) dX8_season_87 (fun H locs hG hS => ?_)
          rw [show (st (pk (sp (sp V (b + 3) (seG V b (i + 1))) (b + 2) (seL V b i)) b U f g) 2 i (V (b + 1) i)) = (pk (st (sp (sp V (b + 3) (seG V b (i + 1))) (b + 2) (seL V b i)) (b + 2) i (V (b + 1) i)) b U f g) from pk_h (by decide) _ _] at hG
          rw [show (pk (st (sp (sp V (b + 3) (seG V b (i + 1))) (b + 2) (seL V b i)) (b + 2) i (V (b + 1) i)) b U f g) = (pk (sp (sp V (b + 3) (seG V b (i + 1))) (b + 2) (seL V b (i + 1))) b U f g) from by rw [sp_st, seL_s i0]] at hG
          refine x_iinc E (k := 1) [(1, .int (jI (i + 1))), (0, .ref (wa X 0))] dX8_season_88 hl rfl (by decide) rfl (fun ls hl => ?_)
          refine x_goto E 2 dX8_season_91 (by decide) ?_
          exact ih2 (i + 1) (by omega) (by omega) (by omega) _ _ _ hG hS (lv_sub hl [1, 0] rfl)
        refine x_aload_n E dX8_season_10 (lv_at hl 0 rfl) ?_
        refine x_getr E hI hG (ym0 hY) cf8 5 3 rfl (by decide) kf_X8_16 dX8_season_11 ?_
        refine x_iload_n E dX8_season_14 (lv_at hl 1 rfl) ?_
        refine x_iald E hI hG (ym3 hY) (V (b + 3) i) (by show sp (sp V (b + 3) (seG V b i)) (b + 2) (seL V b i) (b + 3) i = _; rw [sp_ij V (by omega)]; exact seG_i) (by omega) dX8_season_15 ?_
        refine x_if_le E 76 dX8_season_16 (by decide) (by unfold rg; omega) (fun c16 => ?_) (fun c16 => ?_)
        · rw [seG_no (by omega)] at hG
          exact L76_2   _ _ _ hG hS (lv_sub hl [0, 1] rfl)
        · refine x_aload_n E dX8_season_19 (lv_at hl 0 rfl) ?_
          refine x_getr E hI hG (ym0 hY) cf8 5 3 rfl (by decide) kf_X8_16 dX8_season_20 ?_
          refine x_iload_n E dX8_season_23 (lv_at hl 1 rfl) ?_
          refine x_iald E hI hG (ym3 hY) (V (b + 3) i) (by show sp (sp V (b + 3) (seG V b i)) (b + 2) (seL V b i) (b + 3) i = _; rw [sp_ij V (by omega)]; exact seG_i) (by omega) dX8_season_24 ?_
          refine x_aload_n E dX8_season_25 (lv_at hl 0 rfl) ?_
          refine x_getr E hI hG (ym0 hY) cf8 3 1 rfl (by decide) kf_X8_7 dX8_season_26 ?_
          refine x_iload_n E dX8_season_29 (lv_at hl 1 rfl) ?_
          refine x_iald E hI hG (ym1 hY) (V (b + 1) i) (congrFun (sp_3 V (p := b + 3) (q := b + 2) (r := b + 1) (by omega) (by omega) _ _) _) (by omega) dX8_season_30 ?_
          refine x_aload_n E dX8_season_31 (lv_at hl 0 rfl) ?_
          refine x_getr E hI hG (ym0 hY) cf8 4 2 rfl (by decide) kf_X8_13 dX8_season_32 ?_
          refine x_iload_n E dX8_season_35 (lv_at hl 1 rfl) ?_
          refine x_iald E hI hG (ym2 hY) (V (b + 2) i) ((sp_sz _ _ _ _).trans seL_i) (by omega) dX8_season_36 ?_
          refine x_isub E dX8_season_37 ?_
          refine x_ci hG hS (x_runS E hI hG hS (c_X8_grown l (pk (sp (sp V (b + 3) (seG V b i)) (b + 2) (seL V b i)) b U f g) (V (b + 1) i - V (b + 2) i) (by unfold rg; omega)) mf_X8_grown km_X8_224 rfl hl rfl (Nat.le_of_ble_eq_true rfl) (by rw [hR]; exact ⟨Nat.le_of_ble_eq_true rfl, Nat.le_of_ble_eq_true rfl⟩) ⟨Nat.zero_le _, Nat.zero_le _⟩ dX8_season_38) (fun z1 V1 H locs hp hG hS => ?_)
          obtain ⟨ez, eV⟩ := hp
          rw [eV] at hG
          rw [ez]
          refine x_iadd E dX8_season_41 ?_
          refine x_aload_n E dX8_season_42 (lv_at hl 0 rfl) ?_
          refine x_getr E hI hG (ym0 hY) cf8 7 5 rfl (by decide) kf_X8_22 dX8_season_43 ?_
          refine x_iload_n E dX8_season_46 (lv_at hl 1 rfl) ?_
          refine x_iald E hI hG (ym5 hY) (V (b + 5) i) (congrFun (sp_3 V (p := b + 3) (q := b + 2) (r := b + 5) (by omega) (by omega) _ _) _) (by omega) dX8_season_47 ?_
          refine x_isub E dX8_season_48 ?_
          refine x_istore_n E [(2, .int (jI (((V (b + 3) i) + (grw (V (b + 1) i - V (b + 2) i))) - (V (b + 5) i)))), (0, .ref (wa X 0)), (1, .int (jI i))] dX8_season_49 hl (by decide) rfl (fun ls hl => ?_)
          have L75_3 : ∀ (z : Int), (z = seV V b i) → ∀ (H : Heap) (locs : List Loc) (ls : Array Slot), GW X (pk (sp (sp V (b + 3) (seG V b i)) (b + 2) (seL V b i)) b U f g) H → va_S (wA X) s0.heap H locs → lv_has ls 3 [(0, .ref (wa X 0)), (1, .int (jI i))] → W pg l ev Rm s0 mi ag bl mt cd H locs 0 0 Qq (F0 mi 75 ls [.int (jI z), .int (jI i), .ref (wa X 3)]) := by
            intro z hz1 H locs ls hG hS hl
            refine x_iast E hI hG hS (ym3 hY) (by omega) dX8_season_75 (fun H locs hG hS => ?_)
            rw [show (st (pk (sp (sp V (b + 3) (seG V b i)) (b + 2) (seL V b i)) b U f g) 3 i z) = (pk (st (sp (sp V (b + 3) (seG V b i)) (b + 2) (seL V b i)) (b + 3) i z) b U f g) from pk_h (by decide) _ _] at hG
            rw [show (pk (st (sp (sp V (b + 3) (seG V b i)) (b + 2) (seL V b i)) (b + 3) i z) b U f g) = (pk (sp (sp V (b + 3) (seG V b (i + 1))) (b + 2) (seL V b i)) b U f g) from by rw [st_in V (by omega), hz1, seG_yes i0 (by omega)]] at hG
            exact L76_2   _ _ _ hG hS (lv_sub hl [0, 1] rfl)
          refine x_aload_n E dX8_season_50 (lv_at hl 1 rfl) ?_
          refine x_getr E hI hG (ym0 hY) cf8 5 3 rfl (by decide) kf_X8_16 dX8_season_51 ?_
          refine x_iload_n E dX8_season_54 (lv_at hl 2 rfl) ?_
          refine x_iload_n E dX8_season_55 (lv_at hl 0 rfl) ?_
          refine x_if_ge E 63 dX8_season_56 (by decide) (by unfold rg; omega) (fun c56 => ?_) (fun c56 => ?_)
          · refine x_iload_n E dX8_season_63 (lv_at hl 0 rfl) ?_
            refine x_bipush E dX8_season_64 (by decide) ?_
            refine x_icmp_le E 74 dX8_season_66 (by decide) (by unfold rg; omega) (by unfold rg; omega) (fun c66 => ?_) (fun c66 => ?_)
            · refine x_iload_n E dX8_season_74 (lv_at hl 0 rfl) ?_
              exact L75_3 (V (b + 3) i + grw (V (b + 1) i - V (b + 2) i) - V (b + 5) i) (by unfold seV; omega) _ _ _ hG hS (lv_sub hl [1, 2] rfl)
            · refine x_bipush E dX8_season_69 (by decide) ?_
              refine x_goto E 75 dX8_season_71 (by decide) ?_
              exact L75_3 100 (by unfold seV; omega) _ _ _ hG hS (lv_sub hl [1, 2] rfl)
          · refine x_iconst E dX8_season_59 ?_
            refine x_goto E 75 dX8_season_60 (by decide) ?_
            exact L75_3 0 (by unfold seV; omega) _ _ _ hG hS (lv_sub hl [1, 2] rfl)
  exact L2_1 _ 0 (by omega) (by omega) (Nat.lt_succ_self _) _ _ _ hG hS (lv_sub hl [1, 0] rfl)

set_option maxHeartbeats 4000000 in
set_option maxRecDepth 100000 in
theorem c_X8_windNow (l : Launch) {X : We} (hY : isY X) {b : Nat} (U V : Mem) (f : Int → Int) (g : Int) (hsk : SK V (b + 11)) (hW : WR U V b) : Mt l X (pk V b U f g) yX8_windNow cX8_windNow 1 (some .int) 0 0 [.ref (wa X 0)] (Qi X (fun z V1 => z = wnd (b + 11) V ∧ V1 = pk V b U f g)) := by
  refine Mt.go (by decide) (Nat.le_of_ble_eq_true rfl) ?_
  intro pg ev s0 mi bl mt cd ls Rm ag Qq hR hQ E hI hG hS hl
  have hl : lv_has ls 1 [(0, .ref (wa X 0))] := hl
  obtain ⟨a1, a2, a3, a4⟩ := id hsk
  have L20_1 : ∀ (z : Int), (z = wnd (b + 11) V) → ∀ (H : Heap) (locs : List Loc) (ls : Array Slot), GW X (pk V b U f g) H → va_S (wA X) s0.heap H locs → lv_has ls 1 [] → W pg l ev Rm s0 mi ag bl mt cd H locs 0 0 Qq (F0 mi 20 ls [.int (jI z)]) := by
    intro z hz H locs ls hG hS hl
    exact r_i E hQ hG hS dX8_windNow_20 (⟨hz, rfl⟩)
  refine x_aload_n E dX8_windNow_0 (lv_at hl 0 rfl) ?_
  refine x_geti E hI hG (ym0 hY) cf8 16 (V (b + 11) 2) rfl (by decide) rfl kf_X8_133 dX8_windNow_1 ?_
  refine x_if_ne E 11 dX8_windNow_4 (by decide) (by unfold rg; omega) (fun c4 => ?_) (fun c4 => ?_)
  · refine x_aload_n E dX8_windNow_11 (lv_at hl 0 rfl) ?_
    refine x_getr E hI hG (ym0 hY) cf8 17 9 rfl (by decide) kf_X8_38 dX8_windNow_12 ?_
    refine x_aload_n E dX8_windNow_15 (lv_at hl 0 rfl) ?_
    refine x_geti E hI hG (ym0 hY) cf8 19 (V (b + 11) 3) rfl (by decide) rfl kf_X8_127 dX8_windNow_16 ?_
    refine x_iald E hI hG (ym9 hY) (V (b + 12) (V (b + 11) 3)) ((hW _ (by omega) (by omega)).1) (by omega) dX8_windNow_19 ?_
    exact L20_1 (V (b + 12) (V (b + 11) 3)) (by unfold wnd; rw [if_neg (by omega)]) _ _ _ hG hS (lv_sub hl [] rfl)
  · refine x_iconst E dX8_windNow_7 ?_
    refine x_goto E 20 dX8_windNow_8 (by decide) ?_
    exact L20_1 4 (by unfold wnd; rw [if_pos c4]) _ _ _ hG hS (lv_sub hl [] rfl)

set_option maxHeartbeats 4000000 in
set_option maxRecDepth 100000 in
theorem c_X8_windGoesOn (l : Launch) {X : We} (hY : isY X) {b : Nat} (U V : Mem) (f : Int → Int) (g : Int) (hsk : SK V (b + 11)) (hW : WR U V b) : Mt l X (pk V b U f g) yX8_windGoesOn cX8_windGoesOn 1 none 0 0 [.ref (wa X 0)] (Qv X (fun V1 => V1 = pk (pdM (b + 11) V) b U f g)) := by
  refine Mt.go (by decide) (Nat.le_of_ble_eq_true rfl) ?_
  intro pg ev s0 mi bl mt cd ls Rm ag Qq hR hQ E hI hG hS hl
  have hl : lv_has ls 1 [(0, .ref (wa X 0))] := hl
  obtain ⟨a1, a2, a3, a4⟩ := id hsk
  have L53_1 : ∀ (Y : Mem), (Y = pdM (b + 11) V) → ∀ (H : Heap) (locs : List Loc) (ls : Array Slot), GW X (pk Y b U f g) H → va_S (wA X) s0.heap H locs → lv_has ls 1 [] → W pg l ev Rm s0 mi ag bl mt cd H locs 0 0 Qq (F0 mi 53 ls []) := by
    intro Y hu H locs ls hG hS hl
    exact r_v E hQ hG hS dX8_windGoesOn_53 (by rw [hu])
  refine x_aload_n E dX8_windGoesOn_0 (lv_at hl 0 rfl) ?_
  refine x_geti E hI hG (ym0 hY) cf8 16 (V (b + 11) 2) rfl (by decide) rfl kf_X8_133 dX8_windGoesOn_1 ?_
  refine x_if_le E 53 dX8_windGoesOn_4 (by decide) (by unfold rg; omega) (fun c4 => ?_) (fun c4 => ?_)
  · exact L53_1 V (by unfold pdM; rw [if_pos (by omega)]) _ _ _ hG hS (lv_sub hl [] rfl)
  · have q0 : V (b + 11) 2 ≠ 0 := by omega
    have hk4 := a4 (V (b + 11) 3) (by omega) (by omega)
    have hk5 : V (b + 11) 4 < V (b + 13) (V (b + 11) 3) := by
      rcases a3 with z | z
      · omega
      · exact z.2.2.2
    have hk6 : V (b + 13) (V (b + 11) 3) ≤ 60 := hk4.2.2
    refine x_aload_n E dX8_windGoesOn_7 (lv_at hl 0 rfl) ?_
    refine x_dup E dX8_windGoesOn_8 rfl ?_
    refine x_geti E hI hG (ym0 hY) cf8 20 (V (b + 11) 4) rfl (by decide) rfl kf_X8_130 dX8_windGoesOn_9 ?_
    refine x_iconst E dX8_windGoesOn_12 ?_
    refine x_iadd E dX8_windGoesOn_13 ?_
    refine x_puti E hI hG hS (ym0 hY) cf8 20 20 rfl rfl (by decide) rfl rfl kf_X8_130 dX8_windGoesOn_14 (fun H locs hG hS => ?_)
    rw [show (st (pk V b U f g) 0 20 ((V (b + 11) 4) + 1)) = (pk (st V (b + 11) 4 ((V (b + 11) 4) + 1)) b U f g) from pk_w4 _] at hG
    refine x_aload_n E dX8_windGoesOn_17 (lv_at hl 0 rfl) ?_
    refine x_geti E hI hG (ym0 hY) cf8 20 (V (b + 11) 4 + 1) rfl (by decide) (show (pk (st V (b + 11) 4 ((V (b + 11) 4) + 1)) b U f g) 0 20 = V (b + 11) 4 + 1 from (st_s _ _ _ _)) kf_X8_130 dX8_windGoesOn_18 ?_
    refine x_aload_n E dX8_windGoesOn_21 (lv_at hl 0 rfl) ?_
    refine x_getr E hI hG (ym0 hY) cf8 18 10 rfl (by decide) kf_X8_41 dX8_windGoesOn_22 ?_
    refine x_aload_n E dX8_windGoesOn_25 (lv_at hl 0 rfl) ?_
    refine x_geti E hI hG (ym0 hY) cf8 19 (V (b + 11) 3) rfl (by decide) (show (pk (st V (b + 11) 4 ((V (b + 11) 4) + 1)) b U f g) 0 19 = V (b + 11) 3 from (st_k (by decide))) kf_X8_127 dX8_windGoesOn_26 ?_
    refine x_iald E hI hG (ym10 hY) (V (b + 13) (V (b + 11) 3)) ((hW _ (by omega) (by omega)).2) (by omega) dX8_windGoesOn_29 ?_
    refine x_icmp_ne E 53 dX8_windGoesOn_30 (by decide) (by unfold rg; omega) (by unfold rg; omega) (fun c30 => ?_) (fun c30 => ?_)
    · exact L53_1 (st V (b + 11) 4 (V (b + 11) 4 + 1)) (by unfold pdM; rw [if_neg q0, if_pos (show V (b + 11) 4 + 1 < V (b + 13) (V (b + 11) 3) by omega)]) _ _ _ hG hS (lv_sub hl [] rfl)
    · refine x_aload_n E dX8_windGoesOn_33 (lv_at hl 0 rfl) ?_
      refine x_iconst E dX8_windGoesOn_34 ?_
      refine x_puti E hI hG hS (ym0 hY) cf8 20 20 rfl rfl (by decide) rfl rfl kf_X8_130 dX8_windGoesOn_35 (fun H locs hG hS => ?_)
      rw [show (st (pk (st V (b + 11) 4 ((V (b + 11) 4) + 1)) b U f g) 0 20 0) = (pk (st (st V (b + 11) 4 ((V (b + 11) 4) + 1)) (b + 11) 4 0) b U f g) from pk_w4 _] at hG
      rw [show (pk (st (st V (b + 11) 4 ((V (b + 11) 4) + 1)) (b + 11) 4 0) b U f g) = (pk (st V (b + 11) 4 0) b U f g) from by rw [st_sp, st_sp, sp_s, sp_sp, ui_ui, st_sp]] at hG
      refine x_aload_n E dX8_windGoesOn_38 (lv_at hl 0 rfl) ?_
      refine x_aload_n E dX8_windGoesOn_39 (lv_at hl 0 rfl) ?_
      refine x_geti E hI hG (ym0 hY) cf8 19 (V (b + 11) 3) rfl (by decide) (show (pk (st V (b + 11) 4 0) b U f g) 0 19 = V (b + 11) 3 from (st_k (by decide))) kf_X8_127 dX8_windGoesOn_40 ?_
      refine x_iconst E dX8_windGoesOn_43 ?_
      refine x_iadd E dX8_windGoesOn_44 ?_
      refine x_aload_n E dX8_windGoesOn_45 (lv_at hl 0 rfl) ?_
      refine x_geti E hI hG (ym0 hY) cf8 16 (V (b + 11) 2) rfl (by decide) (show (pk (st V (b + 11) 4 0) b U f g) 0 16 = V (b + 11) 2 from (st_k (by decide))) kf_X8_133 dX8_windGoesOn_46 ?_
      refine x_irem E (by omega) (by omega) dX8_windGoesOn_49 ?_
      refine x_puti E hI hG hS (ym0 hY) cf8 19 19 rfl rfl (by decide) rfl rfl kf_X8_127 dX8_windGoesOn_50 (fun H locs hG hS => ?_)
      rw [show (st (pk (st V (b + 11) 4 0) b U f g) 0 19 (((V (b + 11) 3) + 1) % (V (b + 11) 2))) = (pk (st (st V (b + 11) 4 0) (b + 11) 3 (((V (b + 11) 3) + 1) % (V (b + 11) 2))) b U f g) from pk_w3 _] at hG
      exact L53_1 (st (st V (b + 11) 4 0) (b + 11) 3 ((V (b + 11) 3 + 1) % V (b + 11) 2)) (by
              unfold pdM
              rw [if_neg q0, if_neg (show ¬ V (b + 11) 4 + 1 < V (b + 13) (V (b + 11) 3) by omega)]
              congr 1
              split
              · rw [Int.emod_eq_of_lt (by omega) (by omega)]
              · rw [show V (b + 11) 3 + 1 = V (b + 11) 2 by omega, Int.emod_self]) _ _ _ hG hS (lv_sub hl [] rfl)

set_option maxHeartbeats 4000000 in
set_option maxRecDepth 100000 in
theorem c_X8_goes (l : Launch) {X : We} (hY : isY X) {n b : Nat} {wd hi : Int} (U : Mem) (hU : MU U n wd hi) (V : Mem) (f : Int → Int) (g : Int) (hf : bo f) (hb1 : 3 ≤ b) (hv : Inv V n wd hi b) (hday2 : V b 12 < 3000) (hW : WR U V b) : Mt l X (pk V b U f g) yX8_goes cX8_goes 4 none 5 117 [.ref (wa X 0)] (Qv X (fun V1 => ∃ f1 g1, V1 = pk (dayM n wd hi b V) b U f1 g1 ∧ bo f1)) := by
  refine Mt.go (by decide) (Nat.le_of_ble_eq_true rfl) ?_
  intro pg ev s0 mi bl mt cd ls Rm ag Qq hR hQ E hI hG hS hl
  have hl : lv_has ls 4 [(0, .ref (wa X 0))] := hl
  have hk := hv.mid
  obtain ⟨⟨hs, hh, hz⟩, ⟨r2, r3, r4, r5, r6, r7, r8, r9, r10, r11⟩, hsk, hday⟩ := id hk
  have hd := hU.2.2.2
  have hbn : bnd n 0 9500 (V (b + 1)) := hh.ps hd |>.1
  obtain ⟨hn1, hn2⟩ := dims.n hd
  refine x_aload_n E dX8_goes_0 (lv_at hl 0 rfl) ?_
  refine x_ci hG hS (x_runV E hI hG hS (ym0 hY) cf8 rfl (c_X8_windNow l hY U V f g hsk hW) mf_X8_windNow km_X8_227 rfl hl rfl (Nat.le_of_ble_eq_true rfl) (by rw [hR]; exact ⟨Nat.le_of_ble_eq_true rfl, Nat.le_of_ble_eq_true rfl⟩) ⟨Nat.zero_le _, Nat.zero_le _⟩ dX8_goes_1) (fun w V1 H locs hp hG hS => ?_)
  obtain ⟨ew, eV⟩ := hp
  rw [eV] at hG
  refine x_istore_n E [(1, .int (jI w)), (0, .ref (wa X 0))] dX8_goes_4 hl (by decide) rfl (fun ls hl => ?_)
  have hwr := SK.w hsk
  rw [← ew] at hwr
  obtain hA := Mid.A hb1 hv hday2
  have L66_1 : ∀ (f2 : Int → Int) (g2 : Int), (bo f2) → ∀ (H : Heap) (locs : List Loc) (ls : Array Slot), GW X (pk (dayA n wd hi b V) b U f2 g2) H → va_S (wA X) s0.heap H locs → lv_has ls 4 [(0, .ref (wa X 0)), (1, .int (jI w))] → W pg l ev Rm s0 mi ag bl mt cd H locs 0 0 Qq (F0 mi 66 ls []) := by
    intro f2 g2 hf2 H locs ls hG hS hl
    have L92_2 : ∀ (f3 : Int → Int) (g3 : Int), (bo f3) → ∀ (H : Heap) (locs : List Loc) (ls : Array Slot), GW X (pk (dayB n wd hi b w (dayA n wd hi b V)) b U f3 g3) H → va_S (wA X) s0.heap H locs → lv_has ls 4 [(0, .ref (wa X 0))] → W pg l ev Rm s0 mi ag bl mt cd H locs 0 0 Qq (F0 mi 92 ls []) := by
      intro f3 g3 hf3 H locs ls hG hS hl
      have hB := hA.1.B hb1 w
      have hWB : WR U (dayB n wd hi b w (dayA n wd hi b V)) b := hW.of (by rw [dayB_p (by omega) (by omega), dayA_p (by omega) (by omega)]) (by rw [dayB_p (by omega) (by omega), dayA_p (by omega) (by omega)]) (by rw [dayB_p (by omega) (by omega), dayA_p (by omega) (by omega)])
      refine x_aload_n E dX8_goes_92 (lv_at hl 0 rfl) ?_
      refine x_cv hG hS (x_runV E hI hG hS (ym0 hY) cf8 rfl (c_X8_windGoesOn l hY U (dayB n wd hi b w (dayA n wd hi b V)) f3 g3 hB.1.2.2.1 hWB) mf_X8_windGoesOn km_X8_234 rfl hl rfl (Nat.le_of_ble_eq_true rfl) (by rw [hR]; exact ⟨Nat.le_of_ble_eq_true rfl, Nat.le_of_ble_eq_true rfl⟩) ⟨Nat.zero_le _, Nat.zero_le _⟩ dX8_goes_93) (fun V1 H locs hp hG hS => ?_)
      have eV := hp
      rw [eV] at hG
      refine x_aload_n E dX8_goes_96 (lv_at hl 0 rfl) ?_
      refine x_dup E dX8_goes_97 rfl ?_
      refine x_geti E hI hG (ym0 hY) cf8 12 ((pdM (b + 11) (dayB n wd hi b w (dayA n wd hi b V))) b 12) rfl (by decide) rfl kf_X8_115 dX8_goes_98 ?_
      refine x_iconst E dX8_goes_101 ?_
      refine x_iadd E dX8_goes_102 ?_
      refine x_puti E hI hG hS (ym0 hY) cf8 12 12 rfl rfl (by decide) rfl rfl kf_X8_115 dX8_goes_103 (fun H locs hG hS => ?_)
      rw [show (st (pk (pdM (b + 11) (dayB n wd hi b w (dayA n wd hi b V))) b U f3 g3) 0 12 (((pdM (b + 11) (dayB n wd hi b w (dayA n wd hi b V))) b 12) + 1)) = (pk (st (pdM (b + 11) (dayB n wd hi b w (dayA n wd hi b V))) b 12 (((pdM (b + 11) (dayB n wd hi b w (dayA n wd hi b V))) b 12) + 1)) b U f3 g3) from pk_n (by decide) _ _] at hG
      have e12 : (pdM (b + 11) (dayB n wd hi b w (dayA n wd hi b V))) b 12 = V b 12 := by rw [pdM_p (by omega), hB.2, hA.2]
      have hD := (hB.1.pd hb1).day hb1 (d := (pdM (b + 11) (dayB n wd hi b w (dayA n wd hi b V))) b 12 + 1) (by rw [e12]; omega) (by rw [e12]; omega)
      obtain ⟨⟨-, dh, -⟩, ⟨-, -, -, -, d6, d7, -⟩, -, -⟩ := id hD
      have dbn := (dh.ps hd).1
      rw [show (st (pdM (b + 11) (dayB n wd hi b w (dayA n wd hi b V))) b 12 ((pdM (b + 11) (dayB n wd hi b w (dayA n wd hi b V))) b 12 + 1)) = sp (st (pdM (b + 11) (dayB n wd hi b w (dayA n wd hi b V))) b 12 ((pdM (b + 11) (dayB n wd hi b w (dayA n wd hi b V))) b 12 + 1)) (b + 7) (reF (st (pdM (b + 11) (dayB n wd hi b w (dayA n wd hi b V))) b 12 ((pdM (b + 11) (dayB n wd hi b w (dayA n wd hi b V))) b 12 + 1)) b 0) by rw [reF_0, sp_self]] at hG
      refine x_iconst E dX8_goes_106 ?_
      refine x_istore_n E [(2, .int (jI 0)), (0, .ref (wa X 0))] dX8_goes_107 hl (by decide) rfl (fun ls hl => ?_)
      have L108_3 : ∀ (N : Nat) (i : Int), (0 ≤ i) → (i ≤ (n : Int)) → (((n : Int) - i).toNat) < N → ∀ (H : Heap) (locs : List Loc) (ls : Array Slot), GW X (pk (sp (st (pdM (b + 11) (dayB n wd hi b w (dayA n wd hi b V))) b 12 ((pdM (b + 11) (dayB n wd hi b w (dayA n wd hi b V))) b 12 + 1)) (b + 7) (reF (st (pdM (b + 11) (dayB n wd hi b w (dayA n wd hi b V))) b 12 ((pdM (b + 11) (dayB n wd hi b w (dayA n wd hi b V))) b 12 + 1)) b i)) b U f3 g3) H → va_S (wA X) s0.heap H locs → lv_has ls 4 [(0, .ref (wa X 0)), (2, .int (jI i))] → W pg l ev Rm s0 mi ag bl mt cd H locs 0 0 Qq (F0 mi 108 ls []) := by
        intro N
        induction N with
        | zero => intro i i0 i1 hN; exact absurd hN (Nat.not_lt_zero _)
        | succ N ih108 =>
          intro i i0 i1 hN H locs ls hG hS hl
          refine x_iload_n E dX8_goes_108 (lv_at hl 1 rfl) ?_
          refine x_aload_n E dX8_goes_109 (lv_at hl 0 rfl) ?_
          refine x_geti E hI hG (ym0 hY) cf8 2 ((n : Int)) rfl (by decide) (show (pk (sp (st (pdM (b + 11) (dayB n wd hi b w (dayA n wd hi b V))) b 12 ((pdM (b + 11) (dayB n wd hi b w (dayA n wd hi b V))) b 12 + 1)) (b + 7) (reF (st (pdM (b + 11) (dayB n wd hi b w (dayA n wd hi b V))) b 12 ((pdM (b + 11) (dayB n wd hi b w (dayA n wd hi b V))) b 12 + 1)) b i)) b U f3 g3) 0 2 = (n : Int) from hU.2.2.1) kf_X8_103 dX8_goes_110 ?_
          refine x_icmp_ge E 174 dX8_goes_113 (by decide) (by unfold rg; omega) (by unfold rg; omega) (fun c113 => ?_) (fun c113 => ?_)
          · have eC : sp (st (pdM (b + 11) (dayB n wd hi b w (dayA n wd hi b V))) b 12 ((pdM (b + 11) (dayB n wd hi b w (dayA n wd hi b V))) b 12 + 1)) (b + 7) (reF (st (pdM (b + 11) (dayB n wd hi b w (dayA n wd hi b V))) b 12 ((pdM (b + 11) (dayB n wd hi b w (dayA n wd hi b V))) b 12 + 1)) b i) = dayC n b (dayB n wd hi b w (dayA n wd hi b V)) := by rw [show i = (n : Int) by omega]; rfl
            rw [eC] at hG
            have hC := hB.1.C hb1 (by rw [hB.2, hA.2]; exact hday2)
            have hCd := hC.1.2.2.2
            refine x_aload_n E dX8_goes_174 (lv_at hl 0 rfl) ?_
            refine x_geti E hI hG (ym0 hY) cf8 12 ((dayC n b (dayB n wd hi b w (dayA n wd hi b V))) b 12) rfl (by decide) rfl kf_X8_115 dX8_goes_175 ?_
            refine x_bipush E dX8_goes_178 (by decide) ?_
            refine x_irem E (by omega) (by omega) dX8_goes_180 ?_
            refine x_if_ne E 188 dX8_goes_181 (by decide) (by unfold rg; omega) (fun c181 => ?_) (fun c181 => ?_)
            · exact r_v E hQ hG hS dX8_goes_188 (⟨f3, g3, by unfold dayM; rw [← ew]; unfold dayE; rw [if_neg c181], hf3⟩)
            · refine x_aload_n E dX8_goes_184 (lv_at hl 0 rfl) ?_
              refine x_cv hG hS (x_runV E hI hG hS (ym0 hY) cf8 rfl (c_X8_season l hY U hU (dayC n b (dayB n wd hi b w (dayA n wd hi b V))) f3 g3 hf3 hb1 hC.1) mf_X8_season km_X8_237 rfl hl rfl (Nat.le_of_ble_eq_true rfl) (by rw [hR]; exact ⟨Nat.le_of_ble_eq_true rfl, Nat.le_of_ble_eq_true rfl⟩) ⟨Nat.zero_le _, Nat.zero_le _⟩ dX8_goes_185) (fun V1 H locs hp hG hS => ?_)
              have eV := hp
              rw [eV] at hG
              exact r_v E hQ hG hS dX8_goes_188 (⟨f3, g3, by unfold dayM; rw [← ew]; unfold dayE; rw [if_pos c181], hf3⟩)
          · have q1 := d6 i i0 (by omega)
            have q2 := d7 i i0 (by omega)
            have q3 := dbn i i0 (by omega)
            have L167_4 : ∀ (z : Int), (ui (reF (st (pdM (b + 11) (dayB n wd hi b w (dayA n wd hi b V))) b 12 ((pdM (b + 11) (dayB n wd hi b w (dayA n wd hi b V))) b 12 + 1)) b i) i z = reF (st (pdM (b + 11) (dayB n wd hi b w (dayA n wd hi b V))) b 12 ((pdM (b + 11) (dayB n wd hi b w (dayA n wd hi b V))) b 12 + 1)) b (i + 1)) → ∀ (H : Heap) (locs : List Loc) (ls : Array Slot), GW X (pk (sp (st (pdM (b + 11) (dayB n wd hi b w (dayA n wd hi b V))) b 12 ((pdM (b + 11) (dayB n wd hi b w (dayA n wd hi b V))) b 12 + 1)) (b + 7) (reF (st (pdM (b + 11) (dayB n wd hi b w (dayA n wd hi b V))) b 12 ((pdM (b + 11) (dayB n wd hi b w (dayA n wd hi b V))) b 12 + 1)) b i)) b U f3 g3) H → va_S (wA X) s0.heap H locs → lv_has ls 4 [(0, .ref (wa X 0)), (2, .int (jI i))] → W pg l ev Rm s0 mi ag bl mt cd H locs 0 0 Qq (F0 mi 167 ls [.int (jI z), .int (jI i), .ref (wa X 7)]) := by
              intro z hz1 H locs ls hG hS hl
              refine x_iast E hI hG hS (ym7 hY) (by omega) dX8_goes_167 (fun H locs hG hS => ?_)
              rw [show (st (pk (sp (st (pdM (b + 11) (dayB n wd hi b w (dayA n wd hi b V))) b 12 ((pdM (b + 11) (dayB n wd hi b w (dayA n wd hi b V))) b 12 + 1)) (b + 7) (reF (st (pdM (b + 11) (dayB n wd hi b w (dayA n wd hi b V))) b 12 ((pdM (b + 11) (dayB n wd hi b w (dayA n wd hi b V))) b 12 + 1)) b i)) b U f3 g3) 7 i z) = (pk (st (sp (st (pdM (b + 11) (dayB n wd hi b w (dayA n wd hi b V))) b 12 ((pdM (b + 11) (dayB n wd hi b w (dayA n wd hi b V))) b 12 + 1)) (b + 7) (reF (st (pdM (b + 11) (dayB n wd hi b w (dayA n wd hi b V))) b 12 ((pdM (b + 11) (dayB n wd hi b w (dayA n wd hi b V))) b 12 + 1)) b i)) (b + 7) i z) b U f3 g3) from pk_h (by decide) _ _] at hG
              rw [show (pk (st (sp (st (pdM (b + 11) (dayB n wd hi b w (dayA n wd hi b V))) b 12 ((pdM (b + 11) (dayB n wd hi b w (dayA n wd hi b V))) b 12 + 1)) (b + 7) (reF (st (pdM (b + 11) (dayB n wd hi b w (dayA n wd hi b V))) b 12 ((pdM (b + 11) (dayB n wd hi b w (dayA n wd hi b V))) b 12 + 1)) b i)) (b + 7) i z) b U f3 g3) = (pk (sp (st (pdM (b + 11) (dayB n wd hi b w (dayA n wd hi b V))) b 12 ((pdM (b + 11) (dayB n wd hi b w (dayA n wd hi b V))) b 12 + 1)) (b + 7) (reF (st (pdM (b + 11) (dayB n wd hi b w (dayA n wd hi b V))) b 12 ((pdM (b + 11) (dayB n wd hi b w (dayA n wd hi b V))) b 12 + 1)) b (i + 1))) b U f3 g3) from by rw [sp_st, hz1]] at hG
              refine x_iinc E (k := 1) [(2, .int (jI (i + 1))), (0, .ref (wa X 0))] dX8_goes_168 hl rfl (by decide) rfl (fun ls hl => ?_)
              refine x_goto E 108 dX8_goes_171 (by decide) ?_
              exact ih108 (i + 1) (by omega) (by omega) (by omega) _ _ _ hG hS (lv_sub hl [1, 0] rfl)
            have L161_5 : (¬ (0 < (st (pdM (b + 11) (dayB n wd hi b w (dayA n wd hi b V))) b 12 ((pdM (b + 11) (dayB n wd hi b w (dayA n wd hi b V))) b 12 + 1)) (b + 6) i ∧ (st (pdM (b + 11) (dayB n wd hi b w (dayA n wd hi b V))) b 12 ((pdM (b + 11) (dayB n wd hi b w (dayA n wd hi b V))) b 12 + 1)) (b + 7) i = -1 ∧ (st (pdM (b + 11) (dayB n wd hi b w (dayA n wd hi b V))) b 12 ((pdM (b + 11) (dayB n wd hi b w (dayA n wd hi b V))) b 12 + 1)) (b + 6) i ≤ (st (pdM (b + 11) (dayB n wd hi b w (dayA n wd hi b V))) b 12 ((pdM (b + 11) (dayB n wd hi b w (dayA n wd hi b V))) b 12 + 1)) (b + 1) i)) → ∀ (H : Heap) (locs : List Loc) (ls : Array Slot), GW X (pk (sp (st (pdM (b + 11) (dayB n wd hi b w (dayA n wd hi b V))) b 12 ((pdM (b + 11) (dayB n wd hi b w (dayA n wd hi b V))) b 12 + 1)) (b + 7) (reF (st (pdM (b + 11) (dayB n wd hi b w (dayA n wd hi b V))) b 12 ((pdM (b + 11) (dayB n wd hi b w (dayA n wd hi b V))) b 12 + 1)) b i)) b U f3 g3) H → va_S (wA X) s0.heap H locs → lv_has ls 4 [(0, .ref (wa X 0)), (2, .int (jI i))] → W pg l ev Rm s0 mi ag bl mt cd H locs 0 0 Qq (F0 mi 161 ls [.int (jI i), .ref (wa X 7)]) := by
              intro  hy H locs ls hG hS hl
              refine x_aload_n E dX8_goes_161 (lv_at hl 0 rfl) ?_
              refine x_getr E hI hG (ym0 hY) cf8 9 7 rfl (by decide) kf_X8_28 dX8_goes_162 ?_
              refine x_iload_n E dX8_goes_165 (lv_at hl 1 rfl) ?_
              refine x_iald E hI hG (ym7 hY) ((st (pdM (b + 11) (dayB n wd hi b w (dayA n wd hi b V))) b 12 ((pdM (b + 11) (dayB n wd hi b w (dayA n wd hi b V))) b 12 + 1)) (b + 7) i) ((sp_sz _ _ _ _).trans reF_i) (by omega) dX8_goes_166 ?_
              exact L167_4 ((st (pdM (b + 11) (dayB n wd hi b w (dayA n wd hi b V))) b 12 ((pdM (b + 11) (dayB n wd hi b w (dayA n wd hi b V))) b 12 + 1)) (b + 7) i) (by rw [← reF_no hy]; have := ui_self (reF (st (pdM (b + 11) (dayB n wd hi b w (dayA n wd hi b V))) b 12 ((pdM (b + 11) (dayB n wd hi b w (dayA n wd hi b V))) b 12 + 1)) b i) i; rw [reF_i] at this; exact this) _ _ _ hG hS (lv_sub hl [0, 1] rfl)
            refine x_aload_n E dX8_goes_116 (lv_at hl 0 rfl) ?_
            refine x_getr E hI hG (ym0 hY) cf8 9 7 rfl (by decide) kf_X8_28 dX8_goes_117 ?_
            refine x_iload_n E dX8_goes_120 (lv_at hl 1 rfl) ?_
            refine x_aload_n E dX8_goes_121 (lv_at hl 0 rfl) ?_
            refine x_getr E hI hG (ym0 hY) cf8 8 6 rfl (by decide) kf_X8_25 dX8_goes_122 ?_
            refine x_iload_n E dX8_goes_125 (lv_at hl 1 rfl) ?_
            refine x_iald E hI hG (ym6 hY) ((st (pdM (b + 11) (dayB n wd hi b w (dayA n wd hi b V))) b 12 ((pdM (b + 11) (dayB n wd hi b w (dayA n wd hi b V))) b 12 + 1)) (b + 6) i) (congrFun (sp_n (by omega)) _) (by omega) dX8_goes_126 ?_
            refine x_if_le E 161 dX8_goes_127 (by decide) (by unfold rg; omega) (fun c127 => ?_) (fun c127 => ?_)
            · exact L161_5  (by omega) _ _ _ hG hS (lv_sub hl [0, 1] rfl)
            · refine x_aload_n E dX8_goes_130 (lv_at hl 0 rfl) ?_
              refine x_getr E hI hG (ym0 hY) cf8 3 1 rfl (by decide) kf_X8_7 dX8_goes_131 ?_
              refine x_iload_n E dX8_goes_134 (lv_at hl 1 rfl) ?_
              refine x_iald E hI hG (ym1 hY) ((st (pdM (b + 11) (dayB n wd hi b w (dayA n wd hi b V))) b 12 ((pdM (b + 11) (dayB n wd hi b w (dayA n wd hi b V))) b 12 + 1)) (b + 1) i) (congrFun (sp_n (by omega)) _) (by omega) dX8_goes_135 ?_
              refine x_aload_n E dX8_goes_136 (lv_at hl 0 rfl) ?_
              refine x_getr E hI hG (ym0 hY) cf8 8 6 rfl (by decide) kf_X8_25 dX8_goes_137 ?_
              refine x_iload_n E dX8_goes_140 (lv_at hl 1 rfl) ?_
              refine x_iald E hI hG (ym6 hY) ((st (pdM (b + 11) (dayB n wd hi b w (dayA n wd hi b V))) b 12 ((pdM (b + 11) (dayB n wd hi b w (dayA n wd hi b V))) b 12 + 1)) (b + 6) i) (congrFun (sp_n (by omega)) _) (by omega) dX8_goes_141 ?_
              refine x_icmp_lt E 161 dX8_goes_142 (by decide) (by unfold rg; omega) (by unfold rg; omega) (fun c142 => ?_) (fun c142 => ?_)
              · exact L161_5  (by omega) _ _ _ hG hS (lv_sub hl [0, 1] rfl)
              · refine x_aload_n E dX8_goes_145 (lv_at hl 0 rfl) ?_
                refine x_getr E hI hG (ym0 hY) cf8 9 7 rfl (by decide) kf_X8_28 dX8_goes_146 ?_
                refine x_iload_n E dX8_goes_149 (lv_at hl 1 rfl) ?_
                refine x_iald E hI hG (ym7 hY) ((st (pdM (b + 11) (dayB n wd hi b w (dayA n wd hi b V))) b 12 ((pdM (b + 11) (dayB n wd hi b w (dayA n wd hi b V))) b 12 + 1)) (b + 7) i) ((sp_sz _ _ _ _).trans reF_i) (by omega) dX8_goes_150 ?_
                refine x_if_ge E 161 dX8_goes_151 (by decide) (by unfold rg; omega) (fun c151 => ?_) (fun c151 => ?_)
                · exact L161_5  (by omega) _ _ _ hG hS (lv_sub hl [0, 1] rfl)
                · refine x_aload_n E dX8_goes_154 (lv_at hl 0 rfl) ?_
                  refine x_geti E hI hG (ym0 hY) cf8 12 ((st (pdM (b + 11) (dayB n wd hi b w (dayA n wd hi b V))) b 12 ((pdM (b + 11) (dayB n wd hi b w (dayA n wd hi b V))) b 12 + 1)) b 12) rfl (by decide) (show (pk (sp (st (pdM (b + 11) (dayB n wd hi b w (dayA n wd hi b V))) b 12 ((pdM (b + 11) (dayB n wd hi b w (dayA n wd hi b V))) b 12 + 1)) (b + 7) (reF (st (pdM (b + 11) (dayB n wd hi b w (dayA n wd hi b V))) b 12 ((pdM (b + 11) (dayB n wd hi b w (dayA n wd hi b V))) b 12 + 1)) b i)) b U f3 g3) 0 12 = (st (pdM (b + 11) (dayB n wd hi b w (dayA n wd hi b V))) b 12 ((pdM (b + 11) (dayB n wd hi b w (dayA n wd hi b V))) b 12 + 1)) b 12 from (congrFun (sp_n (by omega)) _)) kf_X8_115 dX8_goes_155 ?_
                  refine x_goto E 167 dX8_goes_158 (by decide) ?_
                  exact L167_4 ((st (pdM (b + 11) (dayB n wd hi b w (dayA n wd hi b V))) b 12 ((pdM (b + 11) (dayB n wd hi b w (dayA n wd hi b V))) b 12 + 1)) b 12) (reF_yes i0 (by omega)) _ _ _ hG hS (lv_sub hl [0, 1] rfl)
      exact L108_3 _ 0 (by omega) (by omega) (Nat.lt_succ_self _) _ _ _ hG hS (lv_sub hl [1, 0] rfl)
    refine x_iconst E dX8_goes_66 ?_
    refine x_istore_n E [(2, .int (jI 0)), (0, .ref (wa X 0)), (1, .int (jI w))] dX8_goes_67 hl (by decide) rfl (fun ls hl => ?_)
    have L68_6 : ∀ (N : Nat) (i : Int) (Y : Mem) (f1 : Int → Int) (g1 : Int), (0 ≤ i) → (i ≤ (n : Int)) → (Y = itM (liftM n wd hi b w) i.toNat (dayA n wd hi b V)) → (Mid Y n wd hi b (20 * (V b 12 + 1))) → (w = 4 → i = 0) → (bo f1) → (((n : Int) - i).toNat) < N → ∀ (H : Heap) (locs : List Loc) (ls : Array Slot), GW X (pk Y b U f1 g1) H → va_S (wA X) s0.heap H locs → lv_has ls 4 [(0, .ref (wa X 0)), (1, .int (jI w)), (2, .int (jI i))] → W pg l ev Rm s0 mi ag bl mt cd H locs 0 0 Qq (F0 mi 68 ls []) := by
      intro N
      induction N with
      | zero => intro i Y f1 g1 i0 i1 eY hM hw0 hf1 hN; exact absurd hN (Nat.not_lt_zero _)
      | succ N ih68 =>
        intro i Y f1 g1 i0 i1 eY hM hw0 hf1 hN H locs ls hG hS hl
        refine x_iload_n E dX8_goes_68 (lv_at hl 2 rfl) ?_
        refine x_aload_n E dX8_goes_69 (lv_at hl 0 rfl) ?_
        refine x_geti E hI hG (ym0 hY) cf8 2 ((n : Int)) rfl (by decide) (show (pk Y b U f1 g1) 0 2 = (n : Int) from hU.2.2.1) kf_X8_103 dX8_goes_70 ?_
        refine x_icmp_ge E 92 dX8_goes_73 (by decide) (by unfold rg; omega) (by unfold rg; omega) (fun c73 => ?_) (fun c73 => ?_)
        · rw [show Y = dayB n wd hi b w (dayA n wd hi b V) by
            rw [eY]
            unfold dayB blM
            split
            · rename_i q; rw [hw0 q]; rfl
            · rw [show i.toNat = n by omega]] at hG
          exact L92_2 f1 g1 hf1 _ _ _ hG hS (lv_sub hl [0] rfl)
        · refine x_iload_n E dX8_goes_76 (lv_at hl 1 rfl) ?_
          refine x_iconst E dX8_goes_77 ?_
          refine x_icmp_eq E 92 dX8_goes_78 (by decide) (by unfold rg; omega) (by unfold rg; omega) (fun c78 => ?_) (fun c78 => ?_)
          · rw [show Y = dayB n wd hi b w (dayA n wd hi b V) by rw [eY, hw0 c78]; unfold dayB; rw [if_pos c78]; rfl] at hG
            exact L92_2 f1 g1 hf1 _ _ _ hG hS (lv_sub hl [0] rfl)
          · refine x_aload_n E dX8_goes_81 (lv_at hl 0 rfl) ?_
            refine x_iload_n E dX8_goes_82 (lv_at hl 1 rfl) ?_
            refine x_cv hG hS (x_runV E hI hG hS (ym0 hY) cf8 rfl (c_X8_lifts l hY U hU Y f1 g1 hf1 hb1 hM w (by omega)) mf_X8_lifts km_X8_231 rfl hl rfl (Nat.le_of_ble_eq_true rfl) (by rw [hR]; exact ⟨Nat.le_of_ble_eq_true rfl, Nat.le_of_ble_eq_true rfl⟩) ⟨Nat.zero_le _, Nat.zero_le _⟩ dX8_goes_83) (fun V1 H locs hp hG hS => ?_)
            obtain ⟨f4, g4, eV, hf4⟩ := hp
            rw [eV] at hG
            refine x_iinc E (k := 2) [(2, .int (jI (i + 1))), (0, .ref (wa X 0)), (1, .int (jI w))] dX8_goes_86 hl rfl (by decide) rfl (fun ls hl => ?_)
            refine x_goto E 68 dX8_goes_89 (by decide) ?_
            exact ih68 (i + 1) (liftM n wd hi b w Y) f4 g4 (by omega) (by omega) (by rw [itM_s i0, ← eY]) (hM.lift hb1 w) (fun q => absurd q c78) hf4 (by omega) _ _ _ hG hS (lv_sub hl [1, 2, 0] rfl)
    exact L68_6 _ 0 (dayA n wd hi b V) f2 g2 (by omega) (by omega) rfl hA.1 (fun _ => rfl) hf2 (Nat.lt_succ_self _) _ _ _ hG hS (lv_sub hl [1, 2, 0] rfl)
  refine x_iconst E dX8_goes_5 ?_
  refine x_istore_n E [(2, .int (jI 0)), (1, .int (jI w)), (0, .ref (wa X 0))] dX8_goes_6 hl (by decide) rfl (fun ls hl => ?_)
  have L7_7 : ∀ (N : Nat) (i : Int) (Y : Mem) (f1 : Int → Int) (g1 : Int), (0 ≤ i) → (i ≤ V (b + 10) 4) → (Y = itM (supM n wd hi b) i.toNat V) → (Mid Y n wd hi b (20 * V b 12 + i)) → (w ≠ 0 → i = 0) → (bo f1) → ((V (b + 10) 4 - i).toNat) < N → ∀ (H : Heap) (locs : List Loc) (ls : Array Slot), GW X (pk Y b U f1 g1) H → va_S (wA X) s0.heap H locs → lv_has ls 4 [(0, .ref (wa X 0)), (1, .int (jI w)), (2, .int (jI i))] → W pg l ev Rm s0 mi ag bl mt cd H locs 0 0 Qq (F0 mi 7 ls []) := by
    intro N
    induction N with
    | zero => intro i Y f1 g1 i0 i1 eY hM hw0 hf1 hN; exact absurd hN (Nat.not_lt_zero _)
    | succ N ih7 =>
      intro i Y f1 g1 i0 i1 eY hM hw0 hf1 hN H locs ls hG hS hl
      refine x_iload_n E dX8_goes_7 (lv_at hl 2 rfl) ?_
      refine x_aload_n E dX8_goes_8 (lv_at hl 0 rfl) ?_
      refine x_getr E hI hG (ym0 hY) cf8 10 8 rfl (by decide) kf_X8_31 dX8_goes_9 ?_
      refine x_iconst E dX8_goes_12 ?_
      refine x_iald E hI hG (ym8 hY) (V (b + 10) 4) (by rw [← show Y (b + 10) = V (b + 10) by rw [eY]; exact itM_p (fun V => supM_p (by omega) (by omega)) _ V]; rfl) (by omega) dX8_goes_13 ?_
      refine x_icmp_ge E 66 dX8_goes_14 (by decide) (by unfold rg; omega) (by unfold rg; omega) (fun c14 => ?_) (fun c14 => ?_)
      · rw [show Y = dayA n wd hi b V by
          rw [eY]
          unfold dayA
          rw [← ew]
          split
          · rw [show i = V (b + 10) 4 by omega]
          · rename_i q; rw [hw0 q]; rfl] at hG
        exact L66_1 f1 g1 hf1 _ _ _ hG hS (lv_sub hl [0, 1] rfl)
      · refine x_iload_n E dX8_goes_17 (lv_at hl 1 rfl) ?_
        refine x_if_ne E 66 dX8_goes_18 (by decide) (by unfold rg; omega) (fun c18 => ?_) (fun c18 => ?_)
        · rw [show Y = dayA n wd hi b V by rw [eY, hw0 c18]; unfold dayA; rw [← ew, if_neg c18]; rfl] at hG
          exact L66_1 f1 g1 hf1 _ _ _ hG hS (lv_sub hl [0, 1] rfl)
        · have hw1 := dw_rg (nx (Y b 11)) (m := hi) (by have := hd.2.2.2.1; omega)
          have hc := cell_of hd (x := 0) hw1.1 hw1.2 (by omega) (by have := hd.2.1; omega)
          simp only [Int.add_zero] at hc
          have h15 := (hM.scal hb1 (k := 15) (Y b 15 + 1) (by decide)).dr hb1
          have eH : (drM b (st Y b 15 (Y b 15 + 1))) (b + 1) = Y (b + 1) := by rw [drM_p (by omega), st_p (by omega)]
          have hhc := hM.1.2.1.bnd hd _ hc.1 hc.2.1
          have eR : Y (b + 10) = V (b + 10) := by rw [eY]; exact itM_p (fun V => supM_p (by omega) (by omega)) _ V
          have hd2 := hd.2.2.2
          have hd3 := hd.2.1
          have hd4 := hd.2.2.1
          refine x_aload_n E dX8_goes_21 (lv_at hl 0 rfl) ?_
          refine x_aload_n E dX8_goes_22 (lv_at hl 0 rfl) ?_
          refine x_geti E hI hG (ym0 hY) cf8 1 (hi) rfl (by decide) (show (pk Y b U f1 g1) 0 1 = hi from hU.2.1) kf_X8_100 dX8_goes_23 ?_
          refine x_ci hG hS (x_runV E hI hG hS (ym0 hY) cf8 rfl (c_X8_draw l hY U Y f1 g1 hi (by omega)) mf_X8_draw km_X8_216 rfl hl rfl (Nat.le_of_ble_eq_true rfl) (by rw [hR]; exact ⟨Nat.le_of_ble_eq_true rfl, Nat.le_of_ble_eq_true rfl⟩) ⟨Nat.zero_le _, Nat.zero_le _⟩ dX8_goes_26) (fun z1 V1 H locs hp hG hS => ?_)
          obtain ⟨ez, eV⟩ := hp
          rw [eV] at hG
          rw [ez]
          refine x_aload_n E dX8_goes_29 (lv_at hl 0 rfl) ?_
          refine x_geti E hI hG (ym0 hY) cf8 0 (wd) rfl (by decide) (show (pk (drM b Y) b U f1 g1) 0 0 = wd from hU.1) kf_X8_97 dX8_goes_30 ?_
          refine x_imul E dX8_goes_33 ?_
          refine x_istore_n E [(3, .int (jI ((dw (nx (Y b 11)) hi) * wd))), (0, .ref (wa X 0)), (1, .int (jI w)), (2, .int (jI i))] dX8_goes_34 hl (by decide) rfl (fun ls hl => ?_)
          refine x_aload_n E dX8_goes_35 (lv_at hl 1 rfl) ?_
          refine x_getr E hI hG (ym0 hY) cf8 3 1 rfl (by decide) kf_X8_7 dX8_goes_36 ?_
          refine x_iload_n E dX8_goes_39 (lv_at hl 0 rfl) ?_
          refine x_dup2 E dX8_goes_40 rfl rfl ?_
          refine x_iald E hI hG (ym1 hY) (Y (b + 1) (dw (nx (Y b 11)) hi * wd)) (congrFun (drM_p (b := b) (V := Y) (p := b + 1) (by omega)) _) (by omega) dX8_goes_41 ?_
          refine x_iconst E dX8_goes_42 ?_
          refine x_iadd E dX8_goes_43 ?_
          refine x_iast E hI hG hS (ym1 hY) (by omega) dX8_goes_44 (fun H locs hG hS => ?_)
          rw [show (st (pk (drM b Y) b U f1 g1) 1 ((dw (nx (Y b 11)) hi) * wd) ((Y (b + 1) (dw (nx (Y b 11)) hi * wd)) + 1)) = (pk (st (drM b Y) (b + 1) ((dw (nx (Y b 11)) hi) * wd) ((Y (b + 1) (dw (nx (Y b 11)) hi * wd)) + 1)) b U f1 g1) from pk_h (by decide) _ _] at hG
          refine x_aload_n E dX8_goes_45 (lv_at hl 1 rfl) ?_
          refine x_dup E dX8_goes_46 rfl ?_
          refine x_geti E hI hG (ym0 hY) cf8 15 (Y b 15) rfl (by decide) (show (pk (st (drM b Y) (b + 1) ((dw (nx (Y b 11)) hi) * wd) ((Y (b + 1) (dw (nx (Y b 11)) hi * wd)) + 1)) b U f1 g1) 0 15 = Y b 15 from (by show st (drM b Y) (b + 1) _ _ b 15 = _; rw [st_p (by omega), drM_k (by decide)])) kf_X8_124 dX8_goes_47 ?_
          refine x_iconst E dX8_goes_50 ?_
          refine x_iadd E dX8_goes_51 ?_
          refine x_puti E hI hG hS (ym0 hY) cf8 15 15 rfl rfl (by decide) rfl rfl kf_X8_124 dX8_goes_52 (fun H locs hG hS => ?_)
          rw [show (st (pk (st (drM b Y) (b + 1) ((dw (nx (Y b 11)) hi) * wd) ((Y (b + 1) (dw (nx (Y b 11)) hi * wd)) + 1)) b U f1 g1) 0 15 ((Y b 15) + 1)) = (pk (st (st (drM b Y) (b + 1) ((dw (nx (Y b 11)) hi) * wd) ((Y (b + 1) (dw (nx (Y b 11)) hi * wd)) + 1)) b 15 ((Y b 15) + 1)) b U f1 g1) from pk_n (by decide) _ _] at hG
          rw [show (pk (st (st (drM b Y) (b + 1) ((dw (nx (Y b 11)) hi) * wd) ((Y (b + 1) (dw (nx (Y b 11)) hi * wd)) + 1)) b 15 ((Y b 15) + 1)) b U f1 g1) = (pk (sp (drM b (st Y b 15 (Y b 15 + 1))) (b + 1) (ui ((drM b (st Y b 15 (Y b 15 + 1))) (b + 1)) (dw (nx (Y b 11)) hi * wd) (Y (b + 1) (dw (nx (Y b 11)) hi * wd) + 1))) b U f1 g1) from by rw [sup_mem]] at hG
          refine x_aload_n E dX8_goes_55 (lv_at hl 1 rfl) ?_
          refine x_iload_n E dX8_goes_56 (lv_at hl 0 rfl) ?_
          refine x_cv hG hS (x_runV E hI hG hS (ym0 hY) cf8 rfl (c_X8_settledAt l hY U hU (drM b (st Y b 15 (Y b 15 + 1))) f1 g1 hf1 h15.1.2.1 (dw (nx (Y b 11)) hi * wd) (Y (b + 1) (dw (nx (Y b 11)) hi * wd) + 1) ⟨hc.1, hc.2.1⟩ (by omega)) mf_X8_settledAt km_X8_156 rfl hl rfl (Nat.le_of_ble_eq_true rfl) (by rw [hR]; exact ⟨Nat.le_of_ble_eq_true rfl, Nat.le_of_ble_eq_true rfl⟩) ⟨Nat.zero_le _, Nat.zero_le _⟩ dX8_goes_57) (fun V1 H locs hp hG hS => ?_)
          obtain ⟨f4, g4, eV, hf4⟩ := hp
          rw [eV] at hG
          refine x_iinc E (k := 3) [(2, .int (jI (i + 1))), (3, .int (jI ((dw (nx (Y b 11)) hi) * wd))), (0, .ref (wa X 0)), (1, .int (jI w))] dX8_goes_60 hl rfl (by decide) rfl (fun ls hl => ?_)
          refine x_goto E 7 dX8_goes_63 (by decide) ?_
          exact ih7 (i + 1) (supM n wd hi b Y) f4 g4 (by omega) (by omega) (by rw [itM_s i0, ← eY]) (by rw [← Int.add_assoc]; exact hM.sup hb1 (by omega)) (fun q => absurd c18 q) hf4 (by omega) _ _ _ hG hS (lv_sub hl [2, 3, 0] rfl)
  exact L7_7 _ 0 V f g (by omega) (by omega) rfl (by rw [Int.add_zero]; exact hv.mid) (fun _ => rfl) hf (Nat.lt_succ_self _) _ _ _ hG hS (lv_sub hl [2, 1, 0] rfl)

set_option maxHeartbeats 4000000 in
set_option maxRecDepth 100000 in
theorem c_X8_days (l : Launch) {X : We} (hY : isY X) {n b : Nat} {wd hi : Int} (U : Mem) (hU : MU U n wd hi) (V : Mem) (f : Int → Int) (g : Int) (hf : bo f) (hb1 : 3 ≤ b) (hv : Inv V n wd hi b) (hW : WR U V b) (k : Int) (hkr : rg k) : Mt l X (pk V b U f g) yX8_days cX8_days 3 (some .int) 6 140 [.ref (wa X 0), .int (jI k)] (Qi X (fun z V1 => ∃ f1 g1, bo f1 ∧ z = (if 1 ≤ k ∧ k ≤ 60 ∧ V b 12 + k ≤ 3000 then V b 12 + k else -1) ∧ V1 = pk (if 1 ≤ k ∧ k ≤ 60 ∧ V b 12 + k ≤ 3000 then psM n wd hi b k.toNat V else V) b U f1 g1)) := by
  refine Mt.go (by decide) (Nat.le_of_ble_eq_true rfl) ?_
  intro pg ev s0 mi bl mt cd ls Rm ag Qq hR hQ E hI hG hS hl
  have hl : lv_has ls 3 [(0, .ref (wa X 0)), (1, .int (jI k))] := hl
  have hd := hU.2.2.2
  have hday := hv.2.2.2
  unfold rg at hkr
  have L22_1 : (¬ (1 ≤ k ∧ k ≤ 60 ∧ V b 12 + k ≤ 3000)) → ∀ (H : Heap) (locs : List Loc) (ls : Array Slot), GW X (pk V b U f g) H → va_S (wA X) s0.heap H locs → lv_has ls 3 [] → W pg l ev Rm s0 mi ag bl mt cd H locs 0 0 Qq (F0 mi 22 ls []) := by
    intro  hy H locs ls hG hS hl
    refine x_iconst E dX8_days_22 ?_
    exact r_i E hQ hG hS dX8_days_23 (⟨f, g, hf, by rw [if_neg hy], by rw [if_neg hy]⟩)
  refine x_iload_n E dX8_days_0 (lv_at hl 1 rfl) ?_
  refine x_iconst E dX8_days_1 ?_
  refine x_bipush E dX8_days_2 (by decide) ?_
  refine x_ci hG hS (x_runS E hI hG hS (c_X8_in l (pk V b U f g) k 1 60 (by unfold rg; omega) (by unfold rg; omega) (by unfold rg; omega)) mf_X8_in km_X8_110 rfl hl rfl (Nat.le_of_ble_eq_true rfl) (by rw [hR]; exact ⟨Nat.le_of_ble_eq_true rfl, Nat.le_of_ble_eq_true rfl⟩) ⟨Nat.zero_le _, Nat.zero_le _⟩ dX8_days_4) (fun z1 V1 H locs hp hG hS => ?_)
  obtain ⟨ez, eV⟩ := hp
  rw [eV] at hG
  rw [ez]
  refine x_if_eq E 22 dX8_days_7 (by decide) b01_rg (fun c7 => ?_) (fun c7 => ?_)
  · exact L22_1  (fun q => b01_iff0.mp c7 ⟨q.1, q.2.1⟩) _ _ _ hG hS (lv_sub hl [] rfl)
  · have hin := b01_ne c7
    refine x_aload_n E dX8_days_10 (lv_at hl 0 rfl) ?_
    refine x_geti E hI hG (ym0 hY) cf8 12 (V b 12) rfl (by decide) rfl kf_X8_115 dX8_days_11 ?_
    refine x_iload_n E dX8_days_14 (lv_at hl 1 rfl) ?_
    refine x_iadd E dX8_days_15 ?_
    refine x_sipush E dX8_days_16 (by decide) ?_
    refine x_icmp_le E 24 dX8_days_19 (by decide) (by unfold rg; omega) (by unfold rg; omega) (fun c19 => ?_) (fun c19 => ?_)
    · have hall : 1 ≤ k ∧ k ≤ 60 ∧ V b 12 + k ≤ 3000 := by omega
      refine x_iconst E dX8_days_24 ?_
      refine x_istore_n E [(2, .int (jI 0)), (0, .ref (wa X 0)), (1, .int (jI k))] dX8_days_25 hl (by decide) rfl (fun ls hl => ?_)
      have L26_2 : ∀ (N : Nat) (i : Int) (f1 : Int → Int) (g1 : Int), (0 ≤ i) → (i ≤ k) → (bo f1) → ((k - i).toNat) < N → ∀ (H : Heap) (locs : List Loc) (ls : Array Slot), GW X (pk (psM n wd hi b i.toNat V) b U f1 g1) H → va_S (wA X) s0.heap H locs → lv_has ls 3 [(0, .ref (wa X 0)), (1, .int (jI k)), (2, .int (jI i))] → W pg l ev Rm s0 mi ag bl mt cd H locs 0 0 Qq (F0 mi 26 ls []) := by
        intro N
        induction N with
        | zero => intro i f1 g1 i0 i1 hf1 hN; exact absurd hN (Nat.not_lt_zero _)
        | succ N ih26 =>
          intro i f1 g1 i0 i1 hf1 hN H locs ls hG hS hl
          have hp := hv.pass hb1 i.toNat (by omega)
          refine x_iload_n E dX8_days_26 (lv_at hl 2 rfl) ?_
          refine x_iload_n E dX8_days_27 (lv_at hl 1 rfl) ?_
          refine x_icmp_ge E 41 dX8_days_28 (by decide) (by unfold rg; omega) (by unfold rg; omega) (fun c28 => ?_) (fun c28 => ?_)
          · refine x_aload_n E dX8_days_41 (lv_at hl 0 rfl) ?_
            refine x_geti E hI hG (ym0 hY) cf8 12 ((psM n wd hi b i.toNat V) b 12) rfl (by decide) rfl kf_X8_115 dX8_days_42 ?_
            exact r_i E hQ hG hS dX8_days_45 (⟨f1, g1, hf1, by rw [if_pos hall, hp.2]; omega, by rw [if_pos hall, show i = k by omega]⟩)
          · refine x_aload_n E dX8_days_31 (lv_at hl 0 rfl) ?_
            refine x_cv hG hS (x_runV E hI hG hS (ym0 hY) cf8 rfl (c_X8_goes l hY U hU (psM n wd hi b i.toNat V) f1 g1 hf1 hb1 hp.1 (by rw [hp.2]; omega) (hW.ps _)) mf_X8_goes km_X8_240 rfl hl rfl (Nat.le_of_ble_eq_true rfl) (by rw [hR]; exact ⟨Nat.le_of_ble_eq_true rfl, Nat.le_of_ble_eq_true rfl⟩) ⟨Nat.zero_le _, Nat.zero_le _⟩ dX8_days_32) (fun V1 H locs hp hG hS => ?_)
            obtain ⟨f2, g2, eV, hf2⟩ := hp
            rw [show dayM n wd hi b (psM n wd hi b i.toNat V) = psM n wd hi b (i + 1).toNat V from (itM_s i0 V).symm] at eV
            rw [eV] at hG
            refine x_iinc E (k := 2) [(2, .int (jI (i + 1))), (0, .ref (wa X 0)), (1, .int (jI k))] dX8_days_35 hl rfl (by decide) rfl (fun ls hl => ?_)
            refine x_goto E 26 dX8_days_38 (by decide) ?_
            exact ih26 (i + 1) f2 g2 (by omega) (by omega) hf2 (by omega) _ _ _ hG hS (lv_sub hl [1, 2, 0] rfl)
      exact L26_2 _ 0 f g (by omega) (by omega) hf (Nat.lt_succ_self _) _ _ _ hG hS (lv_sub hl [1, 2, 0] rfl)
    · exact L22_1  (by omega) _ _ _ hG hS (lv_sub hl [] rfl)
