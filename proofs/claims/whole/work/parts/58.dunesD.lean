theorem landR_s {wd hi : Int} {b : Nat} {w : Int} {k : Nat} {a : Int} {V : Mem} : landR wd hi b w (k + 1) a V = if gow wd hi w (V (b + 10) 0).toNat a < 0 then (-1, V) else if k = 0 then (gow wd hi w (V (b + 10) 0).toNat a, V) else if ldB wd hi b w (gow wd hi w (V (b + 10) 0).toNat a) V = true then (gow wd hi w (V (b + 10) 0).toNat a, ldM wd hi b w (gow wd hi w (V (b + 10) 0).toNat a) V) else landR wd hi b w k (gow wd hi w (V (b + 10) 0).toNat a) (ldM wd hi b w (gow wd hi w (V (b + 10) 0).toNat a) V) := rfl

set_option maxHeartbeats 4000000 in
set_option maxRecDepth 100000 in
theorem c_X1_isLifted (l : Launch) {X : We} {n b : Nat} (hX : isX X n) (hb : isD b) {wd hi t : Int} (V : Mem) (hk : Mid V n wd hi b t) (c w : Int) (hc : 0 ≤ c ∧ c < (n : Int)) (hw : 0 ≤ w ∧ w < 4) : Mt l X V yX1_isLifted cX1_isLifted 3 (some .boolean) 2 48 [.ref (wa X b), .int (jI c), .int (jI w)] (Qi X (fun z V1 => z = b2i (lfB wd hi b w c V) ∧ V1 = lfM wd hi b w c V)) := by
  refine Mt.go (by decide) (Nat.le_of_ble_eq_true rfl) ?_
  intro pg ev s0 mi bl mt cd ls Rm ag Qq hR hQ E hI hG hS hl
  have hl : lv_has ls 3 [(0, .ref (wa X b)), (1, .int (jI c)), (2, .int (jI w))] := hl
  obtain ⟨⟨hs, hh, hz⟩, ⟨r2, r3, r4, r5, r6, r7, r8, r9, r10, r11⟩, hsk, hday⟩ := id hk
  have hd := hs.2.2.2.1
  have hbn : bnd n 0 9500 (V (b + 1)) := hh.ps hd |>.1
  obtain ⟨hn1, hn2⟩ := dims.n hd
  obtain ⟨hb1, hb2⟩ := isD.ge hb
  have L38_1 : (V (b + 1) c = 0 ∨ 0 < V (b + 6) c ∨ shd wd hi (V (b + 1)) c w = true) → ∀ (H : Heap) (locs : List Loc) (ls : Array Slot), GW X V H → va_S (wA X) s0.heap H locs → lv_has ls 3 [] → W pg l ev Rm s0 mi ag bl mt cd H locs 0 0 Qq (F0 mi 38 ls []) := by
    intro  hy H locs ls hG hS hl
    refine x_iconst E dX1_isLifted_38 ?_
    exact r_z E hQ hG hS dX1_isLifted_39 (Or.inl rfl) (⟨by
          unfold lfB
          rcases hy with q | q | q
          · rw [decide_eq_true q]; rfl
          · rw [decide_eq_true q]; simp; rfl
          · rw [q]; simp; rfl, by unfold lfM; rw [if_pos (by rcases hy with q | q | q; exact Or.inl q; exact Or.inr (Or.inl q); exact Or.inr (Or.inr (Or.inl q)))]⟩)
  have L69_2 : ∀ (z : Int) (V1 : Mem), (z = b2i (lfB wd hi b w c V)) → (V1 = lfM wd hi b w c V) → ∀ (H : Heap) (locs : List Loc) (ls : Array Slot), GW X V1 H → va_S (wA X) s0.heap H locs → lv_has ls 3 [] → W pg l ev Rm s0 mi ag bl mt cd H locs 0 0 Qq (F0 mi 69 ls [.int (jI z)]) := by
    intro z V1 hz1 hz2 H locs ls hG hS hl
    exact r_z E hQ hG hS dX1_isLifted_69 (by rw [hz1]; exact b2i_c _) (⟨hz1, hz2⟩)
  refine x_aload_n E dX1_isLifted_0 (lv_at hl 0 rfl) ?_
  refine x_getr E hI hG (xd0 hX hb) cf1 0 1 rfl (by decide) kf_X1_36 dX1_isLifted_1 ?_
  refine x_iload_n E dX1_isLifted_4 (lv_at hl 1 rfl) ?_
  refine x_ci hG hS (x_runV E hI hG hS (xs0 hX) cf3 rfl (c_X3_has l hX V hs c (by unfold rg; omega)) mf_X3_has km_X1_86 rfl hl rfl (Nat.le_of_ble_eq_true rfl) (by rw [hR]; exact ⟨Nat.le_of_ble_eq_true rfl, Nat.le_of_ble_eq_true rfl⟩) ⟨Nat.zero_le _, Nat.zero_le _⟩ dX1_isLifted_5) (fun z1 V1 H locs hp hG hS => ?_)
  obtain ⟨ez, eV⟩ := hp
  rw [eV] at hG
  rw [ez]
  refine x_if_eq E 38 dX1_isLifted_8 (by decide) b01_rg (fun c8 => ?_) (fun c8 => ?_)
  · exact absurd hc (b01_iff0.mp c8)
  · have hv1 := hbn c hc.1 hc.2
    have hv2 := r6 c hc.1 hc.2
    have hv3 := r3 c hc.1 hc.2
    refine x_aload_n E dX1_isLifted_11 (lv_at hl 0 rfl) ?_
    refine x_getr E hI hG (xd0 hX hb) cf1 1 (b + 1) rfl (by decide) kf_X1_45 dX1_isLifted_12 ?_
    refine x_iload_n E dX1_isLifted_15 (lv_at hl 1 rfl) ?_
    refine x_iald E hI hG (xd1 hX hb) (V (b + 1) c) rfl (by omega) dX1_isLifted_16 ?_
    refine x_if_eq E 38 dX1_isLifted_17 (by decide) (by unfold rg; omega) (fun c17 => ?_) (fun c17 => ?_)
    · exact L38_1  (Or.inl c17) _ _ _ hG hS (lv_sub hl [] rfl)
    · refine x_aload_n E dX1_isLifted_20 (lv_at hl 0 rfl) ?_
      refine x_getr E hI hG (xd0 hX hb) cf1 6 (b + 6) rfl (by decide) kf_X1_60 dX1_isLifted_21 ?_
      refine x_iload_n E dX1_isLifted_24 (lv_at hl 1 rfl) ?_
      refine x_iald E hI hG (xd6 hX hb) (V (b + 6) c) rfl (by omega) dX1_isLifted_25 ?_
      refine x_if_gt E 38 dX1_isLifted_26 (by decide) (by unfold rg; omega) (fun c26 => ?_) (fun c26 => ?_)
      · exact L38_1  (Or.inr (Or.inl c26)) _ _ _ hG hS (lv_sub hl [] rfl)
      · refine x_aload_n E dX1_isLifted_29 (lv_at hl 0 rfl) ?_
        refine x_iload_n E dX1_isLifted_30 (lv_at hl 1 rfl) ?_
        refine x_iload_n E dX1_isLifted_31 (lv_at hl 2 rfl) ?_
        refine x_ci hG hS (x_runV E hI hG hS (xd0 hX hb) cf1 rfl (c_X1_isInShadow l hX hb V hs (V (b + 1)) rfl hbn c w hc hw) mf_X1_isInShadow km_X1_100 rfl hl rfl (Nat.le_of_ble_eq_true rfl) (by rw [hR]; exact ⟨Nat.le_of_ble_eq_true rfl, Nat.le_of_ble_eq_true rfl⟩) ⟨Nat.zero_le _, Nat.zero_le _⟩ dX1_isLifted_32) (fun z1 V1 H locs hp hG hS => ?_)
        obtain ⟨ez, eV⟩ := hp
        rw [eV] at hG
        rw [ez]
        refine x_if_eq E 40 dX1_isLifted_35 (by decide) (b2i_rg _) (fun c35 => ?_) (fun c35 => ?_)
        · have hsf : shd wd hi (V (b + 1)) c w = false := b2i_0.mp c35
          refine x_aload_n E dX1_isLifted_40 (lv_at hl 0 rfl) ?_
          refine x_getr E hI hG (xd0 hX hb) cf1 3 (b + 3) rfl (by decide) kf_X1_51 dX1_isLifted_41 ?_
          refine x_iload_n E dX1_isLifted_44 (lv_at hl 1 rfl) ?_
          refine x_iald E hI hG (xd3 hX hb) (V (b + 3) c) rfl (by omega) dX1_isLifted_45 ?_
          refine x_if_eq E 64 dX1_isLifted_46 (by decide) (by unfold rg; omega) (fun c46 => ?_) (fun c46 => ?_)
          · refine x_iconst E dX1_isLifted_64 ?_
            refine x_goto E 69 dX1_isLifted_65 (by decide) ?_
            exact L69_2 1 V (by unfold lfB; rw [decide_eq_false (p := V (b + 1) c = 0) c17, decide_eq_false (p := 0 < V (b + 6) c) (by omega), hsf, decide_eq_true (p := V (b + 3) c = 0) c46]; rfl) (by unfold lfM; rw [if_pos (Or.inr (Or.inr (Or.inr c46)))]) _ _ _ hG hS (lv_sub hl [] rfl)
          · refine x_aload_n E dX1_isLifted_49 (lv_at hl 0 rfl) ?_
            refine x_bipush E dX1_isLifted_50 (by decide) ?_
            refine x_ci hG hS (x_runV E hI hG hS (xd0 hX hb) cf1 rfl (c_X1_draw l hX hb V 100 (by omega)) mf_X1_draw km_X1_157 rfl hl rfl (Nat.le_of_ble_eq_true rfl) (by rw [hR]; exact ⟨Nat.le_of_ble_eq_true rfl, Nat.le_of_ble_eq_true rfl⟩) ⟨Nat.zero_le _, Nat.zero_le _⟩ dX1_isLifted_52) (fun z1 V1 H locs hp hG hS => ?_)
            obtain ⟨ez, eV⟩ := hp
            rw [eV] at hG
            rw [ez]
            have hdw := dw_rg (nx (V b 11)) (show (0 : Int) < 100 by omega)
            refine x_aload_n E dX1_isLifted_55 (lv_at hl 0 rfl) ?_
            refine x_getr E hI hG (xd0 hX hb) cf1 3 (b + 3) rfl (by decide) kf_X1_51 dX1_isLifted_56 ?_
            refine x_iload_n E dX1_isLifted_59 (lv_at hl 1 rfl) ?_
            refine x_iald E hI hG (xd3 hX hb) (V (b + 3) c) (by rw [drM_p (by omega)]) (by omega) dX1_isLifted_60 ?_
            refine x_icmp_lt E 68 dX1_isLifted_61 (by decide) (by unfold rg; omega) (by unfold rg; omega) (fun c61 => ?_) (fun c61 => ?_)
            · refine x_iconst E dX1_isLifted_68 ?_
              exact L69_2 0 (drM b V) (by unfold lfB; rw [decide_eq_false (p := V (b + 3) c = 0) c46, decide_eq_true (p := dw (nx (V b 11)) 100 < V (b + 3) c) c61]; simp; rfl) (by unfold lfM; rw [if_neg (by rw [hsf]; simp; omega)]) _ _ _ hG hS (lv_sub hl [] rfl)
            · refine x_iconst E dX1_isLifted_64 ?_
              refine x_goto E 69 dX1_isLifted_65 (by decide) ?_
              exact L69_2 1 (drM b V) (by unfold lfB; rw [decide_eq_false (p := V (b + 1) c = 0) c17, decide_eq_false (p := 0 < V (b + 6) c) (by omega), hsf, decide_eq_false (p := dw (nx (V b 11)) 100 < V (b + 3) c) c61]; simp; rfl) (by unfold lfM; rw [if_neg (by rw [hsf]; simp; omega)]) _ _ _ hG hS (lv_sub hl [] rfl)
        · exact L38_1  (Or.inr (Or.inr (b2i_ne.mp c35))) _ _ _ hG hS (lv_sub hl [] rfl)

set_option maxHeartbeats 4000000 in
set_option maxRecDepth 100000 in
theorem c_X1_landing (l : Launch) {X : We} {n b : Nat} (hX : isX X n) (hb : isD b) {wd hi t : Int} (V : Mem) (hk : Mid V n wd hi b t) (c w : Int) (hc : 0 ≤ c ∧ c < (n : Int)) (hw : 0 ≤ w ∧ w < 4) : Mt l X V yX1_landing cX1_landing 5 (some .int) 3 70 [.ref (wa X b), .int (jI c), .int (jI w)] (Qi X (fun z V1 => z = (landR wd hi b w 10 c V).1 ∧ V1 = (landR wd hi b w 10 c V).2)) := by
  refine Mt.go (by decide) (Nat.le_of_ble_eq_true rfl) ?_
  intro pg ev s0 mi bl mt cd ls Rm ag Qq hR hQ E hI hG hS hl
  have hl : lv_has ls 5 [(0, .ref (wa X b)), (1, .int (jI c)), (2, .int (jI w))] := hl
  obtain ⟨⟨hs, hh, hz⟩, ⟨r2, r3, r4, r5, r6, r7, r8, r9, r10, r11⟩, hsk, hday⟩ := id hk
  have hd := hs.2.2.2.1
  have hbn : bnd n 0 9500 (V (b + 1)) := hh.ps hd |>.1
  obtain ⟨hn1, hn2⟩ := dims.n hd
  obtain ⟨hb1, hb2⟩ := isD.ge hb
  refine x_iload_n E dX1_landing_0 (lv_at hl 1 rfl) ?_
  refine x_istore_n E [(3, .int (jI c)), (0, .ref (wa X b)), (1, .int (jI c)), (2, .int (jI w))] dX1_landing_1 hl (by decide) rfl (fun ls hl => ?_)
  refine x_iconst E dX1_landing_2 ?_
  refine x_istore E [(4, .int (jI 1)), (3, .int (jI c)), (0, .ref (wa X b)), (1, .int (jI c)), (2, .int (jI w))] dX1_landing_3 hl (by decide) rfl (fun ls hl => ?_)
  have L5_1 : ∀ (N : Nat) (k : Int) (a : Int) (U : Mem), (1 ≤ k) → (k ≤ 10) → (0 ≤ a) → (a < (n : Int)) → (Mid U n wd hi b t) → (landR wd hi b w (11 - k).toNat a U = landR wd hi b w 10 c V) → ((11 - k).toNat) < N → ∀ (H : Heap) (locs : List Loc) (ls : Array Slot), GW X U H → va_S (wA X) s0.heap H locs → lv_has ls 5 [(0, .ref (wa X b)), (2, .int (jI w)), (3, .int (jI a)), (4, .int (jI k))] → W pg l ev Rm s0 mi ag bl mt cd H locs 0 0 Qq (F0 mi 5 ls []) := by
    intro N
    induction N with
    | zero => intro k a U k1 k2 a0 a1 hU eU hN; exact absurd hN (Nat.not_lt_zero _)
    | succ N ih5 =>
      intro k a U k1 k2 a0 a1 hU eU hN H locs ls hG hS hl
      refine x_iload E dX1_landing_5 (lv_at hl 3 rfl) ?_
      refine x_bipush E dX1_landing_7 (by decide) ?_
      refine x_icmp_gt E 48 dX1_landing_9 (by decide) (by unfold rg; omega) (by unfold rg; omega) (fun c9 => ?_) (fun c9 => ?_)
      · omega
      · obtain ⟨⟨us, uh, uz⟩, ⟨-, -, -, -, -, -, u8, -, -, -⟩, -, -⟩ := id hU
        have hr := gow_rg (w := w) hd (show -1 ≤ a by omega) a1 (U (b + 10) 0).toNat
        refine x_aload_n E dX1_landing_12 (lv_at hl 0 rfl) ?_
        refine x_iload_n E dX1_landing_13 (lv_at hl 2 rfl) ?_
        refine x_iload_n E dX1_landing_14 (lv_at hl 1 rfl) ?_
        refine x_ci hG hS (x_runV E hI hG hS (xd0 hX hb) cf1 rfl (c_X1_afterHop l hX hb U us a w ⟨a0, a1⟩ hw u8) mf_X1_afterHop km_X1_176 rfl hl rfl (Nat.le_of_ble_eq_true rfl) (by rw [hR]; exact ⟨Nat.le_of_ble_eq_true rfl, Nat.le_of_ble_eq_true rfl⟩) ⟨Nat.zero_le _, Nat.zero_le _⟩ dX1_landing_15) (fun z1 V1 H locs hp hG hS => ?_)
        obtain ⟨ez, eV⟩ := hp
        rw [eV] at hG
        rw [ez]
        refine x_istore_n E [(3, .int (jI (gow wd hi w (U (b + 10) 0).toNat a))), (0, .ref (wa X b)), (2, .int (jI w)), (4, .int (jI k))] dX1_landing_18 hl (by decide) rfl (fun ls hl => ?_)
        obtain ⟨j, ej⟩ : ∃ j : Nat, (11 - k).toNat = j + 1 := ⟨(10 - k).toNat, by omega⟩
        rw [ej, landR_s] at eU
        have L40_2 : ∀ (z : Int) (U2 : Mem), (landR wd hi b w 10 c V = (z, U2)) → ∀ (H : Heap) (locs : List Loc) (ls : Array Slot), GW X U2 H → va_S (wA X) s0.heap H locs → lv_has ls 5 [(3, .int (jI z))] → W pg l ev Rm s0 mi ag bl mt cd H locs 0 0 Qq (F0 mi 40 ls []) := by
          intro z U2 hz1 H locs ls hG hS hl
          refine x_iload_n E dX1_landing_40 (lv_at hl 0 rfl) ?_
          exact r_i E hQ hG hS dX1_landing_41 (⟨by rw [hz1], by rw [hz1]⟩)
        refine x_iload_n E dX1_landing_19 (lv_at hl 0 rfl) ?_
        refine x_iconst E dX1_landing_20 ?_
        refine x_icmp_eq E 40 dX1_landing_21 (by decide) (by unfold rg; omega) (by unfold rg; omega) (fun c21 => ?_) (fun c21 => ?_)
        · exact L40_2 (gow wd hi w (U (b + 10) 0).toNat a) U (by rw [← eU, if_pos (by omega), c21]) _ _ _ hG hS (lv_sub hl [0] rfl)
        · refine x_iload E dX1_landing_24 (lv_at hl 3 rfl) ?_
          refine x_bipush E dX1_landing_26 (by decide) ?_
          refine x_icmp_eq E 40 dX1_landing_28 (by decide) (by unfold rg; omega) (by unfold rg; omega) (fun c28 => ?_) (fun c28 => ?_)
          · exact L40_2 (gow wd hi w (U (b + 10) 0).toNat a) U (by rw [← eU, if_neg (by omega), if_pos (by omega)]) _ _ _ hG hS (lv_sub hl [0] rfl)
          · refine x_aload_n E dX1_landing_31 (lv_at hl 1 rfl) ?_
            refine x_iload_n E dX1_landing_32 (lv_at hl 0 rfl) ?_
            refine x_iload_n E dX1_landing_33 (lv_at hl 2 rfl) ?_
            refine x_ci hG hS (x_runV E hI hG hS (xd0 hX hb) cf1 rfl (c_X1_isLaid l hX hb U hU (gow wd hi w (U (b + 10) 0).toNat a) w (by omega) hw) mf_X1_isLaid km_X1_179 rfl hl rfl (Nat.le_of_ble_eq_true rfl) (by rw [hR]; exact ⟨Nat.le_of_ble_eq_true rfl, Nat.le_of_ble_eq_true rfl⟩) ⟨Nat.zero_le _, Nat.zero_le _⟩ dX1_landing_34) (fun z1 V1 H locs hp hG hS => ?_)
            obtain ⟨ez, eV⟩ := hp
            rw [eV] at hG
            rw [ez]
            refine x_if_eq E 42 dX1_landing_37 (by decide) (b2i_rg _) (fun c37 => ?_) (fun c37 => ?_)
            · refine x_iinc E (k := 3) [(4, .int (jI (k + 1))), (3, .int (jI (gow wd hi w (U (b + 10) 0).toNat a))), (0, .ref (wa X b)), (2, .int (jI w))] dX1_landing_42 hl rfl (by decide) rfl (fun ls hl => ?_)
              refine x_goto E 5 dX1_landing_45 (by decide) ?_
              exact ih5 (k + 1) (gow wd hi w (U (b + 10) 0).toNat a) (ldM wd hi b w (gow wd hi w (U (b + 10) 0).toNat a) U) (by omega) (by omega) (by omega) hr.2 (hU.ld hb1 w _) (by rw [← eU, if_neg (by omega), if_neg (by omega), if_neg (by rw [b2i_0.mp c37]; decide), show (11 - (k + 1)).toNat = j by omega]) (by omega) _ _ _ hG hS (lv_sub hl [2, 3, 1, 0] rfl)
            · exact L40_2 (gow wd hi w (U (b + 10) 0).toNat a) (ldM wd hi b w (gow wd hi w (U (b + 10) 0).toNat a) U) (by rw [← eU, if_neg (by omega), if_neg (by omega), if_pos (b2i_ne.mp c37)]) _ _ _ hG hS (lv_sub hl [0] rfl)
  exact L5_1 _ 1 c V (by omega) (by omega) hc.1 hc.2 hk rfl (Nat.lt_succ_self _) _ _ _ hG hS (lv_sub hl [2, 4, 1, 0] rfl)

set_option maxHeartbeats 4000000 in
set_option maxRecDepth 100000 in
theorem c_X1_lose (l : Launch) {X : We} {n b : Nat} (hX : isX X n) (hb : isD b) (V : Mem) (w : Int) (hw : 0 ≤ w ∧ w < 4) : Mt l X V yX1_lose cX1_lose 2 none 0 0 [.ref (wa X b), .int (jI w)] (Qv X (fun V1 => V1 = loseM b w V)) := by
  refine Mt.go (by decide) (Nat.le_of_ble_eq_true rfl) ?_
  intro pg ev s0 mi bl mt cd ls Rm ag Qq hR hQ E hI hG hS hl
  have hl : lv_has ls 2 [(0, .ref (wa X b)), (1, .int (jI w))] := hl
  refine x_iload_n E dX1_lose_0 (lv_at hl 1 rfl) ?_
  refine x_if_ne E 17 dX1_lose_1 (by decide) (by unfold rg; omega) (fun c1 => ?_) (fun c1 => ?_)
  · refine x_aload_n E dX1_lose_17 (lv_at hl 0 rfl) ?_
    refine x_dup E dX1_lose_18 rfl ?_
    refine x_geti E hI hG (xd0 hX hb) cf1 13 (V b 13) rfl (by decide) rfl kf_X1_77 dX1_lose_19 ?_
    refine x_iconst E dX1_lose_22 ?_
    refine x_iadd E dX1_lose_23 ?_
    refine x_puti E hI hG hS (xd0 hX hb) cf1 13 13 rfl rfl (by decide) rfl rfl kf_X1_77 dX1_lose_24 (fun H locs hG hS => ?_)
    exact r_v E hQ hG hS dX1_lose_27 (by unfold loseM; rw [if_neg c1])
  · refine x_aload_n E dX1_lose_4 (lv_at hl 0 rfl) ?_
    refine x_dup E dX1_lose_5 rfl ?_
    refine x_geti E hI hG (xd0 hX hb) cf1 14 (V b 14) rfl (by decide) rfl kf_X1_80 dX1_lose_6 ?_
    refine x_iconst E dX1_lose_9 ?_
    refine x_iadd E dX1_lose_10 ?_
    refine x_puti E hI hG hS (xd0 hX hb) cf1 14 14 rfl rfl (by decide) rfl rfl kf_X1_80 dX1_lose_11 (fun H locs hG hS => ?_)
    refine x_goto E 27 dX1_lose_14 (by decide) ?_
    exact r_v E hQ hG hS dX1_lose_27 (by unfold loseM; rw [if_pos c1])

set_option maxHeartbeats 4000000 in
set_option maxRecDepth 100000 in
theorem c_X1_blow (l : Launch) {X : We} {n b : Nat} (hX : isX X n) (hb : isD b) {wd hi t : Int} (V : Mem) (hk : Mid V n wd hi b t) (w : Int) (hw : 0 ≤ w ∧ w < 4) : Mt l X V yX1_blow cX1_blow 5 none 4 94 [.ref (wa X b), .int (jI w)] (Qv X (fun V1 => V1 = blM n wd hi b w V)) := by
  refine Mt.go (by decide) (Nat.le_of_ble_eq_true rfl) ?_
  intro pg ev s0 mi bl mt cd ls Rm ag Qq hR hQ E hI hG hS hl
  have hl : lv_has ls 5 [(0, .ref (wa X b)), (1, .int (jI w))] := hl
  obtain ⟨⟨hs, hh, hz⟩, ⟨r2, r3, r4, r5, r6, r7, r8, r9, r10, r11⟩, hsk, hday⟩ := id hk
  have hd := hs.2.2.2.1
  have hbn : bnd n 0 9500 (V (b + 1)) := hh.ps hd |>.1
  obtain ⟨hn1, hn2⟩ := dims.n hd
  obtain ⟨hb1, hb2⟩ := isD.ge hb
  refine x_iconst E dX1_blow_0 ?_
  refine x_istore_n E [(2, .int (jI 0)), (0, .ref (wa X b)), (1, .int (jI w))] dX1_blow_1 hl (by decide) rfl (fun ls hl => ?_)
  have L2_1 : ∀ (N : Nat) (i : Int) (U : Mem), (0 ≤ i) → (i ≤ (n : Int)) → (U = itM (liftM n wd hi b w) i.toNat V) → (Mid U n wd hi b t) → (((n : Int) - i).toNat) < N → ∀ (H : Heap) (locs : List Loc) (ls : Array Slot), GW X U H → va_S (wA X) s0.heap H locs → lv_has ls 5 [(0, .ref (wa X b)), (1, .int (jI w)), (2, .int (jI i))] → W pg l ev Rm s0 mi ag bl mt cd H locs 0 0 Qq (F0 mi 2 ls []) := by
    intro N
    induction N with
    | zero => intro i U i0 i1 eU hU hN; exact absurd hN (Nat.not_lt_zero _)
    | succ N ih2 =>
      intro i U i0 i1 eU hU hN H locs ls hG hS hl
      refine x_iload_n E dX1_blow_2 (lv_at hl 2 rfl) ?_
      refine x_aload_n E dX1_blow_3 (lv_at hl 0 rfl) ?_
      refine x_getr E hI hG (xd0 hX hb) cf1 1 (b + 1) rfl (by decide) kf_X1_45 dX1_blow_4 ?_
      refine x_alen E hI hG (xd1 hX hb) (by decide) dX1_blow_7 ?_
      refine x_icmp_ge E 70 dX1_blow_8 (by decide) (by unfold rg; omega) (by unfold rg; omega) (fun c8 => ?_) (fun c8 => ?_)
      · exact r_v E hQ hG hS dX1_blow_70 (by rw [eU, show i.toNat = n by omega]; rfl)
      · have hcc := dw_rg (nx (U b 11)) (m := (n : Int)) (by omega)
        have hM2 := (hU.dr hb1).lf hb1 w (dw (nx (U b 11)) (n : Int))
        have eH : (lfM wd hi b w (dw (nx (U b 11)) (n : Int)) (drM b U)) (b + 1) = U (b + 1) := by rw [lfM_p _ _ _ _ (by omega), drM_p (by omega)]
        have L64_2 : ∀ (U2 : Mem), (U2 = liftM n wd hi b w U) → ∀ (H : Heap) (locs : List Loc) (ls : Array Slot), GW X U2 H → va_S (wA X) s0.heap H locs → lv_has ls 5 [(0, .ref (wa X b)), (1, .int (jI w)), (2, .int (jI i))] → W pg l ev Rm s0 mi ag bl mt cd H locs 0 0 Qq (F0 mi 64 ls []) := by
          intro U2 e2 H locs ls hG hS hl
          refine x_iinc E (k := 2) [(2, .int (jI (i + 1))), (0, .ref (wa X b)), (1, .int (jI w))] dX1_blow_64 hl rfl (by decide) rfl (fun ls hl => ?_)
          refine x_goto E 2 dX1_blow_67 (by decide) ?_
          exact ih2 (i + 1) U2 (by omega) (by omega) (by rw [e2, eU, show (i + 1).toNat = i.toNat + 1 by omega]; rfl) (by rw [e2]; exact hU.lift hb1 w) (by omega) _ _ _ hG hS (lv_sub hl [1, 2, 0] rfl)
        refine x_aload_n E dX1_blow_11 (lv_at hl 0 rfl) ?_
        refine x_aload_n E dX1_blow_12 (lv_at hl 0 rfl) ?_
        refine x_getr E hI hG (xd0 hX hb) cf1 1 (b + 1) rfl (by decide) kf_X1_45 dX1_blow_13 ?_
        refine x_alen E hI hG (xd1 hX hb) (by decide) dX1_blow_16 ?_
        refine x_ci hG hS (x_runV E hI hG hS (xd0 hX hb) cf1 rfl (c_X1_draw l hX hb U (n : Int) (by omega)) mf_X1_draw km_X1_157 rfl hl rfl (Nat.le_of_ble_eq_true rfl) (by rw [hR]; exact ⟨Nat.le_of_ble_eq_true rfl, Nat.le_of_ble_eq_true rfl⟩) ⟨Nat.zero_le _, Nat.zero_le _⟩ dX1_blow_17) (fun z1 V1 H locs hp hG hS => ?_)
        obtain ⟨ez, eV⟩ := hp
        rw [eV] at hG
        rw [ez]
        refine x_istore_n E [(3, .int (jI (dw (nx (U b 11)) (n : Int)))), (0, .ref (wa X b)), (1, .int (jI w)), (2, .int (jI i))] dX1_blow_20 hl (by decide) rfl (fun ls hl => ?_)
        refine x_aload_n E dX1_blow_21 (lv_at hl 1 rfl) ?_
        refine x_iload_n E dX1_blow_22 (lv_at hl 0 rfl) ?_
        refine x_iload_n E dX1_blow_23 (lv_at hl 2 rfl) ?_
        refine x_ci hG hS (x_runV E hI hG hS (xd0 hX hb) cf1 rfl (c_X1_isLifted l hX hb (drM b U) (hU.dr hb1) (dw (nx (U b 11)) (n : Int)) w hcc hw) mf_X1_isLifted km_X1_163 rfl hl rfl (Nat.le_of_ble_eq_true rfl) (by rw [hR]; exact ⟨Nat.le_of_ble_eq_true rfl, Nat.le_of_ble_eq_true rfl⟩) ⟨Nat.zero_le _, Nat.zero_le _⟩ dX1_blow_24) (fun z1 V1 H locs hp hG hS => ?_)
        obtain ⟨ez, eV⟩ := hp
        rw [eV] at hG
        rw [ez]
        refine x_if_eq E 64 dX1_blow_27 (by decide) (b2i_rg _) (fun c27 => ?_) (fun c27 => ?_)
        · exact L64_2 (lfM wd hi b w (dw (nx (U b 11)) (n : Int)) (drM b U)) (by unfold liftM; rw [if_neg (by rw [b2i_0.mp c27]; decide)]) _ _ _ hG hS (lv_sub hl [1, 2, 3] rfl)
        · have hlf : lfB wd hi b w (dw (nx (U b 11)) (n : Int)) (drM b U) = true := b2i_ne.mp c27
          have hp0 := lfB_pos hlf
          rw [drM_p (by omega)] at hp0
          have hp1 := hU.1.2.1.2.1 _ hcc.1 hcc.2
          have hM3 := (hM2.lower hb1 (c := (dw (nx (U b 11)) (n : Int))) (v := U (b + 1) (dw (nx (U b 11)) (n : Int)) - 1) hcc.1 hcc.2 (by omega) (by rw [eH]; omega)).1
          refine x_aload_n E dX1_blow_30 (lv_at hl 1 rfl) ?_
          refine x_iload_n E dX1_blow_31 (lv_at hl 0 rfl) ?_
          refine x_iconst E dX1_blow_32 ?_
          refine x_cv hG hS (x_runV E hI hG hS (xd0 hX hb) cf1 rfl (c_X1_lower l hX hb (lfM wd hi b w (dw (nx (U b 11)) (n : Int)) (drM b U)) hM2.1 (dw (nx (U b 11)) (n : Int)) 1 hcc (by omega)) mf_X1_lower km_X1_166 rfl hl rfl (Nat.le_of_ble_eq_true rfl) (by rw [hR]; exact ⟨Nat.le_of_ble_eq_true rfl, Nat.le_of_ble_eq_true rfl⟩) ⟨Nat.zero_le _, Nat.zero_le _⟩ dX1_blow_33) (fun V1 H locs hp hG hS => ?_)
          have eV := hp
          rw [eH, show min 1 (U (b + 1) (dw (nx (U b 11)) (n : Int))) = 1 by omega] at eV
          rw [eV] at hG
          refine x_aload_n E dX1_blow_36 (lv_at hl 1 rfl) ?_
          refine x_iload_n E dX1_blow_37 (lv_at hl 0 rfl) ?_
          refine x_iload_n E dX1_blow_38 (lv_at hl 2 rfl) ?_
          refine x_ci hG hS (x_runV E hI hG hS (xd0 hX hb) cf1 rfl (c_X1_landing l hX hb (hput n wd hi b (dw (nx (U b 11)) (n : Int)) (U (b + 1) (dw (nx (U b 11)) (n : Int)) - 1) (lfM wd hi b w (dw (nx (U b 11)) (n : Int)) (drM b U))) hM3 (dw (nx (U b 11)) (n : Int)) w hcc hw) mf_X1_landing km_X1_170 rfl hl rfl (Nat.le_of_ble_eq_true rfl) (by rw [hR]; exact ⟨Nat.le_of_ble_eq_true rfl, Nat.le_of_ble_eq_true rfl⟩) ⟨Nat.zero_le _, Nat.zero_le _⟩ dX1_blow_39) (fun z1 V1 H locs hp hG hS => ?_)
          obtain ⟨ez, eV⟩ := hp
          rw [eV] at hG
          rw [ez]
          refine x_istore E [(4, .int (jI ((landR wd hi b w 10 (dw (nx (U b 11)) (n : Int)) (hput n wd hi b (dw (nx (U b 11)) (n : Int)) (U (b + 1) (dw (nx (U b 11)) (n : Int)) - 1) (lfM wd hi b w (dw (nx (U b 11)) (n : Int)) (drM b U)))).1))), (3, .int (jI (dw (nx (U b 11)) (n : Int)))), (0, .ref (wa X b)), (1, .int (jI w)), (2, .int (jI i))] dX1_blow_42 hl (by decide) rfl (fun ls hl => ?_)
          have hr := landR_r (b := b) hd w 10 (dw (nx (U b 11)) (n : Int)) (hput n wd hi b (dw (nx (U b 11)) (n : Int)) (U (b + 1) (dw (nx (U b 11)) (n : Int)) - 1) (lfM wd hi b w (dw (nx (U b 11)) (n : Int)) (drM b U))) hcc.1 hcc.2
          refine x_iload E dX1_blow_44 (lv_at hl 0 rfl) ?_
          refine x_iconst E dX1_blow_46 ?_
          refine x_icmp_ne E 58 dX1_blow_47 (by decide) (by unfold rg; omega) (by unfold rg; omega) (fun c47 => ?_) (fun c47 => ?_)
          · refine x_aload_n E dX1_blow_58 (lv_at hl 2 rfl) ?_
            refine x_iload E dX1_blow_59 (lv_at hl 0 rfl) ?_
            refine x_cv hG hS (x_runV E hI hG hS (xd0 hX hb) cf1 rfl (c_X1_raise l hX hb (landR wd hi b w 10 (dw (nx (U b 11)) (n : Int)) (hput n wd hi b (dw (nx (U b 11)) (n : Int)) (U (b + 1) (dw (nx (U b 11)) (n : Int)) - 1) (lfM wd hi b w (dw (nx (U b 11)) (n : Int)) (drM b U)))).2 (hM3.land hb1 w 10 _).1 (landR wd hi b w 10 (dw (nx (U b 11)) (n : Int)) (hput n wd hi b (dw (nx (U b 11)) (n : Int)) (U (b + 1) (dw (nx (U b 11)) (n : Int)) - 1) (lfM wd hi b w (dw (nx (U b 11)) (n : Int)) (drM b U)))).1 (by omega)) mf_X1_raise km_X1_160 rfl hl rfl (Nat.le_of_ble_eq_true rfl) (by rw [hR]; exact ⟨Nat.le_of_ble_eq_true rfl, Nat.le_of_ble_eq_true rfl⟩) ⟨Nat.zero_le _, Nat.zero_le _⟩ dX1_blow_61) (fun V1 H locs hp hG hS => ?_)
            have eV := hp
            rw [eV] at hG
            exact L64_2 (hput n wd hi b (landR wd hi b w 10 (dw (nx (U b 11)) (n : Int)) (hput n wd hi b (dw (nx (U b 11)) (n : Int)) (U (b + 1) (dw (nx (U b 11)) (n : Int)) - 1) (lfM wd hi b w (dw (nx (U b 11)) (n : Int)) (drM b U)))).1 ((landR wd hi b w 10 (dw (nx (U b 11)) (n : Int)) (hput n wd hi b (dw (nx (U b 11)) (n : Int)) (U (b + 1) (dw (nx (U b 11)) (n : Int)) - 1) (lfM wd hi b w (dw (nx (U b 11)) (n : Int)) (drM b U)))).2 (b + 1) (landR wd hi b w 10 (dw (nx (U b 11)) (n : Int)) (hput n wd hi b (dw (nx (U b 11)) (n : Int)) (U (b + 1) (dw (nx (U b 11)) (n : Int)) - 1) (lfM wd hi b w (dw (nx (U b 11)) (n : Int)) (drM b U)))).1 + 1) (landR wd hi b w 10 (dw (nx (U b 11)) (n : Int)) (hput n wd hi b (dw (nx (U b 11)) (n : Int)) (U (b + 1) (dw (nx (U b 11)) (n : Int)) - 1) (lfM wd hi b w (dw (nx (U b 11)) (n : Int)) (drM b U)))).2) (by unfold liftM; rw [if_pos hlf]; unfold flyM; rw [if_neg (by omega)]) _ _ _ hG hS (lv_sub hl [2, 3, 4] rfl)
          · refine x_aload_n E dX1_blow_50 (lv_at hl 2 rfl) ?_
            refine x_iload_n E dX1_blow_51 (lv_at hl 3 rfl) ?_
            refine x_cv hG hS (x_runV E hI hG hS (xd0 hX hb) cf1 rfl (c_X1_lose l hX hb (landR wd hi b w 10 (dw (nx (U b 11)) (n : Int)) (hput n wd hi b (dw (nx (U b 11)) (n : Int)) (U (b + 1) (dw (nx (U b 11)) (n : Int)) - 1) (lfM wd hi b w (dw (nx (U b 11)) (n : Int)) (drM b U)))).2 w hw) mf_X1_lose km_X1_173 rfl hl rfl (Nat.le_of_ble_eq_true rfl) (by rw [hR]; exact ⟨Nat.le_of_ble_eq_true rfl, Nat.le_of_ble_eq_true rfl⟩) ⟨Nat.zero_le _, Nat.zero_le _⟩ dX1_blow_52) (fun V1 H locs hp hG hS => ?_)
            have eV := hp
            rw [eV] at hG
            refine x_goto E 64 dX1_blow_55 (by decide) ?_
            exact L64_2 (loseM b w (landR wd hi b w 10 (dw (nx (U b 11)) (n : Int)) (hput n wd hi b (dw (nx (U b 11)) (n : Int)) (U (b + 1) (dw (nx (U b 11)) (n : Int)) - 1) (lfM wd hi b w (dw (nx (U b 11)) (n : Int)) (drM b U)))).2) (by unfold liftM; rw [if_pos hlf]; unfold flyM; rw [if_pos (by omega)]) _ _ _ hG hS (lv_sub hl [2, 3, 4] rfl)
  exact L2_1 _ 0 V (by omega) (by omega) rfl hk (Nat.lt_succ_self _) _ _ _ hG hS (lv_sub hl [1, 2, 0] rfl)

set_option maxHeartbeats 4000000 in
set_option maxRecDepth 100000 in
theorem c_X1_bringSupply (l : Launch) {X : We} {n b : Nat} (hX : isX X n) (hb : isD b) {wd hi t : Int} (V : Mem) (hk : Mid V n wd hi b t) (ht : t + 20 ≤ 60100) : Mt l X V yX1_bringSupply cX1_bringSupply 2 none 4 91 [.ref (wa X b)] (Qv X (fun V1 => V1 = itM (supM n wd hi b) (V (b + 10) 4).toNat V)) := by
  refine Mt.go (by decide) (Nat.le_of_ble_eq_true rfl) ?_
  intro pg ev s0 mi bl mt cd ls Rm ag Qq hR hQ E hI hG hS hl
  have hl : lv_has ls 2 [(0, .ref (wa X b))] := hl
  obtain ⟨⟨hs, hh, hz⟩, ⟨r2, r3, r4, r5, r6, r7, r8, r9, r10, r11⟩, hsk, hday⟩ := id hk
  have hd := hs.2.2.2.1
  have hbn : bnd n 0 9500 (V (b + 1)) := hh.ps hd |>.1
  obtain ⟨hn1, hn2⟩ := dims.n hd
  obtain ⟨hb1, hb2⟩ := isD.ge hb
  refine x_iconst E dX1_bringSupply_0 ?_
  refine x_istore_n E [(1, .int (jI 0)), (0, .ref (wa X b))] dX1_bringSupply_1 hl (by decide) rfl (fun ls hl => ?_)
  have L2_1 : ∀ (N : Nat) (i : Int) (U : Mem), (0 ≤ i) → (i ≤ V (b + 10) 4) → (U = itM (supM n wd hi b) i.toNat V) → (Mid U n wd hi b (t + i)) → (U (b + 10) = V (b + 10)) → ((V (b + 10) 4 - i).toNat) < N → ∀ (H : Heap) (locs : List Loc) (ls : Array Slot), GW X U H → va_S (wA X) s0.heap H locs → lv_has ls 2 [(0, .ref (wa X b)), (1, .int (jI i))] → W pg l ev Rm s0 mi ag bl mt cd H locs 0 0 Qq (F0 mi 2 ls []) := by
    intro N
    induction N with
    | zero => intro i U i0 i1 eU hU e4 hN; exact absurd hN (Nat.not_lt_zero _)
    | succ N ih2 =>
      intro i U i0 i1 eU hU e4 hN H locs ls hG hS hl
      refine x_iload_n E dX1_bringSupply_2 (lv_at hl 1 rfl) ?_
      refine x_aload_n E dX1_bringSupply_3 (lv_at hl 0 rfl) ?_
      refine x_getr E hI hG (xd0 hX hb) cf1 9 (b + 10) rfl (by decide) kf_X1_22 dX1_bringSupply_4 ?_
      refine x_iconst E dX1_bringSupply_7 ?_
      refine x_iald E hI hG (xd10 hX hb) (V (b + 10) 4) (by rw [e4]) (by omega) dX1_bringSupply_8 ?_
      refine x_icmp_ge E 51 dX1_bringSupply_9 (by decide) (by unfold rg; omega) (by unfold rg; omega) (fun c9 => ?_) (fun c9 => ?_)
      · exact r_v E hQ hG hS dX1_bringSupply_51 (by rw [eU, show i = V (b + 10) 4 by omega])
      · have hw1 : U 1 1 = hi := hU.1.1.2.1
        have hw0 : U 1 0 = wd := hU.1.1.1
        have hw := dw_rg (nx (U b 11)) (m := hi) (by have := hd.2.2.2.1; omega)
        have hc := cell_of hd (x := 0) hw.1 hw.2 (by omega) (by have := hd.2.1; omega)
        simp only [Int.add_zero] at hc
        have h15 := (hU.scal hb1 (k := 15) (U b 15 + 1) (by decide)).dr hb1
        have e15 : (st U b 15 (U b 15 + 1)) b 11 = U b 11 := st_k (by decide)
        have eH : (drM b (st U b 15 (U b 15 + 1))) (b + 1) = U (b + 1) := by rw [drM_p (by omega), st_p (by omega)]
        have hd2 := hd.2.2.2
        have hd3 := hd.2.1
        have hd4 := hd.2.2.1
        refine x_aload_n E dX1_bringSupply_12 (lv_at hl 0 rfl) ?_
        refine x_dup E dX1_bringSupply_13 rfl ?_
        refine x_geti E hI hG (xd0 hX hb) cf1 15 (U b 15) rfl (by decide) rfl kf_X1_83 dX1_bringSupply_14 ?_
        refine x_iconst E dX1_bringSupply_17 ?_
        refine x_iadd E dX1_bringSupply_18 ?_
        refine x_puti E hI hG hS (xd0 hX hb) cf1 15 15 rfl rfl (by decide) rfl rfl kf_X1_83 dX1_bringSupply_19 (fun H locs hG hS => ?_)
        refine x_aload_n E dX1_bringSupply_22 (lv_at hl 0 rfl) ?_
        refine x_aload_n E dX1_bringSupply_23 (lv_at hl 0 rfl) ?_
        refine x_aload_n E dX1_bringSupply_24 (lv_at hl 0 rfl) ?_
        refine x_getr E hI hG (xd0 hX hb) cf1 0 1 rfl (by decide) kf_X1_36 dX1_bringSupply_25 ?_
        refine x_geti E hI hG (xs0 hX) cf3 1 (hi) rfl (by decide) (by rw [st_p (by omega)]; exact hw1) kf_X1_104 dX1_bringSupply_28 ?_
        refine x_ci hG hS (x_runV E hI hG hS (xd0 hX hb) cf1 rfl (c_X1_draw l hX hb (st U b 15 (U b 15 + 1)) hi (by omega)) mf_X1_draw km_X1_157 rfl hl rfl (Nat.le_of_ble_eq_true rfl) (by rw [hR]; exact ⟨Nat.le_of_ble_eq_true rfl, Nat.le_of_ble_eq_true rfl⟩) ⟨Nat.zero_le _, Nat.zero_le _⟩ dX1_bringSupply_31) (fun z1 V1 H locs hp hG hS => ?_)
        obtain ⟨ez, eV⟩ := hp
        rw [e15] at ez
        rw [eV] at hG
        rw [ez]
        refine x_aload_n E dX1_bringSupply_34 (lv_at hl 0 rfl) ?_
        refine x_getr E hI hG (xd0 hX hb) cf1 0 1 rfl (by decide) kf_X1_36 dX1_bringSupply_35 ?_
        refine x_geti E hI hG (xs0 hX) cf3 0 (wd) rfl (by decide) (by rw [drM_p (by omega), st_p (by omega)]; exact hw0) kf_X1_107 dX1_bringSupply_38 ?_
        refine x_imul E dX1_bringSupply_41 ?_
        refine x_cv hG hS (x_runV E hI hG hS (xd0 hX hb) cf1 rfl (c_X1_raise l hX hb (drM b (st U b 15 (U b 15 + 1))) h15.1 (dw (nx (U b 11)) hi * wd) ⟨hc.1, hc.2.1⟩) mf_X1_raise km_X1_160 rfl hl rfl (Nat.le_of_ble_eq_true rfl) (by rw [hR]; exact ⟨Nat.le_of_ble_eq_true rfl, Nat.le_of_ble_eq_true rfl⟩) ⟨Nat.zero_le _, Nat.zero_le _⟩ dX1_bringSupply_42) (fun V1 H locs hp hG hS => ?_)
        have eV := hp
        rw [eH] at eV
        rw [eV] at hG
        refine x_iinc E (k := 1) [(1, .int (jI (i + 1))), (0, .ref (wa X b))] dX1_bringSupply_45 hl rfl (by decide) rfl (fun ls hl => ?_)
        refine x_goto E 2 dX1_bringSupply_48 (by decide) ?_
        exact ih2 (i + 1) (supM n wd hi b U) (by omega) (by omega) (by rw [eU, show (i + 1).toNat = i.toNat + 1 by omega]; rfl) (by rw [← Int.add_assoc]; exact hU.sup hb1 (by omega)) (by unfold supM; rw [hput_p _ _ (by omega), drM_p (by omega), st_p (by omega)]; exact e4) (by omega) _ _ _ hG hS (lv_sub hl [1, 0] rfl)
  exact L2_1 _ 0 V (by omega) (by omega) rfl (by rw [Int.add_zero]; exact hk) rfl (Nat.lt_succ_self _) _ _ _ hG hS (lv_sub hl [1, 0] rfl)
