theorem pk_cp {V : Mem} {b a : Nat} {U : Mem} {f : Int → Int} {g : Int} : pk (cpF V b a) b U f g = pk V a U f g := by
  funext p
  unfold pk
  rw [cpF_b, cpF_j (j := 11) (by decide) (by decide), cpF_j (j := 10) (by decide) (by decide)]
  split
  · rfl
  · split
    · rw [cpF_j (j := p) (by omega) (by omega)]
    · rfl
theorem WR.cp {U V : Mem} {b a : Nat} (h : WR U V a) : WR U (cpF V b a) b := by
  unfold WR
  rw [cpF_j (j := 11) (by decide) (by decide), cpF_j (j := 12) (by decide) (by decide), cpF_j (j := 13) (by decide) (by decide)]
  exact h
theorem FK.other {U U1 V : Mem} {a : Nat} {q r : Int} (h : FK U U1 q) (hqr : q + 1 ≤ r ∨ r + 1 ≤ q) (hk : KP U V a r) : KP U1 V a r := by
  obtain ⟨-, h1, h2, h3, h4⟩ := h
  exact hk.at (fun k _ _ => h1 k (by omega)) (fun k _ _ => h2 k (by omega)) (fun k _ _ => h3 k (by omega)) (fun k _ _ => h4 k (by omega))
theorem q_pw5 {h : Int} (h0 : 0 ≤ h) (h1 : h ≤ 5) : jI 1 <<< (jI h &&& 31) = jI (2 ^ h.toNat) := by
  rcases (show h = 0 ∨ h = 1 ∨ h = 2 ∨ h = 3 ∨ h = 4 ∨ h = 5 by omega) with rfl | rfl | rfl | rfl | rfl | rfl <;> decide
theorem q_or0 (a : Int) : jI a ||| jI 0 = jI a := by
  rw [j_0]; simp
theorem Rl.m0 {V U U1 : Mem} {n : Nat} {wd hi : Int} (h : Rl V U n wd hi) (hK : KP U1 V bN 1) (hF : FK U U1 1) : Rl (st (cpF V bM bN) 55 3 0) (st U1 0 38 0) n wd hi := by
  obtain ⟨hU, h2, h3, h4, h5, h6, h7, ⟨w0, w1, w2, w3, w4⟩, f0, f1, f2, f3⟩ := h
  have e1 := bN3
  have e2 := bM17
  have eU : ∀ p, p ≠ 21 → p ≠ 22 → p ≠ 23 → p ≠ 24 → U1 p = U p := hF.1
  have eV : ∀ p, p < bM ∨ bM + 14 ≤ p → cpF V bM bN p = V p := fun p hp => cpF_p hp
  refine ⟨hU.fld (fun j hj => by rw [st_k (by omega), eU 0 (by decide) (by decide) (by decide) (by decide)]), (h2.at (by rw [st_p (by decide), eU 9 (by decide) (by decide) (by decide) (by decide)]) (by rw [st_p (by decide), eU 10 (by decide) (by decide) (by decide) (by decide)])).of (by rw [st_p (by omega), eV _ (by omega)]) (by rw [st_p (by omega), eV _ (by omega)]) (by rw [st_p (by omega), eV _ (by omega)]), ?_, ?_, ?_, ?_, ?_, ⟨?_, ?_, ?_, ?_, ?_⟩, ?_, ?_, ?_, ?_⟩
  · have hK2 : KP (st U1 0 38 0) V bN 1 := hK.rows (fun p p0 p1 => st_p (by omega))
    obtain ⟨k1, k2, k3, k4, k5⟩ := hK2
    unfold KP
    rw [st_p (show bM ≠ 55 by omega), st_p (show bM + 10 ≠ 55 by omega), st_p (show bM + 11 ≠ 55 by omega), st_p (show bM + 12 ≠ 55 by omega), st_p (show bM + 13 ≠ 55 by omega), cpF_b, cpF_j (j := 10) (by decide) (by decide), cpF_j (j := 11) (by decide) (by decide), cpF_j (j := 12) (by decide) (by decide), cpF_j (j := 13) (by decide) (by decide)]
    exact ⟨fun j c j0 j1 c0 c1 => by rw [st_p (show bM + j ≠ 55 by omega), cpF_j (j := j) (by omega) (by omega)]; exact k1 j c j0 j1 c0 c1, k2, k3, k4, k5⟩
  · rw [st_p (by decide), st_p (by decide), eU 11 (by decide) (by decide) (by decide) (by decide), eV _ (by omega)]; exact h4
  · rw [st_k (by decide), st_p (by decide), eU 0 (by decide) (by decide) (by decide) (by decide), eV _ (by omega)]; exact h5
  · rw [st_k (by decide), st_p (by decide), eU 0 (by decide) (by decide) (by decide) (by decide), eV _ (by omega)]; exact h6
  · rw [st_k (by decide), st_p (by decide), eU 0 (by decide) (by decide) (by decide) (by decide), eV _ (by omega)]; exact h7
  · rw [st_k (by decide), st_p (by decide), eU 0 (by decide) (by decide) (by decide) (by decide), eV _ (by omega)]; exact w0
  · rw [st_p (by decide), st_p (by decide), eU 14 (by decide) (by decide) (by decide) (by decide), eV _ (by omega)]; exact w1
  · rw [st_p (by decide), st_p (by decide), eU 15 (by decide) (by decide) (by decide) (by decide), eV _ (by omega)]; exact w2
  · rw [st_p (by decide), st_p (by decide), eU 16 (by decide) (by decide) (by decide) (by decide), eV _ (by omega)]; exact w3
  · rw [st_p (by decide), st_p (by decide), eU 17 (by decide) (by decide) (by decide) (by decide), eV _ (by omega)]; exact w4
  · rw [st_s, st_s]
  · rw [st_p (by decide), st_p (by decide), eU 18 (by decide) (by decide) (by decide) (by decide), eV _ (by omega)]; exact f1
  · rw [st_p (by decide), st_p (by decide), eU 19 (by decide) (by decide) (by decide) (by decide), eV _ (by omega)]; exact f2
  · rw [st_p (by decide), st_p (by decide), eU 20 (by decide) (by decide) (by decide) (by decide), eV _ (by omega)]; exact f3

set_option maxHeartbeats 4000000 in
set_option maxRecDepth 100000 in
theorem c_X8_mark (l : Launch) {X : We} (hY : isY X) {n : Nat} {wd hi : Int} (V U : Mem) (f : Int → Int) (g : Int) (hL : Rl V U n wd hi) (hf : bo f) (hk : XI V n wd hi) : Mt l X (pk V bN U f g) yX8_mark cX8_mark 1 none 1 23 [.ref (wa X 0)] (Qv X (fun W1 => MR (st (cpF V bM bN) 55 3 0) W1 n wd hi)) := by
  refine Mt.go (by decide) (Nat.le_of_ble_eq_true rfl) ?_
  intro pg ev s0 mi bl mt cd ls Rm ag Qq hR hQ E hI hG hS hl
  have hl : lv_has ls 1 [(0, .ref (wa X 0))] := hl
  obtain ⟨hU, hWR, hKP, e11, e22, e29, e30, ⟨e33, e14, e15, e16, e17⟩, e38, e18, e19, e20⟩ := id hL
  obtain ⟨iN, iM, zT, hTP, hWK, hFL⟩ := id hk
  have hd := hU.2.2.2
  obtain ⟨hn1, hn2⟩ := dims.n hd
  have dyN := iN.2.2.2
  have dyM := iM.2.2.2
  have eN := bN3
  refine x_aload_n E dX8_mark_0 (lv_at hl 0 rfl) ?_
  refine x_iconst E dX8_mark_1 ?_
  refine x_cv hG hS (x_runV E hI hG hS (ym0 hY) cf8 rfl (c_X8_keeps l hY V U f g hWR 1 (by omega)) mf_X8_keeps km_X8_106 rfl hl rfl (Nat.le_of_ble_eq_true rfl) (by rw [hR]; exact ⟨Nat.le_of_ble_eq_true rfl, Nat.le_of_ble_eq_true rfl⟩) ⟨Nat.zero_le _, Nat.zero_le _⟩ dX8_mark_2) (fun V1 H locs hp hG hS => ?_)
  obtain ⟨U1, eV, hK1, hF1⟩ := hp
  rw [eV] at hG
  refine x_aload_n E dX8_mark_5 (lv_at hl 0 rfl) ?_
  refine x_iconst E dX8_mark_6 ?_
  refine x_puti E hI hG hS (ym0 hY) cf8 38 38 rfl rfl (by decide) rfl rfl kf_X8_261 dX8_mark_7 (fun H locs hG hS => ?_)
  rw [show (st (pk V bN U1 f g) 0 38 0) = (pk V bN (st U1 0 38 0) f g) from pk_o (by decide) _] at hG
  exact r_v E hQ hG hS dX8_mark_10 (MR.mk2 (fun p _ _ => by rw [st_p (by omega), cpF_p (by have := bM17; omega)]) (hL.m0 hK1 hF1) hf)

set_option maxHeartbeats 4000000 in
set_option maxRecDepth 100000 in
theorem c_X8_does (l : Launch) {X : We} (hY : isY X) {n b : Nat} {wd hi : Int} (U : Mem) (hU : MU U n wd hi) (V : Mem) (f : Int → Int) (g : Int) (hf : bo f) {t : Int} (hk : Mid V n wd hi b t) (k : Int) (hk4 : 0 ≤ k ∧ k < 4) (hw : (0 ≤ U 14 k ∧ U 14 k ≤ 2) ∧ (0 ≤ U 15 k ∧ U 15 k < (n : Int)) ∧ 1 ≤ U 16 k ∧ U 16 k ≤ 99) : Mt l X (pk V b U f g) yX8_does cX8_does 3 none 4 93 [.ref (wa X 0), .int (jI k)] (Qv X (fun V1 => ∃ f1 g1, V1 = pk (doM n wd hi b (U 14 k) (U 15 k) (U 16 k) V) b U f1 g1 ∧ bo f1)) := by
  refine Mt.go (by decide) (Nat.le_of_ble_eq_true rfl) ?_
  intro pg ev s0 mi bl mt cd ls Rm ag Qq hR hQ E hI hG hS hl
  have hl : lv_has ls 3 [(0, .ref (wa X 0)), (1, .int (jI k))] := hl
  have hv1 := hk.1.2.1.bnd hU.2.2.2 (U 15 k) hw.2.1.1 hw.2.1.2
  obtain ⟨hn1, hn2⟩ := dims.n hU.2.2.2
  have L99_1 : ∀ (f1 : Int → Int) (g1 : Int), (bo f1) → ∀ (H : Heap) (locs : List Loc) (ls : Array Slot), GW X (pk (doM n wd hi b (U 14 k) (U 15 k) (U 16 k) V) b U f1 g1) H → va_S (wA X) s0.heap H locs → lv_has ls 3 [] → W pg l ev Rm s0 mi ag bl mt cd H locs 0 0 Qq (F0 mi 99 ls []) := by
    intro f1 g1 hf1 H locs ls hG hS hl
    exact r_v E hQ hG hS dX8_does_99 (⟨f1, g1, rfl, hf1⟩)
  refine x_aload_n E dX8_does_0 (lv_at hl 0 rfl) ?_
  refine x_getr E hI hG (ym0 hY) cf8 35 15 rfl (by decide) kf_X8_63 dX8_does_1 ?_
  refine x_iload_n E dX8_does_4 (lv_at hl 1 rfl) ?_
  refine x_iald E hI hG (ym15 hY) (U 15 k) rfl (by omega) dX8_does_5 ?_
  refine x_istore_n E [(2, .int (jI (U 15 k))), (0, .ref (wa X 0)), (1, .int (jI k))] dX8_does_6 hl (by decide) rfl (fun ls hl => ?_)
  refine x_aload_n E dX8_does_7 (lv_at hl 1 rfl) ?_
  refine x_getr E hI hG (ym0 hY) cf8 34 14 rfl (by decide) kf_X8_60 dX8_does_8 ?_
  refine x_iload_n E dX8_does_11 (lv_at hl 2 rfl) ?_
  refine x_iald E hI hG (ym14 hY) (U 14 k) rfl (by omega) dX8_does_12 ?_
  refine x_if_ne E 31 dX8_does_13 (by decide) (by unfold rg; omega) (fun c13 => ?_) (fun c13 => ?_)
  · refine x_aload_n E dX8_does_31 (lv_at hl 1 rfl) ?_
    refine x_getr E hI hG (ym0 hY) cf8 34 14 rfl (by decide) kf_X8_60 dX8_does_32 ?_
    refine x_iload_n E dX8_does_35 (lv_at hl 2 rfl) ?_
    refine x_iald E hI hG (ym14 hY) (U 14 k) rfl (by omega) dX8_does_36 ?_
    refine x_iconst E dX8_does_37 ?_
    refine x_icmp_ne E 56 dX8_does_38 (by decide) (by unfold rg; omega) (by unfold rg; omega) (fun c38 => ?_) (fun c38 => ?_)
    · have L93_2 : ∀ (z : Int), (z = (V (b + 1) (U 15 k) - min (U 16 k) (V (b + 1) (U 15 k)))) → ∀ (H : Heap) (locs : List Loc) (ls : Array Slot), GW X (pk V b U f g) H → va_S (wA X) s0.heap H locs → lv_has ls 3 [(0, .ref (wa X 0)), (2, .int (jI (U 15 k)))] → W pg l ev Rm s0 mi ag bl mt cd H locs 0 0 Qq (F0 mi 93 ls [.int (jI z), .int (jI (U 15 k)), .ref (wa X 1)]) := by
        intro z hz H locs ls hG hS hl
        refine x_iast E hI hG hS (ym1 hY) (by omega) dX8_does_93 (fun H locs hG hS => ?_)
        rw [show (st (pk V b U f g) 1 (U 15 k) z) = (pk (st V (b + 1) (U 15 k) z) b U f g) from pk_h (by decide) _ _] at hG
        rw [show (pk (st V (b + 1) (U 15 k) z) b U f g) = (pk (sp V (b + 1) (ui (V (b + 1)) (U 15 k) (V (b + 1) (U 15 k) - min (U 16 k) (V (b + 1) (U 15 k))))) b U f g) from by rw [st_sp, hz]] at hG
        refine x_aload_n E dX8_does_94 (lv_at hl 0 rfl) ?_
        refine x_iload_n E dX8_does_95 (lv_at hl 1 rfl) ?_
        refine x_cv hG hS (x_runV E hI hG hS (ym0 hY) cf8 rfl (c_X8_settledAt l hY U hU V f g hf hk.1.2.1 (U 15 k) (V (b + 1) (U 15 k) - min (U 16 k) (V (b + 1) (U 15 k))) hw.2.1 (by omega)) mf_X8_settledAt km_X8_156 rfl hl rfl (Nat.le_of_ble_eq_true rfl) (by rw [hR]; exact ⟨Nat.le_of_ble_eq_true rfl, Nat.le_of_ble_eq_true rfl⟩) ⟨Nat.zero_le _, Nat.zero_le _⟩ dX8_does_96) (fun V1 H locs hp hG hS => ?_)
        obtain ⟨f2, g2, eV, hf2⟩ := hp
        rw [show hput n wd hi b (U 15 k) (V (b + 1) (U 15 k) - min (U 16 k) (V (b + 1) (U 15 k))) V = doM n wd hi b (U 14 k) (U 15 k) (U 16 k) V by unfold doM; rw [if_neg c13, if_neg (by omega)]] at eV
        rw [eV] at hG
        exact L99_1 f2 g2 hf2 _ _ _ hG hS (lv_sub hl [] rfl)
      refine x_aload_n E dX8_does_56 (lv_at hl 1 rfl) ?_
      refine x_getr E hI hG (ym0 hY) cf8 3 1 rfl (by decide) kf_X8_7 dX8_does_57 ?_
      refine x_iload_n E dX8_does_60 (lv_at hl 0 rfl) ?_
      refine x_aload_n E dX8_does_61 (lv_at hl 1 rfl) ?_
      refine x_getr E hI hG (ym0 hY) cf8 3 1 rfl (by decide) kf_X8_7 dX8_does_62 ?_
      refine x_iload_n E dX8_does_65 (lv_at hl 0 rfl) ?_
      refine x_iald E hI hG (ym1 hY) (V (b + 1) (U 15 k)) rfl (by omega) dX8_does_66 ?_
      refine x_aload_n E dX8_does_67 (lv_at hl 1 rfl) ?_
      refine x_getr E hI hG (ym0 hY) cf8 36 16 rfl (by decide) kf_X8_66 dX8_does_68 ?_
      refine x_iload_n E dX8_does_71 (lv_at hl 2 rfl) ?_
      refine x_iald E hI hG (ym16 hY) (U 16 k) rfl (by omega) dX8_does_72 ?_
      refine x_icmp_ge E 80 dX8_does_73 (by decide) (by unfold rg; omega) (by unfold rg; omega) (fun c73 => ?_) (fun c73 => ?_)
      · refine x_aload_n E dX8_does_80 (lv_at hl 1 rfl) ?_
        refine x_getr E hI hG (ym0 hY) cf8 3 1 rfl (by decide) kf_X8_7 dX8_does_81 ?_
        refine x_iload_n E dX8_does_84 (lv_at hl 0 rfl) ?_
        refine x_iald E hI hG (ym1 hY) (V (b + 1) (U 15 k)) rfl (by omega) dX8_does_85 ?_
        refine x_aload_n E dX8_does_86 (lv_at hl 1 rfl) ?_
        refine x_getr E hI hG (ym0 hY) cf8 36 16 rfl (by decide) kf_X8_66 dX8_does_87 ?_
        refine x_iload_n E dX8_does_90 (lv_at hl 2 rfl) ?_
        refine x_iald E hI hG (ym16 hY) (U 16 k) rfl (by omega) dX8_does_91 ?_
        refine x_isub E dX8_does_92 ?_
        exact L93_2 (V (b + 1) (U 15 k) - U 16 k) (by omega) _ _ _ hG hS (lv_sub hl [1, 0] rfl)
      · refine x_iconst E dX8_does_76 ?_
        refine x_goto E 93 dX8_does_77 (by decide) ?_
        exact L93_2 0 (by omega) _ _ _ hG hS (lv_sub hl [1, 0] rfl)
    · refine x_aload_n E dX8_does_41 (lv_at hl 1 rfl) ?_
      refine x_getr E hI hG (ym0 hY) cf8 5 3 rfl (by decide) kf_X8_16 dX8_does_42 ?_
      refine x_iload_n E dX8_does_45 (lv_at hl 0 rfl) ?_
      refine x_aload_n E dX8_does_46 (lv_at hl 1 rfl) ?_
      refine x_getr E hI hG (ym0 hY) cf8 36 16 rfl (by decide) kf_X8_66 dX8_does_47 ?_
      refine x_iload_n E dX8_does_50 (lv_at hl 2 rfl) ?_
      refine x_iald E hI hG (ym16 hY) (U 16 k) rfl (by omega) dX8_does_51 ?_
      refine x_iast E hI hG hS (ym3 hY) (by omega) dX8_does_52 (fun H locs hG hS => ?_)
      rw [show (st (pk V b U f g) 3 (U 15 k) (U 16 k)) = (pk (st V (b + 3) (U 15 k) (U 16 k)) b U f g) from pk_h (by decide) _ _] at hG
      rw [show (pk (st V (b + 3) (U 15 k) (U 16 k)) b U f g) = (pk (doM n wd hi b (U 14 k) (U 15 k) (U 16 k) V) b U f g) from by unfold doM layM; rw [if_neg c13, if_pos (by omega)]; rfl] at hG
      refine x_goto E 99 dX8_does_53 (by decide) ?_
      exact L99_1 f g hf _ _ _ hG hS (lv_sub hl [] rfl)
  · refine x_aload_n E dX8_does_16 (lv_at hl 1 rfl) ?_
    refine x_getr E hI hG (ym0 hY) cf8 6 4 rfl (by decide) kf_X8_19 dX8_does_17 ?_
    refine x_iload_n E dX8_does_20 (lv_at hl 0 rfl) ?_
    refine x_aload_n E dX8_does_21 (lv_at hl 1 rfl) ?_
    refine x_getr E hI hG (ym0 hY) cf8 36 16 rfl (by decide) kf_X8_66 dX8_does_22 ?_
    refine x_iload_n E dX8_does_25 (lv_at hl 2 rfl) ?_
    refine x_iald E hI hG (ym16 hY) (U 16 k) rfl (by omega) dX8_does_26 ?_
    refine x_iast E hI hG hS (ym4 hY) (by omega) dX8_does_27 (fun H locs hG hS => ?_)
    rw [show (st (pk V b U f g) 4 (U 15 k) (U 16 k)) = (pk (st V (b + 4) (U 15 k) (U 16 k)) b U f g) from pk_h (by decide) _ _] at hG
    rw [show (pk (st V (b + 4) (U 15 k) (U 16 k)) b U f g) = (pk (doM n wd hi b (U 14 k) (U 15 k) (U 16 k) V) b U f g) from by unfold doM layM; rw [if_pos c13]; rfl] at hG
    refine x_goto E 99 dX8_does_28 (by decide) ?_
    exact L99_1 f g hf _ _ _ hG hS (lv_sub hl [] rfl)

set_option maxHeartbeats 4000000 in
set_option maxRecDepth 100000 in
theorem c_X8_areSeen (l : Launch) {X : We} (hY : isY X) {n b : Nat} (V U : Mem) (f : Int → Int) (g : Int) (hn : n ≤ 160) (hh : bnd n 0 9500 (V (b + 1))) (hfl : (0 ≤ U 0 38 ∧ U 0 38 ≤ 20) ∧ ∀ i : Int, 0 ≤ i → i < U 0 38 → (0 ≤ U 18 i ∧ U 18 i < (n : Int)) ∧ (0 ≤ U 19 i ∧ U 19 i ≤ 9999) ∧ 0 ≤ U 20 i ∧ U 20 i ≤ 9) : Mt l X (pk V b U f g) yX8_areSeen cX8_areSeen 3 (some .boolean) 1 22 [.ref (wa X 0)] (Qi X (fun z V1 => z = b2i (agK (V (b + 1)) (U 18) (U 19) (U 20) (U 0 38).toNat) ∧ V1 = (pk V b U f g))) := by
  refine Mt.go (by decide) (Nat.le_of_ble_eq_true rfl) ?_
  intro pg ev s0 mi bl mt cd ls Rm ag Qq hR hQ E hI hG hS hl
  have hl : lv_has ls 3 [(0, .ref (wa X 0))] := hl
  refine x_iconst E dX8_areSeen_0 ?_
  refine x_istore_n E [(1, .int (jI 1)), (0, .ref (wa X 0))] dX8_areSeen_1 hl (by decide) rfl (fun ls hl => ?_)
  refine x_iconst E dX8_areSeen_2 ?_
  refine x_istore_n E [(2, .int (jI 0)), (1, .int (jI 1)), (0, .ref (wa X 0))] dX8_areSeen_3 hl (by decide) rfl (fun ls hl => ?_)
  have L4_1 : ∀ (N : Nat) (i : Int) (z : Int), (0 ≤ i) → (i ≤ U 0 38) → (z = b2i (agK (V (b + 1)) (U 18) (U 19) (U 20) i.toNat)) → ((U 0 38 - i).toNat) < N → ∀ (H : Heap) (locs : List Loc) (ls : Array Slot), GW X (pk V b U f g) H → va_S (wA X) s0.heap H locs → lv_has ls 3 [(0, .ref (wa X 0)), (1, .int (jI z)), (2, .int (jI i))] → W pg l ev Rm s0 mi ag bl mt cd H locs 0 0 Qq (F0 mi 4 ls []) := by
    intro N
    induction N with
    | zero => intro i z i0 i1 hz hN; exact absurd hN (Nat.not_lt_zero _)
    | succ N ih4 =>
      intro i z i0 i1 hz hN H locs ls hG hS hl
      refine x_iload_n E dX8_areSeen_4 (lv_at hl 2 rfl) ?_
      refine x_aload_n E dX8_areSeen_5 (lv_at hl 0 rfl) ?_
      refine x_geti E hI hG (ym0 hY) cf8 38 (U 0 38) rfl (by decide) rfl kf_X8_261 dX8_areSeen_6 ?_
      refine x_icmp_ge E 71 dX8_areSeen_9 (by decide) (by unfold rg; omega) (by unfold rg; omega) (fun c9 => ?_) (fun c9 => ?_)
      · refine x_iload_n E dX8_areSeen_71 (lv_at hl 1 rfl) ?_
        exact r_z E hQ hG hS dX8_areSeen_72 (by rw [hz]; exact b2i_c _) (⟨by rw [hz, show i = U 0 38 by omega], rfl⟩)
      · have es := agK_s (h := V (b + 1)) (cf := U 18) (sf := U 19) (mf := U 20) i0
        have hfi := hfl.2 i i0 (by omega)
        have hzb := b2i_c (agK (V (b + 1)) (U 18) (U 19) (U 20) i.toNat)
        have hv1 := hh (U 18 i) hfi.1.1 hfi.1.2
        have hb20 := hfl.1
        have L64_2 : ∀ (z2 : Int), (z2 = b2i (agK (V (b + 1)) (U 18) (U 19) (U 20) (i + 1).toNat)) → ∀ (H : Heap) (locs : List Loc) (ls : Array Slot), GW X (pk V b U f g) H → va_S (wA X) s0.heap H locs → lv_has ls 3 [(0, .ref (wa X 0)), (2, .int (jI i))] → W pg l ev Rm s0 mi ag bl mt cd H locs 0 0 Qq (F0 mi 64 ls [.int (jI z2)]) := by
          intro z2 hz2 H locs ls hG hS hl
          refine x_istore_n E [(1, .int (jI z2)), (0, .ref (wa X 0)), (2, .int (jI i))] dX8_areSeen_64 hl (by decide) rfl (fun ls hl => ?_)
          refine x_iinc E (k := 2) [(2, .int (jI (i + 1))), (1, .int (jI z2)), (0, .ref (wa X 0))] dX8_areSeen_65 hl rfl (by decide) rfl (fun ls hl => ?_)
          refine x_goto E 4 dX8_areSeen_68 (by decide) ?_
          exact ih4 (i + 1) z2 (by omega) (by omega) hz2 (by omega) _ _ _ hG hS (lv_sub hl [2, 1, 0] rfl)
        have L63_3 : (agK (V (b + 1)) (U 18) (U 19) (U 20) (i + 1).toNat = false) → ∀ (H : Heap) (locs : List Loc) (ls : Array Slot), GW X (pk V b U f g) H → va_S (wA X) s0.heap H locs → lv_has ls 3 [(0, .ref (wa X 0)), (2, .int (jI i))] → W pg l ev Rm s0 mi ag bl mt cd H locs 0 0 Qq (F0 mi 63 ls []) := by
          intro  hy H locs ls hG hS hl
          refine x_iconst E dX8_areSeen_63 ?_
          exact L64_2 0 (by rw [hy]; rfl) _ _ _ hG hS (lv_sub hl [0, 1] rfl)
        refine x_iload_n E dX8_areSeen_12 (lv_at hl 1 rfl) ?_
        refine x_if_eq E 63 dX8_areSeen_13 (by decide) (by unfold rg; omega) (fun c13 => ?_) (fun c13 => ?_)
        · have hsk : agK (V (b + 1)) (U 18) (U 19) (U 20) i.toNat = false := b2i_0.mp (by rw [← hz]; exact c13)
          exact L63_3  (by rw [es, hsk, Bool.false_and]) _ _ _ hG hS (lv_sub hl [0, 2] rfl)
        · have hsk : agK (V (b + 1)) (U 18) (U 19) (U 20) i.toNat = true := b2i_ne.mp (by rw [← hz]; exact c13)
          refine x_aload_n E dX8_areSeen_16 (lv_at hl 0 rfl) ?_
          refine x_getr E hI hG (ym0 hY) cf8 3 1 rfl (by decide) kf_X8_7 dX8_areSeen_17 ?_
          refine x_aload_n E dX8_areSeen_20 (lv_at hl 0 rfl) ?_
          refine x_getr E hI hG (ym0 hY) cf8 39 18 rfl (by decide) kf_X8_72 dX8_areSeen_21 ?_
          refine x_iload_n E dX8_areSeen_24 (lv_at hl 2 rfl) ?_
          refine x_iald E hI hG (ym18 hY) (U 18 i) rfl (by omega) dX8_areSeen_25 ?_
          refine x_iald E hI hG (ym1 hY) (V (b + 1) (U 18 i)) rfl (by omega) dX8_areSeen_26 ?_
          refine x_aload_n E dX8_areSeen_27 (lv_at hl 0 rfl) ?_
          refine x_getr E hI hG (ym0 hY) cf8 40 19 rfl (by decide) kf_X8_75 dX8_areSeen_28 ?_
          refine x_iload_n E dX8_areSeen_31 (lv_at hl 2 rfl) ?_
          refine x_iald E hI hG (ym19 hY) (U 19 i) rfl (by omega) dX8_areSeen_32 ?_
          refine x_aload_n E dX8_areSeen_33 (lv_at hl 0 rfl) ?_
          refine x_getr E hI hG (ym0 hY) cf8 41 20 rfl (by decide) kf_X8_78 dX8_areSeen_34 ?_
          refine x_iload_n E dX8_areSeen_37 (lv_at hl 2 rfl) ?_
          refine x_iald E hI hG (ym20 hY) (U 20 i) rfl (by omega) dX8_areSeen_38 ?_
          refine x_isub E dX8_areSeen_39 ?_
          refine x_aload_n E dX8_areSeen_40 (lv_at hl 0 rfl) ?_
          refine x_getr E hI hG (ym0 hY) cf8 40 19 rfl (by decide) kf_X8_75 dX8_areSeen_41 ?_
          refine x_iload_n E dX8_areSeen_44 (lv_at hl 2 rfl) ?_
          refine x_iald E hI hG (ym19 hY) (U 19 i) rfl (by omega) dX8_areSeen_45 ?_
          refine x_aload_n E dX8_areSeen_46 (lv_at hl 0 rfl) ?_
          refine x_getr E hI hG (ym0 hY) cf8 41 20 rfl (by decide) kf_X8_78 dX8_areSeen_47 ?_
          refine x_iload_n E dX8_areSeen_50 (lv_at hl 2 rfl) ?_
          refine x_iald E hI hG (ym20 hY) (U 20 i) rfl (by omega) dX8_areSeen_51 ?_
          refine x_iadd E dX8_areSeen_52 ?_
          refine x_ci hG hS (x_runS E hI hG hS (c_X8_in l (pk V b U f g) (V (b + 1) (U 18 i)) (U 19 i - U 20 i) (U 19 i + U 20 i) (by unfold rg; omega) (by unfold rg; omega) (by unfold rg; omega)) mf_X8_in km_X8_110 rfl hl rfl (Nat.le_of_ble_eq_true rfl) (by rw [hR]; exact ⟨Nat.le_of_ble_eq_true rfl, Nat.le_of_ble_eq_true rfl⟩) ⟨Nat.zero_le _, Nat.zero_le _⟩ dX8_areSeen_53) (fun z1 V1 H locs hp hG hS => ?_)
          obtain ⟨ez, eV⟩ := hp
          rw [eV] at hG
          rw [ez]
          refine x_if_eq E 63 dX8_areSeen_56 (by decide) b01_rg (fun c56 => ?_) (fun c56 => ?_)
          · exact L63_3  (by rw [es, decide_eq_false (b01_iff0.mp c56), Bool.and_false]) _ _ _ hG hS (lv_sub hl [0, 2] rfl)
          · refine x_iconst E dX8_areSeen_59 ?_
            refine x_goto E 64 dX8_areSeen_60 (by decide) ?_
            exact L64_2 1 (by rw [es, hsk, decide_eq_true (b01_ne c56)]; rfl) _ _ _ hG hS (lv_sub hl [0, 2] rfl)
  exact L4_1 _ 0 1 (by omega) (by omega) rfl (Nat.lt_succ_self _) _ _ _ hG hS (lv_sub hl [2, 1, 0] rfl)

set_option maxHeartbeats 4000000 in
set_option maxRecDepth 100000 in
theorem c_X8_seeks (l : Launch) {X : We} (hY : isY X) {n : Nat} {wd hi : Int} (V U : Mem) (f : Int → Int) (g : Int) (hL : Rl V U n wd hi) (hf : bo f) (hk : XI V n wd hi) (m k : Int) (hm : rg m) (hk2 : rg k) : Mt l X (pk V bN U f g) yX8_seeks cX8_seeks 8 (some .boolean) 6 140 [.ref (wa X 0), .int (jI m), .int (jI k)] (Qi X (fun z W1 => if (0 ≤ m ∧ m ≤ 9999) ∧ 1 ≤ k ∧ k ≤ 60 ∧ V bN 12 + k ≤ 3000 then z = 1 ∧ ∃ Y f1 g1, W1 = pk V bN Y f1 g1 ∧ Rl V Y n wd hi ∧ bo f1 ∧ Y 0 48 = (bsF (csX V) (grX V n wd hi k) m (2 ^ (V 50 4).toNat)).2.2 ∧ Y 0 49 = (bsF (csX V) (grX V n wd hi k) m (2 ^ (V 50 4).toNat)).1 else z = 0 ∧ MR V W1 n wd hi)) := by
  refine Mt.go (by decide) (Nat.le_of_ble_eq_true rfl) ?_
  intro pg ev s0 mi bl mt cd ls Rm ag Qq hR hQ E hI hG hS hl
  have hl : lv_has ls 8 [(0, .ref (wa X 0)), (1, .int (jI m)), (2, .int (jI k))] := hl
  obtain ⟨hU, hWR, hKP, e11, e22, e29, e30, ⟨e33, e14, e15, e16, e17⟩, e38, e18, e19, e20⟩ := id hL
  obtain ⟨iN, iM, zT, hTP, hWK, hFL⟩ := id hk
  have hd := hU.2.2.2
  obtain ⟨hn1, hn2⟩ := dims.n hd
  have dyN := iN.2.2.2
  have dyM := iM.2.2.2
  have eN := bN3
  unfold rg at hm hk2
  have eT := bT31
  have hw4 := hWK.1
  have L33_1 : (¬ ((0 ≤ m ∧ m ≤ 9999) ∧ 1 ≤ k ∧ k ≤ 60 ∧ V bN 12 + k ≤ 3000)) → ∀ (H : Heap) (locs : List Loc) (ls : Array Slot), GW X (pk V bN U f g) H → va_S (wA X) s0.heap H locs → lv_has ls 8 [] → W pg l ev Rm s0 mi ag bl mt cd H locs 0 0 Qq (F0 mi 33 ls []) := by
    intro  hno H locs ls hG hS hl
    refine x_iconst E dX8_seeks_33 ?_
    exact r_z E hQ hG hS dX8_seeks_34 (Or.inl rfl) (by rw [if_neg hno]; exact ⟨rfl, MR.mk hL hf⟩)
  refine x_iload_n E dX8_seeks_0 (lv_at hl 1 rfl) ?_
  refine x_iconst E dX8_seeks_1 ?_
  refine x_sipush E dX8_seeks_2 (by decide) ?_
  refine x_ci hG hS (x_runS E hI hG hS (c_X8_in l (pk V bN U f g) m 0 9999 (by unfold rg; omega) (by unfold rg; omega) (by unfold rg; omega)) mf_X8_in km_X8_110 rfl hl rfl (Nat.le_of_ble_eq_true rfl) (by rw [hR]; exact ⟨Nat.le_of_ble_eq_true rfl, Nat.le_of_ble_eq_true rfl⟩) ⟨Nat.zero_le _, Nat.zero_le _⟩ dX8_seeks_5) (fun z1 V1 H locs hp hG hS => ?_)
  obtain ⟨ez, eV⟩ := hp
  rw [eV] at hG
  rw [ez]
  refine x_if_eq E 33 dX8_seeks_8 (by decide) b01_rg (fun c8 => ?_) (fun c8 => ?_)
  · have q8 := b01_iff0.mp c8
    exact L33_1  (by omega) _ _ _ hG hS (lv_sub hl [] rfl)
  · have q8 := b01_ne c8
    refine x_iload_n E dX8_seeks_11 (lv_at hl 2 rfl) ?_
    refine x_iconst E dX8_seeks_12 ?_
    refine x_bipush E dX8_seeks_13 (by decide) ?_
    refine x_ci hG hS (x_runS E hI hG hS (c_X8_in l (pk V bN U f g) k 1 60 (by unfold rg; omega) (by unfold rg; omega) (by unfold rg; omega)) mf_X8_in km_X8_110 rfl hl rfl (Nat.le_of_ble_eq_true rfl) (by rw [hR]; exact ⟨Nat.le_of_ble_eq_true rfl, Nat.le_of_ble_eq_true rfl⟩) ⟨Nat.zero_le _, Nat.zero_le _⟩ dX8_seeks_15) (fun z1 V1 H locs hp hG hS => ?_)
    obtain ⟨ez, eV⟩ := hp
    rw [eV] at hG
    rw [ez]
    refine x_if_eq E 33 dX8_seeks_18 (by decide) b01_rg (fun c18 => ?_) (fun c18 => ?_)
    · have q18 := b01_iff0.mp c18
      exact L33_1  (by omega) _ _ _ hG hS (lv_sub hl [] rfl)
    · have q18 := b01_ne c18
      refine x_aload_n E dX8_seeks_21 (lv_at hl 0 rfl) ?_
      refine x_geti E hI hG (ym0 hY) cf8 12 (V bN 12) rfl (by decide) rfl kf_X8_115 dX8_seeks_22 ?_
      refine x_iload_n E dX8_seeks_25 (lv_at hl 2 rfl) ?_
      refine x_iadd E dX8_seeks_26 ?_
      refine x_sipush E dX8_seeks_27 (by decide) ?_
      refine x_icmp_le E 35 dX8_seeks_30 (by decide) (by unfold rg; omega) (by unfold rg; omega) (fun c30 => ?_) (fun c30 => ?_)
      · have hpw := pow_rg hw4.1 hw4.2
        have hok : (0 ≤ m ∧ m ≤ 9999) ∧ 1 ≤ k ∧ k ≤ 60 ∧ V bN 12 + k ≤ 3000 := ⟨q8, q18.1, q18.2, by omega⟩
        have hwb := hWK.2
        refine x_aload_n E dX8_seeks_35 (lv_at hl 0 rfl) ?_
        refine x_iconst E dX8_seeks_36 ?_
        refine x_cv hG hS (x_runV E hI hG hS (ym0 hY) cf8 rfl (c_X8_keeps l hY V U f g hWR 0 (by omega)) mf_X8_keeps km_X8_106 rfl hl rfl (Nat.le_of_ble_eq_true rfl) (by rw [hR]; exact ⟨Nat.le_of_ble_eq_true rfl, Nat.le_of_ble_eq_true rfl⟩) ⟨Nat.zero_le _, Nat.zero_le _⟩ dX8_seeks_37) (fun V1 H locs hp hG hS => ?_)
        obtain ⟨U1, eV, hK0, hF0⟩ := hp
        rw [eV] at hG
        have u0 : U1 0 = U 0 := hF0.1 0 (by decide) (by decide) (by decide) (by decide)
        refine x_iconst E dX8_seeks_40 ?_
        refine x_istore_n E [(3, .int (jI 0)), (0, .ref (wa X 0)), (1, .int (jI m)), (2, .int (jI k))] dX8_seeks_41 hl (by decide) rfl (fun ls hl => ?_)
        refine x_aload_n E dX8_seeks_42 (lv_at hl 1 rfl) ?_
        refine x_iconst E dX8_seeks_43 ?_
        refine x_puti E hI hG hS (ym0 hY) cf8 48 48 rfl rfl (by decide) rfl rfl kf_X8_246 dX8_seeks_44 (fun H locs hG hS => ?_)
        rw [show (st (pk V bN U1 f g) 0 48 (-1)) = (pk V bN (st U1 0 48 (-1)) f g) from pk_o (by decide) _] at hG
        refine x_iconst E dX8_seeks_47 ?_
        refine x_istore E [(4, .int (jI 0)), (3, .int (jI 0)), (0, .ref (wa X 0)), (1, .int (jI m)), (2, .int (jI k))] dX8_seeks_48 hl (by decide) rfl (fun ls hl => ?_)
        have L50_2 : ∀ (N : Nat) (x : Int) (cc : Int) (Y : Mem) (f1 : Int → Int) (g1 : Int), (0 ≤ x) → (x ≤ (2 ^ (V 50 4).toNat : Int)) → (∀ p, p ≠ 0 → p ≠ 9 → p ≠ 10 → Y p = U1 p) → (∀ j : Int, j ≠ 48 → j ≠ 49 → Y 0 j = U1 0 j) → (Y 0 48 = (bsF (csX V) (grX V n wd hi k) m x.toNat).2.2) → (cc = (bsF (csX V) (grX V n wd hi k) m x.toNat).2.1) → ((bsF (csX V) (grX V n wd hi k) m x.toNat).1 ≠ -1 → Y 0 49 = (bsF (csX V) (grX V n wd hi k) m x.toNat).1) → (WR Y V bN) → (bo f1) → (((2 ^ (V 50 4).toNat : Int) - x).toNat) < N → ∀ (H : Heap) (locs : List Loc) (ls : Array Slot), GW X (pk V bN Y f1 g1) H → va_S (wA X) s0.heap H locs → lv_has ls 8 [(0, .ref (wa X 0)), (1, .int (jI m)), (2, .int (jI k)), (3, .int (jI cc)), (4, .int (jI x))] → W pg l ev Rm s0 mi ag bl mt cd H locs 0 0 Qq (F0 mi 50 ls []) := by
          intro N
          induction N with
          | zero => intro x cc Y f1 g1 x0 x1 yA y0 e1 e2 e3 hWY hf1 hN; exact absurd hN (Nat.not_lt_zero _)
          | succ N ih50 =>
            intro x cc Y f1 g1 x0 x1 yA y0 e1 e2 e3 hWY hf1 hN H locs ls hG hS hl
            refine x_iload E dX8_seeks_50 (lv_at hl 4 rfl) ?_
            refine x_iconst E dX8_seeks_52 ?_
            refine x_aload_n E dX8_seeks_53 (lv_at hl 0 rfl) ?_
            refine x_geti E hI hG (ym0 hY) cf8 33 (V 50 4) rfl (by decide) (show (pk V bN Y f1 g1) 0 33 = V 50 4 from (by show Y 0 33 = _; rw [y0 _ (by decide) (by decide), u0, e33])) kf_X8_243 dX8_seeks_54 ?_
            refine lv_ishl E.1 E.2.1 dX8_seeks_57 ?_
            refine x_rawi ((2 ^ (V 50 4).toNat : Int)) (q_pow (by omega) (by omega)) ?_
            refine x_icmp_ge E 276 dX8_seeks_58 (by decide) (by unfold rg; omega) (by unfold rg; omega) (fun c58 => ?_) (fun c58 => ?_)
            · have exN : x.toNat = 2 ^ (V 50 4).toNat := pow_N hw4.1 hw4.2 (by omega)
              refine x_iconst E dX8_seeks_276 ?_
              exact r_z E hQ hG hS dX8_seeks_277 (Or.inr rfl) (by
                                                                          have hn1 : (bsF (csX V) (grX V n wd hi k) m x.toNat).1 ≠ -1 := bsF_1 (by rw [csX_0]; omega) _ (by omega)
                                                                          rw [if_pos hok, ← exN]
                                                                          refine ⟨rfl, Y, f1, g1, rfl, hL.like hWY ((hF0.other (by decide) hKP).rows (fun p p0 p1 => yA p (by omega) (by omega) (by omega))) (fun j j0 j1 => by rw [y0 j j0 j1, u0]) (fun p p0 p1 p2 p3 => by rw [yA p (by omega) (by omega) (by omega)]; exact hF0.1 p (by omega) (by omega) (by omega) (by omega)), hf1, e1, e3 hn1⟩)
            · have hxr : 0 ≤ x ∧ x < 16 := by omega
              have hUY : MU Y n wd hi := by unfold MU; rw [y0 _ (by decide) (by decide), y0 _ (by decide) (by decide), y0 _ (by decide) (by decide), u0]; exact hU
              have y14 : Y 14 = V 51 := by rw [yA _ (by decide) (by decide) (by decide), hF0.1 14 (by decide) (by decide) (by decide) (by decide)]; exact e14
              have y15 : Y 15 = V 52 := by rw [yA _ (by decide) (by decide) (by decide), hF0.1 15 (by decide) (by decide) (by decide) (by decide)]; exact e15
              have y16 : Y 16 = V 53 := by rw [yA _ (by decide) (by decide) (by decide), hF0.1 16 (by decide) (by decide) (by decide) (by decide)]; exact e16
              have y17 : Y 17 = V 54 := by rw [yA _ (by decide) (by decide) (by decide), hF0.1 17 (by decide) (by decide) (by decide) (by decide)]; exact e17
              have hcr := csX_rg hWK x
              have hgr := grX_rg hk (show 0 ≤ k by omega) (by omega) x
              have hbr := bsF_rg (m := m) (c := csX V) (g := grX V n wd hi k) (fun y _ => csX_rg hWK y) (fun y _ => grX_rg hk (show 0 ≤ k by omega) (by omega) y) x.toNat
              have hbs := bsF_s (c := csX V) (g := grX V n wd hi k) (m := m) x0
              have cI := Inv.cp (a := bN) (b := bT) (by decide) iN zT
              have tM : ∀ i : Nat, (i : Int) ≤ V 50 4 → Mid (coM n wd hi bT (V 51) (V 52) (V 53) x i (cpF V bT bN)) n wd hi bT (20 * (cpF V bT bN) bT 12) := fun i hi' => cI.mid.co (by decide) (m := V 50 4) (fun i i0 i1 => ⟨(hWK.2 i i0 i1).2.1, (hWK.2 i i0 i1).2.2.1⟩) i hi'
              have tR := hk.tr x
              have wCO : WR Y (coM n wd hi bT (V 51) (V 52) (V 53) x (V 50 4).toNat (cpF V bT bN)) bT := hWY.cp.of (by rw [coM_p (by omega)]) (coM_p (by omega) _ _) (coM_p (by omega) _ _)
              have hbb : -1 ≤ Y 0 48 ∧ Y 0 48 ≤ 1520000 ∧ 0 ≤ cc ∧ cc ≤ 3996 ∧ ((bsF (csX V) (grX V n wd hi k) m x.toNat).1 = -1 ↔ Y 0 48 = -1) := by
                rcases hbr with q | q
                · rw [q] at e1 e2 ⊢; dsimp only at *; omega
                · omega
              have L270_3 : ∀ (cc2 : Int) (Y2 : Mem) (f4 : Int → Int) (g4 : Int), (∀ p, p ≠ 0 → p ≠ 9 → p ≠ 10 → Y2 p = U1 p) → (∀ j : Int, j ≠ 48 → j ≠ 49 → Y2 0 j = U1 0 j) → (Y2 0 48 = (bsF (csX V) (grX V n wd hi k) m (x + 1).toNat).2.2) → (cc2 = (bsF (csX V) (grX V n wd hi k) m (x + 1).toNat).2.1) → ((bsF (csX V) (grX V n wd hi k) m (x + 1).toNat).1 ≠ -1 → Y2 0 49 = (bsF (csX V) (grX V n wd hi k) m (x + 1).toNat).1) → (WR Y2 V bN) → (bo f4) → ∀ (H : Heap) (locs : List Loc) (ls : Array Slot), GW X (pk V bN Y2 f4 g4) H → va_S (wA X) s0.heap H locs → lv_has ls 8 [(0, .ref (wa X 0)), (1, .int (jI m)), (2, .int (jI k)), (3, .int (jI cc2)), (4, .int (jI x))] → W pg l ev Rm s0 mi ag bl mt cd H locs 0 0 Qq (F0 mi 270 ls []) := by
                intro cc2 Y2 f4 g4 yAb y0b e1b e2b e3b hWYb hf4 H locs ls hG hS hl
                refine x_iinc E (k := 4) [(4, .int (jI (x + 1))), (0, .ref (wa X 0)), (1, .int (jI m)), (2, .int (jI k)), (3, .int (jI cc2))] dX8_seeks_270 hl rfl (by decide) rfl (fun ls hl => ?_)
                refine x_goto E 50 dX8_seeks_273 (by decide) ?_
                exact ih50 (x + 1) cc2 Y2 f4 g4 (by omega) (by omega) yAb y0b e1b e2b e3b hWYb hf4 (by omega) _ _ _ hG hS (lv_sub hl [1, 2, 3, 4, 0] rfl)
              refine x_iconst E dX8_seeks_61 ?_
              refine x_istore E [(5, .int (jI 0)), (0, .ref (wa X 0)), (1, .int (jI m)), (2, .int (jI k)), (3, .int (jI cc)), (4, .int (jI x))] dX8_seeks_62 hl (by decide) rfl (fun ls hl => ?_)
              refine x_iconst E dX8_seeks_64 ?_
              refine x_istore E [(6, .int (jI 0)), (5, .int (jI 0)), (0, .ref (wa X 0)), (1, .int (jI m)), (2, .int (jI k)), (3, .int (jI cc)), (4, .int (jI x))] dX8_seeks_65 hl (by decide) rfl (fun ls hl => ?_)
              have L67_4 : ∀ (N : Nat) (i : Int) (a : Int), (0 ≤ i) → (i ≤ V 50 4) → (a = su i.toNat (csK (V 54) x)) → ((V 50 4 - i).toNat) < N → ∀ (H : Heap) (locs : List Loc) (ls : Array Slot), GW X (pk V bN Y f1 g1) H → va_S (wA X) s0.heap H locs → lv_has ls 8 [(0, .ref (wa X 0)), (1, .int (jI m)), (2, .int (jI k)), (3, .int (jI cc)), (4, .int (jI x)), (5, .int (jI a)), (6, .int (jI i))] → W pg l ev Rm s0 mi ag bl mt cd H locs 0 0 Qq (F0 mi 67 ls []) := by
                intro N
                induction N with
                | zero => intro i a i0 i1 ea hN; exact absurd hN (Nat.not_lt_zero _)
                | succ N ih67 =>
                  intro i a i0 i1 ea hN H locs ls hG hS hl
                  refine x_iload E dX8_seeks_67 (lv_at hl 6 rfl) ?_
                  refine x_aload_n E dX8_seeks_69 (lv_at hl 0 rfl) ?_
                  refine x_geti E hI hG (ym0 hY) cf8 33 (V 50 4) rfl (by decide) (show (pk V bN Y f1 g1) 0 33 = V 50 4 from (by show Y 0 33 = _; rw [y0 _ (by decide) (by decide), u0, e33])) kf_X8_243 dX8_seeks_70 ?_
                  refine x_icmp_ge E 109 dX8_seeks_73 (by decide) (by unfold rg; omega) (by unfold rg; omega) (fun c73 => ?_) (fun c73 => ?_)
                  · have ex4 : i = V 50 4 := by omega
                    rw [ex4] at ea
                    change a = csX V x at ea
                    refine x_iload E dX8_seeks_109 (lv_at hl 5 rfl) ?_
                    refine x_iload_n E dX8_seeks_111 (lv_at hl 1 rfl) ?_
                    refine x_icmp_le E 118 dX8_seeks_112 (by decide) (by unfold rg; omega) (by unfold rg; omega) (fun c112 => ?_) (fun c112 => ?_)
                    · rw [if_neg (by rw [← ea]; omega)] at hbs
                      rw [ea] at hl
                      rw [← pk_cp (b := bT)] at hG
                      refine x_iconst E dX8_seeks_118 ?_
                      refine x_istore E [(6, .int (jI 0)), (0, .ref (wa X 0)), (1, .int (jI m)), (2, .int (jI k)), (3, .int (jI cc)), (4, .int (jI x)), (5, .int (jI (csX V x)))] dX8_seeks_119 hl (by decide) rfl (fun ls hl => ?_)
                      have L121_5 : ∀ (N : Nat) (i : Int) (f2 : Int → Int) (g2 : Int), (0 ≤ i) → (i ≤ V 50 4) → (bo f2) → ((V 50 4 - i).toNat) < N → ∀ (H : Heap) (locs : List Loc) (ls : Array Slot), GW X (pk (coM n wd hi bT (V 51) (V 52) (V 53) x i.toNat (cpF V bT bN)) bT Y f2 g2) H → va_S (wA X) s0.heap H locs → lv_has ls 8 [(0, .ref (wa X 0)), (1, .int (jI m)), (2, .int (jI k)), (3, .int (jI cc)), (4, .int (jI x)), (5, .int (jI (csX V x))), (6, .int (jI i))] → W pg l ev Rm s0 mi ag bl mt cd H locs 0 0 Qq (F0 mi 121 ls []) := by
                        intro N
                        induction N with
                        | zero => intro i f2 g2 i0 i1 hf2 hN; exact absurd hN (Nat.not_lt_zero _)
                        | succ N ih121 =>
                          intro i f2 g2 i0 i1 hf2 hN H locs ls hG hS hl
                          refine x_iload E dX8_seeks_121 (lv_at hl 6 rfl) ?_
                          refine x_aload_n E dX8_seeks_123 (lv_at hl 0 rfl) ?_
                          refine x_geti E hI hG (ym0 hY) cf8 33 (V 50 4) rfl (by decide) (show (pk (coM n wd hi bT (V 51) (V 52) (V 53) x i.toNat (cpF V bT bN)) bT Y f2 g2) 0 33 = V 50 4 from (by show Y 0 33 = _; rw [y0 _ (by decide) (by decide), u0, e33])) kf_X8_243 dX8_seeks_124 ?_
                          refine x_icmp_ge E 153 dX8_seeks_127 (by decide) (by unfold rg; omega) (by unfold rg; omega) (fun c127 => ?_) (fun c127 => ?_)
                          · have ex4 : i = V 50 4 := by omega
                            rw [ex4] at hG
                            refine x_iconst E dX8_seeks_153 ?_
                            refine x_istore E [(6, .int (jI 0)), (0, .ref (wa X 0)), (1, .int (jI m)), (2, .int (jI k)), (3, .int (jI cc)), (4, .int (jI x)), (5, .int (jI (csX V x)))] dX8_seeks_154 hl (by decide) rfl (fun ls hl => ?_)
                            have L156_6 : ∀ (N : Nat) (i : Int) (f2 : Int → Int) (g2 : Int), (0 ≤ i) → (i ≤ k) → (bo f2) → ((k - i).toNat) < N → ∀ (H : Heap) (locs : List Loc) (ls : Array Slot), GW X (pk (psM n wd hi bT i.toNat (coM n wd hi bT (V 51) (V 52) (V 53) x (V 50 4).toNat (cpF V bT bN))) bT Y f2 g2) H → va_S (wA X) s0.heap H locs → lv_has ls 8 [(0, .ref (wa X 0)), (1, .int (jI m)), (2, .int (jI k)), (3, .int (jI cc)), (4, .int (jI x)), (5, .int (jI (csX V x))), (6, .int (jI i))] → W pg l ev Rm s0 mi ag bl mt cd H locs 0 0 Qq (F0 mi 156 ls []) := by
                              intro N
                              induction N with
                              | zero => intro i f2 g2 i0 i1 hf2 hN; exact absurd hN (Nat.not_lt_zero _)
                              | succ N ih156 =>
                                intro i f2 g2 i0 i1 hf2 hN H locs ls hG hS hl
                                refine x_iload E dX8_seeks_156 (lv_at hl 6 rfl) ?_
                                refine x_iload_n E dX8_seeks_158 (lv_at hl 2 rfl) ?_
                                refine x_icmp_ge E 172 dX8_seeks_159 (by decide) (by unfold rg; omega) (by unfold rg; omega) (fun c159 => ?_) (fun c159 => ?_)
                                · have exk : i = k := by omega
                                  rw [exk] at hG
                                  have tP := (tR.1.pass (by decide) k.toNat (by rw [tR.2]; omega)).1
                                  refine x_iconst E dX8_seeks_172 ?_
                                  refine x_istore E [(6, .int (jI 0)), (0, .ref (wa X 0)), (1, .int (jI m)), (2, .int (jI k)), (3, .int (jI cc)), (4, .int (jI x)), (5, .int (jI (csX V x)))] dX8_seeks_173 hl (by decide) rfl (fun ls hl => ?_)
                                  refine x_iconst E dX8_seeks_175 ?_
                                  refine x_istore E [(7, .int (jI 0)), (6, .int (jI 0)), (0, .ref (wa X 0)), (1, .int (jI m)), (2, .int (jI k)), (3, .int (jI cc)), (4, .int (jI x)), (5, .int (jI (csX V x)))] dX8_seeks_176 hl (by decide) rfl (fun ls hl => ?_)
                                  have L178_7 : ∀ (N : Nat) (i : Int) (a : Int), (0 ≤ i) → (i ≤ (n : Int)) → (a = su i.toNat (hsF (psM n wd hi bT k.toNat (coM n wd hi bT (V 51) (V 52) (V 53) x (V 50 4).toNat (cpF V bT bN))) bT)) → (((n : Int) - i).toNat) < N → ∀ (H : Heap) (locs : List Loc) (ls : Array Slot), GW X (pk (psM n wd hi bT k.toNat (coM n wd hi bT (V 51) (V 52) (V 53) x (V 50 4).toNat (cpF V bT bN))) bT Y f2 g2) H → va_S (wA X) s0.heap H locs → lv_has ls 8 [(0, .ref (wa X 0)), (1, .int (jI m)), (2, .int (jI k)), (3, .int (jI cc)), (4, .int (jI x)), (5, .int (jI (csX V x))), (6, .int (jI a)), (7, .int (jI i))] → W pg l ev Rm s0 mi ag bl mt cd H locs 0 0 Qq (F0 mi 178 ls []) := by
                                    intro N
                                    induction N with
                                    | zero => intro i a i0 i1 eg hN; exact absurd hN (Nat.not_lt_zero _)
                                    | succ N ih178 =>
                                      intro i a i0 i1 eg hN H locs ls hG hS hl
                                      refine x_iload E dX8_seeks_178 (lv_at hl 7 rfl) ?_
                                      refine x_aload_n E dX8_seeks_180 (lv_at hl 0 rfl) ?_
                                      refine x_geti E hI hG (ym0 hY) cf8 2 ((n : Int)) rfl (by decide) (show (pk (psM n wd hi bT k.toNat (coM n wd hi bT (V 51) (V 52) (V 53) x (V 50 4).toNat (cpF V bT bN))) bT Y f2 g2) 0 2 = (n : Int) from hUY.2.2.1) kf_X8_103 dX8_seeks_181 ?_
                                      refine x_icmp_ge E 219 dX8_seeks_184 (by decide) (by unfold rg; omega) (by unfold rg; omega) (fun c184 => ?_) (fun c184 => ?_)
                                      · have exn : i.toNat = n := by omega
                                        rw [exn] at eg
                                        change a = grX V n wd hi k x at eg
                                        rw [eg] at hl
                                        have L265_8 : ∀ (cc2 : Int) (Y2 : Mem), (∀ p, p ≠ 0 → p ≠ 9 → p ≠ 10 → Y2 p = U1 p) → (∀ j : Int, j ≠ 48 → j ≠ 49 → Y2 0 j = U1 0 j) → (Y2 0 48 = (bsF (csX V) (grX V n wd hi k) m (x + 1).toNat).2.2) → (cc2 = (bsF (csX V) (grX V n wd hi k) m (x + 1).toNat).2.1) → ((bsF (csX V) (grX V n wd hi k) m (x + 1).toNat).1 ≠ -1 → Y2 0 49 = (bsF (csX V) (grX V n wd hi k) m (x + 1).toNat).1) → ∀ (H : Heap) (locs : List Loc) (ls : Array Slot), GW X (pk (psM n wd hi bT k.toNat (coM n wd hi bT (V 51) (V 52) (V 53) x (V 50 4).toNat (cpF V bT bN))) bT Y2 f2 g2) H → va_S (wA X) s0.heap H locs → lv_has ls 8 [(0, .ref (wa X 0)), (1, .int (jI m)), (2, .int (jI k)), (3, .int (jI cc2)), (4, .int (jI x))] → W pg l ev Rm s0 mi ag bl mt cd H locs 0 0 Qq (F0 mi 265 ls []) := by
                                          intro cc2 Y2 yAb y0b e1b e2b e3b H locs ls hG hS hl
                                          refine x_aload_n E dX8_seeks_265 (lv_at hl 0 rfl) ?_
                                          refine x_iconst E dX8_seeks_266 ?_
                                          refine x_cv hG hS (x_runV E hI hG hS (ym0 hY) cf8 rfl (c_X8_comesBack l hY (psM n wd hi bT k.toNat (coM n wd hi bT (V 51) (V 52) (V 53) x (V 50 4).toNat (cpF V bT bN))) V Y2 f2 g2 0 (by omega) (hK0.rows (fun p p0 p1 => yAb p (by omega) (by omega) (by omega))) (a := bN) iN.2.2.1.2.1) mf_X8_comesBack km_X8_255 rfl hl rfl (Nat.le_of_ble_eq_true rfl) (by rw [hR]; exact ⟨Nat.le_of_ble_eq_true rfl, Nat.le_of_ble_eq_true rfl⟩) ⟨Nat.zero_le _, Nat.zero_le _⟩ dX8_seeks_267) (fun V1 H locs hp hG hS => ?_)
                                          obtain ⟨Y3, eV, cA, cW⟩ := hp
                                          rw [eV] at hG
                                          exact L270_3 cc2 Y3 f2 g2 (fun p p0 p1 p2 => by rw [cA p p1 p2]; exact yAb p p0 p1 p2) (fun j j0 j1 => by rw [cA 0 (by decide) (by decide)]; exact y0b j j0 j1) (by rw [cA 0 (by decide) (by decide)]; exact e1b) e2b (by rw [cA 0 (by decide) (by decide)]; exact e3b) cW hf2 _ _ _ hG hS (lv_sub hl [0, 1, 2, 3, 4] rfl)
                                        have L250_9 : ((bsF (csX V) (grX V n wd hi k) m x.toNat).1 = -1 ∨ grX V n wd hi k x < (bsF (csX V) (grX V n wd hi k) m x.toNat).2.2 ∨ (grX V n wd hi k x = (bsF (csX V) (grX V n wd hi k) m x.toNat).2.2 ∧ csX V x < (bsF (csX V) (grX V n wd hi k) m x.toNat).2.1)) → ∀ (H : Heap) (locs : List Loc) (ls : Array Slot), GW X (pk (psM n wd hi bT k.toNat (coM n wd hi bT (V 51) (V 52) (V 53) x (V 50 4).toNat (cpF V bT bN))) bT Y f2 g2) H → va_S (wA X) s0.heap H locs → lv_has ls 8 [(0, .ref (wa X 0)), (1, .int (jI m)), (2, .int (jI k)), (3, .int (jI cc)), (4, .int (jI x)), (5, .int (jI (csX V x))), (6, .int (jI (grX V n wd hi k x)))] → W pg l ev Rm s0 mi ag bl mt cd H locs 0 0 Qq (F0 mi 250 ls []) := by
                                          intro  hyes H locs ls hG hS hl
                                          refine x_aload_n E dX8_seeks_250 (lv_at hl 0 rfl) ?_
                                          refine x_iload E dX8_seeks_251 (lv_at hl 6 rfl) ?_
                                          refine x_puti E hI hG hS (ym0 hY) cf8 48 48 rfl rfl (by decide) rfl rfl kf_X8_246 dX8_seeks_253 (fun H locs hG hS => ?_)
                                          rw [show (st (pk (psM n wd hi bT k.toNat (coM n wd hi bT (V 51) (V 52) (V 53) x (V 50 4).toNat (cpF V bT bN))) bT Y f2 g2) 0 48 (grX V n wd hi k x)) = (pk (psM n wd hi bT k.toNat (coM n wd hi bT (V 51) (V 52) (V 53) x (V 50 4).toNat (cpF V bT bN))) bT (st Y 0 48 (grX V n wd hi k x)) f2 g2) from pk_o (by decide) _] at hG
                                          refine x_iload E dX8_seeks_256 (lv_at hl 5 rfl) ?_
                                          refine x_istore_n E [(3, .int (jI (csX V x))), (0, .ref (wa X 0)), (1, .int (jI m)), (2, .int (jI k)), (4, .int (jI x)), (5, .int (jI (csX V x))), (6, .int (jI (grX V n wd hi k x)))] dX8_seeks_258 hl (by decide) rfl (fun ls hl => ?_)
                                          refine x_aload_n E dX8_seeks_259 (lv_at hl 1 rfl) ?_
                                          refine x_iload E dX8_seeks_260 (lv_at hl 4 rfl) ?_
                                          refine x_puti E hI hG hS (ym0 hY) cf8 49 49 rfl rfl (by decide) rfl rfl kf_X8_252 dX8_seeks_262 (fun H locs hG hS => ?_)
                                          rw [show (st (pk (psM n wd hi bT k.toNat (coM n wd hi bT (V 51) (V 52) (V 53) x (V 50 4).toNat (cpF V bT bN))) bT (st Y 0 48 (grX V n wd hi k x)) f2 g2) 0 49 x) = (pk (psM n wd hi bT k.toNat (coM n wd hi bT (V 51) (V 52) (V 53) x (V 50 4).toNat (cpF V bT bN))) bT (st (st Y 0 48 (grX V n wd hi k x)) 0 49 x) f2 g2) from pk_o (by decide) _] at hG
                                          exact L265_8 (csX V x) (st (st Y 0 48 (grX V n wd hi k x)) 0 49 x) (fun p p0 p1 p2 => by rw [st_p p0, st_p p0]; exact yA p p0 p1 p2) (fun j j0 j1 => by rw [st_k j1, st_k j0]; exact y0 j j0 j1) (by rw [hbs, if_pos hyes, st_k (by decide), st_s]) (by rw [hbs, if_pos hyes]) (fun _ => by rw [hbs, if_pos hyes, st_s]) _ _ _ hG hS (lv_sub hl [1, 2, 3, 0, 4] rfl)
                                        refine x_aload_n E dX8_seeks_219 (lv_at hl 0 rfl) ?_
                                        refine x_geti E hI hG (ym0 hY) cf8 48 (Y 0 48) rfl (by decide) rfl kf_X8_246 dX8_seeks_220 ?_
                                        refine x_if_lt E 250 dX8_seeks_223 (by decide) (by unfold rg; omega) (fun c223 => ?_) (fun c223 => ?_)
                                        · exact L250_9  (Or.inl (by omega)) _ _ _ hG hS (lv_sub hl [0, 1, 2, 3, 4, 5, 6] rfl)
                                        · refine x_iload E dX8_seeks_226 (lv_at hl 6 rfl) ?_
                                          refine x_aload_n E dX8_seeks_228 (lv_at hl 0 rfl) ?_
                                          refine x_geti E hI hG (ym0 hY) cf8 48 (Y 0 48) rfl (by decide) rfl kf_X8_246 dX8_seeks_229 ?_
                                          refine x_icmp_lt E 250 dX8_seeks_232 (by decide) (by unfold rg; omega) (by unfold rg; omega) (fun c232 => ?_) (fun c232 => ?_)
                                          · exact L250_9  (Or.inr (Or.inl (by omega))) _ _ _ hG hS (lv_sub hl [0, 1, 2, 3, 4, 5, 6] rfl)
                                          · refine x_iload E dX8_seeks_235 (lv_at hl 6 rfl) ?_
                                            refine x_aload_n E dX8_seeks_237 (lv_at hl 0 rfl) ?_
                                            refine x_geti E hI hG (ym0 hY) cf8 48 (Y 0 48) rfl (by decide) rfl kf_X8_246 dX8_seeks_238 ?_
                                            refine x_icmp_ne E 265 dX8_seeks_241 (by decide) (by unfold rg; omega) (by unfold rg; omega) (fun c241 => ?_) (fun c241 => ?_)
                                            · exact L265_8 cc Y yA y0 (by rw [hbs, if_neg (by omega)]; exact e1) (by rw [hbs, if_neg (by omega)]; exact e2) (by rw [hbs, if_neg (by omega)]; exact e3) _ _ _ hG hS (lv_sub hl [0, 1, 2, 3, 4] rfl)
                                            · refine x_iload E dX8_seeks_244 (lv_at hl 5 rfl) ?_
                                              refine x_iload_n E dX8_seeks_246 (lv_at hl 3 rfl) ?_
                                              refine x_icmp_ge E 265 dX8_seeks_247 (by decide) (by unfold rg; omega) (by unfold rg; omega) (fun c247 => ?_) (fun c247 => ?_)
                                              · exact L265_8 cc Y yA y0 (by rw [hbs, if_neg (by omega)]; exact e1) (by rw [hbs, if_neg (by omega)]; exact e2) (by rw [hbs, if_neg (by omega)]; exact e3) _ _ _ hG hS (lv_sub hl [0, 1, 2, 3, 4] rfl)
                                              · exact L250_9  (Or.inr (Or.inr ⟨by omega, by omega⟩)) _ _ _ hG hS (lv_sub hl [0, 1, 2, 3, 4, 5, 6] rfl)
                                      · have hl1 := tP.2.1.2.2.2.2.1 i i0 (by omega)
                                        have hh1 := (tP.1.2.1.bnd hd) i i0 (by omega)
                                        have es := su_s (f := hsF (psM n wd hi bT k.toNat (coM n wd hi bT (V 51) (V 52) (V 53) x (V 50 4).toNat (cpF V bT bN))) bT) i0
                                        have L210_10 : ∀ (z : Int), (z = hsF (psM n wd hi bT k.toNat (coM n wd hi bT (V 51) (V 52) (V 53) x (V 50 4).toNat (cpF V bT bN))) bT i) → ∀ (H : Heap) (locs : List Loc) (ls : Array Slot), GW X (pk (psM n wd hi bT k.toNat (coM n wd hi bT (V 51) (V 52) (V 53) x (V 50 4).toNat (cpF V bT bN))) bT Y f2 g2) H → va_S (wA X) s0.heap H locs → lv_has ls 8 [(0, .ref (wa X 0)), (1, .int (jI m)), (2, .int (jI k)), (3, .int (jI cc)), (4, .int (jI x)), (5, .int (jI (csX V x))), (7, .int (jI i))] → W pg l ev Rm s0 mi ag bl mt cd H locs 0 0 Qq (F0 mi 210 ls [.int (jI z), .int (jI a)]) := by
                                          intro z hz H locs ls hG hS hl
                                          refine x_iadd E dX8_seeks_210 ?_
                                          refine x_istore E [(6, .int (jI (a + z))), (0, .ref (wa X 0)), (1, .int (jI m)), (2, .int (jI k)), (3, .int (jI cc)), (4, .int (jI x)), (5, .int (jI (csX V x))), (7, .int (jI i))] dX8_seeks_211 hl (by decide) rfl (fun ls hl => ?_)
                                          refine x_iinc E (k := 7) [(7, .int (jI (i + 1))), (6, .int (jI (a + z))), (0, .ref (wa X 0)), (1, .int (jI m)), (2, .int (jI k)), (3, .int (jI cc)), (4, .int (jI x)), (5, .int (jI (csX V x)))] dX8_seeks_213 hl rfl (by decide) rfl (fun ls hl => ?_)
                                          refine x_goto E 178 dX8_seeks_216 (by decide) ?_
                                          exact ih178 (i + 1) (a + z) (by omega) (by omega) (by rw [es, eg, hz]) (by omega) _ _ _ hG hS (lv_sub hl [2, 3, 4, 5, 6, 7, 1, 0] rfl)
                                        refine x_iload E dX8_seeks_187 (lv_at hl 6 rfl) ?_
                                        refine x_aload_n E dX8_seeks_189 (lv_at hl 0 rfl) ?_
                                        refine x_getr E hI hG (ym0 hY) cf8 8 6 rfl (by decide) kf_X8_25 dX8_seeks_190 ?_
                                        refine x_iload E dX8_seeks_193 (lv_at hl 7 rfl) ?_
                                        refine x_iald E hI hG (ym6 hY) ((psM n wd hi bT k.toNat (coM n wd hi bT (V 51) (V 52) (V 53) x (V 50 4).toNat (cpF V bT bN))) (bT + 6) i) rfl (by omega) dX8_seeks_195 ?_
                                        refine x_if_le E 209 dX8_seeks_196 (by decide) (by unfold rg; omega) (fun c196 => ?_) (fun c196 => ?_)
                                        · refine x_iconst E dX8_seeks_209 ?_
                                          exact L210_10 0 (by unfold hsF; rw [if_neg (by omega)]) _ _ _ hG hS (lv_sub hl [0, 1, 2, 3, 4, 5, 7] rfl)
                                        · refine x_aload_n E dX8_seeks_199 (lv_at hl 0 rfl) ?_
                                          refine x_getr E hI hG (ym0 hY) cf8 3 1 rfl (by decide) kf_X8_7 dX8_seeks_200 ?_
                                          refine x_iload E dX8_seeks_203 (lv_at hl 7 rfl) ?_
                                          refine x_iald E hI hG (ym1 hY) ((psM n wd hi bT k.toNat (coM n wd hi bT (V 51) (V 52) (V 53) x (V 50 4).toNat (cpF V bT bN))) (bT + 1) i) rfl (by omega) dX8_seeks_205 ?_
                                          refine x_goto E 210 dX8_seeks_206 (by decide) ?_
                                          exact L210_10 ((psM n wd hi bT k.toNat (coM n wd hi bT (V 51) (V 52) (V 53) x (V 50 4).toNat (cpF V bT bN))) (bT + 1) i) (by unfold hsF; rw [if_pos (by omega)]) _ _ _ hG hS (lv_sub hl [0, 1, 2, 3, 4, 5, 7] rfl)
                                  exact L178_7 _ 0 0 (by omega) (by omega) rfl (Nat.lt_succ_self _) _ _ _ hG hS (lv_sub hl [2, 3, 4, 5, 6, 7, 1, 0] rfl)
                                · have hp := tR.1.pass (by decide) i.toNat (by rw [tR.2]; omega)
                                  refine x_aload_n E dX8_seeks_162 (lv_at hl 0 rfl) ?_
                                  refine x_cv hG hS (x_runV E hI hG hS (ym0 hY) cf8 rfl (c_X8_goes l hY Y hUY (psM n wd hi bT i.toNat (coM n wd hi bT (V 51) (V 52) (V 53) x (V 50 4).toNat (cpF V bT bN))) f2 g2 hf2 (by decide) hp.1 (by rw [hp.2, tR.2]; omega) (wCO.ps _)) mf_X8_goes km_X8_240 rfl hl rfl (Nat.le_of_ble_eq_true rfl) (by rw [hR]; exact ⟨Nat.le_of_ble_eq_true rfl, Nat.le_of_ble_eq_true rfl⟩) ⟨Nat.zero_le _, Nat.zero_le _⟩ dX8_seeks_163) (fun V1 H locs hp hG hS => ?_)
                                  obtain ⟨f3, g3, eV, hf3⟩ := hp
                                  rw [show dayM n wd hi bT (psM n wd hi bT i.toNat (coM n wd hi bT (V 51) (V 52) (V 53) x (V 50 4).toNat (cpF V bT bN))) = (psM n wd hi bT (i + 1).toNat (coM n wd hi bT (V 51) (V 52) (V 53) x (V 50 4).toNat (cpF V bT bN))) from (itM_s i0 _).symm] at eV
                                  rw [eV] at hG
                                  refine x_iinc E (k := 6) [(6, .int (jI (i + 1))), (0, .ref (wa X 0)), (1, .int (jI m)), (2, .int (jI k)), (3, .int (jI cc)), (4, .int (jI x)), (5, .int (jI (csX V x)))] dX8_seeks_166 hl rfl (by decide) rfl (fun ls hl => ?_)
                                  refine x_goto E 156 dX8_seeks_169 (by decide) ?_
                                  exact ih156 (i + 1) f3 g3 (by omega) (by omega) hf3 (by omega) _ _ _ hG hS (lv_sub hl [1, 2, 3, 4, 5, 6, 0] rfl)
                            exact L156_6 _ 0 f2 g2 (by omega) (by omega) hf2 (Nat.lt_succ_self _) _ _ _ hG hS (lv_sub hl [1, 2, 3, 4, 5, 6, 0] rfl)
                          · have hbc := bitv_c x i
                            have L147_11 : ∀ (f3 : Int → Int) (g3 : Int), (bo f3) → ∀ (H : Heap) (locs : List Loc) (ls : Array Slot), GW X (pk (coM n wd hi bT (V 51) (V 52) (V 53) x (i + 1).toNat (cpF V bT bN)) bT Y f3 g3) H → va_S (wA X) s0.heap H locs → lv_has ls 8 [(0, .ref (wa X 0)), (1, .int (jI m)), (2, .int (jI k)), (3, .int (jI cc)), (4, .int (jI x)), (5, .int (jI (csX V x))), (6, .int (jI i))] → W pg l ev Rm s0 mi ag bl mt cd H locs 0 0 Qq (F0 mi 147 ls []) := by
                              intro f3 g3 hf3 H locs ls hG hS hl
                              refine x_iinc E (k := 6) [(6, .int (jI (i + 1))), (0, .ref (wa X 0)), (1, .int (jI m)), (2, .int (jI k)), (3, .int (jI cc)), (4, .int (jI x)), (5, .int (jI (csX V x)))] dX8_seeks_147 hl rfl (by decide) rfl (fun ls hl => ?_)
                              refine x_goto E 121 dX8_seeks_150 (by decide) ?_
                              exact ih121 (i + 1) f3 g3 (by omega) (by omega) hf3 (by omega) _ _ _ hG hS (lv_sub hl [1, 2, 3, 4, 5, 6, 0] rfl)
                            refine x_iload E dX8_seeks_130 (lv_at hl 4 rfl) ?_
                            refine x_iload E dX8_seeks_132 (lv_at hl 6 rfl) ?_
                            refine lv_ishr E.1 E.2.1 dX8_seeks_134 ?_
                            refine x_iconst E dX8_seeks_135 ?_
                            refine lv_iand E.1 E.2.1 dX8_seeks_136 ?_
                            refine x_rawi (bitv x i) (q_bit (by omega) (by omega) i0 (by omega)) ?_
                            refine x_iconst E dX8_seeks_137 ?_
                            refine x_icmp_ne E 147 dX8_seeks_138 (by decide) (bitv_rg _ _) (by unfold rg; omega) (fun c138 => ?_) (fun c138 => ?_)
                            · rw [← show (coM n wd hi bT (V 51) (V 52) (V 53) x (i + 1).toNat (cpF V bT bN)) = (coM n wd hi bT (V 51) (V 52) (V 53) x i.toNat (cpF V bT bN)) by rw [coM_s i0, if_neg (by omega)]] at hG
                              exact L147_11 f2 g2 hf2 _ _ _ hG hS (lv_sub hl [0, 1, 2, 3, 4, 5, 6] rfl)
                            · refine x_aload_n E dX8_seeks_141 (lv_at hl 0 rfl) ?_
                              refine x_iload E dX8_seeks_142 (lv_at hl 6 rfl) ?_
                              refine x_cv hG hS (x_runV E hI hG hS (ym0 hY) cf8 rfl (c_X8_does l hY Y hUY (coM n wd hi bT (V 51) (V 52) (V 53) x i.toNat (cpF V bT bN)) f2 g2 hf2 (tM i.toNat (by omega)) i (by omega) (by rw [y14, y15, y16]; have := hWK.2 i i0 (by omega); exact ⟨this.1, this.2.1, this.2.2.1⟩)) mf_X8_does km_X8_249 rfl hl rfl (Nat.le_of_ble_eq_true rfl) (by rw [hR]; exact ⟨Nat.le_of_ble_eq_true rfl, Nat.le_of_ble_eq_true rfl⟩) ⟨Nat.zero_le _, Nat.zero_le _⟩ dX8_seeks_144) (fun V1 H locs hp hG hS => ?_)
                              obtain ⟨f3, g3, eV, hf3⟩ := hp
                              rw [y14, y15, y16, show doM n wd hi bT (V 51 i) (V 52 i) (V 53 i) (coM n wd hi bT (V 51) (V 52) (V 53) x i.toNat (cpF V bT bN)) = (coM n wd hi bT (V 51) (V 52) (V 53) x (i + 1).toNat (cpF V bT bN)) by rw [coM_s i0, if_pos (by omega)]] at eV
                              rw [eV] at hG
                              exact L147_11 f3 g3 hf3 _ _ _ hG hS (lv_sub hl [0, 1, 2, 3, 4, 5, 6] rfl)
                      exact L121_5 _ 0 f1 g1 (by omega) (by omega) hf1 (Nat.lt_succ_self _) _ _ _ hG hS (lv_sub hl [1, 2, 3, 4, 5, 6, 0] rfl)
                    · rw [if_pos (by rw [← ea]; omega)] at hbs
                      refine x_goto E 270 dX8_seeks_115 (by decide) ?_
                      exact L270_3 cc Y f1 g1 yA y0 (by rw [hbs]; exact e1) (by rw [hbs]; exact e2) (by rw [hbs]; exact e3) hWY hf1 _ _ _ hG hS (lv_sub hl [0, 1, 2, 3, 4] rfl)
                  · have hwi := hwb i i0 (by omega)
                    have hbc := bitv_c x i
                    have L100_12 : ∀ (z : Int), (z = csK (V 54) x i) → ∀ (H : Heap) (locs : List Loc) (ls : Array Slot), GW X (pk V bN Y f1 g1) H → va_S (wA X) s0.heap H locs → lv_has ls 8 [(0, .ref (wa X 0)), (1, .int (jI m)), (2, .int (jI k)), (3, .int (jI cc)), (4, .int (jI x)), (6, .int (jI i))] → W pg l ev Rm s0 mi ag bl mt cd H locs 0 0 Qq (F0 mi 100 ls [.int (jI z), .int (jI a)]) := by
                      intro z hz H locs ls hG hS hl
                      refine x_iadd E dX8_seeks_100 ?_
                      refine x_istore E [(5, .int (jI (a + z))), (0, .ref (wa X 0)), (1, .int (jI m)), (2, .int (jI k)), (3, .int (jI cc)), (4, .int (jI x)), (6, .int (jI i))] dX8_seeks_101 hl (by decide) rfl (fun ls hl => ?_)
                      refine x_iinc E (k := 6) [(6, .int (jI (i + 1))), (5, .int (jI (a + z))), (0, .ref (wa X 0)), (1, .int (jI m)), (2, .int (jI k)), (3, .int (jI cc)), (4, .int (jI x))] dX8_seeks_103 hl rfl (by decide) rfl (fun ls hl => ?_)
                      refine x_goto E 67 dX8_seeks_106 (by decide) ?_
                      exact ih67 (i + 1) (a + z) (by omega) (by omega) (by rw [su_s i0, ea, hz]) (by omega) _ _ _ hG hS (lv_sub hl [2, 3, 4, 5, 6, 1, 0] rfl)
                    refine x_iload E dX8_seeks_76 (lv_at hl 5 rfl) ?_
                    refine x_iload E dX8_seeks_78 (lv_at hl 4 rfl) ?_
                    refine x_iload E dX8_seeks_80 (lv_at hl 6 rfl) ?_
                    refine lv_ishr E.1 E.2.1 dX8_seeks_82 ?_
                    refine x_iconst E dX8_seeks_83 ?_
                    refine lv_iand E.1 E.2.1 dX8_seeks_84 ?_
                    refine x_rawi (bitv x i) (q_bit (by omega) (by omega) i0 (by omega)) ?_
                    refine x_iconst E dX8_seeks_85 ?_
                    refine x_icmp_ne E 99 dX8_seeks_86 (by decide) (bitv_rg _ _) (by unfold rg; omega) (fun c86 => ?_) (fun c86 => ?_)
                    · refine x_iconst E dX8_seeks_99 ?_
                      exact L100_12 0 (by unfold csK; rw [if_neg (by omega)]) _ _ _ hG hS (lv_sub hl [0, 1, 2, 3, 4, 6] rfl)
                    · refine x_aload_n E dX8_seeks_89 (lv_at hl 0 rfl) ?_
                      refine x_getr E hI hG (ym0 hY) cf8 37 17 rfl (by decide) kf_X8_69 dX8_seeks_90 ?_
                      refine x_iload E dX8_seeks_93 (lv_at hl 6 rfl) ?_
                      refine x_iald E hI hG (ym17 hY) (V 54 i) (by show Y 17 i = _; rw [y17]) (by omega) dX8_seeks_95 ?_
                      refine x_goto E 100 dX8_seeks_96 (by decide) ?_
                      exact L100_12 (V 54 i) (by unfold csK; rw [if_pos (by omega)]) _ _ _ hG hS (lv_sub hl [0, 1, 2, 3, 4, 6] rfl)
              exact L67_4 _ 0 0 (by omega) (by omega) rfl (Nat.lt_succ_self _) _ _ _ hG hS (lv_sub hl [2, 3, 4, 5, 6, 1, 0] rfl)
        exact L50_2 _ 0 0 (st U1 0 48 (-1)) f g (by omega) (by omega) (fun p p0 _ _ => st_p p0) (fun j j0 _ => st_k j0) (st_s _ _ _ _) rfl (fun z => absurd rfl z) (hWR.at (by rw [st_p (by decide)]; exact hF0.1 9 (by decide) (by decide) (by decide) (by decide)) (by rw [st_p (by decide)]; exact hF0.1 10 (by decide) (by decide) (by decide) (by decide))) hf (Nat.lt_succ_self _) _ _ _ hG hS (lv_sub hl [2, 3, 4, 1, 0] rfl)
      · exact L33_1  (by omega) _ _ _ hG hS (lv_sub hl [] rfl)

set_option maxHeartbeats 4000000 in
set_option maxRecDepth 100000 in
theorem c_X8_best (l : Launch) {X : We} (hY : isY X) {n : Nat} {wd hi : Int} (V U : Mem) (f : Int → Int) (g : Int) (hL : Rl V U n wd hi) (hf : bo f) (hk : XI V n wd hi) (m k : Int) (hm : rg m) (hk2 : rg k) : Mt l X (pk V bN U f g) yX8_best cX8_best 3 (some .int) 7 167 [.ref (wa X 0), .int (jI m), .int (jI k)] (Qi X (fun z W1 => z = (if (0 ≤ m ∧ m ≤ 9999) ∧ 1 ≤ k ∧ k ≤ 60 ∧ V bN 12 + k ≤ 3000 then (bsF (csX V) (grX V n wd hi k) m (2 ^ (V 50 4).toNat)).2.2 else -1) ∧ MR V W1 n wd hi)) := by
  refine Mt.go (by decide) (Nat.le_of_ble_eq_true rfl) ?_
  intro pg ev s0 mi bl mt cd ls Rm ag Qq hR hQ E hI hG hS hl
  have hl : lv_has ls 3 [(0, .ref (wa X 0)), (1, .int (jI m)), (2, .int (jI k))] := hl
  refine x_aload_n E dX8_best_0 (lv_at hl 0 rfl) ?_
  refine x_iload_n E dX8_best_1 (lv_at hl 1 rfl) ?_
  refine x_iload_n E dX8_best_2 (lv_at hl 2 rfl) ?_
  refine x_ci hG hS (x_runV E hI hG hS (ym0 hY) cf8 rfl (c_X8_seeks l hY V U f g hL hf hk m k hm hk2) mf_X8_seeks km_X8_258 rfl hl rfl (Nat.le_of_ble_eq_true rfl) (by rw [hR]; exact ⟨Nat.le_of_ble_eq_true rfl, Nat.le_of_ble_eq_true rfl⟩) ⟨Nat.zero_le _, Nat.zero_le _⟩ dX8_best_3) (fun z1 V1 H locs hp hG hS => ?_)
  have hp2 := hp
  have hz1 : z1 = 0 ∨ z1 = 1 := by split at hp2; exact Or.inr hp2.1; exact Or.inl hp2.1
  have L17_1 : ∀ (z : Int), (z = if (0 ≤ m ∧ m ≤ 9999) ∧ 1 ≤ k ∧ k ≤ 60 ∧ V bN 12 + k ≤ 3000 then (bsF (csX V) (grX V n wd hi k) m (2 ^ (V 50 4).toNat)).2.2 else -1) → (MR V V1 n wd hi) → ∀ (H : Heap) (locs : List Loc) (ls : Array Slot), GW X V1 H → va_S (wA X) s0.heap H locs → lv_has ls 3 [] → W pg l ev Rm s0 mi ag bl mt cd H locs 0 0 Qq (F0 mi 17 ls [.int (jI z)]) := by
    intro z hz hM H locs ls hG hS hl
    exact r_i E hQ hG hS dX8_best_17 (⟨hz, hM⟩)
  refine x_if_eq E 16 dX8_best_6 (by decide) (by unfold rg; omega) (fun c6 => ?_) (fun c6 => ?_)
  · have hno : ¬ ((0 ≤ m ∧ m ≤ 9999) ∧ 1 ≤ k ∧ k ≤ 60 ∧ V bN 12 + k ≤ 3000) := fun q => by rw [if_pos q] at hp2; omega
    rw [if_neg hno] at hp2
    refine x_iconst E dX8_best_16 ?_
    exact L17_1 (-1) (by rw [if_neg hno]) hp2.2 _ _ _ hG hS (lv_sub hl [] rfl)
  · have hyes : (0 ≤ m ∧ m ≤ 9999) ∧ 1 ≤ k ∧ k ≤ 60 ∧ V bN 12 + k ≤ 3000 := Classical.byContradiction (fun q => by rw [if_neg q] at hp2; omega)
    rw [if_pos hyes] at hp2
    obtain ⟨-, Y, f1, g1, eW, hLY, hf1, b1, b2⟩ := hp2
    refine x_aload_n E dX8_best_9 (lv_at hl 0 rfl) ?_
    refine x_geti E hI hG (ym0 hY) cf8 48 ((bsF (csX V) (grX V n wd hi k) m (2 ^ (V 50 4).toNat)).2.2) rfl (by decide) (show V1 0 48 = (bsF (csX V) (grX V n wd hi k) m (2 ^ (V 50 4).toNat)).2.2 from (by rw [eW]; exact b1)) kf_X8_246 dX8_best_10 ?_
    refine x_goto E 17 dX8_best_13 (by decide) ?_
    exact L17_1 ((bsF (csX V) (grX V n wd hi k) m (2 ^ (V 50 4).toNat)).2.2) (by rw [if_pos hyes]) (by rw [eW]; exact MR.mk hLY hf1) _ _ _ hG hS (lv_sub hl [] rfl)

set_option maxHeartbeats 4000000 in
set_option maxRecDepth 100000 in
theorem c_X8_bestSet (l : Launch) {X : We} (hY : isY X) {n : Nat} {wd hi : Int} (V U : Mem) (f : Int → Int) (g : Int) (hL : Rl V U n wd hi) (hf : bo f) (hk : XI V n wd hi) (m k : Int) (hm : rg m) (hk2 : rg k) : Mt l X (pk V bN U f g) yX8_bestSet cX8_bestSet 3 (some .int) 7 167 [.ref (wa X 0), .int (jI m), .int (jI k)] (Qi X (fun z W1 => z = (if (0 ≤ m ∧ m ≤ 9999) ∧ 1 ≤ k ∧ k ≤ 60 ∧ V bN 12 + k ≤ 3000 then (bsF (csX V) (grX V n wd hi k) m (2 ^ (V 50 4).toNat)).1 else -1) ∧ MR V W1 n wd hi)) := by
  refine Mt.go (by decide) (Nat.le_of_ble_eq_true rfl) ?_
  intro pg ev s0 mi bl mt cd ls Rm ag Qq hR hQ E hI hG hS hl
  have hl : lv_has ls 3 [(0, .ref (wa X 0)), (1, .int (jI m)), (2, .int (jI k))] := hl
  refine x_aload_n E dX8_bestSet_0 (lv_at hl 0 rfl) ?_
  refine x_iload_n E dX8_bestSet_1 (lv_at hl 1 rfl) ?_
  refine x_iload_n E dX8_bestSet_2 (lv_at hl 2 rfl) ?_
  refine x_ci hG hS (x_runV E hI hG hS (ym0 hY) cf8 rfl (c_X8_seeks l hY V U f g hL hf hk m k hm hk2) mf_X8_seeks km_X8_258 rfl hl rfl (Nat.le_of_ble_eq_true rfl) (by rw [hR]; exact ⟨Nat.le_of_ble_eq_true rfl, Nat.le_of_ble_eq_true rfl⟩) ⟨Nat.zero_le _, Nat.zero_le _⟩ dX8_bestSet_3) (fun z1 V1 H locs hp hG hS => ?_)
  have hp2 := hp
  have hz1 : z1 = 0 ∨ z1 = 1 := by split at hp2; exact Or.inr hp2.1; exact Or.inl hp2.1
  have L17_1 : ∀ (z : Int), (z = if (0 ≤ m ∧ m ≤ 9999) ∧ 1 ≤ k ∧ k ≤ 60 ∧ V bN 12 + k ≤ 3000 then (bsF (csX V) (grX V n wd hi k) m (2 ^ (V 50 4).toNat)).1 else -1) → (MR V V1 n wd hi) → ∀ (H : Heap) (locs : List Loc) (ls : Array Slot), GW X V1 H → va_S (wA X) s0.heap H locs → lv_has ls 3 [] → W pg l ev Rm s0 mi ag bl mt cd H locs 0 0 Qq (F0 mi 17 ls [.int (jI z)]) := by
    intro z hz hM H locs ls hG hS hl
    exact r_i E hQ hG hS dX8_bestSet_17 (⟨hz, hM⟩)
  refine x_if_eq E 16 dX8_bestSet_6 (by decide) (by unfold rg; omega) (fun c6 => ?_) (fun c6 => ?_)
  · have hno : ¬ ((0 ≤ m ∧ m ≤ 9999) ∧ 1 ≤ k ∧ k ≤ 60 ∧ V bN 12 + k ≤ 3000) := fun q => by rw [if_pos q] at hp2; omega
    rw [if_neg hno] at hp2
    refine x_iconst E dX8_bestSet_16 ?_
    exact L17_1 (-1) (by rw [if_neg hno]) hp2.2 _ _ _ hG hS (lv_sub hl [] rfl)
  · have hyes : (0 ≤ m ∧ m ≤ 9999) ∧ 1 ≤ k ∧ k ≤ 60 ∧ V bN 12 + k ≤ 3000 := Classical.byContradiction (fun q => by rw [if_neg q] at hp2; omega)
    rw [if_pos hyes] at hp2
    obtain ⟨-, Y, f1, g1, eW, hLY, hf1, b1, b2⟩ := hp2
    refine x_aload_n E dX8_bestSet_9 (lv_at hl 0 rfl) ?_
    refine x_geti E hI hG (ym0 hY) cf8 49 ((bsF (csX V) (grX V n wd hi k) m (2 ^ (V 50 4).toNat)).1) rfl (by decide) (show V1 0 49 = (bsF (csX V) (grX V n wd hi k) m (2 ^ (V 50 4).toNat)).1 from (by rw [eW]; exact b2)) kf_X8_252 dX8_bestSet_10 ?_
    refine x_goto E 17 dX8_bestSet_13 (by decide) ?_
    exact L17_1 ((bsF (csX V) (grX V n wd hi k) m (2 ^ (V 50 4).toNat)).1) (by rw [if_pos hyes]) (by rw [eW]; exact MR.mk hLY hf1) _ _ _ hG hS (lv_sub hl [] rfl)

set_option maxHeartbeats 4000000 in
set_option maxRecDepth 100000 in
theorem c_X8_fits (l : Launch) {X : We} (hY : isY X) {n : Nat} {wd hi : Int} (V U : Mem) (f : Int → Int) (g : Int) (hL : Rl V U n wd hi) (hf : bo f) (hk : XI V n wd hi) (k : Int) (hk2 : rg k) : Mt l X (pk V bN U f g) yX8_fits cX8_fits 5 (some .int) 6 140 [.ref (wa X 0), .int (jI k)] (Qi X (fun z W1 => z = (if 1 ≤ k ∧ k ≤ 60 ∧ V bM 12 + k ≤ 3000 then ftK V n wd hi k 5 else -1) ∧ MR V W1 n wd hi)) := by
  refine Mt.go (by decide) (Nat.le_of_ble_eq_true rfl) ?_
  intro pg ev s0 mi bl mt cd ls Rm ag Qq hR hQ E hI hG hS hl
  have hl : lv_has ls 5 [(0, .ref (wa X 0)), (1, .int (jI k))] := hl
  obtain ⟨hU, hWR, hKP, e11, e22, e29, e30, ⟨e33, e14, e15, e16, e17⟩, e38, e18, e19, e20⟩ := id hL
  obtain ⟨iN, iM, zT, hTP, hWK, hFL⟩ := id hk
  have hd := hU.2.2.2
  obtain ⟨hn1, hn2⟩ := dims.n hd
  have dyN := iN.2.2.2
  have dyM := iM.2.2.2
  have eN := bN3
  unfold rg at hk2
  have eT := bT31
  have L25_1 : (¬ (1 ≤ k ∧ k ≤ 60 ∧ V bM 12 + k ≤ 3000)) → ∀ (H : Heap) (locs : List Loc) (ls : Array Slot), GW X (pk V bN U f g) H → va_S (wA X) s0.heap H locs → lv_has ls 5 [] → W pg l ev Rm s0 mi ag bl mt cd H locs 0 0 Qq (F0 mi 25 ls []) := by
    intro  hno H locs ls hG hS hl
    refine x_iconst E dX8_fits_25 ?_
    exact r_i E hQ hG hS dX8_fits_26 (⟨by rw [if_neg hno], MR.mk hL hf⟩)
  refine x_iload_n E dX8_fits_0 (lv_at hl 1 rfl) ?_
  refine x_iconst E dX8_fits_1 ?_
  refine x_bipush E dX8_fits_2 (by decide) ?_
  refine x_ci hG hS (x_runS E hI hG hS (c_X8_in l (pk V bN U f g) k 1 60 (by unfold rg; omega) (by unfold rg; omega) (by unfold rg; omega)) mf_X8_in km_X8_110 rfl hl rfl (Nat.le_of_ble_eq_true rfl) (by rw [hR]; exact ⟨Nat.le_of_ble_eq_true rfl, Nat.le_of_ble_eq_true rfl⟩) ⟨Nat.zero_le _, Nat.zero_le _⟩ dX8_fits_4) (fun z1 V1 H locs hp hG hS => ?_)
  obtain ⟨ez, eV⟩ := hp
  rw [eV] at hG
  rw [ez]
  refine x_if_eq E 25 dX8_fits_7 (by decide) b01_rg (fun c7 => ?_) (fun c7 => ?_)
  · have q7 := b01_iff0.mp c7
    exact L25_1  (by omega) _ _ _ hG hS (lv_sub hl [] rfl)
  · have q7 := b01_ne c7
    refine x_aload_n E dX8_fits_10 (lv_at hl 0 rfl) ?_
    refine x_getr E hI hG (ym0 hY) cf8 44 23 rfl (by decide) kf_X8_87 dX8_fits_11 ?_
    refine x_bipush E dX8_fits_14 (by decide) ?_
    refine x_iald E hI hG (ym23 hY) (V bM 12) (hKP.2.2.1 1 (by decide) (by decide)) (by omega) dX8_fits_16 ?_
    refine x_iload_n E dX8_fits_17 (lv_at hl 1 rfl) ?_
    refine x_iadd E dX8_fits_18 ?_
    refine x_sipush E dX8_fits_19 (by decide) ?_
    refine x_icmp_le E 27 dX8_fits_22 (by decide) (by unfold rg; omega) (by unfold rg; omega) (fun c22 => ?_) (fun c22 => ?_)
    · have hok : 1 ≤ k ∧ k ≤ 60 ∧ V bM 12 + k ≤ 3000 := by omega
      refine x_aload_n E dX8_fits_27 (lv_at hl 0 rfl) ?_
      refine x_iconst E dX8_fits_28 ?_
      refine x_cv hG hS (x_runV E hI hG hS (ym0 hY) cf8 rfl (c_X8_keeps l hY V U f g hWR 0 (by omega)) mf_X8_keeps km_X8_106 rfl hl rfl (Nat.le_of_ble_eq_true rfl) (by rw [hR]; exact ⟨Nat.le_of_ble_eq_true rfl, Nat.le_of_ble_eq_true rfl⟩) ⟨Nat.zero_le _, Nat.zero_le _⟩ dX8_fits_29) (fun V1 H locs hp hG hS => ?_)
      obtain ⟨U1, eV, hK0, hF0⟩ := hp
      rw [eV] at hG
      have u0 : U1 0 = U 0 := hF0.1 0 (by decide) (by decide) (by decide) (by decide)
      have hK1 : KP U1 V bM 1 := hF0.other (by decide) hKP
      refine x_iconst E dX8_fits_32 ?_
      refine x_istore_n E [(2, .int (jI 0)), (0, .ref (wa X 0)), (1, .int (jI k))] dX8_fits_33 hl (by decide) rfl (fun ls hl => ?_)
      refine x_iconst E dX8_fits_34 ?_
      refine x_istore_n E [(3, .int (jI 1)), (2, .int (jI 0)), (0, .ref (wa X 0)), (1, .int (jI k))] dX8_fits_35 hl (by decide) rfl (fun ls hl => ?_)
      have L36_2 : ∀ (N : Nat) (h : Int) (a : Int) (Vc : Mem) (bc : Nat) (Y : Mem) (f1 : Int → Int) (g1 : Int), (1 ≤ h) → (h ≤ 6) → (a = ftK V n wd hi k (h - 1).toNat) → (∀ p, p ≠ 9 → p ≠ 10 → Y p = U1 p) → (bo f1) → ((6 - h).toNat) < N → ∀ (H : Heap) (locs : List Loc) (ls : Array Slot), GW X (pk Vc bc Y f1 g1) H → va_S (wA X) s0.heap H locs → lv_has ls 5 [(0, .ref (wa X 0)), (1, .int (jI k)), (2, .int (jI a)), (3, .int (jI h))] → W pg l ev Rm s0 mi ag bl mt cd H locs 0 0 Qq (F0 mi 36 ls []) := by
        intro N
        induction N with
        | zero => intro h a Vc bc Y f1 g1 h1 h2 ea yA hf1 hN; exact absurd hN (Nat.not_lt_zero _)
        | succ N ih36 =>
          intro h a Vc bc Y f1 g1 h1 h2 ea yA hf1 hN H locs ls hG hS hl
          refine x_iload_n E dX8_fits_36 (lv_at hl 3 rfl) ?_
          refine x_bipush E dX8_fits_37 (by decide) ?_
          refine x_icmp_ge E 96 dX8_fits_39 (by decide) (by unfold rg; omega) (by unfold rg; omega) (fun c39 => ?_) (fun c39 => ?_)
          · refine x_aload_n E dX8_fits_96 (lv_at hl 0 rfl) ?_
            refine x_iconst E dX8_fits_97 ?_
            refine x_cv hG hS (x_runV E hI hG hS (ym0 hY) cf8 rfl (c_X8_comesBack l hY Vc V Y f1 g1 0 (by omega) (hK0.rows (fun p p0 p1 => yA p (by omega) (by omega))) (a := bN) iN.2.2.1.2.1) mf_X8_comesBack km_X8_255 rfl hl rfl (Nat.le_of_ble_eq_true rfl) (by rw [hR]; exact ⟨Nat.le_of_ble_eq_true rfl, Nat.le_of_ble_eq_true rfl⟩) ⟨Nat.zero_le _, Nat.zero_le _⟩ dX8_fits_98) (fun V1 H locs hp hG hS => ?_)
            obtain ⟨Y2, eV, cA, cW⟩ := hp
            rw [eV] at hG
            refine x_iload_n E dX8_fits_101 (lv_at hl 2 rfl) ?_
            exact r_i E hQ hG hS dX8_fits_102 (⟨by rw [if_pos hok, ea, show (h - 1).toNat = 5 by omega], MR.mk (hL.like cW ((hF0.other (by decide) hKP).rows (fun p p0 p1 => by rw [cA p (by omega) (by omega), yA p (by omega) (by omega)])) (fun j _ _ => by rw [cA 0 (by decide) (by decide), yA 0 (by decide) (by decide), u0]) (fun p p0 p1 p2 p3 => by rw [cA p (by omega) (by omega), yA p (by omega) (by omega)]; exact hF0.1 p (by omega) (by omega) (by omega) (by omega))) hf1⟩)
          · refine x_aload_n E dX8_fits_42 (lv_at hl 0 rfl) ?_
            refine x_iconst E dX8_fits_43 ?_
            refine x_cv hG hS (x_runV E hI hG hS (ym0 hY) cf8 rfl (c_X8_comesBack l hY Vc V Y f1 g1 1 (by omega) (hK1.rows (fun p p0 p1 => yA p (by omega) (by omega))) (a := bM) iM.2.2.1.2.1) mf_X8_comesBack km_X8_255 rfl hl rfl (Nat.le_of_ble_eq_true rfl) (by rw [hR]; exact ⟨Nat.le_of_ble_eq_true rfl, Nat.le_of_ble_eq_true rfl⟩) ⟨Nat.zero_le _, Nat.zero_le _⟩ dX8_fits_44) (fun V1 H locs hp hG hS => ?_)
            obtain ⟨Y2, eV, cA, cW⟩ := hp
            rw [← pk_cp (b := bT)] at eV
            rw [eV] at hG
            have z1 : ∀ p, p ≠ 9 → p ≠ 10 → Y2 p = U1 p := fun p p0 p1 => by rw [cA p p0 p1, yA p p0 p1]
            have hUY : MU Y2 n wd hi := by unfold MU; rw [z1 0 (by decide) (by decide), u0]; exact hU
            have y38 : Y2 0 38 = V 55 3 := by rw [z1 0 (by decide) (by decide), u0]; exact e38
            have y18 : Y2 18 = V 56 := by rw [z1 _ (by decide) (by decide), hF0.1 18 (by decide) (by decide) (by decide) (by decide)]; exact e18
            have y19 : Y2 19 = V 57 := by rw [z1 _ (by decide) (by decide), hF0.1 19 (by decide) (by decide) (by decide) (by decide)]; exact e19
            have y20 : Y2 20 = V 58 := by rw [z1 _ (by decide) (by decide), hF0.1 20 (by decide) (by decide) (by decide) (by decide)]; exact e20
            have hWc : Inv (st (cpF V bT bM) (bT + 10) 0 h) n wd hi bT := (Inv.cp (a := bM) (by decide) iM zT).hop (by decide) (by omega) (by omega)
            have eday : (st (cpF V bT bM) (bT + 10) 0 h) bT 12 = V bM 12 := by rw [st_p (by omega), cpF_b]
            have wCO : WR Y2 (st (cpF V bT bM) (bT + 10) 0 h) bT := cW.cp.of (by rw [st_p (by omega)]) (st_p (by omega)) (st_p (by omega))
            have hft := ftK_rg V n wd hi k (h - 1).toNat
            rw [← ea, show (h - 1).toNat + 1 = h.toNat by omega] at hft
            have hfs : ftK V n wd hi k h.toNat = a + (if agX V n wd hi k h = true then 2 ^ h.toNat else 0) := by
              rw [show h.toNat = (h - 1).toNat + 1 by omega]
              show ftK V n wd hi k (h - 1).toNat + (if agX V n wd hi k (((h - 1).toNat + 1 : Nat) : Int) = true then 2 ^ ((h - 1).toNat + 1) else 0) = _
              rw [← ea, show (((h - 1).toNat + 1 : Nat) : Int) = h by omega]
            refine x_aload_n E dX8_fits_47 (lv_at hl 0 rfl) ?_
            refine x_getr E hI hG (ym0 hY) cf8 10 8 rfl (by decide) kf_X8_31 dX8_fits_48 ?_
            refine x_iconst E dX8_fits_51 ?_
            refine x_iload_n E dX8_fits_52 (lv_at hl 3 rfl) ?_
            refine x_iast E hI hG hS (ym8 hY) (by omega) dX8_fits_53 (fun H locs hG hS => ?_)
            rw [show (st (pk (cpF V bT bM) bT Y2 f1 g1) 8 0 h) = (pk (st (cpF V bT bM) (bT + 10) 0 h) bT Y2 f1 g1) from pk_r _ _] at hG
            rw [show (pk (st (cpF V bT bM) (bT + 10) 0 h) bT Y2 f1 g1) = (pk (st (cpF V bT bM) (bT + 10) 0 h) bT Y2 f1 g1) from rfl] at hG
            refine x_iconst E dX8_fits_54 ?_
            refine x_istore E [(4, .int (jI 0)), (0, .ref (wa X 0)), (1, .int (jI k)), (2, .int (jI a)), (3, .int (jI h))] dX8_fits_55 hl (by decide) rfl (fun ls hl => ?_)
            have L57_3 : ∀ (N : Nat) (i : Int) (f2 : Int → Int) (g2 : Int), (0 ≤ i) → (i ≤ k) → (bo f2) → ((k - i).toNat) < N → ∀ (H : Heap) (locs : List Loc) (ls : Array Slot), GW X (pk (psM n wd hi bT i.toNat (st (cpF V bT bM) (bT + 10) 0 h)) bT Y2 f2 g2) H → va_S (wA X) s0.heap H locs → lv_has ls 5 [(0, .ref (wa X 0)), (1, .int (jI k)), (2, .int (jI a)), (3, .int (jI h)), (4, .int (jI i))] → W pg l ev Rm s0 mi ag bl mt cd H locs 0 0 Qq (F0 mi 57 ls []) := by
              intro N
              induction N with
              | zero => intro i f2 g2 i0 i1 hf2 hN; exact absurd hN (Nat.not_lt_zero _)
              | succ N ih57 =>
                intro i f2 g2 i0 i1 hf2 hN H locs ls hG hS hl
                refine x_iload E dX8_fits_57 (lv_at hl 4 rfl) ?_
                refine x_iload_n E dX8_fits_59 (lv_at hl 1 rfl) ?_
                refine x_icmp_ge E 73 dX8_fits_60 (by decide) (by unfold rg; omega) (by unfold rg; omega) (fun c60 => ?_) (fun c60 => ?_)
                · have exk : i = k := by omega
                  rw [exk] at hG
                  have hWp := (hWc.pass (by decide) k.toNat (by rw [eday]; omega)).1
                  have L88_4 : ∀ (z : Int), (z = if agX V n wd hi k h = true then 2 ^ h.toNat else 0) → ∀ (H : Heap) (locs : List Loc) (ls : Array Slot), GW X (pk (psM n wd hi bT k.toNat (st (cpF V bT bM) (bT + 10) 0 h)) bT Y2 f2 g2) H → va_S (wA X) s0.heap H locs → lv_has ls 5 [(0, .ref (wa X 0)), (1, .int (jI k)), (3, .int (jI h))] → W pg l ev Rm s0 mi ag bl mt cd H locs 0 0 Qq (F0 mi 88 ls [.int (jI z), .int (jI a)]) := by
                    intro z hz H locs ls hG hS hl
                    refine lv_ior E.1 E.2.1 dX8_fits_88 ?_
                    refine x_rawi (a + z) (by
                                                                                rw [hz]
                                                                                split
                                                                                · have := q_orb (h := h.toNat) (by omega) hft.1 hft.2
                                                                                  rw [Int.toNat_of_nonneg (by omega), q_pw5 (by omega) (by omega)] at this
                                                                                  exact this
                                                                                · rw [q_or0, Int.add_zero]) ?_
                    refine x_istore_n E [(2, .int (jI (a + z))), (0, .ref (wa X 0)), (1, .int (jI k)), (3, .int (jI h))] dX8_fits_89 hl (by decide) rfl (fun ls hl => ?_)
                    refine x_iinc E (k := 3) [(3, .int (jI (h + 1))), (2, .int (jI (a + z))), (0, .ref (wa X 0)), (1, .int (jI k))] dX8_fits_90 hl rfl (by decide) rfl (fun ls hl => ?_)
                    refine x_goto E 36 dX8_fits_93 (by decide) ?_
                    exact ih36 (h + 1) (a + z) (psM n wd hi bT k.toNat (st (cpF V bT bM) (bT + 10) 0 h)) bT Y2 f2 g2 (by omega) (by omega) (by rw [show h + 1 - 1 = h by omega, hfs, hz]) z1 hf2 (by omega) _ _ _ hG hS (lv_sub hl [2, 3, 1, 0] rfl)
                  refine x_iload_n E dX8_fits_73 (lv_at hl 2 rfl) ?_
                  refine x_aload_n E dX8_fits_74 (lv_at hl 0 rfl) ?_
                  refine x_ci hG hS (x_runV E hI hG hS (ym0 hY) cf8 rfl (c_X8_areSeen l hY (psM n wd hi bT k.toNat (st (cpF V bT bM) (bT + 10) 0 h)) Y2 f2 g2 (by omega) (hWp.1.2.1.ps hd).1 (by rw [y38, y18, y19, y20]; exact hFL)) mf_X8_areSeen km_X8_264 rfl hl rfl (Nat.le_of_ble_eq_true rfl) (by rw [hR]; exact ⟨Nat.le_of_ble_eq_true rfl, Nat.le_of_ble_eq_true rfl⟩) ⟨Nat.zero_le _, Nat.zero_le _⟩ dX8_fits_75) (fun z1 V1 H locs hp hG hS => ?_)
                  obtain ⟨ez, eV⟩ := hp
                  rw [y38, y18, y19, y20] at ez
                  change _ = b2i (agX V n wd hi k h) at ez
                  rw [eV] at hG
                  rw [ez]
                  refine x_if_eq E 87 dX8_fits_78 (by decide) (b2i_rg _) (fun c78 => ?_) (fun c78 => ?_)
                  · refine x_iconst E dX8_fits_87 ?_
                    exact L88_4 0 (by rw [if_neg (by rw [b2i_0.mp c78]; decide)]) _ _ _ hG hS (lv_sub hl [0, 1, 3] rfl)
                  · refine x_iconst E dX8_fits_81 ?_
                    refine x_iload_n E dX8_fits_82 (lv_at hl 3 rfl) ?_
                    refine lv_ishl E.1 E.2.1 dX8_fits_83 ?_
                    refine x_rawi (2 ^ h.toNat) (q_pw5 (by omega) (by omega)) ?_
                    refine x_goto E 88 dX8_fits_84 (by decide) ?_
                    exact L88_4 (2 ^ h.toNat) (by rw [if_pos (b2i_ne.mp c78)]) _ _ _ hG hS (lv_sub hl [0, 1, 3] rfl)
                · have hp := hWc.pass (by decide) i.toNat (by rw [eday]; omega)
                  refine x_aload_n E dX8_fits_63 (lv_at hl 0 rfl) ?_
                  refine x_cv hG hS (x_runV E hI hG hS (ym0 hY) cf8 rfl (c_X8_goes l hY Y2 hUY (psM n wd hi bT i.toNat (st (cpF V bT bM) (bT + 10) 0 h)) f2 g2 hf2 (by decide) hp.1 (by rw [hp.2, eday]; omega) (wCO.ps _)) mf_X8_goes km_X8_240 rfl hl rfl (Nat.le_of_ble_eq_true rfl) (by rw [hR]; exact ⟨Nat.le_of_ble_eq_true rfl, Nat.le_of_ble_eq_true rfl⟩) ⟨Nat.zero_le _, Nat.zero_le _⟩ dX8_fits_64) (fun V1 H locs hp hG hS => ?_)
                  obtain ⟨f3, g3, eV, hf3⟩ := hp
                  rw [show dayM n wd hi bT (psM n wd hi bT i.toNat (st (cpF V bT bM) (bT + 10) 0 h)) = (psM n wd hi bT (i + 1).toNat (st (cpF V bT bM) (bT + 10) 0 h)) from (itM_s i0 _).symm] at eV
                  rw [eV] at hG
                  refine x_iinc E (k := 4) [(4, .int (jI (i + 1))), (0, .ref (wa X 0)), (1, .int (jI k)), (2, .int (jI a)), (3, .int (jI h))] dX8_fits_67 hl rfl (by decide) rfl (fun ls hl => ?_)
                  refine x_goto E 57 dX8_fits_70 (by decide) ?_
                  exact ih57 (i + 1) f3 g3 (by omega) (by omega) hf3 (by omega) _ _ _ hG hS (lv_sub hl [1, 2, 3, 4, 0] rfl)
            exact L57_3 _ 0 f1 g1 (by omega) (by omega) hf1 (Nat.lt_succ_self _) _ _ _ hG hS (lv_sub hl [1, 2, 3, 4, 0] rfl)
      exact L36_2 _ 1 0 V bN U1 f g (by omega) (by omega) rfl (fun _ _ _ => rfl) hf (Nat.lt_succ_self _) _ _ _ hG hS (lv_sub hl [2, 3, 1, 0] rfl)
    · exact L25_1  (by omega) _ _ _ hG hS (lv_sub hl [] rfl)
