/-- the model's kept place q is the shore of V at a -/
def KP (U V : Mem) (a : Nat) (q : Int) : Prop := (∀ (j : Nat) (c : Int), 1 ≤ j → j ≤ 7 → 0 ≤ c → c < 160 → U 21 (1120 * q + 160 * ((j : Int) - 1) + c) = V (a + j) c) ∧ (∀ k : Int, 0 ≤ k → k < 5 → U 22 (5 * q + k) = V (a + 10) k) ∧ (∀ k : Int, 0 ≤ k → k < 5 → U 23 (8 * q + k) = V a (11 + k)) ∧ (U 23 (8 * q + 5) = V (a + 11) 3 ∧ U 23 (8 * q + 6) = V (a + 11) 4 ∧ U 23 (8 * q + 7) = V (a + 11) 2) ∧ ∀ k : Int, 0 ≤ k → k < 20 → k < V (a + 11) 2 → U 24 (40 * q + k) = V (a + 12) k ∧ U 24 (40 * q + 20 + k) = V (a + 13) k
theorem KP.of {U V V1 : Mem} {a : Nat} {q : Int} (h : KP U V a q) (hp : ∀ p, a ≤ p → p < a + 14 → V1 p = V p) : KP U V1 a q := by
  obtain ⟨h1, h2, h3, h4, h5⟩ := h
  refine ⟨fun j c j0 j1 c0 c1 => by rw [hp _ (by omega) (by omega)]; exact h1 j c j0 j1 c0 c1, fun k k0 k1 => by rw [hp _ (by omega) (by omega)]; exact h2 k k0 k1, fun k k0 k1 => by rw [hp _ (by omega) (by omega)]; exact h3 k k0 k1, by rw [hp _ (by omega) (by omega)]; exact h4, ?_⟩
  rw [hp _ (by omega) (by omega), hp _ (by omega) (by omega), hp _ (by omega) (by omega)]; exact h5
theorem KP.at {U U1 V : Mem} {a : Nat} {q : Int} (h : KP U V a q) (e1 : ∀ k : Int, 1120 * q ≤ k → k < 1120 * q + 1120 → U1 21 k = U 21 k) (e2 : ∀ k : Int, 5 * q ≤ k → k < 5 * q + 5 → U1 22 k = U 22 k) (e3 : ∀ k : Int, 8 * q ≤ k → k < 8 * q + 8 → U1 23 k = U 23 k) (e4 : ∀ k : Int, 40 * q ≤ k → k < 40 * q + 40 → U1 24 k = U 24 k) : KP U1 V a q := by
  obtain ⟨h1, h2, h3, h4, h5⟩ := h
  refine ⟨fun j c j0 j1 c0 c1 => by rw [e1 _ (by omega) (by omega)]; exact h1 j c j0 j1 c0 c1, fun k k0 k1 => by rw [e2 _ (by omega) (by omega)]; exact h2 k k0 k1, fun k k0 k1 => by rw [e3 _ (by omega) (by omega)]; exact h3 k k0 k1, by rw [e3 _ (by omega) (by omega), e3 _ (by omega) (by omega), e3 _ (by omega) (by omega)]; exact h4, fun k k0 k1 k2 => by rw [e4 _ (by omega) (by omega), e4 _ (by omega) (by omega)]; exact h5 k k0 k1 k2⟩
/-- what of the model isn't the shore of now -/
def Rl (V U : Mem) (n : Nat) (wd hi : Int) : Prop := MU U n wd hi ∧ WR U V bN ∧ KP U V bM 1 ∧ U 11 = V 46 ∧ U 0 22 = V 45 1 ∧ U 0 29 = V 45 2 ∧ U 0 30 = V 45 3 ∧ (U 0 33 = V 50 4 ∧ U 14 = V 51 ∧ U 15 = V 52 ∧ U 16 = V 53 ∧ U 17 = V 54) ∧ U 0 38 = V 55 3 ∧ U 18 = V 56 ∧ U 19 = V 57 ∧ U 20 = V 58
theorem bN3 : bN = 3 := rfl
theorem bM17 : bM = 17 := rfl
theorem bT31 : bT = 31 := rfl
theorem Rl.up {V V1 U : Mem} {n : Nat} {wd hi : Int} (h : Rl V U n wd hi) (hw : WR U V1 bN) (hp : ∀ p, (p < bN ∨ bN + 14 ≤ p) → V1 p = V p) : Rl V1 U n wd hi := by
  obtain ⟨h1, h2, h3, h4, h5, h6, h7, h8, h9⟩ := h
  have e1 := bN3
  have e2 := bM17
  refine ⟨h1, hw, h3.of (fun p _ _ => hp p (by omega)), ?_⟩
  rw [hp 46 (by omega), hp 45 (by omega), hp 50 (by omega), hp 51 (by omega), hp 52 (by omega), hp 53 (by omega), hp 54 (by omega), hp 55 (by omega), hp 56 (by omega), hp 57 (by omega), hp 58 (by omega)]
  exact ⟨h4, h5, h6, h7, h8, h9⟩
/-- the shore alone has changed, its winds not -/
theorem Rl.sh {V V1 U : Mem} {n : Nat} {wd hi : Int} (h : Rl V U n wd hi) (hp : ∀ p, (p < bN ∨ bN + 11 ≤ p) → V1 p = V p) : Rl V1 U n wd hi := by
  have e1 := bN3
  exact h.up (h.2.1.of (by rw [hp _ (by omega)]) (hp _ (by omega)) (hp _ (by omega))) (fun p q => hp p (by omega))
def MR (V W : Mem) (n : Nat) (wd hi : Int) : Prop := ∃ U f g, W = pk V bN U f g ∧ Rl V U n wd hi ∧ bo f
theorem MR.mk {V U : Mem} {f : Int → Int} {g : Int} {n : Nat} {wd hi : Int} (h : Rl V U n wd hi) (hf : bo f) : MR V (pk V bN U f g) n wd hi := ⟨U, f, g, rfl, h, hf⟩

set_option maxHeartbeats 4000000 in
set_option maxRecDepth 100000 in
theorem c_X8_heap (l : Launch) {X : We} (hY : isY X) {n : Nat} {wd hi : Int} (V U : Mem) (f : Int → Int) (g : Int) (hL : Rl V U n wd hi) (hf : bo f) (hk : XI V n wd hi) (c v : Int) (hc : rg c) (hv : rg v) : Mt l X (pk V bN U f g) yX8_heap cX8_heap 3 (some .boolean) 4 93 [.ref (wa X 0), .int (jI c), .int (jI v)] (Qi X (fun z W1 => z = b01 (0 ≤ c ∧ c < (n : Int) ∧ 0 ≤ v ∧ v ≤ 999) ∧ MR (if 0 ≤ c ∧ c < (n : Int) ∧ 0 ≤ v ∧ v ≤ 999 then (hput n wd hi bN c v (sp V (bN + 2) (ui (V (bN + 2)) c v))) else V) W1 n wd hi)) := by
  refine Mt.go (by decide) (Nat.le_of_ble_eq_true rfl) ?_
  intro pg ev s0 mi bl mt cd ls Rm ag Qq hR hQ E hI hG hS hl
  have hl : lv_has ls 3 [(0, .ref (wa X 0)), (1, .int (jI c)), (2, .int (jI v))] := hl
  obtain ⟨hU, hWR, hKP, e11, e22, e29, e30, ⟨e33, e14, e15, e16, e17⟩, e38, e18, e19, e20⟩ := id hL
  obtain ⟨iN, iM, zT, hTP, hWK, hFL⟩ := id hk
  have hd := hU.2.2.2
  obtain ⟨hn1, hn2⟩ := dims.n hd
  have dyN := iN.2.2.2
  have dyM := iM.2.2.2
  have eN := bN3
  unfold rg at hc hv
  have L19_1 : (¬ (0 ≤ c ∧ c < (n : Int) ∧ 0 ≤ v ∧ v ≤ 999)) → ∀ (H : Heap) (locs : List Loc) (ls : Array Slot), GW X (pk V bN U f g) H → va_S (wA X) s0.heap H locs → lv_has ls 3 [] → W pg l ev Rm s0 mi ag bl mt cd H locs 0 0 Qq (F0 mi 19 ls []) := by
    intro  hno H locs ls hG hS hl
    refine x_iconst E dX8_heap_19 ?_
    exact r_z E hQ hG hS dX8_heap_20 (Or.inl rfl) (⟨(b01_0 hno).symm, by rw [if_neg hno]; exact MR.mk hL hf⟩)
  refine x_aload_n E dX8_heap_0 (lv_at hl 0 rfl) ?_
  refine x_iload_n E dX8_heap_1 (lv_at hl 1 rfl) ?_
  refine x_ci hG hS (x_runV E hI hG hS (ym0 hY) cf8 rfl (c_X8_isCell l hY (pk V bN U f g) hU.2.2.1 hn2 c (by unfold rg; omega)) mf_X8_isCell km_X8_153 rfl hl rfl (Nat.le_of_ble_eq_true rfl) (by rw [hR]; exact ⟨Nat.le_of_ble_eq_true rfl, Nat.le_of_ble_eq_true rfl⟩) ⟨Nat.zero_le _, Nat.zero_le _⟩ dX8_heap_2) (fun z1 V1 H locs hp hG hS => ?_)
  obtain ⟨ez, eV⟩ := hp
  rw [eV] at hG
  rw [ez]
  refine x_if_eq E 19 dX8_heap_5 (by decide) b01_rg (fun c5 => ?_) (fun c5 => ?_)
  · have q5 := b01_iff0.mp c5
    exact L19_1  (by omega) _ _ _ hG hS (lv_sub hl [] rfl)
  · have q5 := b01_ne c5
    refine x_iload_n E dX8_heap_8 (lv_at hl 2 rfl) ?_
    refine x_iconst E dX8_heap_9 ?_
    refine x_sipush E dX8_heap_10 (by decide) ?_
    refine x_ci hG hS (x_runS E hI hG hS (c_X8_in l (pk V bN U f g) v 0 999 (by unfold rg; omega) (by unfold rg; omega) (by unfold rg; omega)) mf_X8_in km_X8_110 rfl hl rfl (Nat.le_of_ble_eq_true rfl) (by rw [hR]; exact ⟨Nat.le_of_ble_eq_true rfl, Nat.le_of_ble_eq_true rfl⟩) ⟨Nat.zero_le _, Nat.zero_le _⟩ dX8_heap_13) (fun z1 V1 H locs hp hG hS => ?_)
    obtain ⟨ez, eV⟩ := hp
    rw [eV] at hG
    rw [ez]
    refine x_if_ne E 21 dX8_heap_16 (by decide) b01_rg (fun c16 => ?_) (fun c16 => ?_)
    · have q16 := b01_ne c16
      refine x_aload_n E dX8_heap_21 (lv_at hl 0 rfl) ?_
      refine x_getr E hI hG (ym0 hY) cf8 3 1 rfl (by decide) kf_X8_7 dX8_heap_22 ?_
      refine x_iload_n E dX8_heap_25 (lv_at hl 1 rfl) ?_
      refine x_iload_n E dX8_heap_26 (lv_at hl 2 rfl) ?_
      refine x_iast E hI hG hS (ym1 hY) (by omega) dX8_heap_27 (fun H locs hG hS => ?_)
      rw [show (st (pk V bN U f g) 1 c v) = (pk (st V (bN + 1) c v) bN U f g) from pk_h (by decide) _ _] at hG
      refine x_aload_n E dX8_heap_28 (lv_at hl 0 rfl) ?_
      refine x_getr E hI hG (ym0 hY) cf8 4 2 rfl (by decide) kf_X8_13 dX8_heap_29 ?_
      refine x_iload_n E dX8_heap_32 (lv_at hl 1 rfl) ?_
      refine x_iload_n E dX8_heap_33 (lv_at hl 2 rfl) ?_
      refine x_iast E hI hG hS (ym2 hY) (by omega) dX8_heap_34 (fun H locs hG hS => ?_)
      rw [show (st (pk (st V (bN + 1) c v) bN U f g) 2 c v) = (pk (st (st V (bN + 1) c v) (bN + 2) c v) bN U f g) from pk_h (by decide) _ _] at hG
      rw [show (pk (st (st V (bN + 1) c v) (bN + 2) c v) bN U f g) = (pk (sp (sp V (bN + 2) (ui (V (bN + 2)) c v)) (bN + 1) (ui ((sp V (bN + 2) (ui (V (bN + 2)) c v)) (bN + 1)) c v)) bN U f g) from by rw [st_sp, st_sp, sp_n (show bN + 2 ≠ bN + 1 by omega), sp_n (show bN + 1 ≠ bN + 2 by omega), sp_comm V _ _ (show bN + 1 ≠ bN + 2 by omega)]] at hG
      refine x_aload_n E dX8_heap_35 (lv_at hl 0 rfl) ?_
      refine x_iload_n E dX8_heap_36 (lv_at hl 1 rfl) ?_
      refine x_cv hG hS (x_runV E hI hG hS (ym0 hY) cf8 rfl (c_X8_settledAt l hY U hU (sp V (bN + 2) (ui (V (bN + 2)) c v)) f g hf (t := 20 * V bN 12) (by rw [sp_n (by omega), sp_n (by omega)]; exact iN.1.2.1) c v (by omega) (by omega)) mf_X8_settledAt km_X8_156 rfl hl rfl (Nat.le_of_ble_eq_true rfl) (by rw [hR]; exact ⟨Nat.le_of_ble_eq_true rfl, Nat.le_of_ble_eq_true rfl⟩) ⟨Nat.zero_le _, Nat.zero_le _⟩ dX8_heap_37) (fun V1 H locs hp hG hS => ?_)
      obtain ⟨f2, g2, eV, hf2⟩ := hp
      rw [eV] at hG
      refine x_iconst E dX8_heap_40 ?_
      exact r_z E hQ hG hS dX8_heap_41 (Or.inr rfl) (⟨(b01_1 (by omega)).symm, by rw [if_pos (by omega)]; exact MR.mk (hL.sh (fun p q => by rw [hput_p _ _ (by omega), sp_n (by omega)])) hf2⟩)
    · have q16 := b01_iff0.mp c16
      exact L19_1  (by omega) _ _ _ hG hS (lv_sub hl [] rfl)

set_option maxHeartbeats 4000000 in
set_option maxRecDepth 100000 in
theorem c_X8_lay (l : Launch) {X : We} (hY : isY X) {n : Nat} {wd hi : Int} (V U : Mem) (f : Int → Int) (g : Int) (hL : Rl V U n wd hi) (hf : bo f) (hk : XI V n wd hi) (c k v : Int) (hc : rg c) (hk2 : rg k) (hv : rg v) : Mt l X (pk V bN U f g) yX8_lay cX8_lay 4 (some .boolean) 2 43 [.ref (wa X 0), .int (jI c), .int (jI k), .int (jI v)] (Qi X (fun z W1 => z = b01 (0 ≤ c ∧ c < (n : Int) ∧ 0 ≤ k ∧ k ≤ 3 ∧ 0 ≤ v ∧ v ≤ mlF k) ∧ MR (if 0 ≤ c ∧ c < (n : Int) ∧ 0 ≤ k ∧ k ≤ 3 ∧ 0 ≤ v ∧ v ≤ mlF k then layM bN c k v V else V) W1 n wd hi)) := by
  refine Mt.go (by decide) (Nat.le_of_ble_eq_true rfl) ?_
  intro pg ev s0 mi bl mt cd ls Rm ag Qq hR hQ E hI hG hS hl
  have hl : lv_has ls 4 [(0, .ref (wa X 0)), (1, .int (jI c)), (2, .int (jI k)), (3, .int (jI v))] := hl
  obtain ⟨hU, hWR, hKP, e11, e22, e29, e30, ⟨e33, e14, e15, e16, e17⟩, e38, e18, e19, e20⟩ := id hL
  obtain ⟨iN, iM, zT, hTP, hWK, hFL⟩ := id hk
  have hd := hU.2.2.2
  obtain ⟨hn1, hn2⟩ := dims.n hd
  have dyN := iN.2.2.2
  have dyM := iM.2.2.2
  have eN := bN3
  unfold rg at hc hk2 hv
  have L57_1 : (¬ (0 ≤ c ∧ c < (n : Int) ∧ 0 ≤ k ∧ k ≤ 3 ∧ 0 ≤ v ∧ v ≤ mlF k)) → ∀ (H : Heap) (locs : List Loc) (ls : Array Slot), GW X (pk V bN U f g) H → va_S (wA X) s0.heap H locs → lv_has ls 4 [] → W pg l ev Rm s0 mi ag bl mt cd H locs 0 0 Qq (F0 mi 57 ls []) := by
    intro  hno H locs ls hG hS hl
    refine x_iconst E dX8_lay_57 ?_
    exact r_z E hQ hG hS dX8_lay_58 (Or.inl rfl) (⟨(b01_0 hno).symm, by rw [if_neg hno]; exact MR.mk hL hf⟩)
  refine x_aload_n E dX8_lay_0 (lv_at hl 0 rfl) ?_
  refine x_iload_n E dX8_lay_1 (lv_at hl 1 rfl) ?_
  refine x_ci hG hS (x_runV E hI hG hS (ym0 hY) cf8 rfl (c_X8_isCell l hY (pk V bN U f g) hU.2.2.1 hn2 c (by unfold rg; omega)) mf_X8_isCell km_X8_153 rfl hl rfl (Nat.le_of_ble_eq_true rfl) (by rw [hR]; exact ⟨Nat.le_of_ble_eq_true rfl, Nat.le_of_ble_eq_true rfl⟩) ⟨Nat.zero_le _, Nat.zero_le _⟩ dX8_lay_2) (fun z1 V1 H locs hp hG hS => ?_)
  obtain ⟨ez, eV⟩ := hp
  rw [eV] at hG
  rw [ez]
  refine x_if_eq E 57 dX8_lay_5 (by decide) b01_rg (fun c5 => ?_) (fun c5 => ?_)
  · have q5 := b01_iff0.mp c5
    exact L57_1  (by omega) _ _ _ hG hS (lv_sub hl [] rfl)
  · have q5 := b01_ne c5
    refine x_iload_n E dX8_lay_8 (lv_at hl 2 rfl) ?_
    refine x_iconst E dX8_lay_9 ?_
    refine x_iconst E dX8_lay_10 ?_
    refine x_ci hG hS (x_runS E hI hG hS (c_X8_in l (pk V bN U f g) k 0 3 (by unfold rg; omega) (by unfold rg; omega) (by unfold rg; omega)) mf_X8_in km_X8_110 rfl hl rfl (Nat.le_of_ble_eq_true rfl) (by rw [hR]; exact ⟨Nat.le_of_ble_eq_true rfl, Nat.le_of_ble_eq_true rfl⟩) ⟨Nat.zero_le _, Nat.zero_le _⟩ dX8_lay_11) (fun z1 V1 H locs hp hG hS => ?_)
    obtain ⟨ez, eV⟩ := hp
    rw [eV] at hG
    rw [ez]
    refine x_if_eq E 57 dX8_lay_14 (by decide) b01_rg (fun c14 => ?_) (fun c14 => ?_)
    · have q14 := b01_iff0.mp c14
      exact L57_1  (by omega) _ _ _ hG hS (lv_sub hl [] rfl)
    · have q14 := b01_ne c14
      have hml := mlF_rg k
      have L51_2 : ∀ (y : Int), (y = mlF k) → ∀ (H : Heap) (locs : List Loc) (ls : Array Slot), GW X (pk V bN U f g) H → va_S (wA X) s0.heap H locs → lv_has ls 4 [(0, .ref (wa X 0)), (1, .int (jI c)), (2, .int (jI k)), (3, .int (jI v))] → W pg l ev Rm s0 mi ag bl mt cd H locs 0 0 Qq (F0 mi 51 ls [.int (jI y), .int (jI 0), .int (jI v)]) := by
        intro y hz H locs ls hG hS hl
        refine x_ci hG hS (x_runS E hI hG hS (c_X8_in l (pk V bN U f g) v 0 y (by unfold rg; omega) (by unfold rg; omega) (by unfold rg; omega)) mf_X8_in km_X8_110 rfl hl rfl (Nat.le_of_ble_eq_true rfl) (by rw [hR]; exact ⟨Nat.le_of_ble_eq_true rfl, Nat.le_of_ble_eq_true rfl⟩) ⟨Nat.zero_le _, Nat.zero_le _⟩ dX8_lay_51) (fun z1 V1 H locs hp hG hS => ?_)
        obtain ⟨ez, eV⟩ := hp
        rw [eV] at hG
        rw [ez]
        refine x_if_ne E 59 dX8_lay_54 (by decide) b01_rg (fun c54 => ?_) (fun c54 => ?_)
        · have q54 := b01_ne c54
          have L132_3 : ∀ (H : Heap) (locs : List Loc) (ls : Array Slot), GW X (pk (layM bN c k v V) bN U f g) H → va_S (wA X) s0.heap H locs → lv_has ls 4 [] → W pg l ev Rm s0 mi ag bl mt cd H locs 0 0 Qq (F0 mi 132 ls []) := by
            intro   H locs ls hG hS hl
            refine x_iconst E dX8_lay_132 ?_
            exact r_z E hQ hG hS dX8_lay_133 (Or.inr rfl) (⟨(b01_1 (by omega)).symm, by rw [if_pos (by omega)]; exact MR.mk (hL.sh (fun p q => layM_p (by omega))) hf⟩)
          refine x_iload_n E dX8_lay_59 (lv_at hl 2 rfl) ?_
          rcases (show k = 0 ∨ k = 1 ∨ k = 2 ∨ k = 3 by omega) with q | q | q | q
          · refine lv_tableIn E.1 E.2.1 dX8_lay_60 (by rw [q]; decide) (by rw [q]; decide) (off := 28) (tgt := 88) (by rw [q]; decide) (by decide) ?_
            refine x_aload_n E dX8_lay_88 (lv_at hl 0 rfl) ?_
            refine x_getr E hI hG (ym0 hY) cf8 5 3 rfl (by decide) kf_X8_16 dX8_lay_89 ?_
            refine x_iload_n E dX8_lay_92 (lv_at hl 1 rfl) ?_
            refine x_iload_n E dX8_lay_93 (lv_at hl 3 rfl) ?_
            refine x_iast E hI hG hS (ym3 hY) (by omega) dX8_lay_94 (fun H locs hG hS => ?_)
            rw [show (st (pk V bN U f g) 3 c v) = (pk (st V (bN + 3) c v) bN U f g) from pk_h (by decide) _ _] at hG
            rw [show (pk (st V (bN + 3) c v) bN U f g) = (pk (layM bN c k v V) bN U f g) from by unfold layM; rw [if_pos q]] at hG
            refine x_goto E 132 dX8_lay_95 (by decide) ?_
            exact L132_3   _ _ _ hG hS (lv_sub hl [] rfl)
          · refine lv_tableIn E.1 E.2.1 dX8_lay_60 (by rw [q]; decide) (by rw [q]; decide) (off := 38) (tgt := 98) (by rw [q]; decide) (by decide) ?_
            refine x_aload_n E dX8_lay_98 (lv_at hl 0 rfl) ?_
            refine x_getr E hI hG (ym0 hY) cf8 6 4 rfl (by decide) kf_X8_19 dX8_lay_99 ?_
            refine x_iload_n E dX8_lay_102 (lv_at hl 1 rfl) ?_
            refine x_iload_n E dX8_lay_103 (lv_at hl 3 rfl) ?_
            refine x_iast E hI hG hS (ym4 hY) (by omega) dX8_lay_104 (fun H locs hG hS => ?_)
            rw [show (st (pk V bN U f g) 4 c v) = (pk (st V (bN + 4) c v) bN U f g) from pk_h (by decide) _ _] at hG
            rw [show (pk (st V (bN + 4) c v) bN U f g) = (pk (layM bN c k v V) bN U f g) from by unfold layM; rw [if_neg (by omega), if_pos q]] at hG
            refine x_goto E 132 dX8_lay_105 (by decide) ?_
            exact L132_3   _ _ _ hG hS (lv_sub hl [] rfl)
          · refine lv_tableIn E.1 E.2.1 dX8_lay_60 (by rw [q]; decide) (by rw [q]; decide) (off := 48) (tgt := 108) (by rw [q]; decide) (by decide) ?_
            refine x_aload_n E dX8_lay_108 (lv_at hl 0 rfl) ?_
            refine x_getr E hI hG (ym0 hY) cf8 7 5 rfl (by decide) kf_X8_22 dX8_lay_109 ?_
            refine x_iload_n E dX8_lay_112 (lv_at hl 1 rfl) ?_
            refine x_iload_n E dX8_lay_113 (lv_at hl 3 rfl) ?_
            refine x_iast E hI hG hS (ym5 hY) (by omega) dX8_lay_114 (fun H locs hG hS => ?_)
            rw [show (st (pk V bN U f g) 5 c v) = (pk (st V (bN + 5) c v) bN U f g) from pk_h (by decide) _ _] at hG
            rw [show (pk (st V (bN + 5) c v) bN U f g) = (pk (layM bN c k v V) bN U f g) from by unfold layM; rw [if_neg (by omega), if_neg (by omega), if_pos q]] at hG
            refine x_goto E 132 dX8_lay_115 (by decide) ?_
            exact L132_3   _ _ _ hG hS (lv_sub hl [] rfl)
          · refine lv_tableOut (tgt := 118) E.1 E.2.1 dX8_lay_60 (by rw [q]; decide) (by decide) ?_
            refine x_aload_n E dX8_lay_118 (lv_at hl 0 rfl) ?_
            refine x_getr E hI hG (ym0 hY) cf8 8 6 rfl (by decide) kf_X8_25 dX8_lay_119 ?_
            refine x_iload_n E dX8_lay_122 (lv_at hl 1 rfl) ?_
            refine x_iload_n E dX8_lay_123 (lv_at hl 3 rfl) ?_
            refine x_iast E hI hG hS (ym6 hY) (by omega) dX8_lay_124 (fun H locs hG hS => ?_)
            rw [show (st (pk V bN U f g) 6 c v) = (pk (st V (bN + 6) c v) bN U f g) from pk_h (by decide) _ _] at hG
            refine x_aload_n E dX8_lay_125 (lv_at hl 0 rfl) ?_
            refine x_getr E hI hG (ym0 hY) cf8 9 7 rfl (by decide) kf_X8_28 dX8_lay_126 ?_
            refine x_iload_n E dX8_lay_129 (lv_at hl 1 rfl) ?_
            refine x_iconst E dX8_lay_130 ?_
            refine x_iast E hI hG hS (ym7 hY) (by omega) dX8_lay_131 (fun H locs hG hS => ?_)
            rw [show (st (pk (st V (bN + 6) c v) bN U f g) 7 c (-1)) = (pk (st (st V (bN + 6) c v) (bN + 7) c (-1)) bN U f g) from pk_h (by decide) _ _] at hG
            rw [show (pk (st (st V (bN + 6) c v) (bN + 7) c (-1)) bN U f g) = (pk (layM bN c k v V) bN U f g) from by unfold layM; rw [if_neg (by omega), if_neg (by omega), if_neg (by omega)]] at hG
            exact L132_3   _ _ _ hG hS (lv_sub hl [] rfl)
        · have q54 := b01_iff0.mp c54
          exact L57_1  (by omega) _ _ _ hG hS (lv_sub hl [] rfl)
      refine x_iload_n E dX8_lay_17 (lv_at hl 3 rfl) ?_
      refine x_iconst E dX8_lay_18 ?_
      refine x_iload_n E dX8_lay_19 (lv_at hl 2 rfl) ?_
      refine x_if_ne E 28 dX8_lay_20 (by decide) (by unfold rg; omega) (fun c20 => ?_) (fun c20 => ?_)
      · refine x_iload_n E dX8_lay_28 (lv_at hl 2 rfl) ?_
        refine x_iconst E dX8_lay_29 ?_
        refine x_icmp_ne E 38 dX8_lay_30 (by decide) (by unfold rg; omega) (by unfold rg; omega) (fun c30 => ?_) (fun c30 => ?_)
        · refine x_iload_n E dX8_lay_38 (lv_at hl 2 rfl) ?_
          refine x_iconst E dX8_lay_39 ?_
          refine x_icmp_ne E 48 dX8_lay_40 (by decide) (by unfold rg; omega) (by unfold rg; omega) (fun c40 => ?_) (fun c40 => ?_)
          · refine x_sipush E dX8_lay_48 (by decide) ?_
            exact L51_2 999 (by unfold mlF; rw [if_neg (by omega), if_neg (by omega), if_neg (by omega)]) _ _ _ hG hS (lv_sub hl [0, 1, 2, 3] rfl)
          · refine x_bipush E dX8_lay_43 (by decide) ?_
            refine x_goto E 51 dX8_lay_45 (by decide) ?_
            exact L51_2 20 (by unfold mlF; rw [if_neg (by omega), if_neg (by omega), if_pos (by omega)]) _ _ _ hG hS (lv_sub hl [0, 1, 2, 3] rfl)
        · refine x_bipush E dX8_lay_33 (by decide) ?_
          refine x_goto E 51 dX8_lay_35 (by decide) ?_
          exact L51_2 99 (by unfold mlF; rw [if_neg (by omega), if_pos (by omega)]) _ _ _ hG hS (lv_sub hl [0, 1, 2, 3] rfl)
      · refine x_bipush E dX8_lay_23 (by decide) ?_
        refine x_goto E 51 dX8_lay_25 (by decide) ?_
        exact L51_2 100 (by unfold mlF; rw [if_pos c20]) _ _ _ hG hS (lv_sub hl [0, 1, 2, 3] rfl)

set_option maxHeartbeats 4000000 in
set_option maxRecDepth 100000 in
theorem c_X8_rules (l : Launch) {X : We} (hY : isY X) {n : Nat} {wd hi : Int} (V U : Mem) (f : Int → Int) (g : Int) (hL : Rl V U n wd hi) (hf : bo f) (hk : XI V n wd hi) (a0 a1 a2 a3 a4 : Int) (h0 : rg a0) (h1 : rg a1) (h2 : rg a2) (h3 : rg a3) (h4 : rg a4) : Mt l X (pk V bN U f g) yX8_rules cX8_rules 6 (some .boolean) 4 93 [.ref (wa X 0), .int (jI a0), .int (jI a1), .int (jI a2), .int (jI a3), .int (jI a4)] (Qi X (fun z W1 => z = b01 ((1 ≤ a0 ∧ a0 ≤ 5) ∧ (0 ≤ a1 ∧ a1 ≤ 100) ∧ (0 ≤ a2 ∧ a2 ≤ 100) ∧ (1 ≤ a3 ∧ a3 ≤ 9) ∧ 0 ≤ a4 ∧ a4 ≤ 20) ∧ MR (if (1 ≤ a0 ∧ a0 ≤ 5) ∧ (0 ≤ a1 ∧ a1 ≤ 100) ∧ (0 ≤ a2 ∧ a2 ≤ 100) ∧ (1 ≤ a3 ∧ a3 ≤ 9) ∧ 0 ≤ a4 ∧ a4 ≤ 20 then hall n wd hi bN (rlM a0 a1 a2 a3 a4 V) else V) W1 n wd hi)) := by
  refine Mt.go (by decide) (Nat.le_of_ble_eq_true rfl) ?_
  intro pg ev s0 mi bl mt cd ls Rm ag Qq hR hQ E hI hG hS hl
  have hl : lv_has ls 6 [(0, .ref (wa X 0)), (1, .int (jI a0)), (2, .int (jI a1)), (3, .int (jI a2)), (4, .int (jI a3)), (5, .int (jI a4))] := hl
  obtain ⟨hU, hWR, hKP, e11, e22, e29, e30, ⟨e33, e14, e15, e16, e17⟩, e38, e18, e19, e20⟩ := id hL
  obtain ⟨iN, iM, zT, hTP, hWK, hFL⟩ := id hk
  have hd := hU.2.2.2
  obtain ⟨hn1, hn2⟩ := dims.n hd
  have dyN := iN.2.2.2
  have dyM := iM.2.2.2
  have eN := bN3
  unfold rg at h0 h1 h2 h3 h4
  have L51_1 : (¬ ((1 ≤ a0 ∧ a0 ≤ 5) ∧ (0 ≤ a1 ∧ a1 ≤ 100) ∧ (0 ≤ a2 ∧ a2 ≤ 100) ∧ (1 ≤ a3 ∧ a3 ≤ 9) ∧ 0 ≤ a4 ∧ a4 ≤ 20)) → ∀ (H : Heap) (locs : List Loc) (ls : Array Slot), GW X (pk V bN U f g) H → va_S (wA X) s0.heap H locs → lv_has ls 6 [] → W pg l ev Rm s0 mi ag bl mt cd H locs 0 0 Qq (F0 mi 51 ls []) := by
    intro  hno H locs ls hG hS hl
    refine x_iconst E dX8_rules_51 ?_
    exact r_z E hQ hG hS dX8_rules_52 (Or.inl rfl) (⟨(b01_0 hno).symm, by rw [if_neg hno]; exact MR.mk hL hf⟩)
  refine x_iload_n E dX8_rules_0 (lv_at hl 1 rfl) ?_
  refine x_iconst E dX8_rules_1 ?_
  refine x_iconst E dX8_rules_2 ?_
  refine x_ci hG hS (x_runS E hI hG hS (c_X8_in l (pk V bN U f g) a0 1 5 (by unfold rg; omega) (by unfold rg; omega) (by unfold rg; omega)) mf_X8_in km_X8_110 rfl hl rfl (Nat.le_of_ble_eq_true rfl) (by rw [hR]; exact ⟨Nat.le_of_ble_eq_true rfl, Nat.le_of_ble_eq_true rfl⟩) ⟨Nat.zero_le _, Nat.zero_le _⟩ dX8_rules_3) (fun z1 V1 H locs hp hG hS => ?_)
  obtain ⟨ez, eV⟩ := hp
  rw [eV] at hG
  rw [ez]
  refine x_if_eq E 51 dX8_rules_6 (by decide) b01_rg (fun c6 => ?_) (fun c6 => ?_)
  · have q6 := b01_iff0.mp c6
    exact L51_1  (by omega) _ _ _ hG hS (lv_sub hl [] rfl)
  · have q6 := b01_ne c6
    refine x_iload_n E dX8_rules_9 (lv_at hl 2 rfl) ?_
    refine x_iconst E dX8_rules_10 ?_
    refine x_bipush E dX8_rules_11 (by decide) ?_
    refine x_ci hG hS (x_runS E hI hG hS (c_X8_in l (pk V bN U f g) a1 0 100 (by unfold rg; omega) (by unfold rg; omega) (by unfold rg; omega)) mf_X8_in km_X8_110 rfl hl rfl (Nat.le_of_ble_eq_true rfl) (by rw [hR]; exact ⟨Nat.le_of_ble_eq_true rfl, Nat.le_of_ble_eq_true rfl⟩) ⟨Nat.zero_le _, Nat.zero_le _⟩ dX8_rules_13) (fun z1 V1 H locs hp hG hS => ?_)
    obtain ⟨ez, eV⟩ := hp
    rw [eV] at hG
    rw [ez]
    refine x_if_eq E 51 dX8_rules_16 (by decide) b01_rg (fun c16 => ?_) (fun c16 => ?_)
    · have q16 := b01_iff0.mp c16
      exact L51_1  (by omega) _ _ _ hG hS (lv_sub hl [] rfl)
    · have q16 := b01_ne c16
      refine x_iload_n E dX8_rules_19 (lv_at hl 3 rfl) ?_
      refine x_iconst E dX8_rules_20 ?_
      refine x_bipush E dX8_rules_21 (by decide) ?_
      refine x_ci hG hS (x_runS E hI hG hS (c_X8_in l (pk V bN U f g) a2 0 100 (by unfold rg; omega) (by unfold rg; omega) (by unfold rg; omega)) mf_X8_in km_X8_110 rfl hl rfl (Nat.le_of_ble_eq_true rfl) (by rw [hR]; exact ⟨Nat.le_of_ble_eq_true rfl, Nat.le_of_ble_eq_true rfl⟩) ⟨Nat.zero_le _, Nat.zero_le _⟩ dX8_rules_23) (fun z1 V1 H locs hp hG hS => ?_)
      obtain ⟨ez, eV⟩ := hp
      rw [eV] at hG
      rw [ez]
      refine x_if_eq E 51 dX8_rules_26 (by decide) b01_rg (fun c26 => ?_) (fun c26 => ?_)
      · have q26 := b01_iff0.mp c26
        exact L51_1  (by omega) _ _ _ hG hS (lv_sub hl [] rfl)
      · have q26 := b01_ne c26
        refine x_iload E dX8_rules_29 (lv_at hl 4 rfl) ?_
        refine x_iconst E dX8_rules_31 ?_
        refine x_bipush E dX8_rules_32 (by decide) ?_
        refine x_ci hG hS (x_runS E hI hG hS (c_X8_in l (pk V bN U f g) a3 1 9 (by unfold rg; omega) (by unfold rg; omega) (by unfold rg; omega)) mf_X8_in km_X8_110 rfl hl rfl (Nat.le_of_ble_eq_true rfl) (by rw [hR]; exact ⟨Nat.le_of_ble_eq_true rfl, Nat.le_of_ble_eq_true rfl⟩) ⟨Nat.zero_le _, Nat.zero_le _⟩ dX8_rules_34) (fun z1 V1 H locs hp hG hS => ?_)
        obtain ⟨ez, eV⟩ := hp
        rw [eV] at hG
        rw [ez]
        refine x_if_eq E 51 dX8_rules_37 (by decide) b01_rg (fun c37 => ?_) (fun c37 => ?_)
        · have q37 := b01_iff0.mp c37
          exact L51_1  (by omega) _ _ _ hG hS (lv_sub hl [] rfl)
        · have q37 := b01_ne c37
          refine x_iload E dX8_rules_40 (lv_at hl 5 rfl) ?_
          refine x_iconst E dX8_rules_42 ?_
          refine x_bipush E dX8_rules_43 (by decide) ?_
          refine x_ci hG hS (x_runS E hI hG hS (c_X8_in l (pk V bN U f g) a4 0 20 (by unfold rg; omega) (by unfold rg; omega) (by unfold rg; omega)) mf_X8_in km_X8_110 rfl hl rfl (Nat.le_of_ble_eq_true rfl) (by rw [hR]; exact ⟨Nat.le_of_ble_eq_true rfl, Nat.le_of_ble_eq_true rfl⟩) ⟨Nat.zero_le _, Nat.zero_le _⟩ dX8_rules_45) (fun z1 V1 H locs hp hG hS => ?_)
          obtain ⟨ez, eV⟩ := hp
          rw [eV] at hG
          rw [ez]
          refine x_if_ne E 53 dX8_rules_48 (by decide) b01_rg (fun c48 => ?_) (fun c48 => ?_)
          · have q48 := b01_ne c48
            refine x_aload_n E dX8_rules_53 (lv_at hl 0 rfl) ?_
            refine x_getr E hI hG (ym0 hY) cf8 10 8 rfl (by decide) kf_X8_31 dX8_rules_54 ?_
            refine x_iconst E dX8_rules_57 ?_
            refine x_iload_n E dX8_rules_58 (lv_at hl 1 rfl) ?_
            refine x_iast E hI hG hS (ym8 hY) (by omega) dX8_rules_59 (fun H locs hG hS => ?_)
            rw [show (st (pk V bN U f g) 8 0 a0) = (pk (st V (bN + 10) 0 a0) bN U f g) from pk_r _ _] at hG
            refine x_aload_n E dX8_rules_60 (lv_at hl 0 rfl) ?_
            refine x_getr E hI hG (ym0 hY) cf8 10 8 rfl (by decide) kf_X8_31 dX8_rules_61 ?_
            refine x_iconst E dX8_rules_64 ?_
            refine x_iload_n E dX8_rules_65 (lv_at hl 2 rfl) ?_
            refine x_iast E hI hG hS (ym8 hY) (by omega) dX8_rules_66 (fun H locs hG hS => ?_)
            rw [show (st (pk (st V (bN + 10) 0 a0) bN U f g) 8 1 a1) = (pk (st (st V (bN + 10) 0 a0) (bN + 10) 1 a1) bN U f g) from pk_r _ _] at hG
            refine x_aload_n E dX8_rules_67 (lv_at hl 0 rfl) ?_
            refine x_getr E hI hG (ym0 hY) cf8 10 8 rfl (by decide) kf_X8_31 dX8_rules_68 ?_
            refine x_iconst E dX8_rules_71 ?_
            refine x_iload_n E dX8_rules_72 (lv_at hl 3 rfl) ?_
            refine x_iast E hI hG hS (ym8 hY) (by omega) dX8_rules_73 (fun H locs hG hS => ?_)
            rw [show (st (pk (st (st V (bN + 10) 0 a0) (bN + 10) 1 a1) bN U f g) 8 2 a2) = (pk (st (st (st V (bN + 10) 0 a0) (bN + 10) 1 a1) (bN + 10) 2 a2) bN U f g) from pk_r _ _] at hG
            refine x_aload_n E dX8_rules_74 (lv_at hl 0 rfl) ?_
            refine x_getr E hI hG (ym0 hY) cf8 10 8 rfl (by decide) kf_X8_31 dX8_rules_75 ?_
            refine x_iconst E dX8_rules_78 ?_
            refine x_iload E dX8_rules_79 (lv_at hl 4 rfl) ?_
            refine x_iast E hI hG hS (ym8 hY) (by omega) dX8_rules_81 (fun H locs hG hS => ?_)
            rw [show (st (pk (st (st (st V (bN + 10) 0 a0) (bN + 10) 1 a1) (bN + 10) 2 a2) bN U f g) 8 3 a3) = (pk (st (st (st (st V (bN + 10) 0 a0) (bN + 10) 1 a1) (bN + 10) 2 a2) (bN + 10) 3 a3) bN U f g) from pk_r _ _] at hG
            refine x_aload_n E dX8_rules_82 (lv_at hl 0 rfl) ?_
            refine x_getr E hI hG (ym0 hY) cf8 10 8 rfl (by decide) kf_X8_31 dX8_rules_83 ?_
            refine x_iconst E dX8_rules_86 ?_
            refine x_iload E dX8_rules_87 (lv_at hl 5 rfl) ?_
            refine x_iast E hI hG hS (ym8 hY) (by omega) dX8_rules_89 (fun H locs hG hS => ?_)
            rw [show (st (pk (st (st (st (st V (bN + 10) 0 a0) (bN + 10) 1 a1) (bN + 10) 2 a2) (bN + 10) 3 a3) bN U f g) 8 4 a4) = (pk (st (st (st (st (st V (bN + 10) 0 a0) (bN + 10) 1 a1) (bN + 10) 2 a2) (bN + 10) 3 a3) (bN + 10) 4 a4) bN U f g) from pk_r _ _] at hG
            rw [show (pk (st (st (st (st (st V (bN + 10) 0 a0) (bN + 10) 1 a1) (bN + 10) 2 a2) (bN + 10) 3 a3) (bN + 10) 4 a4) bN U f g) = (pk (rlM a0 a1 a2 a3 a4 V) bN U f g) from rfl] at hG
            have eR : ∀ p, p ≠ bN + 10 → (rlM a0 a1 a2 a3 a4 V) p = V p := fun p hp => by unfold rlM; rw [st_p hp, st_p hp, st_p hp, st_p hp, st_p hp]
            have e3 : (rlM a0 a1 a2 a3 a4 V) (bN + 10) 3 = a3 := by unfold rlM; rw [st_k (by decide), st_s]
            refine x_aload_n E dX8_rules_90 (lv_at hl 0 rfl) ?_
            refine x_cv hG hS (x_runV E hI hG hS (ym0 hY) cf8 rfl (c_X8_settledAll l hY U hU (rlM a0 a1 a2 a3 a4 V) f g hf (by rw [eR _ (by omega)]; exact iN.1.2.1.ps hd) (by rw [e3]; omega)) mf_X8_settledAll km_X8_159 rfl hl rfl (Nat.le_of_ble_eq_true rfl) (by rw [hR]; exact ⟨Nat.le_of_ble_eq_true rfl, Nat.le_of_ble_eq_true rfl⟩) ⟨Nat.zero_le _, Nat.zero_le _⟩ dX8_rules_91) (fun V1 H locs hp hG hS => ?_)
            obtain ⟨f2, g2, eV, hf2⟩ := hp
            rw [eV] at hG
            refine x_iconst E dX8_rules_94 ?_
            exact r_z E hQ hG hS dX8_rules_95 (Or.inr rfl) (⟨(b01_1 (by omega)).symm, by rw [if_pos (by omega)]; exact MR.mk (hL.sh (fun p q => by unfold hall; rw [sp_n (by omega), eR p (by omega)])) hf2⟩)
          · have q48 := b01_iff0.mp c48
            exact L51_1  (by omega) _ _ _ hG hS (lv_sub hl [] rfl)

set_option maxHeartbeats 4000000 in
set_option maxRecDepth 100000 in
theorem c_X8_seed (l : Launch) {X : We} (hY : isY X) {n : Nat} {wd hi : Int} (V U : Mem) (f : Int → Int) (g : Int) (hL : Rl V U n wd hi) (hf : bo f) (hk : XI V n wd hi) (x : Int) : Mt l X (pk V bN U f g) yX8_seed cX8_seed 2 none 0 0 [.ref (wa X 0), .int (jI x)] (Qv X (fun W1 => MR (st V bN 11 x) W1 n wd hi)) := by
  refine Mt.go (by decide) (Nat.le_of_ble_eq_true rfl) ?_
  intro pg ev s0 mi bl mt cd ls Rm ag Qq hR hQ E hI hG hS hl
  have hl : lv_has ls 2 [(0, .ref (wa X 0)), (1, .int (jI x))] := hl
  obtain ⟨hU, hWR, hKP, e11, e22, e29, e30, ⟨e33, e14, e15, e16, e17⟩, e38, e18, e19, e20⟩ := id hL
  obtain ⟨iN, iM, zT, hTP, hWK, hFL⟩ := id hk
  have hd := hU.2.2.2
  obtain ⟨hn1, hn2⟩ := dims.n hd
  have dyN := iN.2.2.2
  have dyM := iM.2.2.2
  have eN := bN3
  refine x_aload_n E dX8_seed_0 (lv_at hl 0 rfl) ?_
  refine x_iload_n E dX8_seed_1 (lv_at hl 1 rfl) ?_
  refine x_puti E hI hG hS (ym0 hY) cf8 11 11 rfl rfl (by decide) rfl rfl kf_X8_34 dX8_seed_2 (fun H locs hG hS => ?_)
  rw [show (st (pk V bN U f g) 0 11 x) = (pk (st V bN 11 x) bN U f g) from pk_n (by decide) _ _] at hG
  exact r_v E hQ hG hS dX8_seed_5 (MR.mk (hL.sh (fun p q => st_p (by omega))) hf)

theorem byt_at (x : Int) (V : Mem) : apM x V 46 = ui (ui (ui (ui (V 46) (V 45 1) (byt x 24)) (V 45 1 + 1) (byt x 16)) (V 45 1 + 2) (byt x 8)) (V 45 1 + 3) (byt x 0) ∧ apM x V 45 1 = V 45 1 + 4 := by
  unfold apM
  rw [ap1_b, ap1_b, ap1_b, ap1_b]
  simp only [ap1_1, Int.add_assoc]
  exact ⟨rfl, rfl⟩
theorem apM_k (x : Int) (V : Mem) {j : Int} (h : j ≠ 1) : apM x V 45 j = V 45 j := by
  unfold apM; rw [ap1_k _ _ _ h, ap1_k _ _ _ h, ap1_k _ _ _ h, ap1_k _ _ _ h]
theorem apM_p (x : Int) (V : Mem) {p : Nat} (h1 : p ≠ 45) (h2 : p ≠ 46) : apM x V p = V p := by
  unfold apM; rw [ap1_p _ _ _ h1 h2, ap1_p _ _ _ h1 h2, ap1_p _ _ _ h1 h2, ap1_p _ _ _ h1 h2]
/-- the model's tape after four more bytes -/
def mpM (x : Int) (U : Mem) : Mem := st (st (st (st (st U 11 (U 0 22) (byt x 24)) 11 (U 0 22 + 1) (byt x 16)) 11 (U 0 22 + 2) (byt x 8)) 11 (U 0 22 + 3) (byt x 0)) 0 22 (U 0 22 + 4)
theorem st_ui (V : Mem) (p : Nat) (k v : Int) : st V p k v p = ui (V p) k v := by rw [st_sp, sp_s]
theorem mpM_22 (x : Int) (U : Mem) : mpM x U 0 22 = U 0 22 + 4 := st_s _ _ _ _
theorem mpM_11 (x : Int) (U : Mem) : mpM x U 11 = ui (ui (ui (ui (U 11) (U 0 22) (byt x 24)) (U 0 22 + 1) (byt x 16)) (U 0 22 + 2) (byt x 8)) (U 0 22 + 3) (byt x 0) := by unfold mpM; rw [st_p (by decide), st_ui, st_ui, st_ui, st_ui]
theorem mpM_p (x : Int) (U : Mem) {p : Nat} (h0 : p ≠ 0) (h1 : p ≠ 11) : mpM x U p = U p := by unfold mpM; rw [st_p h0, st_p h1, st_p h1, st_p h1, st_p h1]
theorem mpM_k (x : Int) (U : Mem) {k : Int} (h : k ≠ 22) : mpM x U 0 k = U 0 k := by unfold mpM; rw [st_k h, st_p (by decide), st_p (by decide), st_p (by decide), st_p (by decide)]
