theorem psM_p {n b q : Nat} {wd hi : Int} (h : out b q) (k : Nat) (W : Mem) : psM n wd hi b k W q = W q := by
  have e := psM_out (n := n) (wd := wd) (hi := hi) (g := W q) h k W
  rw [sp_self] at e
  rw [e, sp_s]
theorem Inv.hop {V : Mem} {n b : Nat} {wd hi h : Int} (hb : 3 ≤ b) (hv : Inv V n wd hi b) (h1 : 1 ≤ h) (h2 : h ≤ 5) : Inv (st V (b + 10) 0 h) n wd hi b := by
  obtain ⟨⟨a1, a2, a3⟩, ⟨r2, r3, r4, r5, r6, r7, r8, r9, r10, r11⟩, a5, a6⟩ := hv
  unfold Inv
  rw [st_p (show b ≠ b + 10 by omega)]
  refine ⟨⟨a1.st (by omega) _ _, ?_, by rw [st_p (by omega)]; exact a3⟩, ?_, a5.of (st_p (by omega)) (st_p (by omega)) (st_p (by omega)), a6⟩
  · rw [st_k (by decide), st_p (by omega)]; exact a2
  · unfold DR
    rw [st_p (by omega), st_p (by omega), st_p (by omega), st_p (by omega), st_p (by omega), st_p (by omega), st_s, st_k (by decide), st_k (by decide), st_k (by decide)]
    exact ⟨r2, r3, r4, r5, r6, r7, ⟨h1, h2⟩, r9, r10, r11⟩
theorem coM_12 {n b : Nat} {wd hi : Int} {kf cf vf : Int → Int} {x : Int} (i : Nat) (U : Mem) : coM n wd hi b kf cf vf x i U b = U b := coM_p (by omega) i U
theorem Inv.co {n b : Nat} {wd hi : Int} {U : Mem} {kf cf vf : Int → Int} {x m : Int} (hb : 3 ≤ b) (h : Inv U n wd hi b) (hf : ∀ i : Int, 0 ≤ i → i < m → (0 ≤ cf i ∧ cf i < (n : Int)) ∧ 1 ≤ vf i ∧ vf i ≤ 99) (i : Nat) (hi' : (i : Int) ≤ m) : Inv (coM n wd hi b kf cf vf x i U) n wd hi b := by
  have := h.mid.co (kf := kf) (x := x) hb hf i hi'
  unfold Mid at this
  rw [coM_12] at this
  unfold Inv
  rw [coM_12]; exact this
theorem pow_N {c x : Int} (h0 : 0 ≤ c) (h1 : c ≤ 4) (e : x = 2 ^ c.toNat) : x.toNat = 2 ^ c.toNat := by
  rw [e]
  rcases (show c = 0 ∨ c = 1 ∨ c = 2 ∨ c = 3 ∨ c = 4 by omega) with rfl | rfl | rfl | rfl | rfl <;> decide
theorem hsF_rg {V : Mem} {n b : Nat} {wd hi : Int} (h : Inv V n wd hi b) : 0 ≤ su n (hsF V b) ∧ su n (hsF V b) ≤ 1520000 := by
  have hd := h.1.1.2.2.2.1
  obtain ⟨n1, n2⟩ := dims.n hd
  have hb := (h.1.2.1.ps hd).1
  have a := su_le n (f := fun _ => 0) (g := hsF V b) (fun c c0 c1 => by
    have := hb c c0 c1
    show 0 ≤ hsF V b c
    unfold hsF; split <;> omega)
  have b2 := su_le n (f := hsF V b) (g := fun _ => 9500) (fun c c0 c1 => by
    have := hb c c0 c1
    show hsF V b c ≤ 9500
    unfold hsF; split <;> omega)
  rw [su_const] at a b2
  have : (n : Int) * 9500 ≤ 160 * 9500 := Int.mul_le_mul_of_nonneg_right n2 (by omega)
  omega
theorem XI.tr {V : Mem} {n : Nat} {wd hi : Int} (h : XI V n wd hi) (x : Int) : Inv (coM n wd hi bT (V 51) (V 52) (V 53) x (V 50 4).toNat (cpF V bT bN)) n wd hi bT ∧ coM n wd hi bT (V 51) (V 52) (V 53) x (V 50 4).toNat (cpF V bT bN) bT 12 = V bN 12 := by
  obtain ⟨iN, iM, zT, hTP, hWK, hFL⟩ := h
  refine ⟨(Inv.cp (a := bN) (by decide) iN zT).co (by decide) (m := V 50 4) (fun i i0 i1 => ⟨(hWK.2 i i0 i1).2.1, (hWK.2 i i0 i1).2.2.1⟩) _ (by have := hWK.1; omega), ?_⟩
  rw [coM_12, cpF_b]
theorem grX_rg {V : Mem} {n : Nat} {wd hi k : Int} (h : XI V n wd hi) (h0 : 0 ≤ k) (h1 : V bN 12 + k ≤ 3000) (x : Int) : 0 ≤ grX V n wd hi k x ∧ grX V n wd hi k x ≤ 1520000 := by
  obtain ⟨a, e⟩ := h.tr x
  exact hsF_rg (a.pass (by decide) k.toNat (by rw [e]; omega)).1
theorem csX_rg {V : Mem} {n : Nat} (h : WK V n) (x : Int) : 0 ≤ csX V x ∧ csX V x ≤ 3996 := by
  have hc : ∀ i : Int, 0 ≤ i → i < ((V 50 4).toNat : Int) → 0 ≤ csK (V 54) x i ∧ csK (V 54) x i ≤ 999 := by
    intro i i0 i1
    have := (h.2 i i0 (by have := h.1; omega)).2.2.2
    unfold csK
    split <;> omega
  have a := su_le (V 50 4).toNat (f := fun _ => 0) (g := csK (V 54) x) (fun i i0 i1 => (hc i i0 i1).1)
  have b := su_le (V 50 4).toNat (f := csK (V 54) x) (g := fun _ => 999) (fun i i0 i1 => (hc i i0 i1).2)
  rw [su_const] at a b
  have := h.1
  unfold csX
  omega
theorem csX_0 {V : Mem} : csX V 0 = 0 := by
  unfold csX
  have e : csK (V 54) 0 = fun _ => 0 := by
    funext i
    unfold csK bitv
    rw [Int.zero_ediv]
    rfl
  rw [e, su_const, Int.mul_zero]
theorem hid.rf (V : Mem) : hid V V := ⟨fun _ _ _ => rfl, rfl⟩

set_option maxHeartbeats 4000000 in
set_option maxRecDepth 100000 in
theorem c_X7_fits (l : Launch) {X : We} {n : Nat} (hX : isX X n) {wd hi : Int} (V : Mem) (hk : XI V n wd hi) (k : Int) (hk2 : rg k) : Mt l X V yX7_fits cX7_fits 4 (some .int) 6 141 [.ref (wa X 0), .int (jI k)] (Qi X (fun z V1 => hid V V1 ∧ V1 0 = V 0 ∧ z = if 1 ≤ k ∧ k ≤ 60 ∧ V bM 12 + k ≤ 3000 then ftK V n wd hi k 5 else -1)) := by
  refine Mt.go (by decide) (Nat.le_of_ble_eq_true rfl) ?_
  intro pg ev s0 mi bl mt cd ls Rm ag Qq hR hQ E hI hG hS hl
  have hl : lv_has ls 4 [(0, .ref (wa X 0)), (1, .int (jI k))] := hl
  obtain ⟨iN, iM, zT, hTP, hWK, hFL⟩ := id hk
  have hs : Sh V n wd hi := iN.1.1
  have hd := hs.2.2.2.1
  obtain ⟨hn1, hn2⟩ := dims.n hd
  have dyN := iN.2.2.2
  have dyM := iM.2.2.2
  refine x_aload_n E dX7_fits_0 (lv_at hl 0 rfl) ?_
  refine x_getr E hI hG (xb0 hX) cf7 2 bM rfl (by decide) kf_X7_31 dX7_fits_1 ?_
  refine x_iload_n E dX7_fits_4 (lv_at hl 1 rfl) ?_
  refine x_ci hG hS (x_runV E hI hG hS (xd0 hX isM) cf1 rfl (c_X1_canPass l hX isM V k hk2 dyM) mf_X1_canPass km_X7_123 rfl hl rfl (Nat.le_of_ble_eq_true rfl) (by rw [hR]; exact ⟨Nat.le_of_ble_eq_true rfl, Nat.le_of_ble_eq_true rfl⟩) ⟨Nat.zero_le _, Nat.zero_le _⟩ dX7_fits_5) (fun z1 V1 H locs hp hG hS => ?_)
  obtain ⟨ez, eV⟩ := hp
  rw [eV] at hG
  rw [ez]
  refine x_if_ne E 13 dX7_fits_8 (by decide) b01_rg (fun c8 => ?_) (fun c8 => ?_)
  · have q8 := b01_ne c8
    refine x_iconst E dX7_fits_13 ?_
    refine x_istore_n E [(2, .int (jI 0)), (0, .ref (wa X 0)), (1, .int (jI k))] dX7_fits_14 hl (by decide) rfl (fun ls hl => ?_)
    refine x_iconst E dX7_fits_15 ?_
    refine x_istore_n E [(3, .int (jI 1)), (2, .int (jI 0)), (0, .ref (wa X 0)), (1, .int (jI k))] dX7_fits_16 hl (by decide) rfl (fun ls hl => ?_)
    have L17_1 : ∀ (N : Nat) (h : Int) (a : Int) (U : Mem), (1 ≤ h) → (h ≤ 6) → (a = ftK V n wd hi k (h - 1).toNat) → (∀ p, (p < bT ∨ bT + 14 ≤ p) → U p = V p) → (U (bT + 9) = V (bT + 9)) → ((6 - h).toNat) < N → ∀ (H : Heap) (locs : List Loc) (ls : Array Slot), GW X U H → va_S (wA X) s0.heap H locs → lv_has ls 4 [(0, .ref (wa X 0)), (1, .int (jI k)), (2, .int (jI a)), (3, .int (jI h))] → W pg l ev Rm s0 mi ag bl mt cd H locs 0 0 Qq (F0 mi 17 ls []) := by
      intro N
      induction N with
      | zero => intro h a U h1 h2 ea hU hU9 hN; exact absurd hN (Nat.not_lt_zero _)
      | succ N ih17 =>
        intro h a U h1 h2 ea hU hU9 hN H locs ls hG hS hl
        refine x_iload_n E dX7_fits_17 (lv_at hl 3 rfl) ?_
        refine x_iconst E dX7_fits_18 ?_
        refine x_icmp_gt E 77 dX7_fits_19 (by decide) (by unfold rg; omega) (by unfold rg; omega) (fun c19 => ?_) (fun c19 => ?_)
        · refine x_iload_n E dX7_fits_77 (lv_at hl 2 rfl) ?_
          exact r_i E hQ hG hS dX7_fits_78 (⟨⟨fun p _ hp => hU p hp, hU9⟩, hU 0 (by decide), by rw [if_pos q8, ea, show (h - 1).toNat = 5 by omega]⟩)
        · have eC : cpF U bT bM = cpF V bT bM := cpF_same (by decide) hU hU9
          have L71_2 : ∀ (a2 : Int) (U2 : Mem), (a2 = ftK V n wd hi k h.toNat) → (∀ p, (p < bT ∨ bT + 14 ≤ p) → U2 p = V p) → (U2 (bT + 9) = V (bT + 9)) → ∀ (H : Heap) (locs : List Loc) (ls : Array Slot), GW X U2 H → va_S (wA X) s0.heap H locs → lv_has ls 4 [(0, .ref (wa X 0)), (1, .int (jI k)), (2, .int (jI a2)), (3, .int (jI h))] → W pg l ev Rm s0 mi ag bl mt cd H locs 0 0 Qq (F0 mi 71 ls []) := by
            intro a2 U2 ea2 gU gU9 H locs ls hG hS hl
            refine x_iinc E (k := 3) [(3, .int (jI (h + 1))), (0, .ref (wa X 0)), (1, .int (jI k)), (2, .int (jI a2))] dX7_fits_71 hl rfl (by decide) rfl (fun ls hl => ?_)
            refine x_goto E 17 dX7_fits_74 (by decide) ?_
            exact ih17 (h + 1) a2 U2 (by omega) (by omega) (by rw [show h + 1 - 1 = h by omega]; exact ea2) gU gU9 (by omega) _ _ _ hG hS (lv_sub hl [1, 2, 3, 0] rfl)
          refine x_aload_n E dX7_fits_22 (lv_at hl 0 rfl) ?_
          refine x_getr E hI hG (xb0 hX) cf7 3 bT rfl (by decide) kf_X7_34 dX7_fits_23 ?_
          refine x_aload_n E dX7_fits_26 (lv_at hl 0 rfl) ?_
          refine x_getr E hI hG (xb0 hX) cf7 2 bM rfl (by decide) kf_X7_31 dX7_fits_27 ?_
          refine x_cv hG hS (x_runV E hI hG hS (xd0 hX isT) cf1 rfl (c_X1_copyFrom l hX isT isM (by decide) U) mf_X1_copyFrom km_X7_148 rfl hl rfl (Nat.le_of_ble_eq_true rfl) (by rw [hR]; exact ⟨Nat.le_of_ble_eq_true rfl, Nat.le_of_ble_eq_true rfl⟩) ⟨Nat.zero_le _, Nat.zero_le _⟩ dX7_fits_30) (fun V1 H locs hp hG hS => ?_)
          have eV := hp
          rw [eC] at eV
          rw [eV] at hG
          refine x_aload_n E dX7_fits_33 (lv_at hl 0 rfl) ?_
          refine x_getr E hI hG (xb0 hX) cf7 3 bT rfl (by decide) kf_X7_34 dX7_fits_34 ?_
          refine x_getr E hI hG (xd0 hX isT) cf1 9 (bT + 10) rfl (by decide) kf_X7_81 dX7_fits_37 ?_
          refine x_iconst E dX7_fits_40 ?_
          refine x_iload_n E dX7_fits_41 (lv_at hl 3 rfl) ?_
          refine x_iast E hI hG hS (xd10 hX isT) (by omega) dX7_fits_42 (fun H locs hG hS => ?_)
          have hWc : Inv (st (cpF V bT bM) (bT + 10) 0 h) n wd hi bT := (Inv.cp (a := bM) (by decide) iM zT).hop (by decide) (by omega) (by omega)
          have eday : (st (cpF V bT bM) (bT + 10) 0 h) bT 12 = V bM 12 := by rw [st_p (by decide), cpF_b]
          have hps := hWc.pass (by decide) k.toNat (by rw [eday]; omega)
          have hWp := hps.1
          have pP : ∀ p, (p < bT ∨ bT + 14 ≤ p) → (psM n wd hi bT k.toNat (st (cpF V bT bM) (bT + 10) 0 h)) p = V p := fun p hp => by rw [psM_p (b := bT) hp, st_p (by unfold bT at *; omega), cpF_p hp]
          have p55 := pP 55 (by decide)
          have p56 := pP 56 (by decide)
          have p57 := pP 57 (by decide)
          have p58 := pP 58 (by decide)
          have fWp : FL (psM n wd hi bT k.toNat (st (cpF V bT bM) (bT + 10) 0 h)) n := by unfold FL; rw [p55, p56, p57, p58]; exact hFL
          have p9 : (psM n wd hi bT k.toNat (st (cpF V bT bM) (bT + 10) 0 h)) (bT + 9) = V (bT + 9) := by rw [hWp.1.2.2, zT]
          have hft := ftK_rg V n wd hi k (h - 1).toNat
          rw [← ea, show (h - 1).toNat + 1 = h.toNat by omega] at hft
          have hfs : ftK V n wd hi k h.toNat = a + (if agX V n wd hi k h = true then 2 ^ h.toNat else 0) := by
            rw [show h.toNat = (h - 1).toNat + 1 by omega]
            show ftK V n wd hi k (h - 1).toNat + (if agX V n wd hi k (((h - 1).toNat + 1 : Nat) : Int) = true then 2 ^ ((h - 1).toNat + 1) else 0) = _
            rw [← ea, show (((h - 1).toNat + 1 : Nat) : Int) = h by omega]
          refine x_aload_n E dX7_fits_43 (lv_at hl 0 rfl) ?_
          refine x_getr E hI hG (xb0 hX) cf7 3 bT rfl (by decide) kf_X7_34 dX7_fits_44 ?_
          refine x_iload_n E dX7_fits_47 (lv_at hl 1 rfl) ?_
          refine x_cv hG hS (x_runV E hI hG hS (xd0 hX isT) cf1 rfl (c_X1_pass l hX isT (st (cpF V bT bM) (bT + 10) 0 h) hWc k (by omega) (by omega)) mf_X1_pass km_X7_126 rfl hl rfl (Nat.le_of_ble_eq_true rfl) (by rw [hR]; exact ⟨Nat.le_of_ble_eq_true rfl, Nat.le_of_ble_eq_true rfl⟩) ⟨Nat.zero_le _, Nat.zero_le _⟩ dX7_fits_48) (fun V1 H locs hp hG hS => ?_)
          have eV := hp
          rw [eV] at hG
          refine x_aload_n E dX7_fits_51 (lv_at hl 0 rfl) ?_
          refine x_getr E hI hG (xb0 hX) cf7 6 55 rfl (by decide) kf_X7_54 dX7_fits_52 ?_
          refine x_aload_n E dX7_fits_55 (lv_at hl 0 rfl) ?_
          refine x_getr E hI hG (xb0 hX) cf7 3 bT rfl (by decide) kf_X7_34 dX7_fits_56 ?_
          refine x_ci hG hS (x_runV E hI hG hS (xf0 hX) cf2 rfl (c_X2_agreeWith l hX isT (psM n wd hi bT k.toNat (st (cpF V bT bM) (bT + 10) 0 h)) hWp.mid fWp) mf_X2_agreeWith km_X7_154 rfl hl rfl (Nat.le_of_ble_eq_true rfl) (by rw [hR]; exact ⟨Nat.le_of_ble_eq_true rfl, Nat.le_of_ble_eq_true rfl⟩) ⟨Nat.zero_le _, Nat.zero_le _⟩ dX7_fits_59) (fun z1 V1 H locs hp hG hS => ?_)
          obtain ⟨ez, eV⟩ := hp
          rw [p56, p57, p58, p55] at ez
          change _ = b2i (agX V n wd hi k h) at ez
          rw [eV] at hG
          rw [ez]
          refine x_if_eq E 71 dX7_fits_62 (by decide) (b2i_rg _) (fun c62 => ?_) (fun c62 => ?_)
          · exact L71_2 a (psM n wd hi bT k.toNat (st (cpF V bT bM) (bT + 10) 0 h)) (by rw [hfs, b2i_0.mp c62, if_neg (by decide)]; omega) pP p9 _ _ _ hG hS (lv_sub hl [0, 1, 2, 3] rfl)
          · refine x_iload_n E dX7_fits_65 (lv_at hl 2 rfl) ?_
            refine x_iconst E dX7_fits_66 ?_
            refine x_iload_n E dX7_fits_67 (lv_at hl 3 rfl) ?_
            refine lv_ishl E.1 E.2.1 dX7_fits_68 ?_
            refine lv_ior E.1 E.2.1 dX7_fits_69 ?_
            refine x_rawi (a + 2 ^ h.toNat) (by have := q_orb (h := h.toNat) (by omega) hft.1 hft.2; rw [Int.toNat_of_nonneg (by omega)] at this; exact this) ?_
            refine x_istore_n E [(2, .int (jI (a + 2 ^ h.toNat))), (0, .ref (wa X 0)), (1, .int (jI k)), (3, .int (jI h))] dX7_fits_70 hl (by decide) rfl (fun ls hl => ?_)
            exact L71_2 (a + 2 ^ h.toNat) (psM n wd hi bT k.toNat (st (cpF V bT bM) (bT + 10) 0 h)) (by rw [hfs, if_pos (b2i_ne.mp c62)]) pP p9 _ _ _ hG hS (lv_sub hl [1, 2, 0, 3] rfl)
    exact L17_1 _ 1 0 V (by omega) (by omega) rfl (fun _ _ => rfl) rfl (Nat.lt_succ_self _) _ _ _ hG hS (lv_sub hl [2, 3, 1, 0] rfl)
  · have q8 := b01_iff0.mp c8
    refine x_iconst E dX7_fits_11 ?_
    exact r_i E hQ hG hS dX7_fits_12 (⟨hid.rf V, rfl, by rw [if_neg q8]⟩)

set_option maxHeartbeats 4000000 in
set_option maxRecDepth 100000 in
theorem c_X7_chooseWorks (l : Launch) {X : We} {n : Nat} (hX : isX X n) {wd hi : Int} (V : Mem) (hk : XI V n wd hi) (m k : Int) (hm : rg m) (hk2 : rg k) : Mt l X V yX7_chooseWorks cX7_chooseWorks 8 (some .int) 6 141 [.ref (wa X 0), .int (jI m), .int (jI k)] (Qi X (fun z V1 => hid V V1 ∧ if (0 ≤ m ∧ m ≤ 9999) ∧ 1 ≤ k ∧ k ≤ 60 ∧ V bN 12 + k ≤ 3000 then (z = (bsF (csX V) (grX V n wd hi k) m (2 ^ (V 50 4).toNat)).1 ∧ 0 ≤ z ∧ z < 16 ∧ V1 0 7 = (bsF (csX V) (grX V n wd hi k) m (2 ^ (V 50 4).toNat)).2.2 ∧ 0 ≤ V1 0 7 ∧ V1 0 7 ≤ 1520000) else z = -1)) := by
  refine Mt.go (by decide) (Nat.le_of_ble_eq_true rfl) ?_
  intro pg ev s0 mi bl mt cd ls Rm ag Qq hR hQ E hI hG hS hl
  have hl : lv_has ls 8 [(0, .ref (wa X 0)), (1, .int (jI m)), (2, .int (jI k))] := hl
  obtain ⟨iN, iM, zT, hTP, hWK, hFL⟩ := id hk
  have hs : Sh V n wd hi := iN.1.1
  have hd := hs.2.2.2.1
  obtain ⟨hn1, hn2⟩ := dims.n hd
  have dyN := iN.2.2.2
  have dyM := iM.2.2.2
  unfold rg at hm
  have hw4 := hWK.1
  have L22_1 : (¬ ((0 ≤ m ∧ m ≤ 9999) ∧ 1 ≤ k ∧ k ≤ 60 ∧ V bN 12 + k ≤ 3000)) → ∀ (H : Heap) (locs : List Loc) (ls : Array Slot), GW X V H → va_S (wA X) s0.heap H locs → lv_has ls 8 [] → W pg l ev Rm s0 mi ag bl mt cd H locs 0 0 Qq (F0 mi 22 ls []) := by
    intro  hno H locs ls hG hS hl
    refine x_iconst E dX7_chooseWorks_22 ?_
    exact r_i E hQ hG hS dX7_chooseWorks_23 (⟨hid.rf V, by rw [if_neg hno]⟩)
  refine x_iload_n E dX7_chooseWorks_0 (lv_at hl 1 rfl) ?_
  refine x_iconst E dX7_chooseWorks_1 ?_
  refine x_sipush E dX7_chooseWorks_2 (by decide) ?_
  refine x_ci hG hS (x_runS E hI hG hS (c_X7_isWithin l V m 0 9999 (by unfold rg; omega) (by unfold rg; omega) (by unfold rg; omega)) mf_X7_isWithin km_X7_66 rfl hl rfl (Nat.le_of_ble_eq_true rfl) (by rw [hR]; exact ⟨Nat.le_of_ble_eq_true rfl, Nat.le_of_ble_eq_true rfl⟩) ⟨Nat.zero_le _, Nat.zero_le _⟩ dX7_chooseWorks_5) (fun z1 V1 H locs hp hG hS => ?_)
  obtain ⟨ez, eV⟩ := hp
  rw [eV] at hG
  rw [ez]
  refine x_if_eq E 22 dX7_chooseWorks_8 (by decide) b01_rg (fun c8 => ?_) (fun c8 => ?_)
  · have q8 := b01_iff0.mp c8
    exact L22_1  (by omega) _ _ _ hG hS (lv_sub hl [] rfl)
  · have q8 := b01_ne c8
    refine x_aload_n E dX7_chooseWorks_11 (lv_at hl 0 rfl) ?_
    refine x_getr E hI hG (xb0 hX) cf7 1 bN rfl (by decide) kf_X7_27 dX7_chooseWorks_12 ?_
    refine x_iload_n E dX7_chooseWorks_15 (lv_at hl 2 rfl) ?_
    refine x_ci hG hS (x_runV E hI hG hS (xd0 hX isN) cf1 rfl (c_X1_canPass l hX isN V k hk2 dyN) mf_X1_canPass km_X7_123 rfl hl rfl (Nat.le_of_ble_eq_true rfl) (by rw [hR]; exact ⟨Nat.le_of_ble_eq_true rfl, Nat.le_of_ble_eq_true rfl⟩) ⟨Nat.zero_le _, Nat.zero_le _⟩ dX7_chooseWorks_16) (fun z1 V1 H locs hp hG hS => ?_)
    obtain ⟨ez, eV⟩ := hp
    rw [eV] at hG
    rw [ez]
    refine x_if_ne E 24 dX7_chooseWorks_19 (by decide) b01_rg (fun c19 => ?_) (fun c19 => ?_)
    · have q19 := b01_ne c19
      have hpw := pow_rg hw4.1 hw4.2
      have hok : (0 ≤ m ∧ m ≤ 9999) ∧ 1 ≤ k ∧ k ≤ 60 ∧ V bN 12 + k ≤ 3000 := ⟨q8, q19⟩
      refine x_iconst E dX7_chooseWorks_24 ?_
      refine x_istore_n E [(3, .int (jI (-1))), (0, .ref (wa X 0)), (1, .int (jI m)), (2, .int (jI k))] dX7_chooseWorks_25 hl (by decide) rfl (fun ls hl => ?_)
      refine x_iconst E dX7_chooseWorks_26 ?_
      refine x_istore E [(4, .int (jI 0)), (3, .int (jI (-1))), (0, .ref (wa X 0)), (1, .int (jI m)), (2, .int (jI k))] dX7_chooseWorks_27 hl (by decide) rfl (fun ls hl => ?_)
      refine x_iconst E dX7_chooseWorks_29 ?_
      refine x_istore E [(5, .int (jI 0)), (4, .int (jI 0)), (3, .int (jI (-1))), (0, .ref (wa X 0)), (1, .int (jI m)), (2, .int (jI k))] dX7_chooseWorks_30 hl (by decide) rfl (fun ls hl => ?_)
      have L32_2 : ∀ (N : Nat) (x : Int) (ch : Int) (cc : Int) (U : Mem), (0 ≤ x) → (x ≤ (2 ^ (V 50 4).toNat : Int)) → (ch = (bsF (csX V) (grX V n wd hi k) m x.toNat).1) → (cc = (bsF (csX V) (grX V n wd hi k) m x.toNat).2.1) → ((bsF (csX V) (grX V n wd hi k) m x.toNat).1 ≠ -1 → U 0 7 = (bsF (csX V) (grX V n wd hi k) m x.toNat).2.2) → (hid V U) → (((2 ^ (V 50 4).toNat : Int) - x).toNat) < N → ∀ (H : Heap) (locs : List Loc) (ls : Array Slot), GW X U H → va_S (wA X) s0.heap H locs → lv_has ls 8 [(0, .ref (wa X 0)), (1, .int (jI m)), (2, .int (jI k)), (3, .int (jI ch)), (4, .int (jI cc)), (5, .int (jI x))] → W pg l ev Rm s0 mi ag bl mt cd H locs 0 0 Qq (F0 mi 32 ls []) := by
        intro N
        induction N with
        | zero => intro x ch cc U x0 x1 e1 e2 e3 hU hN; exact absurd hN (Nat.not_lt_zero _)
        | succ N ih32 =>
          intro x ch cc U x0 x1 e1 e2 e3 hU hN H locs ls hG hS hl
          have u50 : U 50 = V 50 := hU.1 50 (by decide) (by decide)
          have u54 : U 54 = V 54 := hU.1 54 (by decide) (by decide)
          refine x_iload E dX7_chooseWorks_32 (lv_at hl 5 rfl) ?_
          refine x_iconst E dX7_chooseWorks_34 ?_
          refine x_aload_n E dX7_chooseWorks_35 (lv_at hl 0 rfl) ?_
          refine x_getr E hI hG (xb0 hX) cf7 5 50 rfl (by decide) kf_X7_47 dX7_chooseWorks_36 ?_
          refine x_geti E hI hG (xk0 hX) cf6 4 (V 50 4) rfl (by decide) (show U 50 4 = V 50 4 from (by rw [u50])) kf_X7_144 dX7_chooseWorks_39 ?_
          refine lv_ishl E.1 E.2.1 dX7_chooseWorks_42 ?_
          refine x_rawi ((2 ^ (V 50 4).toNat : Int)) (by exact q_pow (by omega) (by omega)) ?_
          refine x_icmp_ge E 156 dX7_chooseWorks_43 (by decide) (by unfold rg; omega) (by unfold rg; omega) (fun c43 => ?_) (fun c43 => ?_)
          · have exN : x.toNat = 2 ^ (V 50 4).toNat := pow_N hw4.1 hw4.2 (by omega)
            refine x_iload_n E dX7_chooseWorks_156 (lv_at hl 3 rfl) ?_
            exact r_i E hQ hG hS dX7_chooseWorks_157 (⟨hU, by
                    have hbr := bsF_rg (m := m) (c := csX V) (g := grX V n wd hi k) (fun y _ => csX_rg hWK y) (fun y _ => grX_rg hk (show 0 ≤ k by omega) (by omega) y) x.toNat
                    have hn1 : (bsF (csX V) (grX V n wd hi k) m x.toNat).1 ≠ -1 := bsF_1 (by rw [csX_0]; omega) _ (by omega)
                    rw [if_pos hok, ← exN]
                    have h37 := e3 hn1
                    rcases hbr with q | q
                    · rw [q] at hn1; exact absurd rfl hn1
                    · refine ⟨e1, by omega, by omega, h37, by omega, by omega⟩⟩)
          · have hcr := csX_rg hWK x
            have hgr := grX_rg hk (show 0 ≤ k by omega) (by omega) x
            have hbr := bsF_rg (m := m) (c := csX V) (g := grX V n wd hi k) (fun y _ => csX_rg hWK y) (fun y _ => grX_rg hk (show 0 ≤ k by omega) (by omega) y) x.toNat
            have hbs := bsF_s (c := csX V) (g := grX V n wd hi k) (m := m) x0
            have eC : cpF U bT bN = (sp (cpF V bT bN) 0 (U 0)) := cpF_0 (by decide) (by decide) (by decide) hU.1 hU.2
            have tR := hk.tr x
            have tP := (tR.1.pass (by decide) k.toNat (by rw [tR.2]; omega)).1
            have cI := Inv.cp (a := bN) (b := bT) (by decide) iN zT
            have hC0 : Mid (sp (cpF V bT bN) 0 (U 0)) n wd hi bT (20 * cpF V bT bN bT 12) := by
              obtain ⟨⟨a1, a2, a3⟩, a4, a5, a6⟩ := cI
              exact ⟨⟨a1.of (sp_n (by decide)) (sp_n (by decide)), by rw [sp_n (by decide), sp_n (by decide)]; exact a2, by rw [sp_n (by decide)]; exact a3⟩, a4.of (sp_n (by decide)) (sp_n (by decide)) (sp_n (by decide)) (sp_n (by decide)) (sp_n (by decide)) (sp_n (by decide)) (sp_n (by decide)), a5.of (sp_n (by decide)) (sp_n (by decide)) (sp_n (by decide)), by rw [sp_n (by decide)]; exact a6⟩
            have wC0 : WK (sp (cpF V bT bN) 0 (U 0)) n := by
              unfold WK
              rw [sp_n (show 50 ≠ 0 by decide), sp_n (show 51 ≠ 0 by decide), sp_n (show 52 ≠ 0 by decide), sp_n (show 53 ≠ 0 by decide), sp_n (show 54 ≠ 0 by decide), cpF_p (show 50 < bT ∨ bT + 14 ≤ 50 by decide), cpF_p (show 51 < bT ∨ bT + 14 ≤ 51 by decide), cpF_p (show 52 < bT ∨ bT + 14 ≤ 52 by decide), cpF_p (show 53 < bT ∨ bT + 14 ≤ 53 by decide), cpF_p (show 54 < bT ∨ bT + 14 ≤ 54 by decide)]
              exact hWK
            have hC1 : Inv (sp (coM n wd hi bT (V 51) (V 52) (V 53) x (V 50 4).toNat (cpF V bT bN)) 0 (U 0)) n wd hi bT := by
              obtain ⟨⟨a1, a2, a3⟩, a4, a5, a6⟩ := tR.1
              unfold Inv
              rw [sp_n (show bT ≠ 0 by decide)]
              exact ⟨⟨a1.of (sp_n (by decide)) (sp_n (by decide)), by rw [sp_n (by decide), sp_n (by decide)]; exact a2, by rw [sp_n (by decide)]; exact a3⟩, a4.of (sp_n (by decide)) (sp_n (by decide)) (sp_n (by decide)) (sp_n (by decide)) (sp_n (by decide)) (sp_n (by decide)) (sp_n (by decide)), a5.of (sp_n (by decide)) (sp_n (by decide)) (sp_n (by decide)), a6⟩
            have hidC : hid V (sp (psM n wd hi bT k.toNat (coM n wd hi bT (V 51) (V 52) (V 53) x (V 50 4).toNat (cpF V bT bN))) 0 (U 0)) := ⟨fun p p0 hp => by rw [sp_n p0, psM_p (b := bT) hp, coM_p (by unfold bT at *; omega), cpF_p hp], by rw [sp_n (by decide), tP.1.2.2, zT]⟩
            have hc0 : (U 0 7 : Int) = U 0 7 := rfl
            have L150_3 : ∀ (ch2 : Int) (cc2 : Int) (U2 : Mem), (ch2 = (bsF (csX V) (grX V n wd hi k) m (x + 1).toNat).1) → (cc2 = (bsF (csX V) (grX V n wd hi k) m (x + 1).toNat).2.1) → ((bsF (csX V) (grX V n wd hi k) m (x + 1).toNat).1 ≠ -1 → U2 0 7 = (bsF (csX V) (grX V n wd hi k) m (x + 1).toNat).2.2) → (hid V U2) → ∀ (H : Heap) (locs : List Loc) (ls : Array Slot), GW X U2 H → va_S (wA X) s0.heap H locs → lv_has ls 8 [(0, .ref (wa X 0)), (1, .int (jI m)), (2, .int (jI k)), (3, .int (jI ch2)), (4, .int (jI cc2)), (5, .int (jI x))] → W pg l ev Rm s0 mi ag bl mt cd H locs 0 0 Qq (F0 mi 150 ls []) := by
              intro ch2 cc2 U2 e1b e2b e3b hUb H locs ls hG hS hl
              refine x_iinc E (k := 5) [(5, .int (jI (x + 1))), (0, .ref (wa X 0)), (1, .int (jI m)), (2, .int (jI k)), (3, .int (jI ch2)), (4, .int (jI cc2))] dX7_chooseWorks_150 hl rfl (by decide) rfl (fun ls hl => ?_)
              refine x_goto E 32 dX7_chooseWorks_153 (by decide) ?_
              exact ih32 (x + 1) ch2 cc2 U2 (by omega) (by omega) e1b e2b e3b hUb (by omega) _ _ _ hG hS (lv_sub hl [1, 2, 3, 4, 5, 0] rfl)
            refine x_aload_n E dX7_chooseWorks_46 (lv_at hl 0 rfl) ?_
            refine x_getr E hI hG (xb0 hX) cf7 5 50 rfl (by decide) kf_X7_47 dX7_chooseWorks_47 ?_
            refine x_iload E dX7_chooseWorks_50 (lv_at hl 5 rfl) ?_
            refine x_ci hG hS (x_runV E hI hG hS (xk0 hX) cf6 rfl (c_X6_costOf l hX U (by rw [u50]; omega) x (by omega)) mf_X6_costOf km_X7_180 rfl hl rfl (Nat.le_of_ble_eq_true rfl) (by rw [hR]; exact ⟨Nat.le_of_ble_eq_true rfl, Nat.le_of_ble_eq_true rfl⟩) ⟨Nat.zero_le _, Nat.zero_le _⟩ dX7_chooseWorks_52) (fun z1 V1 H locs hp hG hS => ?_)
            obtain ⟨ez, eV⟩ := hp
            rw [u50, u54] at ez
            change _ = csX V x at ez
            rw [eV] at hG
            rw [ez]
            refine x_istore E [(6, .int (jI (csX V x))), (0, .ref (wa X 0)), (1, .int (jI m)), (2, .int (jI k)), (3, .int (jI ch)), (4, .int (jI cc)), (5, .int (jI x))] dX7_chooseWorks_55 hl (by decide) rfl (fun ls hl => ?_)
            refine x_iload E dX7_chooseWorks_57 (lv_at hl 0 rfl) ?_
            refine x_iload_n E dX7_chooseWorks_59 (lv_at hl 2 rfl) ?_
            refine x_icmp_le E 66 dX7_chooseWorks_60 (by decide) (by unfold rg; omega) (by unfold rg; omega) (fun c60 => ?_) (fun c60 => ?_)
            · rw [if_neg (by omega)] at hbs
              refine x_aload_n E dX7_chooseWorks_66 (lv_at hl 1 rfl) ?_
              refine x_getr E hI hG (xb0 hX) cf7 3 bT rfl (by decide) kf_X7_34 dX7_chooseWorks_67 ?_
              refine x_aload_n E dX7_chooseWorks_70 (lv_at hl 1 rfl) ?_
              refine x_getr E hI hG (xb0 hX) cf7 1 bN rfl (by decide) kf_X7_27 dX7_chooseWorks_71 ?_
              refine x_cv hG hS (x_runV E hI hG hS (xd0 hX isT) cf1 rfl (c_X1_copyFrom l hX isT isN (by decide) U) mf_X1_copyFrom km_X7_148 rfl hl rfl (Nat.le_of_ble_eq_true rfl) (by rw [hR]; exact ⟨Nat.le_of_ble_eq_true rfl, Nat.le_of_ble_eq_true rfl⟩) ⟨Nat.zero_le _, Nat.zero_le _⟩ dX7_chooseWorks_74) (fun V1 H locs hp hG hS => ?_)
              have eV := hp
              rw [eC] at eV
              rw [eV] at hG
              refine x_aload_n E dX7_chooseWorks_77 (lv_at hl 1 rfl) ?_
              refine x_getr E hI hG (xb0 hX) cf7 5 50 rfl (by decide) kf_X7_47 dX7_chooseWorks_78 ?_
              refine x_iload E dX7_chooseWorks_81 (lv_at hl 6 rfl) ?_
              refine x_aload_n E dX7_chooseWorks_83 (lv_at hl 1 rfl) ?_
              refine x_getr E hI hG (xb0 hX) cf7 3 bT rfl (by decide) kf_X7_34 dX7_chooseWorks_84 ?_
              refine x_cv hG hS (x_runV E hI hG hS (xk0 hX) cf6 rfl (c_X6_carryOut l hX isT (sp (cpF V bT bN) 0 (U 0)) hC0 wC0 x (by omega)) mf_X6_carryOut km_X7_183 rfl hl rfl (Nat.le_of_ble_eq_true rfl) (by rw [hR]; exact ⟨Nat.le_of_ble_eq_true rfl, Nat.le_of_ble_eq_true rfl⟩) ⟨Nat.zero_le _, Nat.zero_le _⟩ dX7_chooseWorks_87) (fun V1 H locs hp hG hS => ?_)
              have eV := hp
              rw [sp_n (show 50 ≠ 0 by decide), sp_n (show 51 ≠ 0 by decide), sp_n (show 52 ≠ 0 by decide), sp_n (show 53 ≠ 0 by decide), cpF_p (show 50 < bT ∨ bT + 14 ≤ 50 by decide), cpF_p (show 51 < bT ∨ bT + 14 ≤ 51 by decide), cpF_p (show 52 < bT ∨ bT + 14 ≤ 52 by decide), cpF_p (show 53 < bT ∨ bT + 14 ≤ 53 by decide), coM_out (show out bT 0 from Or.inl (by decide))] at eV
              rw [eV] at hG
              refine x_aload_n E dX7_chooseWorks_90 (lv_at hl 1 rfl) ?_
              refine x_getr E hI hG (xb0 hX) cf7 3 bT rfl (by decide) kf_X7_34 dX7_chooseWorks_91 ?_
              refine x_iload_n E dX7_chooseWorks_94 (lv_at hl 3 rfl) ?_
              refine x_cv hG hS (x_runV E hI hG hS (xd0 hX isT) cf1 rfl (c_X1_pass l hX isT (sp (coM n wd hi bT (V 51) (V 52) (V 53) x (V 50 4).toNat (cpF V bT bN)) 0 (U 0)) hC1 k (by omega) (by rw [sp_n (by decide), tR.2]; omega)) mf_X1_pass km_X7_126 rfl hl rfl (Nat.le_of_ble_eq_true rfl) (by rw [hR]; exact ⟨Nat.le_of_ble_eq_true rfl, Nat.le_of_ble_eq_true rfl⟩) ⟨Nat.zero_le _, Nat.zero_le _⟩ dX7_chooseWorks_95) (fun V1 H locs hp hG hS => ?_)
              have eV := hp
              rw [psM_out (show out bT 0 from Or.inl (by decide))] at eV
              rw [eV] at hG
              refine x_aload_n E dX7_chooseWorks_98 (lv_at hl 1 rfl) ?_
              refine x_getr E hI hG (xb0 hX) cf7 3 bT rfl (by decide) kf_X7_34 dX7_chooseWorks_99 ?_
              refine x_ci hG hS (x_runV E hI hG hS (xd0 hX isT) cf1 rfl (c_X1_grainsOnHouses l hX isT (sp (psM n wd hi bT k.toNat (coM n wd hi bT (V 51) (V 52) (V 53) x (V 50 4).toNat (cpF V bT bN))) 0 (U 0)) (by omega) (by rw [sp_n (by decide)]; exact tP.2.1.2.2.2.2.1)) mf_X1_grainsOnHouses km_X7_187 rfl hl rfl (Nat.le_of_ble_eq_true rfl) (by rw [hR]; exact ⟨Nat.le_of_ble_eq_true rfl, Nat.le_of_ble_eq_true rfl⟩) ⟨Nat.zero_le _, Nat.zero_le _⟩ dX7_chooseWorks_102) (fun z1 V1 H locs hp hG hS => ?_)
              obtain ⟨ez, eV⟩ := hp
              rw [show hsF (sp (psM n wd hi bT k.toNat (coM n wd hi bT (V 51) (V 52) (V 53) x (V 50 4).toNat (cpF V bT bN))) 0 (U 0)) bT = hsF (psM n wd hi bT k.toNat (coM n wd hi bT (V 51) (V 52) (V 53) x (V 50 4).toNat (cpF V bT bN))) bT by unfold hsF; rw [sp_n (by decide), sp_n (by decide)]] at ez
              change _ = grX V n wd hi k x at ez
              rw [eV] at hG
              rw [ez]
              refine x_istore E [(7, .int (jI (grX V n wd hi k x))), (6, .int (jI (csX V x))), (0, .ref (wa X 0)), (1, .int (jI m)), (2, .int (jI k)), (3, .int (jI ch)), (4, .int (jI cc)), (5, .int (jI x))] dX7_chooseWorks_105 hl (by decide) rfl (fun ls hl => ?_)
              have hbc : -1 ≤ ch ∧ ch < 17 ∧ 0 ≤ cc ∧ cc ≤ 3996 := by rcases hbr with q | q; (rw [q] at e1 e2; dsimp only at e1 e2; omega); omega
              have L137_4 : ((bsF (csX V) (grX V n wd hi k) m x.toNat).1 = -1 ∨ grX V n wd hi k x < (bsF (csX V) (grX V n wd hi k) m x.toNat).2.2 ∨ (grX V n wd hi k x = (bsF (csX V) (grX V n wd hi k) m x.toNat).2.2 ∧ csX V x < (bsF (csX V) (grX V n wd hi k) m x.toNat).2.1)) → ∀ (H : Heap) (locs : List Loc) (ls : Array Slot), GW X (sp (psM n wd hi bT k.toNat (coM n wd hi bT (V 51) (V 52) (V 53) x (V 50 4).toNat (cpF V bT bN))) 0 (U 0)) H → va_S (wA X) s0.heap H locs → lv_has ls 8 [(0, .ref (wa X 0)), (1, .int (jI m)), (2, .int (jI k)), (5, .int (jI x)), (6, .int (jI (csX V x))), (7, .int (jI (grX V n wd hi k x)))] → W pg l ev Rm s0 mi ag bl mt cd H locs 0 0 Qq (F0 mi 137 ls []) := by
                intro  hyes H locs ls hG hS hl
                refine x_iload E dX7_chooseWorks_137 (lv_at hl 3 rfl) ?_
                refine x_istore_n E [(3, .int (jI x)), (0, .ref (wa X 0)), (1, .int (jI m)), (2, .int (jI k)), (5, .int (jI x)), (6, .int (jI (csX V x))), (7, .int (jI (grX V n wd hi k x)))] dX7_chooseWorks_139 hl (by decide) rfl (fun ls hl => ?_)
                refine x_iload E dX7_chooseWorks_140 (lv_at hl 5 rfl) ?_
                refine x_istore E [(4, .int (jI (csX V x))), (3, .int (jI x)), (0, .ref (wa X 0)), (1, .int (jI m)), (2, .int (jI k)), (5, .int (jI x)), (6, .int (jI (csX V x))), (7, .int (jI (grX V n wd hi k x)))] dX7_chooseWorks_142 hl (by decide) rfl (fun ls hl => ?_)
                refine x_aload_n E dX7_chooseWorks_144 (lv_at hl 2 rfl) ?_
                refine x_iload E dX7_chooseWorks_145 (lv_at hl 7 rfl) ?_
                refine x_puti E hI hG hS (xb0 hX) cf7 7 7 rfl rfl (by decide) rfl rfl kf_X7_58 dX7_chooseWorks_147 (fun H locs hG hS => ?_)
                rw [show (st (sp (psM n wd hi bT k.toNat (coM n wd hi bT (V 51) (V 52) (V 53) x (V 50 4).toNat (cpF V bT bN))) 0 (U 0)) 0 7 (grX V n wd hi k x)) = (st (sp (psM n wd hi bT k.toNat (coM n wd hi bT (V 51) (V 52) (V 53) x (V 50 4).toNat (cpF V bT bN))) 0 (U 0)) 0 7 (grX V n wd hi k x)) from rfl] at hG
                exact L150_3 x (csX V x) (st (sp (psM n wd hi bT k.toNat (coM n wd hi bT (V 51) (V 52) (V 53) x (V 50 4).toNat (cpF V bT bN))) 0 (U 0)) 0 7 (grX V n wd hi k x)) (by rw [hbs, if_pos hyes]) (by rw [hbs, if_pos hyes]) (fun _ => by rw [hbs, if_pos hyes, st_s]) (⟨fun p p0 hp => by rw [st_p p0]; exact hidC.1 p p0 hp, by rw [st_p (by decide)]; exact hidC.2⟩) _ _ _ hG hS (lv_sub hl [2, 3, 4, 1, 0, 5] rfl)
              refine x_iload_n E dX7_chooseWorks_107 (lv_at hl 5 rfl) ?_
              refine x_iconst E dX7_chooseWorks_108 ?_
              refine x_icmp_eq E 137 dX7_chooseWorks_109 (by decide) (by unfold rg; omega) (by unfold rg; omega) (fun c109 => ?_) (fun c109 => ?_)
              · exact L137_4  (Or.inl (by omega)) _ _ _ hG hS (lv_sub hl [2, 3, 4, 7, 1, 0] rfl)
              · have h37 : U 0 7 = (bsF (csX V) (grX V n wd hi k) m x.toNat).2.2 := e3 (by omega)
                have hbr2 : 0 ≤ U 0 7 ∧ U 0 7 ≤ 1520000 := by rcases hbr with q | q; (rw [q] at e1; dsimp only at e1; omega); omega
                refine x_iload E dX7_chooseWorks_112 (lv_at hl 0 rfl) ?_
                refine x_aload_n E dX7_chooseWorks_114 (lv_at hl 2 rfl) ?_
                refine x_geti E hI hG (xb0 hX) cf7 7 (U 0 7) rfl (by decide) (show (sp (psM n wd hi bT k.toNat (coM n wd hi bT (V 51) (V 52) (V 53) x (V 50 4).toNat (cpF V bT bN))) 0 (U 0)) 0 7 = U 0 7 from (by rw [sp_s])) kf_X7_58 dX7_chooseWorks_115 ?_
                refine x_icmp_lt E 137 dX7_chooseWorks_118 (by decide) (by unfold rg; omega) (by unfold rg; omega) (fun c118 => ?_) (fun c118 => ?_)
                · exact L137_4  (Or.inr (Or.inl (by omega))) _ _ _ hG hS (lv_sub hl [2, 3, 4, 7, 1, 0] rfl)
                · refine x_iload E dX7_chooseWorks_121 (lv_at hl 0 rfl) ?_
                  refine x_aload_n E dX7_chooseWorks_123 (lv_at hl 2 rfl) ?_
                  refine x_geti E hI hG (xb0 hX) cf7 7 (U 0 7) rfl (by decide) (show (sp (psM n wd hi bT k.toNat (coM n wd hi bT (V 51) (V 52) (V 53) x (V 50 4).toNat (cpF V bT bN))) 0 (U 0)) 0 7 = U 0 7 from (by rw [sp_s])) kf_X7_58 dX7_chooseWorks_124 ?_
                  refine x_icmp_ne E 150 dX7_chooseWorks_127 (by decide) (by unfold rg; omega) (by unfold rg; omega) (fun c127 => ?_) (fun c127 => ?_)
                  · exact L150_3 ch cc (sp (psM n wd hi bT k.toNat (coM n wd hi bT (V 51) (V 52) (V 53) x (V 50 4).toNat (cpF V bT bN))) 0 (U 0)) (by rw [hbs, if_neg (by omega)]; exact e1) (by rw [hbs, if_neg (by omega)]; exact e2) (by rw [hbs, if_neg (by omega), sp_s]; exact e3) hidC _ _ _ hG hS (lv_sub hl [2, 3, 4, 5, 6, 7] rfl)
                  · refine x_iload E dX7_chooseWorks_130 (lv_at hl 1 rfl) ?_
                    refine x_iload E dX7_chooseWorks_132 (lv_at hl 6 rfl) ?_
                    refine x_icmp_ge E 150 dX7_chooseWorks_134 (by decide) (by unfold rg; omega) (by unfold rg; omega) (fun c134 => ?_) (fun c134 => ?_)
                    · exact L150_3 ch cc (sp (psM n wd hi bT k.toNat (coM n wd hi bT (V 51) (V 52) (V 53) x (V 50 4).toNat (cpF V bT bN))) 0 (U 0)) (by rw [hbs, if_neg (by omega)]; exact e1) (by rw [hbs, if_neg (by omega)]; exact e2) (by rw [hbs, if_neg (by omega), sp_s]; exact e3) hidC _ _ _ hG hS (lv_sub hl [2, 3, 4, 5, 6, 7] rfl)
                    · exact L137_4  (Or.inr (Or.inr ⟨by omega, by omega⟩)) _ _ _ hG hS (lv_sub hl [2, 3, 4, 7, 1, 0] rfl)
            · rw [if_pos (by omega)] at hbs
              refine x_goto E 150 dX7_chooseWorks_63 (by decide) ?_
              exact L150_3 ch cc U (by rw [hbs]; exact e1) (by rw [hbs]; exact e2) (by rw [hbs]; exact e3) hU _ _ _ hG hS (lv_sub hl [1, 2, 3, 4, 5, 6] rfl)
      exact L32_2 _ 0 (-1) 0 V (by omega) (by omega) rfl rfl (fun z => absurd rfl z) (hid.rf V) (Nat.lt_succ_self _) _ _ _ hG hS (lv_sub hl [3, 4, 5, 2, 1, 0] rfl)
    · have q19 := b01_iff0.mp c19
      exact L22_1  (by omega) _ _ _ hG hS (lv_sub hl [] rfl)

set_option maxHeartbeats 4000000 in
set_option maxRecDepth 100000 in
theorem c_X7_best (l : Launch) {X : We} {n : Nat} (hX : isX X n) {wd hi : Int} (V : Mem) (hk : XI V n wd hi) (m k : Int) (hm : rg m) (hk2 : rg k) : Mt l X V yX7_best cX7_best 3 (some .int) 7 168 [.ref (wa X 0), .int (jI m), .int (jI k)] (Qi X (fun z V1 => hid V V1 ∧ z = if (0 ≤ m ∧ m ≤ 9999) ∧ 1 ≤ k ∧ k ≤ 60 ∧ V bN 12 + k ≤ 3000 then (bsF (csX V) (grX V n wd hi k) m (2 ^ (V 50 4).toNat)).2.2 else -1)) := by
  refine Mt.go (by decide) (Nat.le_of_ble_eq_true rfl) ?_
  intro pg ev s0 mi bl mt cd ls Rm ag Qq hR hQ E hI hG hS hl
  have hl : lv_has ls 3 [(0, .ref (wa X 0)), (1, .int (jI m)), (2, .int (jI k))] := hl
  have L18_1 : ∀ (z : Int) (V1 : Mem), (hid V V1) → (z = if (0 ≤ m ∧ m ≤ 9999) ∧ 1 ≤ k ∧ k ≤ 60 ∧ V bN 12 + k ≤ 3000 then (bsF (csX V) (grX V n wd hi k) m (2 ^ (V 50 4).toNat)).2.2 else -1) → ∀ (H : Heap) (locs : List Loc) (ls : Array Slot), GW X V1 H → va_S (wA X) s0.heap H locs → lv_has ls 3 [] → W pg l ev Rm s0 mi ag bl mt cd H locs 0 0 Qq (F0 mi 18 ls [.int (jI z)]) := by
    intro z V1 hh hz H locs ls hG hS hl
    exact r_i E hQ hG hS dX7_best_18 (⟨hh, hz⟩)
  refine x_aload_n E dX7_best_0 (lv_at hl 0 rfl) ?_
  refine x_iload_n E dX7_best_1 (lv_at hl 1 rfl) ?_
  refine x_iload_n E dX7_best_2 (lv_at hl 2 rfl) ?_
  refine x_ci hG hS (x_runV E hI hG hS (xb0 hX) cf7 rfl (c_X7_chooseWorks l hX V hk m k hm hk2) mf_X7_chooseWorks km_X7_145 rfl hl rfl (Nat.le_of_ble_eq_true rfl) (by rw [hR]; exact ⟨Nat.le_of_ble_eq_true rfl, Nat.le_of_ble_eq_true rfl⟩) ⟨Nat.zero_le _, Nat.zero_le _⟩ dX7_best_3) (fun z1 V1 H locs hp hG hS => ?_)
  obtain ⟨hh, hp2⟩ := hp
  have hz1 : -1 ≤ z1 ∧ z1 < 16 := by split at hp2 <;> omega
  refine x_iconst E dX7_best_6 ?_
  refine x_icmp_ne E 14 dX7_best_7 (by decide) (by unfold rg; omega) (by unfold rg; omega) (fun c7 => ?_) (fun c7 => ?_)
  · refine x_aload_n E dX7_best_14 (lv_at hl 0 rfl) ?_
    refine x_geti E hI hG (xb0 hX) cf7 7 (V1 0 7) rfl (by decide) rfl kf_X7_58 dX7_best_15 ?_
    exact L18_1 (V1 0 7) V1 hh (by
            split at hp2
            · rw [if_pos (by assumption)]; exact hp2.2.2.2.1
            · omega) _ _ _ hG hS (lv_sub hl [] rfl)
  · refine x_iconst E dX7_best_10 ?_
    refine x_goto E 18 dX7_best_11 (by decide) ?_
    exact L18_1 (-1) V1 hh (by
            split at hp2
            · omega
            · rw [if_neg (by assumption)]) _ _ _ hG hS (lv_sub hl [] rfl)

set_option maxHeartbeats 4000000 in
set_option maxRecDepth 100000 in
theorem c_X7_bestSet (l : Launch) {X : We} {n : Nat} (hX : isX X n) {wd hi : Int} (V : Mem) (hk : XI V n wd hi) (m k : Int) (hm : rg m) (hk2 : rg k) : Mt l X V yX7_bestSet cX7_bestSet 3 (some .int) 7 168 [.ref (wa X 0), .int (jI m), .int (jI k)] (Qi X (fun z V1 => hid V V1 ∧ z = if (0 ≤ m ∧ m ≤ 9999) ∧ 1 ≤ k ∧ k ≤ 60 ∧ V bN 12 + k ≤ 3000 then (bsF (csX V) (grX V n wd hi k) m (2 ^ (V 50 4).toNat)).1 else -1)) := by
  refine Mt.go (by decide) (Nat.le_of_ble_eq_true rfl) ?_
  intro pg ev s0 mi bl mt cd ls Rm ag Qq hR hQ E hI hG hS hl
  have hl : lv_has ls 3 [(0, .ref (wa X 0)), (1, .int (jI m)), (2, .int (jI k))] := hl
  refine x_aload_n E dX7_bestSet_0 (lv_at hl 0 rfl) ?_
  refine x_iload_n E dX7_bestSet_1 (lv_at hl 1 rfl) ?_
  refine x_iload_n E dX7_bestSet_2 (lv_at hl 2 rfl) ?_
  refine x_ci hG hS (x_runV E hI hG hS (xb0 hX) cf7 rfl (c_X7_chooseWorks l hX V hk m k hm hk2) mf_X7_chooseWorks km_X7_145 rfl hl rfl (Nat.le_of_ble_eq_true rfl) (by rw [hR]; exact ⟨Nat.le_of_ble_eq_true rfl, Nat.le_of_ble_eq_true rfl⟩) ⟨Nat.zero_le _, Nat.zero_le _⟩ dX7_bestSet_3) (fun z1 V1 H locs hp hG hS => ?_)
  obtain ⟨hh, hp2⟩ := hp
  exact r_i E hQ hG hS dX7_bestSet_6 (⟨hh, by
          split at hp2
          · rw [if_pos (by assumption)]; exact hp2.1
          · rw [if_neg (by assumption)]; exact hp2⟩)
