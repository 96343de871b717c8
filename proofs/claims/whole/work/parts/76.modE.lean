theorem q_sh0 (x : Int) : jI x >>> (jI 0 &&& 31) = jI x := by
  rw [show (jI 0 &&& 31 : Int32) = 0 by decide]
  simp
theorem pk_V {V V1 : Mem} {b : Nat} {U : Mem} {f : Int → Int} {g : Int} (h : ∀ p, b ≤ p → p < b + 14 → V1 p = V p) : pk V1 b U f g = pk V b U f g := by
  funext p
  unfold pk
  rw [h b (by omega) (by omega), h (b + 11) (by omega) (by omega), h (b + 10) (by omega) (by omega)]
  split
  · rfl
  · split
    · rw [h _ (by omega) (by omega)]
    · rfl
theorem MR.mk2 {V V1 U : Mem} {f : Int → Int} {g : Int} {n : Nat} {wd hi : Int} (hp : ∀ p, bN ≤ p → p < bN + 14 → V1 p = V p) (h : Rl V1 U n wd hi) (hf : bo f) : MR V1 (pk V bN U f g) n wd hi := ⟨U, f, g, (pk_V hp).symm, h, hf⟩
theorem Rl.put {V U : Mem} {n : Nat} {wd hi : Int} (h : Rl V U n wd hi) (x : Int) : Rl (apM x V) (mpM x U) n wd hi := by
  obtain ⟨⟨m0, m1, m2, m3⟩, h2, h3, h4, h5, h6, h7, ⟨w0, w1, w2, w3, w4⟩, f0, f1, f2, f3⟩ := h
  have e1 := bN3
  have e2 := bM17
  refine ⟨⟨by rw [mpM_k _ _ (by decide)]; exact m0, by rw [mpM_k _ _ (by decide)]; exact m1, by rw [mpM_k _ _ (by decide)]; exact m2, m3⟩, ?_, ?_, ?_, ?_, ?_, ?_, ⟨?_, ?_, ?_, ?_, ?_⟩, ?_, ?_, ?_, ?_⟩
  · intro k k0 k1
    rw [apM_p _ _ (by omega) (by omega)] at k1
    rw [mpM_p _ _ (by decide) (by decide), mpM_p _ _ (by decide) (by decide), apM_p _ _ (by omega) (by omega), apM_p _ _ (by omega) (by omega)]
    exact h2 k k0 k1
  · exact (h3.of (fun p _ _ => apM_p _ _ (by omega) (by omega))).at (fun k _ _ => by rw [mpM_p _ _ (by decide) (by decide)]) (fun k _ _ => by rw [mpM_p _ _ (by decide) (by decide)]) (fun k _ _ => by rw [mpM_p _ _ (by decide) (by decide)]) (fun k _ _ => by rw [mpM_p _ _ (by decide) (by decide)])
  · rw [mpM_11, (byt_at x V).1, h4, h5]
  · rw [mpM_22, (byt_at x V).2, h5]
  · rw [mpM_k _ _ (by decide), apM_k _ _ (by decide)]; exact h6
  · rw [mpM_k _ _ (by decide), apM_k _ _ (by decide)]; exact h7
  · rw [mpM_k _ _ (by decide), apM_p _ _ (by decide) (by decide)]; exact w0
  · rw [mpM_p _ _ (by decide) (by decide), apM_p _ _ (by decide) (by decide)]; exact w1
  · rw [mpM_p _ _ (by decide) (by decide), apM_p _ _ (by decide) (by decide)]; exact w2
  · rw [mpM_p _ _ (by decide) (by decide), apM_p _ _ (by decide) (by decide)]; exact w3
  · rw [mpM_p _ _ (by decide) (by decide), apM_p _ _ (by decide) (by decide)]; exact w4
  · rw [mpM_k _ _ (by decide), apM_p _ _ (by decide) (by decide)]; exact f0
  · rw [mpM_p _ _ (by decide) (by decide), apM_p _ _ (by decide) (by decide)]; exact f1
  · rw [mpM_p _ _ (by decide) (by decide), apM_p _ _ (by decide) (by decide)]; exact f2
  · rw [mpM_p _ _ (by decide) (by decide), apM_p _ _ (by decide) (by decide)]; exact f3

set_option maxHeartbeats 4000000 in
set_option maxRecDepth 100000 in
theorem c_X8_put (l : Launch) {X : We} (hY : isY X) {b : Nat} (V U : Mem) (f : Int → Int) (g : Int) (x : Int) (ht : 0 ≤ U 0 22 ∧ U 0 22 + 4 ≤ 200) : Mt l X (pk V b U f g) yX8_put cX8_put 2 none 0 0 [.ref (wa X 0), .int (jI x)] (Qv X (fun V1 => V1 = pk V b (mpM x U) f g)) := by
  refine Mt.go (by decide) (Nat.le_of_ble_eq_true rfl) ?_
  intro pg ev s0 mi bl mt cd ls Rm ag Qq hR hQ E hI hG hS hl
  have hl : lv_has ls 2 [(0, .ref (wa X 0)), (1, .int (jI x))] := hl
  have hb24 := byt_rg x 24
  have hb16 := byt_rg x 16
  have hb8 := byt_rg x 8
  have hb0 := byt_rg x 0
  refine x_aload_n E dX8_put_0 (lv_at hl 0 rfl) ?_
  refine x_getr E hI hG (ym0 hY) cf8 21 11 rfl (by decide) kf_X8_44 dX8_put_1 ?_
  refine x_aload_n E dX8_put_4 (lv_at hl 0 rfl) ?_
  refine x_geti E hI hG (ym0 hY) cf8 22 (U 0 22) rfl (by decide) rfl kf_X8_162 dX8_put_5 ?_
  refine x_iload_n E dX8_put_8 (lv_at hl 1 rfl) ?_
  refine x_bipush E dX8_put_9 (by decide) ?_
  refine lv_ishr E.1 E.2.1 dX8_put_11 ?_
  refine lv_i2b E.1 E.2.1 dX8_put_12 rfl ?_
  refine x_rawi (byt x 24) ((j_of _).symm) ?_
  refine x_bast E hI hG hS (ym11 hY) (by omega) (by omega) dX8_put_13 (fun H locs hG hS => ?_)
  rw [show (st (pk V b U f g) 11 (U 0 22) (byt x 24)) = (pk V b (st U 11 (U 0 22) (byt x 24)) f g) from pk_a (by decide) _ _] at hG
  refine x_aload_n E dX8_put_14 (lv_at hl 0 rfl) ?_
  refine x_getr E hI hG (ym0 hY) cf8 21 11 rfl (by decide) kf_X8_44 dX8_put_15 ?_
  refine x_aload_n E dX8_put_18 (lv_at hl 0 rfl) ?_
  refine x_geti E hI hG (ym0 hY) cf8 22 (U 0 22) rfl (by decide) (show (pk V b (st U 11 (U 0 22) (byt x 24)) f g) 0 22 = U 0 22 from (by show (st U 11 (U 0 22) (byt x 24)) 0 22 = _; rw [st_p (by decide)])) kf_X8_162 dX8_put_19 ?_
  refine x_iconst E dX8_put_22 ?_
  refine x_iadd E dX8_put_23 ?_
  refine x_iload_n E dX8_put_24 (lv_at hl 1 rfl) ?_
  refine x_bipush E dX8_put_25 (by decide) ?_
  refine lv_ishr E.1 E.2.1 dX8_put_27 ?_
  refine lv_i2b E.1 E.2.1 dX8_put_28 rfl ?_
  refine x_rawi (byt x 16) ((j_of _).symm) ?_
  refine x_bast E hI hG hS (ym11 hY) (by omega) (by omega) dX8_put_29 (fun H locs hG hS => ?_)
  rw [show (st (pk V b (st U 11 (U 0 22) (byt x 24)) f g) 11 ((U 0 22) + 1) (byt x 16)) = (pk V b (st (st U 11 (U 0 22) (byt x 24)) 11 ((U 0 22) + 1) (byt x 16)) f g) from pk_a (by decide) _ _] at hG
  refine x_aload_n E dX8_put_30 (lv_at hl 0 rfl) ?_
  refine x_getr E hI hG (ym0 hY) cf8 21 11 rfl (by decide) kf_X8_44 dX8_put_31 ?_
  refine x_aload_n E dX8_put_34 (lv_at hl 0 rfl) ?_
  refine x_geti E hI hG (ym0 hY) cf8 22 (U 0 22) rfl (by decide) (show (pk V b (st (st U 11 (U 0 22) (byt x 24)) 11 ((U 0 22) + 1) (byt x 16)) f g) 0 22 = U 0 22 from (by show (st (st U 11 (U 0 22) (byt x 24)) 11 (U 0 22 + 1) (byt x 16)) 0 22 = _; rw [st_p (by decide), st_p (by decide)])) kf_X8_162 dX8_put_35 ?_
  refine x_iconst E dX8_put_38 ?_
  refine x_iadd E dX8_put_39 ?_
  refine x_iload_n E dX8_put_40 (lv_at hl 1 rfl) ?_
  refine x_bipush E dX8_put_41 (by decide) ?_
  refine lv_ishr E.1 E.2.1 dX8_put_43 ?_
  refine lv_i2b E.1 E.2.1 dX8_put_44 rfl ?_
  refine x_rawi (byt x 8) ((j_of _).symm) ?_
  refine x_bast E hI hG hS (ym11 hY) (by omega) (by omega) dX8_put_45 (fun H locs hG hS => ?_)
  rw [show (st (pk V b (st (st U 11 (U 0 22) (byt x 24)) 11 ((U 0 22) + 1) (byt x 16)) f g) 11 ((U 0 22) + 2) (byt x 8)) = (pk V b (st (st (st U 11 (U 0 22) (byt x 24)) 11 ((U 0 22) + 1) (byt x 16)) 11 ((U 0 22) + 2) (byt x 8)) f g) from pk_a (by decide) _ _] at hG
  refine x_aload_n E dX8_put_46 (lv_at hl 0 rfl) ?_
  refine x_getr E hI hG (ym0 hY) cf8 21 11 rfl (by decide) kf_X8_44 dX8_put_47 ?_
  refine x_aload_n E dX8_put_50 (lv_at hl 0 rfl) ?_
  refine x_geti E hI hG (ym0 hY) cf8 22 (U 0 22) rfl (by decide) (show (pk V b (st (st (st U 11 (U 0 22) (byt x 24)) 11 ((U 0 22) + 1) (byt x 16)) 11 ((U 0 22) + 2) (byt x 8)) f g) 0 22 = U 0 22 from (by show (st (st (st U 11 (U 0 22) (byt x 24)) 11 (U 0 22 + 1) (byt x 16)) 11 (U 0 22 + 2) (byt x 8)) 0 22 = _; rw [st_p (by decide), st_p (by decide), st_p (by decide)])) kf_X8_162 dX8_put_51 ?_
  refine x_iconst E dX8_put_54 ?_
  refine x_iadd E dX8_put_55 ?_
  refine x_iload_n E dX8_put_56 (lv_at hl 1 rfl) ?_
  refine lv_i2b E.1 E.2.1 dX8_put_57 rfl ?_
  refine x_rawi (byt x 0) (by unfold byt; rw [q_sh0]; exact (j_of _).symm) ?_
  refine x_bast E hI hG hS (ym11 hY) (by omega) (by omega) dX8_put_58 (fun H locs hG hS => ?_)
  rw [show (st (pk V b (st (st (st U 11 (U 0 22) (byt x 24)) 11 ((U 0 22) + 1) (byt x 16)) 11 ((U 0 22) + 2) (byt x 8)) f g) 11 ((U 0 22) + 3) (byt x 0)) = (pk V b (st (st (st (st U 11 (U 0 22) (byt x 24)) 11 ((U 0 22) + 1) (byt x 16)) 11 ((U 0 22) + 2) (byt x 8)) 11 ((U 0 22) + 3) (byt x 0)) f g) from pk_a (by decide) _ _] at hG
  refine x_aload_n E dX8_put_59 (lv_at hl 0 rfl) ?_
  refine x_dup E dX8_put_60 rfl ?_
  refine x_geti E hI hG (ym0 hY) cf8 22 (U 0 22) rfl (by decide) (show (pk V b (st (st (st (st U 11 (U 0 22) (byt x 24)) 11 ((U 0 22) + 1) (byt x 16)) 11 ((U 0 22) + 2) (byt x 8)) 11 ((U 0 22) + 3) (byt x 0)) f g) 0 22 = U 0 22 from (by show (st (st (st (st U 11 (U 0 22) (byt x 24)) 11 (U 0 22 + 1) (byt x 16)) 11 (U 0 22 + 2) (byt x 8)) 11 (U 0 22 + 3) (byt x 0)) 0 22 = _; rw [st_p (by decide), st_p (by decide), st_p (by decide), st_p (by decide)])) kf_X8_162 dX8_put_61 ?_
  refine x_iconst E dX8_put_64 ?_
  refine x_iadd E dX8_put_65 ?_
  refine x_puti E hI hG hS (ym0 hY) cf8 22 22 rfl rfl (by decide) rfl rfl kf_X8_162 dX8_put_66 (fun H locs hG hS => ?_)
  rw [show (st (pk V b (st (st (st (st U 11 (U 0 22) (byt x 24)) 11 ((U 0 22) + 1) (byt x 16)) 11 ((U 0 22) + 2) (byt x 8)) 11 ((U 0 22) + 3) (byt x 0)) f g) 0 22 ((U 0 22) + 4)) = (pk V b (st (st (st (st (st U 11 (U 0 22) (byt x 24)) 11 ((U 0 22) + 1) (byt x 16)) 11 ((U 0 22) + 2) (byt x 8)) 11 ((U 0 22) + 3) (byt x 0)) 0 22 ((U 0 22) + 4)) f g) from pk_o (by decide) _] at hG
  rw [show (pk V b (st (st (st (st (st U 11 (U 0 22) (byt x 24)) 11 ((U 0 22) + 1) (byt x 16)) 11 ((U 0 22) + 2) (byt x 8)) 11 ((U 0 22) + 3) (byt x 0)) 0 22 ((U 0 22) + 4)) f g) = (pk V b (mpM x U) f g) from rfl] at hG
  exact r_v E hQ hG hS dX8_put_69 rfl

set_option maxHeartbeats 4000000 in
set_option maxRecDepth 100000 in
theorem c_X8_feed (l : Launch) {X : We} (hY : isY X) {n : Nat} {wd hi : Int} (V U : Mem) (f : Int → Int) (g : Int) (hL : Rl V U n wd hi) (hf : bo f) (hk : XI V n wd hi) (a b c d e : Int) : Mt l X (pk V bN U f g) yX8_feed cX8_feed 6 (some .int) 1 21 [.ref (wa X 0), .int (jI a), .int (jI b), .int (jI c), .int (jI d), .int (jI e)] (Qi X (fun z W1 => if V 45 1 + 20 ≤ 200 then z = V 45 1 + 20 ∧ MR (apM e (apM d (apM c (apM b (apM a V))))) W1 n wd hi else z = -1 ∧ MR V W1 n wd hi)) := by
  refine Mt.go (by decide) (Nat.le_of_ble_eq_true rfl) ?_
  intro pg ev s0 mi bl mt cd ls Rm ag Qq hR hQ E hI hG hS hl
  have hl : lv_has ls 6 [(0, .ref (wa X 0)), (1, .int (jI a)), (2, .int (jI b)), (3, .int (jI c)), (4, .int (jI d)), (5, .int (jI e))] := hl
  obtain ⟨hU, hWR, hKP, e11, e22, e29, e30, ⟨e33, e14, e15, e16, e17⟩, e38, e18, e19, e20⟩ := id hL
  obtain ⟨iN, iM, zT, hTP, hWK, hFL⟩ := id hk
  have hd := hU.2.2.2
  obtain ⟨hn1, hn2⟩ := dims.n hd
  have dyN := iN.2.2.2
  have dyM := iM.2.2.2
  have eN := bN3
  have hl0 := hTP.1
  refine x_aload_n E dX8_feed_0 (lv_at hl 0 rfl) ?_
  refine x_geti E hI hG (ym0 hY) cf8 22 (V 45 1) rfl (by decide) (show (pk V bN U f g) 0 22 = V 45 1 from e22) kf_X8_162 dX8_feed_1 ?_
  refine x_bipush E dX8_feed_4 (by decide) ?_
  refine x_iadd E dX8_feed_6 ?_
  refine x_sipush E dX8_feed_7 (by decide) ?_
  refine x_icmp_le E 15 dX8_feed_10 (by decide) (by unfold rg; omega) (by unfold rg; omega) (fun c10 => ?_) (fun c10 => ?_)
  · have t0 : U 0 22 = V 45 1 := e22
    have t1 : (mpM a U) 0 22 = V 45 1 + 4 := by rw [mpM_22, t0]
    have t2 : (mpM b (mpM a U)) 0 22 = V 45 1 + 8 := by rw [mpM_22, t1]; omega
    have t3 : (mpM c (mpM b (mpM a U))) 0 22 = V 45 1 + 12 := by rw [mpM_22, t2]; omega
    have t4 : (mpM d (mpM c (mpM b (mpM a U)))) 0 22 = V 45 1 + 16 := by rw [mpM_22, t3]; omega
    have t5 : (mpM e (mpM d (mpM c (mpM b (mpM a U))))) 0 22 = V 45 1 + 20 := by rw [mpM_22, t4]; omega
    refine x_aload_n E dX8_feed_15 (lv_at hl 0 rfl) ?_
    refine x_iload_n E dX8_feed_16 (lv_at hl 1 rfl) ?_
    refine x_cv hG hS (x_runV E hI hG hS (ym0 hY) cf8 rfl (c_X8_put l hY V U f g a (by rw [t0]; omega)) mf_X8_put km_X8_165 rfl hl rfl (Nat.le_of_ble_eq_true rfl) (by rw [hR]; exact ⟨Nat.le_of_ble_eq_true rfl, Nat.le_of_ble_eq_true rfl⟩) ⟨Nat.zero_le _, Nat.zero_le _⟩ dX8_feed_17) (fun V1 H locs hp hG hS => ?_)
    have eV := hp
    rw [eV] at hG
    refine x_aload_n E dX8_feed_20 (lv_at hl 0 rfl) ?_
    refine x_iload_n E dX8_feed_21 (lv_at hl 2 rfl) ?_
    refine x_cv hG hS (x_runV E hI hG hS (ym0 hY) cf8 rfl (c_X8_put l hY V (mpM a U) f g b (by rw [t1]; omega)) mf_X8_put km_X8_165 rfl hl rfl (Nat.le_of_ble_eq_true rfl) (by rw [hR]; exact ⟨Nat.le_of_ble_eq_true rfl, Nat.le_of_ble_eq_true rfl⟩) ⟨Nat.zero_le _, Nat.zero_le _⟩ dX8_feed_22) (fun V1 H locs hp hG hS => ?_)
    have eV := hp
    rw [eV] at hG
    refine x_aload_n E dX8_feed_25 (lv_at hl 0 rfl) ?_
    refine x_iload_n E dX8_feed_26 (lv_at hl 3 rfl) ?_
    refine x_cv hG hS (x_runV E hI hG hS (ym0 hY) cf8 rfl (c_X8_put l hY V (mpM b (mpM a U)) f g c (by rw [t2]; omega)) mf_X8_put km_X8_165 rfl hl rfl (Nat.le_of_ble_eq_true rfl) (by rw [hR]; exact ⟨Nat.le_of_ble_eq_true rfl, Nat.le_of_ble_eq_true rfl⟩) ⟨Nat.zero_le _, Nat.zero_le _⟩ dX8_feed_27) (fun V1 H locs hp hG hS => ?_)
    have eV := hp
    rw [eV] at hG
    refine x_aload_n E dX8_feed_30 (lv_at hl 0 rfl) ?_
    refine x_iload E dX8_feed_31 (lv_at hl 4 rfl) ?_
    refine x_cv hG hS (x_runV E hI hG hS (ym0 hY) cf8 rfl (c_X8_put l hY V (mpM c (mpM b (mpM a U))) f g d (by rw [t3]; omega)) mf_X8_put km_X8_165 rfl hl rfl (Nat.le_of_ble_eq_true rfl) (by rw [hR]; exact ⟨Nat.le_of_ble_eq_true rfl, Nat.le_of_ble_eq_true rfl⟩) ⟨Nat.zero_le _, Nat.zero_le _⟩ dX8_feed_33) (fun V1 H locs hp hG hS => ?_)
    have eV := hp
    rw [eV] at hG
    refine x_aload_n E dX8_feed_36 (lv_at hl 0 rfl) ?_
    refine x_iload E dX8_feed_37 (lv_at hl 5 rfl) ?_
    refine x_cv hG hS (x_runV E hI hG hS (ym0 hY) cf8 rfl (c_X8_put l hY V (mpM d (mpM c (mpM b (mpM a U)))) f g e (by rw [t4]; omega)) mf_X8_put km_X8_165 rfl hl rfl (Nat.le_of_ble_eq_true rfl) (by rw [hR]; exact ⟨Nat.le_of_ble_eq_true rfl, Nat.le_of_ble_eq_true rfl⟩) ⟨Nat.zero_le _, Nat.zero_le _⟩ dX8_feed_39) (fun V1 H locs hp hG hS => ?_)
    have eV := hp
    rw [eV] at hG
    refine x_aload_n E dX8_feed_42 (lv_at hl 0 rfl) ?_
    refine x_geti E hI hG (ym0 hY) cf8 22 (V 45 1 + 20) rfl (by decide) (show (pk V bN (mpM e (mpM d (mpM c (mpM b (mpM a U))))) f g) 0 22 = V 45 1 + 20 from t5) kf_X8_162 dX8_feed_43 ?_
    exact r_i E hQ hG hS dX8_feed_46 (by rw [if_pos (by omega)]; exact ⟨rfl, MR.mk2 (fun p _ _ => by rw [apM_p _ _ (by omega) (by omega), apM_p _ _ (by omega) (by omega), apM_p _ _ (by omega) (by omega), apM_p _ _ (by omega) (by omega), apM_p _ _ (by omega) (by omega)]) (((((hL.put a).put b).put c).put d).put e) hf⟩)
  · refine x_iconst E dX8_feed_13 ?_
    exact r_i E hQ hG hS dX8_feed_14 (by rw [if_neg (by omega)]; exact ⟨rfl, MR.mk hL hf⟩)

theorem Rl.end {V U : Mem} {n : Nat} {wd hi : Int} (h : Rl V U n wd hi) (k : Int) : Rl (st V 45 1 k) (st U 0 22 k) n wd hi := by
  obtain ⟨⟨m0, m1, m2, m3⟩, h2, h3, h4, h5, h6, h7, ⟨w0, w1, w2, w3, w4⟩, f0, f1, f2, f3⟩ := h
  have e1 := bN3
  have e2 := bM17
  refine ⟨⟨by rw [st_k (by decide)]; exact m0, by rw [st_k (by decide)]; exact m1, by rw [st_k (by decide)]; exact m2, m3⟩, ?_, ?_, ?_, ?_, ?_, ?_, ⟨?_, ?_, ?_, ?_, ?_⟩, ?_, ?_, ?_, ?_⟩
  · intro k k0 k1
    rw [st_p (by omega)] at k1
    rw [st_p (by decide), st_p (by decide), st_p (by omega), st_p (by omega)]
    exact h2 k k0 k1
  · exact (h3.of (fun p _ _ => st_p (by omega))).at (fun k _ _ => by rw [st_p (by decide)]) (fun k _ _ => by rw [st_p (by decide)]) (fun k _ _ => by rw [st_p (by decide)]) (fun k _ _ => by rw [st_p (by decide)])
  · rw [st_p (by decide), st_p (by decide)]; exact h4
  · rw [st_s, st_s]
  · rw [st_k (by decide), st_k (by decide)]; exact h6
  · rw [st_k (by decide), st_k (by decide)]; exact h7
  · rw [st_k (by decide), st_p (by decide)]; exact w0
  · rw [st_p (by decide), st_p (by decide)]; exact w1
  · rw [st_p (by decide), st_p (by decide)]; exact w2
  · rw [st_p (by decide), st_p (by decide)]; exact w3
  · rw [st_p (by decide), st_p (by decide)]; exact w4
  · rw [st_k (by decide), st_p (by decide)]; exact f0
  · rw [st_p (by decide), st_p (by decide)]; exact f1
  · rw [st_p (by decide), st_p (by decide)]; exact f2
  · rw [st_p (by decide), st_p (by decide)]; exact f3
/-- the same, but for fields that no one relates and for what the trial needs -/
theorem Rl.like {V U U1 : Mem} {n : Nat} {wd hi : Int} (h : Rl V U n wd hi) (hw : WR U1 V bN) (hk : KP U1 V bM 1) (h0 : ∀ k : Int, k ≠ 48 → k ≠ 49 → U1 0 k = U 0 k) (hp : ∀ p, 11 ≤ p → p ≤ 20 → p ≠ 12 → p ≠ 13 → U1 p = U p) : Rl V U1 n wd hi := by
  obtain ⟨⟨m0, m1, m2, m3⟩, h2, h3, h4, h5, h6, h7, ⟨w0, w1, w2, w3, w4⟩, f0, f1, f2, f3⟩ := h
  refine ⟨⟨by rw [h0 _ (by decide) (by decide)]; exact m0, by rw [h0 _ (by decide) (by decide)]; exact m1, by rw [h0 _ (by decide) (by decide)]; exact m2, m3⟩, hw, hk, ?_⟩
  rw [hp 11 (by decide) (by decide) (by decide) (by decide), h0 22 (by decide) (by decide), h0 29 (by decide) (by decide), h0 30 (by decide) (by decide), h0 33 (by decide) (by decide), h0 38 (by decide) (by decide), hp 14 (by decide) (by decide) (by decide) (by decide), hp 15 (by decide) (by decide) (by decide) (by decide), hp 16 (by decide) (by decide) (by decide) (by decide), hp 17 (by decide) (by decide) (by decide) (by decide), hp 18 (by decide) (by decide) (by decide) (by decide), hp 19 (by decide) (by decide) (by decide) (by decide), hp 20 (by decide) (by decide) (by decide) (by decide)]
  exact ⟨h4, h5, h6, h7, ⟨w0, w1, w2, w3, w4⟩, f0, f1, f2, f3⟩

set_option maxHeartbeats 4000000 in
set_option maxRecDepth 100000 in
theorem c_X8_end (l : Launch) {X : We} (hY : isY X) {n : Nat} {wd hi : Int} (V U : Mem) (f : Int → Int) (g : Int) (hL : Rl V U n wd hi) (hf : bo f) (hk : XI V n wd hi) (k : Int) (hk2 : rg k) : Mt l X (pk V bN U f g) yX8_end cX8_end 2 (some .int) 1 22 [.ref (wa X 0), .int (jI k)] (Qi X (fun z W1 => if 0 ≤ k ∧ k ≤ V 45 1 then z = k ∧ MR (st V 45 1 k) W1 n wd hi else z = -1 ∧ MR V W1 n wd hi)) := by
  refine Mt.go (by decide) (Nat.le_of_ble_eq_true rfl) ?_
  intro pg ev s0 mi bl mt cd ls Rm ag Qq hR hQ E hI hG hS hl
  have hl : lv_has ls 2 [(0, .ref (wa X 0)), (1, .int (jI k))] := hl
  obtain ⟨hU, hWR, hKP, e11, e22, e29, e30, ⟨e33, e14, e15, e16, e17⟩, e38, e18, e19, e20⟩ := id hL
  obtain ⟨iN, iM, zT, hTP, hWK, hFL⟩ := id hk
  have hd := hU.2.2.2
  obtain ⟨hn1, hn2⟩ := dims.n hd
  have dyN := iN.2.2.2
  have dyM := iM.2.2.2
  have eN := bN3
  unfold rg at hk2
  have hl0 := hTP.1
  refine x_iload_n E dX8_end_0 (lv_at hl 1 rfl) ?_
  refine x_iconst E dX8_end_1 ?_
  refine x_aload_n E dX8_end_2 (lv_at hl 0 rfl) ?_
  refine x_geti E hI hG (ym0 hY) cf8 22 (V 45 1) rfl (by decide) (show (pk V bN U f g) 0 22 = V 45 1 from e22) kf_X8_162 dX8_end_3 ?_
  refine x_ci hG hS (x_runS E hI hG hS (c_X8_in l (pk V bN U f g) k 0 (V 45 1) (by unfold rg; omega) (by unfold rg; omega) (by unfold rg; omega)) mf_X8_in km_X8_110 rfl hl rfl (Nat.le_of_ble_eq_true rfl) (by rw [hR]; exact ⟨Nat.le_of_ble_eq_true rfl, Nat.le_of_ble_eq_true rfl⟩) ⟨Nat.zero_le _, Nat.zero_le _⟩ dX8_end_6) (fun z1 V1 H locs hp hG hS => ?_)
  obtain ⟨ez, eV⟩ := hp
  rw [eV] at hG
  rw [ez]
  refine x_if_ne E 14 dX8_end_9 (by decide) b01_rg (fun c9 => ?_) (fun c9 => ?_)
  · have q9 := b01_ne c9
    refine x_aload_n E dX8_end_14 (lv_at hl 0 rfl) ?_
    refine x_iload_n E dX8_end_15 (lv_at hl 1 rfl) ?_
    refine x_puti E hI hG hS (ym0 hY) cf8 22 22 rfl rfl (by decide) rfl rfl kf_X8_162 dX8_end_16 (fun H locs hG hS => ?_)
    rw [show (st (pk V bN U f g) 0 22 k) = (pk V bN (st U 0 22 k) f g) from pk_o (by decide) _] at hG
    refine x_iload_n E dX8_end_19 (lv_at hl 1 rfl) ?_
    exact r_i E hQ hG hS dX8_end_20 (by rw [if_pos q9]; exact ⟨rfl, MR.mk2 (fun p _ _ => st_p (by omega)) (hL.end k) hf⟩)
  · have q9 := b01_iff0.mp c9
    refine x_iconst E dX8_end_12 ?_
    exact r_i E hQ hG hS dX8_end_13 (by rw [if_neg q9]; exact ⟨rfl, MR.mk hL hf⟩)

set_option maxHeartbeats 4000000 in
set_option maxRecDepth 100000 in
theorem c_X8_fault (l : Launch) {X : We} (hY : isY X) {n : Nat} {wd hi : Int} (V U : Mem) (f : Int → Int) (g : Int) (hL : Rl V U n wd hi) (hf : bo f) (hk : XI V n wd hi) (k : Int) (hk2 : rg k) : Mt l X (pk V bN U f g) yX8_fault cX8_fault 2 (some .int) 0 0 [.ref (wa X 0), .int (jI k)] (Qi X (fun z W1 => z = (if k = 0 then V 45 2 else if k = 1 then V 45 3 else -1) ∧ MR V W1 n wd hi)) := by
  refine Mt.go (by decide) (Nat.le_of_ble_eq_true rfl) ?_
  intro pg ev s0 mi bl mt cd ls Rm ag Qq hR hQ E hI hG hS hl
  have hl : lv_has ls 2 [(0, .ref (wa X 0)), (1, .int (jI k))] := hl
  obtain ⟨hU, hWR, hKP, e11, e22, e29, e30, ⟨e33, e14, e15, e16, e17⟩, e38, e18, e19, e20⟩ := id hL
  obtain ⟨iN, iM, zT, hTP, hWK, hFL⟩ := id hk
  have hd := hU.2.2.2
  obtain ⟨hn1, hn2⟩ := dims.n hd
  have dyN := iN.2.2.2
  have dyM := iM.2.2.2
  have eN := bN3
  unfold rg at hk2
  have L24_1 : ∀ (z : Int), (z = (if k = 0 then V 45 2 else if k = 1 then V 45 3 else -1)) → ∀ (H : Heap) (locs : List Loc) (ls : Array Slot), GW X (pk V bN U f g) H → va_S (wA X) s0.heap H locs → lv_has ls 2 [] → W pg l ev Rm s0 mi ag bl mt cd H locs 0 0 Qq (F0 mi 24 ls [.int (jI z)]) := by
    intro z hz H locs ls hG hS hl
    exact r_i E hQ hG hS dX8_fault_24 (⟨hz, MR.mk hL hf⟩)
  refine x_iload_n E dX8_fault_0 (lv_at hl 1 rfl) ?_
  refine x_if_ne E 11 dX8_fault_1 (by decide) (by unfold rg; omega) (fun c1 => ?_) (fun c1 => ?_)
  · refine x_iload_n E dX8_fault_11 (lv_at hl 1 rfl) ?_
    refine x_iconst E dX8_fault_12 ?_
    refine x_icmp_ne E 23 dX8_fault_13 (by decide) (by unfold rg; omega) (by unfold rg; omega) (fun c13 => ?_) (fun c13 => ?_)
    · refine x_iconst E dX8_fault_23 ?_
      exact L24_1 (-1) (by rw [if_neg c1, if_neg (by omega)]) _ _ _ hG hS (lv_sub hl [] rfl)
    · refine x_aload_n E dX8_fault_16 (lv_at hl 0 rfl) ?_
      refine x_geti E hI hG (ym0 hY) cf8 30 (V 45 3) rfl (by decide) (show (pk V bN U f g) 0 30 = V 45 3 from e30) kf_X8_51 dX8_fault_17 ?_
      refine x_goto E 24 dX8_fault_20 (by decide) ?_
      exact L24_1 (V 45 3) (by rw [if_neg c1, if_pos (by omega)]) _ _ _ hG hS (lv_sub hl [] rfl)
  · refine x_aload_n E dX8_fault_4 (lv_at hl 0 rfl) ?_
    refine x_geti E hI hG (ym0 hY) cf8 29 (V 45 2) rfl (by decide) (show (pk V bN U f g) 0 29 = V 45 2 from e29) kf_X8_48 dX8_fault_5 ?_
    refine x_goto E 24 dX8_fault_8 (by decide) ?_
    exact L24_1 (V 45 2) (by rw [if_pos c1]) _ _ _ hG hS (lv_sub hl [] rfl)

set_option maxHeartbeats 4000000 in
set_option maxRecDepth 100000 in
theorem c_X8_cell (l : Launch) {X : We} (hY : isY X) {n : Nat} {wd hi : Int} (V U : Mem) (f : Int → Int) (g : Int) (hL : Rl V U n wd hi) (hf : bo f) (hk : XI V n wd hi) (c k : Int) (hc : rg c) (hk2 : rg k) : Mt l X (pk V bN U f g) yX8_cell cX8_cell 3 (some .int) 2 51 [.ref (wa X 0), .int (jI c), .int (jI k)] (Qi X (fun z W1 => z = (if 0 ≤ c ∧ c < (n : Int) then lookV wd hi bN c k V else -1) ∧ MR V W1 n wd hi)) := by
  refine Mt.go (by decide) (Nat.le_of_ble_eq_true rfl) ?_
  intro pg ev s0 mi bl mt cd ls Rm ag Qq hR hQ E hI hG hS hl
  have hl : lv_has ls 3 [(0, .ref (wa X 0)), (1, .int (jI c)), (2, .int (jI k))] := hl
  obtain ⟨hU, hWR, hKP, e11, e22, e29, e30, ⟨e33, e14, e15, e16, e17⟩, e38, e18, e19, e20⟩ := id hL
  obtain ⟨iN, iM, zT, hTP, hWK, hFL⟩ := id hk
  have hd := hU.2.2.2
  obtain ⟨hn1, hn2⟩ := dims.n hd
  have dyN := iN.2.2.2
  have dyM := iM.2.2.2
  have eN := bN3
  unfold rg at hc
  have hk3 := hk2
  unfold rg at hk3
  refine x_aload_n E dX8_cell_0 (lv_at hl 0 rfl) ?_
  refine x_iload_n E dX8_cell_1 (lv_at hl 1 rfl) ?_
  refine x_ci hG hS (x_runV E hI hG hS (ym0 hY) cf8 rfl (c_X8_isCell l hY (pk V bN U f g) hU.2.2.1 hn2 c (by unfold rg; omega)) mf_X8_isCell km_X8_153 rfl hl rfl (Nat.le_of_ble_eq_true rfl) (by rw [hR]; exact ⟨Nat.le_of_ble_eq_true rfl, Nat.le_of_ble_eq_true rfl⟩) ⟨Nat.zero_le _, Nat.zero_le _⟩ dX8_cell_2) (fun z1 V1 H locs hp hG hS => ?_)
  obtain ⟨ez, eV⟩ := hp
  rw [eV] at hG
  rw [ez]
  refine x_if_ne E 10 dX8_cell_5 (by decide) b01_rg (fun c5 => ?_) (fun c5 => ?_)
  · have q5 := b01_ne c5
    have L123_1 : ∀ (z : Int), (z = lookV wd hi bN c k V) → ∀ (H : Heap) (locs : List Loc) (ls : Array Slot), GW X (pk V bN U f g) H → va_S (wA X) s0.heap H locs → lv_has ls 3 [] → W pg l ev Rm s0 mi ag bl mt cd H locs 0 0 Qq (F0 mi 123 ls [.int (jI z)]) := by
      intro z hz1 H locs ls hG hS hl
      exact r_i E hQ hG hS dX8_cell_123 (⟨by rw [if_pos q5]; exact hz1, MR.mk hL hf⟩)
    have L106_2 : (6 ≤ k ∧ k ≤ 9) → ∀ (H : Heap) (locs : List Loc) (ls : Array Slot), GW X (pk V bN U f g) H → va_S (wA X) s0.heap H locs → lv_has ls 3 [(0, .ref (wa X 0)), (1, .int (jI c)), (2, .int (jI k))] → W pg l ev Rm s0 mi ag bl mt cd H locs 0 0 Qq (F0 mi 106 ls []) := by
      intro  hy H locs ls hG hS hl
      have esh : lookV wd hi bN c k V = b2i (shd wd hi (V (bN + 1)) c (k - 6)) := by unfold lookV; rw [if_neg (by omega), if_neg (by omega), if_neg (by omega), if_neg (by omega), if_neg (by omega), if_neg (by omega), if_pos hy]
      refine x_aload_n E dX8_cell_106 (lv_at hl 0 rfl) ?_
      refine x_iload_n E dX8_cell_107 (lv_at hl 1 rfl) ?_
      refine x_iload_n E dX8_cell_108 (lv_at hl 2 rfl) ?_
      refine x_bipush E dX8_cell_109 (by decide) ?_
      refine x_isub E dX8_cell_111 ?_
      refine x_ci hG hS (x_runV E hI hG hS (ym0 hY) cf8 rfl (c_X8_isShadow l hY U hU V f g (V (bN + 1)) rfl (iN.1.2.1.ps hd).1 c (k - 6) q5 (by omega)) mf_X8_isShadow km_X8_220 rfl hl rfl (Nat.le_of_ble_eq_true rfl) (by rw [hR]; exact ⟨Nat.le_of_ble_eq_true rfl, Nat.le_of_ble_eq_true rfl⟩) ⟨Nat.zero_le _, Nat.zero_le _⟩ dX8_cell_112) (fun z1 V1 H locs hp hG hS => ?_)
      obtain ⟨ez, eV⟩ := hp
      rw [eV] at hG
      rw [ez]
      refine x_if_eq E 122 dX8_cell_115 (by decide) (b2i_rg _) (fun c115 => ?_) (fun c115 => ?_)
      · refine x_iconst E dX8_cell_122 ?_
        exact L123_1 0 (by rw [esh, b2i_0.mp c115]; rfl) _ _ _ hG hS (lv_sub hl [] rfl)
      · refine x_iconst E dX8_cell_118 ?_
        refine x_goto E 123 dX8_cell_119 (by decide) ?_
        exact L123_1 1 (by rw [esh, b2i_ne.mp c115]; rfl) _ _ _ hG hS (lv_sub hl [] rfl)
    refine x_iload_n E dX8_cell_10 (lv_at hl 2 rfl) ?_
    rcases (show k = 0 ∨ k = 1 ∨ k = 2 ∨ k = 3 ∨ k = 4 ∨ k = 5 ∨ k = 6 ∨ k = 7 ∨ k = 8 ∨ k = 9 ∨ (k < 0 ∨ 9 < k) by omega) with q | q | q | q | q | q | q | q | q | q | q
    · refine lv_tableIn E.1 E.2.1 dX8_cell_11 (by rw [q]; decide) (by rw [q]; decide) (off := 53) (tgt := 64) (by rw [q]; decide) (by decide) ?_
      refine x_aload_n E dX8_cell_64 (lv_at hl 0 rfl) ?_
      refine x_getr E hI hG (ym0 hY) cf8 3 1 rfl (by decide) kf_X8_7 dX8_cell_65 ?_
      refine x_iload_n E dX8_cell_68 (lv_at hl 1 rfl) ?_
      refine x_iald E hI hG (ym1 hY) (V (bN + 1) c) rfl (by omega) dX8_cell_69 ?_
      exact r_i E hQ hG hS dX8_cell_70 (⟨by rw [if_pos q5]; unfold lookV; rw [if_pos q], MR.mk hL hf⟩)
    · refine lv_tableIn E.1 E.2.1 dX8_cell_11 (by rw [q]; decide) (by rw [q]; decide) (off := 60) (tgt := 71) (by rw [q]; decide) (by decide) ?_
      refine x_aload_n E dX8_cell_71 (lv_at hl 0 rfl) ?_
      refine x_getr E hI hG (ym0 hY) cf8 5 3 rfl (by decide) kf_X8_16 dX8_cell_72 ?_
      refine x_iload_n E dX8_cell_75 (lv_at hl 1 rfl) ?_
      refine x_iald E hI hG (ym3 hY) (V (bN + 3) c) rfl (by omega) dX8_cell_76 ?_
      exact r_i E hQ hG hS dX8_cell_77 (⟨by rw [if_pos q5]; unfold lookV; rw [if_neg (by omega), if_pos q], MR.mk hL hf⟩)
    · refine lv_tableIn E.1 E.2.1 dX8_cell_11 (by rw [q]; decide) (by rw [q]; decide) (off := 67) (tgt := 78) (by rw [q]; decide) (by decide) ?_
      refine x_aload_n E dX8_cell_78 (lv_at hl 0 rfl) ?_
      refine x_getr E hI hG (ym0 hY) cf8 6 4 rfl (by decide) kf_X8_19 dX8_cell_79 ?_
      refine x_iload_n E dX8_cell_82 (lv_at hl 1 rfl) ?_
      refine x_iald E hI hG (ym4 hY) (V (bN + 4) c) rfl (by omega) dX8_cell_83 ?_
      exact r_i E hQ hG hS dX8_cell_84 (⟨by rw [if_pos q5]; unfold lookV; rw [if_neg (by omega), if_neg (by omega), if_pos q], MR.mk hL hf⟩)
    · refine lv_tableIn E.1 E.2.1 dX8_cell_11 (by rw [q]; decide) (by rw [q]; decide) (off := 74) (tgt := 85) (by rw [q]; decide) (by decide) ?_
      refine x_aload_n E dX8_cell_85 (lv_at hl 0 rfl) ?_
      refine x_getr E hI hG (ym0 hY) cf8 7 5 rfl (by decide) kf_X8_22 dX8_cell_86 ?_
      refine x_iload_n E dX8_cell_89 (lv_at hl 1 rfl) ?_
      refine x_iald E hI hG (ym5 hY) (V (bN + 5) c) rfl (by omega) dX8_cell_90 ?_
      exact r_i E hQ hG hS dX8_cell_91 (⟨by rw [if_pos q5]; unfold lookV; rw [if_neg (by omega), if_neg (by omega), if_neg (by omega), if_pos q], MR.mk hL hf⟩)
    · refine lv_tableIn E.1 E.2.1 dX8_cell_11 (by rw [q]; decide) (by rw [q]; decide) (off := 81) (tgt := 92) (by rw [q]; decide) (by decide) ?_
      refine x_aload_n E dX8_cell_92 (lv_at hl 0 rfl) ?_
      refine x_getr E hI hG (ym0 hY) cf8 8 6 rfl (by decide) kf_X8_25 dX8_cell_93 ?_
      refine x_iload_n E dX8_cell_96 (lv_at hl 1 rfl) ?_
      refine x_iald E hI hG (ym6 hY) (V (bN + 6) c) rfl (by omega) dX8_cell_97 ?_
      exact r_i E hQ hG hS dX8_cell_98 (⟨by rw [if_pos q5]; unfold lookV; rw [if_neg (by omega), if_neg (by omega), if_neg (by omega), if_neg (by omega), if_pos q], MR.mk hL hf⟩)
    · refine lv_tableIn E.1 E.2.1 dX8_cell_11 (by rw [q]; decide) (by rw [q]; decide) (off := 88) (tgt := 99) (by rw [q]; decide) (by decide) ?_
      refine x_aload_n E dX8_cell_99 (lv_at hl 0 rfl) ?_
      refine x_getr E hI hG (ym0 hY) cf8 9 7 rfl (by decide) kf_X8_28 dX8_cell_100 ?_
      refine x_iload_n E dX8_cell_103 (lv_at hl 1 rfl) ?_
      refine x_iald E hI hG (ym7 hY) (V (bN + 7) c) rfl (by omega) dX8_cell_104 ?_
      exact r_i E hQ hG hS dX8_cell_105 (⟨by rw [if_pos q5]; unfold lookV; rw [if_neg (by omega), if_neg (by omega), if_neg (by omega), if_neg (by omega), if_neg (by omega), if_pos q], MR.mk hL hf⟩)
    · refine lv_tableIn E.1 E.2.1 dX8_cell_11 (by rw [q]; decide) (by rw [q]; decide) (off := 95) (tgt := 106) (by rw [q]; decide) (by decide) ?_
      exact L106_2  (by omega) _ _ _ hG hS (lv_sub hl [0, 1, 2] rfl)
    · refine lv_tableIn E.1 E.2.1 dX8_cell_11 (by rw [q]; decide) (by rw [q]; decide) (off := 95) (tgt := 106) (by rw [q]; decide) (by decide) ?_
      exact L106_2  (by omega) _ _ _ hG hS (lv_sub hl [0, 1, 2] rfl)
    · refine lv_tableIn E.1 E.2.1 dX8_cell_11 (by rw [q]; decide) (by rw [q]; decide) (off := 95) (tgt := 106) (by rw [q]; decide) (by decide) ?_
      exact L106_2  (by omega) _ _ _ hG hS (lv_sub hl [0, 1, 2] rfl)
    · refine lv_tableIn E.1 E.2.1 dX8_cell_11 (by rw [q]; decide) (by rw [q]; decide) (off := 95) (tgt := 106) (by rw [q]; decide) (by decide) ?_
      exact L106_2  (by omega) _ _ _ hG hS (lv_sub hl [0, 1, 2] rfl)
    · refine lv_tableOut (tgt := 124) E.1 E.2.1 dX8_cell_11 (by rw [j_toInt hk2]; omega) (by decide) ?_
      refine x_iconst E dX8_cell_124 ?_
      exact r_i E hQ hG hS dX8_cell_125 (⟨by rw [if_pos q5]; unfold lookV; rw [if_neg (by omega), if_neg (by omega), if_neg (by omega), if_neg (by omega), if_neg (by omega), if_neg (by omega), if_neg (by omega)], MR.mk hL hf⟩)
  · have q5 := b01_iff0.mp c5
    refine x_iconst E dX8_cell_8 ?_
    exact r_i E hQ hG hS dX8_cell_9 (⟨by rw [if_neg q5], MR.mk hL hf⟩)

set_option maxHeartbeats 4000000 in
set_option maxRecDepth 100000 in
theorem c_X8_storm (l : Launch) {X : We} (hY : isY X) {n : Nat} {wd hi : Int} (V U : Mem) (f : Int → Int) (g : Int) (hL : Rl V U n wd hi) (hf : bo f) (hk : XI V n wd hi) (k : Int) (hk2 : rg k) : Mt l X (pk V bN U f g) yX8_storm cX8_storm 8 (some .int) 4 93 [.ref (wa X 0), .int (jI k)] (Qi X (fun z W1 => if 1 ≤ k ∧ k ≤ 999 then z = su n (tkF wd (V (bN + 1)) k) ∧ MR (cutM n wd hi bN k V) W1 n wd hi else z = -1 ∧ MR V W1 n wd hi)) := by
  refine Mt.go (by decide) (Nat.le_of_ble_eq_true rfl) ?_
  intro pg ev s0 mi bl mt cd ls Rm ag Qq hR hQ E hI hG hS hl
  have hl : lv_has ls 8 [(0, .ref (wa X 0)), (1, .int (jI k))] := hl
  obtain ⟨hU, hWR, hKP, e11, e22, e29, e30, ⟨e33, e14, e15, e16, e17⟩, e38, e18, e19, e20⟩ := id hL
  obtain ⟨iN, iM, zT, hTP, hWK, hFL⟩ := id hk
  have hd := hU.2.2.2
  obtain ⟨hn1, hn2⟩ := dims.n hd
  have dyN := iN.2.2.2
  have dyM := iM.2.2.2
  have eN := bN3
  unfold rg at hk2
  have hh := iN.1.2.1
  have hbn := (hh.ps hd).1
  have hw4 := hd.2.1
  have hw5 := hd.2.2.1
  have hh4 := hd.2.2.2
  refine x_iload_n E dX8_storm_0 (lv_at hl 1 rfl) ?_
  refine x_iconst E dX8_storm_1 ?_
  refine x_sipush E dX8_storm_2 (by decide) ?_
  refine x_ci hG hS (x_runS E hI hG hS (c_X8_in l (pk V bN U f g) k 1 999 (by unfold rg; omega) (by unfold rg; omega) (by unfold rg; omega)) mf_X8_in km_X8_110 rfl hl rfl (Nat.le_of_ble_eq_true rfl) (by rw [hR]; exact ⟨Nat.le_of_ble_eq_true rfl, Nat.le_of_ble_eq_true rfl⟩) ⟨Nat.zero_le _, Nat.zero_le _⟩ dX8_storm_5) (fun z1 V1 H locs hp hG hS => ?_)
  obtain ⟨ez, eV⟩ := hp
  rw [eV] at hG
  rw [ez]
  refine x_if_ne E 13 dX8_storm_8 (by decide) b01_rg (fun c8 => ?_) (fun c8 => ?_)
  · have q8 := b01_ne c8
    have hcut := HI.cut (g := cutF wd (V (bN + 1)) k (n : Int)) hd hh (fun c c0 c1 => by
      have p1 := hh.2.1 c c0 c1
      have p2 := lfr_rg (wd := wd) (h := V (bN + 1)) (by omega : 0 ≤ k) (by omega) hh.2.1 c.toNat (by omega)
      unfold cutF
      rw [if_pos ⟨c0, c1⟩]
      omega)
    rw [show V = sp V (bN + 1) (cutF wd (V (bN + 1)) k 0) by rw [cutF_0, sp_self]] at hG
    rw [show (0 : Int) = 0 * wd by omega] at hG
    refine x_iconst E dX8_storm_13 ?_
    refine x_istore_n E [(2, .int (jI 0)), (0, .ref (wa X 0)), (1, .int (jI k))] dX8_storm_14 hl (by decide) rfl (fun ls hl => ?_)
    refine x_iconst E dX8_storm_15 ?_
    refine x_istore_n E [(3, .int (jI 0)), (2, .int (jI 0)), (0, .ref (wa X 0)), (1, .int (jI k))] dX8_storm_16 hl (by decide) rfl (fun ls hl => ?_)
    have L17_1 : ∀ (N : Nat) (y : Int) (a : Int), (0 ≤ y) → (y ≤ hi) → (a = su (y * wd).toNat (tkF wd (V (bN + 1)) k)) → ((hi - y).toNat) < N → ∀ (H : Heap) (locs : List Loc) (ls : Array Slot), GW X (pk (sp V (bN + 1) (cutF wd (V (bN + 1)) k (y * wd))) bN U f g) H → va_S (wA X) s0.heap H locs → lv_has ls 8 [(0, .ref (wa X 0)), (1, .int (jI k)), (2, .int (jI a)), (3, .int (jI y))] → W pg l ev Rm s0 mi ag bl mt cd H locs 0 0 Qq (F0 mi 17 ls []) := by
      intro N
      induction N with
      | zero => intro y a y0 y1 ea hN; exact absurd hN (Nat.not_lt_zero _)
      | succ N ih17 =>
        intro y a y0 y1 ea hN H locs ls hG hS hl
        refine x_iload_n E dX8_storm_17 (lv_at hl 3 rfl) ?_
        refine x_aload_n E dX8_storm_18 (lv_at hl 0 rfl) ?_
        refine x_geti E hI hG (ym0 hY) cf8 1 (hi) rfl (by decide) (show (pk (sp V (bN + 1) (cutF wd (V (bN + 1)) k (y * wd))) bN U f g) 0 1 = hi from hU.2.1) kf_X8_100 dX8_storm_19 ?_
        refine x_icmp_ge E 113 dX8_storm_22 (by decide) (by unfold rg; omega) (by unfold rg; omega) (fun c22 => ?_) (fun c22 => ?_)
        · have hyh : y = hi := by omega
          rw [show y * wd = (n : Int) by rw [hyh, Int.mul_comm]; exact hd.1.symm] at hG ea
          refine x_aload_n E dX8_storm_113 (lv_at hl 0 rfl) ?_
          refine x_dup E dX8_storm_114 rfl ?_
          refine x_geti E hI hG (ym0 hY) cf8 13 (V bN 13) rfl (by decide) (show (pk (sp V (bN + 1) (cutF wd (V (bN + 1)) k (n : Int))) bN U f g) 0 13 = V bN 13 from (by show sp V (bN + 1) (cutF wd (V (bN + 1)) k (n : Int)) bN 13 = _; rw [sp_n (by omega)])) kf_X8_118 dX8_storm_115 ?_
          refine x_iload_n E dX8_storm_118 (lv_at hl 2 rfl) ?_
          refine x_iadd E dX8_storm_119 ?_
          refine x_puti E hI hG hS (ym0 hY) cf8 13 13 rfl rfl (by decide) rfl rfl kf_X8_118 dX8_storm_120 (fun H locs hG hS => ?_)
          rw [show (st (pk (sp V (bN + 1) (cutF wd (V (bN + 1)) k (n : Int))) bN U f g) 0 13 ((V bN 13) + a)) = (pk (st (sp V (bN + 1) (cutF wd (V (bN + 1)) k (n : Int))) bN 13 ((V bN 13) + a)) bN U f g) from pk_n (by decide) _ _] at hG
          rw [show (pk (st (sp V (bN + 1) (cutF wd (V (bN + 1)) k (n : Int))) bN 13 ((V bN 13) + a)) bN U f g) = (pk (st (sp V (bN + 1) (cutF wd (V (bN + 1)) k (n : Int))) bN 13 (V bN 13 + a)) bN U f g) from rfl] at hG
          refine x_aload_n E dX8_storm_123 (lv_at hl 0 rfl) ?_
          refine x_cv hG hS (x_runV E hI hG hS (ym0 hY) cf8 rfl (c_X8_settledAll l hY U hU (st (sp V (bN + 1) (cutF wd (V (bN + 1)) k (n : Int))) bN 13 (V bN 13 + a)) f g hf (by rw [st_p (by omega), sp_s]; exact hcut.1) (by rw [st_p (by omega), sp_n (by omega)]; exact ⟨hh.2.2.2.1, hh.2.2.2.2.1⟩)) mf_X8_settledAll km_X8_159 rfl hl rfl (Nat.le_of_ble_eq_true rfl) (by rw [hR]; exact ⟨Nat.le_of_ble_eq_true rfl, Nat.le_of_ble_eq_true rfl⟩) ⟨Nat.zero_le _, Nat.zero_le _⟩ dX8_storm_124) (fun V1 H locs hp hG hS => ?_)
          obtain ⟨f2, g2, eV, hf2⟩ := hp
          rw [eV] at hG
          refine x_iload_n E dX8_storm_127 (lv_at hl 2 rfl) ?_
          exact r_i E hQ hG hS dX8_storm_128 (by rw [if_pos q8]; exact ⟨by rw [ea]; congr 1, by rw [show hall n wd hi bN (st (sp V (bN + 1) (cutF wd (V (bN + 1)) k (n : Int))) bN 13 (V bN 13 + a)) = cutM n wd hi bN k V by unfold cutM; rw [ea]; rfl]; exact MR.mk (hL.sh (fun p q => by unfold cutM hall; rw [sp_n (by omega), st_p (by omega), sp_n (by omega)])) hf2⟩)
        · refine x_iload_n E dX8_storm_25 (lv_at hl 1 rfl) ?_
          refine x_istore E [(4, .int (jI k)), (0, .ref (wa X 0)), (1, .int (jI k)), (2, .int (jI a)), (3, .int (jI y))] dX8_storm_26 hl (by decide) rfl (fun ls hl => ?_)
          rw [show y * wd = y * wd + 0 by omega] at hG
          refine x_iconst E dX8_storm_28 ?_
          refine x_istore E [(5, .int (jI 0)), (4, .int (jI k)), (0, .ref (wa X 0)), (1, .int (jI k)), (2, .int (jI a)), (3, .int (jI y))] dX8_storm_29 hl (by decide) rfl (fun ls hl => ?_)
          have L31_2 : ∀ (N : Nat) (x : Int) (a : Int) (lf : Int), (0 ≤ x) → (x ≤ wd) → (a = su (y * wd + x).toNat (tkF wd (V (bN + 1)) k)) → (x < wd → lf = lfr wd (V (bN + 1)) k (y * wd + x).toNat) → ((wd - x).toNat) < N → ∀ (H : Heap) (locs : List Loc) (ls : Array Slot), GW X (pk (sp V (bN + 1) (cutF wd (V (bN + 1)) k (y * wd + x))) bN U f g) H → va_S (wA X) s0.heap H locs → lv_has ls 8 [(0, .ref (wa X 0)), (1, .int (jI k)), (2, .int (jI a)), (3, .int (jI y)), (4, .int (jI lf)), (5, .int (jI x))] → W pg l ev Rm s0 mi ag bl mt cd H locs 0 0 Qq (F0 mi 31 ls []) := by
            intro N
            induction N with
            | zero => intro x a lf x0 x1 ea elf hN; exact absurd hN (Nat.not_lt_zero _)
            | succ N ih31 =>
              intro x a lf x0 x1 ea elf hN H locs ls hG hS hl
              refine x_iload E dX8_storm_31 (lv_at hl 5 rfl) ?_
              refine x_aload_n E dX8_storm_33 (lv_at hl 0 rfl) ?_
              refine x_geti E hI hG (ym0 hY) cf8 0 (wd) rfl (by decide) (show (pk (sp V (bN + 1) (cutF wd (V (bN + 1)) k (y * wd + x))) bN U f g) 0 0 = wd from hU.1) kf_X8_97 dX8_storm_34 ?_
              refine x_icmp_ge E 107 dX8_storm_37 (by decide) (by unfold rg; omega) (by unfold rg; omega) (fun c37 => ?_) (fun c37 => ?_)
              · rw [show y * wd + x = (y + 1) * wd by rw [Int.add_mul, show x = wd by omega]; omega] at hG ea
                refine x_iinc E (k := 3) [(3, .int (jI (y + 1))), (0, .ref (wa X 0)), (1, .int (jI k)), (2, .int (jI a)), (4, .int (jI lf)), (5, .int (jI x))] dX8_storm_107 hl rfl (by decide) rfl (fun ls hl => ?_)
                refine x_goto E 17 dX8_storm_110 (by decide) ?_
                exact ih17 (y + 1) a (by omega) (by omega) ea (by omega) _ _ _ hG hS (lv_sub hl [1, 2, 3, 0] rfl)
              · have hcc := cell_of hd y0 (show y < hi by omega) x0 (show x < wd by omega)
                have hv := hbn (y * wd + x) hcc.1 hcc.2.1
                have hlf := lfr_rg (wd := wd) (h := (V (bN + 1))) (by omega : 0 ≤ k) (by omega) hh.2.1 (y * wd + x).toNat (by omega)
                have elf2 := elf (by omega)
                rw [← elf2] at hlf
                refine x_iload_n E dX8_storm_40 (lv_at hl 3 rfl) ?_
                refine x_aload_n E dX8_storm_41 (lv_at hl 0 rfl) ?_
                refine x_geti E hI hG (ym0 hY) cf8 0 (wd) rfl (by decide) (show (pk (sp V (bN + 1) (cutF wd (V (bN + 1)) k (y * wd + x))) bN U f g) 0 0 = wd from hU.1) kf_X8_97 dX8_storm_42 ?_
                refine x_imul E dX8_storm_45 ?_
                refine x_iload E dX8_storm_46 (lv_at hl 5 rfl) ?_
                refine x_iadd E dX8_storm_48 ?_
                refine x_istore E [(6, .int (jI ((y * wd) + x))), (0, .ref (wa X 0)), (1, .int (jI k)), (2, .int (jI a)), (3, .int (jI y)), (4, .int (jI lf)), (5, .int (jI x))] dX8_storm_49 hl (by decide) rfl (fun ls hl => ?_)
                have L75_3 : ∀ (z : Int), (z = min lf (V (bN + 1) (y * wd + x))) → ∀ (H : Heap) (locs : List Loc) (ls : Array Slot), GW X (pk (sp V (bN + 1) (cutF wd (V (bN + 1)) k (y * wd + x))) bN U f g) H → va_S (wA X) s0.heap H locs → lv_has ls 8 [(0, .ref (wa X 0)), (1, .int (jI k)), (2, .int (jI a)), (3, .int (jI y)), (4, .int (jI lf)), (5, .int (jI x)), (6, .int (jI (y * wd + x)))] → W pg l ev Rm s0 mi ag bl mt cd H locs 0 0 Qq (F0 mi 75 ls [.int (jI z)]) := by
                  intro z hz H locs ls hG hS hl
                  refine x_istore E [(7, .int (jI z)), (0, .ref (wa X 0)), (1, .int (jI k)), (2, .int (jI a)), (3, .int (jI y)), (4, .int (jI lf)), (5, .int (jI x)), (6, .int (jI (y * wd + x)))] dX8_storm_75 hl (by decide) rfl (fun ls hl => ?_)
                  refine x_aload_n E dX8_storm_77 (lv_at hl 1 rfl) ?_
                  refine x_getr E hI hG (ym0 hY) cf8 3 1 rfl (by decide) kf_X8_7 dX8_storm_78 ?_
                  refine x_iload E dX8_storm_81 (lv_at hl 7 rfl) ?_
                  refine x_dup2 E dX8_storm_83 rfl rfl ?_
                  refine x_iald E hI hG (ym1 hY) (V (bN + 1) (y * wd + x)) (by show sp V (bN + 1) (cutF wd (V (bN + 1)) k (y * wd + x)) (bN + 1) _ = _; rw [sp_s]; exact cutF_i) (by omega) dX8_storm_84 ?_
                  refine x_iload E dX8_storm_85 (lv_at hl 0 rfl) ?_
                  refine x_isub E dX8_storm_87 ?_
                  refine x_iast E hI hG hS (ym1 hY) (by omega) dX8_storm_88 (fun H locs hG hS => ?_)
                  rw [show (st (pk (sp V (bN + 1) (cutF wd (V (bN + 1)) k (y * wd + x))) bN U f g) 1 (y * wd + x) ((V (bN + 1) (y * wd + x)) - z)) = (pk (st (sp V (bN + 1) (cutF wd (V (bN + 1)) k (y * wd + x))) (bN + 1) (y * wd + x) ((V (bN + 1) (y * wd + x)) - z)) bN U f g) from pk_h (by decide) _ _] at hG
                  rw [show (pk (st (sp V (bN + 1) (cutF wd (V (bN + 1)) k (y * wd + x))) (bN + 1) (y * wd + x) ((V (bN + 1) (y * wd + x)) - z)) bN U f g) = (pk (sp V (bN + 1) (cutF wd (V (bN + 1)) k (y * wd + (x + 1)))) bN U f g) from by rw [sp_st, hz, elf2, cutF_s hcc.1, show y * wd + x + 1 = y * wd + (x + 1) by omega]] at hG
                  refine x_iload E dX8_storm_89 (lv_at hl 5 rfl) ?_
                  refine x_iload E dX8_storm_91 (lv_at hl 0 rfl) ?_
                  refine x_isub E dX8_storm_93 ?_
                  refine x_istore E [(4, .int (jI (lf - z))), (7, .int (jI z)), (0, .ref (wa X 0)), (1, .int (jI k)), (2, .int (jI a)), (3, .int (jI y)), (5, .int (jI x)), (6, .int (jI (y * wd + x)))] dX8_storm_94 hl (by decide) rfl (fun ls hl => ?_)
                  refine x_iload_n E dX8_storm_96 (lv_at hl 4 rfl) ?_
                  refine x_iload E dX8_storm_97 (lv_at hl 1 rfl) ?_
                  refine x_iadd E dX8_storm_99 ?_
                  refine x_istore_n E [(2, .int (jI (a + z))), (4, .int (jI (lf - z))), (7, .int (jI z)), (0, .ref (wa X 0)), (1, .int (jI k)), (3, .int (jI y)), (5, .int (jI x)), (6, .int (jI (y * wd + x)))] dX8_storm_100 hl (by decide) rfl (fun ls hl => ?_)
                  refine x_iinc E (k := 6) [(5, .int (jI (x + 1))), (2, .int (jI (a + z))), (4, .int (jI (lf - z))), (7, .int (jI z)), (0, .ref (wa X 0)), (1, .int (jI k)), (3, .int (jI y)), (6, .int (jI (y * wd + x)))] dX8_storm_101 hl rfl (by decide) rfl (fun ls hl => ?_)
                  refine x_goto E 31 dX8_storm_104 (by decide) ?_
                  exact ih31 (x + 1) (a + z) (lf - z) (by omega) (by omega) (by rw [show y * wd + (x + 1) = y * wd + x + 1 by omega, su_s hcc.1, ea]; unfold tkF; rw [← elf2, hz]) (fun hx => by
                          have hc2 := cell_of hd y0 (show y < hi by omega) (x := x + 1) (by omega) hx
                          rw [show y * wd + (x + 1) = y * wd + x + 1 by omega] at hc2 ⊢
                          rw [lfr_s hcc.1, if_neg (by rw [hc2.2.2.2]; omega), ← elf2, hz]) (by omega) _ _ _ hG hS (lv_sub hl [4, 5, 1, 6, 2, 0] rfl)
                refine x_aload_n E dX8_storm_51 (lv_at hl 1 rfl) ?_
                refine x_getr E hI hG (ym0 hY) cf8 3 1 rfl (by decide) kf_X8_7 dX8_storm_52 ?_
                refine x_iload E dX8_storm_55 (lv_at hl 0 rfl) ?_
                refine x_iald E hI hG (ym1 hY) (V (bN + 1) (y * wd + x)) (by show sp V (bN + 1) (cutF wd (V (bN + 1)) k (y * wd + x)) (bN + 1) _ = _; rw [sp_s]; exact cutF_i) (by omega) dX8_storm_57 ?_
                refine x_iload E dX8_storm_58 (lv_at hl 5 rfl) ?_
                refine x_icmp_ge E 73 dX8_storm_60 (by decide) (by unfold rg; omega) (by unfold rg; omega) (fun c60 => ?_) (fun c60 => ?_)
                · refine x_iload E dX8_storm_73 (lv_at hl 5 rfl) ?_
                  exact L75_3 lf (by omega) _ _ _ hG hS (lv_sub hl [1, 2, 3, 4, 5, 6, 0] rfl)
                · refine x_aload_n E dX8_storm_63 (lv_at hl 1 rfl) ?_
                  refine x_getr E hI hG (ym0 hY) cf8 3 1 rfl (by decide) kf_X8_7 dX8_storm_64 ?_
                  refine x_iload E dX8_storm_67 (lv_at hl 0 rfl) ?_
                  refine x_iald E hI hG (ym1 hY) (V (bN + 1) (y * wd + x)) (by show sp V (bN + 1) (cutF wd (V (bN + 1)) k (y * wd + x)) (bN + 1) _ = _; rw [sp_s]; exact cutF_i) (by omega) dX8_storm_69 ?_
                  refine x_goto E 75 dX8_storm_70 (by decide) ?_
                  exact L75_3 (V (bN + 1) (y * wd + x)) (by omega) _ _ _ hG hS (lv_sub hl [1, 2, 3, 4, 5, 6, 0] rfl)
          exact L31_2 _ 0 a k (by omega) (by omega) (by rw [Int.add_zero]; exact ea) (fun _ => by rw [Int.add_zero]; exact (lfr_row y0 (by omega)).symm) (Nat.lt_succ_self _) _ _ _ hG hS (lv_sub hl [2, 3, 4, 5, 1, 0] rfl)
    exact L17_1 _ 0 0 (by omega) (by omega) (by simp [su]) (Nat.lt_succ_self _) _ _ _ hG hS (lv_sub hl [2, 3, 1, 0] rfl)
  · have q8 := b01_iff0.mp c8
    refine x_iconst E dX8_storm_11 ?_
    exact r_i E hQ hG hS dX8_storm_12 (by rw [if_neg q8]; exact ⟨rfl, MR.mk hL hf⟩)

theorem MU.fld {U U1 : Mem} {n : Nat} {wd hi : Int} (h : MU U n wd hi) (e : ∀ k : Int, k ≤ 2 → U1 0 k = U 0 k) : MU U1 n wd hi := by
  unfold MU; rw [e 0 (by decide), e 1 (by decide), e 2 (by decide)]; exact h
theorem WR.at {U U1 V : Mem} {b : Nat} (h : WR U V b) (h1 : U1 9 = U 9) (h2 : U1 10 = U 10) : WR U1 V b := by
  unfold WR; rw [h1, h2]; exact h
theorem KP.rows {U U1 V : Mem} {a : Nat} {q : Int} (h : KP U V a q) (e : ∀ p, 21 ≤ p → p ≤ 24 → U1 p = U p) : KP U1 V a q := h.at (fun k _ _ => by rw [e 21 (by decide) (by decide)]) (fun k _ _ => by rw [e 22 (by decide) (by decide)]) (fun k _ _ => by rw [e 23 (by decide) (by decide)]) (fun k _ _ => by rw [e 24 (by decide) (by decide)])
theorem Rl.work {V U : Mem} {n : Nat} {wd hi : Int} (h : Rl V U n wd hi) (k c v d : Int) : Rl (wkM k c v d V) (st (st (st (st (st U 14 (V 50 4) k) 15 (V 50 4) c) 16 (V 50 4) v) 17 (V 50 4) d) 0 33 (V 50 4 + 1)) n wd hi := by
  obtain ⟨hU, h2, h3, h4, h5, h6, h7, ⟨w0, w1, w2, w3, w4⟩, f0, f1, f2, f3⟩ := h
  have e1 := bN3
  have e2 := bM17
  have eV : ∀ p, p < 50 ∨ 54 < p → wkM k c v d V p = V p := fun p hp => by unfold wkM; rw [st_p (by omega), st_p (by omega), st_p (by omega), st_p (by omega), st_p (by omega)]
  refine ⟨hU.fld (fun j hj => by rw [st_k (by omega), st_p (by decide), st_p (by decide), st_p (by decide), st_p (by decide)]), (h2.at (by rw [st_p (by decide), st_p (by decide), st_p (by decide), st_p (by decide), st_p (by decide)]) (by rw [st_p (by decide), st_p (by decide), st_p (by decide), st_p (by decide), st_p (by decide)])).of (by rw [eV _ (by omega)]) (eV _ (by omega)) (eV _ (by omega)), (h3.rows (fun p p0 p1 => by rw [st_p (by omega), st_p (by omega), st_p (by omega), st_p (by omega), st_p (by omega)])).of (fun p _ _ => eV p (by omega)), ?_, ?_, ?_, ?_, ⟨?_, ?_, ?_, ?_, ?_⟩, ?_, ?_, ?_, ?_⟩
  · rw [st_p (by decide), st_p (by decide), st_p (by decide), st_p (by decide), st_p (by decide), eV _ (by decide)]; exact h4
  · rw [st_k (by decide), st_p (by decide), st_p (by decide), st_p (by decide), st_p (by decide), eV _ (by decide)]; exact h5
  · rw [st_k (by decide), st_p (by decide), st_p (by decide), st_p (by decide), st_p (by decide), eV _ (by decide)]; exact h6
  · rw [st_k (by decide), st_p (by decide), st_p (by decide), st_p (by decide), st_p (by decide), eV _ (by decide)]; exact h7
  · unfold wkM; rw [st_s, st_s]
  · unfold wkM; rw [st_p (by decide), st_p (by decide), st_p (by decide), st_p (by decide), st_ui, st_p (by decide), st_p (by decide), st_p (by decide), st_p (by decide), st_ui, w1]
  · unfold wkM; rw [st_p (by decide), st_p (by decide), st_p (by decide), st_ui, st_p (by decide), st_p (by decide), st_p (by decide), st_p (by decide), st_ui, st_p (by decide), w2]
  · unfold wkM; rw [st_p (by decide), st_p (by decide), st_ui, st_p (by decide), st_p (by decide), st_p (by decide), st_p (by decide), st_ui, st_p (by decide), st_p (by decide), w3]
  · unfold wkM; rw [st_p (by decide), st_ui, st_p (by decide), st_p (by decide), st_p (by decide), st_p (by decide), st_ui, st_p (by decide), st_p (by decide), st_p (by decide), w4]
  · rw [st_k (by decide), st_p (by decide), st_p (by decide), st_p (by decide), st_p (by decide), eV _ (by decide)]; exact f0
  · rw [st_p (by decide), st_p (by decide), st_p (by decide), st_p (by decide), st_p (by decide), eV _ (by decide)]; exact f1
  · rw [st_p (by decide), st_p (by decide), st_p (by decide), st_p (by decide), st_p (by decide), eV _ (by decide)]; exact f2
  · rw [st_p (by decide), st_p (by decide), st_p (by decide), st_p (by decide), st_p (by decide), eV _ (by decide)]; exact f3
theorem Rl.fly {V U : Mem} {n : Nat} {wd hi : Int} (h : Rl V U n wd hi) (c v d : Int) : Rl (flM c v d V) (st (st (st (st U 18 (V 55 3) c) 19 (V 55 3) v) 20 (V 55 3) d) 0 38 (V 55 3 + 1)) n wd hi := by
  obtain ⟨hU, h2, h3, h4, h5, h6, h7, ⟨w0, w1, w2, w3, w4⟩, f0, f1, f2, f3⟩ := h
  have e1 := bN3
  have e2 := bM17
  have eV : ∀ p, p < 55 → flM c v d V p = V p := fun p hp => by unfold flM; rw [st_p (by omega), st_p (by omega), st_p (by omega), st_p (by omega)]
  refine ⟨hU.fld (fun j hj => by rw [st_k (by omega), st_p (by decide), st_p (by decide), st_p (by decide)]), (h2.at (by rw [st_p (by decide), st_p (by decide), st_p (by decide), st_p (by decide)]) (by rw [st_p (by decide), st_p (by decide), st_p (by decide), st_p (by decide)])).of (by rw [eV _ (by omega)]) (eV _ (by omega)) (eV _ (by omega)), (h3.rows (fun p p0 p1 => by rw [st_p (by omega), st_p (by omega), st_p (by omega), st_p (by omega)])).of (fun p _ _ => eV p (by omega)), ?_, ?_, ?_, ?_, ⟨?_, ?_, ?_, ?_, ?_⟩, ?_, ?_, ?_, ?_⟩
  · rw [st_p (by decide), st_p (by decide), st_p (by decide), st_p (by decide), eV _ (by decide)]; exact h4
  · rw [st_k (by decide), st_p (by decide), st_p (by decide), st_p (by decide), eV _ (by decide)]; exact h5
  · rw [st_k (by decide), st_p (by decide), st_p (by decide), st_p (by decide), eV _ (by decide)]; exact h6
  · rw [st_k (by decide), st_p (by decide), st_p (by decide), st_p (by decide), eV _ (by decide)]; exact h7
  · rw [st_k (by decide), st_p (by decide), st_p (by decide), st_p (by decide), eV _ (by decide)]; exact w0
  · rw [st_p (by decide), st_p (by decide), st_p (by decide), st_p (by decide), eV _ (by decide)]; exact w1
  · rw [st_p (by decide), st_p (by decide), st_p (by decide), st_p (by decide), eV _ (by decide)]; exact w2
  · rw [st_p (by decide), st_p (by decide), st_p (by decide), st_p (by decide), eV _ (by decide)]; exact w3
  · rw [st_p (by decide), st_p (by decide), st_p (by decide), st_p (by decide), eV _ (by decide)]; exact w4
  · unfold flM; rw [st_s, st_s]
  · unfold flM; rw [st_p (by decide), st_p (by decide), st_p (by decide), st_ui, st_p (by decide), st_p (by decide), st_p (by decide), st_ui, f1]
  · unfold flM; rw [st_p (by decide), st_p (by decide), st_ui, st_p (by decide), st_p (by decide), st_p (by decide), st_ui, st_p (by decide), f2]
  · unfold flM; rw [st_p (by decide), st_ui, st_p (by decide), st_p (by decide), st_p (by decide), st_ui, st_p (by decide), st_p (by decide), f3]
theorem Rl.w0 {V U : Mem} {n : Nat} {wd hi : Int} (h : Rl V U n wd hi) : Rl (st V 50 4 0) (st U 0 33 0) n wd hi := by
  obtain ⟨hU, h2, h3, h4, h5, h6, h7, ⟨w0, w1, w2, w3, w4⟩, f0, f1, f2, f3⟩ := h
  have e1 := bN3
  have e2 := bM17
  refine ⟨hU.fld (fun j hj => st_k (by omega)), (h2.at (st_p (by decide)) (st_p (by decide))).of (by rw [st_p (by omega)]) (st_p (by omega)) (st_p (by omega)), (h3.rows (fun p p0 p1 => st_p (by omega))).of (fun p _ _ => st_p (by omega)), ?_, ?_, ?_, ?_, ⟨?_, ?_, ?_, ?_, ?_⟩, ?_, ?_, ?_, ?_⟩
  · rw [st_p (by decide), st_p (by decide)]; exact h4
  · rw [st_k (by decide), st_p (by decide)]; exact h5
  · rw [st_k (by decide), st_p (by decide)]; exact h6
  · rw [st_k (by decide), st_p (by decide)]; exact h7
  · rw [st_s, st_s]
  · rw [st_p (by decide), st_p (by decide)]; exact w1
  · rw [st_p (by decide), st_p (by decide)]; exact w2
  · rw [st_p (by decide), st_p (by decide)]; exact w3
  · rw [st_p (by decide), st_p (by decide)]; exact w4
  · rw [st_k (by decide), st_p (by decide)]; exact f0
  · rw [st_p (by decide), st_p (by decide)]; exact f1
  · rw [st_p (by decide), st_p (by decide)]; exact f2
  · rw [st_p (by decide), st_p (by decide)]; exact f3

set_option maxHeartbeats 4000000 in
set_option maxRecDepth 100000 in
theorem c_X8_work (l : Launch) {X : We} (hY : isY X) {n : Nat} {wd hi : Int} (V U : Mem) (f : Int → Int) (g : Int) (hL : Rl V U n wd hi) (hf : bo f) (hk : XI V n wd hi) (k c v d : Int) (h0 : rg k) (h1 : rg c) (h2 : rg v) (h3 : rg d) : Mt l X (pk V bN U f g) yX8_work cX8_work 5 (some .int) 2 43 [.ref (wa X 0), .int (jI k), .int (jI c), .int (jI v), .int (jI d)] (Qi X (fun z W1 => if (0 ≤ k ∧ k ≤ 2) ∧ (0 ≤ c ∧ c < (n : Int)) ∧ (1 ≤ v ∧ v ≤ 99) ∧ (0 ≤ d ∧ d ≤ 999) ∧ V 50 4 < 4 then z = V 50 4 ∧ MR (wkM k c v d V) W1 n wd hi else z = -1 ∧ MR V W1 n wd hi)) := by
  refine Mt.go (by decide) (Nat.le_of_ble_eq_true rfl) ?_
  intro pg ev s0 mi bl mt cd ls Rm ag Qq hR hQ E hI hG hS hl
  have hl : lv_has ls 5 [(0, .ref (wa X 0)), (1, .int (jI k)), (2, .int (jI c)), (3, .int (jI v)), (4, .int (jI d))] := hl
  obtain ⟨hU, hWR, hKP, e11, e22, e29, e30, ⟨e33, e14, e15, e16, e17⟩, e38, e18, e19, e20⟩ := id hL
  obtain ⟨iN, iM, zT, hTP, hWK, hFL⟩ := id hk
  have hd := hU.2.2.2
  obtain ⟨hn1, hn2⟩ := dims.n hd
  have dyN := iN.2.2.2
  have dyM := iM.2.2.2
  have eN := bN3
  unfold rg at h0 h1 h2 h3
  have hw4 := hWK.1
  have L47_1 : (¬ ((0 ≤ k ∧ k ≤ 2) ∧ (0 ≤ c ∧ c < (n : Int)) ∧ (1 ≤ v ∧ v ≤ 99) ∧ (0 ≤ d ∧ d ≤ 999) ∧ V 50 4 < 4)) → ∀ (H : Heap) (locs : List Loc) (ls : Array Slot), GW X (pk V bN U f g) H → va_S (wA X) s0.heap H locs → lv_has ls 5 [] → W pg l ev Rm s0 mi ag bl mt cd H locs 0 0 Qq (F0 mi 47 ls []) := by
    intro  hno H locs ls hG hS hl
    refine x_iconst E dX8_work_47 ?_
    exact r_i E hQ hG hS dX8_work_48 (by rw [if_neg hno]; exact ⟨rfl, MR.mk hL hf⟩)
  refine x_iload_n E dX8_work_0 (lv_at hl 1 rfl) ?_
  refine x_iconst E dX8_work_1 ?_
  refine x_iconst E dX8_work_2 ?_
  refine x_ci hG hS (x_runS E hI hG hS (c_X8_in l (pk V bN U f g) k 0 2 (by unfold rg; omega) (by unfold rg; omega) (by unfold rg; omega)) mf_X8_in km_X8_110 rfl hl rfl (Nat.le_of_ble_eq_true rfl) (by rw [hR]; exact ⟨Nat.le_of_ble_eq_true rfl, Nat.le_of_ble_eq_true rfl⟩) ⟨Nat.zero_le _, Nat.zero_le _⟩ dX8_work_3) (fun z1 V1 H locs hp hG hS => ?_)
  obtain ⟨ez, eV⟩ := hp
  rw [eV] at hG
  rw [ez]
  refine x_if_eq E 47 dX8_work_6 (by decide) b01_rg (fun c6 => ?_) (fun c6 => ?_)
  · have q6 := b01_iff0.mp c6
    exact L47_1  (by omega) _ _ _ hG hS (lv_sub hl [] rfl)
  · have q6 := b01_ne c6
    refine x_aload_n E dX8_work_9 (lv_at hl 0 rfl) ?_
    refine x_iload_n E dX8_work_10 (lv_at hl 2 rfl) ?_
    refine x_ci hG hS (x_runV E hI hG hS (ym0 hY) cf8 rfl (c_X8_isCell l hY (pk V bN U f g) hU.2.2.1 hn2 c (by unfold rg; omega)) mf_X8_isCell km_X8_153 rfl hl rfl (Nat.le_of_ble_eq_true rfl) (by rw [hR]; exact ⟨Nat.le_of_ble_eq_true rfl, Nat.le_of_ble_eq_true rfl⟩) ⟨Nat.zero_le _, Nat.zero_le _⟩ dX8_work_11) (fun z1 V1 H locs hp hG hS => ?_)
    obtain ⟨ez, eV⟩ := hp
    rw [eV] at hG
    rw [ez]
    refine x_if_eq E 47 dX8_work_14 (by decide) b01_rg (fun c14 => ?_) (fun c14 => ?_)
    · have q14 := b01_iff0.mp c14
      exact L47_1  (by omega) _ _ _ hG hS (lv_sub hl [] rfl)
    · have q14 := b01_ne c14
      refine x_iload_n E dX8_work_17 (lv_at hl 3 rfl) ?_
      refine x_iconst E dX8_work_18 ?_
      refine x_bipush E dX8_work_19 (by decide) ?_
      refine x_ci hG hS (x_runS E hI hG hS (c_X8_in l (pk V bN U f g) v 1 99 (by unfold rg; omega) (by unfold rg; omega) (by unfold rg; omega)) mf_X8_in km_X8_110 rfl hl rfl (Nat.le_of_ble_eq_true rfl) (by rw [hR]; exact ⟨Nat.le_of_ble_eq_true rfl, Nat.le_of_ble_eq_true rfl⟩) ⟨Nat.zero_le _, Nat.zero_le _⟩ dX8_work_21) (fun z1 V1 H locs hp hG hS => ?_)
      obtain ⟨ez, eV⟩ := hp
      rw [eV] at hG
      rw [ez]
      refine x_if_eq E 47 dX8_work_24 (by decide) b01_rg (fun c24 => ?_) (fun c24 => ?_)
      · have q24 := b01_iff0.mp c24
        exact L47_1  (by omega) _ _ _ hG hS (lv_sub hl [] rfl)
      · have q24 := b01_ne c24
        refine x_iload E dX8_work_27 (lv_at hl 4 rfl) ?_
        refine x_iconst E dX8_work_29 ?_
        refine x_sipush E dX8_work_30 (by decide) ?_
        refine x_ci hG hS (x_runS E hI hG hS (c_X8_in l (pk V bN U f g) d 0 999 (by unfold rg; omega) (by unfold rg; omega) (by unfold rg; omega)) mf_X8_in km_X8_110 rfl hl rfl (Nat.le_of_ble_eq_true rfl) (by rw [hR]; exact ⟨Nat.le_of_ble_eq_true rfl, Nat.le_of_ble_eq_true rfl⟩) ⟨Nat.zero_le _, Nat.zero_le _⟩ dX8_work_33) (fun z1 V1 H locs hp hG hS => ?_)
        obtain ⟨ez, eV⟩ := hp
        rw [eV] at hG
        rw [ez]
        refine x_if_eq E 47 dX8_work_36 (by decide) b01_rg (fun c36 => ?_) (fun c36 => ?_)
        · have q36 := b01_iff0.mp c36
          exact L47_1  (by omega) _ _ _ hG hS (lv_sub hl [] rfl)
        · have q36 := b01_ne c36
          refine x_aload_n E dX8_work_39 (lv_at hl 0 rfl) ?_
          refine x_geti E hI hG (ym0 hY) cf8 33 (V 50 4) rfl (by decide) (show (pk V bN U f g) 0 33 = V 50 4 from e33) kf_X8_243 dX8_work_40 ?_
          refine x_iconst E dX8_work_43 ?_
          refine x_icmp_ne E 49 dX8_work_44 (by decide) (by unfold rg; omega) (by unfold rg; omega) (fun c44 => ?_) (fun c44 => ?_)
          · refine x_aload_n E dX8_work_49 (lv_at hl 0 rfl) ?_
            refine x_getr E hI hG (ym0 hY) cf8 34 14 rfl (by decide) kf_X8_60 dX8_work_50 ?_
            refine x_aload_n E dX8_work_53 (lv_at hl 0 rfl) ?_
            refine x_geti E hI hG (ym0 hY) cf8 33 (V 50 4) rfl (by decide) (show (pk V bN U f g) 0 33 = V 50 4 from e33) kf_X8_243 dX8_work_54 ?_
            refine x_iload_n E dX8_work_57 (lv_at hl 1 rfl) ?_
            refine x_iast E hI hG hS (ym14 hY) (by omega) dX8_work_58 (fun H locs hG hS => ?_)
            rw [show (st (pk V bN U f g) 14 (V 50 4) k) = (pk V bN (st U 14 (V 50 4) k) f g) from pk_a (by decide) _ _] at hG
            refine x_aload_n E dX8_work_59 (lv_at hl 0 rfl) ?_
            refine x_getr E hI hG (ym0 hY) cf8 35 15 rfl (by decide) kf_X8_63 dX8_work_60 ?_
            refine x_aload_n E dX8_work_63 (lv_at hl 0 rfl) ?_
            refine x_geti E hI hG (ym0 hY) cf8 33 (V 50 4) rfl (by decide) (show (pk V bN (st U 14 (V 50 4) k) f g) 0 33 = V 50 4 from (by show (st U 14 (V 50 4) k) 0 33 = _; rw [st_p (by decide), e33])) kf_X8_243 dX8_work_64 ?_
            refine x_iload_n E dX8_work_67 (lv_at hl 2 rfl) ?_
            refine x_iast E hI hG hS (ym15 hY) (by omega) dX8_work_68 (fun H locs hG hS => ?_)
            rw [show (st (pk V bN (st U 14 (V 50 4) k) f g) 15 (V 50 4) c) = (pk V bN (st (st U 14 (V 50 4) k) 15 (V 50 4) c) f g) from pk_a (by decide) _ _] at hG
            refine x_aload_n E dX8_work_69 (lv_at hl 0 rfl) ?_
            refine x_getr E hI hG (ym0 hY) cf8 36 16 rfl (by decide) kf_X8_66 dX8_work_70 ?_
            refine x_aload_n E dX8_work_73 (lv_at hl 0 rfl) ?_
            refine x_geti E hI hG (ym0 hY) cf8 33 (V 50 4) rfl (by decide) (show (pk V bN (st (st U 14 (V 50 4) k) 15 (V 50 4) c) f g) 0 33 = V 50 4 from (by show (st (st U 14 (V 50 4) k) 15 (V 50 4) c) 0 33 = _; rw [st_p (by decide), st_p (by decide), e33])) kf_X8_243 dX8_work_74 ?_
            refine x_iload_n E dX8_work_77 (lv_at hl 3 rfl) ?_
            refine x_iast E hI hG hS (ym16 hY) (by omega) dX8_work_78 (fun H locs hG hS => ?_)
            rw [show (st (pk V bN (st (st U 14 (V 50 4) k) 15 (V 50 4) c) f g) 16 (V 50 4) v) = (pk V bN (st (st (st U 14 (V 50 4) k) 15 (V 50 4) c) 16 (V 50 4) v) f g) from pk_a (by decide) _ _] at hG
            refine x_aload_n E dX8_work_79 (lv_at hl 0 rfl) ?_
            refine x_getr E hI hG (ym0 hY) cf8 37 17 rfl (by decide) kf_X8_69 dX8_work_80 ?_
            refine x_aload_n E dX8_work_83 (lv_at hl 0 rfl) ?_
            refine x_geti E hI hG (ym0 hY) cf8 33 (V 50 4) rfl (by decide) (show (pk V bN (st (st (st U 14 (V 50 4) k) 15 (V 50 4) c) 16 (V 50 4) v) f g) 0 33 = V 50 4 from (by show (st (st (st U 14 (V 50 4) k) 15 (V 50 4) c) 16 (V 50 4) v) 0 33 = _; rw [st_p (by decide), st_p (by decide), st_p (by decide), e33])) kf_X8_243 dX8_work_84 ?_
            refine x_iload E dX8_work_87 (lv_at hl 4 rfl) ?_
            refine x_iast E hI hG hS (ym17 hY) (by omega) dX8_work_89 (fun H locs hG hS => ?_)
            rw [show (st (pk V bN (st (st (st U 14 (V 50 4) k) 15 (V 50 4) c) 16 (V 50 4) v) f g) 17 (V 50 4) d) = (pk V bN (st (st (st (st U 14 (V 50 4) k) 15 (V 50 4) c) 16 (V 50 4) v) 17 (V 50 4) d) f g) from pk_a (by decide) _ _] at hG
            refine x_aload_n E dX8_work_90 (lv_at hl 0 rfl) ?_
            refine x_dup E dX8_work_91 rfl ?_
            refine x_geti E hI hG (ym0 hY) cf8 33 (V 50 4) rfl (by decide) (show (pk V bN (st (st (st (st U 14 (V 50 4) k) 15 (V 50 4) c) 16 (V 50 4) v) 17 (V 50 4) d) f g) 0 33 = V 50 4 from (by show (st (st (st (st U 14 (V 50 4) k) 15 (V 50 4) c) 16 (V 50 4) v) 17 (V 50 4) d) 0 33 = _; rw [st_p (by decide), st_p (by decide), st_p (by decide), st_p (by decide), e33])) kf_X8_243 dX8_work_92 ?_
            refine x_iconst E dX8_work_95 ?_
            refine x_iadd E dX8_work_96 ?_
            refine x_puti E hI hG hS (ym0 hY) cf8 33 33 rfl rfl (by decide) rfl rfl kf_X8_243 dX8_work_97 (fun H locs hG hS => ?_)
            rw [show (st (pk V bN (st (st (st (st U 14 (V 50 4) k) 15 (V 50 4) c) 16 (V 50 4) v) 17 (V 50 4) d) f g) 0 33 ((V 50 4) + 1)) = (pk V bN (st (st (st (st (st U 14 (V 50 4) k) 15 (V 50 4) c) 16 (V 50 4) v) 17 (V 50 4) d) 0 33 ((V 50 4) + 1)) f g) from pk_o (by decide) _] at hG
            refine x_aload_n E dX8_work_100 (lv_at hl 0 rfl) ?_
            refine x_geti E hI hG (ym0 hY) cf8 33 (V 50 4 + 1) rfl (by decide) (show (pk V bN (st (st (st (st (st U 14 (V 50 4) k) 15 (V 50 4) c) 16 (V 50 4) v) 17 (V 50 4) d) 0 33 ((V 50 4) + 1)) f g) 0 33 = V 50 4 + 1 from (by show (st (st (st (st (st U 14 (V 50 4) k) 15 (V 50 4) c) 16 (V 50 4) v) 17 (V 50 4) d) 0 33 (V 50 4 + 1)) 0 33 = _; exact st_s _ _ _ _)) kf_X8_243 dX8_work_101 ?_
            refine x_iconst E dX8_work_104 ?_
            refine x_isub E dX8_work_105 ?_
            refine x_topeq (V 50 4) (by omega) ?_
            exact r_i E hQ hG hS dX8_work_106 (by rw [if_pos (by omega)]; exact ⟨rfl, MR.mk2 (fun p _ _ => by unfold wkM; rw [st_p (by omega), st_p (by omega), st_p (by omega), st_p (by omega), st_p (by omega)]) (hL.work k c v d) hf⟩)
          · exact L47_1  (by omega) _ _ _ hG hS (lv_sub hl [] rfl)

set_option maxHeartbeats 4000000 in
set_option maxRecDepth 100000 in
theorem c_X8_drop (l : Launch) {X : We} (hY : isY X) {n : Nat} {wd hi : Int} (V U : Mem) (f : Int → Int) (g : Int) (hL : Rl V U n wd hi) (hf : bo f) (hk : XI V n wd hi) : Mt l X (pk V bN U f g) yX8_drop cX8_drop 2 (some .int) 0 0 [.ref (wa X 0)] (Qi X (fun z W1 => z = V 50 4 ∧ MR (st V 50 4 0) W1 n wd hi)) := by
  refine Mt.go (by decide) (Nat.le_of_ble_eq_true rfl) ?_
  intro pg ev s0 mi bl mt cd ls Rm ag Qq hR hQ E hI hG hS hl
  have hl : lv_has ls 2 [(0, .ref (wa X 0))] := hl
  obtain ⟨hU, hWR, hKP, e11, e22, e29, e30, ⟨e33, e14, e15, e16, e17⟩, e38, e18, e19, e20⟩ := id hL
  obtain ⟨iN, iM, zT, hTP, hWK, hFL⟩ := id hk
  have hd := hU.2.2.2
  obtain ⟨hn1, hn2⟩ := dims.n hd
  have dyN := iN.2.2.2
  have dyM := iM.2.2.2
  have eN := bN3
  refine x_aload_n E dX8_drop_0 (lv_at hl 0 rfl) ?_
  refine x_geti E hI hG (ym0 hY) cf8 33 (V 50 4) rfl (by decide) (show (pk V bN U f g) 0 33 = V 50 4 from e33) kf_X8_243 dX8_drop_1 ?_
  refine x_istore_n E [(1, .int (jI (V 50 4))), (0, .ref (wa X 0))] dX8_drop_4 hl (by decide) rfl (fun ls hl => ?_)
  refine x_aload_n E dX8_drop_5 (lv_at hl 1 rfl) ?_
  refine x_iconst E dX8_drop_6 ?_
  refine x_puti E hI hG hS (ym0 hY) cf8 33 33 rfl rfl (by decide) rfl rfl kf_X8_243 dX8_drop_7 (fun H locs hG hS => ?_)
  rw [show (st (pk V bN U f g) 0 33 0) = (pk V bN (st U 0 33 0) f g) from pk_o (by decide) _] at hG
  refine x_iload_n E dX8_drop_10 (lv_at hl 0 rfl) ?_
  exact r_i E hQ hG hS dX8_drop_11 (⟨rfl, MR.mk2 (fun p _ _ => st_p (by omega)) hL.w0 hf⟩)

set_option maxHeartbeats 4000000 in
set_option maxRecDepth 100000 in
theorem c_X8_flight (l : Launch) {X : We} (hY : isY X) {n : Nat} {wd hi : Int} (V U : Mem) (f : Int → Int) (g : Int) (hL : Rl V U n wd hi) (hf : bo f) (hk : XI V n wd hi) (c v d : Int) (h1 : rg c) (h2 : rg v) (h3 : rg d) : Mt l X (pk V bN U f g) yX8_flight cX8_flight 4 (some .int) 2 43 [.ref (wa X 0), .int (jI c), .int (jI v), .int (jI d)] (Qi X (fun z W1 => if (0 ≤ c ∧ c < (n : Int)) ∧ (0 ≤ v ∧ v ≤ 9999) ∧ (0 ≤ d ∧ d ≤ 9) ∧ V 55 3 < 20 then z = V 55 3 + 1 ∧ MR (flM c v d V) W1 n wd hi else z = -1 ∧ MR V W1 n wd hi)) := by
  refine Mt.go (by decide) (Nat.le_of_ble_eq_true rfl) ?_
  intro pg ev s0 mi bl mt cd ls Rm ag Qq hR hQ E hI hG hS hl
  have hl : lv_has ls 4 [(0, .ref (wa X 0)), (1, .int (jI c)), (2, .int (jI v)), (3, .int (jI d))] := hl
  obtain ⟨hU, hWR, hKP, e11, e22, e29, e30, ⟨e33, e14, e15, e16, e17⟩, e38, e18, e19, e20⟩ := id hL
  obtain ⟨iN, iM, zT, hTP, hWK, hFL⟩ := id hk
  have hd := hU.2.2.2
  obtain ⟨hn1, hn2⟩ := dims.n hd
  have dyN := iN.2.2.2
  have dyM := iM.2.2.2
  have eN := bN3
  unfold rg at h1 h2 h3
  have hw4 := hFL.1
  have L38_1 : (¬ ((0 ≤ c ∧ c < (n : Int)) ∧ (0 ≤ v ∧ v ≤ 9999) ∧ (0 ≤ d ∧ d ≤ 9) ∧ V 55 3 < 20)) → ∀ (H : Heap) (locs : List Loc) (ls : Array Slot), GW X (pk V bN U f g) H → va_S (wA X) s0.heap H locs → lv_has ls 4 [] → W pg l ev Rm s0 mi ag bl mt cd H locs 0 0 Qq (F0 mi 38 ls []) := by
    intro  hno H locs ls hG hS hl
    refine x_iconst E dX8_flight_38 ?_
    exact r_i E hQ hG hS dX8_flight_39 (by rw [if_neg hno]; exact ⟨rfl, MR.mk hL hf⟩)
  refine x_aload_n E dX8_flight_0 (lv_at hl 0 rfl) ?_
  refine x_iload_n E dX8_flight_1 (lv_at hl 1 rfl) ?_
  refine x_ci hG hS (x_runV E hI hG hS (ym0 hY) cf8 rfl (c_X8_isCell l hY (pk V bN U f g) hU.2.2.1 hn2 c (by unfold rg; omega)) mf_X8_isCell km_X8_153 rfl hl rfl (Nat.le_of_ble_eq_true rfl) (by rw [hR]; exact ⟨Nat.le_of_ble_eq_true rfl, Nat.le_of_ble_eq_true rfl⟩) ⟨Nat.zero_le _, Nat.zero_le _⟩ dX8_flight_2) (fun z1 V1 H locs hp hG hS => ?_)
  obtain ⟨ez, eV⟩ := hp
  rw [eV] at hG
  rw [ez]
  refine x_if_eq E 38 dX8_flight_5 (by decide) b01_rg (fun c5 => ?_) (fun c5 => ?_)
  · have q5 := b01_iff0.mp c5
    exact L38_1  (by omega) _ _ _ hG hS (lv_sub hl [] rfl)
  · have q5 := b01_ne c5
    refine x_iload_n E dX8_flight_8 (lv_at hl 2 rfl) ?_
    refine x_iconst E dX8_flight_9 ?_
    refine x_sipush E dX8_flight_10 (by decide) ?_
    refine x_ci hG hS (x_runS E hI hG hS (c_X8_in l (pk V bN U f g) v 0 9999 (by unfold rg; omega) (by unfold rg; omega) (by unfold rg; omega)) mf_X8_in km_X8_110 rfl hl rfl (Nat.le_of_ble_eq_true rfl) (by rw [hR]; exact ⟨Nat.le_of_ble_eq_true rfl, Nat.le_of_ble_eq_true rfl⟩) ⟨Nat.zero_le _, Nat.zero_le _⟩ dX8_flight_13) (fun z1 V1 H locs hp hG hS => ?_)
    obtain ⟨ez, eV⟩ := hp
    rw [eV] at hG
    rw [ez]
    refine x_if_eq E 38 dX8_flight_16 (by decide) b01_rg (fun c16 => ?_) (fun c16 => ?_)
    · have q16 := b01_iff0.mp c16
      exact L38_1  (by omega) _ _ _ hG hS (lv_sub hl [] rfl)
    · have q16 := b01_ne c16
      refine x_iload_n E dX8_flight_19 (lv_at hl 3 rfl) ?_
      refine x_iconst E dX8_flight_20 ?_
      refine x_bipush E dX8_flight_21 (by decide) ?_
      refine x_ci hG hS (x_runS E hI hG hS (c_X8_in l (pk V bN U f g) d 0 9 (by unfold rg; omega) (by unfold rg; omega) (by unfold rg; omega)) mf_X8_in km_X8_110 rfl hl rfl (Nat.le_of_ble_eq_true rfl) (by rw [hR]; exact ⟨Nat.le_of_ble_eq_true rfl, Nat.le_of_ble_eq_true rfl⟩) ⟨Nat.zero_le _, Nat.zero_le _⟩ dX8_flight_23) (fun z1 V1 H locs hp hG hS => ?_)
      obtain ⟨ez, eV⟩ := hp
      rw [eV] at hG
      rw [ez]
      refine x_if_eq E 38 dX8_flight_26 (by decide) b01_rg (fun c26 => ?_) (fun c26 => ?_)
      · have q26 := b01_iff0.mp c26
        exact L38_1  (by omega) _ _ _ hG hS (lv_sub hl [] rfl)
      · have q26 := b01_ne c26
        refine x_aload_n E dX8_flight_29 (lv_at hl 0 rfl) ?_
        refine x_geti E hI hG (ym0 hY) cf8 38 (V 55 3) rfl (by decide) (show (pk V bN U f g) 0 38 = V 55 3 from e38) kf_X8_261 dX8_flight_30 ?_
        refine x_bipush E dX8_flight_33 (by decide) ?_
        refine x_icmp_ne E 40 dX8_flight_35 (by decide) (by unfold rg; omega) (by unfold rg; omega) (fun c35 => ?_) (fun c35 => ?_)
        · refine x_aload_n E dX8_flight_40 (lv_at hl 0 rfl) ?_
          refine x_getr E hI hG (ym0 hY) cf8 39 18 rfl (by decide) kf_X8_72 dX8_flight_41 ?_
          refine x_aload_n E dX8_flight_44 (lv_at hl 0 rfl) ?_
          refine x_geti E hI hG (ym0 hY) cf8 38 (V 55 3) rfl (by decide) (show (pk V bN U f g) 0 38 = V 55 3 from e38) kf_X8_261 dX8_flight_45 ?_
          refine x_iload_n E dX8_flight_48 (lv_at hl 1 rfl) ?_
          refine x_iast E hI hG hS (ym18 hY) (by omega) dX8_flight_49 (fun H locs hG hS => ?_)
          rw [show (st (pk V bN U f g) 18 (V 55 3) c) = (pk V bN (st U 18 (V 55 3) c) f g) from pk_a (by decide) _ _] at hG
          refine x_aload_n E dX8_flight_50 (lv_at hl 0 rfl) ?_
          refine x_getr E hI hG (ym0 hY) cf8 40 19 rfl (by decide) kf_X8_75 dX8_flight_51 ?_
          refine x_aload_n E dX8_flight_54 (lv_at hl 0 rfl) ?_
          refine x_geti E hI hG (ym0 hY) cf8 38 (V 55 3) rfl (by decide) (show (pk V bN (st U 18 (V 55 3) c) f g) 0 38 = V 55 3 from (by show (st U 18 (V 55 3) c) 0 38 = _; rw [st_p (by decide), e38])) kf_X8_261 dX8_flight_55 ?_
          refine x_iload_n E dX8_flight_58 (lv_at hl 2 rfl) ?_
          refine x_iast E hI hG hS (ym19 hY) (by omega) dX8_flight_59 (fun H locs hG hS => ?_)
          rw [show (st (pk V bN (st U 18 (V 55 3) c) f g) 19 (V 55 3) v) = (pk V bN (st (st U 18 (V 55 3) c) 19 (V 55 3) v) f g) from pk_a (by decide) _ _] at hG
          refine x_aload_n E dX8_flight_60 (lv_at hl 0 rfl) ?_
          refine x_getr E hI hG (ym0 hY) cf8 41 20 rfl (by decide) kf_X8_78 dX8_flight_61 ?_
          refine x_aload_n E dX8_flight_64 (lv_at hl 0 rfl) ?_
          refine x_geti E hI hG (ym0 hY) cf8 38 (V 55 3) rfl (by decide) (show (pk V bN (st (st U 18 (V 55 3) c) 19 (V 55 3) v) f g) 0 38 = V 55 3 from (by show (st (st U 18 (V 55 3) c) 19 (V 55 3) v) 0 38 = _; rw [st_p (by decide), st_p (by decide), e38])) kf_X8_261 dX8_flight_65 ?_
          refine x_iload_n E dX8_flight_68 (lv_at hl 3 rfl) ?_
          refine x_iast E hI hG hS (ym20 hY) (by omega) dX8_flight_69 (fun H locs hG hS => ?_)
          rw [show (st (pk V bN (st (st U 18 (V 55 3) c) 19 (V 55 3) v) f g) 20 (V 55 3) d) = (pk V bN (st (st (st U 18 (V 55 3) c) 19 (V 55 3) v) 20 (V 55 3) d) f g) from pk_a (by decide) _ _] at hG
          refine x_aload_n E dX8_flight_70 (lv_at hl 0 rfl) ?_
          refine x_dup E dX8_flight_71 rfl ?_
          refine x_geti E hI hG (ym0 hY) cf8 38 (V 55 3) rfl (by decide) (show (pk V bN (st (st (st U 18 (V 55 3) c) 19 (V 55 3) v) 20 (V 55 3) d) f g) 0 38 = V 55 3 from (by show (st (st (st U 18 (V 55 3) c) 19 (V 55 3) v) 20 (V 55 3) d) 0 38 = _; rw [st_p (by decide), st_p (by decide), st_p (by decide), e38])) kf_X8_261 dX8_flight_72 ?_
          refine x_iconst E dX8_flight_75 ?_
          refine x_iadd E dX8_flight_76 ?_
          refine x_puti E hI hG hS (ym0 hY) cf8 38 38 rfl rfl (by decide) rfl rfl kf_X8_261 dX8_flight_77 (fun H locs hG hS => ?_)
          rw [show (st (pk V bN (st (st (st U 18 (V 55 3) c) 19 (V 55 3) v) 20 (V 55 3) d) f g) 0 38 ((V 55 3) + 1)) = (pk V bN (st (st (st (st U 18 (V 55 3) c) 19 (V 55 3) v) 20 (V 55 3) d) 0 38 ((V 55 3) + 1)) f g) from pk_o (by decide) _] at hG
          refine x_aload_n E dX8_flight_80 (lv_at hl 0 rfl) ?_
          refine x_geti E hI hG (ym0 hY) cf8 38 (V 55 3 + 1) rfl (by decide) (show (pk V bN (st (st (st (st U 18 (V 55 3) c) 19 (V 55 3) v) 20 (V 55 3) d) 0 38 ((V 55 3) + 1)) f g) 0 38 = V 55 3 + 1 from (by show (st (st (st (st U 18 (V 55 3) c) 19 (V 55 3) v) 20 (V 55 3) d) 0 38 (V 55 3 + 1)) 0 38 = _; exact st_s _ _ _ _)) kf_X8_261 dX8_flight_81 ?_
          exact r_i E hQ hG hS dX8_flight_84 (by rw [if_pos (by omega)]; exact ⟨rfl, MR.mk2 (fun p _ _ => by unfold flM; rw [st_p (by omega), st_p (by omega), st_p (by omega), st_p (by omega)]) (hL.fly c v d) hf⟩)
        · exact L38_1  (by omega) _ _ _ hG hS (lv_sub hl [] rfl)

set_option maxHeartbeats 4000000 in
set_option maxRecDepth 100000 in
theorem c_X8_about (l : Launch) {X : We} (hY : isY X) {n : Nat} {wd hi : Int} (V U : Mem) (f : Int → Int) (g : Int) (hL : Rl V U n wd hi) (hf : bo f) (hk : XI V n wd hi) (k : Int) (hk2 : rg k) : Mt l X (pk V bN U f g) yX8_about cX8_about 4 (some .int) 1 22 [.ref (wa X 0), .int (jI k)] (Qi X (fun z W1 => z = abF V n wd hi k ∧ MR V W1 n wd hi)) := by
  refine Mt.go (by decide) (Nat.le_of_ble_eq_true rfl) ?_
  intro pg ev s0 mi bl mt cd ls Rm ag Qq hR hQ E hI hG hS hl
  have hl : lv_has ls 4 [(0, .ref (wa X 0)), (1, .int (jI k))] := hl
  obtain ⟨hU, hWR, hKP, e11, e22, e29, e30, ⟨e33, e14, e15, e16, e17⟩, e38, e18, e19, e20⟩ := id hL
  obtain ⟨iN, iM, zT, hTP, hWK, hFL⟩ := id hk
  have hd := hU.2.2.2
  obtain ⟨hn1, hn2⟩ := dims.n hd
  have dyN := iN.2.2.2
  have dyM := iM.2.2.2
  have eN := bN3
  have hk3 := hk2
  unfold rg at hk3
  refine x_iload_n E dX8_about_0 (lv_at hl 1 rfl) ?_
  refine x_bipush E dX8_about_1 (by decide) ?_
  refine x_bipush E dX8_about_3 (by decide) ?_
  refine x_ci hG hS (x_runS E hI hG hS (c_X8_in l (pk V bN U f g) k 20 24 (by unfold rg; omega) (by unfold rg; omega) (by unfold rg; omega)) mf_X8_in km_X8_110 rfl hl rfl (Nat.le_of_ble_eq_true rfl) (by rw [hR]; exact ⟨Nat.le_of_ble_eq_true rfl, Nat.le_of_ble_eq_true rfl⟩) ⟨Nat.zero_le _, Nat.zero_le _⟩ dX8_about_5) (fun z1 V1 H locs hp hG hS => ?_)
  obtain ⟨ez, eV⟩ := hp
  rw [eV] at hG
  rw [ez]
  refine x_if_eq E 21 dX8_about_8 (by decide) b01_rg (fun c8 => ?_) (fun c8 => ?_)
  · have q8 := b01_iff0.mp c8
    refine x_iconst E dX8_about_21 ?_
    refine x_istore_n E [(2, .int (jI 0)), (0, .ref (wa X 0)), (1, .int (jI k))] dX8_about_22 hl (by decide) rfl (fun ls hl => ?_)
    refine x_iconst E dX8_about_23 ?_
    refine x_istore_n E [(3, .int (jI 0)), (2, .int (jI 0)), (0, .ref (wa X 0)), (1, .int (jI k))] dX8_about_24 hl (by decide) rfl (fun ls hl => ?_)
    have L25_1 : ∀ (N : Nat) (i : Int) (a : Int), (0 ≤ i) → (i ≤ (n : Int)) → (a = su i.toNat (V (bN + 1))) → (((n : Int) - i).toNat) < N → ∀ (H : Heap) (locs : List Loc) (ls : Array Slot), GW X (pk V bN U f g) H → va_S (wA X) s0.heap H locs → lv_has ls 4 [(0, .ref (wa X 0)), (1, .int (jI k)), (2, .int (jI a)), (3, .int (jI i))] → W pg l ev Rm s0 mi ag bl mt cd H locs 0 0 Qq (F0 mi 25 ls []) := by
      intro N
      induction N with
      | zero => intro i a i0 i1 ea hN; exact absurd hN (Nat.not_lt_zero _)
      | succ N ih25 =>
        intro i a i0 i1 ea hN H locs ls hG hS hl
        refine x_iload_n E dX8_about_25 (lv_at hl 3 rfl) ?_
        refine x_aload_n E dX8_about_26 (lv_at hl 0 rfl) ?_
        refine x_geti E hI hG (ym0 hY) cf8 2 ((n : Int)) rfl (by decide) (show (pk V bN U f g) 0 2 = (n : Int) from hU.2.2.1) kf_X8_103 dX8_about_27 ?_
        refine x_icmp_ge E 48 dX8_about_30 (by decide) (by unfold rg; omega) (by unfold rg; omega) (fun c30 => ?_) (fun c30 => ?_)
        · refine x_iload_n E dX8_about_48 (lv_at hl 1 rfl) ?_
          rcases (show k = 0 ∨ k = 1 ∨ k = 2 ∨ k = 3 ∨ k = 4 ∨ k = 5 ∨ k = 6 ∨ k = 7 ∨ k = 8 ∨ k = 9 ∨ k = 10 ∨ k = 11 ∨ k = 12 ∨ (k < 0 ∨ 12 < k) by omega) with q | q | q | q | q | q | q | q | q | q | q | q | q | q
          · refine lv_tableIn E.1 E.2.1 dX8_about_49 (by rw [q]; decide) (by rw [q]; decide) (off := 67) (tgt := 116) (by rw [q]; decide) (by decide) ?_
            refine x_aload_n E dX8_about_116 (lv_at hl 0 rfl) ?_
            refine x_geti E hI hG (ym0 hY) cf8 12 (V bN 12) rfl (by decide) rfl kf_X8_115 dX8_about_117 ?_
            exact r_i E hQ hG hS dX8_about_120 (⟨by unfold abF; rw [if_neg q8, if_pos q], MR.mk hL hf⟩)
          · refine lv_tableIn E.1 E.2.1 dX8_about_49 (by rw [q]; decide) (by rw [q]; decide) (off := 72) (tgt := 121) (by rw [q]; decide) (by decide) ?_
            refine x_aload_n E dX8_about_121 (lv_at hl 0 rfl) ?_
            refine x_geti E hI hG (ym0 hY) cf8 0 (wd) rfl (by decide) (show (pk V bN U f g) 0 0 = wd from hU.1) kf_X8_97 dX8_about_122 ?_
            exact r_i E hQ hG hS dX8_about_125 (⟨by unfold abF; rw [if_neg q8, if_neg (by omega), if_pos q], MR.mk hL hf⟩)
          · refine lv_tableIn E.1 E.2.1 dX8_about_49 (by rw [q]; decide) (by rw [q]; decide) (off := 77) (tgt := 126) (by rw [q]; decide) (by decide) ?_
            refine x_aload_n E dX8_about_126 (lv_at hl 0 rfl) ?_
            refine x_geti E hI hG (ym0 hY) cf8 1 (hi) rfl (by decide) (show (pk V bN U f g) 0 1 = hi from hU.2.1) kf_X8_100 dX8_about_127 ?_
            exact r_i E hQ hG hS dX8_about_130 (⟨by unfold abF; rw [if_neg q8, if_neg (by omega), if_neg (by omega), if_pos q], MR.mk hL hf⟩)
          · refine lv_tableIn E.1 E.2.1 dX8_about_49 (by rw [q]; decide) (by rw [q]; decide) (off := 82) (tgt := 131) (by rw [q]; decide) (by decide) ?_
            refine x_iload_n E dX8_about_131 (lv_at hl 2 rfl) ?_
            exact r_i E hQ hG hS dX8_about_132 (⟨by unfold abF; rw [if_neg q8, if_neg (by omega), if_neg (by omega), if_neg (by omega), if_pos q, ea, show i.toNat = n by omega], MR.mk hL hf⟩)
          · refine lv_tableIn E.1 E.2.1 dX8_about_49 (by rw [q]; decide) (by rw [q]; decide) (off := 84) (tgt := 133) (by rw [q]; decide) (by decide) ?_
            refine x_aload_n E dX8_about_133 (lv_at hl 0 rfl) ?_
            refine x_geti E hI hG (ym0 hY) cf8 13 (V bN 13) rfl (by decide) rfl kf_X8_118 dX8_about_134 ?_
            exact r_i E hQ hG hS dX8_about_137 (⟨by unfold abF; rw [if_neg q8, if_neg (by omega), if_neg (by omega), if_neg (by omega), if_neg (by omega), if_pos q], MR.mk hL hf⟩)
          · refine lv_tableIn E.1 E.2.1 dX8_about_49 (by rw [q]; decide) (by rw [q]; decide) (off := 89) (tgt := 138) (by rw [q]; decide) (by decide) ?_
            refine x_aload_n E dX8_about_138 (lv_at hl 0 rfl) ?_
            refine x_geti E hI hG (ym0 hY) cf8 14 (V bN 14) rfl (by decide) rfl kf_X8_121 dX8_about_139 ?_
            exact r_i E hQ hG hS dX8_about_142 (⟨by unfold abF; rw [if_neg q8, if_neg (by omega), if_neg (by omega), if_neg (by omega), if_neg (by omega), if_neg (by omega), if_pos q], MR.mk hL hf⟩)
          · refine lv_tableIn E.1 E.2.1 dX8_about_49 (by rw [q]; decide) (by rw [q]; decide) (off := 94) (tgt := 143) (by rw [q]; decide) (by decide) ?_
            refine x_aload_n E dX8_about_143 (lv_at hl 0 rfl) ?_
            refine x_geti E hI hG (ym0 hY) cf8 15 (V bN 15) rfl (by decide) rfl kf_X8_124 dX8_about_144 ?_
            exact r_i E hQ hG hS dX8_about_147 (⟨by unfold abF; rw [if_neg q8, if_neg (by omega), if_neg (by omega), if_neg (by omega), if_neg (by omega), if_neg (by omega), if_neg (by omega), if_pos q], MR.mk hL hf⟩)
          · refine lv_tableIn E.1 E.2.1 dX8_about_49 (by rw [q]; decide) (by rw [q]; decide) (off := 99) (tgt := 148) (by rw [q]; decide) (by decide) ?_
            refine x_aload_n E dX8_about_148 (lv_at hl 0 rfl) ?_
            refine x_geti E hI hG (ym0 hY) cf8 16 (V (bN + 11) 2) rfl (by decide) rfl kf_X8_133 dX8_about_149 ?_
            exact r_i E hQ hG hS dX8_about_152 (⟨by unfold abF; rw [if_neg q8, if_neg (by omega), if_neg (by omega), if_neg (by omega), if_neg (by omega), if_neg (by omega), if_neg (by omega), if_neg (by omega), if_pos q], MR.mk hL hf⟩)
          · refine lv_tableIn E.1 E.2.1 dX8_about_49 (by rw [q]; decide) (by rw [q]; decide) (off := 104) (tgt := 153) (by rw [q]; decide) (by decide) ?_
            refine x_aload_n E dX8_about_153 (lv_at hl 0 rfl) ?_
            refine x_ci hG hS (x_runV E hI hG hS (ym0 hY) cf8 rfl (c_X8_windNow l hY U V f g iN.2.2.1 hWR) mf_X8_windNow km_X8_227 rfl hl rfl (Nat.le_of_ble_eq_true rfl) (by rw [hR]; exact ⟨Nat.le_of_ble_eq_true rfl, Nat.le_of_ble_eq_true rfl⟩) ⟨Nat.zero_le _, Nat.zero_le _⟩ dX8_about_154) (fun z1 V1 H locs hp hG hS => ?_)
            obtain ⟨ez, eV⟩ := hp
            rw [eV] at hG
            rw [ez]
            exact r_i E hQ hG hS dX8_about_157 (⟨by unfold abF; rw [if_neg q8, if_neg (by omega), if_neg (by omega), if_neg (by omega), if_neg (by omega), if_neg (by omega), if_neg (by omega), if_neg (by omega), if_neg (by omega), if_pos q], MR.mk hL hf⟩)
          · refine lv_tableIn E.1 E.2.1 dX8_about_49 (by rw [q]; decide) (by rw [q]; decide) (off := 109) (tgt := 158) (by rw [q]; decide) (by decide) ?_
            refine x_aload_n E dX8_about_158 (lv_at hl 0 rfl) ?_
            refine x_geti E hI hG (ym0 hY) cf8 22 (V 45 1) rfl (by decide) (show (pk V bN U f g) 0 22 = V 45 1 from e22) kf_X8_162 dX8_about_159 ?_
            exact r_i E hQ hG hS dX8_about_162 (⟨by unfold abF; rw [if_neg q8, if_neg (by omega), if_neg (by omega), if_neg (by omega), if_neg (by omega), if_neg (by omega), if_neg (by omega), if_neg (by omega), if_neg (by omega), if_neg (by omega), if_pos q], MR.mk hL hf⟩)
          · refine lv_tableIn E.1 E.2.1 dX8_about_49 (by rw [q]; decide) (by rw [q]; decide) (off := 114) (tgt := 163) (by rw [q]; decide) (by decide) ?_
            refine x_aload_n E dX8_about_163 (lv_at hl 0 rfl) ?_
            refine x_geti E hI hG (ym0 hY) cf8 33 (V 50 4) rfl (by decide) (show (pk V bN U f g) 0 33 = V 50 4 from e33) kf_X8_243 dX8_about_164 ?_
            exact r_i E hQ hG hS dX8_about_167 (⟨by unfold abF; rw [if_neg q8, if_neg (by omega), if_neg (by omega), if_neg (by omega), if_neg (by omega), if_neg (by omega), if_neg (by omega), if_neg (by omega), if_neg (by omega), if_neg (by omega), if_neg (by omega), if_pos q], MR.mk hL hf⟩)
          · refine lv_tableIn E.1 E.2.1 dX8_about_49 (by rw [q]; decide) (by rw [q]; decide) (off := 119) (tgt := 168) (by rw [q]; decide) (by decide) ?_
            refine x_aload_n E dX8_about_168 (lv_at hl 0 rfl) ?_
            refine x_geti E hI hG (ym0 hY) cf8 38 (V 55 3) rfl (by decide) (show (pk V bN U f g) 0 38 = V 55 3 from e38) kf_X8_261 dX8_about_169 ?_
            exact r_i E hQ hG hS dX8_about_172 (⟨by unfold abF; rw [if_neg q8, if_neg (by omega), if_neg (by omega), if_neg (by omega), if_neg (by omega), if_neg (by omega), if_neg (by omega), if_neg (by omega), if_neg (by omega), if_neg (by omega), if_neg (by omega), if_neg (by omega), if_pos q], MR.mk hL hf⟩)
          · refine lv_tableIn E.1 E.2.1 dX8_about_49 (by rw [q]; decide) (by rw [q]; decide) (off := 124) (tgt := 173) (by rw [q]; decide) (by decide) ?_
            refine x_aload_n E dX8_about_173 (lv_at hl 0 rfl) ?_
            refine x_getr E hI hG (ym0 hY) cf8 44 23 rfl (by decide) kf_X8_87 dX8_about_174 ?_
            refine x_bipush E dX8_about_177 (by decide) ?_
            refine x_iald E hI hG (ym23 hY) (V bM 12) (hKP.2.2.1 1 (by decide) (by decide)) (by omega) dX8_about_179 ?_
            exact r_i E hQ hG hS dX8_about_180 (⟨by unfold abF; rw [if_neg q8, if_neg (by omega), if_neg (by omega), if_neg (by omega), if_neg (by omega), if_neg (by omega), if_neg (by omega), if_neg (by omega), if_neg (by omega), if_neg (by omega), if_neg (by omega), if_neg (by omega), if_neg (by omega), if_pos q], MR.mk hL hf⟩)
          · refine lv_tableOut (tgt := 181) E.1 E.2.1 dX8_about_49 (by rw [j_toInt hk2]; omega) (by decide) ?_
            refine x_iconst E dX8_about_181 ?_
            exact r_i E hQ hG hS dX8_about_182 (⟨by unfold abF; rw [if_neg q8, if_neg (by omega), if_neg (by omega), if_neg (by omega), if_neg (by omega), if_neg (by omega), if_neg (by omega), if_neg (by omega), if_neg (by omega), if_neg (by omega), if_neg (by omega), if_neg (by omega), if_neg (by omega), if_neg (by omega)], MR.mk hL hf⟩)
        · refine x_iload_n E dX8_about_33 (lv_at hl 2 rfl) ?_
          refine x_aload_n E dX8_about_34 (lv_at hl 0 rfl) ?_
          refine x_getr E hI hG (ym0 hY) cf8 3 1 rfl (by decide) kf_X8_7 dX8_about_35 ?_
          refine x_iload_n E dX8_about_38 (lv_at hl 3 rfl) ?_
          refine x_iald E hI hG (ym1 hY) (V (bN + 1) i) rfl (by omega) dX8_about_39 ?_
          refine x_iadd E dX8_about_40 ?_
          refine x_istore_n E [(2, .int (jI (a + (V (bN + 1) i)))), (0, .ref (wa X 0)), (1, .int (jI k)), (3, .int (jI i))] dX8_about_41 hl (by decide) rfl (fun ls hl => ?_)
          refine x_iinc E (k := 3) [(3, .int (jI (i + 1))), (2, .int (jI (a + (V (bN + 1) i)))), (0, .ref (wa X 0)), (1, .int (jI k))] dX8_about_42 hl rfl (by decide) rfl (fun ls hl => ?_)
          refine x_goto E 25 dX8_about_45 (by decide) ?_
          exact ih25 (i + 1) (a + V (bN + 1) i) (by omega) (by omega) (by rw [su_s i0, ea]) (by omega) _ _ _ hG hS (lv_sub hl [2, 3, 1, 0] rfl)
    exact L25_1 _ 0 0 (by omega) (by omega) rfl (Nat.lt_succ_self _) _ _ _ hG hS (lv_sub hl [2, 3, 1, 0] rfl)
  · have q8 := b01_ne c8
    refine x_aload_n E dX8_about_11 (lv_at hl 0 rfl) ?_
    refine x_getr E hI hG (ym0 hY) cf8 10 8 rfl (by decide) kf_X8_31 dX8_about_12 ?_
    refine x_iload_n E dX8_about_15 (lv_at hl 1 rfl) ?_
    refine x_bipush E dX8_about_16 (by decide) ?_
    refine x_isub E dX8_about_18 ?_
    refine x_iald E hI hG (ym8 hY) (V (bN + 10) (k - 20)) rfl (by omega) dX8_about_19 ?_
    exact r_i E hQ hG hS dX8_about_20 (⟨by unfold abF; rw [if_pos q8], MR.mk hL hf⟩)
