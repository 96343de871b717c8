set_option maxHeartbeats 4000000 in
set_option maxRecDepth 100000 in
theorem c_X7_copyRow (l : Launch) {X : We} {k q r : Nat} (hq : At X q (.inl (0, k))) (hr : At X r (.inl (0, k))) (V : Mem) : Mt l X V yX7_copyRow cX7_copyRow 2 none 1 48 [.ref (wa X q), .ref (wa X r)] (Qv X (fun V1 => V1 = sp V r (V q))) := by
  refine Mt.go (by decide) (Nat.le_of_ble_eq_true rfl) ?_
  intro pg ev s0 mi bl mt cd ls Rm ag Qq hR hQ E hI hG hS hl
  have hl : lv_has ls 2 [(0, .ref (wa X q)), (1, .ref (wa X r))] := hl
  have hkl : k < 2147483648 := hI.2.2.1 q _ hq.1
  refine x_aload_n E dX7_copyRow_0 (lv_at hl 0 rfl) ?_
  refine x_iconst E dX7_copyRow_1 ?_
  refine x_aload_n E dX7_copyRow_2 (lv_at hl 1 rfl) ?_
  refine x_iconst E dX7_copyRow_3 ?_
  refine x_aload_n E dX7_copyRow_4 (lv_at hl 0 rfl) ?_
  refine x_alen E hI hG hq (by decide) dX7_copyRow_5 ?_
  refine x_aload_n E dX7_copyRow_6 (lv_at hl 1 rfl) ?_
  refine x_alen E hI hG hr (by decide) dX7_copyRow_7 ?_
  refine x_min E hl km_X7_190 (by rw [hR]; exact ⟨Nat.le_of_ble_eq_true rfl, Nat.le_of_ble_eq_true rfl⟩) ⟨Nat.zero_le _, Nat.zero_le _⟩ (by unfold rg; omega) (by unfold rg; omega) dX7_copyRow_8 ?_
  refine x_topeq ((k : Int)) (by omega) ?_
  refine x_acp E hI hG hS hl hq hr km_X7_198 (by rw [hR]; exact ⟨Nat.le_of_ble_eq_true rfl, Nat.le_of_ble_eq_true rfl⟩) dX7_copyRow_11 (fun H locs hG hS => ?_)
  exact r_v E hQ hG hS dX7_copyRow_14 rfl

/-- winds w have become as v are -/
def cpW (V V1 : Mem) (w v : Nat) : Prop := V1 (w + 1) = V (v + 1) ∧ V1 (w + 2) = V (v + 2) ∧ (V1 w 2 = V v 2 ∧ V1 w 3 = V v 3 ∧ V1 w 4 = V v 4) ∧ ∀ p, p ≠ w → p ≠ w + 1 → p ≠ w + 2 → V1 p = V p

set_option maxHeartbeats 4000000 in
set_option maxRecDepth 100000 in
theorem c_X5_copyFrom (l : Launch) {X : We} {n w v : Nat} (hX : isX X n) (hw0 : isW w) (hv0 : isW v) (hne : v ≠ w) (V : Mem) : Mt l X V yX5_copyFrom cX5_copyFrom 2 none 2 69 [.ref (wa X w), .ref (wa X v)] (Qv X (fun V1 => cpW V V1 w v)) := by
  refine Mt.go (by decide) (Nat.le_of_ble_eq_true rfl) ?_
  intro pg ev s0 mi bl mt cd ls Rm ag Qq hR hQ E hI hG hS hl
  have hl : lv_has ls 2 [(0, .ref (wa X w)), (1, .ref (wa X v))] := hl
  have hw := hw0
  have hv := hv0
  unfold isW at hw hv
  refine x_aload_n E dX5_copyFrom_0 (lv_at hl 1 rfl) ?_
  refine x_getr E hI hG (xw0 hX hv0) cf5 0 (v + 1) rfl (by decide) kf_X5_9 dX5_copyFrom_1 ?_
  refine x_aload_n E dX5_copyFrom_4 (lv_at hl 0 rfl) ?_
  refine x_getr E hI hG (xw0 hX hw0) cf5 0 (w + 1) rfl (by decide) kf_X5_9 dX5_copyFrom_5 ?_
  refine x_cv hG hS (x_runSN E hI hG hS (c_X7_copyRow l (xw1 hX hv0) (xw1 hX hw0) V) mf_X7_copyRow (by decide : (_, _, _, RX7) ∈ zNest) rfl hl rfl (Nat.le_of_ble_eq_true rfl) (by rw [hR]; exact ⟨Nat.le_of_ble_eq_true rfl, Nat.le_of_ble_eq_true rfl⟩) ⟨Nat.zero_le _, Nat.zero_le _⟩ dX5_copyFrom_8) (fun V1 H locs hp hG hS => ?_)
  have eV := hp
  rw [eV] at hG
  refine x_aload_n E dX5_copyFrom_11 (lv_at hl 1 rfl) ?_
  refine x_getr E hI hG (xw0 hX hv0) cf5 1 (v + 2) rfl (by decide) kf_X5_15 dX5_copyFrom_12 ?_
  refine x_aload_n E dX5_copyFrom_15 (lv_at hl 0 rfl) ?_
  refine x_getr E hI hG (xw0 hX hw0) cf5 1 (w + 2) rfl (by decide) kf_X5_15 dX5_copyFrom_16 ?_
  refine x_cv hG hS (x_runSN E hI hG hS (c_X7_copyRow l (xw2 hX hv0) (xw2 hX hw0) (sp V (w + 1) (V (v + 1)))) mf_X7_copyRow (by decide : (_, _, _, RX7) ∈ zNest) rfl hl rfl (Nat.le_of_ble_eq_true rfl) (by rw [hR]; exact ⟨Nat.le_of_ble_eq_true rfl, Nat.le_of_ble_eq_true rfl⟩) ⟨Nat.zero_le _, Nat.zero_le _⟩ dX5_copyFrom_19) (fun V1 H locs hp hG hS => ?_)
  have eV := hp
  rw [sp_n (show v + 2 ≠ w + 1 by omega)] at eV
  rw [eV] at hG
  refine x_aload_n E dX5_copyFrom_22 (lv_at hl 0 rfl) ?_
  refine x_aload_n E dX5_copyFrom_23 (lv_at hl 1 rfl) ?_
  refine x_geti E hI hG (xw0 hX hv0) cf5 2 (V v 2) rfl (by decide) (show (sp (sp V (w + 1) (V (v + 1))) (w + 2) (V (v + 2))) v 2 = V v 2 from (by rw [sp_3 V (by omega) (by omega)])) kf_X5_18 dX5_copyFrom_24 ?_
  refine x_puti E hI hG hS (xw0 hX hw0) cf5 2 2 rfl rfl (by decide) rfl rfl kf_X5_18 dX5_copyFrom_27 (fun H locs hG hS => ?_)
  refine x_aload_n E dX5_copyFrom_30 (lv_at hl 0 rfl) ?_
  refine x_aload_n E dX5_copyFrom_31 (lv_at hl 1 rfl) ?_
  refine x_geti E hI hG (xw0 hX hv0) cf5 3 (V v 3) rfl (by decide) (show (st (sp (sp V (w + 1) (V (v + 1))) (w + 2) (V (v + 2))) w 2 (V v 2)) v 3 = V v 3 from (by rw [st_p hne, sp_3 V (by omega) (by omega)])) kf_X5_22 dX5_copyFrom_32 ?_
  refine x_puti E hI hG hS (xw0 hX hw0) cf5 3 3 rfl rfl (by decide) rfl rfl kf_X5_22 dX5_copyFrom_35 (fun H locs hG hS => ?_)
  refine x_aload_n E dX5_copyFrom_38 (lv_at hl 0 rfl) ?_
  refine x_aload_n E dX5_copyFrom_39 (lv_at hl 1 rfl) ?_
  refine x_geti E hI hG (xw0 hX hv0) cf5 4 (V v 4) rfl (by decide) (show (st (st (sp (sp V (w + 1) (V (v + 1))) (w + 2) (V (v + 2))) w 2 (V v 2)) w 3 (V v 3)) v 4 = V v 4 from (by rw [st_p hne, st_p hne, sp_3 V (by omega) (by omega)])) kf_X5_25 dX5_copyFrom_40 ?_
  refine x_puti E hI hG hS (xw0 hX hw0) cf5 4 4 rfl rfl (by decide) rfl rfl kf_X5_25 dX5_copyFrom_43 (fun H locs hG hS => ?_)
  exact r_v E hQ hG hS dX5_copyFrom_46 (⟨by rw [st_p (by omega), st_p (by omega), st_p (by omega), sp_n (by omega), sp_s], by rw [st_p (by omega), st_p (by omega), st_p (by omega), sp_s], ⟨by rw [st_k (by decide), st_k (by decide), st_s], by rw [st_k (by decide), st_s], by rw [st_s]⟩, fun p p0 p1 p2 => by rw [st_p p0, st_p p0, st_p p0, sp_n p2, sp_n p1]⟩)

/-- the shore b has become as the shore a is -/
def cpD (V V1 : Mem) (b a : Nat) : Prop := (∀ j, 1 ≤ j → j ≤ 7 → V1 (b + j) = V (a + j)) ∧ V1 (b + 10) = V (a + 10) ∧ (∀ k : Int, 11 ≤ k → k ≤ 15 → V1 b k = V a k) ∧ (V1 (b + 12) = V (a + 12) ∧ V1 (b + 13) = V (a + 13) ∧ V1 (b + 11) 2 = V (a + 11) 2 ∧ V1 (b + 11) 3 = V (a + 11) 3 ∧ V1 (b + 11) 4 = V (a + 11) 4) ∧ V1 (b + 9) = V (b + 9) ∧ ∀ p, (p < b ∨ b + 14 ≤ p) → V1 p = V p
def cpF (V : Mem) (b a : Nat) : Mem := fun p => if p < b ∨ b + 14 ≤ p ∨ p = b + 9 then V p else V (a + (p - b))
theorem cpF_ext {X : We} {n b a : Nat} (hX : isX X n) (hb : isD b) {V V1 : Mem} (h : cpD V V1 b a) (p : Nat) (k : Int) (hk : seeN (wT X p) k) : cpF V b a p k = V1 p k := by
  obtain ⟨h1, h2, h3, h4, h5, h6⟩ := h
  unfold cpF
  by_cases e1 : p < b ∨ b + 14 ≤ p
  · rw [if_pos (by omega), h6 p e1]
  · by_cases e2 : p = b + 9
    · rw [if_pos (by omega), e2, h5]
    · rw [if_neg (by omega)]
      obtain ⟨j, hj, rfl⟩ : ∃ j, j < 14 ∧ p = b + j := ⟨p - b, by omega, by omega⟩
      rw [show b + j - b = j by omega]
      rcases (show (1 ≤ j ∧ j ≤ 7) ∨ j = 0 ∨ j = 8 ∨ j = 9 ∨ j = 10 ∨ j = 11 ∨ j = 12 ∨ j = 13 by omega) with q | rfl | rfl | rfl | rfl | rfl | rfl | rfl
      · rw [h1 j q.1 q.2]
      · rw [show b + 0 = b from rfl, (xd0 hX hb).1] at hk
        have hk2 : 0 ≤ k ∧ ([some 1, some (b + 1), some (b + 2), some (b + 3), some (b + 4), some (b + 5), some (b + 6), some (b + 7), some (b + 8), some (b + 10), some (b + 11), none, none, none, none, none] : List (Option Nat))[k.toNat]? = some none := hk
        have hk3 : 11 ≤ k ∧ k ≤ 15 := by
          obtain ⟨k, rfl⟩ := Int.eq_ofNat_of_zero_le hk2.1
          have q := hk2.2
          rw [Int.toNat_natCast] at q
          have hl := (List.getElem?_eq_some_iff.mp q).1
          simp only [List.length_cons, List.length_nil] at hl
          rcases (show k = 0 ∨ k = 1 ∨ k = 2 ∨ k = 3 ∨ k = 4 ∨ k = 5 ∨ k = 6 ∨ k = 7 ∨ k = 8 ∨ k = 9 ∨ k = 10 ∨ 11 ≤ k by omega) with rfl | rfl | rfl | rfl | rfl | rfl | rfl | rfl | rfl | rfl | rfl | h
          all_goals first | (simp at q; done) | omega
        exact (h3 k hk3.1 hk3.2).symm
      · rw [(xd8 hX hb).1] at hk
        have hk2 : 0 ≤ k ∧ ([some (b + 9)] : List (Option Nat))[k.toNat]? = some none := hk
        have hl := (List.getElem?_eq_some_iff.mp hk2.2).1
        simp only [List.length_cons, List.length_nil] at hl
        have q := hk2.2
        rw [show k.toNat = 0 by omega] at q
        simp at q
      · exact absurd rfl e2
      · rw [h2]
      · rw [(xd11 hX hb).1] at hk
        have hk2 : 0 ≤ k ∧ ([some (b + 12), some (b + 13), none, none, none] : List (Option Nat))[k.toNat]? = some none := hk
        have hl := (List.getElem?_eq_some_iff.mp hk2.2).1
        simp only [List.length_cons, List.length_nil] at hl
        have q := hk2.2
        rcases (show k = 0 ∨ k = 1 ∨ k = 2 ∨ k = 3 ∨ k = 4 by omega) with rfl | rfl | rfl | rfl | rfl
        · simp at q
        · simp at q
        · exact h4.2.2.1.symm
        · exact h4.2.2.2.1.symm
        · exact h4.2.2.2.2.symm
      · rw [h4.1]
      · rw [h4.2.1]
/-- the rows of a shore copied: j rows done -/
def cpR (V V1 : Mem) (b a j : Nat) : Prop := (∀ i, 1 ≤ i → i ≤ j → V1 (b + i) = V (a + i)) ∧ ∀ p, (p < b + 1 ∨ b + j < p) → V1 p = V p
theorem cpR.s {V V1 V2 : Mem} {b a j : Nat} (hne : a + 14 ≤ b ∨ b + 14 ≤ a) (hj : j < 7) (h : cpR V V1 b a j) (e : V2 = sp V1 (b + (j + 1)) (V1 (a + (j + 1)))) : cpR V V2 b a (j + 1) := by
  refine ⟨fun i i0 i1 => ?_, fun p hp => ?_⟩
  · rw [e]
    by_cases q : i = j + 1
    · subst q; rw [sp_s]; exact h.2 _ (by omega)
    · rw [sp_n (by omega)]; exact h.1 i i0 (by omega)
  · rw [e, sp_n (by omega)]; exact h.2 p (by omega)
theorem isD.ne {a b : Nat} (ha : isD a) (hb : isD b) (h : a ≠ b) : a + 14 ≤ b ∨ b + 14 ≤ a := by unfold isD at *; omega

set_option maxHeartbeats 4000000 in
set_option maxRecDepth 100000 in
theorem c_X1_copyFrom (l : Launch) {X : We} {n b a : Nat} (hX : isX X n) (hb : isD b) (ha : isD a) (hab : a ≠ b) (V : Mem) : Mt l X V yX1_copyFrom cX1_copyFrom 2 none 3 90 [.ref (wa X b), .ref (wa X a)] (Qv X (fun V1 => V1 = cpF V b a)) := by
  refine Mt.go (by decide) (Nat.le_of_ble_eq_true rfl) ?_
  intro pg ev s0 mi bl mt cd ls Rm ag Qq hR hQ E hI hG hS hl
  have hl : lv_has ls 2 [(0, .ref (wa X b)), (1, .ref (wa X a))] := hl
  have hne := isD.ne ha hb hab
  have k0 : cpR V V b a 0 := ⟨fun i i0 i1 => by omega, fun _ _ => rfl⟩
  refine x_aload_n E dX1_copyFrom_0 (lv_at hl 1 rfl) ?_
  refine x_getr E hI hG (xd0 hX ha) cf1 1 (a + 1) rfl (by decide) kf_X1_45 dX1_copyFrom_1 ?_
  refine x_aload_n E dX1_copyFrom_4 (lv_at hl 0 rfl) ?_
  refine x_getr E hI hG (xd0 hX hb) cf1 1 (b + 1) rfl (by decide) kf_X1_45 dX1_copyFrom_5 ?_
  refine x_cv hG hS (x_runSN E hI hG hS (c_X7_copyRow l (xd1 hX ha) (xd1 hX hb) V) mf_X7_copyRow (by decide : (_, _, _, RX7) ∈ zNest) rfl hl rfl (Nat.le_of_ble_eq_true rfl) (by rw [hR]; exact ⟨Nat.le_of_ble_eq_true rfl, Nat.le_of_ble_eq_true rfl⟩) ⟨Nat.zero_le _, Nat.zero_le _⟩ dX1_copyFrom_8) (fun V1 H locs hp hG hS => ?_)
  have q1 := hp
  have k1 := cpR.s hne (by decide) k0 q1
  refine x_aload_n E dX1_copyFrom_11 (lv_at hl 1 rfl) ?_
  refine x_getr E hI hG (xd0 hX ha) cf1 2 (a + 2) rfl (by decide) kf_X1_48 dX1_copyFrom_12 ?_
  refine x_aload_n E dX1_copyFrom_15 (lv_at hl 0 rfl) ?_
  refine x_getr E hI hG (xd0 hX hb) cf1 2 (b + 2) rfl (by decide) kf_X1_48 dX1_copyFrom_16 ?_
  refine x_cv hG hS (x_runSN E hI hG hS (c_X7_copyRow l (xd2 hX ha) (xd2 hX hb) V1) mf_X7_copyRow (by decide : (_, _, _, RX7) ∈ zNest) rfl hl rfl (Nat.le_of_ble_eq_true rfl) (by rw [hR]; exact ⟨Nat.le_of_ble_eq_true rfl, Nat.le_of_ble_eq_true rfl⟩) ⟨Nat.zero_le _, Nat.zero_le _⟩ dX1_copyFrom_19) (fun V2 H locs hp hG hS => ?_)
  have q2 := hp
  have k2 := cpR.s hne (by decide) k1 q2
  refine x_aload_n E dX1_copyFrom_22 (lv_at hl 1 rfl) ?_
  refine x_getr E hI hG (xd0 hX ha) cf1 3 (a + 3) rfl (by decide) kf_X1_51 dX1_copyFrom_23 ?_
  refine x_aload_n E dX1_copyFrom_26 (lv_at hl 0 rfl) ?_
  refine x_getr E hI hG (xd0 hX hb) cf1 3 (b + 3) rfl (by decide) kf_X1_51 dX1_copyFrom_27 ?_
  refine x_cv hG hS (x_runSN E hI hG hS (c_X7_copyRow l (xd3 hX ha) (xd3 hX hb) V2) mf_X7_copyRow (by decide : (_, _, _, RX7) ∈ zNest) rfl hl rfl (Nat.le_of_ble_eq_true rfl) (by rw [hR]; exact ⟨Nat.le_of_ble_eq_true rfl, Nat.le_of_ble_eq_true rfl⟩) ⟨Nat.zero_le _, Nat.zero_le _⟩ dX1_copyFrom_30) (fun V3 H locs hp hG hS => ?_)
  have q3 := hp
  have k3 := cpR.s hne (by decide) k2 q3
  refine x_aload_n E dX1_copyFrom_33 (lv_at hl 1 rfl) ?_
  refine x_getr E hI hG (xd0 hX ha) cf1 4 (a + 4) rfl (by decide) kf_X1_54 dX1_copyFrom_34 ?_
  refine x_aload_n E dX1_copyFrom_37 (lv_at hl 0 rfl) ?_
  refine x_getr E hI hG (xd0 hX hb) cf1 4 (b + 4) rfl (by decide) kf_X1_54 dX1_copyFrom_38 ?_
  refine x_cv hG hS (x_runSN E hI hG hS (c_X7_copyRow l (xd4 hX ha) (xd4 hX hb) V3) mf_X7_copyRow (by decide : (_, _, _, RX7) ∈ zNest) rfl hl rfl (Nat.le_of_ble_eq_true rfl) (by rw [hR]; exact ⟨Nat.le_of_ble_eq_true rfl, Nat.le_of_ble_eq_true rfl⟩) ⟨Nat.zero_le _, Nat.zero_le _⟩ dX1_copyFrom_41) (fun V4 H locs hp hG hS => ?_)
  have q4 := hp
  have k4 := cpR.s hne (by decide) k3 q4
  refine x_aload_n E dX1_copyFrom_44 (lv_at hl 1 rfl) ?_
  refine x_getr E hI hG (xd0 hX ha) cf1 5 (a + 5) rfl (by decide) kf_X1_57 dX1_copyFrom_45 ?_
  refine x_aload_n E dX1_copyFrom_48 (lv_at hl 0 rfl) ?_
  refine x_getr E hI hG (xd0 hX hb) cf1 5 (b + 5) rfl (by decide) kf_X1_57 dX1_copyFrom_49 ?_
  refine x_cv hG hS (x_runSN E hI hG hS (c_X7_copyRow l (xd5 hX ha) (xd5 hX hb) V4) mf_X7_copyRow (by decide : (_, _, _, RX7) ∈ zNest) rfl hl rfl (Nat.le_of_ble_eq_true rfl) (by rw [hR]; exact ⟨Nat.le_of_ble_eq_true rfl, Nat.le_of_ble_eq_true rfl⟩) ⟨Nat.zero_le _, Nat.zero_le _⟩ dX1_copyFrom_52) (fun V5 H locs hp hG hS => ?_)
  have q5 := hp
  have k5 := cpR.s hne (by decide) k4 q5
  refine x_aload_n E dX1_copyFrom_55 (lv_at hl 1 rfl) ?_
  refine x_getr E hI hG (xd0 hX ha) cf1 6 (a + 6) rfl (by decide) kf_X1_60 dX1_copyFrom_56 ?_
  refine x_aload_n E dX1_copyFrom_59 (lv_at hl 0 rfl) ?_
  refine x_getr E hI hG (xd0 hX hb) cf1 6 (b + 6) rfl (by decide) kf_X1_60 dX1_copyFrom_60 ?_
  refine x_cv hG hS (x_runSN E hI hG hS (c_X7_copyRow l (xd6 hX ha) (xd6 hX hb) V5) mf_X7_copyRow (by decide : (_, _, _, RX7) ∈ zNest) rfl hl rfl (Nat.le_of_ble_eq_true rfl) (by rw [hR]; exact ⟨Nat.le_of_ble_eq_true rfl, Nat.le_of_ble_eq_true rfl⟩) ⟨Nat.zero_le _, Nat.zero_le _⟩ dX1_copyFrom_63) (fun V6 H locs hp hG hS => ?_)
  have q6 := hp
  have k6 := cpR.s hne (by decide) k5 q6
  refine x_aload_n E dX1_copyFrom_66 (lv_at hl 1 rfl) ?_
  refine x_getr E hI hG (xd0 hX ha) cf1 7 (a + 7) rfl (by decide) kf_X1_63 dX1_copyFrom_67 ?_
  refine x_aload_n E dX1_copyFrom_70 (lv_at hl 0 rfl) ?_
  refine x_getr E hI hG (xd0 hX hb) cf1 7 (b + 7) rfl (by decide) kf_X1_63 dX1_copyFrom_71 ?_
  refine x_cv hG hS (x_runSN E hI hG hS (c_X7_copyRow l (xd7 hX ha) (xd7 hX hb) V6) mf_X7_copyRow (by decide : (_, _, _, RX7) ∈ zNest) rfl hl rfl (Nat.le_of_ble_eq_true rfl) (by rw [hR]; exact ⟨Nat.le_of_ble_eq_true rfl, Nat.le_of_ble_eq_true rfl⟩) ⟨Nat.zero_le _, Nat.zero_le _⟩ dX1_copyFrom_74) (fun V7 H locs hp hG hS => ?_)
  have q7 := hp
  have k7 := cpR.s hne (by decide) k6 q7
  refine x_aload_n E dX1_copyFrom_77 (lv_at hl 1 rfl) ?_
  refine x_getr E hI hG (xd0 hX ha) cf1 9 (a + 10) rfl (by decide) kf_X1_22 dX1_copyFrom_78 ?_
  refine x_aload_n E dX1_copyFrom_81 (lv_at hl 0 rfl) ?_
  refine x_getr E hI hG (xd0 hX hb) cf1 9 (b + 10) rfl (by decide) kf_X1_22 dX1_copyFrom_82 ?_
  refine x_cv hG hS (x_runSN E hI hG hS (c_X7_copyRow l (xd10 hX ha) (xd10 hX hb) V7) mf_X7_copyRow (by decide : (_, _, _, RX7) ∈ zNest) rfl hl rfl (Nat.le_of_ble_eq_true rfl) (by rw [hR]; exact ⟨Nat.le_of_ble_eq_true rfl, Nat.le_of_ble_eq_true rfl⟩) ⟨Nat.zero_le _, Nat.zero_le _⟩ dX1_copyFrom_85) (fun V8 H locs hp hG hS => ?_)
  have q8 := hp
  refine x_aload_n E dX1_copyFrom_88 (lv_at hl 0 rfl) ?_
  refine x_getr E hI hG (xd0 hX hb) cf1 10 (b + 11) rfl (by decide) kf_X1_28 dX1_copyFrom_89 ?_
  refine x_aload_n E dX1_copyFrom_92 (lv_at hl 1 rfl) ?_
  refine x_getr E hI hG (xd0 hX ha) cf1 10 (a + 11) rfl (by decide) kf_X1_28 dX1_copyFrom_93 ?_
  refine x_cv hG hS (x_runV E hI hG hS (xw0 hX (isD.w hb)) cf5 rfl (c_X5_copyFrom l hX (isD.w hb) (isD.w ha) (by omega) V8) mf_X5_copyFrom km_X1_70 rfl hl rfl (Nat.le_of_ble_eq_true rfl) (by rw [hR]; exact ⟨Nat.le_of_ble_eq_true rfl, Nat.le_of_ble_eq_true rfl⟩) ⟨Nat.zero_le _, Nat.zero_le _⟩ dX1_copyFrom_96) (fun V9 H locs hp hG hS => ?_)
  obtain ⟨w1, w2, w3, w4⟩ := hp
  refine x_aload_n E dX1_copyFrom_99 (lv_at hl 0 rfl) ?_
  refine x_aload_n E dX1_copyFrom_100 (lv_at hl 1 rfl) ?_
  refine x_geti E hI hG (xd0 hX ha) cf1 11 (V a 11) rfl (by decide) (show V9 a 11 = V a 11 from (by rw [w4 _ (by omega) (by omega) (by omega), q8, sp_n (by omega), k7.2 _ (by omega)])) kf_X1_32 dX1_copyFrom_101 ?_
  refine x_puti E hI hG hS (xd0 hX hb) cf1 11 11 rfl rfl (by decide) rfl rfl kf_X1_32 dX1_copyFrom_104 (fun H locs hG hS => ?_)
  refine x_aload_n E dX1_copyFrom_107 (lv_at hl 0 rfl) ?_
  refine x_aload_n E dX1_copyFrom_108 (lv_at hl 1 rfl) ?_
  refine x_geti E hI hG (xd0 hX ha) cf1 12 (V a 12) rfl (by decide) (show (st V9 b 11 (V a 11)) a 12 = V a 12 from (by rw [st_p (by omega)]; rw [w4 _ (by omega) (by omega) (by omega), q8, sp_n (by omega), k7.2 _ (by omega)])) kf_X1_74 dX1_copyFrom_109 ?_
  refine x_puti E hI hG hS (xd0 hX hb) cf1 12 12 rfl rfl (by decide) rfl rfl kf_X1_74 dX1_copyFrom_112 (fun H locs hG hS => ?_)
  refine x_aload_n E dX1_copyFrom_115 (lv_at hl 0 rfl) ?_
  refine x_aload_n E dX1_copyFrom_116 (lv_at hl 1 rfl) ?_
  refine x_geti E hI hG (xd0 hX ha) cf1 13 (V a 13) rfl (by decide) (show (st (st V9 b 11 (V a 11)) b 12 (V a 12)) a 13 = V a 13 from (by rw [st_p (by omega), st_p (by omega)]; rw [w4 _ (by omega) (by omega) (by omega), q8, sp_n (by omega), k7.2 _ (by omega)])) kf_X1_77 dX1_copyFrom_117 ?_
  refine x_puti E hI hG hS (xd0 hX hb) cf1 13 13 rfl rfl (by decide) rfl rfl kf_X1_77 dX1_copyFrom_120 (fun H locs hG hS => ?_)
  refine x_aload_n E dX1_copyFrom_123 (lv_at hl 0 rfl) ?_
  refine x_aload_n E dX1_copyFrom_124 (lv_at hl 1 rfl) ?_
  refine x_geti E hI hG (xd0 hX ha) cf1 14 (V a 14) rfl (by decide) (show (st (st (st V9 b 11 (V a 11)) b 12 (V a 12)) b 13 (V a 13)) a 14 = V a 14 from (by rw [st_p (by omega), st_p (by omega), st_p (by omega)]; rw [w4 _ (by omega) (by omega) (by omega), q8, sp_n (by omega), k7.2 _ (by omega)])) kf_X1_80 dX1_copyFrom_125 ?_
  refine x_puti E hI hG hS (xd0 hX hb) cf1 14 14 rfl rfl (by decide) rfl rfl kf_X1_80 dX1_copyFrom_128 (fun H locs hG hS => ?_)
  refine x_aload_n E dX1_copyFrom_131 (lv_at hl 0 rfl) ?_
  refine x_aload_n E dX1_copyFrom_132 (lv_at hl 1 rfl) ?_
  refine x_geti E hI hG (xd0 hX ha) cf1 15 (V a 15) rfl (by decide) (show (st (st (st (st V9 b 11 (V a 11)) b 12 (V a 12)) b 13 (V a 13)) b 14 (V a 14)) a 15 = V a 15 from (by rw [st_p (by omega), st_p (by omega), st_p (by omega), st_p (by omega)]; rw [w4 _ (by omega) (by omega) (by omega), q8, sp_n (by omega), k7.2 _ (by omega)])) kf_X1_83 dX1_copyFrom_133 ?_
  refine x_puti E hI hG hS (xd0 hX hb) cf1 15 15 rfl rfl (by decide) rfl rfl kf_X1_83 dX1_copyFrom_136 (fun H locs hG hS => ?_)
  have hcp : cpD V (st (st (st (st (st V9 b 11 (V a 11)) b 12 (V a 12)) b 13 (V a 13)) b 14 (V a 14)) b 15 (V a 15)) b a := by
    have far : ∀ p, p ≠ b → (st (st (st (st (st V9 b 11 (V a 11)) b 12 (V a 12)) b 13 (V a 13)) b 14 (V a 14)) b 15 (V a 15)) p = V9 p := fun p hp => by rw [st_p hp, st_p hp, st_p hp, st_p hp, st_p hp]
    have nine : ∀ p, p ≠ b + 11 → p ≠ b + 12 → p ≠ b + 13 → p ≠ b + 10 → V9 p = V7 p := fun p h1 h2 h3 h4 => by rw [w4 p h1 h2 h3, q8, sp_n h4]
    refine ⟨fun j j0 j1 => ?_, ?_, fun k k0 k1 => ?_, ⟨?_, ?_, ?_, ?_, ?_⟩, ?_, fun p hp => ?_⟩
    · rw [far _ (by omega), nine _ (by omega) (by omega) (by omega) (by omega)]; exact k7.1 j j0 j1
    · rw [far _ (by omega), w4 _ (by omega) (by omega) (by omega), q8, sp_s]; exact k7.2 _ (by omega)
    · rcases (show k = 11 ∨ k = 12 ∨ k = 13 ∨ k = 14 ∨ k = 15 by omega) with rfl | rfl | rfl | rfl | rfl
      · rw [st_k (by decide), st_k (by decide), st_k (by decide), st_k (by decide), st_s]
      · rw [st_k (by decide), st_k (by decide), st_k (by decide), st_s]
      · rw [st_k (by decide), st_k (by decide), st_s]
      · rw [st_k (by decide), st_s]
      · rw [st_s]
    · rw [far _ (by omega)]; exact w1.trans (by rw [q8, sp_n (by omega)]; exact k7.2 _ (by omega))
    · rw [far _ (by omega)]; exact w2.trans (by rw [q8, sp_n (by omega)]; exact k7.2 _ (by omega))
    · rw [far _ (by omega), w3.1, q8, sp_n (by omega), k7.2 _ (by omega)]
    · rw [far _ (by omega), w3.2.1, q8, sp_n (by omega), k7.2 _ (by omega)]
    · rw [far _ (by omega), w3.2.2, q8, sp_n (by omega), k7.2 _ (by omega)]
    · rw [far _ (by omega), nine _ (by omega) (by omega) (by omega) (by omega)]; exact k7.2 _ (by omega)
    · rw [far _ (by omega), nine _ (by omega) (by omega) (by omega) (by omega)]; exact k7.2 _ (by omega)
  have hG := hG.ext (V' := cpF V b a) (fun p k _ hk => cpF_ext hX hb hcp p k hk)
  exact r_v E hQ hG hS dX1_copyFrom_139 rfl

set_option maxHeartbeats 4000000 in
set_option maxRecDepth 100000 in
theorem c_X1_pass (l : Launch) {X : We} {n b : Nat} (hX : isX X n) (hb : isD b) {wd hi : Int} (V : Mem) (hk : Inv V n wd hi b) (k : Int) (hk1 : 1 ≤ k ∧ k ≤ 60) (hk2 : V b 12 + k ≤ 3000) : Mt l X V yX1_pass cX1_pass 4 none 5 118 [.ref (wa X b), .int (jI k)] (Qv X (fun V1 => V1 = psM n wd hi b k.toNat V)) := by
  refine Mt.go (by decide) (Nat.le_of_ble_eq_true rfl) ?_
  intro pg ev s0 mi bl mt cd ls Rm ag Qq hR hQ E hI hG hS hl
  have hl : lv_has ls 4 [(0, .ref (wa X b)), (1, .int (jI k))] := hl
  obtain ⟨hb1, hb2⟩ := isD.ge hb
  have hdy := hk.2.2.2
  refine x_iconst E dX1_pass_0 ?_
  refine x_istore_n E [(2, .int (jI 0)), (0, .ref (wa X b)), (1, .int (jI k))] dX1_pass_1 hl (by decide) rfl (fun ls hl => ?_)
  have L2_1 : ∀ (N : Nat) (i : Int) (U : Mem), (0 ≤ i) → (i ≤ k) → (U = psM n wd hi b i.toNat V) → (Inv U n wd hi b) → (U b 12 = V b 12 + i) → ((k - i).toNat) < N → ∀ (H : Heap) (locs : List Loc) (ls : Array Slot), GW X U H → va_S (wA X) s0.heap H locs → lv_has ls 4 [(0, .ref (wa X b)), (1, .int (jI k)), (2, .int (jI i))] → W pg l ev Rm s0 mi ag bl mt cd H locs 0 0 Qq (F0 mi 2 ls []) := by
    intro N
    induction N with
    | zero => intro i U i0 i1 eU hU eD hN; exact absurd hN (Nat.not_lt_zero _)
    | succ N ih2 =>
      intro i U i0 i1 eU hU eD hN H locs ls hG hS hl
      refine x_iload_n E dX1_pass_2 (lv_at hl 2 rfl) ?_
      refine x_iload_n E dX1_pass_3 (lv_at hl 1 rfl) ?_
      refine x_icmp_ge E 74 dX1_pass_4 (by decide) (by unfold rg; omega) (by unfold rg; omega) (fun c4 => ?_) (fun c4 => ?_)
      · exact r_v E hQ hG hS dX1_pass_74 (by rw [eU, show i = k by omega])
      · refine x_aload_n E dX1_pass_7 (lv_at hl 0 rfl) ?_
        refine x_getr E hI hG (xd0 hX hb) cf1 10 (b + 11) rfl (by decide) kf_X1_28 dX1_pass_8 ?_
        refine x_ci hG hS (x_runV E hI hG hS (xw0 hX (isD.w hb)) cf5 rfl (c_X5_next l hX (isD.w hb) U hU.2.2.1) mf_X5_next km_X1_139 rfl hl rfl (Nat.le_of_ble_eq_true rfl) (by rw [hR]; exact ⟨Nat.le_of_ble_eq_true rfl, Nat.le_of_ble_eq_true rfl⟩) ⟨Nat.zero_le _, Nat.zero_le _⟩ dX1_pass_11) (fun z1 V1 H locs hp hG hS => ?_)
        obtain ⟨ez, eV⟩ := hp
        rw [eV] at hG
        rw [ez]
        refine x_istore_n E [(3, .int (jI (wnd (b + 11) U))), (0, .ref (wa X b)), (1, .int (jI k)), (2, .int (jI i))] dX1_pass_14 hl (by decide) rfl (fun ls hl => ?_)
        have hw := hU.2.2.1.w
        obtain ⟨mA, dA⟩ := Mid.A hb1 hU (by omega)
        obtain ⟨mB, dB⟩ := mA.B hb1 (wnd (b + 11) U)
        have mC := mB.C hb1 (by omega)
        have hrul := hU.2.1.2.2.2.2.2.2.2.2.2
        have hdu := hU.2.2.2
        have L68_2 : ∀ (U9 : Mem), (U9 = dayM n wd hi b U) → ∀ (H : Heap) (locs : List Loc) (ls : Array Slot), GW X U9 H → va_S (wA X) s0.heap H locs → lv_has ls 4 [(0, .ref (wa X b)), (1, .int (jI k)), (2, .int (jI i))] → W pg l ev Rm s0 mi ag bl mt cd H locs 0 0 Qq (F0 mi 68 ls []) := by
          intro U9 e9 H locs ls hG hS hl
          refine x_iinc E (k := 2) [(2, .int (jI (i + 1))), (0, .ref (wa X b)), (1, .int (jI k))] dX1_pass_68 hl rfl (by decide) rfl (fun ls hl => ?_)
          refine x_goto E 2 dX1_pass_71 (by decide) ?_
          exact ih2 (i + 1) U9 (by omega) (by omega) (by rw [e9, eU, show (i + 1).toNat = i.toNat + 1 by omega]; rfl) (by rw [e9]; exact (hU.day hb1 (by omega)).1) (by rw [e9, (hU.day hb1 (by omega)).2]; omega) (by omega) _ _ _ hG hS (lv_sub hl [1, 2, 0] rfl)
        have L33_3 : ∀ (H : Heap) (locs : List Loc) (ls : Array Slot), GW X (dayB n wd hi b (wnd (b + 11) U) (dayA n wd hi b U)) H → va_S (wA X) s0.heap H locs → lv_has ls 4 [(0, .ref (wa X b)), (1, .int (jI k)), (2, .int (jI i))] → W pg l ev Rm s0 mi ag bl mt cd H locs 0 0 Qq (F0 mi 33 ls []) := by
          intro   H locs ls hG hS hl
          refine x_aload_n E dX1_pass_33 (lv_at hl 0 rfl) ?_
          refine x_getr E hI hG (xd0 hX hb) cf1 10 (b + 11) rfl (by decide) kf_X1_28 dX1_pass_34 ?_
          refine x_cv hG hS (x_runV E hI hG hS (xw0 hX (isD.w hb)) cf5 rfl (c_X5_passDay l hX (isD.w hb) (dayB n wd hi b (wnd (b + 11) U) (dayA n wd hi b U)) mB.2.2.1) mf_X5_passDay km_X1_148 rfl hl rfl (Nat.le_of_ble_eq_true rfl) (by rw [hR]; exact ⟨Nat.le_of_ble_eq_true rfl, Nat.le_of_ble_eq_true rfl⟩) ⟨Nat.zero_le _, Nat.zero_le _⟩ dX1_pass_37) (fun V1 H locs hp hG hS => ?_)
          have eV := hp
          rw [eV] at hG
          have e3 : (pdM (b + 11) (dayB n wd hi b (wnd (b + 11) U) (dayA n wd hi b U))) b 12 = U b 12 := by rw [pdM_p (by omega), dB, dA]
          refine x_aload_n E dX1_pass_40 (lv_at hl 0 rfl) ?_
          refine x_dup E dX1_pass_41 rfl ?_
          refine x_geti E hI hG (xd0 hX hb) cf1 12 ((pdM (b + 11) (dayB n wd hi b (wnd (b + 11) U) (dayA n wd hi b U))) b 12) rfl (by decide) rfl kf_X1_74 dX1_pass_42 ?_
          refine x_iconst E dX1_pass_45 ?_
          refine x_iadd E dX1_pass_46 ?_
          refine x_puti E hI hG hS (xd0 hX hb) cf1 12 12 rfl rfl (by decide) rfl rfl kf_X1_74 dX1_pass_47 (fun H locs hG hS => ?_)
          refine x_aload_n E dX1_pass_50 (lv_at hl 0 rfl) ?_
          refine x_cv hG hS (x_runV E hI hG hS (xd0 hX hb) cf1 rfl (c_X1_reachHouses l hX hb (st (pdM (b + 11) (dayB n wd hi b (wnd (b + 11) U) (dayA n wd hi b U))) b 12 ((pdM (b + 11) (dayB n wd hi b (wnd (b + 11) U) (dayA n wd hi b U))) b 12 + 1)) ((mB.pd hb1).day hb1 (by omega) (by omega))) mf_X1_reachHouses km_X1_151 rfl hl rfl (Nat.le_of_ble_eq_true rfl) (by rw [hR]; exact ⟨Nat.le_of_ble_eq_true rfl, Nat.le_of_ble_eq_true rfl⟩) ⟨Nat.zero_le _, Nat.zero_le _⟩ dX1_pass_51) (fun V1 H locs hp hG hS => ?_)
          have eV := hp
          change _ = dayC n b (dayB n wd hi b (wnd (b + 11) U) (dayA n wd hi b U)) at eV
          rw [eV] at hG
          have e5 : (dayC n b (dayB n wd hi b (wnd (b + 11) U) (dayA n wd hi b U))) b 12 = U b 12 + 1 := by rw [mC.2, dB, dA]
          refine x_aload_n E dX1_pass_54 (lv_at hl 0 rfl) ?_
          refine x_geti E hI hG (xd0 hX hb) cf1 12 (U b 12 + 1) rfl (by decide) (show (dayC n b (dayB n wd hi b (wnd (b + 11) U) (dayA n wd hi b U))) b 12 = U b 12 + 1 from e5) kf_X1_74 dX1_pass_55 ?_
          refine x_bipush E dX1_pass_58 (by decide) ?_
          refine x_irem E (by omega) (by omega) dX1_pass_60 ?_
          refine x_if_ne E 68 dX1_pass_61 (by decide) (by unfold rg; omega) (fun c61 => ?_) (fun c61 => ?_)
          · exact L68_2 (dayC n b (dayB n wd hi b (wnd (b + 11) U) (dayA n wd hi b U))) (by unfold dayM dayE; rw [if_neg (by rw [e5]; exact c61)]) _ _ _ hG hS (lv_sub hl [0, 1, 2] rfl)
          · refine x_aload_n E dX1_pass_64 (lv_at hl 0 rfl) ?_
            refine x_cv hG hS (x_runV E hI hG hS (xd0 hX hb) cf1 rfl (c_X1_passSeason l hX hb (dayC n b (dayB n wd hi b (wnd (b + 11) U) (dayA n wd hi b U))) mC.1) mf_X1_passSeason km_X1_154 rfl hl rfl (Nat.le_of_ble_eq_true rfl) (by rw [hR]; exact ⟨Nat.le_of_ble_eq_true rfl, Nat.le_of_ble_eq_true rfl⟩) ⟨Nat.zero_le _, Nat.zero_le _⟩ dX1_pass_65) (fun V1 H locs hp hG hS => ?_)
            have eV := hp
            rw [eV] at hG
            exact L68_2 (seM n b (dayC n b (dayB n wd hi b (wnd (b + 11) U) (dayA n wd hi b U)))) (by unfold dayM dayE; rw [if_pos (by rw [e5]; exact c61)]) _ _ _ hG hS (lv_sub hl [0, 1, 2] rfl)
        have L23_4 : ∀ (H : Heap) (locs : List Loc) (ls : Array Slot), GW X (dayA n wd hi b U) H → va_S (wA X) s0.heap H locs → lv_has ls 4 [(0, .ref (wa X b)), (1, .int (jI k)), (2, .int (jI i)), (3, .int (jI (wnd (b + 11) U)))] → W pg l ev Rm s0 mi ag bl mt cd H locs 0 0 Qq (F0 mi 23 ls []) := by
          intro   H locs ls hG hS hl
          have h23 := hw
          refine x_iload_n E dX1_pass_23 (lv_at hl 3 rfl) ?_
          refine x_iconst E dX1_pass_24 ?_
          refine x_icmp_eq E 33 dX1_pass_25 (by decide) (by unfold rg; omega) (by unfold rg; omega) (fun c25 => ?_) (fun c25 => ?_)
          · rw [show (dayA n wd hi b U) = dayB n wd hi b (wnd (b + 11) U) (dayA n wd hi b U) by unfold dayB; rw [if_pos c25]] at hG
            exact L33_3   _ _ _ hG hS (lv_sub hl [0, 1, 2] rfl)
          · refine x_aload_n E dX1_pass_28 (lv_at hl 0 rfl) ?_
            refine x_iload_n E dX1_pass_29 (lv_at hl 3 rfl) ?_
            refine x_cv hG hS (x_runV E hI hG hS (xd0 hX hb) cf1 rfl (c_X1_blow l hX hb (dayA n wd hi b U) mA (wnd (b + 11) U) (by omega)) mf_X1_blow km_X1_145 rfl hl rfl (Nat.le_of_ble_eq_true rfl) (by rw [hR]; exact ⟨Nat.le_of_ble_eq_true rfl, Nat.le_of_ble_eq_true rfl⟩) ⟨Nat.zero_le _, Nat.zero_le _⟩ dX1_pass_30) (fun V1 H locs hp hG hS => ?_)
            have eV := hp
            rw [show blM n wd hi b (wnd (b + 11) U) (dayA n wd hi b U) = dayB n wd hi b (wnd (b + 11) U) (dayA n wd hi b U) by unfold dayB; rw [if_neg c25]] at eV
            rw [eV] at hG
            exact L33_3   _ _ _ hG hS (lv_sub hl [0, 1, 2] rfl)
        refine x_iload_n E dX1_pass_15 (lv_at hl 0 rfl) ?_
        refine x_if_ne E 23 dX1_pass_16 (by decide) (by unfold rg; omega) (fun c16 => ?_) (fun c16 => ?_)
        · rw [show U = dayA n wd hi b U by unfold dayA; rw [if_neg c16]] at hG
          exact L23_4   _ _ _ hG hS (lv_sub hl [1, 2, 3, 0] rfl)
        · refine x_aload_n E dX1_pass_19 (lv_at hl 1 rfl) ?_
          refine x_cv hG hS (x_runV E hI hG hS (xd0 hX hb) cf1 rfl (c_X1_bringSupply l hX hb U hU.mid (by omega)) mf_X1_bringSupply km_X1_142 rfl hl rfl (Nat.le_of_ble_eq_true rfl) (by rw [hR]; exact ⟨Nat.le_of_ble_eq_true rfl, Nat.le_of_ble_eq_true rfl⟩) ⟨Nat.zero_le _, Nat.zero_le _⟩ dX1_pass_20) (fun V1 H locs hp hG hS => ?_)
          have eV := hp
          rw [show itM (supM n wd hi b) (U (b + 10) 4).toNat U = dayA n wd hi b U by unfold dayA; rw [if_pos c16]] at eV
          rw [eV] at hG
          exact L23_4   _ _ _ hG hS (lv_sub hl [1, 2, 3, 0] rfl)
  exact L2_1 _ 0 V (by omega) (by omega) rfl hk (by omega) (Nat.lt_succ_self _) _ _ _ hG hS (lv_sub hl [1, 2, 0] rfl)
