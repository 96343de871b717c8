/-- a heap becomes v, then all slides -/
noncomputable def hput (n : Nat) (wd hi : Int) (b : Nat) (c v : Int) (V : Mem) : Mem := sp V (b + 1) (stl n wd hi (V (b + 10) 3) (ui (V (b + 1)) c v))
noncomputable def hall (n : Nat) (wd hi : Int) (b : Nat) (V : Mem) : Mem := sp V (b + 1) (stl n wd hi (V (b + 10) 3) (V (b + 1)))
/-- a shore that may go on: its shape, its heaps, no doubts -/
def DK (V : Mem) (n : Nat) (wd hi : Int) (b : Nat) (t : Int) : Prop := Sh V n wd hi ∧ HI n wd hi (V (b + 10) 3) t (V (b + 1)) ∧ V (b + 9) = fun _ => 0
theorem sp_back {V : Mem} {p q : Nat} (h : p ≠ q) (g f k z : Int → Int) (hz : V q = z) : sp (sp (sp (sp V p g) q f) p k) q z = sp V p k := by
  rw [sp_comm (sp V p g) f k (Ne.symm h), sp_sp, sp_sp, sp_comm V k z h, ← hz, sp_self]
theorem sp_back2 {V : Mem} {p q : Nat} (h : p ≠ q) (f k z : Int → Int) (hz : V q = z) : sp (sp (sp V q f) p k) q z = sp V p k := by
  rw [sp_comm (sp V q f) k z h, sp_sp, ← hz, sp_self]
theorem B1_ui {n : Nat} {wd hi sl : Int} {g : Int → Int} {c v : Int} (hd : dims n wd hi) (h0 : 0 ≤ c) (h1 : c < (n : Int)) (hg : settled n wd hi sl g) (hv : g c ≤ v) : ∀ d : Int, 0 ≤ d → d < (n : Int) → stp wd hi sl (ui g c v) d → bset (fun _ => false) c true d = true := by
  intro d d0 d1 q
  rcases ui_new hd h0 h1 hg d0 d1 q with ⟨e, -⟩ | ⟨e, -⟩
  · unfold bset; rw [if_pos e]
  · omega

set_option maxHeartbeats 4000000 in
set_option maxRecDepth 100000 in
theorem c_X1_raise (l : Launch) {X : We} {n b : Nat} (hX : isX X n) (hb : isD b) {wd hi t : Int} (V : Mem) (hk : DK V n wd hi b t) (c : Int) (hc : 0 ≤ c ∧ c < (n : Int)) : Mt l X V yX1_raise cX1_raise 2 none 3 70 [.ref (wa X b), .int (jI c)] (Qv X (fun V1 => V1 = hput n wd hi b c (V (b + 1) c + 1) V)) := by
  refine Mt.go (by decide) (Nat.le_of_ble_eq_true rfl) ?_
  intro pg ev s0 mi bl mt cd ls Rm ag Qq hR hQ E hI hG hS hl
  have hl : lv_has ls 2 [(0, .ref (wa X b)), (1, .int (jI c))] := hl
  obtain ⟨hs, hh, hz⟩ := hk
  have hd := hs.2.2.2.1
  obtain ⟨hn1, hn2⟩ := dims.n hd
  obtain ⟨hb1, hb2⟩ := isD.ge hb
  have hl9 : 1 ≤ V (b + 10) 3 ∧ V (b + 10) 3 ≤ 9 := ⟨hh.2.2.2.1, hh.2.2.2.2.1⟩
  refine x_aload_n E dX1_raise_0 (lv_at hl 0 rfl) ?_
  refine x_getr E hI hG (xd0 hX hb) cf1 0 1 rfl (by decide) kf_X1_36 dX1_raise_1 ?_
  refine x_iload_n E dX1_raise_4 (lv_at hl 1 rfl) ?_
  refine x_ci hG hS (x_runV E hI hG hS (xs0 hX) cf3 rfl (c_X3_has l hX V hs c (by unfold rg; omega)) mf_X3_has km_X1_86 rfl hl rfl (Nat.le_of_ble_eq_true rfl) (by rw [hR]; exact ⟨Nat.le_of_ble_eq_true rfl, Nat.le_of_ble_eq_true rfl⟩) ⟨Nat.zero_le _, Nat.zero_le _⟩ dX1_raise_5) (fun z1 V1 H locs hp hG hS => ?_)
  obtain ⟨ez, eV⟩ := hp
  rw [eV] at hG
  rw [ez]
  refine x_if_ne E 12 dX1_raise_8 (by decide) b01_rg (fun c8 => ?_) (fun c8 => ?_)
  · have hv := hh.bnd hd c hc.1 hc.2
    refine x_aload_n E dX1_raise_12 (lv_at hl 0 rfl) ?_
    refine x_getr E hI hG (xd0 hX hb) cf1 1 (b + 1) rfl (by decide) kf_X1_45 dX1_raise_13 ?_
    refine x_iload_n E dX1_raise_16 (lv_at hl 1 rfl) ?_
    refine x_dup2 E dX1_raise_17 rfl rfl ?_
    refine x_iald E hI hG (xd1 hX hb) (V (b + 1) c) rfl (by omega) dX1_raise_18 ?_
    refine x_iconst E dX1_raise_19 ?_
    refine x_iadd E dX1_raise_20 ?_
    refine x_iast E hI hG hS (xd1 hX hb) (by omega) dX1_raise_21 (fun H locs hG hS => ?_)
    rw [show (st V (b + 1) c ((V (b + 1) c) + 1)) = (sp V (b + 1) (ui (V (b + 1)) c (V (b + 1) c + 1))) from st_sp V _ _ _] at hG
    refine x_aload_n E dX1_raise_22 (lv_at hl 0 rfl) ?_
    refine x_getr E hI hG (xd0 hX hb) cf1 8 (b + 8) rfl (by decide) kf_X1_12 dX1_raise_23 ?_
    refine x_iload_n E dX1_raise_26 (lv_at hl 1 rfl) ?_
    refine x_cv hG hS (x_runV E hI hG hS (xd8 hX hb) cf0 rfl (c_X0_add l hX hb (sp V (b + 1) (ui (V (b + 1)) c (V (b + 1) c + 1))) (B := fun _ => false) (DB.zero (fun i _ _ => by rw [sp_n (by omega), hz])) c (by omega)) mf_X0_add km_X1_94 rfl hl rfl (Nat.le_of_ble_eq_true rfl) (by rw [hR]; exact ⟨Nat.le_of_ble_eq_true rfl, Nat.le_of_ble_eq_true rfl⟩) ⟨Nat.zero_le _, Nat.zero_le _⟩ dX1_raise_27) (fun V1 H locs hp hG hS => ?_)
    obtain ⟨f, eV, hf⟩ := hp
    rw [eV] at hG
    refine x_aload_n E dX1_raise_30 (lv_at hl 0 rfl) ?_
    refine x_cv hG hS (x_runV E hI hG hS (xd0 hX hb) cf1 rfl (c_X1_settle l hX hb (sp (sp V (b + 1) (ui (V (b + 1)) c (V (b + 1) c + 1))) (b + 9) f) ((hs.sp (by omega) _).sp (by omega) _) (ui (V (b + 1)) c (V (b + 1) c + 1)) (sp_ij V (by omega) _ _) (HI.put hd hh hc.1 hc.2 (by omega) (by omega)) (V (b + 10) 3) (by rw [sp_3 V (by omega) (by omega)]) hl9 (by rw [sp_s]; exact hf) (fun d q => by unfold bset at q; split at q; omega; cases q) (B1_ui hd hc.1 hc.2 hh.1 (by omega))) mf_X1_settle km_X1_97 rfl hl rfl (Nat.le_of_ble_eq_true rfl) (by rw [hR]; exact ⟨Nat.le_of_ble_eq_true rfl, Nat.le_of_ble_eq_true rfl⟩) ⟨Nat.zero_le _, Nat.zero_le _⟩ dX1_raise_31) (fun V1 H locs hp hG hS => ?_)
    have eV := hp
    rw [eV] at hG
    exact r_v E hQ hG hS dX1_raise_34 (by unfold hput; exact sp_back (by omega) _ _ _ _ hz)
  · exact absurd hc (b01_iff0.mp c8)

set_option maxHeartbeats 4000000 in
set_option maxRecDepth 100000 in
theorem c_X1_lower (l : Launch) {X : We} {n b : Nat} (hX : isX X n) (hb : isD b) {wd hi t : Int} (V : Mem) (hk : DK V n wd hi b t) (c g : Int) (hc : 0 ≤ c ∧ c < (n : Int)) (hg : 0 ≤ g ∧ g ≤ 9999) : Mt l X V yX1_lower cX1_lower 3 none 3 70 [.ref (wa X b), .int (jI c), .int (jI g)] (Qv X (fun V1 => V1 = hput n wd hi b c (V (b + 1) c - min g (V (b + 1) c)) V)) := by
  refine Mt.go (by decide) (Nat.le_of_ble_eq_true rfl) ?_
  intro pg ev s0 mi bl mt cd ls Rm ag Qq hR hQ E hI hG hS hl
  have hl : lv_has ls 3 [(0, .ref (wa X b)), (1, .int (jI c)), (2, .int (jI g))] := hl
  obtain ⟨hs, hh, hz⟩ := hk
  have hd := hs.2.2.2.1
  obtain ⟨hn1, hn2⟩ := dims.n hd
  obtain ⟨hb1, hb2⟩ := isD.ge hb
  have hl9 : 1 ≤ V (b + 10) 3 ∧ V (b + 10) 3 ≤ 9 := ⟨hh.2.2.2.1, hh.2.2.2.2.1⟩
  refine x_aload_n E dX1_lower_0 (lv_at hl 0 rfl) ?_
  refine x_getr E hI hG (xd0 hX hb) cf1 0 1 rfl (by decide) kf_X1_36 dX1_lower_1 ?_
  refine x_iload_n E dX1_lower_4 (lv_at hl 1 rfl) ?_
  refine x_ci hG hS (x_runV E hI hG hS (xs0 hX) cf3 rfl (c_X3_has l hX V hs c (by unfold rg; omega)) mf_X3_has km_X1_86 rfl hl rfl (Nat.le_of_ble_eq_true rfl) (by rw [hR]; exact ⟨Nat.le_of_ble_eq_true rfl, Nat.le_of_ble_eq_true rfl⟩) ⟨Nat.zero_le _, Nat.zero_le _⟩ dX1_lower_5) (fun z1 V1 H locs hp hG hS => ?_)
  obtain ⟨ez, eV⟩ := hp
  rw [eV] at hG
  rw [ez]
  refine x_if_ne E 12 dX1_lower_8 (by decide) b01_rg (fun c8 => ?_) (fun c8 => ?_)
  · have hv := hh.bnd hd c hc.1 hc.2
    have hps : PS n (ui (V (b + 1)) c (V (b + 1) c - min g (V (b + 1) c))) := HI.put hd hh hc.1 hc.2 (by omega) (by omega)
    refine x_aload_n E dX1_lower_12 (lv_at hl 0 rfl) ?_
    refine x_getr E hI hG (xd0 hX hb) cf1 1 (b + 1) rfl (by decide) kf_X1_45 dX1_lower_13 ?_
    refine x_iload_n E dX1_lower_16 (lv_at hl 1 rfl) ?_
    refine x_dup2 E dX1_lower_17 rfl rfl ?_
    refine x_iald E hI hG (xd1 hX hb) (V (b + 1) c) rfl (by omega) dX1_lower_18 ?_
    refine x_iload_n E dX1_lower_19 (lv_at hl 2 rfl) ?_
    refine x_aload_n E dX1_lower_20 (lv_at hl 0 rfl) ?_
    refine x_getr E hI hG (xd0 hX hb) cf1 1 (b + 1) rfl (by decide) kf_X1_45 dX1_lower_21 ?_
    refine x_iload_n E dX1_lower_24 (lv_at hl 1 rfl) ?_
    refine x_iald E hI hG (xd1 hX hb) (V (b + 1) c) rfl (by omega) dX1_lower_25 ?_
    refine x_min E hl km_X1_110 (by rw [hR]; exact ⟨Nat.le_of_ble_eq_true rfl, Nat.le_of_ble_eq_true rfl⟩) ⟨Nat.zero_le _, Nat.zero_le _⟩ (by unfold rg; omega) (by unfold rg; omega) dX1_lower_26 ?_
    refine x_isub E dX1_lower_29 ?_
    refine x_iast E hI hG hS (xd1 hX hb) (by omega) dX1_lower_30 (fun H locs hG hS => ?_)
    rw [show (st V (b + 1) c ((V (b + 1) c) - (min g (V (b + 1) c)))) = (sp V (b + 1) (ui (V (b + 1)) c (V (b + 1) c - min g (V (b + 1) c)))) from st_sp V _ _ _] at hG
    refine x_aload_n E dX1_lower_31 (lv_at hl 0 rfl) ?_
    refine x_iload_n E dX1_lower_32 (lv_at hl 1 rfl) ?_
    refine x_cv hG hS (x_runV E hI hG hS (xd0 hX hb) cf1 rfl (c_X1_doubtAbove l hX hb (sp V (b + 1) (ui (V (b + 1)) c (V (b + 1) c - min g (V (b + 1) c)))) (hs.sp (by omega) _) (ui (V (b + 1)) c (V (b + 1) c - min g (V (b + 1) c))) (sp_s _ _ _) hps.1 (V (b + 10) 3) (by rw [sp_n (by omega)]) hl9 (B := fun _ => false) (DB.zero (fun i _ _ => by rw [sp_n (by omega), hz])) c hc) mf_X1_doubtAbove km_X1_90 rfl hl rfl (Nat.le_of_ble_eq_true rfl) (by rw [hR]; exact ⟨Nat.le_of_ble_eq_true rfl, Nat.le_of_ble_eq_true rfl⟩) ⟨Nat.zero_le _, Nat.zero_le _⟩ dX1_lower_33) (fun V1 H locs hp hG hS => ?_)
    obtain ⟨f, B1, eV, hf, -, d2, d3, -⟩ := hp
    rw [eV] at hG
    refine x_aload_n E dX1_lower_36 (lv_at hl 0 rfl) ?_
    refine x_cv hG hS (x_runV E hI hG hS (xd0 hX hb) cf1 rfl (c_X1_settle l hX hb (sp (sp V (b + 1) (ui (V (b + 1)) c (V (b + 1) c - min g (V (b + 1) c)))) (b + 9) f) ((hs.sp (by omega) _).sp (by omega) _) (ui (V (b + 1)) c (V (b + 1) c - min g (V (b + 1) c))) (sp_ij V (by omega) _ _) hps (V (b + 10) 3) (by rw [sp_3 V (by omega) (by omega)]) hl9 (B := B1) (by rw [sp_s]; exact hf) (fun d q => by rcases d2 d q with z | z; cases z; exact z) (fun d d0 d1 q => by
          rcases ui_new hd hc.1 hc.2 hh.1 d0 d1 q with ⟨-, e⟩ | ⟨-, k, k0, k1, k2, k3⟩
          · omega
          · rw [← k2]; exact d3 k k0 k1 (by omega) (by rw [k2]; exact k3))) mf_X1_settle km_X1_97 rfl hl rfl (Nat.le_of_ble_eq_true rfl) (by rw [hR]; exact ⟨Nat.le_of_ble_eq_true rfl, Nat.le_of_ble_eq_true rfl⟩) ⟨Nat.zero_le _, Nat.zero_le _⟩ dX1_lower_37) (fun V1 H locs hp hG hS => ?_)
    have eV := hp
    rw [eV] at hG
    exact r_v E hQ hG hS dX1_lower_40 (by unfold hput; exact sp_back (by omega) _ _ _ _ hz)
  · exact absurd hc (b01_iff0.mp c8)

set_option maxHeartbeats 4000000 in
set_option maxRecDepth 100000 in
theorem c_X1_pile (l : Launch) {X : We} {n b : Nat} (hX : isX X n) (hb : isD b) {wd hi t : Int} (V : Mem) (hk : DK V n wd hi b t) (c v : Int) (hc : 0 ≤ c ∧ c < (n : Int)) (hv : 0 ≤ v ∧ v ≤ 999) : Mt l X V yX1_pile cX1_pile 3 none 3 70 [.ref (wa X b), .int (jI c), .int (jI v)] (Qv X (fun V1 => V1 = hput n wd hi b c v (sp V (b + 2) (ui (V (b + 2)) c v)))) := by
  refine Mt.go (by decide) (Nat.le_of_ble_eq_true rfl) ?_
  intro pg ev s0 mi bl mt cd ls Rm ag Qq hR hQ E hI hG hS hl
  have hl : lv_has ls 3 [(0, .ref (wa X b)), (1, .int (jI c)), (2, .int (jI v))] := hl
  obtain ⟨hs, hh, hz⟩ := hk
  have hd := hs.2.2.2.1
  obtain ⟨hn1, hn2⟩ := dims.n hd
  obtain ⟨hb1, hb2⟩ := isD.ge hb
  have hl9 : 1 ≤ V (b + 10) 3 ∧ V (b + 10) 3 ≤ 9 := ⟨hh.2.2.2.1, hh.2.2.2.2.1⟩
  refine x_aload_n E dX1_pile_0 (lv_at hl 0 rfl) ?_
  refine x_getr E hI hG (xd0 hX hb) cf1 0 1 rfl (by decide) kf_X1_36 dX1_pile_1 ?_
  refine x_iload_n E dX1_pile_4 (lv_at hl 1 rfl) ?_
  refine x_ci hG hS (x_runV E hI hG hS (xs0 hX) cf3 rfl (c_X3_has l hX V hs c (by unfold rg; omega)) mf_X3_has km_X1_86 rfl hl rfl (Nat.le_of_ble_eq_true rfl) (by rw [hR]; exact ⟨Nat.le_of_ble_eq_true rfl, Nat.le_of_ble_eq_true rfl⟩) ⟨Nat.zero_le _, Nat.zero_le _⟩ dX1_pile_5) (fun z1 V1 H locs hp hG hS => ?_)
  obtain ⟨ez, eV⟩ := hp
  rw [eV] at hG
  rw [ez]
  refine x_if_ne E 12 dX1_pile_8 (by decide) b01_rg (fun c8 => ?_) (fun c8 => ?_)
  · have hps : PS n (ui (V (b + 1)) c v) := HI.put hd hh hc.1 hc.2 (by omega) (by omega)
    refine x_aload_n E dX1_pile_12 (lv_at hl 0 rfl) ?_
    refine x_getr E hI hG (xd0 hX hb) cf1 1 (b + 1) rfl (by decide) kf_X1_45 dX1_pile_13 ?_
    refine x_iload_n E dX1_pile_16 (lv_at hl 1 rfl) ?_
    refine x_iload_n E dX1_pile_17 (lv_at hl 2 rfl) ?_
    refine x_iast E hI hG hS (xd1 hX hb) (by omega) dX1_pile_18 (fun H locs hG hS => ?_)
    rw [show (st V (b + 1) c v) = (sp V (b + 1) (ui (V (b + 1)) c v)) from st_sp V _ _ _] at hG
    refine x_aload_n E dX1_pile_19 (lv_at hl 0 rfl) ?_
    refine x_getr E hI hG (xd0 hX hb) cf1 2 (b + 2) rfl (by decide) kf_X1_48 dX1_pile_20 ?_
    refine x_iload_n E dX1_pile_23 (lv_at hl 1 rfl) ?_
    refine x_iload_n E dX1_pile_24 (lv_at hl 2 rfl) ?_
    refine x_iast E hI hG hS (xd2 hX hb) (by omega) dX1_pile_25 (fun H locs hG hS => ?_)
    rw [show (st (sp V (b + 1) (ui (V (b + 1)) c v)) (b + 2) c v) = (sp (sp V (b + 2) (ui (V (b + 2)) c v)) (b + 1) (ui (V (b + 1)) c v)) from by rw [st_sp, sp_n (by omega)]; exact sp_comm V _ _ (by omega)] at hG
    refine x_aload_n E dX1_pile_26 (lv_at hl 0 rfl) ?_
    refine x_iload_n E dX1_pile_27 (lv_at hl 1 rfl) ?_
    refine x_cv hG hS (x_runV E hI hG hS (xd0 hX hb) cf1 rfl (c_X1_doubtAbove l hX hb (sp (sp V (b + 2) (ui (V (b + 2)) c v)) (b + 1) (ui (V (b + 1)) c v)) ((hs.sp (by omega) _).sp (by omega) _) (ui (V (b + 1)) c v) (sp_s _ _ _) hps.1 (V (b + 10) 3) (by rw [sp_3 V (by omega) (by omega)]) hl9 (B := fun _ => false) (DB.zero (fun i _ _ => by rw [sp_3 V (by omega) (by omega), hz])) c hc) mf_X1_doubtAbove km_X1_90 rfl hl rfl (Nat.le_of_ble_eq_true rfl) (by rw [hR]; exact ⟨Nat.le_of_ble_eq_true rfl, Nat.le_of_ble_eq_true rfl⟩) ⟨Nat.zero_le _, Nat.zero_le _⟩ dX1_pile_28) (fun V1 H locs hp hG hS => ?_)
    obtain ⟨f, B1, eV, hf, -, d2, d3, -⟩ := hp
    rw [eV] at hG
    refine x_aload_n E dX1_pile_31 (lv_at hl 0 rfl) ?_
    refine x_getr E hI hG (xd0 hX hb) cf1 8 (b + 8) rfl (by decide) kf_X1_12 dX1_pile_32 ?_
    refine x_iload_n E dX1_pile_35 (lv_at hl 1 rfl) ?_
    refine x_cv hG hS (x_runV E hI hG hS (xd8 hX hb) cf0 rfl (c_X0_add l hX hb (sp (sp (sp V (b + 2) (ui (V (b + 2)) c v)) (b + 1) (ui (V (b + 1)) c v)) (b + 9) f) (B := B1) (by rw [sp_s]; exact hf) c (by omega)) mf_X0_add km_X1_94 rfl hl rfl (Nat.le_of_ble_eq_true rfl) (by rw [hR]; exact ⟨Nat.le_of_ble_eq_true rfl, Nat.le_of_ble_eq_true rfl⟩) ⟨Nat.zero_le _, Nat.zero_le _⟩ dX1_pile_36) (fun V1 H locs hp hG hS => ?_)
    obtain ⟨f3, eV, hf3⟩ := hp
    rw [sp_sp] at eV
    rw [eV] at hG
    refine x_aload_n E dX1_pile_39 (lv_at hl 0 rfl) ?_
    refine x_cv hG hS (x_runV E hI hG hS (xd0 hX hb) cf1 rfl (c_X1_settle l hX hb (sp (sp (sp V (b + 2) (ui (V (b + 2)) c v)) (b + 1) (ui (V (b + 1)) c v)) (b + 9) f3) (((hs.sp (by omega) _).sp (by omega) _).sp (by omega) _) (ui (V (b + 1)) c v) (sp_ij _ (by omega) _ _) hps (V (b + 10) 3) (by rw [sp_3 _ (by omega) (by omega), sp_n (by omega)]) hl9 (B := bset B1 c true) (by rw [sp_s]; exact hf3) (fun d q => by
          unfold bset at q
          split at q
          · omega
          · rcases d2 d q with z | z
            · cases z
            · exact z) (fun d d0 d1 q => by
          unfold bset
          split
          · rfl
          · rename_i z
            rcases ui_new hd hc.1 hc.2 hh.1 d0 d1 q with ⟨e, -⟩ | ⟨-, k, k0, k1, k2, k3⟩
            · exact absurd e z
            · rw [← k2]; exact d3 k k0 k1 (by omega) (by rw [k2]; exact k3))) mf_X1_settle km_X1_97 rfl hl rfl (Nat.le_of_ble_eq_true rfl) (by rw [hR]; exact ⟨Nat.le_of_ble_eq_true rfl, Nat.le_of_ble_eq_true rfl⟩) ⟨Nat.zero_le _, Nat.zero_le _⟩ dX1_pile_40) (fun V1 H locs hp hG hS => ?_)
    have eV := hp
    rw [eV] at hG
    exact r_v E hQ hG hS dX1_pile_43 (by unfold hput; rw [sp_n (V := V) (p := b + 2) (q := b + 10) (by omega), sp_n (V := V) (p := b + 2) (q := b + 1) (by omega)]; exact sp_back (by omega) _ _ _ _ (by rw [sp_n (by omega)]; exact hz))
  · exact absurd hc (b01_iff0.mp c8)

set_option maxHeartbeats 4000000 in
set_option maxRecDepth 100000 in
theorem c_X1_settleAll (l : Launch) {X : We} {n b : Nat} (hX : isX X n) (hb : isD b) {wd hi : Int} (V : Mem) (hs : Sh V n wd hi) (hps : PS n (V (b + 1))) (hl9 : 1 ≤ V (b + 10) 3 ∧ V (b + 10) 3 ≤ 9) (hz : V (b + 9) = fun _ => 0) : Mt l X V yX1_settleAll cX1_settleAll 2 none 3 70 [.ref (wa X b)] (Qv X (fun V1 => V1 = hall n wd hi b V)) := by
  refine Mt.go (by decide) (Nat.le_of_ble_eq_true rfl) ?_
  intro pg ev s0 mi bl mt cd ls Rm ag Qq hR hQ E hI hG hS hl
  have hl : lv_has ls 2 [(0, .ref (wa X b))] := hl
  have hd := hs.2.2.2.1
  obtain ⟨hn1, hn2⟩ := dims.n hd
  obtain ⟨hb1, hb2⟩ := isD.ge hb
  rw [show V = sp V (b + 9) (V (b + 9)) from (sp_self _ _).symm] at hG
  refine x_iconst E dX1_settleAll_0 ?_
  refine x_istore_n E [(1, .int (jI 0)), (0, .ref (wa X b))] dX1_settleAll_1 hl (by decide) rfl (fun ls hl => ?_)
  have L2_1 : ∀ (N : Nat) (i : Int) (f : Int → Int) (B : Int → Bool), (0 ≤ i) → (i ≤ (n : Int)) → (DB f B) → (∀ d, B d = true → 0 ≤ d ∧ d < (n : Int)) → (∀ d : Int, 0 ≤ d → d < i → B d = true) → (((n : Int) - i).toNat) < N → ∀ (H : Heap) (locs : List Loc) (ls : Array Slot), GW X (sp V (b + 9) f) H → va_S (wA X) s0.heap H locs → lv_has ls 2 [(0, .ref (wa X b)), (1, .int (jI i))] → W pg l ev Rm s0 mi ag bl mt cd H locs 0 0 Qq (F0 mi 2 ls []) := by
    intro N
    induction N with
    | zero => intro i f B h0 h1 hf g2 g3 hN; exact absurd hN (Nat.not_lt_zero _)
    | succ N ih2 =>
      intro i f B h0 h1 hf g2 g3 hN H locs ls hG hS hl
      refine x_iload_n E dX1_settleAll_2 (lv_at hl 1 rfl) ?_
      refine x_aload_n E dX1_settleAll_3 (lv_at hl 0 rfl) ?_
      refine x_getr E hI hG (xd0 hX hb) cf1 1 (b + 1) rfl (by decide) kf_X1_45 dX1_settleAll_4 ?_
      refine x_alen E hI hG (xd1 hX hb) (by decide) dX1_settleAll_7 ?_
      refine x_icmp_ge E 25 dX1_settleAll_8 (by decide) (by unfold rg; omega) (by unfold rg; omega) (fun c8 => ?_) (fun c8 => ?_)
      · refine x_aload_n E dX1_settleAll_25 (lv_at hl 0 rfl) ?_
        refine x_cv hG hS (x_runV E hI hG hS (xd0 hX hb) cf1 rfl (c_X1_settle l hX hb (sp V (b + 9) f) (hs.sp (by omega) _) (V (b + 1)) (sp_n (by omega)) hps (V (b + 10) 3) (by rw [sp_n (by omega)]) hl9 (B := B) (by rw [sp_s]; exact hf) g2 (fun d d0 d1 _ => g3 d d0 (by omega))) mf_X1_settle km_X1_97 rfl hl rfl (Nat.le_of_ble_eq_true rfl) (by rw [hR]; exact ⟨Nat.le_of_ble_eq_true rfl, Nat.le_of_ble_eq_true rfl⟩) ⟨Nat.zero_le _, Nat.zero_le _⟩ dX1_settleAll_26) (fun V1 H locs hp hG hS => ?_)
        have eV := hp
        rw [eV] at hG
        exact r_v E hQ hG hS dX1_settleAll_29 (sp_back2 (by omega) _ _ _ hz)
      · refine x_aload_n E dX1_settleAll_11 (lv_at hl 0 rfl) ?_
        refine x_getr E hI hG (xd0 hX hb) cf1 8 (b + 8) rfl (by decide) kf_X1_12 dX1_settleAll_12 ?_
        refine x_iload_n E dX1_settleAll_15 (lv_at hl 1 rfl) ?_
        refine x_cv hG hS (x_runV E hI hG hS (xd8 hX hb) cf0 rfl (c_X0_add l hX hb (sp V (b + 9) f) (B := B) (by rw [sp_s]; exact hf) i (by omega)) mf_X0_add km_X1_94 rfl hl rfl (Nat.le_of_ble_eq_true rfl) (by rw [hR]; exact ⟨Nat.le_of_ble_eq_true rfl, Nat.le_of_ble_eq_true rfl⟩) ⟨Nat.zero_le _, Nat.zero_le _⟩ dX1_settleAll_16) (fun V1 H locs hp hG hS => ?_)
        obtain ⟨f2, eV, hf2⟩ := hp
        rw [sp_sp] at eV
        rw [eV] at hG
        refine x_iinc E (k := 1) [(1, .int (jI (i + 1))), (0, .ref (wa X b))] dX1_settleAll_19 hl rfl (by decide) rfl (fun ls hl => ?_)
        refine x_goto E 2 dX1_settleAll_22 (by decide) ?_
        exact ih2 (i + 1) f2 (bset B i true) (by omega) (by omega) hf2 (fun d q => by
                unfold bset at q
                split at q
                · omega
                · exact g2 d q) (fun d d0 d1 => by
                unfold bset
                split
                · rfl
                · exact g3 d d0 (by omega)) (by omega) _ _ _ hG hS (lv_sub hl [1, 0] rfl)
  exact L2_1 _ 0 (V (b + 9)) (fun _ => false) (by omega) (by omega) (DB.zero (fun i _ _ => by rw [hz])) (fun d q => by cases q) (fun d d0 d1 => by omega) (Nat.lt_succ_self _) _ _ _ hG hS (lv_sub hl [1, 0] rfl)
