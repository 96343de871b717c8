theorem b01_ne {q : Prop} [Decidable q] (h : b01 q ≠ 0) : q := Classical.byContradiction (fun z => h (b01_0 z))
theorem sp_3 (V : Mem) {p q r : Nat} (h1 : r ≠ q) (h2 : r ≠ p) (g f : Int → Int) : sp (sp V p g) q f r = V r := by rw [sp_n h1, sp_n h2]
theorem sp_twice (V : Mem) (p q : Nat) (g f f2 : Int → Int) : sp (sp (sp V p g) q f) q f2 = sp (sp V p g) q f2 := sp_sp _ _ _ _

set_option maxHeartbeats 4000000 in
set_option maxRecDepth 100000 in
theorem c_X1_settle (l : Launch) {X : We} {n b : Nat} (hX : isX X n) (hb : isD b) {wd hi : Int} (V : Mem) (hs : Sh V n wd hi) (h0 : Int → Int) (hV : V (b + 1) = h0) (hps : PS n h0) (sl : Int) (hsl : V (b + 10) 3 = sl) (hl9 : 1 ≤ sl ∧ sl ≤ 9) {B : Int → Bool} (hB : DB (V (b + 9)) B) (hB2 : ∀ d, B d = true → 0 ≤ d ∧ d < (n : Int)) (hst : ∀ d : Int, 0 ≤ d → d < (n : Int) → stp wd hi sl h0 d → B d = true) : Mt l X V yX1_settle cX1_settle 4 none 2 47 [.ref (wa X b)] (Qv X (fun V1 => V1 = sp (sp V (b + 1) (stl n wd hi sl h0)) (b + 9) (fun _ => 0))) := by
  refine Mt.go (by decide) (Nat.le_of_ble_eq_true rfl) ?_
  intro pg ev s0 mi bl mt cd ls Rm ag Qq hR hQ E hI hG hS hl
  have hl : lv_has ls 4 [(0, .ref (wa X b))] := hl
  have hd := hs.2.2.2.1
  obtain ⟨hn1, hn2⟩ := dims.n hd
  obtain ⟨hb1, hb2⟩ := isD.ge hb
  obtain ⟨hbn, m0, hm⟩ := hps
  rw [show V = sp (sp V (b + 1) h0) (b + 9) (V (b + 9)) by rw [← hV, sp_self V (b + 1), sp_self V (b + 9)]] at hG
  refine x_iconst E dX1_settle_0 ?_
  refine x_istore_n E [(1, .int (jI 0)), (0, .ref (wa X b))] dX1_settle_1 hl (by decide) rfl (fun ls hl => ?_)
  have L2_1 : ∀ (N : Nat) (step : Int) (h : Int → Int) (f : Int → Int) (B1 : Int → Bool), (0 ≤ step) → (∃ k, h = itr n wd hi sl h0 k) → (DB f B1) → (∀ d, B1 d = true → 0 ≤ d ∧ d < (n : Int)) → (∀ d : Int, 0 ≤ d → d < (n : Int) → stp wd hi sl h d → B1 d = true) → (bnd n 0 9500 h) → (3 * sq n m0 h + cntB n B1 + step ≤ 900000200) → ((2000000000 - step).toNat) < N → ∀ (H : Heap) (locs : List Loc) (ls : Array Slot), GW X (sp (sp V (b + 1) h) (b + 9) f) H → va_S (wA X) s0.heap H locs → lv_has ls 4 [(0, .ref (wa X b)), (1, .int (jI step))] → W pg l ev Rm s0 mi ag bl mt cd H locs 0 0 Qq (F0 mi 2 ls []) := by
    intro N
    induction N with
    | zero => intro step h f B1 sp0 hk hf g2 g3 hh hq hN; exact absurd hN (Nat.not_lt_zero _)
    | succ N ih2 =>
      intro step h f B1 sp0 hk hf g2 g3 hh hq hN H locs ls hG hS hl
      have hcn := cntB_le n B1
      have hsq := sq_nonneg n m0 h
      have hsm : Sh (sp (sp V (b + 1) h) (b + 9) f) n wd hi := (hs.sp (by omega) _).sp (by omega) _
      refine x_iload_n E dX1_settle_2 (lv_at hl 1 rfl) ?_
      refine x_ldc E 2000000000 kk_X1_122 (by decide) dX1_settle_3 ?_
      refine x_icmp_ge E 117 dX1_settle_5 (by decide) (by unfold rg; omega) (by unfold rg; omega) (fun c5 => ?_) (fun c5 => ?_)
      · omega
      · have L111_2 : ∀ (h2 : Int → Int) (f2 : Int → Int) (B2 : Int → Bool), (0 ≤ (step + 1)) → (∃ k, h2 = itr n wd hi sl h0 k) → (DB f2 B2) → (∀ d, B2 d = true → 0 ≤ d ∧ d < (n : Int)) → (∀ d : Int, 0 ≤ d → d < (n : Int) → stp wd hi sl h2 d → B2 d = true) → (bnd n 0 9500 h2) → (3 * sq n m0 h2 + cntB n B2 + (step + 1) ≤ 900000200) → ∀ (H : Heap) (locs : List Loc) (ls : Array Slot), GW X (sp (sp V (b + 1) h2) (b + 9) f2) H → va_S (wA X) s0.heap H locs → lv_has ls 4 [(0, .ref (wa X b)), (1, .int (jI step))] → W pg l ev Rm s0 mi ag bl mt cd H locs 0 0 Qq (F0 mi 111 ls []) := by
          intro h2 f2 B2 sp02 hk2 hf2 g22 g32 hh2 hq2 H locs ls hG hS hl
          refine x_iinc E (k := 1) [(1, .int (jI (step + 1))), (0, .ref (wa X b))] dX1_settle_111 hl rfl (by decide) rfl (fun ls hl => ?_)
          refine x_goto E 2 dX1_settle_114 (by decide) ?_
          exact ih2 (step + 1) h2 f2 B2 sp02 hk2 hf2 g22 g32 hh2 hq2 (by omega) _ _ _ hG hS (lv_sub hl [1, 0] rfl)
        refine x_aload_n E dX1_settle_8 (lv_at hl 0 rfl) ?_
        refine x_getr E hI hG (xd0 hX hb) cf1 8 (b + 8) rfl (by decide) kf_X1_12 dX1_settle_9 ?_
        refine x_ci hG hS (x_runV E hI hG hS (xd8 hX hb) cf0 rfl (c_X0_lowest l hX hb (sp (sp V (b + 1) h) (b + 9) f) (B := B1) (by rw [sp_s]; exact hf)) mf_X0_lowest km_X1_123 rfl hl rfl (Nat.le_of_ble_eq_true rfl) (by rw [hR]; exact ⟨Nat.le_of_ble_eq_true rfl, Nat.le_of_ble_eq_true rfl⟩) ⟨Nat.zero_le _, Nat.zero_le _⟩ dX1_settle_12) (fun c V1 H locs hp hG hS => ?_)
        obtain ⟨eV, hz⟩ := hp
        rw [eV] at hG
        refine x_istore_n E [(2, .int (jI c)), (0, .ref (wa X b)), (1, .int (jI step))] dX1_settle_15 hl (by decide) rfl (fun ls hl => ?_)
        refine x_aload_n E dX1_settle_16 (lv_at hl 1 rfl) ?_
        refine x_getr E hI hG (xd0 hX hb) cf1 0 1 rfl (by decide) kf_X1_36 dX1_settle_17 ?_
        refine x_iload_n E dX1_settle_20 (lv_at hl 0 rfl) ?_
        refine x_ci hG hS (x_runV E hI hG hS (xs0 hX) cf3 rfl (c_X3_has l hX (sp (sp V (b + 1) h) (b + 9) f) hsm c (by unfold rg; omega)) mf_X3_has km_X1_86 rfl hl rfl (Nat.le_of_ble_eq_true rfl) (by rw [hR]; exact ⟨Nat.le_of_ble_eq_true rfl, Nat.le_of_ble_eq_true rfl⟩) ⟨Nat.zero_le _, Nat.zero_le _⟩ dX1_settle_21) (fun z1 V1 H locs hp hG hS => ?_)
        obtain ⟨ez, eV⟩ := hp
        rw [eV] at hG
        rw [ez]
        refine x_if_ne E 28 dX1_settle_24 (by decide) b01_rg (fun c24 => ?_) (fun c24 => ?_)
        · have hc := b01_ne c24
          refine x_aload_n E dX1_settle_28 (lv_at hl 1 rfl) ?_
          refine x_iload_n E dX1_settle_29 (lv_at hl 0 rfl) ?_
          refine x_ci hG hS (x_runV E hI hG hS (xd0 hX hb) cf1 rfl (c_X1_lowestBeside l hX hb (sp (sp V (b + 1) h) (b + 9) f) hsm h (sp_ij V (by omega) _ _) hh c hc) mf_X1_lowestBeside km_X1_127 rfl hl rfl (Nat.le_of_ble_eq_true rfl) (by rw [hR]; exact ⟨Nat.le_of_ble_eq_true rfl, Nat.le_of_ble_eq_true rfl⟩) ⟨Nat.zero_le _, Nat.zero_le _⟩ dX1_settle_30) (fun z1 V1 H locs hp hG hS => ?_)
          obtain ⟨ez, eV⟩ := hp
          rw [eV] at hG
          rw [ez]
          refine x_istore_n E [(3, .int (jI (lowN wd hi h c))), (2, .int (jI c)), (0, .ref (wa X b)), (1, .int (jI step))] dX1_settle_33 hl (by decide) rfl (fun ls hl => ?_)
          obtain ⟨t1, t2, t3, -, -⟩ := lowN_spec hd h hc.1 hc.2
          refine x_aload_n E dX1_settle_34 (lv_at hl 2 rfl) ?_
          refine x_getr E hI hG (xd0 hX hb) cf1 0 1 rfl (by decide) kf_X1_36 dX1_settle_35 ?_
          refine x_iload_n E dX1_settle_38 (lv_at hl 0 rfl) ?_
          refine x_ci hG hS (x_runV E hI hG hS (xs0 hX) cf3 rfl (c_X3_has l hX (sp (sp V (b + 1) h) (b + 9) f) hsm (lowN wd hi h c) (by unfold rg; omega)) mf_X3_has km_X1_86 rfl hl rfl (Nat.le_of_ble_eq_true rfl) (by rw [hR]; exact ⟨Nat.le_of_ble_eq_true rfl, Nat.le_of_ble_eq_true rfl⟩) ⟨Nat.zero_le _, Nat.zero_le _⟩ dX1_settle_39) (fun z1 V1 H locs hp hG hS => ?_)
          obtain ⟨ez, eV⟩ := hp
          rw [eV] at hG
          rw [ez]
          refine x_if_eq E 103 dX1_settle_42 (by decide) b01_rg (fun c42 => ?_) (fun c42 => ?_)
          · exact absurd ⟨t1, t2⟩ (b01_iff0.mp c42)
          · have hv1 := hh c hc.1 hc.2
            have hv2 := hh (lowN wd hi h c) t1 t2
            refine x_aload_n E dX1_settle_45 (lv_at hl 2 rfl) ?_
            refine x_getr E hI hG (xd0 hX hb) cf1 1 (b + 1) rfl (by decide) kf_X1_45 dX1_settle_46 ?_
            refine x_iload_n E dX1_settle_49 (lv_at hl 1 rfl) ?_
            refine x_iald E hI hG (xd1 hX hb) (h c) (by rw [sp_ij V (by omega)]) (by omega) dX1_settle_50 ?_
            refine x_aload_n E dX1_settle_51 (lv_at hl 2 rfl) ?_
            refine x_getr E hI hG (xd0 hX hb) cf1 1 (b + 1) rfl (by decide) kf_X1_45 dX1_settle_52 ?_
            refine x_iload_n E dX1_settle_55 (lv_at hl 0 rfl) ?_
            refine x_iald E hI hG (xd1 hX hb) (h (lowN wd hi h c)) (by rw [sp_ij V (by omega)]) (by omega) dX1_settle_56 ?_
            refine x_isub E dX1_settle_57 ?_
            refine x_aload_n E dX1_settle_58 (lv_at hl 2 rfl) ?_
            refine x_getr E hI hG (xd0 hX hb) cf1 9 (b + 10) rfl (by decide) kf_X1_22 dX1_settle_59 ?_
            refine x_iconst E dX1_settle_62 ?_
            refine x_iald E hI hG (xd10 hX hb) (sl) (by rw [sp_3 V (by omega) (by omega)]; exact hsl) (by omega) dX1_settle_63 ?_
            refine x_icmp_le E 103 dX1_settle_64 (by decide) (by unfold rg; omega) (by unfold rg; omega) (fun c64 => ?_) (fun c64 => ?_)
            · have hns : ¬ stp wd hi sl h c := fun q => by have := (stp_low hd hc.1 hc.2).mp q; omega
              refine x_aload_n E dX1_settle_103 (lv_at hl 2 rfl) ?_
              refine x_getr E hI hG (xd0 hX hb) cf1 8 (b + 8) rfl (by decide) kf_X1_12 dX1_settle_104 ?_
              refine x_iload_n E dX1_settle_107 (lv_at hl 1 rfl) ?_
              refine x_cv hG hS (x_runV E hI hG hS (xd8 hX hb) cf0 rfl (c_X0_remove l hX hb (sp (sp V (b + 1) h) (b + 9) f) (B := B1) (by rw [sp_s]; exact hf) c (by omega)) mf_X0_remove km_X1_131 rfl hl rfl (Nat.le_of_ble_eq_true rfl) (by rw [hR]; exact ⟨Nat.le_of_ble_eq_true rfl, Nat.le_of_ble_eq_true rfl⟩) ⟨Nat.zero_le _, Nat.zero_le _⟩ dX1_settle_108) (fun V1 H locs hp hG hS => ?_)
              obtain ⟨f3, eV, hf3⟩ := hp
              rw [sp_sp] at eV
              rw [eV] at hG
              exact L111_2 h f3 (bset B1 c false) (by omega) hk hf3 (fun d q => by
                        unfold bset at q
                        split at q
                        · cases q
                        · exact g2 d q) (fun d d0 d1 q => by
                        unfold bset
                        split
                        · rename_i z; rw [z] at q; exact absurd q hns
                        · exact g3 d d0 d1 q) hh (by
                        rw [cntB_set hc.1 hc.2]
                        have b1 : B1 c = true := by
                          rcases hz with ⟨z, -⟩ | ⟨-, -, z, -⟩
                          · omega
                          · exact z
                        rw [b1]
                        have b2 : b2i true = 1 := rfl
                        have b3 : b2i false = 0 := rfl
                        omega) _ _ _ hG hS (lv_sub hl [2, 3] rfl)
            · have hstp : stp wd hi sl h c := (stp_low hd hc.1 hc.2).mpr (by omega)
              refine x_aload_n E dX1_settle_67 (lv_at hl 2 rfl) ?_
              refine x_getr E hI hG (xd0 hX hb) cf1 1 (b + 1) rfl (by decide) kf_X1_45 dX1_settle_68 ?_
              refine x_iload_n E dX1_settle_71 (lv_at hl 1 rfl) ?_
              refine x_dup2 E dX1_settle_72 rfl rfl ?_
              refine x_iald E hI hG (xd1 hX hb) (h c) (by rw [sp_ij V (by omega)]) (by omega) dX1_settle_73 ?_
              refine x_iconst E dX1_settle_74 ?_
              refine x_isub E dX1_settle_75 ?_
              refine x_iast E hI hG hS (xd1 hX hb) (by omega) dX1_settle_76 (fun H locs hG hS => ?_)
              rw [show (st (sp (sp V (b + 1) h) (b + 9) f) (b + 1) c ((h c) - 1)) = (sp (sp V (b + 1) (ui h c (h c - 1))) (b + 9) f) from st_in V (by omega) _ _ _ _] at hG
              refine x_aload_n E dX1_settle_77 (lv_at hl 2 rfl) ?_
              refine x_getr E hI hG (xd0 hX hb) cf1 1 (b + 1) rfl (by decide) kf_X1_45 dX1_settle_78 ?_
              refine x_iload_n E dX1_settle_81 (lv_at hl 0 rfl) ?_
              refine x_dup2 E dX1_settle_82 rfl rfl ?_
              refine x_iald E hI hG (xd1 hX hb) (h (lowN wd hi h c)) (by rw [sp_ij V (by omega), ui_n t3]) (by omega) dX1_settle_83 ?_
              refine x_iconst E dX1_settle_84 ?_
              refine x_iadd E dX1_settle_85 ?_
              refine x_iast E hI hG hS (xd1 hX hb) (by omega) dX1_settle_86 (fun H locs hG hS => ?_)
              rw [show (st (sp (sp V (b + 1) (ui h c (h c - 1))) (b + 9) f) (b + 1) (lowN wd hi h c) ((h (lowN wd hi h c)) + 1)) = (sp (sp V (b + 1) (slide wd hi h c)) (b + 9) f) from st_in V (by omega) _ _ _ _] at hG
              have hsm3 : Sh (sp (sp V (b + 1) (slide wd hi h c)) (b + 9) f) n wd hi := (hs.sp (by omega) _).sp (by omega) _
              have hbs : bnd n 0 9500 (slide wd hi h c) := slide_bnd hd hl9.1 hh hc.1 hc.2 hstp
              refine x_aload_n E dX1_settle_87 (lv_at hl 2 rfl) ?_
              refine x_iload_n E dX1_settle_88 (lv_at hl 1 rfl) ?_
              refine x_cv hG hS (x_runV E hI hG hS (xd0 hX hb) cf1 rfl (c_X1_doubtAbove l hX hb (sp (sp V (b + 1) (slide wd hi h c)) (b + 9) f) hsm3 (slide wd hi h c) (sp_ij V (by omega) _ _) hbs sl (by rw [sp_3 V (by omega) (by omega)]; exact hsl) hl9 (B := B1) (by rw [sp_s]; exact hf) c hc) mf_X1_doubtAbove km_X1_90 rfl hl rfl (Nat.le_of_ble_eq_true rfl) (by rw [hR]; exact ⟨Nat.le_of_ble_eq_true rfl, Nat.le_of_ble_eq_true rfl⟩) ⟨Nat.zero_le _, Nat.zero_le _⟩ dX1_settle_89) (fun V1 H locs hp hG hS => ?_)
              obtain ⟨f2, B2, eV, hf2, dd1, d2, d3, d4⟩ := hp
              rw [sp_sp] at eV
              rw [eV] at hG
              refine x_aload_n E dX1_settle_92 (lv_at hl 2 rfl) ?_
              refine x_getr E hI hG (xd0 hX hb) cf1 8 (b + 8) rfl (by decide) kf_X1_12 dX1_settle_93 ?_
              refine x_iload_n E dX1_settle_96 (lv_at hl 0 rfl) ?_
              refine x_cv hG hS (x_runV E hI hG hS (xd8 hX hb) cf0 rfl (c_X0_add l hX hb (sp (sp V (b + 1) (slide wd hi h c)) (b + 9) f2) (B := B2) (by rw [sp_s]; exact hf2) (lowN wd hi h c) (by omega)) mf_X0_add km_X1_94 rfl hl rfl (Nat.le_of_ble_eq_true rfl) (by rw [hR]; exact ⟨Nat.le_of_ble_eq_true rfl, Nat.le_of_ble_eq_true rfl⟩) ⟨Nat.zero_le _, Nat.zero_le _⟩ dX1_settle_97) (fun V1 H locs hp hG hS => ?_)
              obtain ⟨f3, eV, hf3⟩ := hp
              rw [sp_sp] at eV
              rw [eV] at hG
              refine x_goto E 111 dX1_settle_100 (by decide) ?_
              exact L111_2 (slide wd hi h c) f3 (bset B2 (lowN wd hi h c) true) (by omega) (by
                          obtain ⟨k, ek⟩ := hk
                          refine ⟨k + 1, ?_⟩
                          show _ = sstep n wd hi sl (itr n wd hi sl h0 k)
                          rw [← ek]
                          refine (sstep_at ⟨hc.1, hc.2, hstp, fun d d0 d1 q => ?_⟩).symm
                          have a := g3 d d0 (by omega) q
                          rcases hz with ⟨z, -⟩ | ⟨-, -, -, z⟩
                          · omega
                          · rw [z d d0 d1] at a; cases a) hf3 (fun d q => by
                          unfold bset at q
                          split at q
                          · rename_i z; rw [z]; exact ⟨t1, t2⟩
                          · exact (d2 d q).elim (g2 d) id) (fun d d0 d1 q => by
                          unfold bset
                          split
                          · rfl
                          · rename_i z
                            rcases slide_new hd hl9.1 hc.1 hc.2 hstp d0 d1 q with y | y | ⟨k, k0, k1, k2, k3⟩
                            · exact dd1 d (g3 d d0 d1 y)
                            · exact absurd y z
                            · rw [← k2]; exact d3 k k0 k1 (by omega) (by rw [k2]; exact k3)) hbs (by
                          rw [cntB_set t1 t2]
                          have a := slide_sq (m := m0) hd hl9.1 hc.1 hc.2 hstp
                          have b1 := b2i_le (B2 (lowN wd hi h c))
                          have b3 : b2i true = 1 := rfl
                          omega) _ _ _ hG hS (lv_sub hl [2, 3] rfl)
        · have hnc := b01_iff0.mp c24
          have hno : ∀ d : Int, 0 ≤ d → d < 192 → B1 d = false := by
            rcases hz with ⟨-, q⟩ | ⟨q1, q2, q3, -⟩
            · exact q
            · exact absurd (g2 c q3) hnc
          have hset : settled n wd hi sl h := fun d d0 d1 q => by
            have := g3 d d0 d1 q
            rw [hno d d0 (by omega)] at this
            cases this
          obtain ⟨k, ek⟩ := hk
          have est : stl n wd hi sl h0 = h := by rw [ek] at hset ⊢; exact stl_of hset
          have hG := hG.ext (V' := sp (sp V (b + 1) (stl n wd hi sl h0)) (b + 9) (fun _ => 0)) (fun p k hp hk => by
            rw [est]
            by_cases e : p = b + 9
            · subst e
              rw [(xd9 hX hb).1] at hk
              rw [sp_s, sp_s]
              exact (hf.none hno hk.1 hk.2).symm
            · rw [sp_n e, sp_n e])
          exact r_v E hQ hG hS dX1_settle_27 rfl
  exact L2_1 _ 0 h0 (V (b + 9)) B (by omega) (⟨0, rfl⟩) hB hB2 hst hbn (by have := cntB_le n B; omega) (Nat.lt_succ_self _) _ _ _ hG hS (lv_sub hl [1, 0] rfl)
