set_option maxHeartbeats 4000000 in
set_option maxRecDepth 100000 in
theorem m_X3 (l : Launch) {D : va_G} {C : Nat → ClassId} {z : Nat → Nat} (h : Nat) {n : Nat} {wd hi : Int} (hd : dims n wd hi) : Cs l D C z yX3_init cX3_init 8 1 1 640 12 [.ref h, .int (jI wd), .int (jI hi)] [(h, .inr (3, [.int (jI 0), .int (jI 0), .int (jI 0), .null]))] (fun w => ∃ (a : Nat) (g : Int → Int), (∀ c k : Int, 0 ≤ c → c < (n : Int) → 0 ≤ k → k < 4 → g (c * 4 + k) = nb wd hi c k) ∧ w = [(a, .inl (C 0, n * 4, .inl (fun j => jI (g (j : Int))))), (h, .inr (3, [.int (jI wd), .int (jI hi), .int (jI (wd * hi)), .ref a]))]) := by
  refine Cs.go (by decide) rfl (Nat.le_of_ble_eq_true rfl) ?_
  intro pg ev s0 mi bl mt cd ls Rm ag Qq A hR hQ E hin K Z hP hD hS hA hl
  have hl : lv_has ls 8 [(0, .ref h), (1, .int (jI wd)), (2, .int (jI hi))] := hl
  obtain ⟨hn1, hn2⟩ := dims.n hd
  obtain ⟨w1, w2, w3, w4⟩ := hd.2
  refine x_aload_n E dX3_init_0 (lv_at hl 0 rfl) ?_
  refine n_obj E hl km_X3_3 dX3_init_1 (by rw [hR]; exact ⟨Nat.le_of_ble_eq_true rfl, Nat.le_of_ble_eq_true rfl⟩) ⟨_, rfl⟩ ?_
  refine x_aload_n E dX3_init_4 (lv_at hl 0 rfl) ?_
  refine x_iload_n E dX3_init_5 (lv_at hl 1 rfl) ?_
  refine n_putF E hin K hP hD hS cf3 0 (by decide) rfl rfl (v := .int (jI wd)) rfl rfl (Nat.le_of_ble_eq_true rfl) kf_X3_9 dX3_init_6 (fun H locs hP hD hS => ?_)
  refine x_aload_n E dX3_init_9 (lv_at hl 0 rfl) ?_
  refine x_iload_n E dX3_init_10 (lv_at hl 2 rfl) ?_
  refine n_putF E hin K hP hD hS cf3 1 (by decide) rfl rfl (v := .int (jI hi)) rfl rfl (Nat.le_of_ble_eq_true rfl) kf_X3_15 dX3_init_11 (fun H locs hP hD hS => ?_)
  refine x_aload_n E dX3_init_14 (lv_at hl 0 rfl) ?_
  refine x_iload_n E dX3_init_15 (lv_at hl 1 rfl) ?_
  refine x_iload_n E dX3_init_16 (lv_at hl 2 rfl) ?_
  refine x_imul E dX3_init_17 ?_
  refine n_putF E hin K hP hD hS cf3 2 (by decide) rfl rfl (v := .int (jI (wd * hi))) rfl rfl (Nat.le_of_ble_eq_true rfl) kf_X3_18 dX3_init_18 (fun H locs hP hD hS => ?_)
  refine x_aload_n E dX3_init_21 (lv_at hl 0 rfl) ?_
  refine x_aload_n E dX3_init_22 (lv_at hl 0 rfl) ?_
  refine n_get E K hP 0 rfl cf3 2 (by decide) (v := .int (jI (wd * hi))) rfl kf_X3_18 dX3_init_23 ?_
  refine x_iconst E dX3_init_26 ?_
  refine x_imul E dX3_init_27 ?_
  refine n_newI E K hP hD hS hA (n * 4) (by have := hd.1; omega) (by omega) (by rw [hR]; exact Nat.le_of_ble_eq_true rfl) (by rw [hR]; show _ ≤ (640 : Nat); omega) dX3_init_28 (fun q1 H hP hD hS => ?_)
  refine n_putF E hin K hP hD hS cf3 3 (by decide) rfl rfl (v := .ref q1) rfl rfl (Nat.le_of_ble_eq_true rfl) kf_X3_21 dX3_init_30 (fun H locs hP hD hS => ?_)
  refine W.widen (k := 1) (n := 640) (Nat.le_of_ble_eq_true rfl) (by omega) ?_
  obtain ⟨X, eX⟩ : ∃ X : We, X = ((D, C, (fun p => if p = 0 then h else q1), (fun p => if p = 0 then .inr (3, [none, none, none, some 1]) else .inl (0, n * 4)), 2, z, A) : We) := ⟨_, rfl⟩
  have hG : GW ((D, C, (fun p => if p = 0 then h else q1), (fun p => if p = 0 then .inr (3, [none, none, none, some 1]) else .inl (0, n * 4)), 2, z, A) : We) (fun p k => if p = 0 then (if k = 0 then wd else if k = 1 then hi else wd * hi) else 0) H := hP
  have hI0 : wI ((D, C, (fun p => if p = 0 then h else q1), (fun p => if p = 0 then .inr (3, [none, none, none, some 1]) else .inl (0, n * 4)), 2, z, A) : We) := ⟨fun i j hi' hj e => by
    have hD0 := hD.1 0 1 _ _ rfl rfl
    rcases (show i = 0 ∨ i = 1 from by have : i < 2 := hi'; omega) with rfl | rfl <;> rcases (show j = 0 ∨ j = 1 from by have : j < 2 := hj; omega) with rfl | rfl
    · rfl
    · exact absurd (hD0 e) (by decide)
    · exact absurd (hD0 e.symm) (by decide)
    · rfl, fun i hi' => by
    rcases (show i = 0 ∨ i = 1 from by have : i < 2 := hi'; omega) with rfl | rfl
    · exact hD.2 0 _ rfl
    · exact hD.2 1 _ rfl⟩
  have hL0 : wL ((D, C, (fun p => if p = 0 then h else q1), (fun p => if p = 0 then .inr (3, [none, none, none, some 1]) else .inl (0, n * 4)), 2, z, A) : We) := fun p q e => by
    have e : (if p = 0 then Sum.inr (3, [none, none, none, some 1]) else Sum.inl (0, n * 4) : Pd) = Sum.inl q := e
    split at e
    · cases e
    · have := Sum.inl.inj e
      rw [← this]; show n * 4 < 2147483648; omega
  have hI : GJ X s0 := by rw [eX]; exact ⟨K, hI0, hL0, Z, trivial⟩
  have t0 : At X 0 (.inr (3, [none, none, none, some 1])) := by rw [eX]; exact ⟨rfl, Nat.le_of_ble_eq_true rfl⟩
  have t1 : At X 1 (.inl (0, n * 4)) := by rw [eX]; exact ⟨rfl, Nat.le_of_ble_eq_true rfl⟩
  have hw : h = wa X 0 := by rw [eX]; rfl
  have hw1 : q1 = wa X 1 := by rw [eX]; rfl
  rw [← eX] at hG
  have hS : va_S (wA X) s0.heap H locs := by rw [eX]; exact hS
  rw [hw] at hl
  obtain ⟨V, eV⟩ : ∃ V : Mem, V = (fun p k => if p = 0 then (if k = 0 then wd else if k = 1 then hi else wd * hi) else 0) := ⟨_, rfl⟩
  rw [← eV] at hG
  rw [show V = sp V 1 (V 1) from (sp_self _ _).symm] at hG
  refine x_iconst E dX3_init_33 ?_
  refine x_istore_n E [(3, .int (jI 0)), (0, .ref (wa X 0)), (1, .int (jI wd)), (2, .int (jI hi))] dX3_init_34 hl (by decide) rfl (fun ls hl => ?_)
  have L35_1 : ∀ (N : Nat) (y : Int) (g : Int → Int), (0 ≤ y) → (y ≤ hi) → (∀ c k : Int, 0 ≤ c → c < y * wd → 0 ≤ k → k < 4 → g (c * 4 + k) = nb wd hi c k) → ((hi - y).toNat) < N → ∀ (H : Heap) (locs : List Loc) (ls : Array Slot), GW X (sp V 1 g) H → va_S (wA X) s0.heap H locs → lv_has ls 8 [(0, .ref (wa X 0)), (1, .int (jI wd)), (2, .int (jI hi)), (3, .int (jI y))] → W pg l ev Rm s0 mi ag bl mt cd H locs 1 640 Qq (F0 mi 35 ls []) := by
    intro N
    induction N with
    | zero => intro y g y0 y1 hg hN; exact absurd hN (Nat.not_lt_zero _)
    | succ N ih35 =>
      intro y g y0 y1 hg hN H locs ls hG hS hl
      refine x_iload_n E dX3_init_35 (lv_at hl 3 rfl) ?_
      refine x_iload_n E dX3_init_36 (lv_at hl 2 rfl) ?_
      refine x_icmp_ge E 185 dX3_init_37 (by decide) (by unfold rg; omega) (by unfold rg; omega) (fun c37 => ?_) (fun c37 => ?_)
      · have hyh : y = hi := by omega
        have hgn : ∀ c k : Int, 0 ≤ c → c < (n : Int) → 0 ≤ k → k < 4 → g (c * 4 + k) = nb wd hi c k := fun c k c0 c1 => hg c k c0 (by rw [hyh, Int.mul_comm, ← hd.1]; exact c1)
        rw [eX, eV] at hG
        rw [eX] at hS
        have hP2 := va_P.sub (ws' := [(q1, .inl (C 0, n * 4, .inl (fun j => jI (g (j : Int))))), (h, .inr (3, [.int (jI wd), .int (jI hi), .int (jI (wd * hi)), .ref q1]))]) hG [1, 0] rfl
        have hD2 := va_D.sub (ws' := [(q1, .inl (C 0, n * 4, .inl (fun j => jI (g (j : Int))))), (h, .inr (3, [.int (jI wd), .int (jI hi), .int (jI (wd * hi)), .ref q1]))]) (gw_D hI0 (sp (fun p k => if p = 0 then (if k = 0 then wd else if k = 1 then hi else wd * hi) else 0) 1 g)) [1, 0] (by decide) rfl
        exact n_ret E hQ hP2 hD2 hS dX3_init_185 ⟨q1, g, hgn, rfl⟩
      · have L54_2 : ∀ (so : Int), (so = (if y + 1 < hi then y + 1 else 0)) → ∀ (H : Heap) (locs : List Loc) (ls : Array Slot), GW X (sp V 1 g) H → va_S (wA X) s0.heap H locs → lv_has ls 8 [(0, .ref (wa X 0)), (1, .int (jI wd)), (2, .int (jI hi)), (3, .int (jI y))] → W pg l ev Rm s0 mi ag bl mt cd H locs 1 640 Qq (F0 mi 54 ls [.int (jI so)]) := by
          intro so hso H locs ls hG hS hl
          refine x_istore E [(4, .int (jI so)), (0, .ref (wa X 0)), (1, .int (jI wd)), (2, .int (jI hi)), (3, .int (jI y))] dX3_init_54 hl (by decide) rfl (fun ls hl => ?_)
          have L69_3 : ∀ (no : Int), (no = (if 0 < y then y - 1 else hi - 1)) → ∀ (H : Heap) (locs : List Loc) (ls : Array Slot), GW X (sp V 1 g) H → va_S (wA X) s0.heap H locs → lv_has ls 8 [(0, .ref (wa X 0)), (1, .int (jI wd)), (2, .int (jI hi)), (3, .int (jI y)), (4, .int (jI so))] → W pg l ev Rm s0 mi ag bl mt cd H locs 1 640 Qq (F0 mi 69 ls [.int (jI no)]) := by
            intro no hno H locs ls hG hS hl
            refine x_istore E [(5, .int (jI no)), (0, .ref (wa X 0)), (1, .int (jI wd)), (2, .int (jI hi)), (3, .int (jI y)), (4, .int (jI so))] dX3_init_69 hl (by decide) rfl (fun ls hl => ?_)
            refine x_iconst E dX3_init_71 ?_
            refine x_istore E [(6, .int (jI 0)), (5, .int (jI no)), (0, .ref (wa X 0)), (1, .int (jI wd)), (2, .int (jI hi)), (3, .int (jI y)), (4, .int (jI so))] dX3_init_72 hl (by decide) rfl (fun ls hl => ?_)
            have L74_4 : ∀ (N : Nat) (x : Int) (g : Int → Int), (0 ≤ x) → (x ≤ wd) → (∀ c k : Int, 0 ≤ c → c < y * wd + x → 0 ≤ k → k < 4 → g (c * 4 + k) = nb wd hi c k) → ((wd - x).toNat) < N → ∀ (H : Heap) (locs : List Loc) (ls : Array Slot), GW X (sp V 1 g) H → va_S (wA X) s0.heap H locs → lv_has ls 8 [(0, .ref (wa X 0)), (1, .int (jI wd)), (2, .int (jI hi)), (3, .int (jI y)), (4, .int (jI so)), (5, .int (jI no)), (6, .int (jI x))] → W pg l ev Rm s0 mi ag bl mt cd H locs 1 640 Qq (F0 mi 74 ls []) := by
              intro N
              induction N with
              | zero => intro x g x0 x1 hg hN; exact absurd hN (Nat.not_lt_zero _)
              | succ N ih74 =>
                intro x g x0 x1 hg hN H locs ls hG hS hl
                refine x_iload E dX3_init_74 (lv_at hl 6 rfl) ?_
                refine x_iload_n E dX3_init_76 (lv_at hl 1 rfl) ?_
                refine x_icmp_ge E 179 dX3_init_77 (by decide) (by unfold rg; omega) (by unfold rg; omega) (fun c77 => ?_) (fun c77 => ?_)
                · refine x_iinc E (k := 3) [(3, .int (jI (y + 1))), (0, .ref (wa X 0)), (1, .int (jI wd)), (2, .int (jI hi)), (4, .int (jI so)), (5, .int (jI no)), (6, .int (jI x))] dX3_init_179 hl rfl (by decide) rfl (fun ls hl => ?_)
                  refine x_goto E 35 dX3_init_182 (by decide) ?_
                  exact ih35 (y + 1) g (by omega) (by omega) (fun c k c0 c1 => hg c k c0 (by rw [Int.add_mul] at c1; rw [show x = wd by omega]; omega)) (by omega) _ _ _ hG hS (lv_sub hl [1, 2, 3, 0] rfl)
                · refine x_iload_n E dX3_init_80 (lv_at hl 3 rfl) ?_
                  refine x_iload_n E dX3_init_81 (lv_at hl 1 rfl) ?_
                  refine x_imul E dX3_init_82 ?_
                  refine x_iload E dX3_init_83 (lv_at hl 6 rfl) ?_
                  refine x_iadd E dX3_init_85 ?_
                  refine x_istore E [(7, .int (jI ((y * wd) + x))), (0, .ref (wa X 0)), (1, .int (jI wd)), (2, .int (jI hi)), (3, .int (jI y)), (4, .int (jI so)), (5, .int (jI no)), (6, .int (jI x))] dX3_init_86 hl (by decide) rfl (fun ls hl => ?_)
                  have hcc := cell_of hd y0 (show y < hi by omega) x0 (show x < wd by omega)
                  have hnb := nb_xy hd y0 (show y < hi by omega) x0 (show x < wd by omega)
                  have hcr : 0 ≤ ((y * wd) + x) ∧ ((y * wd) + x) < (n : Int) := ⟨hcc.1, hcc.2.1⟩
                  have L112_5 : ∀ (n0 : Int), (n0 = nb wd hi ((y * wd) + x) 0) → ∀ (H : Heap) (locs : List Loc) (ls : Array Slot), GW X (sp V 1 g) H → va_S (wA X) s0.heap H locs → lv_has ls 8 [(0, .ref (wa X 0)), (1, .int (jI wd)), (2, .int (jI hi)), (3, .int (jI y)), (4, .int (jI so)), (5, .int (jI no)), (6, .int (jI x)), (7, .int (jI ((y * wd) + x)))] → W pg l ev Rm s0 mi ag bl mt cd H locs 1 640 Qq (F0 mi 112 ls [.int (jI n0), .int (jI (((y * wd) + x) * 4)), .ref (wa X 1)]) := by
                    intro n0 h0 H locs ls hG hS hl
                    refine x_iast E hI hG hS t1 (by omega) dX3_init_112 (fun H locs hG hS => ?_)
                    rw [show (st (sp V 1 g) 1 (((y * wd) + x) * 4) n0) = (sp V 1 (ui g (((y * wd) + x) * 4) n0)) from sp_st _ _ _ _ _] at hG
                    have L136_6 : ∀ (n1 : Int), (n1 = nb wd hi ((y * wd) + x) 1) → ∀ (H : Heap) (locs : List Loc) (ls : Array Slot), GW X (sp V 1 (ui g (((y * wd) + x) * 4) n0)) H → va_S (wA X) s0.heap H locs → lv_has ls 8 [(0, .ref (wa X 0)), (1, .int (jI wd)), (2, .int (jI hi)), (3, .int (jI y)), (4, .int (jI so)), (5, .int (jI no)), (6, .int (jI x)), (7, .int (jI ((y * wd) + x)))] → W pg l ev Rm s0 mi ag bl mt cd H locs 1 640 Qq (F0 mi 136 ls [.int (jI n1), .int (jI ((((y * wd) + x) * 4) + 1)), .ref (wa X 1)]) := by
                      intro n1 h1 H locs ls hG hS hl
                      refine x_iast E hI hG hS t1 (by omega) dX3_init_136 (fun H locs hG hS => ?_)
                      rw [show (st (sp V 1 (ui g (((y * wd) + x) * 4) n0)) 1 ((((y * wd) + x) * 4) + 1) n1) = (sp V 1 (ui (ui g (((y * wd) + x) * 4) n0) ((((y * wd) + x) * 4) + 1) n1)) from sp_st _ _ _ _ _] at hG
                      refine x_aload_n E dX3_init_137 (lv_at hl 0 rfl) ?_
                      refine x_getr E hI hG t0 cf3 3 1 rfl (by decide) kf_X3_21 dX3_init_138 ?_
                      refine x_iload E dX3_init_141 (lv_at hl 7 rfl) ?_
                      refine x_iconst E dX3_init_143 ?_
                      refine x_imul E dX3_init_144 ?_
                      refine x_iconst E dX3_init_145 ?_
                      refine x_iadd E dX3_init_146 ?_
                      refine x_iload E dX3_init_147 (lv_at hl 4 rfl) ?_
                      refine x_iload_n E dX3_init_149 (lv_at hl 1 rfl) ?_
                      refine x_imul E dX3_init_150 ?_
                      refine x_iload E dX3_init_151 (lv_at hl 6 rfl) ?_
                      refine x_iadd E dX3_init_153 ?_
                      refine x_iast E hI hG hS t1 (by omega) dX3_init_154 (fun H locs hG hS => ?_)
                      rw [show (st (sp V 1 (ui (ui g (((y * wd) + x) * 4) n0) ((((y * wd) + x) * 4) + 1) n1)) 1 ((((y * wd) + x) * 4) + 2) ((so * wd) + x)) = (sp V 1 (ui (ui (ui g (((y * wd) + x) * 4) n0) ((((y * wd) + x) * 4) + 1) n1) ((((y * wd) + x) * 4) + 2) ((so * wd) + x))) from sp_st _ _ _ _ _] at hG
                      refine x_aload_n E dX3_init_155 (lv_at hl 0 rfl) ?_
                      refine x_getr E hI hG t0 cf3 3 1 rfl (by decide) kf_X3_21 dX3_init_156 ?_
                      refine x_iload E dX3_init_159 (lv_at hl 7 rfl) ?_
                      refine x_iconst E dX3_init_161 ?_
                      refine x_imul E dX3_init_162 ?_
                      refine x_iconst E dX3_init_163 ?_
                      refine x_iadd E dX3_init_164 ?_
                      refine x_iload E dX3_init_165 (lv_at hl 5 rfl) ?_
                      refine x_iload_n E dX3_init_167 (lv_at hl 1 rfl) ?_
                      refine x_imul E dX3_init_168 ?_
                      refine x_iload E dX3_init_169 (lv_at hl 6 rfl) ?_
                      refine x_iadd E dX3_init_171 ?_
                      refine x_iast E hI hG hS t1 (by omega) dX3_init_172 (fun H locs hG hS => ?_)
                      rw [show (st (sp V 1 (ui (ui (ui g (((y * wd) + x) * 4) n0) ((((y * wd) + x) * 4) + 1) n1) ((((y * wd) + x) * 4) + 2) ((so * wd) + x))) 1 ((((y * wd) + x) * 4) + 3) ((no * wd) + x)) = (sp V 1 (ui (ui (ui (ui g (((y * wd) + x) * 4) n0) ((((y * wd) + x) * 4) + 1) n1) ((((y * wd) + x) * 4) + 2) ((so * wd) + x)) ((((y * wd) + x) * 4) + 3) ((no * wd) + x))) from sp_st _ _ _ _ _] at hG
                      refine x_iinc E (k := 6) [(6, .int (jI (x + 1))), (0, .ref (wa X 0)), (1, .int (jI wd)), (2, .int (jI hi)), (3, .int (jI y)), (4, .int (jI so)), (5, .int (jI no)), (7, .int (jI ((y * wd) + x)))] dX3_init_173 hl rfl (by decide) rfl (fun ls hl => ?_)
                      refine x_goto E 74 dX3_init_176 (by decide) ?_
                      exact ih74 (x + 1) (ui (ui (ui (ui g (((y * wd) + x) * 4) n0) ((((y * wd) + x) * 4) + 1) n1) ((((y * wd) + x) * 4) + 2) ((so * wd) + x)) ((((y * wd) + x) * 4) + 3) ((no * wd) + x)) (by omega) (by omega) (fun c k c0 c1 k0 k1 => by
                                                                                    rcases (show c < y * wd + x ∨ c = y * wd + x by omega) with q | q
                                                                                    · rw [ui_n (by omega), ui_n (by omega), ui_n (by omega), ui_n (by omega)]; exact hg c k c0 q k0 k1
                                                                                    · subst q
                                                                                      rcases k4 k0 k1 with rfl | rfl | rfl | rfl
                                                                                      · rw [ui_n (by omega), ui_n (by omega), ui_n (by omega), Int.add_zero, ui_s]; exact h0
                                                                                      · rw [ui_n (by omega), ui_n (by omega), ui_s]; exact h1
                                                                                      · rw [ui_n (by omega), ui_s, hso]; exact hnb.2.2.1.symm
                                                                                      · rw [ui_s, hno]; exact hnb.2.2.2.symm) (by omega) _ _ _ hG hS (lv_sub hl [1, 2, 3, 4, 5, 6, 0] rfl)
                    refine x_aload_n E dX3_init_113 (lv_at hl 0 rfl) ?_
                    refine x_getr E hI hG t0 cf3 3 1 rfl (by decide) kf_X3_21 dX3_init_114 ?_
                    refine x_iload E dX3_init_117 (lv_at hl 7 rfl) ?_
                    refine x_iconst E dX3_init_119 ?_
                    refine x_imul E dX3_init_120 ?_
                    refine x_iconst E dX3_init_121 ?_
                    refine x_iadd E dX3_init_122 ?_
                    refine x_iload E dX3_init_123 (lv_at hl 6 rfl) ?_
                    refine x_if_le E 135 dX3_init_125 (by decide) (by unfold rg; omega) (fun c125 => ?_) (fun c125 => ?_)
                    · refine x_iconst E dX3_init_135 ?_
                      exact L136_6 (-1) (by rw [hnb.2.1, if_neg (by omega)]) _ _ _ hG hS (lv_sub hl [0, 1, 2, 3, 4, 5, 6, 7] rfl)
                    · refine x_iload E dX3_init_128 (lv_at hl 7 rfl) ?_
                      refine x_iconst E dX3_init_130 ?_
                      refine x_isub E dX3_init_131 ?_
                      refine x_goto E 136 dX3_init_132 (by decide) ?_
                      exact L136_6 (((y * wd) + x) - 1) (by rw [hnb.2.1, if_pos (by omega), Int.add_sub_assoc]) _ _ _ hG hS (lv_sub hl [0, 1, 2, 3, 4, 5, 6, 7] rfl)
                  refine x_aload_n E dX3_init_88 (lv_at hl 1 rfl) ?_
                  refine x_getr E hI hG t0 cf3 3 1 rfl (by decide) kf_X3_21 dX3_init_89 ?_
                  refine x_iload E dX3_init_92 (lv_at hl 0 rfl) ?_
                  refine x_iconst E dX3_init_94 ?_
                  refine x_imul E dX3_init_95 ?_
                  refine x_iload E dX3_init_96 (lv_at hl 7 rfl) ?_
                  refine x_iconst E dX3_init_98 ?_
                  refine x_iadd E dX3_init_99 ?_
                  refine x_iload_n E dX3_init_100 (lv_at hl 2 rfl) ?_
                  refine x_icmp_ge E 111 dX3_init_101 (by decide) (by unfold rg; omega) (by unfold rg; omega) (fun c101 => ?_) (fun c101 => ?_)
                  · refine x_iconst E dX3_init_111 ?_
                    exact L112_5 (-1) (by rw [hnb.1, if_neg (by omega)]) _ _ _ hG hS (lv_sub hl [1, 2, 3, 4, 5, 6, 7, 0] rfl)
                  · refine x_iload E dX3_init_104 (lv_at hl 0 rfl) ?_
                    refine x_iconst E dX3_init_106 ?_
                    refine x_iadd E dX3_init_107 ?_
                    refine x_goto E 112 dX3_init_108 (by decide) ?_
                    exact L112_5 (((y * wd) + x) + 1) (by rw [hnb.1, if_pos (by omega), Int.add_assoc]) _ _ _ hG hS (lv_sub hl [1, 2, 3, 4, 5, 6, 7, 0] rfl)
            exact L74_4 _ 0 g (by omega) (by omega) (fun c k c0 c1 => hg c k c0 (by omega)) (Nat.lt_succ_self _) _ _ _ hG hS (lv_sub hl [2, 3, 4, 5, 6, 1, 0] rfl)
          refine x_iload_n E dX3_init_56 (lv_at hl 4 rfl) ?_
          refine x_if_le E 66 dX3_init_57 (by decide) (by unfold rg; omega) (fun c57 => ?_) (fun c57 => ?_)
          · refine x_iload_n E dX3_init_66 (lv_at hl 3 rfl) ?_
            refine x_iconst E dX3_init_67 ?_
            refine x_isub E dX3_init_68 ?_
            exact L69_3 (hi - 1) (by rw [if_neg (by omega)]) _ _ _ hG hS (lv_sub hl [1, 2, 3, 4, 0] rfl)
          · refine x_iload_n E dX3_init_60 (lv_at hl 4 rfl) ?_
            refine x_iconst E dX3_init_61 ?_
            refine x_isub E dX3_init_62 ?_
            refine x_goto E 69 dX3_init_63 (by decide) ?_
            exact L69_3 (y - 1) (by rw [if_pos (by omega)]) _ _ _ hG hS (lv_sub hl [1, 2, 3, 4, 0] rfl)
        refine x_iload_n E dX3_init_40 (lv_at hl 3 rfl) ?_
        refine x_iconst E dX3_init_41 ?_
        refine x_iadd E dX3_init_42 ?_
        refine x_iload_n E dX3_init_43 (lv_at hl 2 rfl) ?_
        refine x_icmp_ge E 53 dX3_init_44 (by decide) (by unfold rg; omega) (by unfold rg; omega) (fun c44 => ?_) (fun c44 => ?_)
        · refine x_iconst E dX3_init_53 ?_
          exact L54_2 0 (by rw [if_neg (by omega)]) _ _ _ hG hS (lv_sub hl [0, 1, 2, 3] rfl)
        · refine x_iload_n E dX3_init_47 (lv_at hl 3 rfl) ?_
          refine x_iconst E dX3_init_48 ?_
          refine x_iadd E dX3_init_49 ?_
          refine x_goto E 54 dX3_init_50 (by decide) ?_
          exact L54_2 (y + 1) (by rw [if_pos (by omega)]) _ _ _ hG hS (lv_sub hl [0, 1, 2, 3] rfl)
  exact L35_1 _ 0 (V 1) (by omega) (by omega) (fun c k c0 c1 => by omega) (Nat.lt_succ_self _) _ _ _ hG hS (lv_sub hl [1, 2, 3, 0] rfl)
