/-- what read() leaves -/
def RdP (V V1 : Mem) (z : Int) : Prop := z = b01 ((PR0 (V 46) (V 45 1)).1 = 0) ∧ V1 45 1 = V 45 1 ∧ V1 45 2 = (PR0 (V 46) (V 45 1)).1 ∧ V1 45 3 = (PR0 (V 46) (V 45 1)).2.1 ∧ (V1 47 2 = (PR0 (V 46) (V 45 1)).2.2.1 ∧ V1 47 3 = 0 ∧ V1 47 4 = 0 ∧ ∀ k : Int, 0 ≤ k → k < (PR0 (V 46) (V 45 1)).2.2.1 → V1 48 k = (PR0 (V 46) (V 45 1)).2.2.2.1 k ∧ V1 49 k = (PR0 (V 46) (V 45 1)).2.2.2.2 k) ∧ ∀ p, p ≠ 45 → p ≠ 47 → p ≠ 48 → p ≠ 49 → V1 p = V p
/-- a reading under way -/
def RdI (V U : Mem) (ix due word : Int) (wf df : Int → Int) : Prop := (∀ p, p ≠ 47 → p ≠ 48 → p ≠ 49 → U p = V p) ∧ (U 47 3 = 0 ∧ U 47 4 = 0) ∧ (0 ≤ U 47 2 ∧ U 47 2 ≤ 20) ∧ (∀ k : Int, 0 ≤ k → k < U 47 2 → U 48 k = wf k ∧ U 49 k = df k) ∧ (due = 1 → U 47 2 < 20 ∧ 0 ≤ word ∧ word ≤ 4) ∧ PR (V 46) (V 45 1) ix due word (U 47 2) wf df = PR0 (V 46) (V 45 1)
theorem RdI.tell {V U : Mem} {ix due word : Int} {wf df : Int → Int} (h : RdI V U ix due word wf df) {k q : Int} (hr : PR0 (V 46) (V 45 1) = (k, q, U 47 2, wf, df)) : RdP V (st (st U 45 2 k) 45 3 q) (b01 (k = 0)) := by
  obtain ⟨h1, h2, h3, h4, -, -⟩ := h
  unfold RdP
  rw [hr]
  refine ⟨rfl, ?_, ?_, ?_, ⟨?_, ?_, ?_, fun j j0 j1 => ?_⟩, fun p p0 p1 p2 p3 => ?_⟩
  · rw [st_k (by decide), st_k (by decide), h1 45 (by decide) (by decide) (by decide)]
  · rw [st_k (by decide), st_s]
  · rw [st_s]
  · rw [st_p (by decide), st_p (by decide)]
  · rw [st_p (by decide), st_p (by decide)]; exact h2.1
  · rw [st_p (by decide), st_p (by decide)]; exact h2.2
  · rw [st_p (by decide), st_p (by decide), st_p (by decide), st_p (by decide)]; exact h4 j j0 j1
  · rw [st_p p0, st_p p0]; exact h1 p p1 p2 p3
def byt (x k : Int) : Int := ((jI x >>> (jI k &&& 31)).toInt8.toInt32).toInt
theorem byt_rg (x k : Int) : -128 ≤ byt x k ∧ byt x k < 128 := by
  unfold byt
  rw [Int8.toInt_toInt32]
  have h1 := Int8.le_toInt (jI x >>> (jI k &&& 31)).toInt8
  have h2 := Int8.toInt_lt (jI x >>> (jI k &&& 31)).toInt8
  omega
def ap1 (x k : Int) (V : Mem) : Mem := st (st V 46 (V 45 1) (byt x k)) 45 1 (V 45 1 + 1)
def apM (x : Int) (V : Mem) : Mem := ap1 x 0 (ap1 x 8 (ap1 x 16 (ap1 x 24 V)))
theorem ap1_1 (x k : Int) (V : Mem) : ap1 x k V 45 1 = V 45 1 + 1 := st_s _ _ _ _
theorem ap1_k (x k : Int) (V : Mem) {j : Int} (h : j ≠ 1) : ap1 x k V 45 j = V 45 j := by unfold ap1; rw [st_k h, st_p (by decide)]
theorem ap1_p (x k : Int) (V : Mem) {p : Nat} (h1 : p ≠ 45) (h2 : p ≠ 46) : ap1 x k V p = V p := by unfold ap1; rw [st_p h1, st_p h2]
theorem ap1_b (x k : Int) (V : Mem) : ap1 x k V 46 = ui (V 46) (V 45 1) (byt x k) := by unfold ap1; rw [st_p (by decide), st_sp, sp_s]

set_option maxHeartbeats 4000000 in
set_option maxRecDepth 100000 in
theorem c_X4_read (l : Launch) {X : We} {n : Nat} (hX : isX X n) (V : Mem) (hk : TP V) : Mt l X V yX4_read cX4_read 7 (some .boolean) 7 155 [.ref (wa X 45)] (Qi X (fun z V1 => RdP V V1 z)) := by
  refine Mt.go (by decide) (Nat.le_of_ble_eq_true rfl) ?_
  intro pg ev s0 mi bl mt cd ls Rm ag Qq hR hQ E hI hG hS hl
  have hl : lv_has ls 7 [(0, .ref (wa X 45))] := hl
  obtain ⟨⟨l0, l1⟩, hby⟩ := id hk
  refine x_aload_n E dX4_read_0 (lv_at hl 0 rfl) ?_
  refine x_getr E hI hG (xt0 hX) cf4 4 47 rfl (by decide) kf_X4_25 dX4_read_1 ?_
  refine x_cv hG hS (x_runV E hI hG hS (xw0 hX isW47) cf5 rfl (c_X5_clear l hX isW47 V) mf_X5_clear km_X4_32 rfl hl rfl (Nat.le_of_ble_eq_true rfl) (by rw [hR]; exact ⟨Nat.le_of_ble_eq_true rfl, Nat.le_of_ble_eq_true rfl⟩) ⟨Nat.zero_le _, Nat.zero_le _⟩ dX4_read_4) (fun V1 H locs hp hG hS => ?_)
  have qc := hp
  have k45 : V1 45 = V 45 := by rw [qc, st_p (by decide), st_p (by decide), st_p (by decide)]
  have k46 : V1 46 = V 46 := by rw [qc, st_p (by decide), st_p (by decide), st_p (by decide)]
  have kTP : TP V1 := by unfold TP; rw [k45, k46]; exact hk
  have kI : RdI V V1 (skF (V 46) (V 45 1) 0) 0 4 (fun _ => 0) (fun _ => 0) := by
    have e2 : V1 47 2 = 0 := by rw [qc, st_k (by decide), st_k (by decide), st_s]
    refine ⟨fun p p0 p1 p2 => by rw [qc, st_p p0, st_p p0, st_p p0], ⟨by rw [qc, st_k (by decide), st_s], by rw [qc, st_s]⟩, by omega, fun k k0 k1 => by omega, fun z => by omega, by rw [e2]; rfl⟩
  have ks := skF_rg (V 46) l0
  refine x_iconst E dX4_read_7 ?_
  refine x_istore_n E [(1, .int (jI 0)), (0, .ref (wa X 45))] dX4_read_8 hl (by decide) rfl (fun ls hl => ?_)
  refine x_iconst E dX4_read_9 ?_
  refine x_istore_n E [(2, .int (jI 4)), (1, .int (jI 0)), (0, .ref (wa X 45))] dX4_read_10 hl (by decide) rfl (fun ls hl => ?_)
  refine x_aload_n E dX4_read_11 (lv_at hl 2 rfl) ?_
  refine x_iconst E dX4_read_12 ?_
  refine x_ci hG hS (x_runV E hI hG hS (xt0 hX) cf4 rfl (c_X4_afterBlanks l hX V1 kTP 0 (by rw [k45]; omega)) mf_X4_afterBlanks km_X4_35 rfl hl rfl (Nat.le_of_ble_eq_true rfl) (by rw [hR]; exact ⟨Nat.le_of_ble_eq_true rfl, Nat.le_of_ble_eq_true rfl⟩) ⟨Nat.zero_le _, Nat.zero_le _⟩ dX4_read_13) (fun z1 V2 H locs hp hG hS => ?_)
  obtain ⟨ez, eV⟩ := hp
  rw [k46, k45] at ez
  rw [eV] at hG
  rw [ez]
  refine x_istore_n E [(3, .int (jI (skF (V 46) (V 45 1) 0))), (2, .int (jI 4)), (1, .int (jI 0)), (0, .ref (wa X 45))] dX4_read_16 hl (by decide) rfl (fun ls hl => ?_)
  refine x_iconst E dX4_read_17 ?_
  refine x_istore E [(4, .int (jI 0)), (3, .int (jI (skF (V 46) (V 45 1) 0))), (2, .int (jI 4)), (1, .int (jI 0)), (0, .ref (wa X 45))] dX4_read_18 hl (by decide) rfl (fun ls hl => ?_)
  have L20_1 : ∀ (N : Nat) (tk : Int) (ix : Int) (due : Int) (word : Int) (U : Mem) (wf : Int → Int) (df : Int → Int), (0 ≤ tk ∧ tk ≤ ix) → (ix ≤ V 45 1) → (0 ≤ due ∧ due ≤ 2) → (RdI V U ix due word wf df) → ((200 - tk).toNat) < N → ∀ (H : Heap) (locs : List Loc) (ls : Array Slot), GW X U H → va_S (wA X) s0.heap H locs → lv_has ls 7 [(0, .ref (wa X 45)), (1, .int (jI due)), (2, .int (jI word)), (3, .int (jI ix)), (4, .int (jI tk))] → W pg l ev Rm s0 mi ag bl mt cd H locs 0 0 Qq (F0 mi 20 ls []) := by
    intro N
    induction N with
    | zero => intro tk ix due word U wf df t0 ixL hd hI0 hN; exact absurd hN (Nat.not_lt_zero _)
    | succ N ih20 =>
      intro tk ix due word U wf df t0 ixL hd hI0 hN H locs ls hG hS hl
      obtain ⟨hI1, hI2, hI3, hI4, hI5, hI6⟩ := id hI0
      have u45 : U 45 = V 45 := hI1 45 (by decide) (by decide) (by decide)
      have u46 : U 46 = V 46 := hI1 46 (by decide) (by decide) (by decide)
      have uTP : TP U := by unfold TP; rw [u45, u46]; exact hk
      refine x_iload E dX4_read_20 (lv_at hl 4 rfl) ?_
      have L149_2 : ∀ (z : Int) (U9 : Mem), (RdP V U9 z) → ∀ (H : Heap) (locs : List Loc) (ls : Array Slot), GW X U9 H → va_S (wA X) s0.heap H locs → lv_has ls 7 [] → W pg l ev Rm s0 mi ag bl mt cd H locs 0 0 Qq (F0 mi 149 ls [.int (jI z)]) := by
        intro z U9 h9 H locs ls hG hS hl
        exact r_z E hQ hG hS dX4_read_149 (by rw [h9.1]; exact b01_c) h9
      have L127_3 : (V 45 1 ≤ ix) → ∀ (H : Heap) (locs : List Loc) (ls : Array Slot), GW X U H → va_S (wA X) s0.heap H locs → lv_has ls 7 [(0, .ref (wa X 45)), (1, .int (jI due))] → W pg l ev Rm s0 mi ag bl mt cd H locs 0 0 Qq (F0 mi 127 ls []) := by
        intro  hL H locs ls hG hS hl
        have hpe : PR0 (V 46) (V 45 1) = prE (V 45 1) due (U 47 2) wf df := by rw [← hI6]; exact PR_end hL
        refine x_iload_n E dX4_read_127 (lv_at hl 1 rfl) ?_
        refine x_if_ne E 140 dX4_read_128 (by decide) (by unfold rg; omega) (fun c128 => ?_) (fun c128 => ?_)
        · refine x_aload_n E dX4_read_140 (lv_at hl 0 rfl) ?_
          refine x_iconst E dX4_read_141 ?_
          refine x_aload_n E dX4_read_142 (lv_at hl 0 rfl) ?_
          refine x_geti E hI hG (xt0 hX) cf4 1 (V 45 1) rfl (by decide) (show U 45 1 = V 45 1 from (by rw [u45])) kf_X4_29 dX4_read_143 ?_
          refine x_ci hG hS (x_runV E hI hG hS (xt0 hX) cf4 rfl (c_X4_tell l hX U 1 (V 45 1) (by unfold rg; omega)) mf_X4_tell km_X4_46 rfl hl rfl (Nat.le_of_ble_eq_true rfl) (by rw [hR]; exact ⟨Nat.le_of_ble_eq_true rfl, Nat.le_of_ble_eq_true rfl⟩) ⟨Nat.zero_le _, Nat.zero_le _⟩ dX4_read_146) (fun z1 V2 H locs hp hG hS => ?_)
          obtain ⟨ez, eV⟩ := hp
          rw [eV] at hG
          rw [ez]
          exact L149_2 (b01 ((1 : Int) = 0)) (st (st U 45 2 1) 45 3 (V 45 1)) (hI0.tell (by rw [hpe]; unfold prE; rw [if_neg c128, if_neg c128])) _ _ _ hG hS (lv_sub hl [] rfl)
        · refine x_aload_n E dX4_read_131 (lv_at hl 0 rfl) ?_
          refine x_iconst E dX4_read_132 ?_
          refine x_iconst E dX4_read_133 ?_
          refine x_ci hG hS (x_runV E hI hG hS (xt0 hX) cf4 rfl (c_X4_tell l hX U 0 (-1) (by unfold rg; omega)) mf_X4_tell km_X4_46 rfl hl rfl (Nat.le_of_ble_eq_true rfl) (by rw [hR]; exact ⟨Nat.le_of_ble_eq_true rfl, Nat.le_of_ble_eq_true rfl⟩) ⟨Nat.zero_le _, Nat.zero_le _⟩ dX4_read_134) (fun z1 V2 H locs hp hG hS => ?_)
          obtain ⟨ez, eV⟩ := hp
          rw [eV] at hG
          rw [ez]
          refine x_goto E 149 dX4_read_137 (by decide) ?_
          exact L149_2 (b01 ((0 : Int) = 0)) (st (st U 45 2 0) 45 3 (-1)) (hI0.tell (by rw [hpe]; unfold prE; rw [if_pos c128, if_pos c128])) _ _ _ hG hS (lv_sub hl [] rfl)
      refine x_sipush E dX4_read_22 (by decide) ?_
      refine x_icmp_ge E 127 dX4_read_25 (by decide) (by unfold rg; omega) (by unfold rg; omega) (fun c25 => ?_) (fun c25 => ?_)
      · exact L127_3  (by omega) _ _ _ hG hS (lv_sub hl [0, 1] rfl)
      · refine x_iload_n E dX4_read_28 (lv_at hl 3 rfl) ?_
        refine x_aload_n E dX4_read_29 (lv_at hl 0 rfl) ?_
        refine x_geti E hI hG (xt0 hX) cf4 1 (V 45 1) rfl (by decide) (show U 45 1 = V 45 1 from (by rw [u45])) kf_X4_29 dX4_read_30 ?_
        refine x_icmp_ge E 127 dX4_read_33 (by decide) (by unfold rg; omega) (by unfold rg; omega) (fun c33 => ?_) (fun c33 => ?_)
        · exact L127_3  (by omega) _ _ _ hG hS (lv_sub hl [0, 1] rfl)
        · have hte := tend_rg (V 46) (show ix < V 45 1 by omega)
          have hsk := skF_rg (V 46) hte.2
          have hps := PR_s (f := V 46) (L := V 45 1) (i := ix) (due := due) (word := word) (cnt := U 47 2) (wf := wf) (df := df) (by omega)
          rw [hI6] at hps
          have hfr : 0 ≤ (fo (V 46) due ix (tend (V 46) (V 45 1) ix) (U 47 2)) ∧ (fo (V 46) due ix (tend (V 46) (V 45 1) ix) (U 47 2)) ≤ 3 := by
            unfold fo
            split
            · split
              · omega
              · split <;> omega
            · split
              · split
                · split <;> omega
                · omega
              · split <;> omega
          refine x_aload_n E dX4_read_36 (lv_at hl 0 rfl) ?_
          refine x_iload_n E dX4_read_37 (lv_at hl 3 rfl) ?_
          refine x_ci hG hS (x_runV E hI hG hS (xt0 hX) cf4 rfl (c_X4_tokenEnd l hX U uTP ix (by rw [u45]; omega)) mf_X4_tokenEnd km_X4_39 rfl hl rfl (Nat.le_of_ble_eq_true rfl) (by rw [hR]; exact ⟨Nat.le_of_ble_eq_true rfl, Nat.le_of_ble_eq_true rfl⟩) ⟨Nat.zero_le _, Nat.zero_le _⟩ dX4_read_38) (fun z1 V2 H locs hp hG hS => ?_)
          obtain ⟨ez, eV⟩ := hp
          rw [u46, u45] at ez
          rw [eV] at hG
          rw [ez]
          refine x_istore E [(5, .int (jI (tend (V 46) (V 45 1) ix))), (0, .ref (wa X 45)), (1, .int (jI due)), (2, .int (jI word)), (3, .int (jI ix)), (4, .int (jI tk))] dX4_read_41 hl (by decide) rfl (fun ls hl => ?_)
          refine x_aload_n E dX4_read_43 (lv_at hl 1 rfl) ?_
          refine x_iload_n E dX4_read_44 (lv_at hl 2 rfl) ?_
          refine x_iload_n E dX4_read_45 (lv_at hl 4 rfl) ?_
          refine x_iload E dX4_read_46 (lv_at hl 0 rfl) ?_
          refine x_ci hG hS (x_runV E hI hG hS (xt0 hX) cf4 rfl (c_X4_faultOf l hX U uTP due ix (tend (V 46) (V 45 1) ix) hd (by rw [u45]; omega) (by rw [u46, u45]) hI3) mf_X4_faultOf km_X4_42 rfl hl rfl (Nat.le_of_ble_eq_true rfl) (by rw [hR]; exact ⟨Nat.le_of_ble_eq_true rfl, Nat.le_of_ble_eq_true rfl⟩) ⟨Nat.zero_le _, Nat.zero_le _⟩ dX4_read_48) (fun z1 V2 H locs hp hG hS => ?_)
          obtain ⟨ez, eV⟩ := hp
          rw [u46] at ez
          rw [eV] at hG
          rw [ez]
          refine x_istore E [(6, .int (jI (fo (V 46) due ix (tend (V 46) (V 45 1) ix) (U 47 2)))), (5, .int (jI (tend (V 46) (V 45 1) ix))), (0, .ref (wa X 45)), (1, .int (jI due)), (2, .int (jI word)), (3, .int (jI ix)), (4, .int (jI tk))] dX4_read_51 hl (by decide) rfl (fun ls hl => ?_)
          refine x_iload E dX4_read_53 (lv_at hl 0 rfl) ?_
          refine x_if_eq E 66 dX4_read_55 (by decide) (by unfold rg; omega) (fun c55 => ?_) (fun c55 => ?_)
          · rw [if_neg (by rw [c55]; simp)] at hps
            have hfo := c55
            unfold fo at hfo
            have L101_4 : ∀ (w2 : Int) (U2 : Mem) (wf2 : Int → Int) (df2 : Int → Int), (RdI V U2 (skF (V 46) (V 45 1) (tend (V 46) (V 45 1) ix)) (if due = 2 then 0 else due + 1) w2 wf2 df2) → ∀ (H : Heap) (locs : List Loc) (ls : Array Slot), GW X U2 H → va_S (wA X) s0.heap H locs → lv_has ls 7 [(0, .ref (wa X 45)), (1, .int (jI due)), (2, .int (jI w2)), (4, .int (jI tk)), (5, .int (jI (tend (V 46) (V 45 1) ix)))] → W pg l ev Rm s0 mi ag bl mt cd H locs 0 0 Qq (F0 mi 101 ls []) := by
              intro w2 U2 wf2 df2 hI2 H locs ls hG hS hl
              obtain ⟨g1, -, -, -, -, -⟩ := id hI2
              have v45 : U2 45 = V 45 := g1 45 (by decide) (by decide) (by decide)
              have v46 : U2 46 = V 46 := g1 46 (by decide) (by decide) (by decide)
              have u2TP : TP U2 := by unfold TP; rw [v45, v46]; exact hk
              have L113_5 : ∀ (d2 : Int), (d2 = (if due = 2 then 0 else due + 1)) → ∀ (H : Heap) (locs : List Loc) (ls : Array Slot), GW X U2 H → va_S (wA X) s0.heap H locs → lv_has ls 7 [(0, .ref (wa X 45)), (2, .int (jI w2)), (4, .int (jI tk)), (5, .int (jI (tend (V 46) (V 45 1) ix)))] → W pg l ev Rm s0 mi ag bl mt cd H locs 0 0 Qq (F0 mi 113 ls [.int (jI d2)]) := by
                intro d2 hd2 H locs ls hG hS hl
                refine x_istore_n E [(1, .int (jI d2)), (0, .ref (wa X 45)), (2, .int (jI w2)), (4, .int (jI tk)), (5, .int (jI (tend (V 46) (V 45 1) ix)))] dX4_read_113 hl (by decide) rfl (fun ls hl => ?_)
                refine x_aload_n E dX4_read_114 (lv_at hl 1 rfl) ?_
                refine x_iload E dX4_read_115 (lv_at hl 4 rfl) ?_
                refine x_ci hG hS (x_runV E hI hG hS (xt0 hX) cf4 rfl (c_X4_afterBlanks l hX U2 u2TP (tend (V 46) (V 45 1) ix) (by rw [v45]; omega)) mf_X4_afterBlanks km_X4_35 rfl hl rfl (Nat.le_of_ble_eq_true rfl) (by rw [hR]; exact ⟨Nat.le_of_ble_eq_true rfl, Nat.le_of_ble_eq_true rfl⟩) ⟨Nat.zero_le _, Nat.zero_le _⟩ dX4_read_117) (fun z1 V2 H locs hp hG hS => ?_)
                obtain ⟨ez, eV⟩ := hp
                rw [v46, v45] at ez
                rw [eV] at hG
                rw [ez]
                refine x_istore_n E [(3, .int (jI (skF (V 46) (V 45 1) (tend (V 46) (V 45 1) ix)))), (1, .int (jI d2)), (0, .ref (wa X 45)), (2, .int (jI w2)), (4, .int (jI tk)), (5, .int (jI (tend (V 46) (V 45 1) ix)))] dX4_read_120 hl (by decide) rfl (fun ls hl => ?_)
                refine x_iinc E (k := 4) [(4, .int (jI (tk + 1))), (3, .int (jI (skF (V 46) (V 45 1) (tend (V 46) (V 45 1) ix)))), (1, .int (jI d2)), (0, .ref (wa X 45)), (2, .int (jI w2)), (5, .int (jI (tend (V 46) (V 45 1) ix)))] dX4_read_121 hl rfl (by decide) rfl (fun ls hl => ?_)
                refine x_goto E 20 dX4_read_124 (by decide) ?_
                exact ih20 (tk + 1) (skF (V 46) (V 45 1) (tend (V 46) (V 45 1) ix)) d2 w2 U2 wf2 df2 (by omega) (by omega) (by rw [hd2]; split <;> omega) (by rw [hd2]; exact hI2) (by omega) _ _ _ hG hS (lv_sub hl [3, 2, 4, 1, 0] rfl)
              refine x_iload_n E dX4_read_101 (lv_at hl 1 rfl) ?_
              refine x_iconst E dX4_read_102 ?_
              refine x_icmp_ne E 110 dX4_read_103 (by decide) (by unfold rg; omega) (by unfold rg; omega) (fun c103 => ?_) (fun c103 => ?_)
              · refine x_iload_n E dX4_read_110 (lv_at hl 1 rfl) ?_
                refine x_iconst E dX4_read_111 ?_
                refine x_iadd E dX4_read_112 ?_
                exact L113_5 (due + 1) (by rw [if_neg c103]) _ _ _ hG hS (lv_sub hl [0, 2, 3, 4] rfl)
              · refine x_iconst E dX4_read_106 ?_
                refine x_goto E 113 dX4_read_107 (by decide) ?_
                exact L113_5 0 (by rw [if_pos c103]) _ _ _ hG hS (lv_sub hl [0, 2, 3, 4] rfl)
            refine x_iload_n E dX4_read_66 (lv_at hl 3 rfl) ?_
            refine x_if_ne E 81 dX4_read_67 (by decide) (by unfold rg; omega) (fun c67 => ?_) (fun c67 => ?_)
            · rw [if_neg c67] at hps hfo
              refine x_iload_n E dX4_read_81 (lv_at hl 3 rfl) ?_
              refine x_iconst E dX4_read_82 ?_
              refine x_icmp_ne E 101 dX4_read_83 (by decide) (by unfold rg; omega) (by unfold rg; omega) (fun c83 => ?_) (fun c83 => ?_)
              · exact L101_4 word U wf df (⟨hI1, hI2, hI3, hI4, fun z => by split at z <;> omega, by rw [hps, if_neg c83, if_pos (by omega)]⟩) _ _ _ hG hS (lv_sub hl [2, 3, 4, 6, 1] rfl)
              · rw [if_pos c83] at hps hfo
                have hG1 : isG (V 46 ix) = true := by
                  cases q : isG (V 46 ix) with
                  | true => rfl
                  | false => rw [q, if_neg (by decide)] at hfo; omega
                have hw5 := hI5 c83
                refine x_aload_n E dX4_read_86 (lv_at hl 2 rfl) ?_
                refine x_getr E hI hG (xt0 hX) cf4 4 47 rfl (by decide) kf_X4_25 dX4_read_87 ?_
                refine x_iload_n E dX4_read_90 (lv_at hl 4 rfl) ?_
                refine x_aload_n E dX4_read_91 (lv_at hl 2 rfl) ?_
                refine x_iload_n E dX4_read_92 (lv_at hl 5 rfl) ?_
                refine x_iload E dX4_read_93 (lv_at hl 1 rfl) ?_
                refine x_ci hG hS (x_runV E hI hG hS (xt0 hX) cf4 rfl (c_X4_numberOf l hX U uTP ix (tend (V 46) (V 45 1) ix) (by rw [u45]; omega) (by rw [u46]; exact tend_dig hG1)) mf_X4_numberOf km_X4_54 rfl hl rfl (Nat.le_of_ble_eq_true rfl) (by rw [hR]; exact ⟨Nat.le_of_ble_eq_true rfl, Nat.le_of_ble_eq_true rfl⟩) ⟨Nat.zero_le _, Nat.zero_le _⟩ dX4_read_95) (fun z1 V2 H locs hp hG hS => ?_)
                obtain ⟨ez, eV⟩ := hp
                rw [u46] at ez
                rw [eV] at hG
                rw [ez]
                refine x_cv hG hS (x_runV E hI hG hS (xw0 hX isW47) cf5 rfl (c_X5_add l hX isW47 U (by omega) word (nv (V 46) ix (tend (V 46) (V 45 1) ix))) mf_X5_add km_X4_57 rfl hl rfl (Nat.le_of_ble_eq_true rfl) (by rw [hR]; exact ⟨Nat.le_of_ble_eq_true rfl, Nat.le_of_ble_eq_true rfl⟩) ⟨Nat.zero_le _, Nat.zero_le _⟩ dX4_read_98) (fun V3 H locs hp hG hS => ?_)
                have q3 := hp
                exact L101_4 word V3 (ui wf (U 47 2) word) (ui df (U 47 2) (nv (V 46) ix (tend (V 46) (V 45 1) ix))) (by
                        have e2 : V3 47 2 = U 47 2 + 1 := by rw [q3, st_s]
                        refine ⟨fun p p0 p1 p2 => by rw [q3, st_p p0, st_p p2, st_p p1]; exact hI1 p p0 p1 p2, ⟨by rw [q3, st_k (by decide), st_p (by decide), st_p (by decide)]; exact hI2.1, by rw [q3, st_k (by decide), st_p (by decide), st_p (by decide)]; exact hI2.2⟩, by rw [e2]; omega, fun k k0 k1 => ?_, fun z => by split at z <;> omega, by rw [hps, if_neg (by omega), e2, show due + 1 = 2 by omega]⟩
                        rw [e2] at k1
                        by_cases e : k = U 47 2
                        · rw [e, ui_s, ui_s, q3, st_p (by decide), st_p (by decide), st_s, st_p (by decide), st_s]; exact ⟨rfl, rfl⟩
                        · rw [ui_n e, ui_n e, q3, st_p (by decide), st_p (by decide), st_k e, st_p (by decide), st_k e, st_p (by decide)]; exact hI4 k k0 (by omega)) _ _ _ hG hS (lv_sub hl [2, 3, 4, 6, 1] rfl)
            · rw [if_pos c67] at hps hfo
              have hwr := wv_rg (V 46) ix (tend (V 46) (V 45 1) ix)
              refine x_aload_n E dX4_read_70 (lv_at hl 2 rfl) ?_
              refine x_iload_n E dX4_read_71 (lv_at hl 5 rfl) ?_
              refine x_iload E dX4_read_72 (lv_at hl 1 rfl) ?_
              refine x_ci hG hS (x_runV E hI hG hS (xt0 hX) cf4 rfl (c_X4_windOf l hX U uTP ix (tend (V 46) (V 45 1) ix) (by rw [u45]; omega)) mf_X4_windOf km_X4_50 rfl hl rfl (Nat.le_of_ble_eq_true rfl) (by rw [hR]; exact ⟨Nat.le_of_ble_eq_true rfl, Nat.le_of_ble_eq_true rfl⟩) ⟨Nat.zero_le _, Nat.zero_le _⟩ dX4_read_74) (fun z1 V2 H locs hp hG hS => ?_)
              obtain ⟨ez, eV⟩ := hp
              rw [u46] at ez
              rw [eV] at hG
              rw [ez]
              refine x_istore_n E [(2, .int (jI (wv (V 46) ix (tend (V 46) (V 45 1) ix)))), (6, .int (jI (fo (V 46) due ix (tend (V 46) (V 45 1) ix) (U 47 2)))), (5, .int (jI (tend (V 46) (V 45 1) ix))), (0, .ref (wa X 45)), (1, .int (jI due)), (3, .int (jI ix)), (4, .int (jI tk))] dX4_read_77 hl (by decide) rfl (fun ls hl => ?_)
              refine x_goto E 101 dX4_read_78 (by decide) ?_
              exact L101_4 (wv (V 46) ix (tend (V 46) (V 45 1) ix)) U wf df (⟨hI1, hI2, hI3, hI4, fun _ => by split at hfo; omega; split at hfo <;> omega, by rw [hps, if_neg (by omega), show due + 1 = 1 by omega]⟩) _ _ _ hG hS (lv_sub hl [3, 4, 0, 6, 2] rfl)
          · refine x_aload_n E dX4_read_58 (lv_at hl 2 rfl) ?_
            refine x_iload E dX4_read_59 (lv_at hl 0 rfl) ?_
            refine x_iload_n E dX4_read_61 (lv_at hl 5 rfl) ?_
            refine x_ci hG hS (x_runV E hI hG hS (xt0 hX) cf4 rfl (c_X4_tell l hX U (fo (V 46) due ix (tend (V 46) (V 45 1) ix) (U 47 2)) ix (by unfold rg; omega)) mf_X4_tell km_X4_46 rfl hl rfl (Nat.le_of_ble_eq_true rfl) (by rw [hR]; exact ⟨Nat.le_of_ble_eq_true rfl, Nat.le_of_ble_eq_true rfl⟩) ⟨Nat.zero_le _, Nat.zero_le _⟩ dX4_read_62) (fun z1 V2 H locs hp hG hS => ?_)
            obtain ⟨ez, eV⟩ := hp
            rw [eV] at hG
            rw [ez]
            exact r_z E hQ hG hS dX4_read_65 b01_c (hI0.tell (by rw [hps, if_pos c55]))
  exact L20_1 _ 0 (skF (V 46) (V 45 1) 0) 0 4 V1 (fun _ => 0) (fun _ => 0) (by omega) (by omega) (by omega) kI (Nat.lt_succ_self _) _ _ _ hG hS (lv_sub hl [4, 3, 2, 1, 0] rfl)

set_option maxHeartbeats 4000000 in
set_option maxRecDepth 100000 in
theorem c_X4_append (l : Launch) {X : We} {n : Nat} (hX : isX X n) (V : Mem) (hk : 0 ≤ V 45 1 ∧ V 45 1 ≤ 196) (x : Int) : Mt l X V yX4_append cX4_append 3 none 0 0 [.ref (wa X 45), .int (jI x)] (Qv X (fun V1 => V1 = apM x V)) := by
  refine Mt.go (by decide) (Nat.le_of_ble_eq_true rfl) ?_
  intro pg ev s0 mi bl mt cd ls Rm ag Qq hR hQ E hI hG hS hl
  have hl : lv_has ls 3 [(0, .ref (wa X 45)), (1, .int (jI x))] := hl
  refine x_bipush E dX4_append_0 (by decide) ?_
  refine x_istore_n E [(2, .int (jI 24)), (0, .ref (wa X 45)), (1, .int (jI x))] dX4_append_2 hl (by decide) rfl (fun ls hl => ?_)
  have L3_1 : ∀ (N : Nat) (k : Int) (U : Mem), ((k = 24 ∧ U = V) ∨ (k = 16 ∧ U = ap1 x 24 V) ∨ (k = 8 ∧ U = ap1 x 16 (ap1 x 24 V)) ∨ (k = 0 ∧ U = ap1 x 8 (ap1 x 16 (ap1 x 24 V))) ∨ (k = -8 ∧ U = apM x V)) → (V 45 1 ≤ U 45 1 ∧ 8 * U 45 1 = 8 * V 45 1 + 24 - k) → ((k + 8).toNat) < N → ∀ (H : Heap) (locs : List Loc) (ls : Array Slot), GW X U H → va_S (wA X) s0.heap H locs → lv_has ls 3 [(0, .ref (wa X 45)), (1, .int (jI x)), (2, .int (jI k))] → W pg l ev Rm s0 mi ag bl mt cd H locs 0 0 Qq (F0 mi 3 ls []) := by
    intro N
    induction N with
    | zero => intro k U hU hL hN; exact absurd hN (Nat.not_lt_zero _)
    | succ N ih3 =>
      intro k U hU hL hN H locs ls hG hS hl
      refine x_iload_n E dX4_append_3 (lv_at hl 2 rfl) ?_
      refine x_if_lt E 55 dX4_append_4 (by decide) (by unfold rg; omega) (fun c4 => ?_) (fun c4 => ?_)
      · exact r_v E hQ hG hS dX4_append_55 (by rcases hU with ⟨e, u⟩ | ⟨e, u⟩ | ⟨e, u⟩ | ⟨e, u⟩ | ⟨e, u⟩; omega; omega; omega; omega; exact u)
      · refine x_aload_n E dX4_append_7 (lv_at hl 0 rfl) ?_
        refine x_geti E hI hG (xt0 hX) cf4 1 (U 45 1) rfl (by decide) rfl kf_X4_29 dX4_append_8 ?_
        refine x_if_lt E 55 dX4_append_11 (by decide) (by unfold rg; omega) (fun c11 => ?_) (fun c11 => ?_)
        · omega
        · refine x_aload_n E dX4_append_14 (lv_at hl 0 rfl) ?_
          refine x_geti E hI hG (xt0 hX) cf4 1 (U 45 1) rfl (by decide) rfl kf_X4_29 dX4_append_15 ?_
          refine x_aload_n E dX4_append_18 (lv_at hl 0 rfl) ?_
          refine x_getr E hI hG (xt0 hX) cf4 0 46 rfl (by decide) kf_X4_9 dX4_append_19 ?_
          refine x_alen E hI hG (xt1 hX) (by decide) dX4_append_22 ?_
          refine x_icmp_ge E 55 dX4_append_23 (by decide) (by unfold rg; omega) (by unfold rg; omega) (fun c23 => ?_) (fun c23 => ?_)
          · omega
          · have hbr := byt_rg x k
            refine x_aload_n E dX4_append_26 (lv_at hl 0 rfl) ?_
            refine x_getr E hI hG (xt0 hX) cf4 0 46 rfl (by decide) kf_X4_9 dX4_append_27 ?_
            refine x_aload_n E dX4_append_30 (lv_at hl 0 rfl) ?_
            refine x_geti E hI hG (xt0 hX) cf4 1 (U 45 1) rfl (by decide) rfl kf_X4_29 dX4_append_31 ?_
            refine x_iload_n E dX4_append_34 (lv_at hl 1 rfl) ?_
            refine x_iload_n E dX4_append_35 (lv_at hl 2 rfl) ?_
            refine lv_ishr E.1 E.2.1 dX4_append_36 ?_
            refine lv_i2b E.1 E.2.1 dX4_append_37 rfl ?_
            refine x_rawi (byt x k) ((j_of _).symm) ?_
            refine x_bast E hI hG hS (xt1 hX) (by omega) (by omega) dX4_append_38 (fun H locs hG hS => ?_)
            refine x_aload_n E dX4_append_39 (lv_at hl 0 rfl) ?_
            refine x_dup E dX4_append_40 rfl ?_
            refine x_geti E hI hG (xt0 hX) cf4 1 (U 45 1) rfl (by decide) (show (st U 46 (U 45 1) (byt x k)) 45 1 = U 45 1 from (by rw [st_p (by decide)])) kf_X4_29 dX4_append_41 ?_
            refine x_iconst E dX4_append_44 ?_
            refine x_iadd E dX4_append_45 ?_
            refine x_puti E hI hG hS (xt0 hX) cf4 1 1 rfl rfl (by decide) rfl rfl kf_X4_29 dX4_append_46 (fun H locs hG hS => ?_)
            refine x_iinc E (k := 2) [(2, .int (jI (k + (-8)))), (0, .ref (wa X 45)), (1, .int (jI x))] dX4_append_49 hl rfl (by decide) rfl (fun ls hl => ?_)
            refine x_goto E 3 dX4_append_52 (by decide) ?_
            exact ih3 (k + -8) (ap1 x k U) (by
                    rcases hU with ⟨e, u⟩ | ⟨e, u⟩ | ⟨e, u⟩ | ⟨e, u⟩ | ⟨e, u⟩
                    · exact Or.inr (Or.inl ⟨by omega, by rw [u, e]⟩)
                    · exact Or.inr (Or.inr (Or.inl ⟨by omega, by rw [u, e]⟩))
                    · exact Or.inr (Or.inr (Or.inr (Or.inl ⟨by omega, by rw [u, e]⟩)))
                    · exact Or.inr (Or.inr (Or.inr (Or.inr ⟨by omega, by rw [u, e]; rfl⟩)))
                    · omega) (by rw [ap1_1]; omega) (by omega) _ _ _ hG hS (lv_sub hl [1, 2, 0] rfl)
  exact L3_1 _ 24 V (Or.inl ⟨rfl, rfl⟩) (by omega) (Nat.lt_succ_self _) _ _ _ hG hS (lv_sub hl [1, 2, 0] rfl)
