theorem Sh.sp {V : Mem} {n : Nat} {wd hi : Int} (h : Sh V n wd hi) {q : Nat} (hq : 3 ≤ q) (f : Int → Int) : Sh (sp V q f) n wd hi := by
  unfold Sh at *
  rw [sp_n (show 1 ≠ q by omega), sp_n (show 2 ≠ q by omega)]; exact h
theorem Sh.st {V : Mem} {n : Nat} {wd hi : Int} (h : Sh V n wd hi) {q : Nat} (hq : 3 ≤ q) (k v : Int) : Sh (st V q k v) n wd hi := by rw [st_sp]; exact h.sp hq _
theorem isD.ge {b : Nat} (h : isD b) : 3 ≤ b ∧ b ≤ 31 := by unfold isD at h; omega
theorem st_in (V : Mem) {p q : Nat} (h : p ≠ q) (g f : Int → Int) (c v : Int) : st (sp (sp V p g) q f) p c v = sp (sp V p (ui g c v)) q f := by
  rw [st_sp, sp_n h, sp_s, sp_comm _ _ _ (Ne.symm h), sp_sp]
theorem sp_ij (V : Mem) {p q : Nat} (h : p ≠ q) (g f : Int → Int) : sp (sp V p g) q f p = g := by rw [sp_n h, sp_s]
def b2i (q : Bool) : Int := if q then 1 else 0
def cntB (n : Nat) (B : Int → Bool) : Int := su n (fun d => b2i (B d))
theorem cntB_set {n : Nat} {B : Int → Bool} {c : Int} {v : Bool} (h0 : 0 ≤ c) (h1 : c < (n : Int)) : cntB n (bset B c v) = cntB n B - b2i (B c) + b2i v := by
  unfold cntB
  rw [← su_ui n h0 h1]
  apply su_congr
  intro d _ _
  unfold bset ui
  split <;> rfl
theorem b2i_le (q : Bool) : 0 ≤ b2i q ∧ b2i q ≤ 1 := by unfold b2i; split <;> omega
theorem cntB_le (n : Nat) (B : Int → Bool) : 0 ≤ cntB n B ∧ cntB n B ≤ (n : Int) := by
  have a := su_le n (f := fun _ => 0) (g := fun d => b2i (B d)) (fun d _ _ => (b2i_le _).1)
  have b := su_le n (f := fun d => b2i (B d)) (g := fun _ => 1) (fun d _ _ => (b2i_le _).2)
  rw [su_const] at a b
  unfold cntB
  omega
theorem lowK_r {n : Nat} {wd hi c : Int} (hd : dims n wd hi) (h : Int → Int) (h0 : 0 ≤ c) (h1 : c < (n : Int)) (j : Nat) : lowK wd hi h c j = -1 ∨ (0 ≤ lowK wd hi h c j ∧ lowK wd hi h c j < (n : Int)) := by
  rcases lowK_spec wd hi h c j with ⟨a, -⟩ | ⟨a, ⟨i, -, e⟩, -⟩
  · exact Or.inl a
  · exact Or.inr ⟨a, by rw [e]; exact (nb_range hd h0 h1).2⟩
theorem lowK_s {wd hi c w : Int} (h : Int → Int) (h0 : 0 ≤ w) : lowK wd hi h c (w + 1).toNat = lb h (lowK wd hi h c w.toNat) (nb wd hi c w) := by
  rw [show (w + 1).toNat = w.toNat + 1 by omega]
  show lb h _ (nb wd hi c (w.toNat : Int)) = _
  rw [Int.toNat_of_nonneg h0]

set_option maxHeartbeats 4000000 in
set_option maxRecDepth 100000 in
theorem c_X1_lowestBeside (l : Launch) {X : We} {n b : Nat} (hX : isX X n) (hb : isD b) {wd hi : Int} (V : Mem) (hs : Sh V n wd hi) (h : Int → Int) (hV : V (b + 1) = h) (hh : bnd n 0 9500 h) (c : Int) (hc : 0 ≤ c ∧ c < (n : Int)) : Mt l X V yX1_lowestBeside cX1_lowestBeside 5 (some .int) 1 23 [.ref (wa X b), .int (jI c)] (Qi X (fun z V1 => z = lowN wd hi h c ∧ V1 = V)) := by
  refine Mt.go (by decide) (Nat.le_of_ble_eq_true rfl) ?_
  intro pg ev s0 mi bl mt cd ls Rm ag Qq hR hQ E hI hG hS hl
  have hl : lv_has ls 5 [(0, .ref (wa X b)), (1, .int (jI c))] := hl
  have hd := hs.2.2.2.1
  obtain ⟨hn1, hn2⟩ := dims.n hd
  obtain ⟨hb1, hb2⟩ := isD.ge hb
  refine x_iconst E dX1_lowestBeside_0 ?_
  refine x_istore_n E [(2, .int (jI (-1))), (0, .ref (wa X b)), (1, .int (jI c))] dX1_lowestBeside_1 hl (by decide) rfl (fun ls hl => ?_)
  refine x_iconst E dX1_lowestBeside_2 ?_
  refine x_istore_n E [(3, .int (jI 0)), (2, .int (jI (-1))), (0, .ref (wa X b)), (1, .int (jI c))] dX1_lowestBeside_3 hl (by decide) rfl (fun ls hl => ?_)
  have L4_1 : ∀ (N : Nat) (w : Int) (t : Int), (0 ≤ w) → (w ≤ 4) → (t = lowK wd hi h c w.toNat) → ((4 - w).toNat) < N → ∀ (H : Heap) (locs : List Loc) (ls : Array Slot), GW X V H → va_S (wA X) s0.heap H locs → lv_has ls 5 [(0, .ref (wa X b)), (1, .int (jI c)), (2, .int (jI t)), (3, .int (jI w))] → W pg l ev Rm s0 mi ag bl mt cd H locs 0 0 Qq (F0 mi 4 ls []) := by
    intro N
    induction N with
    | zero => intro w t h0 h1 ht hN; exact absurd hN (Nat.not_lt_zero _)
    | succ N ih4 =>
      intro w t h0 h1 ht hN H locs ls hG hS hl
      refine x_iload_n E dX1_lowestBeside_4 (lv_at hl 3 rfl) ?_
      refine x_iconst E dX1_lowestBeside_5 ?_
      refine x_icmp_ge E 56 dX1_lowestBeside_6 (by decide) (by unfold rg; omega) (by unfold rg; omega) (fun c6 => ?_) (fun c6 => ?_)
      · refine x_iload_n E dX1_lowestBeside_56 (lv_at hl 2 rfl) ?_
        exact r_i E hQ hG hS dX1_lowestBeside_57 (⟨by rw [ht, show w.toNat = 4 by omega]; rfl, rfl⟩)
      · have L50_2 : ∀ (u : Int), (u = lowK wd hi h c (w + 1).toNat) → ∀ (H : Heap) (locs : List Loc) (ls : Array Slot), GW X V H → va_S (wA X) s0.heap H locs → lv_has ls 5 [(0, .ref (wa X b)), (1, .int (jI c)), (2, .int (jI u)), (3, .int (jI w))] → W pg l ev Rm s0 mi ag bl mt cd H locs 0 0 Qq (F0 mi 50 ls []) := by
          intro u hu H locs ls hG hS hl
          refine x_iinc E (k := 3) [(3, .int (jI (w + 1))), (0, .ref (wa X b)), (1, .int (jI c)), (2, .int (jI u))] dX1_lowestBeside_50 hl rfl (by decide) rfl (fun ls hl => ?_)
          refine x_goto E 4 dX1_lowestBeside_53 (by decide) ?_
          exact ih4 (w + 1) u (by omega) (by omega) hu (by omega) _ _ _ hG hS (lv_sub hl [1, 2, 3, 0] rfl)
        have hr := nb_range (k := w) hd hc.1 hc.2
        have hr2 : t = -1 ∨ (0 ≤ t ∧ t < (n : Int)) := by rw [ht]; exact lowK_r hd h hc.1 hc.2 _
        refine x_aload_n E dX1_lowestBeside_9 (lv_at hl 0 rfl) ?_
        refine x_getr E hI hG (xd0 hX hb) cf1 0 1 rfl (by decide) kf_X1_36 dX1_lowestBeside_10 ?_
        refine x_iload_n E dX1_lowestBeside_13 (lv_at hl 1 rfl) ?_
        refine x_iload_n E dX1_lowestBeside_14 (lv_at hl 3 rfl) ?_
        refine x_ci hG hS (x_runV E hI hG hS (xs0 hX) cf3 rfl (c_X3_beside l hX V hs c w (by omega) (by omega)) mf_X3_beside km_X1_119 rfl hl rfl (Nat.le_of_ble_eq_true rfl) (by rw [hR]; exact ⟨Nat.le_of_ble_eq_true rfl, Nat.le_of_ble_eq_true rfl⟩) ⟨Nat.zero_le _, Nat.zero_le _⟩ dX1_lowestBeside_15) (fun z1 V1 H locs hp hG hS => ?_)
        obtain ⟨ez, eV⟩ := hp
        rw [if_pos hc.1] at ez
        rw [eV] at hG
        rw [ez]
        refine x_istore E [(4, .int (jI (nb wd hi c w))), (0, .ref (wa X b)), (1, .int (jI c)), (2, .int (jI t)), (3, .int (jI w))] dX1_lowestBeside_18 hl (by decide) rfl (fun ls hl => ?_)
        refine x_iload E dX1_lowestBeside_20 (lv_at hl 0 rfl) ?_
        refine x_iconst E dX1_lowestBeside_22 ?_
        refine x_icmp_eq E 50 dX1_lowestBeside_23 (by decide) (by unfold rg; omega) (by unfold rg; omega) (fun c23 => ?_) (fun c23 => ?_)
        · exact L50_2 t (by rw [lowK_s h h0, ← ht, lb, if_neg (by omega)]) _ _ _ hG hS (lv_sub hl [1, 2, 3, 4] rfl)
        · refine x_iload_n E dX1_lowestBeside_26 (lv_at hl 3 rfl) ?_
          refine x_iconst E dX1_lowestBeside_27 ?_
          refine x_icmp_eq E 47 dX1_lowestBeside_28 (by decide) (by unfold rg; omega) (by unfold rg; omega) (fun c28 => ?_) (fun c28 => ?_)
          · refine x_iload E dX1_lowestBeside_47 (lv_at hl 0 rfl) ?_
            refine x_istore_n E [(2, .int (jI (nb wd hi c w))), (4, .int (jI (nb wd hi c w))), (0, .ref (wa X b)), (1, .int (jI c)), (3, .int (jI w))] dX1_lowestBeside_49 hl (by decide) rfl (fun ls hl => ?_)
            exact L50_2 (nb wd hi c w) (by rw [lowK_s h h0, ← ht, lb, if_pos (by omega)]) _ _ _ hG hS (lv_sub hl [2, 3, 0, 4] rfl)
          · have hv1 := hh (nb wd hi c w) (by omega) (by omega)
            have hv2 := hh t (by omega) (by omega)
            refine x_aload_n E dX1_lowestBeside_31 (lv_at hl 1 rfl) ?_
            refine x_getr E hI hG (xd0 hX hb) cf1 1 (b + 1) rfl (by decide) kf_X1_45 dX1_lowestBeside_32 ?_
            refine x_iload E dX1_lowestBeside_35 (lv_at hl 0 rfl) ?_
            refine x_iald E hI hG (xd1 hX hb) (h (nb wd hi c w)) (by rw [hV]) (by omega) dX1_lowestBeside_37 ?_
            refine x_aload_n E dX1_lowestBeside_38 (lv_at hl 1 rfl) ?_
            refine x_getr E hI hG (xd0 hX hb) cf1 1 (b + 1) rfl (by decide) kf_X1_45 dX1_lowestBeside_39 ?_
            refine x_iload_n E dX1_lowestBeside_42 (lv_at hl 3 rfl) ?_
            refine x_iald E hI hG (xd1 hX hb) (h t) (by rw [hV]) (by omega) dX1_lowestBeside_43 ?_
            refine x_icmp_ge E 50 dX1_lowestBeside_44 (by decide) (by unfold rg; omega) (by unfold rg; omega) (fun c44 => ?_) (fun c44 => ?_)
            · exact L50_2 t (by rw [lowK_s h h0, ← ht, lb, if_neg (by omega)]) _ _ _ hG hS (lv_sub hl [1, 2, 3, 4] rfl)
            · refine x_iload E dX1_lowestBeside_47 (lv_at hl 0 rfl) ?_
              refine x_istore_n E [(2, .int (jI (nb wd hi c w))), (4, .int (jI (nb wd hi c w))), (0, .ref (wa X b)), (1, .int (jI c)), (3, .int (jI w))] dX1_lowestBeside_49 hl (by decide) rfl (fun ls hl => ?_)
              exact L50_2 (nb wd hi c w) (by rw [lowK_s h h0, ← ht, lb, if_pos (by omega)]) _ _ _ hG hS (lv_sub hl [2, 3, 0, 4] rfl)
  exact L4_1 _ 0 (-1) (by omega) (by omega) rfl (Nat.lt_succ_self _) _ _ _ hG hS (lv_sub hl [2, 3, 1, 0] rfl)

set_option maxHeartbeats 4000000 in
set_option maxRecDepth 100000 in
theorem c_X1_doubtAbove (l : Launch) {X : We} {n b : Nat} (hX : isX X n) (hb : isD b) {wd hi : Int} (V : Mem) (hs : Sh V n wd hi) (h : Int → Int) (hV : V (b + 1) = h) (hh : bnd n 0 9500 h) (sl : Int) (hsl : V (b + 10) 3 = sl) (hl9 : 1 ≤ sl ∧ sl ≤ 9) {B : Int → Bool} (hB : DB (V (b + 9)) B) (c : Int) (hc : 0 ≤ c ∧ c < (n : Int)) : Mt l X V yX1_doubtAbove cX1_doubtAbove 4 none 1 23 [.ref (wa X b), .int (jI c)] (Qv X (fun V1 => ∃ f B1, V1 = sp V (b + 9) f ∧ DB f B1 ∧ (∀ d, B d = true → B1 d = true) ∧ (∀ d, B1 d = true → B d = true ∨ (0 ≤ d ∧ d < (n : Int))) ∧ (∀ k : Int, 0 ≤ k → k < 4 → 0 ≤ nb wd hi c k → sl < h (nb wd hi c k) - h c → B1 (nb wd hi c k) = true) ∧ cntB n B1 ≤ cntB n B + 4)) := by
  refine Mt.go (by decide) (Nat.le_of_ble_eq_true rfl) ?_
  intro pg ev s0 mi bl mt cd ls Rm ag Qq hR hQ E hI hG hS hl
  have hl : lv_has ls 4 [(0, .ref (wa X b)), (1, .int (jI c))] := hl
  have hd := hs.2.2.2.1
  obtain ⟨hn1, hn2⟩ := dims.n hd
  obtain ⟨hb1, hb2⟩ := isD.ge hb
  rw [show V = sp V (b + 9) (V (b + 9)) from (sp_self _ _).symm] at hG
  refine x_iconst E dX1_doubtAbove_0 ?_
  refine x_istore_n E [(2, .int (jI 0)), (0, .ref (wa X b)), (1, .int (jI c))] dX1_doubtAbove_1 hl (by decide) rfl (fun ls hl => ?_)
  have L2_1 : ∀ (N : Nat) (w : Int) (f : Int → Int) (B1 : Int → Bool), (0 ≤ w) → (w ≤ 4) → (DB f B1) → (∀ d, B d = true → B1 d = true) → (∀ d, B1 d = true → B d = true ∨ (0 ≤ d ∧ d < (n : Int))) → (∀ k : Int, 0 ≤ k → k < w → 0 ≤ nb wd hi c k → sl < h (nb wd hi c k) - h c → B1 (nb wd hi c k) = true) → (cntB n B1 ≤ cntB n B + w) → ((4 - w).toNat) < N → ∀ (H : Heap) (locs : List Loc) (ls : Array Slot), GW X (sp V (b + 9) f) H → va_S (wA X) s0.heap H locs → lv_has ls 4 [(0, .ref (wa X b)), (1, .int (jI c)), (2, .int (jI w))] → W pg l ev Rm s0 mi ag bl mt cd H locs 0 0 Qq (F0 mi 2 ls []) := by
    intro N
    induction N with
    | zero => intro w f B1 h0 h1 hf g1 g2 g3 g4 hN; exact absurd hN (Nat.not_lt_zero _)
    | succ N ih2 =>
      intro w f B1 h0 h1 hf g1 g2 g3 g4 hN H locs ls hG hS hl
      refine x_iload_n E dX1_doubtAbove_2 (lv_at hl 2 rfl) ?_
      refine x_iconst E dX1_doubtAbove_3 ?_
      refine x_icmp_ge E 58 dX1_doubtAbove_4 (by decide) (by unfold rg; omega) (by unfold rg; omega) (fun c4 => ?_) (fun c4 => ?_)
      · exact r_v E hQ hG hS dX1_doubtAbove_58 (⟨f, B1, rfl, hf, g1, g2, fun k k0 k1 => g3 k k0 (by omega), by omega⟩)
      · have L52_2 : ∀ (f2 : Int → Int) (B2 : Int → Bool), (DB f2 B2) → (∀ d, B d = true → B2 d = true) → (∀ d, B2 d = true → B d = true ∨ (0 ≤ d ∧ d < (n : Int))) → (∀ k : Int, 0 ≤ k → k < w + 1 → 0 ≤ nb wd hi c k → sl < h (nb wd hi c k) - h c → B2 (nb wd hi c k) = true) → (cntB n B2 ≤ cntB n B + (w + 1)) → ∀ (H : Heap) (locs : List Loc) (ls : Array Slot), GW X (sp V (b + 9) f2) H → va_S (wA X) s0.heap H locs → lv_has ls 4 [(0, .ref (wa X b)), (1, .int (jI c)), (2, .int (jI w))] → W pg l ev Rm s0 mi ag bl mt cd H locs 0 0 Qq (F0 mi 52 ls []) := by
          intro f2 B2 hf2 e1 e2 e3 e4 H locs ls hG hS hl
          refine x_iinc E (k := 2) [(2, .int (jI (w + 1))), (0, .ref (wa X b)), (1, .int (jI c))] dX1_doubtAbove_52 hl rfl (by decide) rfl (fun ls hl => ?_)
          refine x_goto E 2 dX1_doubtAbove_55 (by decide) ?_
          exact ih2 (w + 1) f2 B2 (by omega) (by omega) hf2 e1 e2 e3 e4 (by omega) _ _ _ hG hS (lv_sub hl [1, 2, 0] rfl)
        have hr := nb_range (k := w) hd hc.1 hc.2
        have hsm : Sh (sp V (b + 9) f) n wd hi := hs.sp (by omega) _
        refine x_aload_n E dX1_doubtAbove_7 (lv_at hl 0 rfl) ?_
        refine x_getr E hI hG (xd0 hX hb) cf1 0 1 rfl (by decide) kf_X1_36 dX1_doubtAbove_8 ?_
        refine x_iload_n E dX1_doubtAbove_11 (lv_at hl 1 rfl) ?_
        refine x_iload_n E dX1_doubtAbove_12 (lv_at hl 2 rfl) ?_
        refine x_ci hG hS (x_runV E hI hG hS (xs0 hX) cf3 rfl (c_X3_beside l hX (sp V (b + 9) f) hsm c w (by omega) (by omega)) mf_X3_beside km_X1_119 rfl hl rfl (Nat.le_of_ble_eq_true rfl) (by rw [hR]; exact ⟨Nat.le_of_ble_eq_true rfl, Nat.le_of_ble_eq_true rfl⟩) ⟨Nat.zero_le _, Nat.zero_le _⟩ dX1_doubtAbove_13) (fun z1 V1 H locs hp hG hS => ?_)
        obtain ⟨ez, eV⟩ := hp
        rw [if_pos hc.1] at ez
        rw [eV] at hG
        rw [ez]
        refine x_istore_n E [(3, .int (jI (nb wd hi c w))), (0, .ref (wa X b)), (1, .int (jI c)), (2, .int (jI w))] dX1_doubtAbove_16 hl (by decide) rfl (fun ls hl => ?_)
        refine x_iload_n E dX1_doubtAbove_17 (lv_at hl 0 rfl) ?_
        refine x_iconst E dX1_doubtAbove_18 ?_
        refine x_icmp_eq E 52 dX1_doubtAbove_19 (by decide) (by unfold rg; omega) (by unfold rg; omega) (fun c19 => ?_) (fun c19 => ?_)
        · exact L52_2 f B1 hf g1 g2 (fun k k0 k1 kp kq => (by omega : k < w ∨ k = w).elim (fun z => g3 k k0 z kp kq) (fun z => by subst z; omega)) (by omega) _ _ _ hG hS (lv_sub hl [1, 2, 3] rfl)
        · have hv1 := hh (nb wd hi c w) (by omega) (by omega)
          have hv2 := hh c (by omega) (by omega)
          refine x_aload_n E dX1_doubtAbove_22 (lv_at hl 1 rfl) ?_
          refine x_getr E hI hG (xd0 hX hb) cf1 1 (b + 1) rfl (by decide) kf_X1_45 dX1_doubtAbove_23 ?_
          refine x_iload_n E dX1_doubtAbove_26 (lv_at hl 0 rfl) ?_
          refine x_iald E hI hG (xd1 hX hb) (h (nb wd hi c w)) (by rw [sp_n (by omega), hV]) (by omega) dX1_doubtAbove_27 ?_
          refine x_aload_n E dX1_doubtAbove_28 (lv_at hl 1 rfl) ?_
          refine x_getr E hI hG (xd0 hX hb) cf1 1 (b + 1) rfl (by decide) kf_X1_45 dX1_doubtAbove_29 ?_
          refine x_iload_n E dX1_doubtAbove_32 (lv_at hl 2 rfl) ?_
          refine x_iald E hI hG (xd1 hX hb) (h c) (by rw [sp_n (by omega), hV]) (by omega) dX1_doubtAbove_33 ?_
          refine x_isub E dX1_doubtAbove_34 ?_
          refine x_aload_n E dX1_doubtAbove_35 (lv_at hl 1 rfl) ?_
          refine x_getr E hI hG (xd0 hX hb) cf1 9 (b + 10) rfl (by decide) kf_X1_22 dX1_doubtAbove_36 ?_
          refine x_iconst E dX1_doubtAbove_39 ?_
          refine x_iald E hI hG (xd10 hX hb) (sl) (by rw [sp_n (by omega), hsl]) (by omega) dX1_doubtAbove_40 ?_
          refine x_icmp_le E 52 dX1_doubtAbove_41 (by decide) (by unfold rg; omega) (by unfold rg; omega) (fun c41 => ?_) (fun c41 => ?_)
          · exact L52_2 f B1 hf g1 g2 (fun k k0 k1 kp kq => (by omega : k < w ∨ k = w).elim (fun z => g3 k k0 z kp kq) (fun z => by subst z; omega)) (by omega) _ _ _ hG hS (lv_sub hl [1, 2, 3] rfl)
          · refine x_aload_n E dX1_doubtAbove_44 (lv_at hl 1 rfl) ?_
            refine x_getr E hI hG (xd0 hX hb) cf1 8 (b + 8) rfl (by decide) kf_X1_12 dX1_doubtAbove_45 ?_
            refine x_iload_n E dX1_doubtAbove_48 (lv_at hl 0 rfl) ?_
            refine x_cv hG hS (x_runV E hI hG hS (xd8 hX hb) cf0 rfl (c_X0_add l hX hb (sp V (b + 9) f) (by rw [sp_s]; exact hf) (nb wd hi c w) (by omega)) mf_X0_add km_X1_94 rfl hl rfl (Nat.le_of_ble_eq_true rfl) (by rw [hR]; exact ⟨Nat.le_of_ble_eq_true rfl, Nat.le_of_ble_eq_true rfl⟩) ⟨Nat.zero_le _, Nat.zero_le _⟩ dX1_doubtAbove_49) (fun V1 H locs hp hG hS => ?_)
            obtain ⟨f2, eV, hf2⟩ := hp
            rw [sp_sp] at eV
            rw [eV] at hG
            exact L52_2 f2 (bset B1 (nb wd hi c w) true) hf2 (fun d q => by unfold bset; split; rfl; exact g1 d q) (fun d q => by
                      unfold bset at q
                      split at q
                      · exact Or.inr (by omega)
                      · exact g2 d q) (fun k k0 k1 kp kq => by
                      unfold bset
                      split
                      · rfl
                      · rename_i z
                        exact g3 k k0 (by rcases (show k < w ∨ k = w by omega) with y | y; exact y; subst y; exact absurd rfl z) kp kq) (by
                      rw [cntB_set (by omega) (by omega)]
                      have := b2i_le (B1 (nb wd hi c w))
                      have : b2i true = 1 := rfl
                      omega) _ _ _ hG hS (lv_sub hl [1, 2, 3] rfl)
  exact L2_1 _ 0 (V (b + 9)) B (by omega) (by omega) hB (fun _ h => h) (fun _ h => Or.inl h) (fun k k0 k1 => by omega) (by omega) (Nat.lt_succ_self _) _ _ _ hG hS (lv_sub hl [1, 2, 0] rfl)
