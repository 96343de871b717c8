theorem su_s {f : Int → Int} {i : Int} (h : 0 ≤ i) : su (i + 1).toNat f = su i.toNat f + f i := by
  rw [show (i + 1).toNat = i.toNat + 1 by omega]
  show su i.toNat f + f (i.toNat : Int) = _
  rw [Int.toNat_of_nonneg h]
def hsF (V : Mem) (b : Nat) : Int → Int := fun c => if 0 < V (b + 6) c then V (b + 1) c else 0
/-- what a cell shows -/
def lookV (wd hi : Int) (b : Nat) (c k : Int) (V : Mem) : Int := if k = 0 then V (b + 1) c else if k = 1 then V (b + 3) c else if k = 2 then V (b + 4) c else if k = 3 then V (b + 5) c else if k = 4 then V (b + 6) c else if k = 5 then V (b + 7) c else if 6 ≤ k ∧ k ≤ 9 then b2i (shd wd hi (V (b + 1)) c (k - 6)) else -1
def layM (b : Nat) (c k v : Int) (V : Mem) : Mem := if k = 0 then st V (b + 3) c v else if k = 1 then st V (b + 4) c v else if k = 2 then st V (b + 5) c v else st (st V (b + 6) c v) (b + 7) c (-1)
/-! a storm: what is left to take ahead of the cell c -/
def lfr (wd : Int) (h : Int → Int) (k : Int) : Nat → Int
  | 0 => k
  | c + 1 => if ((c + 1 : Nat) : Int) % wd = 0 then k else lfr wd h k c - min (lfr wd h k c) (h (c : Int))
def cutF (wd : Int) (h : Int → Int) (k i : Int) : Int → Int := fun c => if 0 ≤ c ∧ c < i then h c - min (lfr wd h k c.toNat) (h c) else h c
def tkF (wd : Int) (h : Int → Int) (k : Int) : Int → Int := fun c => min (lfr wd h k c.toNat) (h c)
theorem lfr_rg {wd k : Int} {h : Int → Int} (hk : 0 ≤ k) (hk2 : k ≤ 999) {n : Nat} (hh : ∀ c : Int, 0 ≤ c → c < (n : Int) → 0 ≤ h c) : ∀ c : Nat, (c : Int) ≤ (n : Int) → 0 ≤ lfr wd h k c ∧ lfr wd h k c ≤ 999
  | 0, _ => ⟨hk, hk2⟩
  | c + 1, hc => by
    have ih := lfr_rg (wd := wd) hk hk2 hh c (by omega)
    have := hh (c : Int) (by omega) (by omega)
    unfold lfr
    split <;> omega
theorem cutF_0 {wd k : Int} {h : Int → Int} : cutF wd h k 0 = h := by funext c; unfold cutF; rw [if_neg (by omega)]
theorem cutF_s {wd k i : Int} {h : Int → Int} (h0 : 0 ≤ i) : ui (cutF wd h k i) i (h i - min (lfr wd h k i.toNat) (h i)) = cutF wd h k (i + 1) := by
  funext c; unfold ui cutF
  by_cases e : c = i
  · subst e; rw [if_pos rfl, if_pos ⟨h0, by omega⟩]
  · rw [if_neg e]
    by_cases q : 0 ≤ c ∧ c < i
    · rw [if_pos q, if_pos ⟨q.1, by omega⟩]
    · rw [if_neg q, if_neg (fun z => q ⟨z.1, by omega⟩)]
theorem cutF_i {wd k i : Int} {h : Int → Int} : cutF wd h k i i = h i := by unfold cutF; rw [if_neg (by omega)]
theorem lfr_s {wd k i : Int} {h : Int → Int} (h0 : 0 ≤ i) : lfr wd h k (i + 1).toNat = if (i + 1) % wd = 0 then k else lfr wd h k i.toNat - min (lfr wd h k i.toNat) (h i) := by
  rw [show (i + 1).toNat = i.toNat + 1 by omega]
  show (if ((i.toNat + 1 : Nat) : Int) % wd = 0 then k else _) = _
  rw [show ((i.toNat + 1 : Nat) : Int) = i + 1 by omega, Int.toNat_of_nonneg h0]
theorem lfr_row {wd k y : Int} {h : Int → Int} (h0 : 0 ≤ y) (hw : 0 < wd) : lfr wd h k (y * wd).toNat = k := by
  rcases (show y = 0 ∨ 0 < y by omega) with rfl | q
  · simp [lfr]
  · have : 0 < y * wd := Int.mul_pos q hw
    rw [show y * wd = (y * wd - 1) + 1 by omega, lfr_s (by omega), show y * wd - 1 + 1 = y * wd by omega, if_pos (Int.mul_emod_left _ _)]
/-- a storm: memory to memory -/
noncomputable def cutM (n : Nat) (wd hi : Int) (b : Nat) (k : Int) (V : Mem) : Mem := hall n wd hi b (st (sp V (b + 1) (cutF wd (V (b + 1)) k (n : Int))) b 13 (V b 13 + su n (tkF wd (V (b + 1)) k)))

set_option maxHeartbeats 4000000 in
set_option maxRecDepth 100000 in
theorem c_X1_look (l : Launch) {X : We} {n b : Nat} (hX : isX X n) (hb : isD b) {wd hi t : Int} (V : Mem) (hk : Mid V n wd hi b t) (c k : Int) (hc : 0 ≤ c ∧ c < (n : Int)) (hk2 : rg k) : Mt l X V yX1_look cX1_look 3 (some .int) 2 48 [.ref (wa X b), .int (jI c), .int (jI k)] (Qi X (fun z V1 => z = lookV wd hi b c k V ∧ V1 = V)) := by
  refine Mt.go (by decide) (Nat.le_of_ble_eq_true rfl) ?_
  intro pg ev s0 mi bl mt cd ls Rm ag Qq hR hQ E hI hG hS hl
  have hl : lv_has ls 3 [(0, .ref (wa X b)), (1, .int (jI c)), (2, .int (jI k))] := hl
  obtain ⟨⟨hs, hh, hz⟩, ⟨r2, r3, r4, r5, r6, r7, r8, r9, r10, r11⟩, hsk, hday⟩ := id hk
  have hd := hs.2.2.2.1
  have hbn : bnd n 0 9500 (V (b + 1)) := hh.ps hd |>.1
  obtain ⟨hn1, hn2⟩ := dims.n hd
  obtain ⟨hb1, hb2⟩ := isD.ge hb
  refine x_aload_n E dX1_look_0 (lv_at hl 0 rfl) ?_
  refine x_getr E hI hG (xd0 hX hb) cf1 0 1 rfl (by decide) kf_X1_36 dX1_look_1 ?_
  refine x_iload_n E dX1_look_4 (lv_at hl 1 rfl) ?_
  refine x_ci hG hS (x_runV E hI hG hS (xs0 hX) cf3 rfl (c_X3_has l hX V hs c (by unfold rg; omega)) mf_X3_has km_X1_86 rfl hl rfl (Nat.le_of_ble_eq_true rfl) (by rw [hR]; exact ⟨Nat.le_of_ble_eq_true rfl, Nat.le_of_ble_eq_true rfl⟩) ⟨Nat.zero_le _, Nat.zero_le _⟩ dX1_look_5) (fun z1 V1 H locs hp hG hS => ?_)
  obtain ⟨ez, eV⟩ := hp
  rw [eV] at hG
  rw [ez]
  refine x_if_ne E 13 dX1_look_8 (by decide) b01_rg (fun c8 => ?_) (fun c8 => ?_)
  · have L127_1 : ∀ (z : Int), (z = lookV wd hi b c k V) → ∀ (H : Heap) (locs : List Loc) (ls : Array Slot), GW X V H → va_S (wA X) s0.heap H locs → lv_has ls 3 [] → W pg l ev Rm s0 mi ag bl mt cd H locs 0 0 Qq (F0 mi 127 ls [.int (jI z)]) := by
      intro z hz1 H locs ls hG hS hl
      exact r_i E hQ hG hS dX1_look_127 (⟨hz1, rfl⟩)
    have L110_2 : (6 ≤ k ∧ k ≤ 9) → ∀ (H : Heap) (locs : List Loc) (ls : Array Slot), GW X V H → va_S (wA X) s0.heap H locs → lv_has ls 3 [(0, .ref (wa X b)), (1, .int (jI c)), (2, .int (jI k))] → W pg l ev Rm s0 mi ag bl mt cd H locs 0 0 Qq (F0 mi 110 ls []) := by
      intro  hy H locs ls hG hS hl
      have esh : lookV wd hi b c k V = b2i (shd wd hi (V (b + 1)) c (k - 6)) := by unfold lookV; rw [if_neg (by omega), if_neg (by omega), if_neg (by omega), if_neg (by omega), if_neg (by omega), if_neg (by omega), if_pos hy]
      refine x_aload_n E dX1_look_110 (lv_at hl 0 rfl) ?_
      refine x_iload_n E dX1_look_111 (lv_at hl 1 rfl) ?_
      refine x_iload_n E dX1_look_112 (lv_at hl 2 rfl) ?_
      refine x_bipush E dX1_look_113 (by decide) ?_
      refine x_isub E dX1_look_115 ?_
      refine x_ci hG hS (x_runV E hI hG hS (xd0 hX hb) cf1 rfl (c_X1_isInShadow l hX hb V hs (V (b + 1)) rfl hbn c (k - 6) hc (by omega)) mf_X1_isInShadow km_X1_100 rfl hl rfl (Nat.le_of_ble_eq_true rfl) (by rw [hR]; exact ⟨Nat.le_of_ble_eq_true rfl, Nat.le_of_ble_eq_true rfl⟩) ⟨Nat.zero_le _, Nat.zero_le _⟩ dX1_look_116) (fun z1 V1 H locs hp hG hS => ?_)
      obtain ⟨ez, eV⟩ := hp
      rw [eV] at hG
      rw [ez]
      refine x_if_eq E 126 dX1_look_119 (by decide) (b2i_rg _) (fun c119 => ?_) (fun c119 => ?_)
      · refine x_iconst E dX1_look_126 ?_
        exact L127_1 0 (by rw [esh, b2i_0.mp c119]; rfl) _ _ _ hG hS (lv_sub hl [] rfl)
      · refine x_iconst E dX1_look_122 ?_
        refine x_goto E 127 dX1_look_123 (by decide) ?_
        exact L127_1 1 (by rw [esh, b2i_ne.mp c119]; rfl) _ _ _ hG hS (lv_sub hl [] rfl)
    refine x_iload_n E dX1_look_13 (lv_at hl 2 rfl) ?_
    rcases (show k = 0 ∨ k = 1 ∨ k = 2 ∨ k = 3 ∨ k = 4 ∨ k = 5 ∨ k = 6 ∨ k = 7 ∨ k = 8 ∨ k = 9 ∨ (k < 0 ∨ 9 < k) by omega) with q | q | q | q | q | q | q | q | q | q | q
    · refine lv_tableIn E.1 E.2.1 dX1_look_14 (by rw [q]; decide) (by rw [q]; decide) (off := 54) (tgt := 68) (by rw [q]; decide) (by decide) ?_
      refine x_aload_n E dX1_look_68 (lv_at hl 0 rfl) ?_
      refine x_getr E hI hG (xd0 hX hb) cf1 1 (b + 1) rfl (by decide) kf_X1_45 dX1_look_69 ?_
      refine x_iload_n E dX1_look_72 (lv_at hl 1 rfl) ?_
      refine x_iald E hI hG (xd1 hX hb) (V (b + 1) c) rfl (by omega) dX1_look_73 ?_
      exact r_i E hQ hG hS dX1_look_74 (⟨by unfold lookV; rw [if_pos q], rfl⟩)
    · refine lv_tableIn E.1 E.2.1 dX1_look_14 (by rw [q]; decide) (by rw [q]; decide) (off := 61) (tgt := 75) (by rw [q]; decide) (by decide) ?_
      refine x_aload_n E dX1_look_75 (lv_at hl 0 rfl) ?_
      refine x_getr E hI hG (xd0 hX hb) cf1 3 (b + 3) rfl (by decide) kf_X1_51 dX1_look_76 ?_
      refine x_iload_n E dX1_look_79 (lv_at hl 1 rfl) ?_
      refine x_iald E hI hG (xd3 hX hb) (V (b + 3) c) rfl (by omega) dX1_look_80 ?_
      exact r_i E hQ hG hS dX1_look_81 (⟨by unfold lookV; rw [if_neg (by omega), if_pos q], rfl⟩)
    · refine lv_tableIn E.1 E.2.1 dX1_look_14 (by rw [q]; decide) (by rw [q]; decide) (off := 68) (tgt := 82) (by rw [q]; decide) (by decide) ?_
      refine x_aload_n E dX1_look_82 (lv_at hl 0 rfl) ?_
      refine x_getr E hI hG (xd0 hX hb) cf1 4 (b + 4) rfl (by decide) kf_X1_54 dX1_look_83 ?_
      refine x_iload_n E dX1_look_86 (lv_at hl 1 rfl) ?_
      refine x_iald E hI hG (xd4 hX hb) (V (b + 4) c) rfl (by omega) dX1_look_87 ?_
      exact r_i E hQ hG hS dX1_look_88 (⟨by unfold lookV; rw [if_neg (by omega), if_neg (by omega), if_pos q], rfl⟩)
    · refine lv_tableIn E.1 E.2.1 dX1_look_14 (by rw [q]; decide) (by rw [q]; decide) (off := 75) (tgt := 89) (by rw [q]; decide) (by decide) ?_
      refine x_aload_n E dX1_look_89 (lv_at hl 0 rfl) ?_
      refine x_getr E hI hG (xd0 hX hb) cf1 5 (b + 5) rfl (by decide) kf_X1_57 dX1_look_90 ?_
      refine x_iload_n E dX1_look_93 (lv_at hl 1 rfl) ?_
      refine x_iald E hI hG (xd5 hX hb) (V (b + 5) c) rfl (by omega) dX1_look_94 ?_
      exact r_i E hQ hG hS dX1_look_95 (⟨by unfold lookV; rw [if_neg (by omega), if_neg (by omega), if_neg (by omega), if_pos q], rfl⟩)
    · refine lv_tableIn E.1 E.2.1 dX1_look_14 (by rw [q]; decide) (by rw [q]; decide) (off := 82) (tgt := 96) (by rw [q]; decide) (by decide) ?_
      refine x_aload_n E dX1_look_96 (lv_at hl 0 rfl) ?_
      refine x_getr E hI hG (xd0 hX hb) cf1 6 (b + 6) rfl (by decide) kf_X1_60 dX1_look_97 ?_
      refine x_iload_n E dX1_look_100 (lv_at hl 1 rfl) ?_
      refine x_iald E hI hG (xd6 hX hb) (V (b + 6) c) rfl (by omega) dX1_look_101 ?_
      exact r_i E hQ hG hS dX1_look_102 (⟨by unfold lookV; rw [if_neg (by omega), if_neg (by omega), if_neg (by omega), if_neg (by omega), if_pos q], rfl⟩)
    · refine lv_tableIn E.1 E.2.1 dX1_look_14 (by rw [q]; decide) (by rw [q]; decide) (off := 89) (tgt := 103) (by rw [q]; decide) (by decide) ?_
      refine x_aload_n E dX1_look_103 (lv_at hl 0 rfl) ?_
      refine x_getr E hI hG (xd0 hX hb) cf1 7 (b + 7) rfl (by decide) kf_X1_63 dX1_look_104 ?_
      refine x_iload_n E dX1_look_107 (lv_at hl 1 rfl) ?_
      refine x_iald E hI hG (xd7 hX hb) (V (b + 7) c) rfl (by omega) dX1_look_108 ?_
      exact r_i E hQ hG hS dX1_look_109 (⟨by unfold lookV; rw [if_neg (by omega), if_neg (by omega), if_neg (by omega), if_neg (by omega), if_neg (by omega), if_pos q], rfl⟩)
    · refine lv_tableIn E.1 E.2.1 dX1_look_14 (by rw [q]; decide) (by rw [q]; decide) (off := 96) (tgt := 110) (by rw [q]; decide) (by decide) ?_
      exact L110_2  (by omega) _ _ _ hG hS (lv_sub hl [0, 1, 2] rfl)
    · refine lv_tableIn E.1 E.2.1 dX1_look_14 (by rw [q]; decide) (by rw [q]; decide) (off := 96) (tgt := 110) (by rw [q]; decide) (by decide) ?_
      exact L110_2  (by omega) _ _ _ hG hS (lv_sub hl [0, 1, 2] rfl)
    · refine lv_tableIn E.1 E.2.1 dX1_look_14 (by rw [q]; decide) (by rw [q]; decide) (off := 96) (tgt := 110) (by rw [q]; decide) (by decide) ?_
      exact L110_2  (by omega) _ _ _ hG hS (lv_sub hl [0, 1, 2] rfl)
    · refine lv_tableIn E.1 E.2.1 dX1_look_14 (by rw [q]; decide) (by rw [q]; decide) (off := 96) (tgt := 110) (by rw [q]; decide) (by decide) ?_
      exact L110_2  (by omega) _ _ _ hG hS (lv_sub hl [0, 1, 2] rfl)
    · refine lv_tableOut (tgt := 128) E.1 E.2.1 dX1_look_14 (by rw [j_toInt hk2]; omega) (by decide) ?_
      refine x_iconst E dX1_look_128 ?_
      exact r_i E hQ hG hS dX1_look_129 (⟨by unfold lookV; rw [if_neg (by omega), if_neg (by omega), if_neg (by omega), if_neg (by omega), if_neg (by omega), if_neg (by omega), if_neg (by omega)], rfl⟩)
  · exact absurd hc (b01_iff0.mp c8)

set_option maxHeartbeats 4000000 in
set_option maxRecDepth 100000 in
theorem c_X1_put (l : Launch) {X : We} {n b : Nat} (hX : isX X n) (hb : isD b) {wd hi : Int} (V : Mem) (hs : Sh V n wd hi) (c k v : Int) (hc : 0 ≤ c ∧ c < (n : Int)) (hk : 0 ≤ k ∧ k ≤ 3) : Mt l X V yX1_put cX1_put 4 none 1 21 [.ref (wa X b), .int (jI c), .int (jI k), .int (jI v)] (Qv X (fun V1 => V1 = layM b c k v V)) := by
  refine Mt.go (by decide) (Nat.le_of_ble_eq_true rfl) ?_
  intro pg ev s0 mi bl mt cd ls Rm ag Qq hR hQ E hI hG hS hl
  have hl : lv_has ls 4 [(0, .ref (wa X b)), (1, .int (jI c)), (2, .int (jI k)), (3, .int (jI v))] := hl
  obtain ⟨hn1, hn2⟩ := dims.n hs.2.2.2.1
  refine x_aload_n E dX1_put_0 (lv_at hl 0 rfl) ?_
  refine x_getr E hI hG (xd0 hX hb) cf1 0 1 rfl (by decide) kf_X1_36 dX1_put_1 ?_
  refine x_iload_n E dX1_put_4 (lv_at hl 1 rfl) ?_
  refine x_ci hG hS (x_runV E hI hG hS (xs0 hX) cf3 rfl (c_X3_has l hX V hs c (by unfold rg; omega)) mf_X3_has km_X1_86 rfl hl rfl (Nat.le_of_ble_eq_true rfl) (by rw [hR]; exact ⟨Nat.le_of_ble_eq_true rfl, Nat.le_of_ble_eq_true rfl⟩) ⟨Nat.zero_le _, Nat.zero_le _⟩ dX1_put_5) (fun z1 V1 H locs hp hG hS => ?_)
  obtain ⟨ez, eV⟩ := hp
  rw [eV] at hG
  rw [ez]
  refine x_if_ne E 12 dX1_put_8 (by decide) b01_rg (fun c8 => ?_) (fun c8 => ?_)
  · refine x_iload_n E dX1_put_12 (lv_at hl 2 rfl) ?_
    rcases (show k = 0 ∨ k = 1 ∨ k = 2 ∨ k = 3 by omega) with q | q | q | q
    · refine lv_tableIn E.1 E.2.1 dX1_put_13 (by rw [q]; decide) (by rw [q]; decide) (off := 27) (tgt := 40) (by rw [q]; decide) (by decide) ?_
      refine x_aload_n E dX1_put_40 (lv_at hl 0 rfl) ?_
      refine x_getr E hI hG (xd0 hX hb) cf1 3 (b + 3) rfl (by decide) kf_X1_51 dX1_put_41 ?_
      refine x_iload_n E dX1_put_44 (lv_at hl 1 rfl) ?_
      refine x_iload_n E dX1_put_45 (lv_at hl 3 rfl) ?_
      refine x_iast E hI hG hS (xd3 hX hb) (by omega) dX1_put_46 (fun H locs hG hS => ?_)
      refine x_goto E 84 dX1_put_47 (by decide) ?_
      exact r_v E hQ hG hS dX1_put_84 (by unfold layM; first | (rw [if_pos q]; done) | (rw [if_neg (by omega), if_pos q]; done) | (rw [if_neg (by omega), if_neg (by omega), if_pos q]; done) | (rw [if_neg (by omega), if_neg (by omega), if_neg (by omega)]; done))
    · refine lv_tableIn E.1 E.2.1 dX1_put_13 (by rw [q]; decide) (by rw [q]; decide) (off := 37) (tgt := 50) (by rw [q]; decide) (by decide) ?_
      refine x_aload_n E dX1_put_50 (lv_at hl 0 rfl) ?_
      refine x_getr E hI hG (xd0 hX hb) cf1 4 (b + 4) rfl (by decide) kf_X1_54 dX1_put_51 ?_
      refine x_iload_n E dX1_put_54 (lv_at hl 1 rfl) ?_
      refine x_iload_n E dX1_put_55 (lv_at hl 3 rfl) ?_
      refine x_iast E hI hG hS (xd4 hX hb) (by omega) dX1_put_56 (fun H locs hG hS => ?_)
      refine x_goto E 84 dX1_put_57 (by decide) ?_
      exact r_v E hQ hG hS dX1_put_84 (by unfold layM; first | (rw [if_pos q]; done) | (rw [if_neg (by omega), if_pos q]; done) | (rw [if_neg (by omega), if_neg (by omega), if_pos q]; done) | (rw [if_neg (by omega), if_neg (by omega), if_neg (by omega)]; done))
    · refine lv_tableIn E.1 E.2.1 dX1_put_13 (by rw [q]; decide) (by rw [q]; decide) (off := 47) (tgt := 60) (by rw [q]; decide) (by decide) ?_
      refine x_aload_n E dX1_put_60 (lv_at hl 0 rfl) ?_
      refine x_getr E hI hG (xd0 hX hb) cf1 5 (b + 5) rfl (by decide) kf_X1_57 dX1_put_61 ?_
      refine x_iload_n E dX1_put_64 (lv_at hl 1 rfl) ?_
      refine x_iload_n E dX1_put_65 (lv_at hl 3 rfl) ?_
      refine x_iast E hI hG hS (xd5 hX hb) (by omega) dX1_put_66 (fun H locs hG hS => ?_)
      refine x_goto E 84 dX1_put_67 (by decide) ?_
      exact r_v E hQ hG hS dX1_put_84 (by unfold layM; first | (rw [if_pos q]; done) | (rw [if_neg (by omega), if_pos q]; done) | (rw [if_neg (by omega), if_neg (by omega), if_pos q]; done) | (rw [if_neg (by omega), if_neg (by omega), if_neg (by omega)]; done))
    · refine lv_tableOut (tgt := 70) E.1 E.2.1 dX1_put_13 (by rw [q]; decide) (by decide) ?_
      refine x_aload_n E dX1_put_70 (lv_at hl 0 rfl) ?_
      refine x_getr E hI hG (xd0 hX hb) cf1 6 (b + 6) rfl (by decide) kf_X1_60 dX1_put_71 ?_
      refine x_iload_n E dX1_put_74 (lv_at hl 1 rfl) ?_
      refine x_iload_n E dX1_put_75 (lv_at hl 3 rfl) ?_
      refine x_iast E hI hG hS (xd6 hX hb) (by omega) dX1_put_76 (fun H locs hG hS => ?_)
      refine x_aload_n E dX1_put_77 (lv_at hl 0 rfl) ?_
      refine x_getr E hI hG (xd0 hX hb) cf1 7 (b + 7) rfl (by decide) kf_X1_63 dX1_put_78 ?_
      refine x_iload_n E dX1_put_81 (lv_at hl 1 rfl) ?_
      refine x_iconst E dX1_put_82 ?_
      refine x_iast E hI hG hS (xd7 hX hb) (by omega) dX1_put_83 (fun H locs hG hS => ?_)
      exact r_v E hQ hG hS dX1_put_84 (by unfold layM; first | (rw [if_pos q]; done) | (rw [if_neg (by omega), if_pos q]; done) | (rw [if_neg (by omega), if_neg (by omega), if_pos q]; done) | (rw [if_neg (by omega), if_neg (by omega), if_neg (by omega)]; done))
  · exact absurd hc (b01_iff0.mp c8)

set_option maxHeartbeats 4000000 in
set_option maxRecDepth 100000 in
theorem c_X1_grains (l : Launch) {X : We} {n b : Nat} (hX : isX X n) (hb : isD b) (V : Mem) (hn : n ≤ 160) : Mt l X V yX1_grains cX1_grains 3 (some .int) 0 0 [.ref (wa X b)] (Qi X (fun z V1 => z = su n (V (b + 1)) ∧ V1 = V)) := by
  refine Mt.go (by decide) (Nat.le_of_ble_eq_true rfl) ?_
  intro pg ev s0 mi bl mt cd ls Rm ag Qq hR hQ E hI hG hS hl
  have hl : lv_has ls 3 [(0, .ref (wa X b))] := hl
  refine x_iconst E dX1_grains_0 ?_
  refine x_istore_n E [(1, .int (jI 0)), (0, .ref (wa X b))] dX1_grains_1 hl (by decide) rfl (fun ls hl => ?_)
  refine x_iconst E dX1_grains_2 ?_
  refine x_istore_n E [(2, .int (jI 0)), (1, .int (jI 0)), (0, .ref (wa X b))] dX1_grains_3 hl (by decide) rfl (fun ls hl => ?_)
  have L4_1 : ∀ (N : Nat) (i : Int) (a : Int), (0 ≤ i) → (i ≤ (n : Int)) → (a = su i.toNat (V (b + 1))) → (((n : Int) - i).toNat) < N → ∀ (H : Heap) (locs : List Loc) (ls : Array Slot), GW X V H → va_S (wA X) s0.heap H locs → lv_has ls 3 [(0, .ref (wa X b)), (1, .int (jI a)), (2, .int (jI i))] → W pg l ev Rm s0 mi ag bl mt cd H locs 0 0 Qq (F0 mi 4 ls []) := by
    intro N
    induction N with
    | zero => intro i a i0 i1 ea hN; exact absurd hN (Nat.not_lt_zero _)
    | succ N ih4 =>
      intro i a i0 i1 ea hN H locs ls hG hS hl
      refine x_iload_n E dX1_grains_4 (lv_at hl 2 rfl) ?_
      refine x_aload_n E dX1_grains_5 (lv_at hl 0 rfl) ?_
      refine x_getr E hI hG (xd0 hX hb) cf1 1 (b + 1) rfl (by decide) kf_X1_45 dX1_grains_6 ?_
      refine x_alen E hI hG (xd1 hX hb) (by decide) dX1_grains_9 ?_
      refine x_icmp_ge E 28 dX1_grains_10 (by decide) (by unfold rg; omega) (by unfold rg; omega) (fun c10 => ?_) (fun c10 => ?_)
      · refine x_iload_n E dX1_grains_28 (lv_at hl 1 rfl) ?_
        exact r_i E hQ hG hS dX1_grains_29 (⟨by rw [ea, show i.toNat = n by omega], rfl⟩)
      · refine x_iload_n E dX1_grains_13 (lv_at hl 1 rfl) ?_
        refine x_aload_n E dX1_grains_14 (lv_at hl 0 rfl) ?_
        refine x_getr E hI hG (xd0 hX hb) cf1 1 (b + 1) rfl (by decide) kf_X1_45 dX1_grains_15 ?_
        refine x_iload_n E dX1_grains_18 (lv_at hl 2 rfl) ?_
        refine x_iald E hI hG (xd1 hX hb) (V (b + 1) i) rfl (by omega) dX1_grains_19 ?_
        refine x_iadd E dX1_grains_20 ?_
        refine x_istore_n E [(1, .int (jI (a + (V (b + 1) i)))), (0, .ref (wa X b)), (2, .int (jI i))] dX1_grains_21 hl (by decide) rfl (fun ls hl => ?_)
        refine x_iinc E (k := 2) [(2, .int (jI (i + 1))), (1, .int (jI (a + (V (b + 1) i)))), (0, .ref (wa X b))] dX1_grains_22 hl rfl (by decide) rfl (fun ls hl => ?_)
        refine x_goto E 4 dX1_grains_25 (by decide) ?_
        exact ih4 (i + 1) (a + V (b + 1) i) (by omega) (by omega) (by rw [su_s i0, ea]) (by omega) _ _ _ hG hS (lv_sub hl [2, 1, 0] rfl)
  exact L4_1 _ 0 0 (by omega) (by omega) rfl (Nat.lt_succ_self _) _ _ _ hG hS (lv_sub hl [2, 1, 0] rfl)

set_option maxHeartbeats 4000000 in
set_option maxRecDepth 100000 in
theorem c_X1_grainsOnHouses (l : Launch) {X : We} {n b : Nat} (hX : isX X n) (hb : isD b) (V : Mem) (hn : n ≤ 160) (r6 : bnd n 0 999 (V (b + 6))) : Mt l X V yX1_grainsOnHouses cX1_grainsOnHouses 3 (some .int) 0 0 [.ref (wa X b)] (Qi X (fun z V1 => z = su n (hsF V b) ∧ V1 = V)) := by
  refine Mt.go (by decide) (Nat.le_of_ble_eq_true rfl) ?_
  intro pg ev s0 mi bl mt cd ls Rm ag Qq hR hQ E hI hG hS hl
  have hl : lv_has ls 3 [(0, .ref (wa X b))] := hl
  refine x_iconst E dX1_grainsOnHouses_0 ?_
  refine x_istore_n E [(1, .int (jI 0)), (0, .ref (wa X b))] dX1_grainsOnHouses_1 hl (by decide) rfl (fun ls hl => ?_)
  refine x_iconst E dX1_grainsOnHouses_2 ?_
  refine x_istore_n E [(2, .int (jI 0)), (1, .int (jI 0)), (0, .ref (wa X b))] dX1_grainsOnHouses_3 hl (by decide) rfl (fun ls hl => ?_)
  have L4_1 : ∀ (N : Nat) (i : Int) (a : Int), (0 ≤ i) → (i ≤ (n : Int)) → (a = su i.toNat (hsF V b)) → (((n : Int) - i).toNat) < N → ∀ (H : Heap) (locs : List Loc) (ls : Array Slot), GW X V H → va_S (wA X) s0.heap H locs → lv_has ls 3 [(0, .ref (wa X b)), (1, .int (jI a)), (2, .int (jI i))] → W pg l ev Rm s0 mi ag bl mt cd H locs 0 0 Qq (F0 mi 4 ls []) := by
    intro N
    induction N with
    | zero => intro i a i0 i1 ea hN; exact absurd hN (Nat.not_lt_zero _)
    | succ N ih4 =>
      intro i a i0 i1 ea hN H locs ls hG hS hl
      refine x_iload_n E dX1_grainsOnHouses_4 (lv_at hl 2 rfl) ?_
      refine x_aload_n E dX1_grainsOnHouses_5 (lv_at hl 0 rfl) ?_
      refine x_getr E hI hG (xd0 hX hb) cf1 1 (b + 1) rfl (by decide) kf_X1_45 dX1_grainsOnHouses_6 ?_
      refine x_alen E hI hG (xd1 hX hb) (by decide) dX1_grainsOnHouses_9 ?_
      refine x_icmp_ge E 37 dX1_grainsOnHouses_10 (by decide) (by unfold rg; omega) (by unfold rg; omega) (fun c10 => ?_) (fun c10 => ?_)
      · refine x_iload_n E dX1_grainsOnHouses_37 (lv_at hl 1 rfl) ?_
        exact r_i E hQ hG hS dX1_grainsOnHouses_38 (⟨by rw [ea, show i.toNat = n by omega], rfl⟩)
      · have q6 := r6 i i0 (by omega)
        have es := su_s (f := hsF V b) i0
        have L31_2 : ∀ (a2 : Int), (a2 = su (i + 1).toNat (hsF V b)) → ∀ (H : Heap) (locs : List Loc) (ls : Array Slot), GW X V H → va_S (wA X) s0.heap H locs → lv_has ls 3 [(0, .ref (wa X b)), (1, .int (jI a2)), (2, .int (jI i))] → W pg l ev Rm s0 mi ag bl mt cd H locs 0 0 Qq (F0 mi 31 ls []) := by
          intro a2 ea2 H locs ls hG hS hl
          refine x_iinc E (k := 2) [(2, .int (jI (i + 1))), (0, .ref (wa X b)), (1, .int (jI a2))] dX1_grainsOnHouses_31 hl rfl (by decide) rfl (fun ls hl => ?_)
          refine x_goto E 4 dX1_grainsOnHouses_34 (by decide) ?_
          exact ih4 (i + 1) a2 (by omega) (by omega) ea2 (by omega) _ _ _ hG hS (lv_sub hl [1, 2, 0] rfl)
        refine x_aload_n E dX1_grainsOnHouses_13 (lv_at hl 0 rfl) ?_
        refine x_getr E hI hG (xd0 hX hb) cf1 6 (b + 6) rfl (by decide) kf_X1_60 dX1_grainsOnHouses_14 ?_
        refine x_iload_n E dX1_grainsOnHouses_17 (lv_at hl 2 rfl) ?_
        refine x_iald E hI hG (xd6 hX hb) (V (b + 6) i) rfl (by omega) dX1_grainsOnHouses_18 ?_
        refine x_if_le E 31 dX1_grainsOnHouses_19 (by decide) (by unfold rg; omega) (fun c19 => ?_) (fun c19 => ?_)
        · exact L31_2 a (by rw [es, ea, hsF, if_neg (by omega)]; omega) _ _ _ hG hS (lv_sub hl [0, 1, 2] rfl)
        · refine x_iload_n E dX1_grainsOnHouses_22 (lv_at hl 1 rfl) ?_
          refine x_aload_n E dX1_grainsOnHouses_23 (lv_at hl 0 rfl) ?_
          refine x_getr E hI hG (xd0 hX hb) cf1 1 (b + 1) rfl (by decide) kf_X1_45 dX1_grainsOnHouses_24 ?_
          refine x_iload_n E dX1_grainsOnHouses_27 (lv_at hl 2 rfl) ?_
          refine x_iald E hI hG (xd1 hX hb) (V (b + 1) i) rfl (by omega) dX1_grainsOnHouses_28 ?_
          refine x_iadd E dX1_grainsOnHouses_29 ?_
          refine x_istore_n E [(1, .int (jI (a + (V (b + 1) i)))), (0, .ref (wa X b)), (2, .int (jI i))] dX1_grainsOnHouses_30 hl (by decide) rfl (fun ls hl => ?_)
          exact L31_2 (a + V (b + 1) i) (by rw [es, ea, hsF, if_pos (by omega)]) _ _ _ hG hS (lv_sub hl [1, 0, 2] rfl)
  exact L4_1 _ 0 0 (by omega) (by omega) rfl (Nat.lt_succ_self _) _ _ _ hG hS (lv_sub hl [2, 1, 0] rfl)

set_option maxHeartbeats 4000000 in
set_option maxRecDepth 100000 in
theorem c_X1_cut (l : Launch) {X : We} {n b : Nat} (hX : isX X n) (hb : isD b) {wd hi t : Int} (V : Mem) (hk : Mid V n wd hi b t) (k : Int) (hk1 : 1 ≤ k ∧ k ≤ 999) : Mt l X V yX1_cut cX1_cut 8 (some .int) 4 91 [.ref (wa X b), .int (jI k)] (Qi X (fun z V1 => z = su n (tkF wd (V (b + 1)) k) ∧ V1 = cutM n wd hi b k V)) := by
  refine Mt.go (by decide) (Nat.le_of_ble_eq_true rfl) ?_
  intro pg ev s0 mi bl mt cd ls Rm ag Qq hR hQ E hI hG hS hl
  have hl : lv_has ls 8 [(0, .ref (wa X b)), (1, .int (jI k))] := hl
  obtain ⟨⟨hs, hh, hz⟩, ⟨r2, r3, r4, r5, r6, r7, r8, r9, r10, r11⟩, hsk, hday⟩ := id hk
  have hd := hs.2.2.2.1
  have hbn : bnd n 0 9500 (V (b + 1)) := hh.ps hd |>.1
  obtain ⟨hn1, hn2⟩ := dims.n hd
  obtain ⟨hb1, hb2⟩ := isD.ge hb
  have hw4 := hd.2.1
  have hw5 := hd.2.2.1
  have hh4 := hd.2.2.2
  have hcut := HI.cut (g := cutF wd (V (b + 1)) k (n : Int)) hd hh (fun c c0 c1 => by
    have p1 := hh.2.1 c c0 c1
    have p2 := lfr_rg (wd := wd) (h := V (b + 1)) (by omega : 0 ≤ k) (by omega) hh.2.1 c.toNat (by omega)
    unfold cutF
    rw [if_pos ⟨c0, c1⟩]
    omega)
  rw [show V = (sp V (b + 1) (cutF wd (V (b + 1)) k 0)) by rw [cutF_0, sp_self]] at hG
  refine x_iconst E dX1_cut_0 ?_
  refine x_istore_n E [(2, .int (jI 0)), (0, .ref (wa X b)), (1, .int (jI k))] dX1_cut_1 hl (by decide) rfl (fun ls hl => ?_)
  rw [show (0 : Int) = 0 * wd by omega] at hG
  refine x_iconst E dX1_cut_2 ?_
  refine x_istore_n E [(3, .int (jI 0)), (2, .int (jI 0)), (0, .ref (wa X b)), (1, .int (jI k))] dX1_cut_3 hl (by decide) rfl (fun ls hl => ?_)
  have L4_1 : ∀ (N : Nat) (y : Int) (a : Int), (0 ≤ y) → (y ≤ hi) → (a = su (y * wd).toNat (tkF wd (V (b + 1)) k)) → ((hi - y).toNat) < N → ∀ (H : Heap) (locs : List Loc) (ls : Array Slot), GW X (sp V (b + 1) (cutF wd (V (b + 1)) k (y * wd))) H → va_S (wA X) s0.heap H locs → lv_has ls 8 [(0, .ref (wa X b)), (1, .int (jI k)), (2, .int (jI a)), (3, .int (jI y))] → W pg l ev Rm s0 mi ag bl mt cd H locs 0 0 Qq (F0 mi 4 ls []) := by
    intro N
    induction N with
    | zero => intro y a y0 y1 ea hN; exact absurd hN (Nat.not_lt_zero _)
    | succ N ih4 =>
      intro y a y0 y1 ea hN H locs ls hG hS hl
      refine x_iload_n E dX1_cut_4 (lv_at hl 3 rfl) ?_
      refine x_aload_n E dX1_cut_5 (lv_at hl 0 rfl) ?_
      refine x_getr E hI hG (xd0 hX hb) cf1 0 1 rfl (by decide) kf_X1_36 dX1_cut_6 ?_
      refine x_geti E hI hG (xs0 hX) cf3 1 (hi) rfl (by decide) (show (sp V (b + 1) (cutF wd (V (b + 1)) k (y * wd))) 1 1 = hi from (by rw [sp_n (by omega)]; exact hs.2.1)) kf_X1_104 dX1_cut_9 ?_
      refine x_icmp_ge E 97 dX1_cut_12 (by decide) (by unfold rg; omega) (by unfold rg; omega) (fun c12 => ?_) (fun c12 => ?_)
      · have hyh : y = hi := by omega
        rw [show y * wd = (n : Int) by rw [hyh, Int.mul_comm]; exact hd.1.symm] at hG ea
        refine x_aload_n E dX1_cut_97 (lv_at hl 0 rfl) ?_
        refine x_dup E dX1_cut_98 rfl ?_
        refine x_geti E hI hG (xd0 hX hb) cf1 13 (V b 13) rfl (by decide) (show (sp V (b + 1) (cutF wd (V (b + 1)) k (n : Int))) b 13 = V b 13 from (by rw [sp_n (by omega)])) kf_X1_77 dX1_cut_99 ?_
        refine x_iload_n E dX1_cut_102 (lv_at hl 2 rfl) ?_
        refine x_iadd E dX1_cut_103 ?_
        refine x_puti E hI hG hS (xd0 hX hb) cf1 13 13 rfl rfl (by decide) rfl rfl kf_X1_77 dX1_cut_104 (fun H locs hG hS => ?_)
        refine x_aload_n E dX1_cut_107 (lv_at hl 0 rfl) ?_
        refine x_cv hG hS (x_runV E hI hG hS (xd0 hX hb) cf1 rfl (c_X1_settleAll l hX hb (st (sp V (b + 1) (cutF wd (V (b + 1)) k (n : Int))) b 13 (V b 13 + a)) ((hs.sp (by omega) _).st (by omega) _ _) (by rw [st_p (by omega), sp_s]; exact hcut.1) (by rw [st_p (by omega), sp_n (by omega)]; exact ⟨hh.2.2.2.1, hh.2.2.2.2.1⟩) (by rw [st_p (by omega), sp_n (by omega)]; exact hz)) mf_X1_settleAll km_X1_116 rfl hl rfl (Nat.le_of_ble_eq_true rfl) (by rw [hR]; exact ⟨Nat.le_of_ble_eq_true rfl, Nat.le_of_ble_eq_true rfl⟩) ⟨Nat.zero_le _, Nat.zero_le _⟩ dX1_cut_108) (fun V1 H locs hp hG hS => ?_)
        have eV := hp
        rw [eV] at hG
        refine x_iload_n E dX1_cut_111 (lv_at hl 2 rfl) ?_
        exact r_i E hQ hG hS dX1_cut_112 (⟨by rw [ea]; congr 1, by unfold cutM; rw [ea]; rfl⟩)
      · refine x_iload_n E dX1_cut_15 (lv_at hl 1 rfl) ?_
        refine x_istore E [(4, .int (jI k)), (0, .ref (wa X b)), (1, .int (jI k)), (2, .int (jI a)), (3, .int (jI y))] dX1_cut_16 hl (by decide) rfl (fun ls hl => ?_)
        rw [show y * wd = y * wd + 0 by omega] at hG
        refine x_iconst E dX1_cut_18 ?_
        refine x_istore E [(5, .int (jI 0)), (4, .int (jI k)), (0, .ref (wa X b)), (1, .int (jI k)), (2, .int (jI a)), (3, .int (jI y))] dX1_cut_19 hl (by decide) rfl (fun ls hl => ?_)
        have L21_2 : ∀ (N : Nat) (x : Int) (a : Int) (lf : Int), (0 ≤ x) → (x ≤ wd) → (a = su (y * wd + x).toNat (tkF wd (V (b + 1)) k)) → (x < wd → lf = lfr wd (V (b + 1)) k (y * wd + x).toNat) → ((wd - x).toNat) < N → ∀ (H : Heap) (locs : List Loc) (ls : Array Slot), GW X (sp V (b + 1) (cutF wd (V (b + 1)) k (y * wd + x))) H → va_S (wA X) s0.heap H locs → lv_has ls 8 [(0, .ref (wa X b)), (1, .int (jI k)), (2, .int (jI a)), (3, .int (jI y)), (4, .int (jI lf)), (5, .int (jI x))] → W pg l ev Rm s0 mi ag bl mt cd H locs 0 0 Qq (F0 mi 21 ls []) := by
          intro N
          induction N with
          | zero => intro x a lf x0 x1 ea elf hN; exact absurd hN (Nat.not_lt_zero _)
          | succ N ih21 =>
            intro x a lf x0 x1 ea elf hN H locs ls hG hS hl
            refine x_iload E dX1_cut_21 (lv_at hl 5 rfl) ?_
            refine x_aload_n E dX1_cut_23 (lv_at hl 0 rfl) ?_
            refine x_getr E hI hG (xd0 hX hb) cf1 0 1 rfl (by decide) kf_X1_36 dX1_cut_24 ?_
            refine x_geti E hI hG (xs0 hX) cf3 0 (wd) rfl (by decide) (show (sp V (b + 1) (cutF wd (V (b + 1)) k (y * wd + x))) 1 0 = wd from (by rw [sp_n (by omega)]; exact hs.1)) kf_X1_107 dX1_cut_27 ?_
            refine x_icmp_ge E 91 dX1_cut_30 (by decide) (by unfold rg; omega) (by unfold rg; omega) (fun c30 => ?_) (fun c30 => ?_)
            · rw [show y * wd + x = (y + 1) * wd by rw [Int.add_mul, show x = wd by omega]; omega] at hG ea
              refine x_iinc E (k := 3) [(3, .int (jI (y + 1))), (0, .ref (wa X b)), (1, .int (jI k)), (2, .int (jI a)), (4, .int (jI lf)), (5, .int (jI x))] dX1_cut_91 hl rfl (by decide) rfl (fun ls hl => ?_)
              refine x_goto E 4 dX1_cut_94 (by decide) ?_
              exact ih4 (y + 1) a (by omega) (by omega) ea (by omega) _ _ _ hG hS (lv_sub hl [1, 2, 3, 0] rfl)
            · have hcc := cell_of hd y0 (show y < hi by omega) x0 (show x < wd by omega)
              have hv := hbn (y * wd + x) hcc.1 hcc.2.1
              have hlf := lfr_rg (wd := wd) (h := (V (b + 1))) (by omega : 0 ≤ k) (by omega) hh.2.1 (y * wd + x).toNat (by omega)
              have elf2 := elf (by omega)
              rw [← elf2] at hlf
              refine x_iload_n E dX1_cut_33 (lv_at hl 3 rfl) ?_
              refine x_aload_n E dX1_cut_34 (lv_at hl 0 rfl) ?_
              refine x_getr E hI hG (xd0 hX hb) cf1 0 1 rfl (by decide) kf_X1_36 dX1_cut_35 ?_
              refine x_geti E hI hG (xs0 hX) cf3 0 (wd) rfl (by decide) (show (sp V (b + 1) (cutF wd (V (b + 1)) k (y * wd + x))) 1 0 = wd from (by rw [sp_n (by omega)]; exact hs.1)) kf_X1_107 dX1_cut_38 ?_
              refine x_imul E dX1_cut_41 ?_
              refine x_iload E dX1_cut_42 (lv_at hl 5 rfl) ?_
              refine x_iadd E dX1_cut_44 ?_
              refine x_istore E [(6, .int (jI ((y * wd) + x))), (0, .ref (wa X b)), (1, .int (jI k)), (2, .int (jI a)), (3, .int (jI y)), (4, .int (jI lf)), (5, .int (jI x))] dX1_cut_45 hl (by decide) rfl (fun ls hl => ?_)
              refine x_iload E dX1_cut_47 (lv_at hl 5 rfl) ?_
              refine x_aload_n E dX1_cut_49 (lv_at hl 1 rfl) ?_
              refine x_getr E hI hG (xd0 hX hb) cf1 1 (b + 1) rfl (by decide) kf_X1_45 dX1_cut_50 ?_
              refine x_iload E dX1_cut_53 (lv_at hl 0 rfl) ?_
              refine x_iald E hI hG (xd1 hX hb) (V (b + 1) (y * wd + x)) (by rw [sp_s]; exact cutF_i) (by omega) dX1_cut_55 ?_
              refine x_min E hl km_X1_110 (by rw [hR]; exact ⟨Nat.le_of_ble_eq_true rfl, Nat.le_of_ble_eq_true rfl⟩) ⟨Nat.zero_le _, Nat.zero_le _⟩ (by unfold rg; omega) (by unfold rg; omega) dX1_cut_56 ?_
              refine x_istore E [(7, .int (jI (min lf (V (b + 1) (y * wd + x))))), (6, .int (jI ((y * wd) + x))), (0, .ref (wa X b)), (1, .int (jI k)), (2, .int (jI a)), (3, .int (jI y)), (4, .int (jI lf)), (5, .int (jI x))] dX1_cut_59 hl (by decide) rfl (fun ls hl => ?_)
              refine x_aload_n E dX1_cut_61 (lv_at hl 2 rfl) ?_
              refine x_getr E hI hG (xd0 hX hb) cf1 1 (b + 1) rfl (by decide) kf_X1_45 dX1_cut_62 ?_
              refine x_iload E dX1_cut_65 (lv_at hl 1 rfl) ?_
              refine x_dup2 E dX1_cut_67 rfl rfl ?_
              refine x_iald E hI hG (xd1 hX hb) (V (b + 1) (y * wd + x)) (by rw [sp_s]; exact cutF_i) (by omega) dX1_cut_68 ?_
              refine x_iload E dX1_cut_69 (lv_at hl 0 rfl) ?_
              refine x_isub E dX1_cut_71 ?_
              refine x_iast E hI hG hS (xd1 hX hb) (by omega) dX1_cut_72 (fun H locs hG hS => ?_)
              rw [show (st (sp V (b + 1) (cutF wd (V (b + 1)) k (y * wd + x))) (b + 1) ((y * wd) + x) ((V (b + 1) (y * wd + x)) - (min lf (V (b + 1) (y * wd + x))))) = (sp V (b + 1) (cutF wd (V (b + 1)) k (y * wd + (x + 1)))) from by rw [st_sp, sp_s, sp_sp, elf2, cutF_s hcc.1, show y * wd + x + 1 = y * wd + (x + 1) by omega]] at hG
              refine x_iload E dX1_cut_73 (lv_at hl 6 rfl) ?_
              refine x_iload E dX1_cut_75 (lv_at hl 0 rfl) ?_
              refine x_isub E dX1_cut_77 ?_
              refine x_istore E [(4, .int (jI (lf - (min lf (V (b + 1) (y * wd + x)))))), (7, .int (jI (min lf (V (b + 1) (y * wd + x))))), (6, .int (jI ((y * wd) + x))), (0, .ref (wa X b)), (1, .int (jI k)), (2, .int (jI a)), (3, .int (jI y)), (5, .int (jI x))] dX1_cut_78 hl (by decide) rfl (fun ls hl => ?_)
              refine x_iload_n E dX1_cut_80 (lv_at hl 5 rfl) ?_
              refine x_iload E dX1_cut_81 (lv_at hl 1 rfl) ?_
              refine x_iadd E dX1_cut_83 ?_
              refine x_istore_n E [(2, .int (jI (a + (min lf (V (b + 1) (y * wd + x)))))), (4, .int (jI (lf - (min lf (V (b + 1) (y * wd + x)))))), (7, .int (jI (min lf (V (b + 1) (y * wd + x))))), (6, .int (jI ((y * wd) + x))), (0, .ref (wa X b)), (1, .int (jI k)), (3, .int (jI y)), (5, .int (jI x))] dX1_cut_84 hl (by decide) rfl (fun ls hl => ?_)
              refine x_iinc E (k := 7) [(5, .int (jI (x + 1))), (2, .int (jI (a + (min lf (V (b + 1) (y * wd + x)))))), (4, .int (jI (lf - (min lf (V (b + 1) (y * wd + x)))))), (7, .int (jI (min lf (V (b + 1) (y * wd + x))))), (6, .int (jI ((y * wd) + x))), (0, .ref (wa X b)), (1, .int (jI k)), (3, .int (jI y))] dX1_cut_85 hl rfl (by decide) rfl (fun ls hl => ?_)
              refine x_goto E 21 dX1_cut_88 (by decide) ?_
              exact ih21 (x + 1) (a + min lf (V (b + 1) (y * wd + x))) (lf - min lf (V (b + 1) (y * wd + x))) (by omega) (by omega) (by rw [show y * wd + (x + 1) = y * wd + x + 1 by omega, su_s hcc.1, ea]; unfold tkF; rw [elf2]) (fun hx => by
                      have hc2 := cell_of hd y0 (show y < hi by omega) (x := x + 1) (by omega) hx
                      rw [show y * wd + (x + 1) = y * wd + x + 1 by omega] at hc2 ⊢
                      rw [lfr_s hcc.1, if_neg (by rw [hc2.2.2.2]; omega), elf2]) (by omega) _ _ _ hG hS (lv_sub hl [5, 6, 1, 7, 2, 0] rfl)
        exact L21_2 _ 0 a k (by omega) (by omega) (by rw [Int.add_zero]; exact ea) (fun _ => by rw [Int.add_zero]; exact (lfr_row y0 (by omega)).symm) (Nat.lt_succ_self _) _ _ _ hG hS (lv_sub hl [2, 3, 4, 5, 1, 0] rfl)
  exact L4_1 _ 0 0 (by omega) (by omega) (by simp [su]) (Nat.lt_succ_self _) _ _ _ hG hS (lv_sub hl [2, 3, 1, 0] rfl)
