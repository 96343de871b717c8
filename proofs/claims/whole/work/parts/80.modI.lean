section WN
variable {F : Int → Int} {L : Int}
/-- the head stands before a clause -/
def HD (F : Int → Int) (L a t s d : Int) : Prop := (0 ≤ s ∧ s ≤ 4) ∧ (0 ≤ t ∧ t ≤ L) ∧ ((s = 0 ∧ L ≤ t) ∨ (s ≠ 0 ∧ t < L ∧ a = tend F L t ∧ ((s = 1 ∧ d = wv F t a ∧ 0 ≤ d ∧ d ≤ 4) ∨ (s ≠ 1 ∧ wv F t a = -1))))
theorem NX.t {a0 a t s d : Int} (h : NX F L a0 a t s d) (h0 : 0 ≤ a0) (h1 : a0 ≤ L) : (0 ≤ t ∧ t ≤ L) ∧ a0 ≤ t ∧ t = skF F L a0 := by
  have := skF_rg F h1
  rw [← h.1] at this
  exact ⟨⟨by omega, this.2⟩, this.1, h.1⟩
theorem NX.s {a0 a t s d : Int} (h : NX F L a0 a t s d) : 0 ≤ s ∧ s ≤ 4 := by
  rcases h.2 with ⟨-, q, -⟩ | ⟨-, -, ⟨-, -, q⟩ | ⟨-, -, q, -⟩ | ⟨-, -, q⟩⟩
  · omega
  · rw [q]; split <;> omega
  · omega
  · rw [q]; split <;> omega
theorem NX.head {a0 a t s d : Int} (h : NX F L a0 a t s d) (h0 : 0 ≤ a0) (h1 : a0 ≤ L) : HD F L a t s d := by
  refine ⟨h.s, (h.t h0 h1).1, ?_⟩
  rcases h.2 with ⟨q1, q2, -⟩ | ⟨q1, q2, ⟨q3, q4, q5⟩ | ⟨q3, q4, q5, -⟩ | ⟨q3, q4, q5⟩⟩
  · exact Or.inl ⟨q2, q1⟩
  · have := wv_rg F t a
    by_cases z : wv F t a = -1
    · rw [if_pos z] at q5
      exact Or.inr ⟨by omega, q1, q2, Or.inr ⟨by omega, z⟩⟩
    · rw [if_neg z] at q5
      exact Or.inr ⟨by omega, q1, q2, Or.inl ⟨q5, q4, by omega, by omega⟩⟩
  · exact Or.inr ⟨by omega, q1, q2, Or.inr ⟨by omega, wv_no q3⟩⟩
  · refine Or.inr ⟨?_, q1, q2, Or.inr ⟨?_, wv_no q3⟩⟩
    · rw [q5]; split <;> omega
    · rw [q5]; split <;> omega
theorem NX.num {a0 a t s d : Int} (h : NX F L a0 a t s d) : (s = 2 ∧ t < L ∧ a = tend F L t ∧ isG (F t) = true ∧ 0 ≤ d ∧ d ≤ 1000000 ∧ min 1000 d = nv F t a) ∨ (s ≠ 2 ∧ (L ≤ t ∨ (t < L ∧ isG (F t) = false))) := by
  rcases h.2 with ⟨q1, q2, -⟩ | ⟨q1, q2, ⟨q3, q4, q5⟩ | ⟨q3, q4, q5, q6⟩ | ⟨q3, q4, q5⟩⟩
  · exact Or.inr ⟨by omega, Or.inl q1⟩
  · refine Or.inr ⟨by rw [q5]; split <;> omega, Or.inr ⟨q1, ?_⟩⟩
    have := isL_rg q3
    unfold isG; rw [decide_eq_false_iff_not]; omega
  · exact Or.inl ⟨q5, q1, q2, q4, q6⟩
  · exact Or.inr ⟨by rw [q5]; split <;> omega, Or.inr ⟨q1, q4⟩⟩
theorem NX.sign {a0 a t s d : Int} (h : NX F L a0 a t s d) : (s = 3 ∧ t < L ∧ a = tend F L t ∧ F t = 59) ∨ (s ≠ 3 ∧ (L ≤ t ∨ (t < L ∧ F t ≠ 59))) := by
  rcases h.2 with ⟨q1, q2, -⟩ | ⟨q1, q2, ⟨q3, q4, q5⟩ | ⟨q3, q4, q5, q6⟩ | ⟨q3, q4, q5⟩⟩
  · exact Or.inr ⟨by omega, Or.inl q1⟩
  · have := isL_rg q3
    exact Or.inr ⟨by rw [q5]; split <;> omega, Or.inr ⟨q1, by omega⟩⟩
  · unfold isG at q4
    rw [decide_eq_true_iff] at q4
    exact Or.inr ⟨by omega, Or.inr ⟨q1, by omega⟩⟩
  · by_cases z : F t = 59
    · rw [if_pos z] at q5; exact Or.inl ⟨q5, q1, q2, z⟩
    · rw [if_neg z] at q5; exact Or.inr ⟨by omega, Or.inr ⟨q1, z⟩⟩
/-! the text's steps -/
theorem PR_w1 {i word cnt : Int} {wf df : Int → Int} (h : i < L) (hw : wv F i (tend F L i) = -1) : PR F L i 0 word cnt wf df = (1, i, cnt, wf, df) := by
  have e : fo F 0 i (tend F L i) cnt = 1 := by unfold fo; rw [if_pos rfl, if_pos hw]
  rw [PR_s h, e, if_pos (by decide)]
theorem PR_w3 {i word cnt : Int} {wf df : Int → Int} (h : i < L) (hw : wv F i (tend F L i) ≠ -1) (hc : 20 ≤ cnt) : PR F L i 0 word cnt wf df = (3, i, cnt, wf, df) := by
  have e : fo F 0 i (tend F L i) cnt = 3 := by unfold fo; rw [if_pos rfl, if_neg hw, if_pos hc]
  rw [PR_s h, e, if_pos (by decide)]
theorem PR_w0 {i word cnt : Int} {wf df : Int → Int} (h : i < L) (hw : wv F i (tend F L i) ≠ -1) (hc : cnt < 20) : PR F L i 0 word cnt wf df = PR F L (skF F L (tend F L i)) 1 (wv F i (tend F L i)) cnt wf df := by
  have e : fo F 0 i (tend F L i) cnt = 0 := by unfold fo; rw [if_pos rfl, if_neg hw, if_neg (by omega)]
  rw [PR_s h, e, if_neg (by decide), if_pos rfl]
theorem PR_ne {i due word cnt : Int} {wf df : Int → Int} (h : i = L) (hd : due ≠ 0) : PR F L i due word cnt wf df = (1, i, cnt, wf, df) := by
  rw [PR_end (by omega)]; unfold prE; rw [if_neg hd, if_neg hd, h]
theorem PR_n1 {i word cnt : Int} {wf df : Int → Int} (h : i < L) (hg : isG (F i) = false) : PR F L i 1 word cnt wf df = (1, i, cnt, wf, df) := by
  have e : fo F 1 i (tend F L i) cnt = 1 := by unfold fo; rw [if_neg (by decide), if_pos rfl, hg, if_neg (by decide)]
  rw [PR_s h, e, if_pos (by decide)]
theorem PR_n2 {i word cnt : Int} {wf df : Int → Int} (h : i < L) (hg : isG (F i) = true) (hn : ¬ (1 ≤ nv F i (tend F L i) ∧ nv F i (tend F L i) ≤ 60)) : PR F L i 1 word cnt wf df = (2, i, cnt, wf, df) := by
  have e : fo F 1 i (tend F L i) cnt = 2 := by unfold fo; rw [if_neg (by decide), if_pos rfl, if_pos hg, if_neg hn]
  rw [PR_s h, e, if_pos (by decide)]
theorem PR_n0 {i word cnt : Int} {wf df : Int → Int} (h : i < L) (hg : isG (F i) = true) (hn : 1 ≤ nv F i (tend F L i) ∧ nv F i (tend F L i) ≤ 60) : PR F L i 1 word cnt wf df = PR F L (skF F L (tend F L i)) 2 word (cnt + 1) (ui wf cnt word) (ui df cnt (nv F i (tend F L i))) := by
  have e : fo F 1 i (tend F L i) cnt = 0 := by unfold fo; rw [if_neg (by decide), if_pos rfl, if_pos hg, if_pos hn]
  rw [PR_s h, e, if_neg (by decide), if_neg (by decide), if_pos rfl]
theorem PR_g1 {i word cnt : Int} {wf df : Int → Int} (h : i < L) (hg : F i ≠ 59) : PR F L i 2 word cnt wf df = (1, i, cnt, wf, df) := by
  have e : fo F 2 i (tend F L i) cnt = 1 := by unfold fo; rw [if_neg (by decide), if_neg (by decide), if_neg hg]
  rw [PR_s h, e, if_pos (by decide)]
theorem PR_g0 {i word cnt : Int} {wf df : Int → Int} (h : i < L) (hg : F i = 59) : PR F L i 2 word cnt wf df = PR F L (skF F L (tend F L i)) 0 word cnt wf df := by
  have e : fo F 2 i (tend F L i) cnt = 0 := by unfold fo; rw [if_neg (by decide), if_neg (by decide), if_pos hg]
  rw [PR_s h, e, if_neg (by decide), if_neg (by decide), if_neg (by decide)]
/-- the model's memory while it reads -/
def WB (U Y : Mem) : Prop := (∀ p, p ≠ 0 → p ≠ 12 → p ≠ 13 → Y p = U p) ∧ (∀ k : Int, (k < 22 ∨ 28 < k) → Y 0 k = U 0 k) ∧ Y 0 22 = 0
def ER (F : Int → Int) (L : Int) (Y : Mem) : Prop := 1 ≤ Y 0 27 ∧ Y 0 27 ≤ 3 ∧ (PR0 F L).1 = Y 0 27 ∧ (PR0 F L).2.1 = Y 0 28
def RW (Y : Mem) (cnt : Int) (wf df : Int → Int) : Prop := ∀ k : Int, 0 ≤ k → k < cnt → Y 12 k = wf k ∧ Y 13 k = df k
def OKs (F : Int → Int) (L : Int) (Y : Mem) (cnt : Int) : Prop := Y 0 27 = 0 ∧ Y 0 28 = -1 ∧ ∃ word wf df, PR F L (Y 0 24) 0 word cnt wf df = PR0 F L ∧ RW Y cnt wf df ∧ HD F L (Y 0 23) (Y 0 24) (Y 0 25) (Y 0 26)
def WS (F : Int → Int) (L : Int) (U Y : Mem) (cnt : Int) : Prop := WB U Y ∧ (0 ≤ cnt ∧ cnt ≤ 20) ∧ (0 ≤ Y 0 25 ∧ Y 0 25 ≤ 4) ∧ (OKs F L Y cnt ∨ ER F L Y)
variable {U Y : Mem}
theorem WB.q (h : WB U Y) (a t s d : Int) : WB U (q4 Y a t s d) := ⟨fun p p0 p1 p2 => by rw [q4_p p0]; exact h.1 p p0 p1 p2, fun k hk => by rw [q4_k (by omega)]; exact h.2.1 k hk, by rw [q4_k (by omega)]; exact h.2.2⟩
theorem WB.er (h : WB U Y) (x y : Int) : WB U (st (st Y 0 27 x) 0 28 y) := ⟨fun p p0 p1 p2 => by rw [st_p p0, st_p p0]; exact h.1 p p0 p1 p2, fun k hk => by rw [st_k (by omega), st_k (by omega)]; exact h.2.1 k hk, by rw [st_k (by decide), st_k (by decide)]; exact h.2.2⟩
theorem WB.s12 (h : WB U Y) (k v : Int) : WB U (st Y 12 k v) := ⟨fun p p0 p1 p2 => by rw [st_p p1]; exact h.1 p p0 p1 p2, fun k hk => by rw [st_p (by decide)]; exact h.2.1 k hk, by rw [st_p (by decide)]; exact h.2.2⟩
theorem WB.s13 (h : WB U Y) (k v : Int) : WB U (st Y 13 k v) := ⟨fun p p0 p1 p2 => by rw [st_p p2]; exact h.1 p p0 p1 p2, fun k hk => by rw [st_p (by decide)]; exact h.2.1 k hk, by rw [st_p (by decide)]; exact h.2.2⟩
theorem ER.mk {x : Int} {Y : Mem} (h1 : 1 ≤ x) (h3 : x ≤ 3) {t : Int} {r : Int × (Int → Int) × (Int → Int)} (hp : PR0 F L = (x, t, r)) : ER F L (st (st Y 0 27 x) 0 28 t) := by
  have e1 : st (st Y 0 27 x) 0 28 t 0 27 = x := by rw [st_k (by decide), st_s]
  have e2 : st (st Y 0 27 x) 0 28 t 0 28 = t := st_s _ _ _ _
  unfold ER
  rw [e1, e2, hp]
  exact ⟨h1, h3, rfl, rfl⟩
theorem ER.of {Y1 : Mem} (h : ER F L Y) (h1 : Y1 0 27 = Y 0 27) (h2 : Y1 0 28 = Y 0 28) : ER F L Y1 := by unfold ER; rw [h1, h2]; exact h
end WN

theorem pk_V3 {V V1 : Mem} {b : Nat} {U : Mem} {f : Int → Int} {g : Int} (h0 : ∀ k : Int, 11 ≤ k → k ≤ 15 → V1 b k = V b k) (hj : ∀ j : Nat, 1 ≤ j → j ≤ 7 → V1 (b + j) = V (b + j)) (h10 : V1 (b + 10) = V (b + 10)) (h2 : V1 (b + 11) 2 = V (b + 11) 2) (h3 : V1 (b + 11) 3 = V (b + 11) 3) (h4 : V1 (b + 11) 4 = V (b + 11) 4) : pk V1 b U f g = pk V b U f g := by
  funext p
  unfold pk
  rw [h10, h2, h3, h4]
  split
  · funext k
    split
    · rfl
    · split
      · rename_i q; exact h0 k q.1 q.2
      · rfl
  · split
    · rw [hj p (by omega) (by omega)]
    · rfl
theorem Rl.wd {V V1 U Z : Mem} {n : Nat} {wd hi : Int} (h : Rl V U n wd hi) (hZ : ∀ p, p ≠ 0 → p ≠ 9 → p ≠ 10 → p ≠ 12 → p ≠ 13 → Z p = U p) (hZ0 : ∀ k : Int, (k < 22 ∨ 30 < k) → Z 0 k = U 0 k) (z22 : Z 0 22 = V1 45 1) (z29 : Z 0 29 = V1 45 2) (z30 : Z 0 30 = V1 45 3) (hw : WR Z V1 bN) (hp : ∀ p, p ≠ 45 → (p < 47 ∨ 49 < p) → (p < bN + 11 ∨ bN + 13 < p) → V1 p = V p) : Rl V1 Z n wd hi := by
  obtain ⟨hU, h2, h3, h4, h5, h6, h7, ⟨w0, w1, w2, w3, w4⟩, f0, f1, f2, f3⟩ := h
  have e1 := bN3
  have e2 := bM17
  have hV : ∀ p, p ≠ 45 → (p < 47 ∨ 49 < p) → 17 ≤ p → V1 p = V p := fun p p0 p1 p2 => hp p p0 p1 (by omega)
  have hz : ∀ p, 14 ≤ p → Z p = U p := fun p p0 => hZ p (by omega) (by omega) (by omega) (by omega) (by omega)
  refine ⟨hU.fld (fun j hj => hZ0 j (by omega)), hw, (h3.rows (fun p p0 p1 => hz p (by omega))).of (fun p p0 p1 => hV p (by omega) (by omega) (by omega)), by rw [hZ 11 (by decide) (by decide) (by decide) (by decide) (by decide), hV 46 (by decide) (by decide) (by decide)]; exact h4, z22, z29, z30, ⟨?_, ?_, ?_, ?_, ?_⟩, ?_, ?_, ?_, ?_⟩
  · rw [hZ0 _ (by decide), hV _ (by decide) (by decide) (by decide)]; exact w0
  · rw [hz _ (by decide), hV _ (by decide) (by decide) (by decide)]; exact w1
  · rw [hz _ (by decide), hV _ (by decide) (by decide) (by decide)]; exact w2
  · rw [hz _ (by decide), hV _ (by decide) (by decide) (by decide)]; exact w3
  · rw [hz _ (by decide), hV _ (by decide) (by decide) (by decide)]; exact w4
  · rw [hZ0 _ (by decide), hV _ (by decide) (by decide) (by decide)]; exact f0
  · rw [hz _ (by decide), hV _ (by decide) (by decide) (by decide)]; exact f1
  · rw [hz _ (by decide), hV _ (by decide) (by decide) (by decide)]; exact f2
  · rw [hz _ (by decide), hV _ (by decide) (by decide) (by decide)]; exact f3

set_option maxHeartbeats 4000000 in
set_option maxRecDepth 100000 in
theorem c_X8_errs (l : Launch) {X : We} (hY : isY X) {b : Nat} (V U : Mem) (f : Int → Int) (g : Int) (x : Int) (hx : 0 ≤ U 0 27 ∧ U 0 27 ≤ 3) : Mt l X (pk V b U f g) yX8_errs cX8_errs 2 none 0 0 [.ref (wa X 0), .int (jI x)] (Qv X (fun V1 => V1 = pk V b (if U 0 27 = 0 then st (st U 0 27 x) 0 28 (U 0 24) else U) f g)) := by
  refine Mt.go (by decide) (Nat.le_of_ble_eq_true rfl) ?_
  intro pg ev s0 mi bl mt cd ls Rm ag Qq hR hQ E hI hG hS hl
  have hl : lv_has ls 2 [(0, .ref (wa X 0)), (1, .int (jI x))] := hl
  refine x_aload_n E dX8_errs_0 (lv_at hl 0 rfl) ?_
  refine x_geti E hI hG (ym0 hY) cf8 27 (U 0 27) rfl (by decide) rfl kf_X8_200 dX8_errs_1 ?_
  refine x_if_ne E 20 dX8_errs_4 (by decide) (by unfold rg; omega) (fun c4 => ?_) (fun c4 => ?_)
  · have hq : U 0 27 ≠ 0 := c4
    exact r_v E hQ hG hS dX8_errs_20 (by first | (rw [if_neg c4]; done) | (rw [if_pos c4]; done))
  · refine x_aload_n E dX8_errs_7 (lv_at hl 0 rfl) ?_
    refine x_iload_n E dX8_errs_8 (lv_at hl 1 rfl) ?_
    refine x_puti E hI hG hS (ym0 hY) cf8 27 27 rfl rfl (by decide) rfl rfl kf_X8_200 dX8_errs_9 (fun H locs hG hS => ?_)
    rw [show (st (pk V b U f g) 0 27 x) = (pk V b (st U 0 27 x) f g) from pk_o (by decide) _] at hG
    refine x_aload_n E dX8_errs_12 (lv_at hl 0 rfl) ?_
    refine x_aload_n E dX8_errs_13 (lv_at hl 0 rfl) ?_
    refine x_geti E hI hG (ym0 hY) cf8 24 (U 0 24) rfl (by decide) (show (pk V b (st U 0 27 x) f g) 0 24 = U 0 24 from (by show st U 0 27 x 0 24 = _; rw [st_k (by decide)])) kf_X8_181 dX8_errs_14 ?_
    refine x_puti E hI hG hS (ym0 hY) cf8 28 28 rfl rfl (by decide) rfl rfl kf_X8_203 dX8_errs_17 (fun H locs hG hS => ?_)
    rw [show (st (pk V b (st U 0 27 x) f g) 0 28 (U 0 24)) = (pk V b (st (st U 0 27 x) 0 28 (U 0 24)) f g) from pk_o (by decide) _] at hG
    exact r_v E hQ hG hS dX8_errs_20 (by first | (rw [if_neg c4]; done) | (rw [if_pos c4]; done))

set_option maxHeartbeats 4000000 in
set_option maxRecDepth 100000 in
theorem c_X8_winds (l : Launch) {X : We} (hY : isY X) {n : Nat} {wd hi : Int} (V U : Mem) (f : Int → Int) (g : Int) (hL : Rl V U n wd hi) (hf : bo f) (hk : XI V n wd hi) : Mt l X (pk V bN U f g) yX8_winds cX8_winds 4 (some .int) 3 67 [.ref (wa X 0)] (Qi X (fun z W1 => ∀ V1 zx, WdP V V1 zx → z = zx ∧ MR V1 W1 n wd hi)) := by
  refine Mt.go (by decide) (Nat.le_of_ble_eq_true rfl) ?_
  intro pg ev s0 mi bl mt cd ls Rm ag Qq hR hQ E hI hG hS hl
  have hl : lv_has ls 4 [(0, .ref (wa X 0))] := hl
  obtain ⟨hU, hWR, hKP, e11, e22, e29, e30, ⟨e33, e14, e15, e16, e17⟩, e38, e18, e19, e20⟩ := id hL
  obtain ⟨iN, iM, zT, hTP, hWK, hFL⟩ := id hk
  have hd := hU.2.2.2
  obtain ⟨hn1, hn2⟩ := dims.n hd
  have dyN := iN.2.2.2
  have dyM := iM.2.2.2
  have eN := bN3
  have hbyU : ∀ k : Int, 0 ≤ k → k < 200 → -128 ≤ U 11 k ∧ U 11 k ≤ 127 := by rw [e11]; exact hTP.2
  have hT1 := hTP.1
  refine x_aload_n E dX8_winds_0 (lv_at hl 0 rfl) ?_
  refine x_geti E hI hG (ym0 hY) cf8 22 (V 45 1) rfl (by decide) (show (pk V bN U f g) 0 22 = V 45 1 from e22) kf_X8_162 dX8_winds_1 ?_
  refine x_istore_n E [(1, .int (jI (V 45 1))), (0, .ref (wa X 0))] dX8_winds_4 hl (by decide) rfl (fun ls hl => ?_)
  refine x_aload_n E dX8_winds_5 (lv_at hl 1 rfl) ?_
  refine x_iconst E dX8_winds_6 ?_
  refine x_puti E hI hG hS (ym0 hY) cf8 22 22 rfl rfl (by decide) rfl rfl kf_X8_162 dX8_winds_7 (fun H locs hG hS => ?_)
  rw [show (st (pk V bN U f g) 0 22 0) = (pk V bN (st U 0 22 0) f g) from pk_o (by decide) _] at hG
  refine x_aload_n E dX8_winds_10 (lv_at hl 1 rfl) ?_
  refine x_iconst E dX8_winds_11 ?_
  refine x_puti E hI hG hS (ym0 hY) cf8 23 23 rfl rfl (by decide) rfl rfl kf_X8_178 dX8_winds_12 (fun H locs hG hS => ?_)
  rw [show (st (pk V bN (st U 0 22 0) f g) 0 23 0) = (pk V bN (st (st U 0 22 0) 0 23 0) f g) from pk_o (by decide) _] at hG
  refine x_aload_n E dX8_winds_15 (lv_at hl 1 rfl) ?_
  refine x_iconst E dX8_winds_16 ?_
  refine x_puti E hI hG hS (ym0 hY) cf8 27 27 rfl rfl (by decide) rfl rfl kf_X8_200 dX8_winds_17 (fun H locs hG hS => ?_)
  rw [show (st (pk V bN (st (st U 0 22 0) 0 23 0) f g) 0 27 0) = (pk V bN (st (st (st U 0 22 0) 0 23 0) 0 27 0) f g) from pk_o (by decide) _] at hG
  refine x_aload_n E dX8_winds_20 (lv_at hl 1 rfl) ?_
  refine x_iconst E dX8_winds_21 ?_
  refine x_puti E hI hG hS (ym0 hY) cf8 28 28 rfl rfl (by decide) rfl rfl kf_X8_203 dX8_winds_22 (fun H locs hG hS => ?_)
  rw [show (st (pk V bN (st (st (st U 0 22 0) 0 23 0) 0 27 0) f g) 0 28 (-1)) = (pk V bN (st (st (st (st U 0 22 0) 0 23 0) 0 27 0) 0 28 (-1)) f g) from pk_o (by decide) _] at hG
  refine x_iconst E dX8_winds_25 ?_
  refine x_istore_n E [(2, .int (jI 0)), (1, .int (jI (V 45 1))), (0, .ref (wa X 0))] dX8_winds_26 hl (by decide) rfl (fun ls hl => ?_)
  refine x_aload_n E dX8_winds_27 (lv_at hl 2 rfl) ?_
  refine x_iload_n E dX8_winds_28 (lv_at hl 1 rfl) ?_
  refine x_cv hG hS (x_runV E hI hG hS (ym0 hY) cf8 rfl (c_X8_next l hY V (st (st (st (st U 0 22 0) 0 23 0) 0 27 0) 0 28 (-1)) f g (V 45 1) hTP.1 (by rw [st_k (by decide), st_k (by decide), st_s]; have := hTP.1; omega) (fun k k0 k1 => by rw [st_p (by decide), st_p (by decide), st_p (by decide), st_p (by decide)]; exact hbyU k k0 k1)) mf_X8_next km_X8_206 rfl hl rfl (Nat.le_of_ble_eq_true rfl) (by rw [hR]; exact ⟨Nat.le_of_ble_eq_true rfl, Nat.le_of_ble_eq_true rfl⟩) ⟨Nat.zero_le _, Nat.zero_le _⟩ dX8_winds_29) (fun V1 H locs hp hG hS => ?_)
  obtain ⟨a, t, s, d, eV, nx1⟩ := hp
  rw [st_p (show 11 ≠ 0 by decide), st_p (show 11 ≠ 0 by decide), st_p (show 11 ≠ 0 by decide), st_p (show 11 ≠ 0 by decide), show (st (st (st (st U 0 22 0) 0 23 0) 0 27 0) 0 28 (-1)) 0 23 = 0 by rw [st_k (by decide), st_k (by decide), st_s]] at nx1
  rw [eV] at hG
  have L32_1 : ∀ (N : Nat) (cnt : Int) (Y : Mem), (WS (U 11) (V 45 1) U Y cnt) → (if Y 0 27 = 0 then (V 45 1 - Y 0 24).toNat + 1 else 0) < N → ∀ (H : Heap) (locs : List Loc) (ls : Array Slot), GW X (pk V bN Y f g) H → va_S (wA X) s0.heap H locs → lv_has ls 4 [(0, .ref (wa X 0)), (1, .int (jI (V 45 1))), (2, .int (jI cnt))] → W pg l ev Rm s0 mi ag bl mt cd H locs 0 0 Qq (F0 mi 32 ls []) := by
    intro N
    induction N with
    | zero => intro cnt Y hW hN; exact absurd hN (Nat.not_lt_zero _)
    | succ N ih32 =>
      intro cnt Y hW hN H locs ls hG hS hl
      obtain ⟨hB, hcnt, hs25, hor⟩ := id hW
      have h27r : 0 ≤ Y 0 27 ∧ Y 0 27 ≤ 3 := by rcases hor with q | q; (have := q.1; omega); (have := q.1; have := q.2.1; omega)
      have L174_2 : (Y 0 27 = 0 → Y 0 25 = 0) → ∀ (H : Heap) (locs : List Loc) (ls : Array Slot), GW X (pk V bN Y f g) H → va_S (wA X) s0.heap H locs → lv_has ls 4 [(0, .ref (wa X 0)), (2, .int (jI cnt))] → W pg l ev Rm s0 mi ag bl mt cd H locs 0 0 Qq (F0 mi 174 ls []) := by
        intro  hex H locs ls hG hS hl
        refine x_aload_n E dX8_winds_174 (lv_at hl 0 rfl) ?_
        refine x_aload_n E dX8_winds_175 (lv_at hl 0 rfl) ?_
        refine x_geti E hI hG (ym0 hY) cf8 27 (Y 0 27) rfl (by decide) rfl kf_X8_200 dX8_winds_176 ?_
        refine x_puti E hI hG hS (ym0 hY) cf8 29 29 rfl rfl (by decide) rfl rfl kf_X8_48 dX8_winds_179 (fun H locs hG hS => ?_)
        rw [show (st (pk V bN Y f g) 0 29 (Y 0 27)) = (pk V bN (st Y 0 29 (Y 0 27)) f g) from pk_o (by decide) _] at hG
        refine x_aload_n E dX8_winds_182 (lv_at hl 0 rfl) ?_
        refine x_aload_n E dX8_winds_183 (lv_at hl 0 rfl) ?_
        refine x_geti E hI hG (ym0 hY) cf8 28 (Y 0 28) rfl (by decide) (show (pk V bN (st Y 0 29 (Y 0 27)) f g) 0 28 = Y 0 28 from (by show st Y 0 29 (Y 0 27) 0 28 = _; rw [st_k (by decide)])) kf_X8_203 dX8_winds_184 ?_
        refine x_puti E hI hG hS (ym0 hY) cf8 30 30 rfl rfl (by decide) rfl rfl kf_X8_51 dX8_winds_187 (fun H locs hG hS => ?_)
        rw [show (st (pk V bN (st Y 0 29 (Y 0 27)) f g) 0 30 (Y 0 28)) = (pk V bN (st (st Y 0 29 (Y 0 27)) 0 30 (Y 0 28)) f g) from pk_o (by decide) _] at hG
        refine x_aload_n E dX8_winds_190 (lv_at hl 0 rfl) ?_
        refine x_geti E hI hG (ym0 hY) cf8 27 (Y 0 27) rfl (by decide) (show (pk V bN (st (st Y 0 29 (Y 0 27)) 0 30 (Y 0 28)) f g) 0 27 = Y 0 27 from (by show st (st Y 0 29 (Y 0 27)) 0 30 (Y 0 28) 0 27 = _; rw [st_k (by decide), st_k (by decide)])) kf_X8_200 dX8_winds_191 ?_
        refine x_if_le E 199 dX8_winds_194 (by decide) (by unfold rg; omega) (fun c194 => ?_) (fun c194 => ?_)
        · have h27 : Y 0 27 = 0 := by omega
          obtain ⟨-, h28, word, wf, df, hpr, rows, hhd⟩ : OKs (U 11) (V 45 1) Y cnt := by rcases hor with q | q; exact q; (have := q.1; omega)
          have hend : V 45 1 ≤ Y 0 24 := by
            have h0 := hex h27
            rcases hhd.2.2 with q | q
            · exact q.2
            · exact absurd h0 q.1
          rw [PR_end hend] at hpr
          have hp0 : PR0 (U 11) (V 45 1) = (0, -1, cnt, wf, df) := hpr.symm
          refine x_aload_n E dX8_winds_199 (lv_at hl 0 rfl) ?_
          refine x_iload_n E dX8_winds_200 (lv_at hl 1 rfl) ?_
          refine x_puti E hI hG hS (ym0 hY) cf8 16 16 rfl rfl (by decide) rfl rfl kf_X8_133 dX8_winds_201 (fun H locs hG hS => ?_)
          rw [show (st (pk V bN (st (st Y 0 29 (Y 0 27)) 0 30 (Y 0 28)) f g) 0 16 cnt) = (pk (st V (bN + 11) 2 cnt) bN (st (st Y 0 29 (Y 0 27)) 0 30 (Y 0 28)) f g) from pk_w2 _] at hG
          refine x_iconst E dX8_winds_204 ?_
          refine x_istore_n E [(3, .int (jI 0)), (0, .ref (wa X 0)), (2, .int (jI cnt))] dX8_winds_205 hl (by decide) rfl (fun ls hl => ?_)
          have L206_3 : ∀ (N : Nat) (i : Int) (Z : Mem), (0 ≤ i) → (i ≤ cnt) → (∀ p, p ≠ 9 → p ≠ 10 → Z p = (st (st Y 0 29 (Y 0 27)) 0 30 (Y 0 28)) p) → (∀ k : Int, 0 ≤ k → k < i → Z 9 k = Y 12 k ∧ Z 10 k = Y 13 k) → ((cnt - i).toNat) < N → ∀ (H : Heap) (locs : List Loc) (ls : Array Slot), GW X (pk (st V (bN + 11) 2 cnt) bN Z f g) H → va_S (wA X) s0.heap H locs → lv_has ls 4 [(0, .ref (wa X 0)), (2, .int (jI cnt)), (3, .int (jI i))] → W pg l ev Rm s0 mi ag bl mt cd H locs 0 0 Qq (F0 mi 206 ls []) := by
            intro N
            induction N with
            | zero => intro i Z i0 i1 zA zR hN; exact absurd hN (Nat.not_lt_zero _)
            | succ N ih206 =>
              intro i Z i0 i1 zA zR hN H locs ls hG hS hl
              refine x_iload_n E dX8_winds_206 (lv_at hl 2 rfl) ?_
              refine x_iload_n E dX8_winds_207 (lv_at hl 1 rfl) ?_
              refine x_icmp_ge E 241 dX8_winds_208 (by decide) (by unfold rg; omega) (by unfold rg; omega) (fun c208 => ?_) (fun c208 => ?_)
              · refine x_aload_n E dX8_winds_241 (lv_at hl 0 rfl) ?_
                refine x_iconst E dX8_winds_242 ?_
                refine x_puti E hI hG hS (ym0 hY) cf8 19 19 rfl rfl (by decide) rfl rfl kf_X8_127 dX8_winds_243 (fun H locs hG hS => ?_)
                rw [show (st (pk (st V (bN + 11) 2 cnt) bN Z f g) 0 19 0) = (pk (st (st V (bN + 11) 2 cnt) (bN + 11) 3 0) bN Z f g) from pk_w3 _] at hG
                refine x_aload_n E dX8_winds_246 (lv_at hl 0 rfl) ?_
                refine x_iconst E dX8_winds_247 ?_
                refine x_puti E hI hG hS (ym0 hY) cf8 20 20 rfl rfl (by decide) rfl rfl kf_X8_130 dX8_winds_248 (fun H locs hG hS => ?_)
                rw [show (st (pk (st (st V (bN + 11) 2 cnt) (bN + 11) 3 0) bN Z f g) 0 20 0) = (pk (st (st (st V (bN + 11) 2 cnt) (bN + 11) 3 0) (bN + 11) 4 0) bN Z f g) from pk_w4 _] at hG
                refine x_iload_n E dX8_winds_251 (lv_at hl 1 rfl) ?_
                exact r_i E hQ hG hS dX8_winds_252 (fun V1 zx hw => by
                                                                              obtain ⟨x1, x2, x3, x4, x5, x6, x7⟩ := hw
                                                                              rw [← e11] at x1 x3 x4 x7
                                                                              rw [hp0] at x1 x3 x4 x7
                                                                              obtain ⟨y1, y2, y3, y4⟩ := x7 rfl
                                                                              have zB : ∀ p, p ≠ 0 → p ≠ 9 → p ≠ 10 → p ≠ 12 → p ≠ 13 → Z p = U p := fun p p0 p1 p2 p3 p4 => by rw [zA p p1 p2, st_p p0, st_p p0]; exact hB.1 p p0 p3 p4
                                                                              have z0 : Z 0 = (st (st Y 0 29 (Y 0 27)) 0 30 (Y 0 28)) 0 := zA 0 (by decide) (by decide)
                                                                              refine ⟨x1.symm, Z, f, g, ?_, hL.wd zB (fun k hk => by rw [z0, st_k (by omega), st_k (by omega)]; exact hB.2.1 k (by omega)) (by rw [z0, st_k (by decide), st_k (by decide), x2]; exact hB.2.2) (by rw [z0, st_k (by decide), st_s, x3]; exact h27) (by rw [z0, st_s, x4]; exact h28) (fun k k0 k1 => ?_) (fun p p0 p1 p2 => x5 p p0 (by omega) (by omega) (by omega) (by omega) (by omega) (by omega)), hf⟩
                                                                              · refine (pk_V3 (fun k _ _ => ?_) (fun j j0 j1 => ?_) ?_ ?_ ?_ ?_).symm
                                                                                · rw [x5 bN (by omega) (by omega) (by omega) (by omega) (by omega) (by omega) (by omega), st_p (by omega), st_p (by omega), st_p (by omega)]
                                                                                · rw [x5 (bN + j) (by omega) (by omega) (by omega) (by omega) (by omega) (by omega) (by omega), st_p (by omega), st_p (by omega), st_p (by omega)]
                                                                                · rw [x5 (bN + 10) (by omega) (by omega) (by omega) (by omega) (by omega) (by omega) (by omega), st_p (by omega), st_p (by omega), st_p (by omega)]
                                                                                · rw [y1, st_k (by decide), st_k (by decide), st_s]
                                                                                · rw [y2, st_k (by decide), st_s]
                                                                                · rw [y3, st_s]
                                                                              · rw [y1] at k1
                                                                                change k < cnt at k1
                                                                                have a1 := zR k k0 (by omega)
                                                                                have a2 := rows k k0 k1
                                                                                have a3 := y4 k k0 k1
                                                                                rw [a1.1, a1.2, a2.1, a2.2, a3.1, a3.2]; exact ⟨rfl, rfl⟩)
              · refine x_aload_n E dX8_winds_211 (lv_at hl 0 rfl) ?_
                refine x_getr E hI hG (ym0 hY) cf8 17 9 rfl (by decide) kf_X8_38 dX8_winds_212 ?_
                refine x_iload_n E dX8_winds_215 (lv_at hl 2 rfl) ?_
                refine x_aload_n E dX8_winds_216 (lv_at hl 0 rfl) ?_
                refine x_getr E hI hG (ym0 hY) cf8 31 12 rfl (by decide) kf_X8_54 dX8_winds_217 ?_
                refine x_iload_n E dX8_winds_220 (lv_at hl 2 rfl) ?_
                refine x_iald E hI hG (ym12 hY) (Y 12 i) (by show Z 12 i = _; rw [zA 12 (by decide) (by decide), st_p (by decide), st_p (by decide)]) (by omega) dX8_winds_221 ?_
                refine x_iast E hI hG hS (ym9 hY) (by omega) dX8_winds_222 (fun H locs hG hS => ?_)
                rw [show (st (pk (st V (bN + 11) 2 cnt) bN Z f g) 9 i (Y 12 i)) = (pk (st V (bN + 11) 2 cnt) bN (st Z 9 i (Y 12 i)) f g) from pk_a (by decide) _ _] at hG
                refine x_aload_n E dX8_winds_223 (lv_at hl 0 rfl) ?_
                refine x_getr E hI hG (ym0 hY) cf8 18 10 rfl (by decide) kf_X8_41 dX8_winds_224 ?_
                refine x_iload_n E dX8_winds_227 (lv_at hl 2 rfl) ?_
                refine x_aload_n E dX8_winds_228 (lv_at hl 0 rfl) ?_
                refine x_getr E hI hG (ym0 hY) cf8 32 13 rfl (by decide) kf_X8_57 dX8_winds_229 ?_
                refine x_iload_n E dX8_winds_232 (lv_at hl 2 rfl) ?_
                refine x_iald E hI hG (ym13 hY) (Y 13 i) (by show st Z 9 i (Y 12 i) 13 i = _; rw [st_p (by decide), zA 13 (by decide) (by decide), st_p (by decide), st_p (by decide)]) (by omega) dX8_winds_233 ?_
                refine x_iast E hI hG hS (ym10 hY) (by omega) dX8_winds_234 (fun H locs hG hS => ?_)
                rw [show (st (pk (st V (bN + 11) 2 cnt) bN (st Z 9 i (Y 12 i)) f g) 10 i (Y 13 i)) = (pk (st V (bN + 11) 2 cnt) bN (st (st Z 9 i (Y 12 i)) 10 i (Y 13 i)) f g) from pk_a (by decide) _ _] at hG
                refine x_iinc E (k := 2) [(3, .int (jI (i + 1))), (0, .ref (wa X 0)), (2, .int (jI cnt))] dX8_winds_235 hl rfl (by decide) rfl (fun ls hl => ?_)
                refine x_goto E 206 dX8_winds_238 (by decide) ?_
                exact ih206 (i + 1) (st (st Z 9 i (Y 12 i)) 10 i (Y 13 i)) (by omega) (by omega) (fun p p0 p1 => by rw [st_p p1, st_p p0]; exact zA p p0 p1) (fun k k0 k1 => by
                                                                            rcases (show k < i ∨ k = i by omega) with q | q
                                                                            · rw [st_p (by decide), st_k (by omega), st_k (by omega), st_p (by decide)]; exact zR k k0 q
                                                                            · rw [q, st_s, st_p (by decide), st_s]; exact ⟨rfl, rfl⟩) (by omega) _ _ _ hG hS (lv_sub hl [1, 2, 0] rfl)
          exact L206_3 _ 0 (st (st Y 0 29 (Y 0 27)) 0 30 (Y 0 28)) (by omega) (by omega) (fun _ _ _ => rfl) (fun k k0 k1 => by omega) (Nat.lt_succ_self _) _ _ _ hG hS (lv_sub hl [1, 2, 0] rfl)
        · have her : ER (U 11) (V 45 1) Y := by rcases hor with q | q; (have := q.1; omega); exact q
          refine x_iconst E dX8_winds_197 ?_
          exact r_i E hQ hG hS dX8_winds_198 (fun V1 zx hw => by
                                                                        obtain ⟨x1, x2, x3, x4, x5, x6, x7⟩ := hw
                                                                        rw [← e11] at x1 x3 x4 x6
                                                                        have hn0 : (PR0 (U 11) (V 45 1)).1 ≠ 0 := by rw [her.2.2.1]; have := her.1; omega
                                                                        obtain ⟨y1, y2, y3⟩ := x6 hn0
                                                                        have eA : ∀ p, bN ≤ p → p < bN + 14 → V1 p = V p := fun p p0 p1 => by
                                                                          by_cases q1 : p = bN + 11
                                                                          · rw [q1]; exact y1
                                                                          · by_cases q2 : p = bN + 12
                                                                            · rw [q2]; exact y2
                                                                            · by_cases q3 : p = bN + 13
                                                                              · rw [q3]; exact y3
                                                                              · exact x5 p (by omega) (by omega) (by omega) (by omega) q1 q2 q3
                                                                        refine ⟨by rw [x1, if_neg hn0], MR.mk2 eA (hL.wd (fun p p0 p1 p2 p3 p4 => by rw [st_p p0, st_p p0]; exact hB.1 p p0 p3 p4) (fun k hk => by rw [st_k (by omega), st_k (by omega)]; exact hB.2.1 k (by omega)) (by rw [st_k (by decide), st_k (by decide), x2]; exact hB.2.2) (by rw [st_k (by decide), st_s, x3, her.2.2.1]) (by rw [st_s, x4, her.2.2.2]) ?_ (fun p p0 p1 p2 => x5 p p0 (by omega) (by omega) (by omega) (by omega) (by omega) (by omega))) hf⟩
                                                                        exact (hWR.at (by rw [st_p (by decide), st_p (by decide)]; exact hB.1 9 (by decide) (by decide) (by decide)) (by rw [st_p (by decide), st_p (by decide)]; exact hB.1 10 (by decide) (by decide) (by decide))).of (by rw [y1]) y2 y3)
      refine x_aload_n E dX8_winds_32 (lv_at hl 0 rfl) ?_
      refine x_geti E hI hG (ym0 hY) cf8 25 (Y 0 25) rfl (by decide) rfl kf_X8_184 dX8_winds_33 ?_
      refine x_if_eq E 174 dX8_winds_36 (by decide) (by unfold rg; omega) (fun c36 => ?_) (fun c36 => ?_)
      · exact L174_2  (fun _ => c36) _ _ _ hG hS (lv_sub hl [0, 2] rfl)
      · refine x_aload_n E dX8_winds_39 (lv_at hl 0 rfl) ?_
        refine x_geti E hI hG (ym0 hY) cf8 27 (Y 0 27) rfl (by decide) rfl kf_X8_200 dX8_winds_40 ?_
        refine x_if_ne E 174 dX8_winds_43 (by decide) (by unfold rg; omega) (fun c43 => ?_) (fun c43 => ?_)
        · exact L174_2  (fun q => absurd q c43) _ _ _ hG hS (lv_sub hl [0, 2] rfl)
        · have h27 : Y 0 27 = 0 := by omega
          obtain ⟨-, h28, word, wf, df, hpr, rows, hhd⟩ : OKs (U 11) (V 45 1) Y cnt := by rcases hor with q | q; exact q; (have := q.1; omega)
          obtain ⟨-, ht24, hhd⟩ := hhd
          obtain ⟨-, tL, h23, hhd⟩ : Y 0 25 ≠ 0 ∧ Y 0 24 < V 45 1 ∧ Y 0 23 = tend (U 11) (V 45 1) (Y 0 24) ∧ ((Y 0 25 = 1 ∧ Y 0 26 = wv (U 11) (Y 0 24) (Y 0 23) ∧ 0 ≤ Y 0 26 ∧ Y 0 26 ≤ 4) ∨ (Y 0 25 ≠ 1 ∧ wv (U 11) (Y 0 24) (Y 0 23) = -1)) := by
            rcases hhd with q | q
            · omega
            · exact q
          have htr := tend_rg (U 11) tL
          refine x_aload_n E dX8_winds_46 (lv_at hl 0 rfl) ?_
          refine x_geti E hI hG (ym0 hY) cf8 25 (Y 0 25) rfl (by decide) rfl kf_X8_184 dX8_winds_47 ?_
          refine x_iconst E dX8_winds_50 ?_
          refine x_icmp_eq E 62 dX8_winds_51 (by decide) (by unfold rg; omega) (by unfold rg; omega) (fun c51 => ?_) (fun c51 => ?_)
          · have hd26 : Y 0 26 = wv (U 11) (Y 0 24) (Y 0 23) ∧ 0 ≤ Y 0 26 ∧ Y 0 26 ≤ 4 := by omega
            have hwn : wv (U 11) (Y 0 24) (tend (U 11) (V 45 1) (Y 0 24)) ≠ -1 := by rw [← h23]; omega
            refine x_iload_n E dX8_winds_62 (lv_at hl 2 rfl) ?_
            refine x_bipush E dX8_winds_63 (by decide) ?_
            refine x_icmp_ne E 76 dX8_winds_65 (by decide) (by unfold rg; omega) (by unfold rg; omega) (fun c65 => ?_) (fun c65 => ?_)
            · rw [PR_w0 tL hwn (by omega), ← h23] at hpr
              obtain ⟨hd26, -⟩ := hd26
              refine x_aload_n E dX8_winds_76 (lv_at hl 0 rfl) ?_
              refine x_getr E hI hG (ym0 hY) cf8 31 12 rfl (by decide) kf_X8_54 dX8_winds_77 ?_
              refine x_iload_n E dX8_winds_80 (lv_at hl 2 rfl) ?_
              refine x_aload_n E dX8_winds_81 (lv_at hl 0 rfl) ?_
              refine x_geti E hI hG (ym0 hY) cf8 26 (Y 0 26) rfl (by decide) rfl kf_X8_196 dX8_winds_82 ?_
              refine x_iast E hI hG hS (ym12 hY) (by omega) dX8_winds_85 (fun H locs hG hS => ?_)
              rw [show (st (pk V bN Y f g) 12 cnt (Y 0 26)) = (pk V bN (st Y 12 cnt (Y 0 26)) f g) from pk_a (by decide) _ _] at hG
              refine x_aload_n E dX8_winds_86 (lv_at hl 0 rfl) ?_
              refine x_iload_n E dX8_winds_87 (lv_at hl 1 rfl) ?_
              refine x_cv hG hS (x_runV E hI hG hS (ym0 hY) cf8 rfl (c_X8_next l hY V (st Y 12 cnt (Y 0 26)) f g (V 45 1) hTP.1 (by rw [st_p (by decide)]; omega) (fun k k0 k1 => by rw [st_p (by decide), hB.1 11 (by decide) (by decide) (by decide)]; exact hbyU k k0 k1)) mf_X8_next km_X8_206 rfl hl rfl (Nat.le_of_ble_eq_true rfl) (by rw [hR]; exact ⟨Nat.le_of_ble_eq_true rfl, Nat.le_of_ble_eq_true rfl⟩) ⟨Nat.zero_le _, Nat.zero_le _⟩ dX8_winds_88) (fun V1 H locs hp hG hS => ?_)
              obtain ⟨a, t, s, d, eV, nx1⟩ := hp
              rw [st_p (show 11 ≠ 12 by decide), hB.1 11 (by decide) (by decide) (by decide), st_p (show 0 ≠ 12 by decide)] at nx1
              rw [eV] at hG
              have hNt := nx1.t (by omega) (by omega)
              rw [← hNt.2.2] at hpr
              have k27 : (q4 (st Y 12 cnt (Y 0 26)) a t s d) 0 27 = 0 := by rw [q4_k (by omega), st_p (by decide)]; exact h27
              have k28 : (q4 (st Y 12 cnt (Y 0 26)) a t s d) 0 28 = -1 := by rw [q4_k (by omega), st_p (by decide)]; exact h28
              have hNs := nx1.s
              have hNn := nx1.num
              have L125_4 : ∀ (Z : Mem), (WB U Z ∧ Z 12 cnt = wv (U 11) (Y 0 24) (Y 0 23) ∧ (∀ k : Int, 0 ≤ k → k < cnt → Z 12 k = wf k ∧ Z 13 k = df k) ∧ (0 ≤ Z 0 25 ∧ Z 0 25 ≤ 4) ∧ ((Z 0 27 = 0 ∧ Z 0 28 = -1 ∧ PR (U 11) (V 45 1) t 1 (wv (U 11) (Y 0 24) (Y 0 23)) cnt wf df = PR0 (U 11) (V 45 1) ∧ t < V 45 1 ∧ Z 0 23 = tend (U 11) (V 45 1) t ∧ isG (U 11 t) = true ∧ (1 ≤ Z 0 26 ∧ Z 0 26 ≤ 60) ∧ Z 0 26 = nv (U 11) t (tend (U 11) (V 45 1) t)) ∨ ER (U 11) (V 45 1) Z)) → ∀ (H : Heap) (locs : List Loc) (ls : Array Slot), GW X (pk V bN Z f g) H → va_S (wA X) s0.heap H locs → lv_has ls 4 [(0, .ref (wa X 0)), (1, .int (jI (V 45 1))), (2, .int (jI cnt))] → W pg l ev Rm s0 mi ag bl mt cd H locs 0 0 Qq (F0 mi 125 ls []) := by
                intro Z hZ H locs ls hG hS hl
                obtain ⟨zB, z12, zrows, z25, zor⟩ := hZ
                have z27r : 0 ≤ Z 0 27 ∧ Z 0 27 ≤ 3 := by rcases zor with q | q; (have := q.1; omega); (have := q.1; have := q.2.1; omega)
                refine x_aload_n E dX8_winds_125 (lv_at hl 0 rfl) ?_
                refine x_getr E hI hG (ym0 hY) cf8 32 13 rfl (by decide) kf_X8_57 dX8_winds_126 ?_
                refine x_iload_n E dX8_winds_129 (lv_at hl 2 rfl) ?_
                refine x_aload_n E dX8_winds_130 (lv_at hl 0 rfl) ?_
                refine x_geti E hI hG (ym0 hY) cf8 26 (Z 0 26) rfl (by decide) rfl kf_X8_196 dX8_winds_131 ?_
                refine x_iast E hI hG hS (ym13 hY) (by omega) dX8_winds_134 (fun H locs hG hS => ?_)
                rw [show (st (pk V bN Z f g) 13 cnt (Z 0 26)) = (pk V bN (st Z 13 cnt (Z 0 26)) f g) from pk_a (by decide) _ _] at hG
                refine x_iinc E (k := 2) [(2, .int (jI (cnt + 1))), (0, .ref (wa X 0)), (1, .int (jI (V 45 1)))] dX8_winds_135 hl rfl (by decide) rfl (fun ls hl => ?_)
                refine x_aload_n E dX8_winds_138 (lv_at hl 1 rfl) ?_
                refine x_geti E hI hG (ym0 hY) cf8 27 (Z 0 27) rfl (by decide) (show (pk V bN (st Z 13 cnt (Z 0 26)) f g) 0 27 = Z 0 27 from (by show st Z 13 cnt (Z 0 26) 0 27 = _; rw [st_p (by decide)])) kf_X8_200 dX8_winds_139 ?_
                refine x_if_ne E 32 dX8_winds_142 (by decide) (by unfold rg; omega) (fun c142 => ?_) (fun c142 => ?_)
                · exact ih32 (cnt + 1) (st Z 13 cnt (Z 0 26)) (⟨zB.s13 _ _, by omega, by rw [st_p (by decide)]; exact z25, Or.inr ((zor.resolve_left (fun q => c142 q.1)).of (by rw [st_p (by decide)]) (by rw [st_p (by decide)]))⟩) (by rw [if_neg (by rw [st_p (by decide)]; exact c142)]; rw [if_pos h27] at hN; omega) _ _ _ hG hS (lv_sub hl [1, 2, 0] rfl)
                · have hz2 := zor.resolve_right (fun q => by have := q.1; omega)
                  obtain ⟨z27, z28, zpr, zt, z23, zg, zd, znv⟩ := hz2
                  rw [PR_n0 zt zg (by rw [← znv]; exact zd), ← znv, ← z23] at zpr
                  have ztr := tend_rg (U 11) zt
                  refine x_aload_n E dX8_winds_145 (lv_at hl 1 rfl) ?_
                  refine x_iload_n E dX8_winds_146 (lv_at hl 2 rfl) ?_
                  refine x_cv hG hS (x_runV E hI hG hS (ym0 hY) cf8 rfl (c_X8_next l hY V (st Z 13 cnt (Z 0 26)) f g (V 45 1) hTP.1 (by rw [st_p (by decide)]; omega) (fun k k0 k1 => by rw [st_p (by decide), zB.1 11 (by decide) (by decide) (by decide)]; exact hbyU k k0 k1)) mf_X8_next km_X8_206 rfl hl rfl (Nat.le_of_ble_eq_true rfl) (by rw [hR]; exact ⟨Nat.le_of_ble_eq_true rfl, Nat.le_of_ble_eq_true rfl⟩) ⟨Nat.zero_le _, Nat.zero_le _⟩ dX8_winds_147) (fun V1 H locs hp hG hS => ?_)
                  obtain ⟨a2, t2, s2, d2, eV, nx2⟩ := hp
                  rw [st_p (show 11 ≠ 13 by decide), zB.1 11 (by decide) (by decide) (by decide), st_p (show 0 ≠ 13 by decide)] at nx2
                  rw [eV] at hG
                  have hNt2 := nx2.t (by omega) (by omega)
                  rw [← hNt2.2.2] at zpr
                  have k27 : (q4 (st Z 13 cnt (Z 0 26)) a2 t2 s2 d2) 0 27 = 0 := by rw [q4_k (by omega), st_p (by decide)]; exact z27
                  have k28 : (q4 (st Z 13 cnt (Z 0 26)) a2 t2 s2 d2) 0 28 = -1 := by rw [q4_k (by omega), st_p (by decide)]; exact z28
                  have hNs2 := nx2.s
                  have hNg := nx2.sign
                  refine x_aload_n E dX8_winds_150 (lv_at hl 1 rfl) ?_
                  refine x_geti E hI hG (ym0 hY) cf8 25 (s2) rfl (by decide) rfl kf_X8_184 dX8_winds_151 ?_
                  refine x_iconst E dX8_winds_154 ?_
                  refine x_icmp_eq E 166 dX8_winds_155 (by decide) (by unfold rg; omega) (by unfold rg; omega) (fun c155 => ?_) (fun c155 => ?_)
                  · obtain ⟨-, g2, g3, g4⟩ : s2 = 3 ∧ t2 < V 45 1 ∧ a2 = tend (U 11) (V 45 1) t2 ∧ U 11 t2 = 59 := by rcases hNg with q | q; exact q; omega
                    have gtr := tend_rg (U 11) g2
                    rw [PR_g0 g2 g4, ← g3] at zpr
                    refine x_aload_n E dX8_winds_166 (lv_at hl 1 rfl) ?_
                    refine x_iload_n E dX8_winds_167 (lv_at hl 2 rfl) ?_
                    refine x_cv hG hS (x_runV E hI hG hS (ym0 hY) cf8 rfl (c_X8_next l hY V (q4 (st Z 13 cnt (Z 0 26)) a2 t2 s2 d2) f g (V 45 1) hTP.1 (by show 0 ≤ a2 ∧ a2 ≤ V 45 1; omega) (fun k k0 k1 => by rw [q4_p (by decide), st_p (by decide), zB.1 11 (by decide) (by decide) (by decide)]; exact hbyU k k0 k1)) mf_X8_next km_X8_206 rfl hl rfl (Nat.le_of_ble_eq_true rfl) (by rw [hR]; exact ⟨Nat.le_of_ble_eq_true rfl, Nat.le_of_ble_eq_true rfl⟩) ⟨Nat.zero_le _, Nat.zero_le _⟩ dX8_winds_168) (fun V1 H locs hp hG hS => ?_)
                    obtain ⟨a3, t3, s3, d3, eV, nx3⟩ := hp
                    rw [q4_p (show 11 ≠ 0 by decide), st_p (show 11 ≠ 13 by decide), zB.1 11 (by decide) (by decide) (by decide), show (q4 (st Z 13 cnt (Z 0 26)) a2 t2 s2 d2) 0 23 = a2 from rfl] at nx3
                    rw [eV] at hG
                    have hNt3 := nx3.t (by omega) (by omega)
                    rw [← hNt3.2.2] at zpr
                    refine x_goto E 32 dX8_winds_171 (by decide) ?_
                    exact ih32 (cnt + 1) (q4 (q4 (st Z 13 cnt (Z 0 26)) a2 t2 s2 d2) a3 t3 s3 d3) (⟨((zB.s13 _ _).q _ _ _ _).q _ _ _ _, by omega, nx3.s, Or.inl ⟨by rw [q4_k (by omega)]; exact k27, by rw [q4_k (by omega)]; exact k28, _, _, _, zpr, fun k k0 k1 => by
                                                                                rw [q4_p (by decide), q4_p (by decide), q4_p (by decide), q4_p (by decide), st_p (by decide)]
                                                                                rcases (show k < cnt ∨ k = cnt by omega) with q | q
                                                                                · rw [st_k (by omega), ui_n (by omega), ui_n (by omega)]; exact zrows k k0 q
                                                                                · rw [q, st_s, ui_s, ui_s]; exact ⟨z12, rfl⟩, nx3.head (by omega) (by omega)⟩⟩) (by rw [if_pos (by rw [q4_k (by omega)]; exact k27)]; rw [if_pos h27] at hN; show (V 45 1 - t3).toNat + 1 < _; omega) _ _ _ hG hS (lv_sub hl [1, 2, 0] rfl)
                  · have hpr2 : PR0 (U 11) (V 45 1) = (1, t2, cnt + 1, ui wf cnt (wv (U 11) (Y 0 24) (Y 0 23)), ui df cnt (Z 0 26)) := by
                      rw [← zpr]
                      rcases hNg with q | ⟨-, q | q⟩
                      · omega
                      · exact PR_ne (by omega) (by decide)
                      · exact PR_g1 q.1 q.2
                    refine x_aload_n E dX8_winds_158 (lv_at hl 1 rfl) ?_
                    refine x_iconst E dX8_winds_159 ?_
                    refine x_cv hG hS (x_runV E hI hG hS (ym0 hY) cf8 rfl (c_X8_errs l hY V (q4 (st Z 13 cnt (Z 0 26)) a2 t2 s2 d2) f g 1 (by rw [k27]; omega)) mf_X8_errs km_X8_209 rfl hl rfl (Nat.le_of_ble_eq_true rfl) (by rw [hR]; exact ⟨Nat.le_of_ble_eq_true rfl, Nat.le_of_ble_eq_true rfl⟩) ⟨Nat.zero_le _, Nat.zero_le _⟩ dX8_winds_160) (fun V1 H locs hp hG hS => ?_)
                    have eV := hp
                    rw [if_pos k27, show (q4 (st Z 13 cnt (Z 0 26)) a2 t2 s2 d2) 0 24 = t2 from rfl] at eV
                    rw [eV] at hG
                    refine x_goto E 32 dX8_winds_163 (by decide) ?_
                    exact ih32 (cnt + 1) (st (st (q4 (st Z 13 cnt (Z 0 26)) a2 t2 s2 d2) 0 27 1) 0 28 t2) (⟨((zB.s13 _ _).q _ _ _ _).er _ _, by omega, by rw [st_k (by decide), st_k (by decide)]; exact hNs2, Or.inr (ER.mk (by decide) (by decide) hpr2)⟩) (by rw [if_neg (by rw [st_k (by decide), st_s]; decide)]; rw [if_pos h27] at hN; omega) _ _ _ hG hS (lv_sub hl [1, 2, 0] rfl)
              refine x_aload_n E dX8_winds_91 (lv_at hl 0 rfl) ?_
              refine x_geti E hI hG (ym0 hY) cf8 25 (s) rfl (by decide) rfl kf_X8_184 dX8_winds_92 ?_
              refine x_iconst E dX8_winds_95 ?_
              refine x_icmp_eq E 107 dX8_winds_96 (by decide) (by unfold rg; omega) (by unfold rg; omega) (fun c96 => ?_) (fun c96 => ?_)
              · obtain ⟨-, n2, n3, n4, n5, n6, n7⟩ : s = 2 ∧ t < V 45 1 ∧ a = tend (U 11) (V 45 1) t ∧ isG (U 11 t) = true ∧ 0 ≤ d ∧ d ≤ 1000000 ∧ min 1000 d = nv (U 11) t a := by rcases hNn with q | q; exact q; omega
                rw [n3] at n7
                refine x_aload_n E dX8_winds_107 (lv_at hl 0 rfl) ?_
                refine x_geti E hI hG (ym0 hY) cf8 26 (d) rfl (by decide) rfl kf_X8_196 dX8_winds_108 ?_
                refine x_iconst E dX8_winds_111 ?_
                refine x_bipush E dX8_winds_112 (by decide) ?_
                refine x_ci hG hS (x_runS E hI hG hS (c_X8_in l (pk V bN (q4 (st Y 12 cnt (Y 0 26)) a t s d) f g) d 1 60 (by unfold rg; omega) (by unfold rg; omega) (by unfold rg; omega)) mf_X8_in km_X8_110 rfl hl rfl (Nat.le_of_ble_eq_true rfl) (by rw [hR]; exact ⟨Nat.le_of_ble_eq_true rfl, Nat.le_of_ble_eq_true rfl⟩) ⟨Nat.zero_le _, Nat.zero_le _⟩ dX8_winds_114) (fun z1 V1 H locs hp hG hS => ?_)
                obtain ⟨ez, eV⟩ := hp
                rw [eV] at hG
                rw [ez]
                refine x_if_ne E 125 dX8_winds_117 (by decide) b01_rg (fun c117 => ?_) (fun c117 => ?_)
                · have q117 := b01_ne c117
                  exact L125_4 (q4 (st Y 12 cnt (Y 0 26)) a t s d) (⟨(hB.s12 _ _).q _ _ _ _, by rw [q4_p (by decide), st_s]; exact hd26, fun k k0 k1 => by rw [q4_p (by decide), q4_p (by decide), st_k (by omega), st_p (by decide)]; exact rows k k0 k1, hNs, Or.inl ⟨k27, k28, hpr, n2, n3, n4, q117, by show d = _; omega⟩⟩) _ _ _ hG hS (lv_sub hl [0, 1, 2] rfl)
                · have q117 := b01_iff0.mp c117
                  refine x_aload_n E dX8_winds_120 (lv_at hl 0 rfl) ?_
                  refine x_iconst E dX8_winds_121 ?_
                  refine x_cv hG hS (x_runV E hI hG hS (ym0 hY) cf8 rfl (c_X8_errs l hY V (q4 (st Y 12 cnt (Y 0 26)) a t s d) f g 2 (by rw [k27]; omega)) mf_X8_errs km_X8_209 rfl hl rfl (Nat.le_of_ble_eq_true rfl) (by rw [hR]; exact ⟨Nat.le_of_ble_eq_true rfl, Nat.le_of_ble_eq_true rfl⟩) ⟨Nat.zero_le _, Nat.zero_le _⟩ dX8_winds_122) (fun V1 H locs hp hG hS => ?_)
                  have eV := hp
                  rw [if_pos k27, show (q4 (st Y 12 cnt (Y 0 26)) a t s d) 0 24 = t from rfl] at eV
                  rw [eV] at hG
                  exact L125_4 (st (st (q4 (st Y 12 cnt (Y 0 26)) a t s d) 0 27 2) 0 28 t) (⟨(hB.s12 _ _).q _ _ _ _ |>.er _ _, by rw [st_p (by decide), st_p (by decide), q4_p (by decide), st_s]; exact hd26, fun k k0 k1 => by rw [st_p (by decide), st_p (by decide), st_p (by decide), st_p (by decide), q4_p (by decide), q4_p (by decide), st_k (by omega), st_p (by decide)]; exact rows k k0 k1, by rw [st_k (by decide), st_k (by decide)]; exact nx1.s, Or.inr (ER.mk (by decide) (by decide) (by rw [← hpr]; exact PR_n2 n2 n4 (by omega)))⟩) _ _ _ hG hS (lv_sub hl [0, 1, 2] rfl)
              · refine x_aload_n E dX8_winds_99 (lv_at hl 0 rfl) ?_
                refine x_iconst E dX8_winds_100 ?_
                refine x_cv hG hS (x_runV E hI hG hS (ym0 hY) cf8 rfl (c_X8_errs l hY V (q4 (st Y 12 cnt (Y 0 26)) a t s d) f g 1 (by rw [k27]; omega)) mf_X8_errs km_X8_209 rfl hl rfl (Nat.le_of_ble_eq_true rfl) (by rw [hR]; exact ⟨Nat.le_of_ble_eq_true rfl, Nat.le_of_ble_eq_true rfl⟩) ⟨Nat.zero_le _, Nat.zero_le _⟩ dX8_winds_101) (fun V1 H locs hp hG hS => ?_)
                have eV := hp
                rw [if_pos k27, show (q4 (st Y 12 cnt (Y 0 26)) a t s d) 0 24 = t from rfl] at eV
                rw [eV] at hG
                refine x_goto E 125 dX8_winds_104 (by decide) ?_
                exact L125_4 (st (st (q4 (st Y 12 cnt (Y 0 26)) a t s d) 0 27 1) 0 28 t) (⟨(hB.s12 _ _).q _ _ _ _ |>.er _ _, by rw [st_p (by decide), st_p (by decide), q4_p (by decide), st_s]; exact hd26, fun k k0 k1 => by rw [st_p (by decide), st_p (by decide), st_p (by decide), st_p (by decide), q4_p (by decide), q4_p (by decide), st_k (by omega), st_p (by decide)]; exact rows k k0 k1, by rw [st_k (by decide), st_k (by decide)]; exact nx1.s, Or.inr (ER.mk (by decide) (by decide) (by
                                                                              rw [← hpr]
                                                                              rcases hNn with q | ⟨-, q | q⟩
                                                                              · omega
                                                                              · exact PR_ne (by omega) (by decide)
                                                                              · exact PR_n1 q.1 q.2))⟩) _ _ _ hG hS (lv_sub hl [0, 1, 2] rfl)
            · rw [PR_w3 tL hwn (by omega)] at hpr
              refine x_aload_n E dX8_winds_68 (lv_at hl 0 rfl) ?_
              refine x_iconst E dX8_winds_69 ?_
              refine x_cv hG hS (x_runV E hI hG hS (ym0 hY) cf8 rfl (c_X8_errs l hY V Y f g 3 (by omega)) mf_X8_errs km_X8_209 rfl hl rfl (Nat.le_of_ble_eq_true rfl) (by rw [hR]; exact ⟨Nat.le_of_ble_eq_true rfl, Nat.le_of_ble_eq_true rfl⟩) ⟨Nat.zero_le _, Nat.zero_le _⟩ dX8_winds_70) (fun V1 H locs hp hG hS => ?_)
              have eV := hp
              rw [if_pos h27] at eV
              rw [eV] at hG
              refine x_goto E 32 dX8_winds_73 (by decide) ?_
              exact ih32 cnt (st (st Y 0 27 3) 0 28 (Y 0 24)) (⟨hB.er _ _, hcnt, by rw [st_k (by decide), st_k (by decide)]; exact hs25, Or.inr (ER.mk (by decide) (by decide) hpr.symm)⟩) (by rw [if_neg (by rw [st_k (by decide), st_s]; decide)]; rw [if_pos h27] at hN; omega) _ _ _ hG hS (lv_sub hl [0, 1, 2] rfl)
          · have hw1 : wv (U 11) (Y 0 24) (Y 0 23) = -1 := by omega
            rw [h23] at hw1
            rw [PR_w1 tL hw1] at hpr
            refine x_aload_n E dX8_winds_54 (lv_at hl 0 rfl) ?_
            refine x_iconst E dX8_winds_55 ?_
            refine x_cv hG hS (x_runV E hI hG hS (ym0 hY) cf8 rfl (c_X8_errs l hY V Y f g 1 (by omega)) mf_X8_errs km_X8_209 rfl hl rfl (Nat.le_of_ble_eq_true rfl) (by rw [hR]; exact ⟨Nat.le_of_ble_eq_true rfl, Nat.le_of_ble_eq_true rfl⟩) ⟨Nat.zero_le _, Nat.zero_le _⟩ dX8_winds_56) (fun V1 H locs hp hG hS => ?_)
            have eV := hp
            rw [if_pos h27] at eV
            rw [eV] at hG
            refine x_goto E 32 dX8_winds_59 (by decide) ?_
            exact ih32 cnt (st (st Y 0 27 1) 0 28 (Y 0 24)) (⟨hB.er _ _, hcnt, by rw [st_k (by decide), st_k (by decide)]; exact hs25, Or.inr (ER.mk (by decide) (by decide) hpr.symm)⟩) (by rw [if_neg (by rw [st_k (by decide), st_s]; decide)]; rw [if_pos h27] at hN; omega) _ _ _ hG hS (lv_sub hl [0, 1, 2] rfl)
  exact L32_1 _ 0 (q4 (st (st (st (st U 0 22 0) 0 23 0) 0 27 0) 0 28 (-1)) a t s d) (⟨⟨fun p p0 _ _ => by rw [q4_p p0, st_p p0, st_p p0, st_p p0, st_p p0], fun k hk => by rw [q4_k (by omega), st_k (by omega), st_k (by omega), st_k (by omega), st_k (by omega)], by rw [q4_k (by omega), st_k (by decide), st_k (by decide), st_k (by decide), st_s]⟩, by omega, nx1.s, Or.inl ⟨by rw [q4_k (by omega), st_k (by decide), st_s], by rw [q4_k (by omega), st_s], 4, fun _ => 0, fun _ => 0, by show PR (U 11) (V 45 1) t 0 4 0 _ _ = _; rw [nx1.1]; rfl, fun k k0 k1 => by omega, nx1.head (by omega) (by have := hTP.1; omega)⟩⟩) (Nat.lt_succ_self _) _ _ _ hG hS (lv_sub hl [2, 1, 0] rfl)
