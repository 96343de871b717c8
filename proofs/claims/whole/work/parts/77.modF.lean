theorem pk_ext {X : We} (hY : isY X) {V V1 : Mem} {b a : Nat} {U : Mem} {f : Int → Int} {g : Int} {H : Heap} (hG : GW X (pk V b U f g) H) (h1 : ∀ (j : Nat) (c : Int), 1 ≤ j → j ≤ 7 → 0 ≤ c → c < 160 → V1 (a + j) c = V (b + j) c) (h2 : ∀ k : Int, 0 ≤ k → k < 5 → V1 (a + 10) k = V (b + 10) k) (h3 : ∀ k : Int, 11 ≤ k → k ≤ 15 → V1 a k = V b k) (h4 : V1 (a + 11) 2 = V (b + 11) 2) (h5 : V1 (a + 11) 3 = V (b + 11) 3) (h6 : V1 (a + 11) 4 = V (b + 11) 4) : GW X (pk V1 a U f g) H := by
  refine hG.ext (fun p k hp hs => ?_)
  rw [hY.1] at hs
  unfold pk
  by_cases e0 : p = 0
  · simp only [if_pos e0]
    rw [h4, h5, h6]
    split
    · rfl
    · split
      · rename_i z; exact h3 k z.1 z.2
      · rfl
  · simp only [if_neg e0]
    by_cases e7 : p ≤ 7
    · simp only [if_pos e7]
      rcases (show p = 1 ∨ p = 2 ∨ p = 3 ∨ p = 4 ∨ p = 5 ∨ p = 6 ∨ p = 7 by omega) with rfl | rfl | rfl | rfl | rfl | rfl | rfl <;> exact h1 _ k (by decide) (by decide) hs.1 hs.2
    · simp only [if_neg e7]
      by_cases e8 : p = 8
      · subst e8
        simp only [if_true]
        exact h2 k hs.1 hs.2
      · simp only [if_neg e8]
/-- outside of the kept place q -/
def FK (U U1 : Mem) (q : Int) : Prop := (∀ p, p ≠ 21 → p ≠ 22 → p ≠ 23 → p ≠ 24 → U1 p = U p) ∧ (∀ k : Int, (k < 1120 * q ∨ 1120 * q + 1120 ≤ k) → U1 21 k = U 21 k) ∧ (∀ k : Int, (k < 5 * q ∨ 5 * q + 5 ≤ k) → U1 22 k = U 22 k) ∧ (∀ k : Int, (k < 8 * q ∨ 8 * q + 8 ≤ k) → U1 23 k = U 23 k) ∧ (∀ k : Int, (k < 40 * q ∨ 40 * q + 40 ≤ k) → U1 24 k = U 24 k)

set_option maxHeartbeats 4000000 in
set_option maxRecDepth 100000 in
theorem c_X8_keeps (l : Launch) {X : We} (hY : isY X) {b : Nat} (V U : Mem) (f : Int → Int) (g : Int) (hW : WR U V b) (q : Int) (hq : 0 ≤ q ∧ q ≤ 1) : Mt l X (pk V b U f g) yX8_keeps cX8_keeps 4 none 0 0 [.ref (wa X 0), .int (jI q)] (Qv X (fun V1 => ∃ U1, V1 = pk V b U1 f g ∧ KP U1 V b q ∧ FK U U1 q)) := by
  refine Mt.go (by decide) (Nat.le_of_ble_eq_true rfl) ?_
  intro pg ev s0 mi bl mt cd ls Rm ag Qq hR hQ E hI hG hS hl
  have hl : lv_has ls 4 [(0, .ref (wa X 0)), (1, .int (jI q))] := hl
  refine x_iconst E dX8_keeps_0 ?_
  refine x_istore_n E [(2, .int (jI 0)), (0, .ref (wa X 0)), (1, .int (jI q))] dX8_keeps_1 hl (by decide) rfl (fun ls hl => ?_)
  have L2_1 : ∀ (N : Nat) (i : Int) (Y : Mem), (0 ≤ i) → (i ≤ 160) → (∀ p, p ≠ 21 → Y p = U p) → (∀ k : Int, (k < 1120 * q ∨ 1120 * q + 1120 ≤ k) → Y 21 k = U 21 k) → (∀ (j : Nat) (c : Int), 1 ≤ j → j ≤ 7 → 0 ≤ c → c < i → Y 21 (1120 * q + 160 * ((j : Int) - 1) + c) = V (b + j) c) → ((160 - i).toNat) < N → ∀ (H : Heap) (locs : List Loc) (ls : Array Slot), GW X (pk V b Y f g) H → va_S (wA X) s0.heap H locs → lv_has ls 4 [(0, .ref (wa X 0)), (1, .int (jI q)), (2, .int (jI i))] → W pg l ev Rm s0 mi ag bl mt cd H locs 0 0 Qq (F0 mi 2 ls []) := by
    intro N
    induction N with
    | zero => intro i Y i0 i1 h1 h2 h3 hN; exact absurd hN (Nat.not_lt_zero _)
    | succ N ih2 =>
      intro i Y i0 i1 h1 h2 h3 hN H locs ls hG hS hl
      refine x_iload_n E dX8_keeps_2 (lv_at hl 2 rfl) ?_
      refine x_sipush E dX8_keeps_3 (by decide) ?_
      refine x_icmp_ge E 131 dX8_keeps_6 (by decide) (by unfold rg; omega) (by unfold rg; omega) (fun c6 => ?_) (fun c6 => ?_)
      · have ei : i = 160 := by omega
        subst ei
        refine x_iconst E dX8_keeps_131 ?_
        refine x_istore_n E [(2, .int (jI 0)), (0, .ref (wa X 0)), (1, .int (jI q))] dX8_keeps_132 hl (by decide) rfl (fun ls hl => ?_)
        have L133_2 : ∀ (N : Nat) (i : Int) (Z : Mem), (0 ≤ i) → (i ≤ 5) → (∀ p, p ≠ 22 → Z p = Y p) → (∀ k : Int, (k < 5 * q ∨ 5 * q + 5 ≤ k) → Z 22 k = U 22 k) → (∀ k : Int, 0 ≤ k → k < i → Z 22 (5 * q + k) = V (b + 10) k) → ((5 - i).toNat) < N → ∀ (H : Heap) (locs : List Loc) (ls : Array Slot), GW X (pk V b Z f g) H → va_S (wA X) s0.heap H locs → lv_has ls 4 [(0, .ref (wa X 0)), (1, .int (jI q)), (2, .int (jI i))] → W pg l ev Rm s0 mi ag bl mt cd H locs 0 0 Qq (F0 mi 133 ls []) := by
          intro N
          induction N with
          | zero => intro i Z i0 i1 g1 g2 g3 hN; exact absurd hN (Nat.not_lt_zero _)
          | succ N ih133 =>
            intro i Z i0 i1 g1 g2 g3 hN H locs ls hG hS hl
            refine x_iload_n E dX8_keeps_133 (lv_at hl 2 rfl) ?_
            refine x_iconst E dX8_keeps_134 ?_
            refine x_icmp_ge E 160 dX8_keeps_135 (by decide) (by unfold rg; omega) (by unfold rg; omega) (fun c135 => ?_) (fun c135 => ?_)
            · have ei : i = 5 := by omega
              subst ei
              refine x_aload_n E dX8_keeps_160 (lv_at hl 0 rfl) ?_
              refine x_getr E hI hG (ym0 hY) cf8 44 23 rfl (by decide) kf_X8_87 dX8_keeps_161 ?_
              refine x_bipush E dX8_keeps_164 (by decide) ?_
              refine x_iload_n E dX8_keeps_166 (lv_at hl 1 rfl) ?_
              refine x_imul E dX8_keeps_167 ?_
              refine x_aload_n E dX8_keeps_168 (lv_at hl 0 rfl) ?_
              refine x_geti E hI hG (ym0 hY) cf8 11 (V b 11) rfl (by decide) rfl kf_X8_34 dX8_keeps_169 ?_
              refine x_iast E hI hG hS (ym23 hY) (by omega) dX8_keeps_172 (fun H locs hG hS => ?_)
              rw [show (st (pk V b Z f g) 23 (8 * q) (V b 11)) = (pk V b (st Z 23 (8 * q) (V b 11)) f g) from pk_a (by decide) _ _] at hG
              refine x_aload_n E dX8_keeps_173 (lv_at hl 0 rfl) ?_
              refine x_getr E hI hG (ym0 hY) cf8 44 23 rfl (by decide) kf_X8_87 dX8_keeps_174 ?_
              refine x_bipush E dX8_keeps_177 (by decide) ?_
              refine x_iload_n E dX8_keeps_179 (lv_at hl 1 rfl) ?_
              refine x_imul E dX8_keeps_180 ?_
              refine x_iconst E dX8_keeps_181 ?_
              refine x_iadd E dX8_keeps_182 ?_
              refine x_aload_n E dX8_keeps_183 (lv_at hl 0 rfl) ?_
              refine x_geti E hI hG (ym0 hY) cf8 12 (V b 12) rfl (by decide) rfl kf_X8_115 dX8_keeps_184 ?_
              refine x_iast E hI hG hS (ym23 hY) (by omega) dX8_keeps_187 (fun H locs hG hS => ?_)
              rw [show (st (pk V b (st Z 23 (8 * q) (V b 11)) f g) 23 ((8 * q) + 1) (V b 12)) = (pk V b (st (st Z 23 (8 * q) (V b 11)) 23 ((8 * q) + 1) (V b 12)) f g) from pk_a (by decide) _ _] at hG
              refine x_aload_n E dX8_keeps_188 (lv_at hl 0 rfl) ?_
              refine x_getr E hI hG (ym0 hY) cf8 44 23 rfl (by decide) kf_X8_87 dX8_keeps_189 ?_
              refine x_bipush E dX8_keeps_192 (by decide) ?_
              refine x_iload_n E dX8_keeps_194 (lv_at hl 1 rfl) ?_
              refine x_imul E dX8_keeps_195 ?_
              refine x_iconst E dX8_keeps_196 ?_
              refine x_iadd E dX8_keeps_197 ?_
              refine x_aload_n E dX8_keeps_198 (lv_at hl 0 rfl) ?_
              refine x_geti E hI hG (ym0 hY) cf8 13 (V b 13) rfl (by decide) rfl kf_X8_118 dX8_keeps_199 ?_
              refine x_iast E hI hG hS (ym23 hY) (by omega) dX8_keeps_202 (fun H locs hG hS => ?_)
              rw [show (st (pk V b (st (st Z 23 (8 * q) (V b 11)) 23 ((8 * q) + 1) (V b 12)) f g) 23 ((8 * q) + 2) (V b 13)) = (pk V b (st (st (st Z 23 (8 * q) (V b 11)) 23 ((8 * q) + 1) (V b 12)) 23 ((8 * q) + 2) (V b 13)) f g) from pk_a (by decide) _ _] at hG
              refine x_aload_n E dX8_keeps_203 (lv_at hl 0 rfl) ?_
              refine x_getr E hI hG (ym0 hY) cf8 44 23 rfl (by decide) kf_X8_87 dX8_keeps_204 ?_
              refine x_bipush E dX8_keeps_207 (by decide) ?_
              refine x_iload_n E dX8_keeps_209 (lv_at hl 1 rfl) ?_
              refine x_imul E dX8_keeps_210 ?_
              refine x_iconst E dX8_keeps_211 ?_
              refine x_iadd E dX8_keeps_212 ?_
              refine x_aload_n E dX8_keeps_213 (lv_at hl 0 rfl) ?_
              refine x_geti E hI hG (ym0 hY) cf8 14 (V b 14) rfl (by decide) rfl kf_X8_121 dX8_keeps_214 ?_
              refine x_iast E hI hG hS (ym23 hY) (by omega) dX8_keeps_217 (fun H locs hG hS => ?_)
              rw [show (st (pk V b (st (st (st Z 23 (8 * q) (V b 11)) 23 ((8 * q) + 1) (V b 12)) 23 ((8 * q) + 2) (V b 13)) f g) 23 ((8 * q) + 3) (V b 14)) = (pk V b (st (st (st (st Z 23 (8 * q) (V b 11)) 23 ((8 * q) + 1) (V b 12)) 23 ((8 * q) + 2) (V b 13)) 23 ((8 * q) + 3) (V b 14)) f g) from pk_a (by decide) _ _] at hG
              refine x_aload_n E dX8_keeps_218 (lv_at hl 0 rfl) ?_
              refine x_getr E hI hG (ym0 hY) cf8 44 23 rfl (by decide) kf_X8_87 dX8_keeps_219 ?_
              refine x_bipush E dX8_keeps_222 (by decide) ?_
              refine x_iload_n E dX8_keeps_224 (lv_at hl 1 rfl) ?_
              refine x_imul E dX8_keeps_225 ?_
              refine x_iconst E dX8_keeps_226 ?_
              refine x_iadd E dX8_keeps_227 ?_
              refine x_aload_n E dX8_keeps_228 (lv_at hl 0 rfl) ?_
              refine x_geti E hI hG (ym0 hY) cf8 15 (V b 15) rfl (by decide) rfl kf_X8_124 dX8_keeps_229 ?_
              refine x_iast E hI hG hS (ym23 hY) (by omega) dX8_keeps_232 (fun H locs hG hS => ?_)
              rw [show (st (pk V b (st (st (st (st Z 23 (8 * q) (V b 11)) 23 ((8 * q) + 1) (V b 12)) 23 ((8 * q) + 2) (V b 13)) 23 ((8 * q) + 3) (V b 14)) f g) 23 ((8 * q) + 4) (V b 15)) = (pk V b (st (st (st (st (st Z 23 (8 * q) (V b 11)) 23 ((8 * q) + 1) (V b 12)) 23 ((8 * q) + 2) (V b 13)) 23 ((8 * q) + 3) (V b 14)) 23 ((8 * q) + 4) (V b 15)) f g) from pk_a (by decide) _ _] at hG
              refine x_aload_n E dX8_keeps_233 (lv_at hl 0 rfl) ?_
              refine x_getr E hI hG (ym0 hY) cf8 44 23 rfl (by decide) kf_X8_87 dX8_keeps_234 ?_
              refine x_bipush E dX8_keeps_237 (by decide) ?_
              refine x_iload_n E dX8_keeps_239 (lv_at hl 1 rfl) ?_
              refine x_imul E dX8_keeps_240 ?_
              refine x_iconst E dX8_keeps_241 ?_
              refine x_iadd E dX8_keeps_242 ?_
              refine x_aload_n E dX8_keeps_243 (lv_at hl 0 rfl) ?_
              refine x_geti E hI hG (ym0 hY) cf8 19 (V (b + 11) 3) rfl (by decide) rfl kf_X8_127 dX8_keeps_244 ?_
              refine x_iast E hI hG hS (ym23 hY) (by omega) dX8_keeps_247 (fun H locs hG hS => ?_)
              rw [show (st (pk V b (st (st (st (st (st Z 23 (8 * q) (V b 11)) 23 ((8 * q) + 1) (V b 12)) 23 ((8 * q) + 2) (V b 13)) 23 ((8 * q) + 3) (V b 14)) 23 ((8 * q) + 4) (V b 15)) f g) 23 ((8 * q) + 5) (V (b + 11) 3)) = (pk V b (st (st (st (st (st (st Z 23 (8 * q) (V b 11)) 23 ((8 * q) + 1) (V b 12)) 23 ((8 * q) + 2) (V b 13)) 23 ((8 * q) + 3) (V b 14)) 23 ((8 * q) + 4) (V b 15)) 23 ((8 * q) + 5) (V (b + 11) 3)) f g) from pk_a (by decide) _ _] at hG
              refine x_aload_n E dX8_keeps_248 (lv_at hl 0 rfl) ?_
              refine x_getr E hI hG (ym0 hY) cf8 44 23 rfl (by decide) kf_X8_87 dX8_keeps_249 ?_
              refine x_bipush E dX8_keeps_252 (by decide) ?_
              refine x_iload_n E dX8_keeps_254 (lv_at hl 1 rfl) ?_
              refine x_imul E dX8_keeps_255 ?_
              refine x_bipush E dX8_keeps_256 (by decide) ?_
              refine x_iadd E dX8_keeps_258 ?_
              refine x_aload_n E dX8_keeps_259 (lv_at hl 0 rfl) ?_
              refine x_geti E hI hG (ym0 hY) cf8 20 (V (b + 11) 4) rfl (by decide) rfl kf_X8_130 dX8_keeps_260 ?_
              refine x_iast E hI hG hS (ym23 hY) (by omega) dX8_keeps_263 (fun H locs hG hS => ?_)
              rw [show (st (pk V b (st (st (st (st (st (st Z 23 (8 * q) (V b 11)) 23 ((8 * q) + 1) (V b 12)) 23 ((8 * q) + 2) (V b 13)) 23 ((8 * q) + 3) (V b 14)) 23 ((8 * q) + 4) (V b 15)) 23 ((8 * q) + 5) (V (b + 11) 3)) f g) 23 ((8 * q) + 6) (V (b + 11) 4)) = (pk V b (st (st (st (st (st (st (st Z 23 (8 * q) (V b 11)) 23 ((8 * q) + 1) (V b 12)) 23 ((8 * q) + 2) (V b 13)) 23 ((8 * q) + 3) (V b 14)) 23 ((8 * q) + 4) (V b 15)) 23 ((8 * q) + 5) (V (b + 11) 3)) 23 ((8 * q) + 6) (V (b + 11) 4)) f g) from pk_a (by decide) _ _] at hG
              refine x_aload_n E dX8_keeps_264 (lv_at hl 0 rfl) ?_
              refine x_getr E hI hG (ym0 hY) cf8 44 23 rfl (by decide) kf_X8_87 dX8_keeps_265 ?_
              refine x_bipush E dX8_keeps_268 (by decide) ?_
              refine x_iload_n E dX8_keeps_270 (lv_at hl 1 rfl) ?_
              refine x_imul E dX8_keeps_271 ?_
              refine x_bipush E dX8_keeps_272 (by decide) ?_
              refine x_iadd E dX8_keeps_274 ?_
              refine x_aload_n E dX8_keeps_275 (lv_at hl 0 rfl) ?_
              refine x_geti E hI hG (ym0 hY) cf8 16 (V (b + 11) 2) rfl (by decide) rfl kf_X8_133 dX8_keeps_276 ?_
              refine x_iast E hI hG hS (ym23 hY) (by omega) dX8_keeps_279 (fun H locs hG hS => ?_)
              rw [show (st (pk V b (st (st (st (st (st (st (st Z 23 (8 * q) (V b 11)) 23 ((8 * q) + 1) (V b 12)) 23 ((8 * q) + 2) (V b 13)) 23 ((8 * q) + 3) (V b 14)) 23 ((8 * q) + 4) (V b 15)) 23 ((8 * q) + 5) (V (b + 11) 3)) 23 ((8 * q) + 6) (V (b + 11) 4)) f g) 23 ((8 * q) + 7) (V (b + 11) 2)) = (pk V b (st (st (st (st (st (st (st (st Z 23 (8 * q) (V b 11)) 23 ((8 * q) + 1) (V b 12)) 23 ((8 * q) + 2) (V b 13)) 23 ((8 * q) + 3) (V b 14)) 23 ((8 * q) + 4) (V b 15)) 23 ((8 * q) + 5) (V (b + 11) 3)) 23 ((8 * q) + 6) (V (b + 11) 4)) 23 ((8 * q) + 7) (V (b + 11) 2)) f g) from pk_a (by decide) _ _] at hG
              refine x_iconst E dX8_keeps_280 ?_
              refine x_istore_n E [(2, .int (jI 0)), (0, .ref (wa X 0)), (1, .int (jI q))] dX8_keeps_281 hl (by decide) rfl (fun ls hl => ?_)
              have L282_3 : ∀ (N : Nat) (i : Int) (T : Mem), (0 ≤ i) → (i ≤ 20) → (∀ p, p ≠ 24 → T p = (st (st (st (st (st (st (st (st Z 23 (8 * q) (V b 11)) 23 ((8 * q) + 1) (V b 12)) 23 ((8 * q) + 2) (V b 13)) 23 ((8 * q) + 3) (V b 14)) 23 ((8 * q) + 4) (V b 15)) 23 ((8 * q) + 5) (V (b + 11) 3)) 23 ((8 * q) + 6) (V (b + 11) 4)) 23 ((8 * q) + 7) (V (b + 11) 2)) p) → (∀ k : Int, (k < 40 * q ∨ 40 * q + 40 ≤ k) → T 24 k = U 24 k) → (∀ k : Int, 0 ≤ k → k < i → T 24 (40 * q + k) = U 9 k ∧ T 24 (40 * q + 20 + k) = U 10 k) → ((20 - i).toNat) < N → ∀ (H : Heap) (locs : List Loc) (ls : Array Slot), GW X (pk V b T f g) H → va_S (wA X) s0.heap H locs → lv_has ls 4 [(0, .ref (wa X 0)), (1, .int (jI q)), (2, .int (jI i))] → W pg l ev Rm s0 mi ag bl mt cd H locs 0 0 Qq (F0 mi 282 ls []) := by
                intro N
                induction N with
                | zero => intro i T i0 i1 t1 t2 t3 hN; exact absurd hN (Nat.not_lt_zero _)
                | succ N ih282 =>
                  intro i T i0 i1 t1 t2 t3 hN H locs ls hG hS hl
                  refine x_iload_n E dX8_keeps_282 (lv_at hl 2 rfl) ?_
                  refine x_bipush E dX8_keeps_283 (by decide) ?_
                  refine x_icmp_ge E 331 dX8_keeps_285 (by decide) (by unfold rg; omega) (by unfold rg; omega) (fun c285 => ?_) (fun c285 => ?_)
                  · have ei : i = 20 := by omega
                    subst ei
                    refine r_v E hQ hG hS dX8_keeps_331 ?_
                    refine ⟨T, rfl, ⟨fun j c j0 j1 c0 c1 => by rw [t1 21 (by decide), st_p (by decide), st_p (by decide), st_p (by decide), st_p (by decide), st_p (by decide), st_p (by decide), st_p (by decide), st_p (by decide), g1 21 (by decide)]; exact h3 j c j0 j1 c0 c1, fun k k0 k1 => by rw [t1 22 (by decide), st_p (by decide), st_p (by decide), st_p (by decide), st_p (by decide), st_p (by decide), st_p (by decide), st_p (by decide), st_p (by decide)]; exact g3 k k0 k1, fun k k0 k1 => by
                                                            rw [t1 23 (by decide)]
                                                            rcases (show k = 0 ∨ k = 1 ∨ k = 2 ∨ k = 3 ∨ k = 4 by omega) with rfl | rfl | rfl | rfl | rfl
                                                            · rw [Int.add_zero, st_k (by omega), st_k (by omega), st_k (by omega), st_k (by omega), st_k (by omega), st_k (by omega), st_k (by omega), st_s]; rfl
                                                            · rw [st_k (by omega), st_k (by omega), st_k (by omega), st_k (by omega), st_k (by omega), st_k (by omega), st_s]; rfl
                                                            · rw [st_k (by omega), st_k (by omega), st_k (by omega), st_k (by omega), st_k (by omega), st_s]; rfl
                                                            · rw [st_k (by omega), st_k (by omega), st_k (by omega), st_k (by omega), st_s]; rfl
                                                            · rw [st_k (by omega), st_k (by omega), st_k (by omega), st_s]; rfl, ?_, fun k k0 k1 k2 => ?_⟩, ⟨fun p p1 p2 p3 p4 => by rw [t1 p p4, st_p p3, st_p p3, st_p p3, st_p p3, st_p p3, st_p p3, st_p p3, st_p p3, g1 p p2, h1 p p1], fun k hk => by rw [t1 21 (by decide), st_p (by decide), st_p (by decide), st_p (by decide), st_p (by decide), st_p (by decide), st_p (by decide), st_p (by decide), st_p (by decide), g1 21 (by decide)]; exact h2 k hk, fun k hk => by rw [t1 22 (by decide), st_p (by decide), st_p (by decide), st_p (by decide), st_p (by decide), st_p (by decide), st_p (by decide), st_p (by decide), st_p (by decide)]; exact g2 k hk, fun k hk => by rw [t1 23 (by decide), st_k (by omega), st_k (by omega), st_k (by omega), st_k (by omega), st_k (by omega), st_k (by omega), st_k (by omega), st_k (by omega), g1 23 (by decide), h1 23 (by decide)], t2⟩⟩
                    · rw [t1 23 (by decide)]
                      exact ⟨by rw [st_k (by omega), st_k (by omega), st_s], by rw [st_k (by omega), st_s], by rw [st_s]⟩
                    · rw [(t3 k k0 k1).1, (t3 k k0 k1).2]; exact hW k k0 k2
                  · refine x_aload_n E dX8_keeps_288 (lv_at hl 0 rfl) ?_
                    refine x_getr E hI hG (ym0 hY) cf8 45 24 rfl (by decide) kf_X8_90 dX8_keeps_289 ?_
                    refine x_bipush E dX8_keeps_292 (by decide) ?_
                    refine x_iload_n E dX8_keeps_294 (lv_at hl 1 rfl) ?_
                    refine x_imul E dX8_keeps_295 ?_
                    refine x_iload_n E dX8_keeps_296 (lv_at hl 2 rfl) ?_
                    refine x_iadd E dX8_keeps_297 ?_
                    refine x_aload_n E dX8_keeps_298 (lv_at hl 0 rfl) ?_
                    refine x_getr E hI hG (ym0 hY) cf8 17 9 rfl (by decide) kf_X8_38 dX8_keeps_299 ?_
                    refine x_iload_n E dX8_keeps_302 (lv_at hl 2 rfl) ?_
                    refine x_iald E hI hG (ym9 hY) (U 9 i) (by show T 9 i = _; rw [t1 9 (by decide), st_p (by decide), st_p (by decide), st_p (by decide), st_p (by decide), st_p (by decide), st_p (by decide), st_p (by decide), st_p (by decide), g1 9 (by decide), h1 9 (by decide)]) (by omega) dX8_keeps_303 ?_
                    refine x_iast E hI hG hS (ym24 hY) (by omega) dX8_keeps_304 (fun H locs hG hS => ?_)
                    rw [show (st (pk V b T f g) 24 ((40 * q) + i) (U 9 i)) = (pk V b (st T 24 ((40 * q) + i) (U 9 i)) f g) from pk_a (by decide) _ _] at hG
                    refine x_aload_n E dX8_keeps_305 (lv_at hl 0 rfl) ?_
                    refine x_getr E hI hG (ym0 hY) cf8 45 24 rfl (by decide) kf_X8_90 dX8_keeps_306 ?_
                    refine x_bipush E dX8_keeps_309 (by decide) ?_
                    refine x_iload_n E dX8_keeps_311 (lv_at hl 1 rfl) ?_
                    refine x_imul E dX8_keeps_312 ?_
                    refine x_bipush E dX8_keeps_313 (by decide) ?_
                    refine x_iadd E dX8_keeps_315 ?_
                    refine x_iload_n E dX8_keeps_316 (lv_at hl 2 rfl) ?_
                    refine x_iadd E dX8_keeps_317 ?_
                    refine x_aload_n E dX8_keeps_318 (lv_at hl 0 rfl) ?_
                    refine x_getr E hI hG (ym0 hY) cf8 18 10 rfl (by decide) kf_X8_41 dX8_keeps_319 ?_
                    refine x_iload_n E dX8_keeps_322 (lv_at hl 2 rfl) ?_
                    refine x_iald E hI hG (ym10 hY) (U 10 i) (by show st T 24 ((40 * q) + i) (U 9 i) 10 i = _; rw [st_p (by decide), t1 10 (by decide), st_p (by decide), st_p (by decide), st_p (by decide), st_p (by decide), st_p (by decide), st_p (by decide), st_p (by decide), st_p (by decide), g1 10 (by decide), h1 10 (by decide)]) (by omega) dX8_keeps_323 ?_
                    refine x_iast E hI hG hS (ym24 hY) (by omega) dX8_keeps_324 (fun H locs hG hS => ?_)
                    rw [show (st (pk V b (st T 24 ((40 * q) + i) (U 9 i)) f g) 24 (((40 * q) + 20) + i) (U 10 i)) = (pk V b (st (st T 24 ((40 * q) + i) (U 9 i)) 24 (((40 * q) + 20) + i) (U 10 i)) f g) from pk_a (by decide) _ _] at hG
                    refine x_iinc E (k := 2) [(2, .int (jI (i + 1))), (0, .ref (wa X 0)), (1, .int (jI q))] dX8_keeps_325 hl rfl (by decide) rfl (fun ls hl => ?_)
                    refine x_goto E 282 dX8_keeps_328 (by decide) ?_
                    exact ih282 (i + 1) (st (st T 24 ((40 * q) + i) (U 9 i)) 24 (((40 * q) + 20) + i) (U 10 i)) (by omega) (by omega) (fun p hp => by rw [st_p hp, st_p hp]; exact t1 p hp) (fun k hk => by rw [st_k (by omega), st_k (by omega)]; exact t2 k hk) (fun k k0 k1 => by
                            rcases (show k < i ∨ k = i by omega) with q1 | q1
                            · rw [st_k (by omega), st_k (by omega), st_k (by omega), st_k (by omega)]; exact t3 k k0 q1
                            · rw [q1, st_s, st_k (by omega), st_s]; exact ⟨rfl, rfl⟩) (by omega) _ _ _ hG hS (lv_sub hl [1, 2, 0] rfl)
              exact L282_3 _ 0 (st (st (st (st (st (st (st (st Z 23 (8 * q) (V b 11)) 23 ((8 * q) + 1) (V b 12)) 23 ((8 * q) + 2) (V b 13)) 23 ((8 * q) + 3) (V b 14)) 23 ((8 * q) + 4) (V b 15)) 23 ((8 * q) + 5) (V (b + 11) 3)) 23 ((8 * q) + 6) (V (b + 11) 4)) 23 ((8 * q) + 7) (V (b + 11) 2)) (by omega) (by omega) (fun p _ => rfl) (fun k _ => by rw [st_p (by decide), st_p (by decide), st_p (by decide), st_p (by decide), st_p (by decide), st_p (by decide), st_p (by decide), st_p (by decide), g1 24 (by decide), h1 24 (by decide)]) (fun k k0 k1 => by omega) (Nat.lt_succ_self _) _ _ _ hG hS (lv_sub hl [1, 2, 0] rfl)
            · refine x_aload_n E dX8_keeps_138 (lv_at hl 0 rfl) ?_
              refine x_getr E hI hG (ym0 hY) cf8 43 22 rfl (by decide) kf_X8_84 dX8_keeps_139 ?_
              refine x_iconst E dX8_keeps_142 ?_
              refine x_iload_n E dX8_keeps_143 (lv_at hl 1 rfl) ?_
              refine x_imul E dX8_keeps_144 ?_
              refine x_iload_n E dX8_keeps_145 (lv_at hl 2 rfl) ?_
              refine x_iadd E dX8_keeps_146 ?_
              refine x_aload_n E dX8_keeps_147 (lv_at hl 0 rfl) ?_
              refine x_getr E hI hG (ym0 hY) cf8 10 8 rfl (by decide) kf_X8_31 dX8_keeps_148 ?_
              refine x_iload_n E dX8_keeps_151 (lv_at hl 2 rfl) ?_
              refine x_iald E hI hG (ym8 hY) (V (b + 10) i) rfl (by omega) dX8_keeps_152 ?_
              refine x_iast E hI hG hS (ym22 hY) (by omega) dX8_keeps_153 (fun H locs hG hS => ?_)
              rw [show (st (pk V b Z f g) 22 ((5 * q) + i) (V (b + 10) i)) = (pk V b (st Z 22 ((5 * q) + i) (V (b + 10) i)) f g) from pk_a (by decide) _ _] at hG
              refine x_iinc E (k := 2) [(2, .int (jI (i + 1))), (0, .ref (wa X 0)), (1, .int (jI q))] dX8_keeps_154 hl rfl (by decide) rfl (fun ls hl => ?_)
              refine x_goto E 133 dX8_keeps_157 (by decide) ?_
              exact ih133 (i + 1) (st Z 22 ((5 * q) + i) (V (b + 10) i)) (by omega) (by omega) (fun p hp => by rw [st_p hp]; exact g1 p hp) (fun k hk => by rw [st_k (by omega)]; exact g2 k hk) (fun k k0 k1 => by
                      rcases (show k < i ∨ k = i by omega) with q1 | q1
                      · rw [st_k (by omega)]; exact g3 k k0 q1
                      · rw [q1, st_s]) (by omega) _ _ _ hG hS (lv_sub hl [1, 2, 0] rfl)
        exact L133_2 _ 0 Y (by omega) (by omega) (fun p _ => rfl) (fun k _ => by rw [h1 22 (by decide)]) (fun k k0 k1 => by omega) (Nat.lt_succ_self _) _ _ _ hG hS (lv_sub hl [1, 2, 0] rfl)
      · refine x_sipush E dX8_keeps_9 (by decide) ?_
        refine x_iload_n E dX8_keeps_12 (lv_at hl 1 rfl) ?_
        refine x_imul E dX8_keeps_13 ?_
        refine x_iload_n E dX8_keeps_14 (lv_at hl 2 rfl) ?_
        refine x_iadd E dX8_keeps_15 ?_
        refine x_istore_n E [(3, .int (jI ((1120 * q) + i))), (0, .ref (wa X 0)), (1, .int (jI q)), (2, .int (jI i))] dX8_keeps_16 hl (by decide) rfl (fun ls hl => ?_)
        refine x_aload_n E dX8_keeps_17 (lv_at hl 1 rfl) ?_
        refine x_getr E hI hG (ym0 hY) cf8 42 21 rfl (by decide) kf_X8_81 dX8_keeps_18 ?_
        refine x_iload_n E dX8_keeps_21 (lv_at hl 0 rfl) ?_
        refine x_aload_n E dX8_keeps_22 (lv_at hl 1 rfl) ?_
        refine x_getr E hI hG (ym0 hY) cf8 3 1 rfl (by decide) kf_X8_7 dX8_keeps_23 ?_
        refine x_iload_n E dX8_keeps_26 (lv_at hl 3 rfl) ?_
        refine x_iald E hI hG (ym1 hY) (V (b + 1) i) rfl (by omega) dX8_keeps_27 ?_
        refine x_iast E hI hG hS (ym21 hY) (by omega) dX8_keeps_28 (fun H locs hG hS => ?_)
        rw [show (st (pk V b Y f g) 21 ((1120 * q) + i) (V (b + 1) i)) = (pk V b (st Y 21 ((1120 * q) + i) (V (b + 1) i)) f g) from pk_a (by decide) _ _] at hG
        refine x_aload_n E dX8_keeps_29 (lv_at hl 1 rfl) ?_
        refine x_getr E hI hG (ym0 hY) cf8 42 21 rfl (by decide) kf_X8_81 dX8_keeps_30 ?_
        refine x_iload_n E dX8_keeps_33 (lv_at hl 0 rfl) ?_
        refine x_sipush E dX8_keeps_34 (by decide) ?_
        refine x_iadd E dX8_keeps_37 ?_
        refine x_aload_n E dX8_keeps_38 (lv_at hl 1 rfl) ?_
        refine x_getr E hI hG (ym0 hY) cf8 4 2 rfl (by decide) kf_X8_13 dX8_keeps_39 ?_
        refine x_iload_n E dX8_keeps_42 (lv_at hl 3 rfl) ?_
        refine x_iald E hI hG (ym2 hY) (V (b + 2) i) rfl (by omega) dX8_keeps_43 ?_
        refine x_iast E hI hG hS (ym21 hY) (by omega) dX8_keeps_44 (fun H locs hG hS => ?_)
        rw [show (st (pk V b (st Y 21 ((1120 * q) + i) (V (b + 1) i)) f g) 21 (((1120 * q) + i) + 160) (V (b + 2) i)) = (pk V b (st (st Y 21 ((1120 * q) + i) (V (b + 1) i)) 21 (((1120 * q) + i) + 160) (V (b + 2) i)) f g) from pk_a (by decide) _ _] at hG
        refine x_aload_n E dX8_keeps_45 (lv_at hl 1 rfl) ?_
        refine x_getr E hI hG (ym0 hY) cf8 42 21 rfl (by decide) kf_X8_81 dX8_keeps_46 ?_
        refine x_iload_n E dX8_keeps_49 (lv_at hl 0 rfl) ?_
        refine x_sipush E dX8_keeps_50 (by decide) ?_
        refine x_iadd E dX8_keeps_53 ?_
        refine x_aload_n E dX8_keeps_54 (lv_at hl 1 rfl) ?_
        refine x_getr E hI hG (ym0 hY) cf8 5 3 rfl (by decide) kf_X8_16 dX8_keeps_55 ?_
        refine x_iload_n E dX8_keeps_58 (lv_at hl 3 rfl) ?_
        refine x_iald E hI hG (ym3 hY) (V (b + 3) i) rfl (by omega) dX8_keeps_59 ?_
        refine x_iast E hI hG hS (ym21 hY) (by omega) dX8_keeps_60 (fun H locs hG hS => ?_)
        rw [show (st (pk V b (st (st Y 21 ((1120 * q) + i) (V (b + 1) i)) 21 (((1120 * q) + i) + 160) (V (b + 2) i)) f g) 21 (((1120 * q) + i) + 320) (V (b + 3) i)) = (pk V b (st (st (st Y 21 ((1120 * q) + i) (V (b + 1) i)) 21 (((1120 * q) + i) + 160) (V (b + 2) i)) 21 (((1120 * q) + i) + 320) (V (b + 3) i)) f g) from pk_a (by decide) _ _] at hG
        refine x_aload_n E dX8_keeps_61 (lv_at hl 1 rfl) ?_
        refine x_getr E hI hG (ym0 hY) cf8 42 21 rfl (by decide) kf_X8_81 dX8_keeps_62 ?_
        refine x_iload_n E dX8_keeps_65 (lv_at hl 0 rfl) ?_
        refine x_sipush E dX8_keeps_66 (by decide) ?_
        refine x_iadd E dX8_keeps_69 ?_
        refine x_aload_n E dX8_keeps_70 (lv_at hl 1 rfl) ?_
        refine x_getr E hI hG (ym0 hY) cf8 6 4 rfl (by decide) kf_X8_19 dX8_keeps_71 ?_
        refine x_iload_n E dX8_keeps_74 (lv_at hl 3 rfl) ?_
        refine x_iald E hI hG (ym4 hY) (V (b + 4) i) rfl (by omega) dX8_keeps_75 ?_
        refine x_iast E hI hG hS (ym21 hY) (by omega) dX8_keeps_76 (fun H locs hG hS => ?_)
        rw [show (st (pk V b (st (st (st Y 21 ((1120 * q) + i) (V (b + 1) i)) 21 (((1120 * q) + i) + 160) (V (b + 2) i)) 21 (((1120 * q) + i) + 320) (V (b + 3) i)) f g) 21 (((1120 * q) + i) + 480) (V (b + 4) i)) = (pk V b (st (st (st (st Y 21 ((1120 * q) + i) (V (b + 1) i)) 21 (((1120 * q) + i) + 160) (V (b + 2) i)) 21 (((1120 * q) + i) + 320) (V (b + 3) i)) 21 (((1120 * q) + i) + 480) (V (b + 4) i)) f g) from pk_a (by decide) _ _] at hG
        refine x_aload_n E dX8_keeps_77 (lv_at hl 1 rfl) ?_
        refine x_getr E hI hG (ym0 hY) cf8 42 21 rfl (by decide) kf_X8_81 dX8_keeps_78 ?_
        refine x_iload_n E dX8_keeps_81 (lv_at hl 0 rfl) ?_
        refine x_sipush E dX8_keeps_82 (by decide) ?_
        refine x_iadd E dX8_keeps_85 ?_
        refine x_aload_n E dX8_keeps_86 (lv_at hl 1 rfl) ?_
        refine x_getr E hI hG (ym0 hY) cf8 7 5 rfl (by decide) kf_X8_22 dX8_keeps_87 ?_
        refine x_iload_n E dX8_keeps_90 (lv_at hl 3 rfl) ?_
        refine x_iald E hI hG (ym5 hY) (V (b + 5) i) rfl (by omega) dX8_keeps_91 ?_
        refine x_iast E hI hG hS (ym21 hY) (by omega) dX8_keeps_92 (fun H locs hG hS => ?_)
        rw [show (st (pk V b (st (st (st (st Y 21 ((1120 * q) + i) (V (b + 1) i)) 21 (((1120 * q) + i) + 160) (V (b + 2) i)) 21 (((1120 * q) + i) + 320) (V (b + 3) i)) 21 (((1120 * q) + i) + 480) (V (b + 4) i)) f g) 21 (((1120 * q) + i) + 640) (V (b + 5) i)) = (pk V b (st (st (st (st (st Y 21 ((1120 * q) + i) (V (b + 1) i)) 21 (((1120 * q) + i) + 160) (V (b + 2) i)) 21 (((1120 * q) + i) + 320) (V (b + 3) i)) 21 (((1120 * q) + i) + 480) (V (b + 4) i)) 21 (((1120 * q) + i) + 640) (V (b + 5) i)) f g) from pk_a (by decide) _ _] at hG
        refine x_aload_n E dX8_keeps_93 (lv_at hl 1 rfl) ?_
        refine x_getr E hI hG (ym0 hY) cf8 42 21 rfl (by decide) kf_X8_81 dX8_keeps_94 ?_
        refine x_iload_n E dX8_keeps_97 (lv_at hl 0 rfl) ?_
        refine x_sipush E dX8_keeps_98 (by decide) ?_
        refine x_iadd E dX8_keeps_101 ?_
        refine x_aload_n E dX8_keeps_102 (lv_at hl 1 rfl) ?_
        refine x_getr E hI hG (ym0 hY) cf8 8 6 rfl (by decide) kf_X8_25 dX8_keeps_103 ?_
        refine x_iload_n E dX8_keeps_106 (lv_at hl 3 rfl) ?_
        refine x_iald E hI hG (ym6 hY) (V (b + 6) i) rfl (by omega) dX8_keeps_107 ?_
        refine x_iast E hI hG hS (ym21 hY) (by omega) dX8_keeps_108 (fun H locs hG hS => ?_)
        rw [show (st (pk V b (st (st (st (st (st Y 21 ((1120 * q) + i) (V (b + 1) i)) 21 (((1120 * q) + i) + 160) (V (b + 2) i)) 21 (((1120 * q) + i) + 320) (V (b + 3) i)) 21 (((1120 * q) + i) + 480) (V (b + 4) i)) 21 (((1120 * q) + i) + 640) (V (b + 5) i)) f g) 21 (((1120 * q) + i) + 800) (V (b + 6) i)) = (pk V b (st (st (st (st (st (st Y 21 ((1120 * q) + i) (V (b + 1) i)) 21 (((1120 * q) + i) + 160) (V (b + 2) i)) 21 (((1120 * q) + i) + 320) (V (b + 3) i)) 21 (((1120 * q) + i) + 480) (V (b + 4) i)) 21 (((1120 * q) + i) + 640) (V (b + 5) i)) 21 (((1120 * q) + i) + 800) (V (b + 6) i)) f g) from pk_a (by decide) _ _] at hG
        refine x_aload_n E dX8_keeps_109 (lv_at hl 1 rfl) ?_
        refine x_getr E hI hG (ym0 hY) cf8 42 21 rfl (by decide) kf_X8_81 dX8_keeps_110 ?_
        refine x_iload_n E dX8_keeps_113 (lv_at hl 0 rfl) ?_
        refine x_sipush E dX8_keeps_114 (by decide) ?_
        refine x_iadd E dX8_keeps_117 ?_
        refine x_aload_n E dX8_keeps_118 (lv_at hl 1 rfl) ?_
        refine x_getr E hI hG (ym0 hY) cf8 9 7 rfl (by decide) kf_X8_28 dX8_keeps_119 ?_
        refine x_iload_n E dX8_keeps_122 (lv_at hl 3 rfl) ?_
        refine x_iald E hI hG (ym7 hY) (V (b + 7) i) rfl (by omega) dX8_keeps_123 ?_
        refine x_iast E hI hG hS (ym21 hY) (by omega) dX8_keeps_124 (fun H locs hG hS => ?_)
        rw [show (st (pk V b (st (st (st (st (st (st Y 21 ((1120 * q) + i) (V (b + 1) i)) 21 (((1120 * q) + i) + 160) (V (b + 2) i)) 21 (((1120 * q) + i) + 320) (V (b + 3) i)) 21 (((1120 * q) + i) + 480) (V (b + 4) i)) 21 (((1120 * q) + i) + 640) (V (b + 5) i)) 21 (((1120 * q) + i) + 800) (V (b + 6) i)) f g) 21 (((1120 * q) + i) + 960) (V (b + 7) i)) = (pk V b (st (st (st (st (st (st (st Y 21 ((1120 * q) + i) (V (b + 1) i)) 21 (((1120 * q) + i) + 160) (V (b + 2) i)) 21 (((1120 * q) + i) + 320) (V (b + 3) i)) 21 (((1120 * q) + i) + 480) (V (b + 4) i)) 21 (((1120 * q) + i) + 640) (V (b + 5) i)) 21 (((1120 * q) + i) + 800) (V (b + 6) i)) 21 (((1120 * q) + i) + 960) (V (b + 7) i)) f g) from pk_a (by decide) _ _] at hG
        refine x_iinc E (k := 3) [(2, .int (jI (i + 1))), (3, .int (jI ((1120 * q) + i))), (0, .ref (wa X 0)), (1, .int (jI q))] dX8_keeps_125 hl rfl (by decide) rfl (fun ls hl => ?_)
        refine x_goto E 2 dX8_keeps_128 (by decide) ?_
        exact ih2 (i + 1) (st (st (st (st (st (st (st Y 21 ((1120 * q) + i) (V (b + 1) i)) 21 (((1120 * q) + i) + 160) (V (b + 2) i)) 21 (((1120 * q) + i) + 320) (V (b + 3) i)) 21 (((1120 * q) + i) + 480) (V (b + 4) i)) 21 (((1120 * q) + i) + 640) (V (b + 5) i)) 21 (((1120 * q) + i) + 800) (V (b + 6) i)) 21 (((1120 * q) + i) + 960) (V (b + 7) i)) (by omega) (by omega) (fun p hp => by rw [st_p hp, st_p hp, st_p hp, st_p hp, st_p hp, st_p hp, st_p hp]; exact h1 p hp) (fun k hk => by rw [st_k (by omega), st_k (by omega), st_k (by omega), st_k (by omega), st_k (by omega), st_k (by omega), st_k (by omega)]; exact h2 k hk) (fun j c j0 j1 c0 c1 => by
                                                rcases (show c < i ∨ c = i by omega) with q1 | q1
                                                · rw [st_k (by omega), st_k (by omega), st_k (by omega), st_k (by omega), st_k (by omega), st_k (by omega), st_k (by omega)]; exact h3 j c j0 j1 c0 q1
                                                · subst q1
                                                  rcases (show j = 1 ∨ j = 2 ∨ j = 3 ∨ j = 4 ∨ j = 5 ∨ j = 6 ∨ j = 7 by omega) with rfl | rfl | rfl | rfl | rfl | rfl | rfl
                                                  · rw [show 1120 * q + 160 * (((1 : Nat) : Int) - 1) + c = (1120 * q) + c by omega, st_k (by omega), st_k (by omega), st_k (by omega), st_k (by omega), st_k (by omega), st_k (by omega), st_s]
                                                  · rw [show 1120 * q + 160 * (((2 : Nat) : Int) - 1) + c = ((1120 * q) + c) + 160 by omega, st_k (by omega), st_k (by omega), st_k (by omega), st_k (by omega), st_k (by omega), st_s]
                                                  · rw [show 1120 * q + 160 * (((3 : Nat) : Int) - 1) + c = ((1120 * q) + c) + 320 by omega, st_k (by omega), st_k (by omega), st_k (by omega), st_k (by omega), st_s]
                                                  · rw [show 1120 * q + 160 * (((4 : Nat) : Int) - 1) + c = ((1120 * q) + c) + 480 by omega, st_k (by omega), st_k (by omega), st_k (by omega), st_s]
                                                  · rw [show 1120 * q + 160 * (((5 : Nat) : Int) - 1) + c = ((1120 * q) + c) + 640 by omega, st_k (by omega), st_k (by omega), st_s]
                                                  · rw [show 1120 * q + 160 * (((6 : Nat) : Int) - 1) + c = ((1120 * q) + c) + 800 by omega, st_k (by omega), st_s]
                                                  · rw [show 1120 * q + 160 * (((7 : Nat) : Int) - 1) + c = ((1120 * q) + c) + 960 by omega, st_s]) (by omega) _ _ _ hG hS (lv_sub hl [2, 3, 0] rfl)
  exact L2_1 _ 0 U (by omega) (by omega) (fun p _ => rfl) (fun k _ => rfl) (fun j c _ _ c0 c1 => by omega) (Nat.lt_succ_self _) _ _ _ hG hS (lv_sub hl [1, 2, 0] rfl)

set_option maxHeartbeats 4000000 in
set_option maxRecDepth 100000 in
theorem c_X8_comesBack (l : Launch) {X : We} (hY : isY X) {b a : Nat} (V Vx U : Mem) (f : Int → Int) (g : Int) (q : Int) (hq : 0 ≤ q ∧ q ≤ 1) (hK : KP U Vx a q) (hc : Vx (a + 11) 2 ≤ 20) : Mt l X (pk V b U f g) yX8_comesBack cX8_comesBack 4 none 0 0 [.ref (wa X 0), .int (jI q)] (Qv X (fun V1 => ∃ U1, V1 = pk Vx a U1 f g ∧ (∀ p, p ≠ 9 → p ≠ 10 → U1 p = U p) ∧ WR U1 Vx a)) := by
  refine Mt.go (by decide) (Nat.le_of_ble_eq_true rfl) ?_
  intro pg ev s0 mi bl mt cd ls Rm ag Qq hR hQ E hI hG hS hl
  have hl : lv_has ls 4 [(0, .ref (wa X 0)), (1, .int (jI q))] := hl
  refine x_iconst E dX8_comesBack_0 ?_
  refine x_istore_n E [(2, .int (jI 0)), (0, .ref (wa X 0)), (1, .int (jI q))] dX8_comesBack_1 hl (by decide) rfl (fun ls hl => ?_)
  have L2_1 : ∀ (N : Nat) (i : Int) (Y : Mem), (0 ≤ i) → (i ≤ 160) → (∀ (j : Nat) (c : Int), 1 ≤ j → j ≤ 7 → 0 ≤ c → c < i → Y (b + j) c = U 21 (1120 * q + 160 * ((j : Int) - 1) + c)) → ((160 - i).toNat) < N → ∀ (H : Heap) (locs : List Loc) (ls : Array Slot), GW X (pk Y b U f g) H → va_S (wA X) s0.heap H locs → lv_has ls 4 [(0, .ref (wa X 0)), (1, .int (jI q)), (2, .int (jI i))] → W pg l ev Rm s0 mi ag bl mt cd H locs 0 0 Qq (F0 mi 2 ls []) := by
    intro N
    induction N with
    | zero => intro i Y i0 i1 h3 hN; exact absurd hN (Nat.not_lt_zero _)
    | succ N ih2 =>
      intro i Y i0 i1 h3 hN H locs ls hG hS hl
      refine x_iload_n E dX8_comesBack_2 (lv_at hl 2 rfl) ?_
      refine x_sipush E dX8_comesBack_3 (by decide) ?_
      refine x_icmp_ge E 131 dX8_comesBack_6 (by decide) (by unfold rg; omega) (by unfold rg; omega) (fun c6 => ?_) (fun c6 => ?_)
      · have ei : i = 160 := by omega
        subst ei
        refine x_iconst E dX8_comesBack_131 ?_
        refine x_istore_n E [(2, .int (jI 0)), (0, .ref (wa X 0)), (1, .int (jI q))] dX8_comesBack_132 hl (by decide) rfl (fun ls hl => ?_)
        have L133_2 : ∀ (N : Nat) (i : Int) (Z : Mem), (0 ≤ i) → (i ≤ 5) → (∀ p, p ≠ b + 10 → Z p = Y p) → (∀ k : Int, 0 ≤ k → k < i → Z (b + 10) k = U 22 (5 * q + k)) → ((5 - i).toNat) < N → ∀ (H : Heap) (locs : List Loc) (ls : Array Slot), GW X (pk Z b U f g) H → va_S (wA X) s0.heap H locs → lv_has ls 4 [(0, .ref (wa X 0)), (1, .int (jI q)), (2, .int (jI i))] → W pg l ev Rm s0 mi ag bl mt cd H locs 0 0 Qq (F0 mi 133 ls []) := by
          intro N
          induction N with
          | zero => intro i Z i0 i1 g1 g3 hN; exact absurd hN (Nat.not_lt_zero _)
          | succ N ih133 =>
            intro i Z i0 i1 g1 g3 hN H locs ls hG hS hl
            refine x_iload_n E dX8_comesBack_133 (lv_at hl 2 rfl) ?_
            refine x_iconst E dX8_comesBack_134 ?_
            refine x_icmp_ge E 160 dX8_comesBack_135 (by decide) (by unfold rg; omega) (by unfold rg; omega) (fun c135 => ?_) (fun c135 => ?_)
            · have ei : i = 5 := by omega
              subst ei
              refine x_aload_n E dX8_comesBack_160 (lv_at hl 0 rfl) ?_
              refine x_aload_n E dX8_comesBack_161 (lv_at hl 0 rfl) ?_
              refine x_getr E hI hG (ym0 hY) cf8 44 23 rfl (by decide) kf_X8_87 dX8_comesBack_162 ?_
              refine x_bipush E dX8_comesBack_165 (by decide) ?_
              refine x_iload_n E dX8_comesBack_167 (lv_at hl 1 rfl) ?_
              refine x_imul E dX8_comesBack_168 ?_
              refine x_iald E hI hG (ym23 hY) (U 23 (8 * q)) rfl (by omega) dX8_comesBack_169 ?_
              refine x_puti E hI hG hS (ym0 hY) cf8 11 11 rfl rfl (by decide) rfl rfl kf_X8_34 dX8_comesBack_170 (fun H locs hG hS => ?_)
              rw [show (st (pk Z b U f g) 0 11 (U 23 (8 * q))) = (pk (st Z b 11 (U 23 (8 * q))) b U f g) from pk_n (by decide) _ _] at hG
              refine x_aload_n E dX8_comesBack_173 (lv_at hl 0 rfl) ?_
              refine x_aload_n E dX8_comesBack_174 (lv_at hl 0 rfl) ?_
              refine x_getr E hI hG (ym0 hY) cf8 44 23 rfl (by decide) kf_X8_87 dX8_comesBack_175 ?_
              refine x_bipush E dX8_comesBack_178 (by decide) ?_
              refine x_iload_n E dX8_comesBack_180 (lv_at hl 1 rfl) ?_
              refine x_imul E dX8_comesBack_181 ?_
              refine x_iconst E dX8_comesBack_182 ?_
              refine x_iadd E dX8_comesBack_183 ?_
              refine x_iald E hI hG (ym23 hY) (U 23 ((8 * q) + 1)) rfl (by omega) dX8_comesBack_184 ?_
              refine x_puti E hI hG hS (ym0 hY) cf8 12 12 rfl rfl (by decide) rfl rfl kf_X8_115 dX8_comesBack_185 (fun H locs hG hS => ?_)
              rw [show (st (pk (st Z b 11 (U 23 (8 * q))) b U f g) 0 12 (U 23 ((8 * q) + 1))) = (pk (st (st Z b 11 (U 23 (8 * q))) b 12 (U 23 ((8 * q) + 1))) b U f g) from pk_n (by decide) _ _] at hG
              refine x_aload_n E dX8_comesBack_188 (lv_at hl 0 rfl) ?_
              refine x_aload_n E dX8_comesBack_189 (lv_at hl 0 rfl) ?_
              refine x_getr E hI hG (ym0 hY) cf8 44 23 rfl (by decide) kf_X8_87 dX8_comesBack_190 ?_
              refine x_bipush E dX8_comesBack_193 (by decide) ?_
              refine x_iload_n E dX8_comesBack_195 (lv_at hl 1 rfl) ?_
              refine x_imul E dX8_comesBack_196 ?_
              refine x_iconst E dX8_comesBack_197 ?_
              refine x_iadd E dX8_comesBack_198 ?_
              refine x_iald E hI hG (ym23 hY) (U 23 ((8 * q) + 2)) rfl (by omega) dX8_comesBack_199 ?_
              refine x_puti E hI hG hS (ym0 hY) cf8 13 13 rfl rfl (by decide) rfl rfl kf_X8_118 dX8_comesBack_200 (fun H locs hG hS => ?_)
              rw [show (st (pk (st (st Z b 11 (U 23 (8 * q))) b 12 (U 23 ((8 * q) + 1))) b U f g) 0 13 (U 23 ((8 * q) + 2))) = (pk (st (st (st Z b 11 (U 23 (8 * q))) b 12 (U 23 ((8 * q) + 1))) b 13 (U 23 ((8 * q) + 2))) b U f g) from pk_n (by decide) _ _] at hG
              refine x_aload_n E dX8_comesBack_203 (lv_at hl 0 rfl) ?_
              refine x_aload_n E dX8_comesBack_204 (lv_at hl 0 rfl) ?_
              refine x_getr E hI hG (ym0 hY) cf8 44 23 rfl (by decide) kf_X8_87 dX8_comesBack_205 ?_
              refine x_bipush E dX8_comesBack_208 (by decide) ?_
              refine x_iload_n E dX8_comesBack_210 (lv_at hl 1 rfl) ?_
              refine x_imul E dX8_comesBack_211 ?_
              refine x_iconst E dX8_comesBack_212 ?_
              refine x_iadd E dX8_comesBack_213 ?_
              refine x_iald E hI hG (ym23 hY) (U 23 ((8 * q) + 3)) rfl (by omega) dX8_comesBack_214 ?_
              refine x_puti E hI hG hS (ym0 hY) cf8 14 14 rfl rfl (by decide) rfl rfl kf_X8_121 dX8_comesBack_215 (fun H locs hG hS => ?_)
              rw [show (st (pk (st (st (st Z b 11 (U 23 (8 * q))) b 12 (U 23 ((8 * q) + 1))) b 13 (U 23 ((8 * q) + 2))) b U f g) 0 14 (U 23 ((8 * q) + 3))) = (pk (st (st (st (st Z b 11 (U 23 (8 * q))) b 12 (U 23 ((8 * q) + 1))) b 13 (U 23 ((8 * q) + 2))) b 14 (U 23 ((8 * q) + 3))) b U f g) from pk_n (by decide) _ _] at hG
              refine x_aload_n E dX8_comesBack_218 (lv_at hl 0 rfl) ?_
              refine x_aload_n E dX8_comesBack_219 (lv_at hl 0 rfl) ?_
              refine x_getr E hI hG (ym0 hY) cf8 44 23 rfl (by decide) kf_X8_87 dX8_comesBack_220 ?_
              refine x_bipush E dX8_comesBack_223 (by decide) ?_
              refine x_iload_n E dX8_comesBack_225 (lv_at hl 1 rfl) ?_
              refine x_imul E dX8_comesBack_226 ?_
              refine x_iconst E dX8_comesBack_227 ?_
              refine x_iadd E dX8_comesBack_228 ?_
              refine x_iald E hI hG (ym23 hY) (U 23 ((8 * q) + 4)) rfl (by omega) dX8_comesBack_229 ?_
              refine x_puti E hI hG hS (ym0 hY) cf8 15 15 rfl rfl (by decide) rfl rfl kf_X8_124 dX8_comesBack_230 (fun H locs hG hS => ?_)
              rw [show (st (pk (st (st (st (st Z b 11 (U 23 (8 * q))) b 12 (U 23 ((8 * q) + 1))) b 13 (U 23 ((8 * q) + 2))) b 14 (U 23 ((8 * q) + 3))) b U f g) 0 15 (U 23 ((8 * q) + 4))) = (pk (st (st (st (st (st Z b 11 (U 23 (8 * q))) b 12 (U 23 ((8 * q) + 1))) b 13 (U 23 ((8 * q) + 2))) b 14 (U 23 ((8 * q) + 3))) b 15 (U 23 ((8 * q) + 4))) b U f g) from pk_n (by decide) _ _] at hG
              refine x_aload_n E dX8_comesBack_233 (lv_at hl 0 rfl) ?_
              refine x_aload_n E dX8_comesBack_234 (lv_at hl 0 rfl) ?_
              refine x_getr E hI hG (ym0 hY) cf8 44 23 rfl (by decide) kf_X8_87 dX8_comesBack_235 ?_
              refine x_bipush E dX8_comesBack_238 (by decide) ?_
              refine x_iload_n E dX8_comesBack_240 (lv_at hl 1 rfl) ?_
              refine x_imul E dX8_comesBack_241 ?_
              refine x_iconst E dX8_comesBack_242 ?_
              refine x_iadd E dX8_comesBack_243 ?_
              refine x_iald E hI hG (ym23 hY) (U 23 ((8 * q) + 5)) rfl (by omega) dX8_comesBack_244 ?_
              refine x_puti E hI hG hS (ym0 hY) cf8 19 19 rfl rfl (by decide) rfl rfl kf_X8_127 dX8_comesBack_245 (fun H locs hG hS => ?_)
              rw [show (st (pk (st (st (st (st (st Z b 11 (U 23 (8 * q))) b 12 (U 23 ((8 * q) + 1))) b 13 (U 23 ((8 * q) + 2))) b 14 (U 23 ((8 * q) + 3))) b 15 (U 23 ((8 * q) + 4))) b U f g) 0 19 (U 23 ((8 * q) + 5))) = (pk (st (st (st (st (st (st Z b 11 (U 23 (8 * q))) b 12 (U 23 ((8 * q) + 1))) b 13 (U 23 ((8 * q) + 2))) b 14 (U 23 ((8 * q) + 3))) b 15 (U 23 ((8 * q) + 4))) (b + 11) 3 (U 23 ((8 * q) + 5))) b U f g) from pk_w3 _] at hG
              refine x_aload_n E dX8_comesBack_248 (lv_at hl 0 rfl) ?_
              refine x_aload_n E dX8_comesBack_249 (lv_at hl 0 rfl) ?_
              refine x_getr E hI hG (ym0 hY) cf8 44 23 rfl (by decide) kf_X8_87 dX8_comesBack_250 ?_
              refine x_bipush E dX8_comesBack_253 (by decide) ?_
              refine x_iload_n E dX8_comesBack_255 (lv_at hl 1 rfl) ?_
              refine x_imul E dX8_comesBack_256 ?_
              refine x_bipush E dX8_comesBack_257 (by decide) ?_
              refine x_iadd E dX8_comesBack_259 ?_
              refine x_iald E hI hG (ym23 hY) (U 23 ((8 * q) + 6)) rfl (by omega) dX8_comesBack_260 ?_
              refine x_puti E hI hG hS (ym0 hY) cf8 20 20 rfl rfl (by decide) rfl rfl kf_X8_130 dX8_comesBack_261 (fun H locs hG hS => ?_)
              rw [show (st (pk (st (st (st (st (st (st Z b 11 (U 23 (8 * q))) b 12 (U 23 ((8 * q) + 1))) b 13 (U 23 ((8 * q) + 2))) b 14 (U 23 ((8 * q) + 3))) b 15 (U 23 ((8 * q) + 4))) (b + 11) 3 (U 23 ((8 * q) + 5))) b U f g) 0 20 (U 23 ((8 * q) + 6))) = (pk (st (st (st (st (st (st (st Z b 11 (U 23 (8 * q))) b 12 (U 23 ((8 * q) + 1))) b 13 (U 23 ((8 * q) + 2))) b 14 (U 23 ((8 * q) + 3))) b 15 (U 23 ((8 * q) + 4))) (b + 11) 3 (U 23 ((8 * q) + 5))) (b + 11) 4 (U 23 ((8 * q) + 6))) b U f g) from pk_w4 _] at hG
              refine x_aload_n E dX8_comesBack_264 (lv_at hl 0 rfl) ?_
              refine x_aload_n E dX8_comesBack_265 (lv_at hl 0 rfl) ?_
              refine x_getr E hI hG (ym0 hY) cf8 44 23 rfl (by decide) kf_X8_87 dX8_comesBack_266 ?_
              refine x_bipush E dX8_comesBack_269 (by decide) ?_
              refine x_iload_n E dX8_comesBack_271 (lv_at hl 1 rfl) ?_
              refine x_imul E dX8_comesBack_272 ?_
              refine x_bipush E dX8_comesBack_273 (by decide) ?_
              refine x_iadd E dX8_comesBack_275 ?_
              refine x_iald E hI hG (ym23 hY) (U 23 ((8 * q) + 7)) rfl (by omega) dX8_comesBack_276 ?_
              refine x_puti E hI hG hS (ym0 hY) cf8 16 16 rfl rfl (by decide) rfl rfl kf_X8_133 dX8_comesBack_277 (fun H locs hG hS => ?_)
              rw [show (st (pk (st (st (st (st (st (st (st Z b 11 (U 23 (8 * q))) b 12 (U 23 ((8 * q) + 1))) b 13 (U 23 ((8 * q) + 2))) b 14 (U 23 ((8 * q) + 3))) b 15 (U 23 ((8 * q) + 4))) (b + 11) 3 (U 23 ((8 * q) + 5))) (b + 11) 4 (U 23 ((8 * q) + 6))) b U f g) 0 16 (U 23 ((8 * q) + 7))) = (pk (st (st (st (st (st (st (st (st Z b 11 (U 23 (8 * q))) b 12 (U 23 ((8 * q) + 1))) b 13 (U 23 ((8 * q) + 2))) b 14 (U 23 ((8 * q) + 3))) b 15 (U 23 ((8 * q) + 4))) (b + 11) 3 (U 23 ((8 * q) + 5))) (b + 11) 4 (U 23 ((8 * q) + 6))) (b + 11) 2 (U 23 ((8 * q) + 7))) b U f g) from pk_w2 _] at hG
              refine x_iconst E dX8_comesBack_280 ?_
              refine x_istore_n E [(2, .int (jI 0)), (0, .ref (wa X 0)), (1, .int (jI q))] dX8_comesBack_281 hl (by decide) rfl (fun ls hl => ?_)
              have L282_3 : ∀ (N : Nat) (i : Int) (T : Mem), (0 ≤ i) → (i ≤ 20) → (∀ p, p ≠ 9 → p ≠ 10 → T p = U p) → (∀ k : Int, 0 ≤ k → k < i → T 9 k = U 24 (40 * q + k) ∧ T 10 k = U 24 (40 * q + 20 + k)) → ((20 - i).toNat) < N → ∀ (H : Heap) (locs : List Loc) (ls : Array Slot), GW X (pk (st (st (st (st (st (st (st (st Z b 11 (U 23 (8 * q))) b 12 (U 23 ((8 * q) + 1))) b 13 (U 23 ((8 * q) + 2))) b 14 (U 23 ((8 * q) + 3))) b 15 (U 23 ((8 * q) + 4))) (b + 11) 3 (U 23 ((8 * q) + 5))) (b + 11) 4 (U 23 ((8 * q) + 6))) (b + 11) 2 (U 23 ((8 * q) + 7))) b T f g) H → va_S (wA X) s0.heap H locs → lv_has ls 4 [(0, .ref (wa X 0)), (1, .int (jI q)), (2, .int (jI i))] → W pg l ev Rm s0 mi ag bl mt cd H locs 0 0 Qq (F0 mi 282 ls []) := by
                intro N
                induction N with
                | zero => intro i T i0 i1 t1 t3 hN; exact absurd hN (Nat.not_lt_zero _)
                | succ N ih282 =>
                  intro i T i0 i1 t1 t3 hN H locs ls hG hS hl
                  refine x_iload_n E dX8_comesBack_282 (lv_at hl 2 rfl) ?_
                  refine x_bipush E dX8_comesBack_283 (by decide) ?_
                  refine x_icmp_ge E 331 dX8_comesBack_285 (by decide) (by unfold rg; omega) (by unfold rg; omega) (fun c285 => ?_) (fun c285 => ?_)
                  · have ei : i = 20 := by omega
                    subst ei
                    obtain ⟨k1, k2, k3, ⟨k4, k5, k6⟩, k7⟩ := hK
                    have hG := pk_ext hY (V1 := Vx) (a := a) hG (fun j c j0 j1 c0 c1 => by rw [st_p (by omega), st_p (by omega), st_p (by omega), st_p (by omega), st_p (by omega), st_p (by omega), st_p (by omega), st_p (by omega), g1 _ (by omega), h3 j c j0 j1 c0 c1]; exact (k1 j c j0 j1 c0 c1).symm) (fun k z0 z1 => by rw [st_p (by omega), st_p (by omega), st_p (by omega), st_p (by omega), st_p (by omega), st_p (by omega), st_p (by omega), st_p (by omega), g3 k z0 z1]; exact (k2 k z0 z1).symm) (fun k z0 z1 => by
                      have := k3 (k - 11) (by omega) (by omega)
                      rcases (show k = 11 ∨ k = 12 ∨ k = 13 ∨ k = 14 ∨ k = 15 by omega) with rfl | rfl | rfl | rfl | rfl
                      · rw [st_p (by omega), st_p (by omega), st_p (by omega), st_k (by decide), st_k (by decide), st_k (by decide), st_k (by decide), st_s]; rw [show 8 * q + (11 - 11 : Int) = 8 * q by omega] at this; exact this.symm
                      · rw [st_p (by omega), st_p (by omega), st_p (by omega), st_k (by decide), st_k (by decide), st_k (by decide), st_s]; exact this.symm
                      · rw [st_p (by omega), st_p (by omega), st_p (by omega), st_k (by decide), st_k (by decide), st_s]; exact this.symm
                      · rw [st_p (by omega), st_p (by omega), st_p (by omega), st_k (by decide), st_s]; exact this.symm
                      · rw [st_p (by omega), st_p (by omega), st_p (by omega), st_s]; exact this.symm) (by rw [st_s]; exact k6.symm) (by rw [st_k (by decide), st_k (by decide), st_s]; exact k4.symm) (by rw [st_k (by decide), st_s]; exact k5.symm)
                    exact r_v E hQ hG hS dX8_comesBack_331 (⟨T, rfl, t1, fun k z0 z1 => by rw [(t3 k z0 (by omega)).1, (t3 k z0 (by omega)).2]; exact k7 k z0 (by omega) z1⟩)
                  · refine x_aload_n E dX8_comesBack_288 (lv_at hl 0 rfl) ?_
                    refine x_getr E hI hG (ym0 hY) cf8 17 9 rfl (by decide) kf_X8_38 dX8_comesBack_289 ?_
                    refine x_iload_n E dX8_comesBack_292 (lv_at hl 2 rfl) ?_
                    refine x_aload_n E dX8_comesBack_293 (lv_at hl 0 rfl) ?_
                    refine x_getr E hI hG (ym0 hY) cf8 45 24 rfl (by decide) kf_X8_90 dX8_comesBack_294 ?_
                    refine x_bipush E dX8_comesBack_297 (by decide) ?_
                    refine x_iload_n E dX8_comesBack_299 (lv_at hl 1 rfl) ?_
                    refine x_imul E dX8_comesBack_300 ?_
                    refine x_iload_n E dX8_comesBack_301 (lv_at hl 2 rfl) ?_
                    refine x_iadd E dX8_comesBack_302 ?_
                    refine x_iald E hI hG (ym24 hY) (U 24 ((40 * q) + i)) (by show T 24 _ = _; rw [t1 24 (by decide) (by decide)]) (by omega) dX8_comesBack_303 ?_
                    refine x_iast E hI hG hS (ym9 hY) (by omega) dX8_comesBack_304 (fun H locs hG hS => ?_)
                    rw [show (st (pk (st (st (st (st (st (st (st (st Z b 11 (U 23 (8 * q))) b 12 (U 23 ((8 * q) + 1))) b 13 (U 23 ((8 * q) + 2))) b 14 (U 23 ((8 * q) + 3))) b 15 (U 23 ((8 * q) + 4))) (b + 11) 3 (U 23 ((8 * q) + 5))) (b + 11) 4 (U 23 ((8 * q) + 6))) (b + 11) 2 (U 23 ((8 * q) + 7))) b T f g) 9 i (U 24 ((40 * q) + i))) = (pk (st (st (st (st (st (st (st (st Z b 11 (U 23 (8 * q))) b 12 (U 23 ((8 * q) + 1))) b 13 (U 23 ((8 * q) + 2))) b 14 (U 23 ((8 * q) + 3))) b 15 (U 23 ((8 * q) + 4))) (b + 11) 3 (U 23 ((8 * q) + 5))) (b + 11) 4 (U 23 ((8 * q) + 6))) (b + 11) 2 (U 23 ((8 * q) + 7))) b (st T 9 i (U 24 ((40 * q) + i))) f g) from pk_a (by decide) _ _] at hG
                    refine x_aload_n E dX8_comesBack_305 (lv_at hl 0 rfl) ?_
                    refine x_getr E hI hG (ym0 hY) cf8 18 10 rfl (by decide) kf_X8_41 dX8_comesBack_306 ?_
                    refine x_iload_n E dX8_comesBack_309 (lv_at hl 2 rfl) ?_
                    refine x_aload_n E dX8_comesBack_310 (lv_at hl 0 rfl) ?_
                    refine x_getr E hI hG (ym0 hY) cf8 45 24 rfl (by decide) kf_X8_90 dX8_comesBack_311 ?_
                    refine x_bipush E dX8_comesBack_314 (by decide) ?_
                    refine x_iload_n E dX8_comesBack_316 (lv_at hl 1 rfl) ?_
                    refine x_imul E dX8_comesBack_317 ?_
                    refine x_bipush E dX8_comesBack_318 (by decide) ?_
                    refine x_iadd E dX8_comesBack_320 ?_
                    refine x_iload_n E dX8_comesBack_321 (lv_at hl 2 rfl) ?_
                    refine x_iadd E dX8_comesBack_322 ?_
                    refine x_iald E hI hG (ym24 hY) (U 24 (((40 * q) + 20) + i)) (by show st T 9 i (U 24 ((40 * q) + i)) 24 (((40 * q) + 20) + i) = _; rw [st_p (by decide), t1 24 (by decide) (by decide)]) (by omega) dX8_comesBack_323 ?_
                    refine x_iast E hI hG hS (ym10 hY) (by omega) dX8_comesBack_324 (fun H locs hG hS => ?_)
                    rw [show (st (pk (st (st (st (st (st (st (st (st Z b 11 (U 23 (8 * q))) b 12 (U 23 ((8 * q) + 1))) b 13 (U 23 ((8 * q) + 2))) b 14 (U 23 ((8 * q) + 3))) b 15 (U 23 ((8 * q) + 4))) (b + 11) 3 (U 23 ((8 * q) + 5))) (b + 11) 4 (U 23 ((8 * q) + 6))) (b + 11) 2 (U 23 ((8 * q) + 7))) b (st T 9 i (U 24 ((40 * q) + i))) f g) 10 i (U 24 (((40 * q) + 20) + i))) = (pk (st (st (st (st (st (st (st (st Z b 11 (U 23 (8 * q))) b 12 (U 23 ((8 * q) + 1))) b 13 (U 23 ((8 * q) + 2))) b 14 (U 23 ((8 * q) + 3))) b 15 (U 23 ((8 * q) + 4))) (b + 11) 3 (U 23 ((8 * q) + 5))) (b + 11) 4 (U 23 ((8 * q) + 6))) (b + 11) 2 (U 23 ((8 * q) + 7))) b (st (st T 9 i (U 24 ((40 * q) + i))) 10 i (U 24 (((40 * q) + 20) + i))) f g) from pk_a (by decide) _ _] at hG
                    refine x_iinc E (k := 2) [(2, .int (jI (i + 1))), (0, .ref (wa X 0)), (1, .int (jI q))] dX8_comesBack_325 hl rfl (by decide) rfl (fun ls hl => ?_)
                    refine x_goto E 282 dX8_comesBack_328 (by decide) ?_
                    exact ih282 (i + 1) (st (st T 9 i (U 24 ((40 * q) + i))) 10 i (U 24 (((40 * q) + 20) + i))) (by omega) (by omega) (fun p hp hp2 => by rw [st_p hp2, st_p hp]; exact t1 p hp hp2) (fun k k0 k1 => by
                            rcases (show k < i ∨ k = i by omega) with q1 | q1
                            · rw [st_p (by decide), st_k (by omega), st_k (by omega), st_p (by decide)]; exact t3 k k0 q1
                            · rw [q1, st_s, st_p (by decide), st_s]; exact ⟨rfl, rfl⟩) (by omega) _ _ _ hG hS (lv_sub hl [1, 2, 0] rfl)
              exact L282_3 _ 0 U (by omega) (by omega) (fun p _ _ => rfl) (fun k k0 k1 => by omega) (Nat.lt_succ_self _) _ _ _ hG hS (lv_sub hl [1, 2, 0] rfl)
            · refine x_aload_n E dX8_comesBack_138 (lv_at hl 0 rfl) ?_
              refine x_getr E hI hG (ym0 hY) cf8 10 8 rfl (by decide) kf_X8_31 dX8_comesBack_139 ?_
              refine x_iload_n E dX8_comesBack_142 (lv_at hl 2 rfl) ?_
              refine x_aload_n E dX8_comesBack_143 (lv_at hl 0 rfl) ?_
              refine x_getr E hI hG (ym0 hY) cf8 43 22 rfl (by decide) kf_X8_84 dX8_comesBack_144 ?_
              refine x_iconst E dX8_comesBack_147 ?_
              refine x_iload_n E dX8_comesBack_148 (lv_at hl 1 rfl) ?_
              refine x_imul E dX8_comesBack_149 ?_
              refine x_iload_n E dX8_comesBack_150 (lv_at hl 2 rfl) ?_
              refine x_iadd E dX8_comesBack_151 ?_
              refine x_iald E hI hG (ym22 hY) (U 22 ((5 * q) + i)) rfl (by omega) dX8_comesBack_152 ?_
              refine x_iast E hI hG hS (ym8 hY) (by omega) dX8_comesBack_153 (fun H locs hG hS => ?_)
              rw [show (st (pk Z b U f g) 8 i (U 22 ((5 * q) + i))) = (pk (st Z (b + 10) i (U 22 ((5 * q) + i))) b U f g) from pk_r _ _] at hG
              refine x_iinc E (k := 2) [(2, .int (jI (i + 1))), (0, .ref (wa X 0)), (1, .int (jI q))] dX8_comesBack_154 hl rfl (by decide) rfl (fun ls hl => ?_)
              refine x_goto E 133 dX8_comesBack_157 (by decide) ?_
              exact ih133 (i + 1) (st Z (b + 10) i (U 22 ((5 * q) + i))) (by omega) (by omega) (fun p hp => by rw [st_p hp]; exact g1 p hp) (fun k k0 k1 => by
                      rcases (show k < i ∨ k = i by omega) with q1 | q1
                      · rw [st_k (by omega)]; exact g3 k k0 q1
                      · rw [q1, st_s]) (by omega) _ _ _ hG hS (lv_sub hl [1, 2, 0] rfl)
        exact L133_2 _ 0 Y (by omega) (by omega) (fun p _ => rfl) (fun k k0 k1 => by omega) (Nat.lt_succ_self _) _ _ _ hG hS (lv_sub hl [1, 2, 0] rfl)
      · refine x_sipush E dX8_comesBack_9 (by decide) ?_
        refine x_iload_n E dX8_comesBack_12 (lv_at hl 1 rfl) ?_
        refine x_imul E dX8_comesBack_13 ?_
        refine x_iload_n E dX8_comesBack_14 (lv_at hl 2 rfl) ?_
        refine x_iadd E dX8_comesBack_15 ?_
        refine x_istore_n E [(3, .int (jI ((1120 * q) + i))), (0, .ref (wa X 0)), (1, .int (jI q)), (2, .int (jI i))] dX8_comesBack_16 hl (by decide) rfl (fun ls hl => ?_)
        refine x_aload_n E dX8_comesBack_17 (lv_at hl 1 rfl) ?_
        refine x_getr E hI hG (ym0 hY) cf8 3 1 rfl (by decide) kf_X8_7 dX8_comesBack_18 ?_
        refine x_iload_n E dX8_comesBack_21 (lv_at hl 3 rfl) ?_
        refine x_aload_n E dX8_comesBack_22 (lv_at hl 1 rfl) ?_
        refine x_getr E hI hG (ym0 hY) cf8 42 21 rfl (by decide) kf_X8_81 dX8_comesBack_23 ?_
        refine x_iload_n E dX8_comesBack_26 (lv_at hl 0 rfl) ?_
        refine x_iald E hI hG (ym21 hY) (U 21 ((1120 * q) + i)) rfl (by omega) dX8_comesBack_27 ?_
        refine x_iast E hI hG hS (ym1 hY) (by omega) dX8_comesBack_28 (fun H locs hG hS => ?_)
        rw [show (st (pk Y b U f g) 1 i (U 21 ((1120 * q) + i))) = (pk (st Y (b + 1) i (U 21 ((1120 * q) + i))) b U f g) from pk_h (by decide) _ _] at hG
        refine x_aload_n E dX8_comesBack_29 (lv_at hl 1 rfl) ?_
        refine x_getr E hI hG (ym0 hY) cf8 4 2 rfl (by decide) kf_X8_13 dX8_comesBack_30 ?_
        refine x_iload_n E dX8_comesBack_33 (lv_at hl 3 rfl) ?_
        refine x_aload_n E dX8_comesBack_34 (lv_at hl 1 rfl) ?_
        refine x_getr E hI hG (ym0 hY) cf8 42 21 rfl (by decide) kf_X8_81 dX8_comesBack_35 ?_
        refine x_iload_n E dX8_comesBack_38 (lv_at hl 0 rfl) ?_
        refine x_sipush E dX8_comesBack_39 (by decide) ?_
        refine x_iadd E dX8_comesBack_42 ?_
        refine x_iald E hI hG (ym21 hY) (U 21 (((1120 * q) + i) + 160)) rfl (by omega) dX8_comesBack_43 ?_
        refine x_iast E hI hG hS (ym2 hY) (by omega) dX8_comesBack_44 (fun H locs hG hS => ?_)
        rw [show (st (pk (st Y (b + 1) i (U 21 ((1120 * q) + i))) b U f g) 2 i (U 21 (((1120 * q) + i) + 160))) = (pk (st (st Y (b + 1) i (U 21 ((1120 * q) + i))) (b + 2) i (U 21 (((1120 * q) + i) + 160))) b U f g) from pk_h (by decide) _ _] at hG
        refine x_aload_n E dX8_comesBack_45 (lv_at hl 1 rfl) ?_
        refine x_getr E hI hG (ym0 hY) cf8 5 3 rfl (by decide) kf_X8_16 dX8_comesBack_46 ?_
        refine x_iload_n E dX8_comesBack_49 (lv_at hl 3 rfl) ?_
        refine x_aload_n E dX8_comesBack_50 (lv_at hl 1 rfl) ?_
        refine x_getr E hI hG (ym0 hY) cf8 42 21 rfl (by decide) kf_X8_81 dX8_comesBack_51 ?_
        refine x_iload_n E dX8_comesBack_54 (lv_at hl 0 rfl) ?_
        refine x_sipush E dX8_comesBack_55 (by decide) ?_
        refine x_iadd E dX8_comesBack_58 ?_
        refine x_iald E hI hG (ym21 hY) (U 21 (((1120 * q) + i) + 320)) rfl (by omega) dX8_comesBack_59 ?_
        refine x_iast E hI hG hS (ym3 hY) (by omega) dX8_comesBack_60 (fun H locs hG hS => ?_)
        rw [show (st (pk (st (st Y (b + 1) i (U 21 ((1120 * q) + i))) (b + 2) i (U 21 (((1120 * q) + i) + 160))) b U f g) 3 i (U 21 (((1120 * q) + i) + 320))) = (pk (st (st (st Y (b + 1) i (U 21 ((1120 * q) + i))) (b + 2) i (U 21 (((1120 * q) + i) + 160))) (b + 3) i (U 21 (((1120 * q) + i) + 320))) b U f g) from pk_h (by decide) _ _] at hG
        refine x_aload_n E dX8_comesBack_61 (lv_at hl 1 rfl) ?_
        refine x_getr E hI hG (ym0 hY) cf8 6 4 rfl (by decide) kf_X8_19 dX8_comesBack_62 ?_
        refine x_iload_n E dX8_comesBack_65 (lv_at hl 3 rfl) ?_
        refine x_aload_n E dX8_comesBack_66 (lv_at hl 1 rfl) ?_
        refine x_getr E hI hG (ym0 hY) cf8 42 21 rfl (by decide) kf_X8_81 dX8_comesBack_67 ?_
        refine x_iload_n E dX8_comesBack_70 (lv_at hl 0 rfl) ?_
        refine x_sipush E dX8_comesBack_71 (by decide) ?_
        refine x_iadd E dX8_comesBack_74 ?_
        refine x_iald E hI hG (ym21 hY) (U 21 (((1120 * q) + i) + 480)) rfl (by omega) dX8_comesBack_75 ?_
        refine x_iast E hI hG hS (ym4 hY) (by omega) dX8_comesBack_76 (fun H locs hG hS => ?_)
        rw [show (st (pk (st (st (st Y (b + 1) i (U 21 ((1120 * q) + i))) (b + 2) i (U 21 (((1120 * q) + i) + 160))) (b + 3) i (U 21 (((1120 * q) + i) + 320))) b U f g) 4 i (U 21 (((1120 * q) + i) + 480))) = (pk (st (st (st (st Y (b + 1) i (U 21 ((1120 * q) + i))) (b + 2) i (U 21 (((1120 * q) + i) + 160))) (b + 3) i (U 21 (((1120 * q) + i) + 320))) (b + 4) i (U 21 (((1120 * q) + i) + 480))) b U f g) from pk_h (by decide) _ _] at hG
        refine x_aload_n E dX8_comesBack_77 (lv_at hl 1 rfl) ?_
        refine x_getr E hI hG (ym0 hY) cf8 7 5 rfl (by decide) kf_X8_22 dX8_comesBack_78 ?_
        refine x_iload_n E dX8_comesBack_81 (lv_at hl 3 rfl) ?_
        refine x_aload_n E dX8_comesBack_82 (lv_at hl 1 rfl) ?_
        refine x_getr E hI hG (ym0 hY) cf8 42 21 rfl (by decide) kf_X8_81 dX8_comesBack_83 ?_
        refine x_iload_n E dX8_comesBack_86 (lv_at hl 0 rfl) ?_
        refine x_sipush E dX8_comesBack_87 (by decide) ?_
        refine x_iadd E dX8_comesBack_90 ?_
        refine x_iald E hI hG (ym21 hY) (U 21 (((1120 * q) + i) + 640)) rfl (by omega) dX8_comesBack_91 ?_
        refine x_iast E hI hG hS (ym5 hY) (by omega) dX8_comesBack_92 (fun H locs hG hS => ?_)
        rw [show (st (pk (st (st (st (st Y (b + 1) i (U 21 ((1120 * q) + i))) (b + 2) i (U 21 (((1120 * q) + i) + 160))) (b + 3) i (U 21 (((1120 * q) + i) + 320))) (b + 4) i (U 21 (((1120 * q) + i) + 480))) b U f g) 5 i (U 21 (((1120 * q) + i) + 640))) = (pk (st (st (st (st (st Y (b + 1) i (U 21 ((1120 * q) + i))) (b + 2) i (U 21 (((1120 * q) + i) + 160))) (b + 3) i (U 21 (((1120 * q) + i) + 320))) (b + 4) i (U 21 (((1120 * q) + i) + 480))) (b + 5) i (U 21 (((1120 * q) + i) + 640))) b U f g) from pk_h (by decide) _ _] at hG
        refine x_aload_n E dX8_comesBack_93 (lv_at hl 1 rfl) ?_
        refine x_getr E hI hG (ym0 hY) cf8 8 6 rfl (by decide) kf_X8_25 dX8_comesBack_94 ?_
        refine x_iload_n E dX8_comesBack_97 (lv_at hl 3 rfl) ?_
        refine x_aload_n E dX8_comesBack_98 (lv_at hl 1 rfl) ?_
        refine x_getr E hI hG (ym0 hY) cf8 42 21 rfl (by decide) kf_X8_81 dX8_comesBack_99 ?_
        refine x_iload_n E dX8_comesBack_102 (lv_at hl 0 rfl) ?_
        refine x_sipush E dX8_comesBack_103 (by decide) ?_
        refine x_iadd E dX8_comesBack_106 ?_
        refine x_iald E hI hG (ym21 hY) (U 21 (((1120 * q) + i) + 800)) rfl (by omega) dX8_comesBack_107 ?_
        refine x_iast E hI hG hS (ym6 hY) (by omega) dX8_comesBack_108 (fun H locs hG hS => ?_)
        rw [show (st (pk (st (st (st (st (st Y (b + 1) i (U 21 ((1120 * q) + i))) (b + 2) i (U 21 (((1120 * q) + i) + 160))) (b + 3) i (U 21 (((1120 * q) + i) + 320))) (b + 4) i (U 21 (((1120 * q) + i) + 480))) (b + 5) i (U 21 (((1120 * q) + i) + 640))) b U f g) 6 i (U 21 (((1120 * q) + i) + 800))) = (pk (st (st (st (st (st (st Y (b + 1) i (U 21 ((1120 * q) + i))) (b + 2) i (U 21 (((1120 * q) + i) + 160))) (b + 3) i (U 21 (((1120 * q) + i) + 320))) (b + 4) i (U 21 (((1120 * q) + i) + 480))) (b + 5) i (U 21 (((1120 * q) + i) + 640))) (b + 6) i (U 21 (((1120 * q) + i) + 800))) b U f g) from pk_h (by decide) _ _] at hG
        refine x_aload_n E dX8_comesBack_109 (lv_at hl 1 rfl) ?_
        refine x_getr E hI hG (ym0 hY) cf8 9 7 rfl (by decide) kf_X8_28 dX8_comesBack_110 ?_
        refine x_iload_n E dX8_comesBack_113 (lv_at hl 3 rfl) ?_
        refine x_aload_n E dX8_comesBack_114 (lv_at hl 1 rfl) ?_
        refine x_getr E hI hG (ym0 hY) cf8 42 21 rfl (by decide) kf_X8_81 dX8_comesBack_115 ?_
        refine x_iload_n E dX8_comesBack_118 (lv_at hl 0 rfl) ?_
        refine x_sipush E dX8_comesBack_119 (by decide) ?_
        refine x_iadd E dX8_comesBack_122 ?_
        refine x_iald E hI hG (ym21 hY) (U 21 (((1120 * q) + i) + 960)) rfl (by omega) dX8_comesBack_123 ?_
        refine x_iast E hI hG hS (ym7 hY) (by omega) dX8_comesBack_124 (fun H locs hG hS => ?_)
        rw [show (st (pk (st (st (st (st (st (st Y (b + 1) i (U 21 ((1120 * q) + i))) (b + 2) i (U 21 (((1120 * q) + i) + 160))) (b + 3) i (U 21 (((1120 * q) + i) + 320))) (b + 4) i (U 21 (((1120 * q) + i) + 480))) (b + 5) i (U 21 (((1120 * q) + i) + 640))) (b + 6) i (U 21 (((1120 * q) + i) + 800))) b U f g) 7 i (U 21 (((1120 * q) + i) + 960))) = (pk (st (st (st (st (st (st (st Y (b + 1) i (U 21 ((1120 * q) + i))) (b + 2) i (U 21 (((1120 * q) + i) + 160))) (b + 3) i (U 21 (((1120 * q) + i) + 320))) (b + 4) i (U 21 (((1120 * q) + i) + 480))) (b + 5) i (U 21 (((1120 * q) + i) + 640))) (b + 6) i (U 21 (((1120 * q) + i) + 800))) (b + 7) i (U 21 (((1120 * q) + i) + 960))) b U f g) from pk_h (by decide) _ _] at hG
        refine x_iinc E (k := 3) [(2, .int (jI (i + 1))), (3, .int (jI ((1120 * q) + i))), (0, .ref (wa X 0)), (1, .int (jI q))] dX8_comesBack_125 hl rfl (by decide) rfl (fun ls hl => ?_)
        refine x_goto E 2 dX8_comesBack_128 (by decide) ?_
        exact ih2 (i + 1) (st (st (st (st (st (st (st Y (b + 1) i (U 21 ((1120 * q) + i))) (b + 2) i (U 21 (((1120 * q) + i) + 160))) (b + 3) i (U 21 (((1120 * q) + i) + 320))) (b + 4) i (U 21 (((1120 * q) + i) + 480))) (b + 5) i (U 21 (((1120 * q) + i) + 640))) (b + 6) i (U 21 (((1120 * q) + i) + 800))) (b + 7) i (U 21 (((1120 * q) + i) + 960))) (by omega) (by omega) (fun j c j0 j1 c0 c1 => by
                                                rcases (show c < i ∨ c = i by omega) with q1 | q1
                                                · rw [← h3 j c j0 j1 c0 q1]
                                                  rcases (show j = 1 ∨ j = 2 ∨ j = 3 ∨ j = 4 ∨ j = 5 ∨ j = 6 ∨ j = 7 by omega) with rfl | rfl | rfl | rfl | rfl | rfl | rfl
                                                  · rw [st_p (by omega), st_p (by omega), st_p (by omega), st_p (by omega), st_p (by omega), st_p (by omega), st_k (by omega)]
                                                  · rw [st_p (by omega), st_p (by omega), st_p (by omega), st_p (by omega), st_p (by omega), st_k (by omega), st_p (by omega)]
                                                  · rw [st_p (by omega), st_p (by omega), st_p (by omega), st_p (by omega), st_k (by omega), st_p (by omega), st_p (by omega)]
                                                  · rw [st_p (by omega), st_p (by omega), st_p (by omega), st_k (by omega), st_p (by omega), st_p (by omega), st_p (by omega)]
                                                  · rw [st_p (by omega), st_p (by omega), st_k (by omega), st_p (by omega), st_p (by omega), st_p (by omega), st_p (by omega)]
                                                  · rw [st_p (by omega), st_k (by omega), st_p (by omega), st_p (by omega), st_p (by omega), st_p (by omega), st_p (by omega)]
                                                  · rw [st_k (by omega), st_p (by omega), st_p (by omega), st_p (by omega), st_p (by omega), st_p (by omega), st_p (by omega)]
                                                · subst q1
                                                  rcases (show j = 1 ∨ j = 2 ∨ j = 3 ∨ j = 4 ∨ j = 5 ∨ j = 6 ∨ j = 7 by omega) with rfl | rfl | rfl | rfl | rfl | rfl | rfl
                                                  · rw [show 1120 * q + 160 * (((1 : Nat) : Int) - 1) + c = (1120 * q) + c by omega, st_p (by omega), st_p (by omega), st_p (by omega), st_p (by omega), st_p (by omega), st_p (by omega), st_s]
                                                  · rw [show 1120 * q + 160 * (((2 : Nat) : Int) - 1) + c = ((1120 * q) + c) + 160 by omega, st_p (by omega), st_p (by omega), st_p (by omega), st_p (by omega), st_p (by omega), st_s]
                                                  · rw [show 1120 * q + 160 * (((3 : Nat) : Int) - 1) + c = ((1120 * q) + c) + 320 by omega, st_p (by omega), st_p (by omega), st_p (by omega), st_p (by omega), st_s]
                                                  · rw [show 1120 * q + 160 * (((4 : Nat) : Int) - 1) + c = ((1120 * q) + c) + 480 by omega, st_p (by omega), st_p (by omega), st_p (by omega), st_s]
                                                  · rw [show 1120 * q + 160 * (((5 : Nat) : Int) - 1) + c = ((1120 * q) + c) + 640 by omega, st_p (by omega), st_p (by omega), st_s]
                                                  · rw [show 1120 * q + 160 * (((6 : Nat) : Int) - 1) + c = ((1120 * q) + c) + 800 by omega, st_p (by omega), st_s]
                                                  · rw [show 1120 * q + 160 * (((7 : Nat) : Int) - 1) + c = ((1120 * q) + c) + 960 by omega, st_s]) (by omega) _ _ _ hG hS (lv_sub hl [2, 3, 0] rfl)
  exact L2_1 _ 0 V (by omega) (by omega) (fun j c _ _ c0 c1 => by omega) (Nat.lt_succ_self _) _ _ _ hG hS (lv_sub hl [1, 2, 0] rfl)
