theorem DB.at {f : Int → Int} {B : Int → Bool} (h : DB f B) {i : Int} (h0 : 0 ≤ i) (h1 : i < 3) : ∃ N : Nat, N < 2 ^ 64 ∧ f i = (N : Int) ∧ ∀ j : Nat, j < 64 → N.testBit j = B (64 * i + (j : Int)) := by
  obtain ⟨a, rfl⟩ := Int.eq_ofNat_of_zero_le h0
  obtain ⟨N, q1, q2, q3⟩ := h a (by omega)
  refine ⟨N, q1, q2, fun j hj => ?_⟩
  rw [q3 j hj]; congr 1
theorem q_cmp0 {N : Nat} (h : N < 2 ^ 64) : (lg_cmp (lI (N : Int)) (lN 0)).toInt = 0 ↔ N = 0 := by
  have e : (lg_cmp (lI (N : Int)) (lN 0)).toInt = 0 ↔ lI (N : Int) = lN 0 := by
    unfold lg_cmp
    split
    · rename_i q
      constructor
      · intro z; exact absurd z (by decide)
      · intro z; rw [z] at q; exact absurd q (by decide)
    · split
      · rename_i q; exact ⟨fun _ => q, fun _ => by decide⟩
      · rename_i q
        constructor
        · intro z; exact absurd z (by decide)
        · intro z; exact absurd z q
  rw [e, ← l_nat]
  exact q_0L h
def bc1 (x : Int64) : Int64 := x - ((x.toUInt64 >>> ((jI 1).toInt64.toUInt64 &&& Int64.toUInt64 63)).toInt64 &&& (6148914691236517205))
def bc2 (x : Int64) : Int64 := (x &&& (3689348814741910323)) + ((x.toUInt64 >>> ((jI 2).toInt64.toUInt64 &&& Int64.toUInt64 63)).toInt64 &&& (3689348814741910323))
def bc3 (x : Int64) : Int64 := (x + (x.toUInt64 >>> ((jI 4).toInt64.toUInt64 &&& Int64.toUInt64 63)).toInt64) &&& (1085102592571150095)
def bc4 (y : Int) (x : Int64) : Int64 := x + (x.toUInt64 >>> ((jI y).toInt64.toUInt64 &&& Int64.toUInt64 63)).toInt64
theorem q_bc : ∀ k : Nat, k < 64 → ((bc4 32 (bc4 16 (bc4 8 (bc3 (bc2 (bc1 (lN (2 ^ k - 1)))))))).toInt32 &&& (jI 127)) = jI (k : Int) := by decide +kernel

set_option maxHeartbeats 4000000 in
set_option maxRecDepth 100000 in
theorem c_bitCount (l : Launch) {X : We} (V : Mem) (k : Nat) (hk : k < 64) : Mt l X V yJ13_bitCount_95d88 cJ13_bitCount_95d88 2 (some .int) 0 0 [.long (lN (2 ^ k - 1))] (Qi X (fun z V1 => z = (k : Int) ∧ V1 = V)) := by
  refine Mt.go (by decide) (Nat.le_of_ble_eq_true rfl) ?_
  intro pg ev s0 mi bl mt cd ls Rm ag Qq hR hQ E hI hG hS hl
  have hl : lv_has ls 2 [(0, .long (lN (2 ^ k - 1)))] := hl
  refine x_lload_n E dJ13_bitCount_95d88_0 (lv_at hl 0 rfl) ?_
  refine x_lload_n E dJ13_bitCount_95d88_1 (lv_at hl 0 rfl) ?_
  refine x_iconst E dJ13_bitCount_95d88_2 ?_
  refine lv_lushr E.1 E.2.1 dJ13_bitCount_95d88_3 rfl ?_
  refine lv_ldc2 E.1 E.2.1 E.2.2.2.1 (E.2.2.2.2.1 _ kk_J13_314) dJ13_bitCount_95d88_4 ?_
  refine lv_land E.1 E.2.1 dJ13_bitCount_95d88_7 ?_
  refine lv_lsub E.1 E.2.1 dJ13_bitCount_95d88_8 ?_
  refine x_rawL ((bc1 (lN (2 ^ k - 1)))) (rfl) ?_
  refine x_lstore_n E [(0, .long (bc1 (lN (2 ^ k - 1))))] dJ13_bitCount_95d88_9 hl (by decide) rfl (fun ls hl => ?_)
  refine x_lload_n E dJ13_bitCount_95d88_10 (lv_at hl 0 rfl) ?_
  refine lv_ldc2 E.1 E.2.1 E.2.2.2.1 (E.2.2.2.2.1 _ kk_J13_316) dJ13_bitCount_95d88_11 ?_
  refine lv_land E.1 E.2.1 dJ13_bitCount_95d88_14 ?_
  refine x_lload_n E dJ13_bitCount_95d88_15 (lv_at hl 0 rfl) ?_
  refine x_iconst E dJ13_bitCount_95d88_16 ?_
  refine lv_lushr E.1 E.2.1 dJ13_bitCount_95d88_17 rfl ?_
  refine lv_ldc2 E.1 E.2.1 E.2.2.2.1 (E.2.2.2.2.1 _ kk_J13_316) dJ13_bitCount_95d88_18 ?_
  refine lv_land E.1 E.2.1 dJ13_bitCount_95d88_21 ?_
  refine lv_ladd E.1 E.2.1 dJ13_bitCount_95d88_22 ?_
  refine x_rawL ((bc2 (bc1 (lN (2 ^ k - 1))))) (rfl) ?_
  refine x_lstore_n E [(0, .long (bc2 (bc1 (lN (2 ^ k - 1)))))] dJ13_bitCount_95d88_23 hl (by decide) rfl (fun ls hl => ?_)
  refine x_lload_n E dJ13_bitCount_95d88_24 (lv_at hl 0 rfl) ?_
  refine x_lload_n E dJ13_bitCount_95d88_25 (lv_at hl 0 rfl) ?_
  refine x_iconst E dJ13_bitCount_95d88_26 ?_
  refine lv_lushr E.1 E.2.1 dJ13_bitCount_95d88_27 rfl ?_
  refine lv_ladd E.1 E.2.1 dJ13_bitCount_95d88_28 ?_
  refine lv_ldc2 E.1 E.2.1 E.2.2.2.1 (E.2.2.2.2.1 _ kk_J13_318) dJ13_bitCount_95d88_29 ?_
  refine lv_land E.1 E.2.1 dJ13_bitCount_95d88_32 ?_
  refine x_rawL ((bc3 (bc2 (bc1 (lN (2 ^ k - 1)))))) (rfl) ?_
  refine x_lstore_n E [(0, .long (bc3 (bc2 (bc1 (lN (2 ^ k - 1))))))] dJ13_bitCount_95d88_33 hl (by decide) rfl (fun ls hl => ?_)
  refine x_lload_n E dJ13_bitCount_95d88_34 (lv_at hl 0 rfl) ?_
  refine x_lload_n E dJ13_bitCount_95d88_35 (lv_at hl 0 rfl) ?_
  refine x_bipush E dJ13_bitCount_95d88_36 (by decide) ?_
  refine lv_lushr E.1 E.2.1 dJ13_bitCount_95d88_38 rfl ?_
  refine lv_ladd E.1 E.2.1 dJ13_bitCount_95d88_39 ?_
  refine x_rawL ((bc4 8 (bc3 (bc2 (bc1 (lN (2 ^ k - 1))))))) (rfl) ?_
  refine x_lstore_n E [(0, .long (bc4 8 (bc3 (bc2 (bc1 (lN (2 ^ k - 1)))))))] dJ13_bitCount_95d88_40 hl (by decide) rfl (fun ls hl => ?_)
  refine x_lload_n E dJ13_bitCount_95d88_41 (lv_at hl 0 rfl) ?_
  refine x_lload_n E dJ13_bitCount_95d88_42 (lv_at hl 0 rfl) ?_
  refine x_bipush E dJ13_bitCount_95d88_43 (by decide) ?_
  refine lv_lushr E.1 E.2.1 dJ13_bitCount_95d88_45 rfl ?_
  refine lv_ladd E.1 E.2.1 dJ13_bitCount_95d88_46 ?_
  refine x_rawL ((bc4 16 (bc4 8 (bc3 (bc2 (bc1 (lN (2 ^ k - 1)))))))) (rfl) ?_
  refine x_lstore_n E [(0, .long (bc4 16 (bc4 8 (bc3 (bc2 (bc1 (lN (2 ^ k - 1))))))))] dJ13_bitCount_95d88_47 hl (by decide) rfl (fun ls hl => ?_)
  refine x_lload_n E dJ13_bitCount_95d88_48 (lv_at hl 0 rfl) ?_
  refine x_lload_n E dJ13_bitCount_95d88_49 (lv_at hl 0 rfl) ?_
  refine x_bipush E dJ13_bitCount_95d88_50 (by decide) ?_
  refine lv_lushr E.1 E.2.1 dJ13_bitCount_95d88_52 rfl ?_
  refine lv_ladd E.1 E.2.1 dJ13_bitCount_95d88_53 ?_
  refine x_rawL ((bc4 32 (bc4 16 (bc4 8 (bc3 (bc2 (bc1 (lN (2 ^ k - 1))))))))) (rfl) ?_
  refine x_lstore_n E [(0, .long (bc4 32 (bc4 16 (bc4 8 (bc3 (bc2 (bc1 (lN (2 ^ k - 1)))))))))] dJ13_bitCount_95d88_54 hl (by decide) rfl (fun ls hl => ?_)
  refine x_lload_n E dJ13_bitCount_95d88_55 (lv_at hl 0 rfl) ?_
  refine lv_l2i E.1 E.2.1 dJ13_bitCount_95d88_56 rfl ?_
  refine x_bipush E dJ13_bitCount_95d88_57 (by decide) ?_
  refine lv_iand E.1 E.2.1 dJ13_bitCount_95d88_59 ?_
  refine x_rawi ((k : Int)) (q_bc k hk) ?_
  exact r_i E hQ hG hS dJ13_bitCount_95d88_60 (⟨rfl, rfl⟩)

set_option maxHeartbeats 4000000 in
set_option maxRecDepth 100000 in
theorem c_X0_add (l : Launch) {X : We} {n b : Nat} (hX : isX X n) (hb : isD b) (V : Mem) {B : Int → Bool} (hB : DB (V (b + 9)) B) (c : Int) (hc : 0 ≤ c ∧ c < 192) : Mt l X V yX0_add cX0_add 3 none 0 0 [.ref (wa X (b + 8)), .int (jI c)] (Qv X (fun V1 => ∃ f, V1 = sp V (b + 9) f ∧ DB f (bset B c true))) := by
  refine Mt.go (by decide) (Nat.le_of_ble_eq_true rfl) ?_
  intro pg ev s0 mi bl mt cd ls Rm ag Qq hR hQ E hI hG hS hl
  have hl : lv_has ls 3 [(0, .ref (wa X (b + 8))), (1, .int (jI c))] := hl
  obtain ⟨i, j, hi, hj, hc2⟩ : ∃ i j : Nat, i < 3 ∧ j < 64 ∧ c = 64 * (i : Int) + (j : Int) := ⟨(c / 64).toNat, (c % 64).toNat, by omega, by omega, by omega⟩
  obtain ⟨N, hN, hf, hbt⟩ := hB i hi
  have hc3 : c = ((64 * i + j : Nat) : Int) := by omega
  refine x_iload_n E dX0_add_0 (lv_at hl 1 rfl) ?_
  refine x_bipush E dX0_add_1 (by decide) ?_
  refine lv_ishr E.1 E.2.1 dX0_add_3 ?_
  refine x_rawi ((i : Int)) ((q_shrI (by omega) (by omega) 6 (by decide)).trans (congrArg jI (by omega))) ?_
  refine x_istore_n E [(2, .int (jI (i : Int))), (0, .ref (wa X (b + 8))), (1, .int (jI c))] dX0_add_4 hl (by decide) rfl (fun ls hl => ?_)
  refine x_iload_n E dX0_add_5 (lv_at hl 0 rfl) ?_
  refine x_if_lt E 33 dX0_add_6 (by decide) (by unfold rg; omega) (fun c6 => ?_) (fun c6 => ?_)
  · omega
  · refine x_iload_n E dX0_add_9 (lv_at hl 0 rfl) ?_
    refine x_aload_n E dX0_add_10 (lv_at hl 1 rfl) ?_
    refine x_getr E hI hG (xd8 hX hb) cf0 0 (b + 9) rfl (by decide) kf_X0_9 dX0_add_11 ?_
    refine x_alenL E hI hG (xd9 hX hb) dX0_add_14 ?_
    refine x_icmp_ge E 33 dX0_add_15 (by decide) (by unfold rg; omega) (by unfold rg; omega) (fun c15 => ?_) (fun c15 => ?_)
    · omega
    · refine x_aload_n E dX0_add_18 (lv_at hl 1 rfl) ?_
      refine x_getr E hI hG (xd8 hX hb) cf0 0 (b + 9) rfl (by decide) kf_X0_9 dX0_add_19 ?_
      refine x_iload_n E dX0_add_22 (lv_at hl 0 rfl) ?_
      refine x_dup2 E dX0_add_23 rfl rfl ?_
      refine x_lald E hI hG (xd9 hX hb) ((N : Int)) hf (by omega) dX0_add_24 ?_
      refine lv_lconst (v := lN 1) E.1 E.2.1 dX0_add_25 rfl ?_
      refine x_iload_n E dX0_add_26 (lv_at hl 2 rfl) ?_
      refine x_bipush E dX0_add_27 (by decide) ?_
      refine lv_iand E.1 E.2.1 dX0_add_29 ?_
      refine x_rawi ((j : Int)) ((q_andI (by omega) (by omega) 6 (by decide)).trans (congrArg jI (by omega))) ?_
      refine lv_lshl E.1 E.2.1 dX0_add_30 rfl ?_
      refine x_rawL (lN (2 ^ j)) (by rw [← j_nat, q_shlL 1 hj, Nat.one_mul]) ?_
      refine lv_lor E.1 E.2.1 dX0_add_31 ?_
      refine x_rawl (((N ||| 2 ^ j : Nat) : Int)) (by rw [← l_nat, q_orL, l_nat]) ?_
      refine x_last E hI hG hS (xd9 hX hb) (by omega) dX0_add_32 (fun H locs hG hS => ?_)
      exact r_v E hQ hG hS dX0_add_33 (⟨_, st_sp _ _ _ _, by rw [hc3]; exact DB.ins hB hi hj hN hf hbt⟩)

set_option maxHeartbeats 4000000 in
set_option maxRecDepth 100000 in
theorem c_X0_remove (l : Launch) {X : We} {n b : Nat} (hX : isX X n) (hb : isD b) (V : Mem) {B : Int → Bool} (hB : DB (V (b + 9)) B) (c : Int) (hc : 0 ≤ c ∧ c < 192) : Mt l X V yX0_remove cX0_remove 3 none 0 0 [.ref (wa X (b + 8)), .int (jI c)] (Qv X (fun V1 => ∃ f, V1 = sp V (b + 9) f ∧ DB f (bset B c false))) := by
  refine Mt.go (by decide) (Nat.le_of_ble_eq_true rfl) ?_
  intro pg ev s0 mi bl mt cd ls Rm ag Qq hR hQ E hI hG hS hl
  have hl : lv_has ls 3 [(0, .ref (wa X (b + 8))), (1, .int (jI c))] := hl
  obtain ⟨i, j, hi, hj, hc2⟩ : ∃ i j : Nat, i < 3 ∧ j < 64 ∧ c = 64 * (i : Int) + (j : Int) := ⟨(c / 64).toNat, (c % 64).toNat, by omega, by omega, by omega⟩
  obtain ⟨N, hN, hf, hbt⟩ := hB i hi
  have hc3 : c = ((64 * i + j : Nat) : Int) := by omega
  refine x_iload_n E dX0_remove_0 (lv_at hl 1 rfl) ?_
  refine x_bipush E dX0_remove_1 (by decide) ?_
  refine lv_ishr E.1 E.2.1 dX0_remove_3 ?_
  refine x_rawi ((i : Int)) ((q_shrI (by omega) (by omega) 6 (by decide)).trans (congrArg jI (by omega))) ?_
  refine x_istore_n E [(2, .int (jI (i : Int))), (0, .ref (wa X (b + 8))), (1, .int (jI c))] dX0_remove_4 hl (by decide) rfl (fun ls hl => ?_)
  refine x_iload_n E dX0_remove_5 (lv_at hl 0 rfl) ?_
  refine x_if_lt E 37 dX0_remove_6 (by decide) (by unfold rg; omega) (fun c6 => ?_) (fun c6 => ?_)
  · omega
  · refine x_iload_n E dX0_remove_9 (lv_at hl 0 rfl) ?_
    refine x_aload_n E dX0_remove_10 (lv_at hl 1 rfl) ?_
    refine x_getr E hI hG (xd8 hX hb) cf0 0 (b + 9) rfl (by decide) kf_X0_9 dX0_remove_11 ?_
    refine x_alenL E hI hG (xd9 hX hb) dX0_remove_14 ?_
    refine x_icmp_ge E 37 dX0_remove_15 (by decide) (by unfold rg; omega) (by unfold rg; omega) (fun c15 => ?_) (fun c15 => ?_)
    · omega
    · refine x_aload_n E dX0_remove_18 (lv_at hl 1 rfl) ?_
      refine x_getr E hI hG (xd8 hX hb) cf0 0 (b + 9) rfl (by decide) kf_X0_9 dX0_remove_19 ?_
      refine x_iload_n E dX0_remove_22 (lv_at hl 0 rfl) ?_
      refine x_dup2 E dX0_remove_23 rfl rfl ?_
      refine x_lald E hI hG (xd9 hX hb) ((N : Int)) hf (by omega) dX0_remove_24 ?_
      refine lv_lconst (v := lN 1) E.1 E.2.1 dX0_remove_25 rfl ?_
      refine x_iload_n E dX0_remove_26 (lv_at hl 2 rfl) ?_
      refine x_bipush E dX0_remove_27 (by decide) ?_
      refine lv_iand E.1 E.2.1 dX0_remove_29 ?_
      refine x_rawi ((j : Int)) ((q_andI (by omega) (by omega) 6 (by decide)).trans (congrArg jI (by omega))) ?_
      refine lv_lshl E.1 E.2.1 dX0_remove_30 rfl ?_
      refine x_rawL (lN (2 ^ j)) (by rw [← j_nat, q_shlL 1 hj, Nat.one_mul]) ?_
      refine lv_ldc2 E.1 E.2.1 E.2.2.2.1 (E.2.2.2.2.1 _ kk_X0_15) dX0_remove_31 ?_
      refine lv_lxor E.1 E.2.1 dX0_remove_34 ?_
      refine lv_land E.1 E.2.1 dX0_remove_35 ?_
      refine x_rawl (((N &&& (2 ^ j ^^^ (2 ^ 64 - 1)) : Nat) : Int)) (by rw [← l_nat, show ((-1 : Int64)) = lN (2 ^ 64 - 1) by decide, q_xorL, q_andL, l_nat]) ?_
      refine x_last E hI hG hS (xd9 hX hb) (by omega) dX0_remove_36 (fun H locs hG hS => ?_)
      exact r_v E hQ hG hS dX0_remove_37 (⟨_, st_sp _ _ _ _, by rw [hc3]; exact DB.del hB hi hj hN hf hbt⟩)

set_option maxHeartbeats 4000000 in
set_option maxRecDepth 100000 in
theorem c_X0_lowest (l : Launch) {X : We} {n b : Nat} (hX : isX X n) (hb : isD b) (V : Mem) {B : Int → Bool} (hB : DB (V (b + 9)) B) : Mt l X V yX0_lowest cX0_lowest 4 (some .int) 1 21 [.ref (wa X (b + 8))] (Qi X (fun z V1 => V1 = V ∧ ((z = -1 ∧ ∀ d : Int, 0 ≤ d → d < 192 → B d = false) ∨ (0 ≤ z ∧ z < 192 ∧ B z = true ∧ ∀ d : Int, 0 ≤ d → d < z → B d = false)))) := by
  refine Mt.go (by decide) (Nat.le_of_ble_eq_true rfl) ?_
  intro pg ev s0 mi bl mt cd ls Rm ag Qq hR hQ E hI hG hS hl
  have hl : lv_has ls 4 [(0, .ref (wa X (b + 8)))] := hl
  refine x_iconst E dX0_lowest_0 ?_
  refine x_istore_n E [(1, .int (jI 0)), (0, .ref (wa X (b + 8)))] dX0_lowest_1 hl (by decide) rfl (fun ls hl => ?_)
  have L2_1 : ∀ (N : Nat) (i : Int), (0 ≤ i) → (i ≤ 3) → (∀ d : Int, 0 ≤ d → d < 64 * i → B d = false) → ((3 - i).toNat) < N → ∀ (H : Heap) (locs : List Loc) (ls : Array Slot), GW X V H → va_S (wA X) s0.heap H locs → lv_has ls 4 [(0, .ref (wa X (b + 8))), (1, .int (jI i))] → W pg l ev Rm s0 mi ag bl mt cd H locs 0 0 Qq (F0 mi 2 ls []) := by
    intro N
    induction N with
    | zero => intro i h0 h1 hn hN; exact absurd hN (Nat.not_lt_zero _)
    | succ N ih2 =>
      intro i h0 h1 hn hN H locs ls hG hS hl
      refine x_iload_n E dX0_lowest_2 (lv_at hl 1 rfl) ?_
      refine x_aload_n E dX0_lowest_3 (lv_at hl 0 rfl) ?_
      refine x_getr E hI hG (xd8 hX hb) cf0 0 (b + 9) rfl (by decide) kf_X0_9 dX0_lowest_4 ?_
      refine x_alenL E hI hG (xd9 hX hb) dX0_lowest_7 ?_
      refine x_icmp_ge E 45 dX0_lowest_8 (by decide) (by unfold rg; omega) (by unfold rg; omega) (fun c8 => ?_) (fun c8 => ?_)
      · refine x_iconst E dX0_lowest_45 ?_
        exact r_i E hQ hG hS dX0_lowest_46 (⟨rfl, Or.inl ⟨rfl, fun d d0 d1 => hn d d0 (by omega)⟩⟩)
      · obtain ⟨N, hN, hf, hbt⟩ := hB.at h0 (by omega)
        refine x_aload_n E dX0_lowest_11 (lv_at hl 0 rfl) ?_
        refine x_getr E hI hG (xd8 hX hb) cf0 0 (b + 9) rfl (by decide) kf_X0_9 dX0_lowest_12 ?_
        refine x_iload_n E dX0_lowest_15 (lv_at hl 1 rfl) ?_
        refine x_lald E hI hG (xd9 hX hb) ((N : Int)) hf (by omega) dX0_lowest_16 ?_
        refine x_lstore_n E [(2, .long (lI ((N : Int)))), (0, .ref (wa X (b + 8))), (1, .int (jI i))] dX0_lowest_17 hl (by decide) rfl (fun ls hl => ?_)
        refine x_lload_n E dX0_lowest_18 (lv_at hl 0 rfl) ?_
        refine lv_lconst (v := lN 0) E.1 E.2.1 dX0_lowest_19 rfl ?_
        refine W.lcmp E.1 E.2.1 dX0_lowest_20 ?_
        refine x_rawi ((lg_cmp (lI (N : Int)) (lN 0)).toInt) ((j_of _).symm) ?_
        refine x_if_eq E 39 dX0_lowest_21 (by decide) (j_rg _) (fun c21 => ?_) (fun c21 => ?_)
        · have hz : N = 0 := (q_cmp0 hN).mp c21
          refine x_iinc E (k := 2) [(1, .int (jI (i + 1))), (2, .long (lI ((N : Int)))), (0, .ref (wa X (b + 8)))] dX0_lowest_39 hl rfl (by decide) rfl (fun ls hl => ?_)
          refine x_goto E 2 dX0_lowest_42 (by decide) ?_
          exact ih2 (i + 1) (by omega) (by omega) (fun d d0 d1 => by
                    rcases Int.lt_or_le d (64 * i) with q | q
                    · exact hn d d0 q
                    · have := hbt (d - 64 * i).toNat (by omega)
                      rw [hz, Nat.zero_testBit] at this
                      rw [show d = 64 * i + ((d - 64 * i).toNat : Int) by omega]; exact this.symm) (by omega) _ _ _ hG hS (lv_sub hl [2, 0] rfl)
        · have hz : N ≠ 0 := fun z => c21 ((q_cmp0 hN).mpr z)
          obtain ⟨k, hk, k1, k2, k3⟩ := q_and_neg (Nat.pos_of_ne_zero hz) hN
          refine x_iload_n E dX0_lowest_24 (lv_at hl 2 rfl) ?_
          refine x_bipush E dX0_lowest_25 (by decide) ?_
          refine x_imul E dX0_lowest_27 ?_
          refine x_lload_n E dX0_lowest_28 (lv_at hl 0 rfl) ?_
          refine x_lload_n E dX0_lowest_29 (lv_at hl 0 rfl) ?_
          refine lv_lneg E.1 E.2.1 dX0_lowest_30 ?_
          refine x_rawL (lN (2 ^ 64 - N)) (by rw [← l_nat]; exact q_negL hN (Nat.pos_of_ne_zero hz)) ?_
          refine lv_land E.1 E.2.1 dX0_lowest_31 ?_
          refine x_rawL (lN (2 ^ k)) (by rw [← l_nat, q_andL, k3]) ?_
          refine lv_lconst (v := lN 1) E.1 E.2.1 dX0_lowest_32 rfl ?_
          refine lv_lsub E.1 E.2.1 dX0_lowest_33 ?_
          refine x_rawL (lN (2 ^ k - 1)) (lN_sub (Nat.one_le_two_pow)) ?_
          refine x_ci hG hS (x_runS E hI hG hS (c_bitCount l V k hk) mf_J13_bitCount_95d88 km_X0_17 rfl hl rfl (Nat.le_of_ble_eq_true rfl) (by rw [hR]; exact ⟨Nat.le_of_ble_eq_true rfl, Nat.le_of_ble_eq_true rfl⟩) ⟨Nat.zero_le _, Nat.zero_le _⟩ dX0_lowest_34) (fun z1 V1 H locs hp hG hS => ?_)
          obtain ⟨ez, eV⟩ := hp
          rw [eV] at hG
          rw [ez]
          refine x_iadd E dX0_lowest_37 ?_
          exact r_i E hQ hG hS dX0_lowest_38 (⟨rfl, Or.inr ⟨by omega, by omega, by rw [Int.mul_comm i 64, ← hbt k hk]; exact k1, fun d d0 d1 => by
                    rcases Int.lt_or_le d (64 * i) with q | q
                    · exact hn d d0 q
                    · rw [show d = 64 * i + ((d - 64 * i).toNat : Int) by omega, ← hbt _ (by omega)]; exact k2 _ (by omega)⟩⟩)
  exact L2_1 _ 0 (by omega) (by omega) (fun d d0 d1 => by omega) (Nat.lt_succ_self _) _ _ _ hG hS (lv_sub hl [1, 0] rfl)
