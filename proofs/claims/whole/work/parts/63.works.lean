def bitv (x i : Int) : Int := x / 2 ^ i.toNat % 2
theorem q_bit {x i : Int} (h0 : 0 ≤ x) (h1 : x < 16) (i0 : 0 ≤ i) (i1 : i < 4) : (jI x >>> (jI i &&& 31)) &&& jI 1 = jI (bitv x i) := by
  unfold bitv
  rcases (show i = 0 ∨ i = 1 ∨ i = 2 ∨ i = 3 by omega) with rfl | rfl | rfl | rfl
  · rw [q_shrI h0 (by omega) 0 (by decide), q_andI (by omega) (by omega) 1 (by decide)]; rfl
  · rw [q_shrI h0 (by omega) 1 (by decide), q_andI (by omega) (by omega) 1 (by decide)]; rfl
  · rw [q_shrI h0 (by omega) 2 (by decide), q_andI (by omega) (by omega) 1 (by decide)]; rfl
  · rw [q_shrI h0 (by omega) 3 (by decide), q_andI (by omega) (by omega) 1 (by decide)]; rfl
theorem bitv_c (x i : Int) : bitv x i = 0 ∨ bitv x i = 1 := by unfold bitv; omega
theorem bitv_rg (x i : Int) : rg (bitv x i) := by have := bitv_c x i; unfold rg; omega
/-- the cost of a set: what its bits tell of -/
def csK (f : Int → Int) (x : Int) : Int → Int := fun i => if bitv x i = 1 then f i else 0
def WK (V : Mem) (n : Nat) : Prop := (0 ≤ V 50 4 ∧ V 50 4 ≤ 4) ∧ ∀ i : Int, 0 ≤ i → i < V 50 4 → (0 ≤ V 51 i ∧ V 51 i ≤ 2) ∧ (0 ≤ V 52 i ∧ V 52 i < (n : Int)) ∧ (1 ≤ V 53 i ∧ V 53 i ≤ 99) ∧ 0 ≤ V 54 i ∧ V 54 i ≤ 999
def wkM (k c v d : Int) (V : Mem) : Mem := st (st (st (st (st V 51 (V 50 4) k) 52 (V 50 4) c) 53 (V 50 4) v) 54 (V 50 4) d) 50 4 (V 50 4 + 1)
/-- a work is done -/
noncomputable def doM (n : Nat) (wd hi : Int) (b : Nat) (k c v : Int) (U : Mem) : Mem := if k = 0 then layM b c 1 v U else if k = 1 then layM b c 0 v U else hput n wd hi b c (U (b + 1) c - min v (U (b + 1) c)) U
noncomputable def coM (n : Nat) (wd hi : Int) (b : Nat) (kf cf vf : Int → Int) (x : Int) : Nat → Mem → Mem
  | 0, U => U
  | i + 1, U => if bitv x (i : Int) = 1 then doM n wd hi b (kf (i : Int)) (cf (i : Int)) (vf (i : Int)) (coM n wd hi b kf cf vf x i U) else coM n wd hi b kf cf vf x i U
theorem layM_p {b : Nat} {c k v : Int} {V : Mem} {p : Nat} (h : p < b + 3 ∨ b + 7 < p) : layM b c k v V p = V p := by
  unfold layM
  split
  · exact st_p (by omega)
  · split
    · exact st_p (by omega)
    · split
      · exact st_p (by omega)
      · rw [st_p (by omega), st_p (by omega)]
theorem bnd_st {n : Nat} {V : Mem} {p : Nat} {L U c v : Int} (h : bnd n L U (V p)) (h0 : L ≤ v) (h1 : v ≤ U) (q : Nat) : bnd n L U (st V q c v p) := by
  intro d d0 d1
  have := h d d0 d1
  unfold st
  split <;> omega
theorem Mid.lay {n b : Nat} {wd hi t : Int} {V : Mem} (hb : 3 ≤ b) (h : Mid V n wd hi b t) {c k v : Int} (hv : (k = 0 ∧ 0 ≤ v ∧ v ≤ 100) ∨ (k = 1 ∧ 0 ≤ v ∧ v ≤ 99) ∨ (k = 2 ∧ 0 ≤ v ∧ v ≤ 20) ∨ (k = 3 ∧ 0 ≤ v ∧ v ≤ 999)) : Mid (layM b c k v V) n wd hi b t := by
  obtain ⟨⟨a1, a2, a3⟩, ⟨r2, r3, r4, r5, r6, r7, r8⟩, a5, a6⟩ := h
  refine ⟨⟨a1.of (layM_p (by omega)) (layM_p (by omega)), ?_, ?_⟩, ?_, a5.of (layM_p (by omega)) (layM_p (by omega)) (layM_p (by omega)), by rw [layM_p (by omega)]; exact a6⟩
  · rw [layM_p (by omega), layM_p (by omega)]; exact a2
  · rw [layM_p (by omega)]; exact a3
  · have e10 : layM b c k v V (b + 10) = V (b + 10) := layM_p (by omega)
    unfold DR
    rw [e10]
    rcases hv with ⟨rfl, v0, v1⟩ | ⟨rfl, v0, v1⟩ | ⟨rfl, v0, v1⟩ | ⟨rfl, v0, v1⟩
    · unfold layM
      rw [if_pos rfl]
      refine ⟨by rw [st_p (by omega)]; exact r2, bnd_st r3 v0 v1 _, by rw [st_p (by omega)]; exact r4, by rw [st_p (by omega)]; exact r5, by rw [st_p (by omega)]; exact r6, by rw [st_p (by omega)]; exact r7, r8⟩
    · unfold layM
      rw [if_neg (by decide), if_pos rfl]
      refine ⟨by rw [st_p (by omega)]; exact r2, by rw [st_p (by omega)]; exact r3, bnd_st r4 v0 v1 _, by rw [st_p (by omega)]; exact r5, by rw [st_p (by omega)]; exact r6, by rw [st_p (by omega)]; exact r7, r8⟩
    · unfold layM
      rw [if_neg (by decide), if_neg (by decide), if_pos rfl]
      refine ⟨by rw [st_p (by omega)]; exact r2, by rw [st_p (by omega)]; exact r3, by rw [st_p (by omega)]; exact r4, bnd_st r5 v0 v1 _, by rw [st_p (by omega)]; exact r6, by rw [st_p (by omega)]; exact r7, r8⟩
    · unfold layM
      rw [if_neg (by decide), if_neg (by decide), if_neg (by decide)]
      refine ⟨by rw [st_p (by omega), st_p (by omega)]; exact r2, by rw [st_p (by omega), st_p (by omega)]; exact r3, by rw [st_p (by omega), st_p (by omega)]; exact r4, by rw [st_p (by omega), st_p (by omega)]; exact r5, by rw [st_p (by omega)]; exact bnd_st r6 v0 v1 _, bnd_st (by rw [st_p (by omega)]; exact r7) (by omega) (by omega) _, r8⟩
theorem doM_p {n b : Nat} {wd hi k c v : Int} {U : Mem} {p : Nat} (h : p < b + 1 ∨ b + 7 < p) : doM n wd hi b k c v U p = U p := by
  unfold doM
  split
  · exact layM_p (by omega)
  · split
    · exact layM_p (by omega)
    · exact hput_p _ _ (by omega)
theorem Mid.work {n b : Nat} {wd hi t : Int} {U : Mem} (hb : 3 ≤ b) (h : Mid U n wd hi b t) {k c v : Int} (hc : 0 ≤ c ∧ c < (n : Int)) (hv : 1 ≤ v ∧ v ≤ 99) : Mid (doM n wd hi b k c v U) n wd hi b t := by
  have := h.1.2.1.2.1 c hc.1 hc.2
  unfold doM
  split
  · exact h.lay hb (Or.inr (Or.inl ⟨rfl, by omega, by omega⟩))
  · split
    · exact h.lay hb (Or.inl ⟨rfl, by omega, by omega⟩)
    · exact (h.lower hb hc.1 hc.2 (by omega) (by omega)).1
theorem coM_p {n b : Nat} {wd hi : Int} {kf cf vf : Int → Int} {x : Int} {p : Nat} (h : p < b + 1 ∨ b + 7 < p) : ∀ (i : Nat) (U : Mem), coM n wd hi b kf cf vf x i U p = U p
  | 0, _ => rfl
  | i + 1, U => by
    unfold coM
    split
    · rw [doM_p h]; exact coM_p h i U
    · exact coM_p h i U
theorem coM_s {n b : Nat} {wd hi : Int} {kf cf vf : Int → Int} {x i : Int} (h : 0 ≤ i) (U : Mem) : coM n wd hi b kf cf vf x (i + 1).toNat U = if bitv x i = 1 then doM n wd hi b (kf i) (cf i) (vf i) (coM n wd hi b kf cf vf x i.toNat U) else coM n wd hi b kf cf vf x i.toNat U := by
  rw [show (i + 1).toNat = i.toNat + 1 by omega]
  show (if bitv x (i.toNat : Int) = 1 then doM n wd hi b (kf (i.toNat : Int)) (cf (i.toNat : Int)) (vf (i.toNat : Int)) _ else _) = _
  rw [Int.toNat_of_nonneg h]
theorem Mid.co {n b : Nat} {wd hi t : Int} {U : Mem} {kf cf vf : Int → Int} {x m : Int} (hb : 3 ≤ b) (h : Mid U n wd hi b t) (hf : ∀ i : Int, 0 ≤ i → i < m → (0 ≤ cf i ∧ cf i < (n : Int)) ∧ 1 ≤ vf i ∧ vf i ≤ 99) : ∀ i : Nat, (i : Int) ≤ m → Mid (coM n wd hi b kf cf vf x i U) n wd hi b t
  | 0, _ => h
  | i + 1, hi' => by
    have ih := Mid.co (x := x) (kf := kf) hb h hf i (by omega)
    have q := hf (i : Int) (by omega) (by omega)
    show Mid (if bitv x (i : Int) = 1 then _ else _) n wd hi b t
    split
    · exact ih.work hb q.1 q.2
    · exact ih
def FL (V : Mem) (n : Nat) : Prop := (0 ≤ V 55 3 ∧ V 55 3 ≤ 20) ∧ ∀ i : Int, 0 ≤ i → i < V 55 3 → (0 ≤ V 56 i ∧ V 56 i < (n : Int)) ∧ (0 ≤ V 57 i ∧ V 57 i ≤ 9999) ∧ 0 ≤ V 58 i ∧ V 58 i ≤ 9
def flM (c s m : Int) (V : Mem) : Mem := st (st (st (st V 56 (V 55 3) c) 57 (V 55 3) s) 58 (V 55 3) m) 55 3 (V 55 3 + 1)
def agK (h cf sf mf : Int → Int) : Nat → Bool
  | 0 => true
  | i + 1 => agK h cf sf mf i && decide (sf (i : Int) - mf (i : Int) ≤ h (cf (i : Int)) ∧ h (cf (i : Int)) ≤ sf (i : Int) + mf (i : Int))
theorem agK_s {h cf sf mf : Int → Int} {i : Int} (h0 : 0 ≤ i) : agK h cf sf mf (i + 1).toNat = (agK h cf sf mf i.toNat && decide (sf i - mf i ≤ h (cf i) ∧ h (cf i) ≤ sf i + mf i)) := by
  rw [show (i + 1).toNat = i.toNat + 1 by omega]
  show (agK h cf sf mf i.toNat && decide (sf (i.toNat : Int) - mf (i.toNat : Int) ≤ h (cf (i.toNat : Int)) ∧ h (cf (i.toNat : Int)) ≤ sf (i.toNat : Int) + mf (i.toNat : Int))) = _
  rw [Int.toNat_of_nonneg h0]
theorem agK_no {h cf sf mf : Int → Int} {i : Nat} (q : agK h cf sf mf i = false) : ∀ j : Nat, agK h cf sf mf (i + j) = false
  | 0 => q
  | j + 1 => by
    show (agK h cf sf mf (i + j) && _) = false
    rw [agK_no q j, Bool.false_and]

set_option maxHeartbeats 4000000 in
set_option maxRecDepth 100000 in
theorem c_X6_add (l : Launch) {X : We} {n : Nat} (hX : isX X n) (V : Mem) (hk : 0 ≤ V 50 4 ∧ V 50 4 ≤ 4) (k c v d : Int) : Mt l X V yX6_add cX6_add 5 (some .int) 0 0 [.ref (wa X 50), .int (jI k), .int (jI c), .int (jI v), .int (jI d)] (Qi X (fun z V1 => if V 50 4 < 4 then z = V 50 4 ∧ V1 = wkM k c v d V else z = -1 ∧ V1 = V)) := by
  refine Mt.go (by decide) (Nat.le_of_ble_eq_true rfl) ?_
  intro pg ev s0 mi bl mt cd ls Rm ag Qq hR hQ E hI hG hS hl
  have hl : lv_has ls 5 [(0, .ref (wa X 50)), (1, .int (jI k)), (2, .int (jI c)), (3, .int (jI v)), (4, .int (jI d))] := hl
  refine x_aload_n E dX6_add_0 (lv_at hl 0 rfl) ?_
  refine x_geti E hI hG (xk0 hX) cf6 4 (V 50 4) rfl (by decide) rfl kf_X6_24 dX6_add_1 ?_
  refine x_if_lt E 15 dX6_add_4 (by decide) (by unfold rg; omega) (fun c4 => ?_) (fun c4 => ?_)
  · omega
  · refine x_aload_n E dX6_add_7 (lv_at hl 0 rfl) ?_
    refine x_geti E hI hG (xk0 hX) cf6 4 (V 50 4) rfl (by decide) rfl kf_X6_24 dX6_add_8 ?_
    refine x_iconst E dX6_add_11 ?_
    refine x_icmp_lt E 17 dX6_add_12 (by decide) (by unfold rg; omega) (by unfold rg; omega) (fun c12 => ?_) (fun c12 => ?_)
    · refine x_aload_n E dX6_add_17 (lv_at hl 0 rfl) ?_
      refine x_getr E hI hG (xk0 hX) cf6 0 51 rfl (by decide) kf_X6_9 dX6_add_18 ?_
      refine x_aload_n E dX6_add_21 (lv_at hl 0 rfl) ?_
      refine x_geti E hI hG (xk0 hX) cf6 4 (V 50 4) rfl (by decide) rfl kf_X6_24 dX6_add_22 ?_
      refine x_iload_n E dX6_add_25 (lv_at hl 1 rfl) ?_
      refine x_iast E hI hG hS (xk1 hX) (by omega) dX6_add_26 (fun H locs hG hS => ?_)
      refine x_aload_n E dX6_add_27 (lv_at hl 0 rfl) ?_
      refine x_getr E hI hG (xk0 hX) cf6 1 52 rfl (by decide) kf_X6_15 dX6_add_28 ?_
      refine x_aload_n E dX6_add_31 (lv_at hl 0 rfl) ?_
      refine x_geti E hI hG (xk0 hX) cf6 4 (V 50 4) rfl (by decide) (show (st V 51 (V 50 4) k) 50 4 = V 50 4 from (by rw [st_p (by decide)])) kf_X6_24 dX6_add_32 ?_
      refine x_iload_n E dX6_add_35 (lv_at hl 2 rfl) ?_
      refine x_iast E hI hG hS (xk2 hX) (by omega) dX6_add_36 (fun H locs hG hS => ?_)
      refine x_aload_n E dX6_add_37 (lv_at hl 0 rfl) ?_
      refine x_getr E hI hG (xk0 hX) cf6 2 53 rfl (by decide) kf_X6_18 dX6_add_38 ?_
      refine x_aload_n E dX6_add_41 (lv_at hl 0 rfl) ?_
      refine x_geti E hI hG (xk0 hX) cf6 4 (V 50 4) rfl (by decide) (show (st (st V 51 (V 50 4) k) 52 (V 50 4) c) 50 4 = V 50 4 from (by rw [st_p (by decide), st_p (by decide)])) kf_X6_24 dX6_add_42 ?_
      refine x_iload_n E dX6_add_45 (lv_at hl 3 rfl) ?_
      refine x_iast E hI hG hS (xk3 hX) (by omega) dX6_add_46 (fun H locs hG hS => ?_)
      refine x_aload_n E dX6_add_47 (lv_at hl 0 rfl) ?_
      refine x_getr E hI hG (xk0 hX) cf6 3 54 rfl (by decide) kf_X6_21 dX6_add_48 ?_
      refine x_aload_n E dX6_add_51 (lv_at hl 0 rfl) ?_
      refine x_geti E hI hG (xk0 hX) cf6 4 (V 50 4) rfl (by decide) (show (st (st (st V 51 (V 50 4) k) 52 (V 50 4) c) 53 (V 50 4) v) 50 4 = V 50 4 from (by rw [st_p (by decide), st_p (by decide), st_p (by decide)])) kf_X6_24 dX6_add_52 ?_
      refine x_iload E dX6_add_55 (lv_at hl 4 rfl) ?_
      refine x_iast E hI hG hS (xk4 hX) (by omega) dX6_add_57 (fun H locs hG hS => ?_)
      refine x_aload_n E dX6_add_58 (lv_at hl 0 rfl) ?_
      refine x_dup E dX6_add_59 rfl ?_
      refine x_geti E hI hG (xk0 hX) cf6 4 (V 50 4) rfl (by decide) (show (st (st (st (st V 51 (V 50 4) k) 52 (V 50 4) c) 53 (V 50 4) v) 54 (V 50 4) d) 50 4 = V 50 4 from (by rw [st_p (by decide), st_p (by decide), st_p (by decide), st_p (by decide)])) kf_X6_24 dX6_add_60 ?_
      refine x_iconst E dX6_add_63 ?_
      refine x_iadd E dX6_add_64 ?_
      refine x_puti E hI hG hS (xk0 hX) cf6 4 4 rfl rfl (by decide) rfl rfl kf_X6_24 dX6_add_65 (fun H locs hG hS => ?_)
      refine x_aload_n E dX6_add_68 (lv_at hl 0 rfl) ?_
      refine x_geti E hI hG (xk0 hX) cf6 4 (V 50 4 + 1) rfl (by decide) (show (st (st (st (st (st V 51 (V 50 4) k) 52 (V 50 4) c) 53 (V 50 4) v) 54 (V 50 4) d) 50 4 ((V 50 4) + 1)) 50 4 = V 50 4 + 1 from (st_s _ _ _ _)) kf_X6_24 dX6_add_69 ?_
      refine x_iconst E dX6_add_72 ?_
      refine x_isub E dX6_add_73 ?_
      refine x_topeq (V 50 4) (by omega) ?_
      exact r_i E hQ hG hS dX6_add_74 (by rw [if_pos (by omega)]; exact ⟨rfl, rfl⟩)
    · refine x_iconst E dX6_add_15 ?_
      exact r_i E hQ hG hS dX6_add_16 (by rw [if_neg (by omega)]; exact ⟨rfl, rfl⟩)

set_option maxHeartbeats 4000000 in
set_option maxRecDepth 100000 in
theorem c_X6_costOf (l : Launch) {X : We} {n : Nat} (hX : isX X n) (V : Mem) (hk : 0 ≤ V 50 4 ∧ V 50 4 ≤ 4) (x : Int) (hx : 0 ≤ x ∧ x < 16) : Mt l X V yX6_costOf cX6_costOf 4 (some .int) 0 0 [.ref (wa X 50), .int (jI x)] (Qi X (fun z V1 => z = su (V 50 4).toNat (csK (V 54) x) ∧ V1 = V)) := by
  refine Mt.go (by decide) (Nat.le_of_ble_eq_true rfl) ?_
  intro pg ev s0 mi bl mt cd ls Rm ag Qq hR hQ E hI hG hS hl
  have hl : lv_has ls 4 [(0, .ref (wa X 50)), (1, .int (jI x))] := hl
  refine x_iconst E dX6_costOf_0 ?_
  refine x_istore_n E [(2, .int (jI 0)), (0, .ref (wa X 50)), (1, .int (jI x))] dX6_costOf_1 hl (by decide) rfl (fun ls hl => ?_)
  refine x_iconst E dX6_costOf_2 ?_
  refine x_istore_n E [(3, .int (jI 0)), (2, .int (jI 0)), (0, .ref (wa X 50)), (1, .int (jI x))] dX6_costOf_3 hl (by decide) rfl (fun ls hl => ?_)
  have L4_1 : ∀ (N : Nat) (i : Int) (a : Int), (0 ≤ i) → (i ≤ V 50 4) → (a = su i.toNat (csK (V 54) x)) → ((V 50 4 - i).toNat) < N → ∀ (H : Heap) (locs : List Loc) (ls : Array Slot), GW X V H → va_S (wA X) s0.heap H locs → lv_has ls 4 [(0, .ref (wa X 50)), (1, .int (jI x)), (2, .int (jI a)), (3, .int (jI i))] → W pg l ev Rm s0 mi ag bl mt cd H locs 0 0 Qq (F0 mi 4 ls []) := by
    intro N
    induction N with
    | zero => intro i a i0 i1 ea hN; exact absurd hN (Nat.not_lt_zero _)
    | succ N ih4 =>
      intro i a i0 i1 ea hN H locs ls hG hS hl
      refine x_iload_n E dX6_costOf_4 (lv_at hl 3 rfl) ?_
      refine x_aload_n E dX6_costOf_5 (lv_at hl 0 rfl) ?_
      refine x_geti E hI hG (xk0 hX) cf6 4 (V 50 4) rfl (by decide) rfl kf_X6_24 dX6_costOf_6 ?_
      refine x_icmp_ge E 40 dX6_costOf_9 (by decide) (by unfold rg; omega) (by unfold rg; omega) (fun c9 => ?_) (fun c9 => ?_)
      · refine x_iload_n E dX6_costOf_40 (lv_at hl 2 rfl) ?_
        exact r_i E hQ hG hS dX6_costOf_41 (⟨by rw [ea, show i = V 50 4 by omega], rfl⟩)
      · refine x_iload_n E dX6_costOf_12 (lv_at hl 3 rfl) ?_
        refine x_iconst E dX6_costOf_13 ?_
        refine x_icmp_ge E 40 dX6_costOf_14 (by decide) (by unfold rg; omega) (by unfold rg; omega) (fun c14 => ?_) (fun c14 => ?_)
        · omega
        · have es := su_s (f := csK (V 54) x) i0
          have hbc := bitv_c x i
          have L34_2 : ∀ (a2 : Int), (a2 = su (i + 1).toNat (csK (V 54) x)) → ∀ (H : Heap) (locs : List Loc) (ls : Array Slot), GW X V H → va_S (wA X) s0.heap H locs → lv_has ls 4 [(0, .ref (wa X 50)), (1, .int (jI x)), (2, .int (jI a2)), (3, .int (jI i))] → W pg l ev Rm s0 mi ag bl mt cd H locs 0 0 Qq (F0 mi 34 ls []) := by
            intro a2 ea2 H locs ls hG hS hl
            refine x_iinc E (k := 3) [(3, .int (jI (i + 1))), (0, .ref (wa X 50)), (1, .int (jI x)), (2, .int (jI a2))] dX6_costOf_34 hl rfl (by decide) rfl (fun ls hl => ?_)
            refine x_goto E 4 dX6_costOf_37 (by decide) ?_
            exact ih4 (i + 1) a2 (by omega) (by omega) ea2 (by omega) _ _ _ hG hS (lv_sub hl [1, 2, 3, 0] rfl)
          refine x_iload_n E dX6_costOf_17 (lv_at hl 1 rfl) ?_
          refine x_iload_n E dX6_costOf_18 (lv_at hl 3 rfl) ?_
          refine lv_ishr E.1 E.2.1 dX6_costOf_19 ?_
          refine x_iconst E dX6_costOf_20 ?_
          refine lv_iand E.1 E.2.1 dX6_costOf_21 ?_
          refine x_rawi (bitv x i) (q_bit hx.1 hx.2 i0 (by omega)) ?_
          refine x_if_eq E 34 dX6_costOf_22 (by decide) (bitv_rg _ _) (fun c22 => ?_) (fun c22 => ?_)
          · exact L34_2 a (by rw [es, ea, csK, if_neg (by omega)]; omega) _ _ _ hG hS (lv_sub hl [0, 1, 2, 3] rfl)
          · refine x_iload_n E dX6_costOf_25 (lv_at hl 2 rfl) ?_
            refine x_aload_n E dX6_costOf_26 (lv_at hl 0 rfl) ?_
            refine x_getr E hI hG (xk0 hX) cf6 3 54 rfl (by decide) kf_X6_21 dX6_costOf_27 ?_
            refine x_iload_n E dX6_costOf_30 (lv_at hl 3 rfl) ?_
            refine x_iald E hI hG (xk4 hX) (V 54 i) rfl (by omega) dX6_costOf_31 ?_
            refine x_iadd E dX6_costOf_32 ?_
            refine x_istore_n E [(2, .int (jI (a + (V 54 i)))), (0, .ref (wa X 50)), (1, .int (jI x)), (3, .int (jI i))] dX6_costOf_33 hl (by decide) rfl (fun ls hl => ?_)
            exact L34_2 (a + V 54 i) (by rw [es, ea, csK, if_pos (by omega)]) _ _ _ hG hS (lv_sub hl [1, 2, 0, 3] rfl)
  exact L4_1 _ 0 0 (by omega) (by omega) rfl (Nat.lt_succ_self _) _ _ _ hG hS (lv_sub hl [2, 3, 1, 0] rfl)

set_option maxHeartbeats 4000000 in
set_option maxRecDepth 100000 in
theorem c_X6_carryOut (l : Launch) {X : We} {n b : Nat} (hX : isX X n) (hb : isD b) {wd hi t : Int} (V : Mem) (hk : Mid V n wd hi b t) (hwk : WK V n) (x : Int) (hx : 0 ≤ x ∧ x < 16) : Mt l X V yX6_carryOut cX6_carryOut 4 none 4 92 [.ref (wa X 50), .int (jI x), .ref (wa X b)] (Qv X (fun V1 => V1 = coM n wd hi b (V 51) (V 52) (V 53) x (V 50 4).toNat V)) := by
  refine Mt.go (by decide) (Nat.le_of_ble_eq_true rfl) ?_
  intro pg ev s0 mi bl mt cd ls Rm ag Qq hR hQ E hI hG hS hl
  have hl : lv_has ls 4 [(0, .ref (wa X 50)), (1, .int (jI x)), (2, .ref (wa X b))] := hl
  obtain ⟨hb1, hb2⟩ := isD.ge hb
  have hw4 := hwk.1
  refine x_iconst E dX6_carryOut_0 ?_
  refine x_istore_n E [(3, .int (jI 0)), (0, .ref (wa X 50)), (1, .int (jI x)), (2, .ref (wa X b))] dX6_carryOut_1 hl (by decide) rfl (fun ls hl => ?_)
  have L2_1 : ∀ (N : Nat) (i : Int), (0 ≤ i) → (i ≤ V 50 4) → ((V 50 4 - i).toNat) < N → ∀ (H : Heap) (locs : List Loc) (ls : Array Slot), GW X (coM n wd hi b (V 51) (V 52) (V 53) x i.toNat V) H → va_S (wA X) s0.heap H locs → lv_has ls 4 [(0, .ref (wa X 50)), (1, .int (jI x)), (2, .ref (wa X b)), (3, .int (jI i))] → W pg l ev Rm s0 mi ag bl mt cd H locs 0 0 Qq (F0 mi 2 ls []) := by
    intro N
    induction N with
    | zero => intro i i0 i1 hN; exact absurd hN (Nat.not_lt_zero _)
    | succ N ih2 =>
      intro i i0 i1 hN H locs ls hG hS hl
      refine x_iload_n E dX6_carryOut_2 (lv_at hl 3 rfl) ?_
      refine x_aload_n E dX6_carryOut_3 (lv_at hl 0 rfl) ?_
      refine x_geti E hI hG (xk0 hX) cf6 4 (V 50 4) rfl (by decide) (show (coM n wd hi b (V 51) (V 52) (V 53) x i.toNat V) 50 4 = V 50 4 from (by rw [coM_p (by omega)])) kf_X6_24 dX6_carryOut_4 ?_
      refine x_icmp_ge E 107 dX6_carryOut_7 (by decide) (by unfold rg; omega) (by unfold rg; omega) (fun c7 => ?_) (fun c7 => ?_)
      · exact r_v E hQ hG hS dX6_carryOut_107 (by rw [show i = V 50 4 by omega])
      · refine x_iload_n E dX6_carryOut_10 (lv_at hl 3 rfl) ?_
        refine x_iconst E dX6_carryOut_11 ?_
        refine x_icmp_ge E 107 dX6_carryOut_12 (by decide) (by unfold rg; omega) (by unfold rg; omega) (fun c12 => ?_) (fun c12 => ?_)
        · omega
        · have es := coM_s (n := n) (wd := wd) (hi := hi) (b := b) (kf := V 51) (cf := V 52) (vf := V 53) (x := x) i0 V
          have hbc := bitv_c x i
          have hki := hwk.2 i i0 (by omega)
          have hm : Mid (coM n wd hi b (V 51) (V 52) (V 53) x i.toNat V) n wd hi b t := hk.co hb1 (m := V 50 4) (fun j j0 j1 => ⟨(hwk.2 j j0 j1).2.1, (hwk.2 j j0 j1).2.2.1⟩) i.toNat (by omega)
          have L101_2 : ∀ (H : Heap) (locs : List Loc) (ls : Array Slot), GW X (coM n wd hi b (V 51) (V 52) (V 53) x (i + 1).toNat V) H → va_S (wA X) s0.heap H locs → lv_has ls 4 [(0, .ref (wa X 50)), (1, .int (jI x)), (2, .ref (wa X b)), (3, .int (jI i))] → W pg l ev Rm s0 mi ag bl mt cd H locs 0 0 Qq (F0 mi 101 ls []) := by
            intro   H locs ls hG hS hl
            refine x_iinc E (k := 3) [(3, .int (jI (i + 1))), (0, .ref (wa X 50)), (1, .int (jI x)), (2, .ref (wa X b))] dX6_carryOut_101 hl rfl (by decide) rfl (fun ls hl => ?_)
            refine x_goto E 2 dX6_carryOut_104 (by decide) ?_
            exact ih2 (i + 1) (by omega) (by omega) (by omega) _ _ _ hG hS (lv_sub hl [1, 2, 3, 0] rfl)
          refine x_iload_n E dX6_carryOut_15 (lv_at hl 1 rfl) ?_
          refine x_iload_n E dX6_carryOut_16 (lv_at hl 3 rfl) ?_
          refine lv_ishr E.1 E.2.1 dX6_carryOut_17 ?_
          refine x_iconst E dX6_carryOut_18 ?_
          refine lv_iand E.1 E.2.1 dX6_carryOut_19 ?_
          refine x_rawi (bitv x i) (q_bit hx.1 hx.2 i0 (by omega)) ?_
          refine x_if_ne E 26 dX6_carryOut_20 (by decide) (bitv_rg _ _) (fun c20 => ?_) (fun c20 => ?_)
          · rw [if_pos (by omega)] at es
            unfold doM at es
            refine x_aload_n E dX6_carryOut_26 (lv_at hl 0 rfl) ?_
            refine x_getr E hI hG (xk0 hX) cf6 0 51 rfl (by decide) kf_X6_9 dX6_carryOut_27 ?_
            refine x_iload_n E dX6_carryOut_30 (lv_at hl 3 rfl) ?_
            refine x_iald E hI hG (xk1 hX) (V 51 i) (by rw [coM_p (by omega)]) (by omega) dX6_carryOut_31 ?_
            refine x_if_ne E 55 dX6_carryOut_32 (by decide) (by unfold rg; omega) (fun c32 => ?_) (fun c32 => ?_)
            · rw [if_neg c32] at es
              refine x_aload_n E dX6_carryOut_55 (lv_at hl 0 rfl) ?_
              refine x_getr E hI hG (xk0 hX) cf6 0 51 rfl (by decide) kf_X6_9 dX6_carryOut_56 ?_
              refine x_iload_n E dX6_carryOut_59 (lv_at hl 3 rfl) ?_
              refine x_iald E hI hG (xk1 hX) (V 51 i) (by rw [coM_p (by omega)]) (by omega) dX6_carryOut_60 ?_
              refine x_iconst E dX6_carryOut_61 ?_
              refine x_icmp_ne E 85 dX6_carryOut_62 (by decide) (by unfold rg; omega) (by unfold rg; omega) (fun c62 => ?_) (fun c62 => ?_)
              · rw [if_neg c62] at es
                refine x_aload_n E dX6_carryOut_85 (lv_at hl 2 rfl) ?_
                refine x_aload_n E dX6_carryOut_86 (lv_at hl 0 rfl) ?_
                refine x_getr E hI hG (xk0 hX) cf6 1 52 rfl (by decide) kf_X6_15 dX6_carryOut_87 ?_
                refine x_iload_n E dX6_carryOut_90 (lv_at hl 3 rfl) ?_
                refine x_iald E hI hG (xk2 hX) (V 52 i) (by rw [coM_p (by omega)]) (by omega) dX6_carryOut_91 ?_
                refine x_aload_n E dX6_carryOut_92 (lv_at hl 0 rfl) ?_
                refine x_getr E hI hG (xk0 hX) cf6 2 53 rfl (by decide) kf_X6_18 dX6_carryOut_93 ?_
                refine x_iload_n E dX6_carryOut_96 (lv_at hl 3 rfl) ?_
                refine x_iald E hI hG (xk3 hX) (V 53 i) (by rw [coM_p (by omega)]) (by omega) dX6_carryOut_97 ?_
                refine x_cv hG hS (x_runV E hI hG hS (xd0 hX hb) cf1 rfl (c_X1_lower l hX hb (coM n wd hi b (V 51) (V 52) (V 53) x i.toNat V) hm.1 (V 52 i) (V 53 i) (by omega) (by omega)) mf_X1_lower km_X6_34 rfl hl rfl (Nat.le_of_ble_eq_true rfl) (by rw [hR]; exact ⟨Nat.le_of_ble_eq_true rfl, Nat.le_of_ble_eq_true rfl⟩) ⟨Nat.zero_le _, Nat.zero_le _⟩ dX6_carryOut_98) (fun V1 H locs hp hG hS => ?_)
                have eV := hp
                rw [← es] at eV
                rw [eV] at hG
                exact L101_2   _ _ _ hG hS (lv_sub hl [0, 1, 2, 3] rfl)
              · rw [if_pos c62] at es
                refine x_aload_n E dX6_carryOut_65 (lv_at hl 2 rfl) ?_
                refine x_aload_n E dX6_carryOut_66 (lv_at hl 0 rfl) ?_
                refine x_getr E hI hG (xk0 hX) cf6 1 52 rfl (by decide) kf_X6_15 dX6_carryOut_67 ?_
                refine x_iload_n E dX6_carryOut_70 (lv_at hl 3 rfl) ?_
                refine x_iald E hI hG (xk2 hX) (V 52 i) (by rw [coM_p (by omega)]) (by omega) dX6_carryOut_71 ?_
                refine x_iconst E dX6_carryOut_72 ?_
                refine x_aload_n E dX6_carryOut_73 (lv_at hl 0 rfl) ?_
                refine x_getr E hI hG (xk0 hX) cf6 2 53 rfl (by decide) kf_X6_18 dX6_carryOut_74 ?_
                refine x_iload_n E dX6_carryOut_77 (lv_at hl 3 rfl) ?_
                refine x_iald E hI hG (xk3 hX) (V 53 i) (by rw [coM_p (by omega)]) (by omega) dX6_carryOut_78 ?_
                refine x_cv hG hS (x_runV E hI hG hS (xd0 hX hb) cf1 rfl (c_X1_put l hX hb (coM n wd hi b (V 51) (V 52) (V 53) x i.toNat V) hm.1.1 (V 52 i) 0 (V 53 i) (by omega) (by omega)) mf_X1_put km_X6_28 rfl hl rfl (Nat.le_of_ble_eq_true rfl) (by rw [hR]; exact ⟨Nat.le_of_ble_eq_true rfl, Nat.le_of_ble_eq_true rfl⟩) ⟨Nat.zero_le _, Nat.zero_le _⟩ dX6_carryOut_79) (fun V1 H locs hp hG hS => ?_)
                have eV := hp
                rw [← es] at eV
                rw [eV] at hG
                refine x_goto E 101 dX6_carryOut_82 (by decide) ?_
                exact L101_2   _ _ _ hG hS (lv_sub hl [0, 1, 2, 3] rfl)
            · rw [if_pos c32] at es
              refine x_aload_n E dX6_carryOut_35 (lv_at hl 2 rfl) ?_
              refine x_aload_n E dX6_carryOut_36 (lv_at hl 0 rfl) ?_
              refine x_getr E hI hG (xk0 hX) cf6 1 52 rfl (by decide) kf_X6_15 dX6_carryOut_37 ?_
              refine x_iload_n E dX6_carryOut_40 (lv_at hl 3 rfl) ?_
              refine x_iald E hI hG (xk2 hX) (V 52 i) (by rw [coM_p (by omega)]) (by omega) dX6_carryOut_41 ?_
              refine x_iconst E dX6_carryOut_42 ?_
              refine x_aload_n E dX6_carryOut_43 (lv_at hl 0 rfl) ?_
              refine x_getr E hI hG (xk0 hX) cf6 2 53 rfl (by decide) kf_X6_18 dX6_carryOut_44 ?_
              refine x_iload_n E dX6_carryOut_47 (lv_at hl 3 rfl) ?_
              refine x_iald E hI hG (xk3 hX) (V 53 i) (by rw [coM_p (by omega)]) (by omega) dX6_carryOut_48 ?_
              refine x_cv hG hS (x_runV E hI hG hS (xd0 hX hb) cf1 rfl (c_X1_put l hX hb (coM n wd hi b (V 51) (V 52) (V 53) x i.toNat V) hm.1.1 (V 52 i) 1 (V 53 i) (by omega) (by omega)) mf_X1_put km_X6_28 rfl hl rfl (Nat.le_of_ble_eq_true rfl) (by rw [hR]; exact ⟨Nat.le_of_ble_eq_true rfl, Nat.le_of_ble_eq_true rfl⟩) ⟨Nat.zero_le _, Nat.zero_le _⟩ dX6_carryOut_49) (fun V1 H locs hp hG hS => ?_)
              have eV := hp
              rw [← es] at eV
              rw [eV] at hG
              refine x_goto E 101 dX6_carryOut_52 (by decide) ?_
              exact L101_2   _ _ _ hG hS (lv_sub hl [0, 1, 2, 3] rfl)
          · rw [if_neg (by omega)] at es
            rw [← es] at hG
            refine x_goto E 101 dX6_carryOut_23 (by decide) ?_
            exact L101_2   _ _ _ hG hS (lv_sub hl [0, 1, 2, 3] rfl)
  exact L2_1 _ 0 (by omega) (by omega) (Nat.lt_succ_self _) _ _ _ hG hS (lv_sub hl [1, 2, 3, 0] rfl)

set_option maxHeartbeats 4000000 in
set_option maxRecDepth 100000 in
theorem c_X2_add (l : Launch) {X : We} {n : Nat} (hX : isX X n) (V : Mem) (hk : 0 ≤ V 55 3 ∧ V 55 3 ≤ 20) (c v d : Int) : Mt l X V yX2_add cX2_add 4 (some .int) 0 0 [.ref (wa X 55), .int (jI c), .int (jI v), .int (jI d)] (Qi X (fun z V1 => if V 55 3 < 20 then z = V 55 3 + 1 ∧ V1 = flM c v d V else z = -1 ∧ V1 = V)) := by
  refine Mt.go (by decide) (Nat.le_of_ble_eq_true rfl) ?_
  intro pg ev s0 mi bl mt cd ls Rm ag Qq hR hQ E hI hG hS hl
  have hl : lv_has ls 4 [(0, .ref (wa X 55)), (1, .int (jI c)), (2, .int (jI v)), (3, .int (jI d))] := hl
  refine x_aload_n E dX2_add_0 (lv_at hl 0 rfl) ?_
  refine x_geti E hI hG (xf0 hX) cf2 3 (V 55 3) rfl (by decide) rfl kf_X2_21 dX2_add_1 ?_
  refine x_if_lt E 16 dX2_add_4 (by decide) (by unfold rg; omega) (fun c4 => ?_) (fun c4 => ?_)
  · omega
  · refine x_aload_n E dX2_add_7 (lv_at hl 0 rfl) ?_
    refine x_geti E hI hG (xf0 hX) cf2 3 (V 55 3) rfl (by decide) rfl kf_X2_21 dX2_add_8 ?_
    refine x_bipush E dX2_add_11 (by decide) ?_
    refine x_icmp_lt E 18 dX2_add_13 (by decide) (by unfold rg; omega) (by unfold rg; omega) (fun c13 => ?_) (fun c13 => ?_)
    · refine x_aload_n E dX2_add_18 (lv_at hl 0 rfl) ?_
      refine x_getr E hI hG (xf0 hX) cf2 0 56 rfl (by decide) kf_X2_9 dX2_add_19 ?_
      refine x_aload_n E dX2_add_22 (lv_at hl 0 rfl) ?_
      refine x_geti E hI hG (xf0 hX) cf2 3 (V 55 3) rfl (by decide) rfl kf_X2_21 dX2_add_23 ?_
      refine x_iload_n E dX2_add_26 (lv_at hl 1 rfl) ?_
      refine x_iast E hI hG hS (xf1 hX) (by omega) dX2_add_27 (fun H locs hG hS => ?_)
      refine x_aload_n E dX2_add_28 (lv_at hl 0 rfl) ?_
      refine x_getr E hI hG (xf0 hX) cf2 1 57 rfl (by decide) kf_X2_15 dX2_add_29 ?_
      refine x_aload_n E dX2_add_32 (lv_at hl 0 rfl) ?_
      refine x_geti E hI hG (xf0 hX) cf2 3 (V 55 3) rfl (by decide) (show (st V 56 (V 55 3) c) 55 3 = V 55 3 from (by rw [st_p (by decide)])) kf_X2_21 dX2_add_33 ?_
      refine x_iload_n E dX2_add_36 (lv_at hl 2 rfl) ?_
      refine x_iast E hI hG hS (xf2 hX) (by omega) dX2_add_37 (fun H locs hG hS => ?_)
      refine x_aload_n E dX2_add_38 (lv_at hl 0 rfl) ?_
      refine x_getr E hI hG (xf0 hX) cf2 2 58 rfl (by decide) kf_X2_18 dX2_add_39 ?_
      refine x_aload_n E dX2_add_42 (lv_at hl 0 rfl) ?_
      refine x_geti E hI hG (xf0 hX) cf2 3 (V 55 3) rfl (by decide) (show (st (st V 56 (V 55 3) c) 57 (V 55 3) v) 55 3 = V 55 3 from (by rw [st_p (by decide), st_p (by decide)])) kf_X2_21 dX2_add_43 ?_
      refine x_iload_n E dX2_add_46 (lv_at hl 3 rfl) ?_
      refine x_iast E hI hG hS (xf3 hX) (by omega) dX2_add_47 (fun H locs hG hS => ?_)
      refine x_aload_n E dX2_add_48 (lv_at hl 0 rfl) ?_
      refine x_dup E dX2_add_49 rfl ?_
      refine x_geti E hI hG (xf0 hX) cf2 3 (V 55 3) rfl (by decide) (show (st (st (st V 56 (V 55 3) c) 57 (V 55 3) v) 58 (V 55 3) d) 55 3 = V 55 3 from (by rw [st_p (by decide), st_p (by decide), st_p (by decide)])) kf_X2_21 dX2_add_50 ?_
      refine x_iconst E dX2_add_53 ?_
      refine x_iadd E dX2_add_54 ?_
      refine x_puti E hI hG hS (xf0 hX) cf2 3 3 rfl rfl (by decide) rfl rfl kf_X2_21 dX2_add_55 (fun H locs hG hS => ?_)
      refine x_aload_n E dX2_add_58 (lv_at hl 0 rfl) ?_
      refine x_geti E hI hG (xf0 hX) cf2 3 (V 55 3 + 1) rfl (by decide) (show (st (st (st (st V 56 (V 55 3) c) 57 (V 55 3) v) 58 (V 55 3) d) 55 3 ((V 55 3) + 1)) 55 3 = V 55 3 + 1 from (st_s _ _ _ _)) kf_X2_21 dX2_add_59 ?_
      exact r_i E hQ hG hS dX2_add_62 (by rw [if_pos (by omega)]; exact ⟨rfl, rfl⟩)
    · refine x_iconst E dX2_add_16 ?_
      exact r_i E hQ hG hS dX2_add_17 (by rw [if_neg (by omega)]; exact ⟨rfl, rfl⟩)

set_option maxHeartbeats 4000000 in
set_option maxRecDepth 100000 in
theorem c_X2_agreeWith (l : Launch) {X : We} {n b : Nat} (hX : isX X n) (hb : isD b) {wd hi t : Int} (V : Mem) (hk : Mid V n wd hi b t) (hfl : FL V n) : Mt l X V yX2_agreeWith cX2_agreeWith 3 (some .boolean) 3 70 [.ref (wa X 55), .ref (wa X b)] (Qi X (fun z V1 => z = b2i (agK (V (b + 1)) (V 56) (V 57) (V 58) (V 55 3).toNat) ∧ V1 = V)) := by
  refine Mt.go (by decide) (Nat.le_of_ble_eq_true rfl) ?_
  intro pg ev s0 mi bl mt cd ls Rm ag Qq hR hQ E hI hG hS hl
  have hl : lv_has ls 3 [(0, .ref (wa X 55)), (1, .ref (wa X b))] := hl
  obtain ⟨hb1, hb2⟩ := isD.ge hb
  have hf4 := hfl.1
  refine x_iconst E dX2_agreeWith_0 ?_
  refine x_istore_n E [(2, .int (jI 0)), (0, .ref (wa X 55)), (1, .ref (wa X b))] dX2_agreeWith_1 hl (by decide) rfl (fun ls hl => ?_)
  have L2_1 : ∀ (N : Nat) (i : Int), (0 ≤ i) → (i ≤ V 55 3) → (agK (V (b + 1)) (V 56) (V 57) (V 58) i.toNat = true) → ((V 55 3 - i).toNat) < N → ∀ (H : Heap) (locs : List Loc) (ls : Array Slot), GW X V H → va_S (wA X) s0.heap H locs → lv_has ls 3 [(0, .ref (wa X 55)), (1, .ref (wa X b)), (2, .int (jI i))] → W pg l ev Rm s0 mi ag bl mt cd H locs 0 0 Qq (F0 mi 2 ls []) := by
    intro N
    induction N with
    | zero => intro i i0 i1 hg hN; exact absurd hN (Nat.not_lt_zero _)
    | succ N ih2 =>
      intro i i0 i1 hg hN H locs ls hG hS hl
      refine x_iload_n E dX2_agreeWith_2 (lv_at hl 2 rfl) ?_
      refine x_aload_n E dX2_agreeWith_3 (lv_at hl 0 rfl) ?_
      refine x_geti E hI hG (xf0 hX) cf2 3 (V 55 3) rfl (by decide) rfl kf_X2_21 dX2_agreeWith_4 ?_
      refine x_icmp_ge E 54 dX2_agreeWith_7 (by decide) (by unfold rg; omega) (by unfold rg; omega) (fun c7 => ?_) (fun c7 => ?_)
      · refine x_iconst E dX2_agreeWith_54 ?_
        exact r_z E hQ hG hS dX2_agreeWith_55 (Or.inr rfl) (⟨by rw [show V 55 3 = i by omega, hg]; rfl, rfl⟩)
      · refine x_iload_n E dX2_agreeWith_10 (lv_at hl 2 rfl) ?_
        refine x_bipush E dX2_agreeWith_11 (by decide) ?_
        refine x_icmp_ge E 54 dX2_agreeWith_13 (by decide) (by unfold rg; omega) (by unfold rg; omega) (fun c13 => ?_) (fun c13 => ?_)
        · omega
        · have hfi := hfl.2 i i0 (by omega)
          have hv := (hk.1.2.1.ps hk.1.1.2.2.2.1).1 (V 56 i) hfi.1.1 hfi.1.2
          have es := agK_s (h := V (b + 1)) (cf := V 56) (sf := V 57) (mf := V 58) i0
          refine x_aload_n E dX2_agreeWith_16 (lv_at hl 1 rfl) ?_
          refine x_aload_n E dX2_agreeWith_17 (lv_at hl 0 rfl) ?_
          refine x_getr E hI hG (xf0 hX) cf2 0 56 rfl (by decide) kf_X2_9 dX2_agreeWith_18 ?_
          refine x_iload_n E dX2_agreeWith_21 (lv_at hl 2 rfl) ?_
          refine x_iald E hI hG (xf1 hX) (V 56 i) rfl (by omega) dX2_agreeWith_22 ?_
          refine x_iconst E dX2_agreeWith_23 ?_
          refine x_ci hG hS (x_runV E hI hG hS (xd0 hX hb) cf1 rfl (c_X1_look l hX hb V hk (V 56 i) 0 hfi.1 (by unfold rg; omega)) mf_X1_look km_X2_25 rfl hl rfl (Nat.le_of_ble_eq_true rfl) (by rw [hR]; exact ⟨Nat.le_of_ble_eq_true rfl, Nat.le_of_ble_eq_true rfl⟩) ⟨Nat.zero_le _, Nat.zero_le _⟩ dX2_agreeWith_24) (fun z1 V1 H locs hp hG hS => ?_)
          obtain ⟨ez, eV⟩ := hp
          rw [show lookV wd hi b (V 56 i) 0 V = V (b + 1) (V 56 i) from rfl] at ez
          rw [eV] at hG
          rw [ez]
          refine x_aload_n E dX2_agreeWith_27 (lv_at hl 0 rfl) ?_
          refine x_getr E hI hG (xf0 hX) cf2 1 57 rfl (by decide) kf_X2_15 dX2_agreeWith_28 ?_
          refine x_iload_n E dX2_agreeWith_31 (lv_at hl 2 rfl) ?_
          refine x_iald E hI hG (xf2 hX) (V 57 i) rfl (by omega) dX2_agreeWith_32 ?_
          refine x_isub E dX2_agreeWith_33 ?_
          refine x_abs E hl km_X2_31 (by rw [hR]; exact ⟨Nat.le_of_ble_eq_true rfl, Nat.le_of_ble_eq_true rfl⟩) ⟨Nat.zero_le _, Nat.zero_le _⟩ (by unfold rg; omega) dX2_agreeWith_34 ?_
          refine x_aload_n E dX2_agreeWith_37 (lv_at hl 0 rfl) ?_
          refine x_getr E hI hG (xf0 hX) cf2 2 58 rfl (by decide) kf_X2_18 dX2_agreeWith_38 ?_
          refine x_iload_n E dX2_agreeWith_41 (lv_at hl 2 rfl) ?_
          refine x_iald E hI hG (xf3 hX) (V 58 i) rfl (by omega) dX2_agreeWith_42 ?_
          refine x_icmp_le E 48 dX2_agreeWith_43 (by decide) (by unfold rg; omega) (by unfold rg; omega) (fun c43 => ?_) (fun c43 => ?_)
          · refine x_iinc E (k := 2) [(2, .int (jI (i + 1))), (0, .ref (wa X 55)), (1, .ref (wa X b))] dX2_agreeWith_48 hl rfl (by decide) rfl (fun ls hl => ?_)
            refine x_goto E 2 dX2_agreeWith_51 (by decide) ?_
            exact ih2 (i + 1) (by omega) (by omega) (by rw [es, hg, Bool.true_and, decide_eq_true_iff]; split at c43 <;> omega) (by omega) _ _ _ hG hS (lv_sub hl [1, 2, 0] rfl)
          · refine x_iconst E dX2_agreeWith_46 ?_
            exact r_z E hQ hG hS dX2_agreeWith_47 (Or.inl rfl) (⟨by
                      have q : agK (V (b + 1)) (V 56) (V 57) (V 58) (i + 1).toNat = false := by rw [es, hg, Bool.true_and, decide_eq_false_iff_not]; split at c43 <;> omega
                      have := agK_no q ((V 55 3).toNat - (i + 1).toNat)
                      rw [show (i + 1).toNat + ((V 55 3).toNat - (i + 1).toNat) = (V 55 3).toNat by omega] at this
                      rw [this]; rfl, rfl⟩)
  exact L2_1 _ 0 (by omega) (by omega) rfl (Nat.lt_succ_self _) _ _ _ hG hS (lv_sub hl [1, 2, 0] rfl)
