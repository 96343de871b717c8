def XI (V : Mem) (n : Nat) (wd hi : Int) : Prop := Inv V n wd hi bN ∧ Inv V n wd hi bM ∧ V (bT + 9) = (fun _ => 0) ∧ TP V ∧ WK V n ∧ FL V n
def mlF (k : Int) : Int := if k = 0 then 100 else if k = 1 then 99 else if k = 2 then 20 else 999
theorem q_ml {k : Int} (h0 : 0 ≤ k) (h1 : k ≤ 3) : zML (jI k).toNatClampNeg = .int (jI (mlF k)) := by
  rcases (show k = 0 ∨ k = 1 ∨ k = 2 ∨ k = 3 by omega) with rfl | rfl | rfl | rfl <;> decide
theorem mlF_rg (k : Int) : 20 ≤ mlF k ∧ mlF k ≤ 999 := by
  unfold mlF
  split; omega
  split; omega
  split <;> omega
def rlM (a0 a1 a2 a3 a4 : Int) (V : Mem) : Mem := st (st (st (st (st V (bN + 10) 0 a0) (bN + 10) 1 a1) (bN + 10) 2 a2) (bN + 10) 3 a3) (bN + 10) 4 a4
/-- what winds() leaves -/
def WdP (V V1 : Mem) (z : Int) : Prop := z = (if (PR0 (V 46) (V 45 1)).1 = 0 then (PR0 (V 46) (V 45 1)).2.2.1 else -1) ∧ V1 45 1 = 0 ∧ V1 45 2 = (PR0 (V 46) (V 45 1)).1 ∧ V1 45 3 = (PR0 (V 46) (V 45 1)).2.1 ∧ (∀ p, p ≠ 45 → p ≠ 47 → p ≠ 48 → p ≠ 49 → p ≠ bN + 11 → p ≠ bN + 12 → p ≠ bN + 13 → V1 p = V p) ∧ ((PR0 (V 46) (V 45 1)).1 ≠ 0 → V1 (bN + 11) = V (bN + 11) ∧ V1 (bN + 12) = V (bN + 12) ∧ V1 (bN + 13) = V (bN + 13)) ∧ ((PR0 (V 46) (V 45 1)).1 = 0 → V1 (bN + 11) 2 = (PR0 (V 46) (V 45 1)).2.2.1 ∧ V1 (bN + 11) 3 = 0 ∧ V1 (bN + 11) 4 = 0 ∧ ∀ k : Int, 0 ≤ k → k < (PR0 (V 46) (V 45 1)).2.2.1 → V1 (bN + 12) k = (PR0 (V 46) (V 45 1)).2.2.2.1 k ∧ V1 (bN + 13) k = (PR0 (V 46) (V 45 1)).2.2.2.2 k)
def abF (V : Mem) (n : Nat) (wd hi k : Int) : Int := if 20 ≤ k ∧ k ≤ 24 then V (bN + 10) (k - 20) else if k = 0 then V bN 12 else if k = 1 then wd else if k = 2 then hi else if k = 3 then su n (V (bN + 1)) else if k = 4 then V bN 13 else if k = 5 then V bN 14 else if k = 6 then V bN 15 else if k = 7 then V (bN + 11) 2 else if k = 8 then wnd (bN + 11) V else if k = 9 then V 45 1 else if k = 10 then V 50 4 else if k = 11 then V 55 3 else if k = 12 then V bM 12 else -1
/-- nothing that can be seen has changed: the trial shore and the fewest grains alone -/
def hid (V V1 : Mem) : Prop := (∀ p, p ≠ 0 → (p < bT ∨ bT + 14 ≤ p) → V1 p = V p) ∧ V1 (bT + 9) = V (bT + 9)
/-- which hops fit -/
noncomputable def agX (V : Mem) (n : Nat) (wd hi k h : Int) : Bool := agK (psM n wd hi bT k.toNat (st (cpF V bT bM) (bT + 10) 0 h) (bT + 1)) (V 56) (V 57) (V 58) (V 55 3).toNat
noncomputable def ftK (V : Mem) (n : Nat) (wd hi k : Int) : Nat → Int
  | 0 => 0
  | h + 1 => ftK V n wd hi k h + (if agX V n wd hi k ((h + 1 : Nat) : Int) = true then 2 ^ (h + 1) else 0)
theorem ftK_rg (V : Mem) (n : Nat) (wd hi k : Int) : ∀ h : Nat, 0 ≤ ftK V n wd hi k h ∧ ftK V n wd hi k h < 2 ^ (h + 1)
  | 0 => by show (0 : Int) ≤ 0 ∧ (0 : Int) < 2 ^ 1; omega
  | h + 1 => by
    have ih := ftK_rg V n wd hi k h
    have e : (2 : Int) ^ (h + 1 + 1) = 2 ^ (h + 1) * 2 := Int.pow_succ 2 (h + 1)
    unfold ftK
    rw [e]
    split <;> omega
theorem q_orb {a : Int} {h : Nat} (h1 : h ≤ 5) (a0 : 0 ≤ a) (a1 : a < 2 ^ h) : jI a ||| (jI 1 <<< (jI (h : Int) &&& 31)) = jI (a + 2 ^ h) := by
  obtain ⟨x, rfl⟩ := Int.eq_ofNat_of_zero_le a0
  have e : jI 1 <<< (jI (h : Int) &&& 31) = nI (2 ^ h) := by
    rcases (show h = 0 ∨ h = 1 ∨ h = 2 ∨ h = 3 ∨ h = 4 ∨ h = 5 by omega) with rfl | rfl | rfl | rfl | rfl | rfl <;> decide
  have hx : x < 2 ^ h := by exact_mod_cast a1
  rw [e, ← j_nat, q_orI, Nat.or_comm]
  have := Nat.two_pow_add_eq_or_of_lt hx 1
  rw [Nat.mul_one] at this
  rw [← this, j_nat]
  congr 1
  push_cast
  omega
/-- the cost and the grains of a set of works -/
def csX (V : Mem) (x : Int) : Int := su (V 50 4).toNat (csK (V 54) x)
noncomputable def grX (V : Mem) (n : Nat) (wd hi k x : Int) : Int := su n (hsF (psM n wd hi bT k.toNat (coM n wd hi bT (V 51) (V 52) (V 53) x (V 50 4).toNat (cpF V bT bN))) bT)
/-- the best of the first x sets: set, cost, grains -/
def bsF (c g : Int → Int) (m : Int) : Nat → Int × Int × Int
  | 0 => (-1, 0, -1)
  | x + 1 => if m < c (x : Int) then bsF c g m x else if (bsF c g m x).1 = -1 ∨ g (x : Int) < (bsF c g m x).2.2 ∨ (g (x : Int) = (bsF c g m x).2.2 ∧ c (x : Int) < (bsF c g m x).2.1) then ((x : Int), c (x : Int), g (x : Int)) else bsF c g m x
theorem bsF_s {c g : Int → Int} {m x : Int} (h : 0 ≤ x) : bsF c g m (x + 1).toNat = if m < c x then bsF c g m x.toNat else if (bsF c g m x.toNat).1 = -1 ∨ g x < (bsF c g m x.toNat).2.2 ∨ (g x = (bsF c g m x.toNat).2.2 ∧ c x < (bsF c g m x.toNat).2.1) then (x, c x, g x) else bsF c g m x.toNat := by
  rw [show (x + 1).toNat = x.toNat + 1 by omega]
  show (if m < c (x.toNat : Int) then _ else if _ ∨ g (x.toNat : Int) < _ ∨ (g (x.toNat : Int) = _ ∧ c (x.toNat : Int) < _) then ((x.toNat : Int), c (x.toNat : Int), g (x.toNat : Int)) else _) = _
  rw [Int.toNat_of_nonneg h]
theorem bsF_rg {c g : Int → Int} {m C G : Int} (hc : ∀ x : Int, 0 ≤ x → 0 ≤ c x ∧ c x ≤ C) (hg : ∀ x : Int, 0 ≤ x → 0 ≤ g x ∧ g x ≤ G) : ∀ x : Nat, (bsF c g m x = (-1, 0, -1)) ∨ (0 ≤ (bsF c g m x).1 ∧ (bsF c g m x).1 < (x : Int) ∧ 0 ≤ (bsF c g m x).2.1 ∧ (bsF c g m x).2.1 ≤ C ∧ 0 ≤ (bsF c g m x).2.2 ∧ (bsF c g m x).2.2 ≤ G)
  | 0 => Or.inl rfl
  | x + 1 => by
    have ih := bsF_rg (m := m) hc hg x
    have q1 := hc (x : Int) (by omega)
    have q2 := hg (x : Int) (by omega)
    have ih2 : (bsF c g m x = (-1, 0, -1)) ∨ (0 ≤ (bsF c g m x).1 ∧ (bsF c g m x).1 < ((x + 1 : Nat) : Int) ∧ 0 ≤ (bsF c g m x).2.1 ∧ (bsF c g m x).2.1 ≤ C ∧ 0 ≤ (bsF c g m x).2.2 ∧ (bsF c g m x).2.2 ≤ G) := by
      rcases ih with q | q
      · exact Or.inl q
      · exact Or.inr ⟨q.1, by omega, q.2.2⟩
    unfold bsF
    split
    · exact ih2
    · split
      · exact Or.inr ⟨by show (0 : Int) ≤ (x : Int); omega, by show (x : Int) < ((x + 1 : Nat) : Int); omega, q1.1, q1.2, q2.1, q2.2⟩
      · exact ih2
theorem bsF_1 {c g : Int → Int} {m : Int} (h : c 0 ≤ m) : ∀ x : Nat, 1 ≤ x → (bsF c g m x).1 ≠ -1
  | 0, h1 => by omega
  | 1, _ => by
    unfold bsF
    rw [if_neg (show ¬ m < c ((0 : Nat) : Int) by show ¬ m < c 0; omega), if_pos (show (bsF c g m 0).1 = -1 ∨ _ from Or.inl rfl)]
    show ((0 : Nat) : Int) ≠ -1
    omega
  | x + 2, _ => by
    have ih := bsF_1 (g := g) h (x + 1) (by omega)
    unfold bsF
    split
    · exact ih
    · split
      · show ((x + 1 : Nat) : Int) ≠ -1; omega
      · exact ih
theorem q_pow {c : Int} (h0 : 0 ≤ c) (h1 : c ≤ 4) : jI 1 <<< (jI c &&& 31) = jI (2 ^ c.toNat) := by
  rcases (show c = 0 ∨ c = 1 ∨ c = 2 ∨ c = 3 ∨ c = 4 by omega) with rfl | rfl | rfl | rfl | rfl <;> decide
theorem pow_rg {c : Int} (h0 : 0 ≤ c) (h1 : c ≤ 4) : 1 ≤ (2 : Int) ^ c.toNat ∧ (2 : Int) ^ c.toNat ≤ 16 := by
  rcases (show c = 0 ∨ c = 1 ∨ c = 2 ∨ c = 3 ∨ c = 4 by omega) with rfl | rfl | rfl | rfl | rfl <;> decide
theorem cpF_p {V : Mem} {b a p : Nat} (h : p < b ∨ b + 14 ≤ p) : cpF V b a p = V p := by unfold cpF; rw [if_pos (by omega)]
theorem cpF_9 {V : Mem} {b a : Nat} : cpF V b a (b + 9) = V (b + 9) := by unfold cpF; rw [if_pos (by omega)]
theorem cpF_j {V : Mem} {b a j : Nat} (h : j < 14) (h9 : j ≠ 9) : cpF V b a (b + j) = V (a + j) := by unfold cpF; rw [if_neg (by omega), show b + j - b = j by omega]
theorem cpF_b {V : Mem} {b a : Nat} : cpF V b a b = V a := by unfold cpF; rw [if_neg (by omega), show a + (b - b) = a by omega]
theorem cpF_same {V V1 : Mem} {b a : Nat} (hab : a + 14 ≤ b ∨ b + 14 ≤ a) (h : ∀ p, (p < b ∨ b + 14 ≤ p) → V1 p = V p) (h9 : V1 (b + 9) = V (b + 9)) : cpF V1 b a = cpF V b a := by
  funext p
  unfold cpF
  split
  · rename_i q
    rcases q with q | q | q
    · exact h p (Or.inl q)
    · exact h p (Or.inr q)
    · rw [q]; exact h9
  · exact h _ (by omega)
theorem cpF_0 {V V1 : Mem} {b a : Nat} (h3 : 3 ≤ b) (h3a : 3 ≤ a) (hab : a + 14 ≤ b ∨ b + 14 ≤ a) (h : ∀ p, p ≠ 0 → (p < b ∨ b + 14 ≤ p) → V1 p = V p) (h9 : V1 (b + 9) = V (b + 9)) : cpF V1 b a = sp (cpF V b a) 0 (V1 0) := by
  funext p
  by_cases e : p = 0
  · rw [e, sp_s]; unfold cpF; rw [if_pos (by omega)]
  · rw [sp_n e]
    unfold cpF
    split
    · rename_i q
      rcases q with q | q | q
      · exact h p e (Or.inl q)
      · exact h p e (Or.inr q)
      · rw [q]; exact h9
    · exact h _ (by omega) (by omega)
/-- a copied shore is as good as what it was copied from -/
theorem Inv.cp {V : Mem} {n b a : Nat} {wd hi : Int} (hb : 3 ≤ b) (h : Inv V n wd hi a) (hz : V (b + 9) = fun _ => 0) : Inv (cpF V b a) n wd hi b := by
  obtain ⟨⟨a1, a2, a3⟩, a4, a5, a6⟩ := h
  unfold Inv
  rw [cpF_b]
  refine ⟨⟨a1.of (cpF_p (by omega)) (cpF_p (by omega)), ?_, by rw [cpF_9]; exact hz⟩, ?_, ?_, a6⟩
  · rw [cpF_j (by decide) (by decide), cpF_j (by decide) (by decide)]; exact a2
  · unfold DR
    rw [cpF_j (j := 2) (by decide) (by decide), cpF_j (j := 3) (by decide) (by decide), cpF_j (j := 4) (by decide) (by decide), cpF_j (j := 5) (by decide) (by decide), cpF_j (j := 6) (by decide) (by decide), cpF_j (j := 7) (by decide) (by decide), cpF_j (j := 10) (by decide) (by decide)]
    exact a4
  · unfold SK
    rw [cpF_j (j := 11) (by decide) (by decide), show b + 11 + 1 = b + 12 from rfl, show b + 11 + 2 = b + 13 from rfl, cpF_j (j := 12) (by decide) (by decide), cpF_j (j := 13) (by decide) (by decide)]
    exact a5

set_option maxHeartbeats 4000000 in
set_option maxRecDepth 100000 in
theorem c_X7_heap (l : Launch) {X : We} {n : Nat} (hX : isX X n) {wd hi : Int} (V : Mem) (hk : XI V n wd hi) (c v : Int) (hc : rg c) (hv : rg v) : Mt l X V yX7_heap cX7_heap 3 (some .boolean) 4 92 [.ref (wa X 0), .int (jI c), .int (jI v)] (Qi X (fun z V1 => z = b01 (0 ≤ c ∧ c < (n : Int) ∧ 0 ≤ v ∧ v ≤ 999) ∧ V1 = if 0 ≤ c ∧ c < (n : Int) ∧ 0 ≤ v ∧ v ≤ 999 then hput n wd hi bN c v (sp V (bN + 2) (ui (V (bN + 2)) c v)) else V)) := by
  refine Mt.go (by decide) (Nat.le_of_ble_eq_true rfl) ?_
  intro pg ev s0 mi bl mt cd ls Rm ag Qq hR hQ E hI hG hS hl
  have hl : lv_has ls 3 [(0, .ref (wa X 0)), (1, .int (jI c)), (2, .int (jI v))] := hl
  obtain ⟨iN, iM, zT, hTP, hWK, hFL⟩ := id hk
  have hs : Sh V n wd hi := iN.1.1
  have hd := hs.2.2.2.1
  obtain ⟨hn1, hn2⟩ := dims.n hd
  have dyN := iN.2.2.2
  have dyM := iM.2.2.2
  unfold rg at hc hv
  have L22_1 : (¬ (0 ≤ c ∧ c < (n : Int) ∧ 0 ≤ v ∧ v ≤ 999)) → ∀ (H : Heap) (locs : List Loc) (ls : Array Slot), GW X V H → va_S (wA X) s0.heap H locs → lv_has ls 3 [] → W pg l ev Rm s0 mi ag bl mt cd H locs 0 0 Qq (F0 mi 22 ls []) := by
    intro  hno H locs ls hG hS hl
    refine x_iconst E dX7_heap_22 ?_
    exact r_z E hQ hG hS dX7_heap_23 (Or.inl rfl) (⟨(b01_0 hno).symm, by rw [if_neg hno]⟩)
  refine x_aload_n E dX7_heap_0 (lv_at hl 0 rfl) ?_
  refine x_getr E hI hG (xb0 hX) cf7 0 1 rfl (by decide) kf_X7_18 dX7_heap_1 ?_
  refine x_iload_n E dX7_heap_4 (lv_at hl 1 rfl) ?_
  refine x_ci hG hS (x_runV E hI hG hS (xs0 hX) cf3 rfl (c_X3_has l hX V hs c (by unfold rg; omega)) mf_X3_has km_X7_62 rfl hl rfl (Nat.le_of_ble_eq_true rfl) (by rw [hR]; exact ⟨Nat.le_of_ble_eq_true rfl, Nat.le_of_ble_eq_true rfl⟩) ⟨Nat.zero_le _, Nat.zero_le _⟩ dX7_heap_5) (fun z1 V1 H locs hp hG hS => ?_)
  obtain ⟨ez, eV⟩ := hp
  rw [eV] at hG
  rw [ez]
  refine x_if_eq E 22 dX7_heap_8 (by decide) b01_rg (fun c8 => ?_) (fun c8 => ?_)
  · have q8 := b01_iff0.mp c8
    exact L22_1  (by omega) _ _ _ hG hS (lv_sub hl [] rfl)
  · have q8 := b01_ne c8
    refine x_iload_n E dX7_heap_11 (lv_at hl 2 rfl) ?_
    refine x_iconst E dX7_heap_12 ?_
    refine x_sipush E dX7_heap_13 (by decide) ?_
    refine x_ci hG hS (x_runS E hI hG hS (c_X7_isWithin l V v 0 999 (by unfold rg; omega) (by unfold rg; omega) (by unfold rg; omega)) mf_X7_isWithin km_X7_66 rfl hl rfl (Nat.le_of_ble_eq_true rfl) (by rw [hR]; exact ⟨Nat.le_of_ble_eq_true rfl, Nat.le_of_ble_eq_true rfl⟩) ⟨Nat.zero_le _, Nat.zero_le _⟩ dX7_heap_16) (fun z1 V1 H locs hp hG hS => ?_)
    obtain ⟨ez, eV⟩ := hp
    rw [eV] at hG
    rw [ez]
    refine x_if_ne E 24 dX7_heap_19 (by decide) b01_rg (fun c19 => ?_) (fun c19 => ?_)
    · have q19 := b01_ne c19
      refine x_aload_n E dX7_heap_24 (lv_at hl 0 rfl) ?_
      refine x_getr E hI hG (xb0 hX) cf7 1 bN rfl (by decide) kf_X7_27 dX7_heap_25 ?_
      refine x_iload_n E dX7_heap_28 (lv_at hl 1 rfl) ?_
      refine x_iload_n E dX7_heap_29 (lv_at hl 2 rfl) ?_
      refine x_cv hG hS (x_runV E hI hG hS (xd0 hX isN) cf1 rfl (c_X1_pile l hX isN V iN.1 c v (by omega) (by omega)) mf_X1_pile km_X7_70 rfl hl rfl (Nat.le_of_ble_eq_true rfl) (by rw [hR]; exact ⟨Nat.le_of_ble_eq_true rfl, Nat.le_of_ble_eq_true rfl⟩) ⟨Nat.zero_le _, Nat.zero_le _⟩ dX7_heap_30) (fun V1 H locs hp hG hS => ?_)
      have eV := hp
      rw [eV] at hG
      refine x_iconst E dX7_heap_33 ?_
      exact r_z E hQ hG hS dX7_heap_34 (Or.inr rfl) (⟨(b01_1 (by omega)).symm, by rw [if_pos (by omega)]⟩)
    · have q19 := b01_iff0.mp c19
      exact L22_1  (by omega) _ _ _ hG hS (lv_sub hl [] rfl)

set_option maxHeartbeats 4000000 in
set_option maxRecDepth 100000 in
theorem c_X7_lay (l : Launch) {X : We} {n : Nat} (hX : isX X n) {wd hi : Int} (V : Mem) (hk : XI V n wd hi) (c k v : Int) (hc : rg c) (hk2 : rg k) (hv : rg v) : Mt l X V yX7_lay cX7_lay 4 (some .boolean) 2 44 [.ref (wa X 0), .int (jI c), .int (jI k), .int (jI v)] (Qi X (fun z V1 => z = b01 (0 ≤ c ∧ c < (n : Int) ∧ 0 ≤ k ∧ k ≤ 3 ∧ 0 ≤ v ∧ v ≤ mlF k) ∧ V1 = if 0 ≤ c ∧ c < (n : Int) ∧ 0 ≤ k ∧ k ≤ 3 ∧ 0 ≤ v ∧ v ≤ mlF k then layM bN c k v V else V)) := by
  refine Mt.go (by decide) (Nat.le_of_ble_eq_true rfl) ?_
  intro pg ev s0 mi bl mt cd ls Rm ag Qq hR hQ E hI hG hS hl
  have hl : lv_has ls 4 [(0, .ref (wa X 0)), (1, .int (jI c)), (2, .int (jI k)), (3, .int (jI v))] := hl
  obtain ⟨iN, iM, zT, hTP, hWK, hFL⟩ := id hk
  have hs : Sh V n wd hi := iN.1.1
  have hd := hs.2.2.2.1
  obtain ⟨hn1, hn2⟩ := dims.n hd
  have dyN := iN.2.2.2
  have dyM := iM.2.2.2
  unfold rg at hc hk2 hv
  obtain ⟨-, -, zZ, zT4, -⟩ := id hI.2.2.2.1
  have hml := mlF_rg k
  have L38_1 : (¬ (0 ≤ c ∧ c < (n : Int) ∧ 0 ≤ k ∧ k ≤ 3 ∧ 0 ≤ v ∧ v ≤ mlF k)) → ∀ (H : Heap) (locs : List Loc) (ls : Array Slot), GW X V H → va_S (wA X) s0.heap H locs → lv_has ls 4 [] → W pg l ev Rm s0 mi ag bl mt cd H locs 0 0 Qq (F0 mi 38 ls []) := by
    intro  hno H locs ls hG hS hl
    refine x_iconst E dX7_lay_38 ?_
    exact r_z E hQ hG hS dX7_lay_39 (Or.inl rfl) (⟨(b01_0 hno).symm, by rw [if_neg hno]⟩)
  refine x_aload_n E dX7_lay_0 (lv_at hl 0 rfl) ?_
  refine x_getr E hI hG (xb0 hX) cf7 0 1 rfl (by decide) kf_X7_18 dX7_lay_1 ?_
  refine x_iload_n E dX7_lay_4 (lv_at hl 1 rfl) ?_
  refine x_ci hG hS (x_runV E hI hG hS (xs0 hX) cf3 rfl (c_X3_has l hX V hs c (by unfold rg; omega)) mf_X3_has km_X7_62 rfl hl rfl (Nat.le_of_ble_eq_true rfl) (by rw [hR]; exact ⟨Nat.le_of_ble_eq_true rfl, Nat.le_of_ble_eq_true rfl⟩) ⟨Nat.zero_le _, Nat.zero_le _⟩ dX7_lay_5) (fun z1 V1 H locs hp hG hS => ?_)
  obtain ⟨ez, eV⟩ := hp
  rw [eV] at hG
  rw [ez]
  refine x_if_eq E 38 dX7_lay_8 (by decide) b01_rg (fun c8 => ?_) (fun c8 => ?_)
  · have q8 := b01_iff0.mp c8
    exact L38_1  (by omega) _ _ _ hG hS (lv_sub hl [] rfl)
  · have q8 := b01_ne c8
    refine x_iload_n E dX7_lay_11 (lv_at hl 2 rfl) ?_
    refine x_iconst E dX7_lay_12 ?_
    refine x_gets E zZ hS kf_X7_73 dX7_lay_13 ?_
    refine x_tlen E zT4 hS dX7_lay_16 ?_
    refine x_iconst E dX7_lay_17 ?_
    refine x_isub E dX7_lay_18 ?_
    refine x_topeq (3) (by omega) ?_
    refine x_ci hG hS (x_runS E hI hG hS (c_X7_isWithin l V k 0 3 (by unfold rg; omega) (by unfold rg; omega) (by unfold rg; omega)) mf_X7_isWithin km_X7_66 rfl hl rfl (Nat.le_of_ble_eq_true rfl) (by rw [hR]; exact ⟨Nat.le_of_ble_eq_true rfl, Nat.le_of_ble_eq_true rfl⟩) ⟨Nat.zero_le _, Nat.zero_le _⟩ dX7_lay_19) (fun z1 V1 H locs hp hG hS => ?_)
    obtain ⟨ez, eV⟩ := hp
    rw [eV] at hG
    rw [ez]
    refine x_if_eq E 38 dX7_lay_22 (by decide) b01_rg (fun c22 => ?_) (fun c22 => ?_)
    · have q22 := b01_iff0.mp c22
      exact L38_1  (by omega) _ _ _ hG hS (lv_sub hl [] rfl)
    · have q22 := b01_ne c22
      refine x_iload_n E dX7_lay_25 (lv_at hl 3 rfl) ?_
      refine x_iconst E dX7_lay_26 ?_
      refine x_gets E zZ hS kf_X7_73 dX7_lay_27 ?_
      refine x_iload_n E dX7_lay_30 (lv_at hl 2 rfl) ?_
      refine va_ti E.1 E.2.1 zT4 hS (j_in (by omega) (by omega)) (v := .int (jI (mlF k))) (q_ml (by omega) (by omega)) dX7_lay_31 ?_
      refine x_ci hG hS (x_runS E hI hG hS (c_X7_isWithin l V v 0 (mlF k) (by unfold rg; omega) (by unfold rg; omega) (by unfold rg; omega)) mf_X7_isWithin km_X7_66 rfl hl rfl (Nat.le_of_ble_eq_true rfl) (by rw [hR]; exact ⟨Nat.le_of_ble_eq_true rfl, Nat.le_of_ble_eq_true rfl⟩) ⟨Nat.zero_le _, Nat.zero_le _⟩ dX7_lay_32) (fun z1 V1 H locs hp hG hS => ?_)
      obtain ⟨ez, eV⟩ := hp
      rw [eV] at hG
      rw [ez]
      refine x_if_ne E 40 dX7_lay_35 (by decide) b01_rg (fun c35 => ?_) (fun c35 => ?_)
      · have q35 := b01_ne c35
        refine x_aload_n E dX7_lay_40 (lv_at hl 0 rfl) ?_
        refine x_getr E hI hG (xb0 hX) cf7 1 bN rfl (by decide) kf_X7_27 dX7_lay_41 ?_
        refine x_iload_n E dX7_lay_44 (lv_at hl 1 rfl) ?_
        refine x_iload_n E dX7_lay_45 (lv_at hl 2 rfl) ?_
        refine x_iload_n E dX7_lay_46 (lv_at hl 3 rfl) ?_
        refine x_cv hG hS (x_runV E hI hG hS (xd0 hX isN) cf1 rfl (c_X1_put l hX isN V hs c k v (by omega) (by omega)) mf_X1_put km_X7_77 rfl hl rfl (Nat.le_of_ble_eq_true rfl) (by rw [hR]; exact ⟨Nat.le_of_ble_eq_true rfl, Nat.le_of_ble_eq_true rfl⟩) ⟨Nat.zero_le _, Nat.zero_le _⟩ dX7_lay_47) (fun V1 H locs hp hG hS => ?_)
        have eV := hp
        rw [eV] at hG
        refine x_iconst E dX7_lay_50 ?_
        exact r_z E hQ hG hS dX7_lay_51 (Or.inr rfl) (⟨(b01_1 (by omega)).symm, by rw [if_pos (by omega)]⟩)
      · have q35 := b01_iff0.mp c35
        exact L38_1  (by omega) _ _ _ hG hS (lv_sub hl [] rfl)

set_option maxHeartbeats 4000000 in
set_option maxRecDepth 100000 in
theorem c_X7_rules (l : Launch) {X : We} {n : Nat} (hX : isX X n) {wd hi : Int} (V : Mem) (hk : XI V n wd hi) (a0 a1 a2 a3 a4 : Int) (h0 : rg a0) (h1 : rg a1) (h2 : rg a2) (h3 : rg a3) (h4 : rg a4) : Mt l X V yX7_rules cX7_rules 6 (some .boolean) 4 91 [.ref (wa X 0), .int (jI a0), .int (jI a1), .int (jI a2), .int (jI a3), .int (jI a4)] (Qi X (fun z V1 => z = b01 ((1 ≤ a0 ∧ a0 ≤ 5) ∧ (0 ≤ a1 ∧ a1 ≤ 100) ∧ (0 ≤ a2 ∧ a2 ≤ 100) ∧ (1 ≤ a3 ∧ a3 ≤ 9) ∧ 0 ≤ a4 ∧ a4 ≤ 20) ∧ V1 = if (1 ≤ a0 ∧ a0 ≤ 5) ∧ (0 ≤ a1 ∧ a1 ≤ 100) ∧ (0 ≤ a2 ∧ a2 ≤ 100) ∧ (1 ≤ a3 ∧ a3 ≤ 9) ∧ 0 ≤ a4 ∧ a4 ≤ 20 then hall n wd hi bN (rlM a0 a1 a2 a3 a4 V) else V)) := by
  refine Mt.go (by decide) (Nat.le_of_ble_eq_true rfl) ?_
  intro pg ev s0 mi bl mt cd ls Rm ag Qq hR hQ E hI hG hS hl
  have hl : lv_has ls 6 [(0, .ref (wa X 0)), (1, .int (jI a0)), (2, .int (jI a1)), (3, .int (jI a2)), (4, .int (jI a3)), (5, .int (jI a4))] := hl
  obtain ⟨iN, iM, zT, hTP, hWK, hFL⟩ := id hk
  have hs : Sh V n wd hi := iN.1.1
  have hd := hs.2.2.2.1
  obtain ⟨hn1, hn2⟩ := dims.n hd
  have dyN := iN.2.2.2
  have dyM := iM.2.2.2
  unfold rg at h0 h1 h2 h3 h4
  have L51_1 : (¬ ((1 ≤ a0 ∧ a0 ≤ 5) ∧ (0 ≤ a1 ∧ a1 ≤ 100) ∧ (0 ≤ a2 ∧ a2 ≤ 100) ∧ (1 ≤ a3 ∧ a3 ≤ 9) ∧ 0 ≤ a4 ∧ a4 ≤ 20)) → ∀ (H : Heap) (locs : List Loc) (ls : Array Slot), GW X V H → va_S (wA X) s0.heap H locs → lv_has ls 6 [] → W pg l ev Rm s0 mi ag bl mt cd H locs 0 0 Qq (F0 mi 51 ls []) := by
    intro  hno H locs ls hG hS hl
    refine x_iconst E dX7_rules_51 ?_
    exact r_z E hQ hG hS dX7_rules_52 (Or.inl rfl) (⟨(b01_0 hno).symm, by rw [if_neg hno]⟩)
  refine x_iload_n E dX7_rules_0 (lv_at hl 1 rfl) ?_
  refine x_iconst E dX7_rules_1 ?_
  refine x_iconst E dX7_rules_2 ?_
  refine x_ci hG hS (x_runS E hI hG hS (c_X7_isWithin l V a0 1 5 (by unfold rg; omega) (by unfold rg; omega) (by unfold rg; omega)) mf_X7_isWithin km_X7_66 rfl hl rfl (Nat.le_of_ble_eq_true rfl) (by rw [hR]; exact ⟨Nat.le_of_ble_eq_true rfl, Nat.le_of_ble_eq_true rfl⟩) ⟨Nat.zero_le _, Nat.zero_le _⟩ dX7_rules_3) (fun z1 V1 H locs hp hG hS => ?_)
  obtain ⟨ez, eV⟩ := hp
  rw [eV] at hG
  rw [ez]
  refine x_if_eq E 51 dX7_rules_6 (by decide) b01_rg (fun c6 => ?_) (fun c6 => ?_)
  · have q6 := b01_iff0.mp c6
    exact L51_1  (by omega) _ _ _ hG hS (lv_sub hl [] rfl)
  · have q6 := b01_ne c6
    refine x_iload_n E dX7_rules_9 (lv_at hl 2 rfl) ?_
    refine x_iconst E dX7_rules_10 ?_
    refine x_bipush E dX7_rules_11 (by decide) ?_
    refine x_ci hG hS (x_runS E hI hG hS (c_X7_isWithin l V a1 0 100 (by unfold rg; omega) (by unfold rg; omega) (by unfold rg; omega)) mf_X7_isWithin km_X7_66 rfl hl rfl (Nat.le_of_ble_eq_true rfl) (by rw [hR]; exact ⟨Nat.le_of_ble_eq_true rfl, Nat.le_of_ble_eq_true rfl⟩) ⟨Nat.zero_le _, Nat.zero_le _⟩ dX7_rules_13) (fun z1 V1 H locs hp hG hS => ?_)
    obtain ⟨ez, eV⟩ := hp
    rw [eV] at hG
    rw [ez]
    refine x_if_eq E 51 dX7_rules_16 (by decide) b01_rg (fun c16 => ?_) (fun c16 => ?_)
    · have q16 := b01_iff0.mp c16
      exact L51_1  (by omega) _ _ _ hG hS (lv_sub hl [] rfl)
    · have q16 := b01_ne c16
      refine x_iload_n E dX7_rules_19 (lv_at hl 3 rfl) ?_
      refine x_iconst E dX7_rules_20 ?_
      refine x_bipush E dX7_rules_21 (by decide) ?_
      refine x_ci hG hS (x_runS E hI hG hS (c_X7_isWithin l V a2 0 100 (by unfold rg; omega) (by unfold rg; omega) (by unfold rg; omega)) mf_X7_isWithin km_X7_66 rfl hl rfl (Nat.le_of_ble_eq_true rfl) (by rw [hR]; exact ⟨Nat.le_of_ble_eq_true rfl, Nat.le_of_ble_eq_true rfl⟩) ⟨Nat.zero_le _, Nat.zero_le _⟩ dX7_rules_23) (fun z1 V1 H locs hp hG hS => ?_)
      obtain ⟨ez, eV⟩ := hp
      rw [eV] at hG
      rw [ez]
      refine x_if_eq E 51 dX7_rules_26 (by decide) b01_rg (fun c26 => ?_) (fun c26 => ?_)
      · have q26 := b01_iff0.mp c26
        exact L51_1  (by omega) _ _ _ hG hS (lv_sub hl [] rfl)
      · have q26 := b01_ne c26
        refine x_iload E dX7_rules_29 (lv_at hl 4 rfl) ?_
        refine x_iconst E dX7_rules_31 ?_
        refine x_bipush E dX7_rules_32 (by decide) ?_
        refine x_ci hG hS (x_runS E hI hG hS (c_X7_isWithin l V a3 1 9 (by unfold rg; omega) (by unfold rg; omega) (by unfold rg; omega)) mf_X7_isWithin km_X7_66 rfl hl rfl (Nat.le_of_ble_eq_true rfl) (by rw [hR]; exact ⟨Nat.le_of_ble_eq_true rfl, Nat.le_of_ble_eq_true rfl⟩) ⟨Nat.zero_le _, Nat.zero_le _⟩ dX7_rules_34) (fun z1 V1 H locs hp hG hS => ?_)
        obtain ⟨ez, eV⟩ := hp
        rw [eV] at hG
        rw [ez]
        refine x_if_eq E 51 dX7_rules_37 (by decide) b01_rg (fun c37 => ?_) (fun c37 => ?_)
        · have q37 := b01_iff0.mp c37
          exact L51_1  (by omega) _ _ _ hG hS (lv_sub hl [] rfl)
        · have q37 := b01_ne c37
          refine x_iload E dX7_rules_40 (lv_at hl 5 rfl) ?_
          refine x_iconst E dX7_rules_42 ?_
          refine x_bipush E dX7_rules_43 (by decide) ?_
          refine x_ci hG hS (x_runS E hI hG hS (c_X7_isWithin l V a4 0 20 (by unfold rg; omega) (by unfold rg; omega) (by unfold rg; omega)) mf_X7_isWithin km_X7_66 rfl hl rfl (Nat.le_of_ble_eq_true rfl) (by rw [hR]; exact ⟨Nat.le_of_ble_eq_true rfl, Nat.le_of_ble_eq_true rfl⟩) ⟨Nat.zero_le _, Nat.zero_le _⟩ dX7_rules_45) (fun z1 V1 H locs hp hG hS => ?_)
          obtain ⟨ez, eV⟩ := hp
          rw [eV] at hG
          rw [ez]
          refine x_if_ne E 53 dX7_rules_48 (by decide) b01_rg (fun c48 => ?_) (fun c48 => ?_)
          · have q48 := b01_ne c48
            refine x_aload_n E dX7_rules_53 (lv_at hl 0 rfl) ?_
            refine x_getr E hI hG (xb0 hX) cf7 1 bN rfl (by decide) kf_X7_27 dX7_rules_54 ?_
            refine x_getr E hI hG (xd0 hX isN) cf1 9 (bN + 10) rfl (by decide) kf_X7_81 dX7_rules_57 ?_
            refine x_iconst E dX7_rules_60 ?_
            refine x_iload_n E dX7_rules_61 (lv_at hl 1 rfl) ?_
            refine x_iast E hI hG hS (xd10 hX isN) (by omega) dX7_rules_62 (fun H locs hG hS => ?_)
            refine x_aload_n E dX7_rules_63 (lv_at hl 0 rfl) ?_
            refine x_getr E hI hG (xb0 hX) cf7 1 bN rfl (by decide) kf_X7_27 dX7_rules_64 ?_
            refine x_getr E hI hG (xd0 hX isN) cf1 9 (bN + 10) rfl (by decide) kf_X7_81 dX7_rules_67 ?_
            refine x_iconst E dX7_rules_70 ?_
            refine x_iload_n E dX7_rules_71 (lv_at hl 2 rfl) ?_
            refine x_iast E hI hG hS (xd10 hX isN) (by omega) dX7_rules_72 (fun H locs hG hS => ?_)
            refine x_aload_n E dX7_rules_73 (lv_at hl 0 rfl) ?_
            refine x_getr E hI hG (xb0 hX) cf7 1 bN rfl (by decide) kf_X7_27 dX7_rules_74 ?_
            refine x_getr E hI hG (xd0 hX isN) cf1 9 (bN + 10) rfl (by decide) kf_X7_81 dX7_rules_77 ?_
            refine x_iconst E dX7_rules_80 ?_
            refine x_iload_n E dX7_rules_81 (lv_at hl 3 rfl) ?_
            refine x_iast E hI hG hS (xd10 hX isN) (by omega) dX7_rules_82 (fun H locs hG hS => ?_)
            refine x_aload_n E dX7_rules_83 (lv_at hl 0 rfl) ?_
            refine x_getr E hI hG (xb0 hX) cf7 1 bN rfl (by decide) kf_X7_27 dX7_rules_84 ?_
            refine x_getr E hI hG (xd0 hX isN) cf1 9 (bN + 10) rfl (by decide) kf_X7_81 dX7_rules_87 ?_
            refine x_iconst E dX7_rules_90 ?_
            refine x_iload E dX7_rules_91 (lv_at hl 4 rfl) ?_
            refine x_iast E hI hG hS (xd10 hX isN) (by omega) dX7_rules_93 (fun H locs hG hS => ?_)
            refine x_aload_n E dX7_rules_94 (lv_at hl 0 rfl) ?_
            refine x_getr E hI hG (xb0 hX) cf7 1 bN rfl (by decide) kf_X7_27 dX7_rules_95 ?_
            refine x_getr E hI hG (xd0 hX isN) cf1 9 (bN + 10) rfl (by decide) kf_X7_81 dX7_rules_98 ?_
            refine x_iconst E dX7_rules_101 ?_
            refine x_iload E dX7_rules_102 (lv_at hl 5 rfl) ?_
            refine x_iast E hI hG hS (xd10 hX isN) (by omega) dX7_rules_104 (fun H locs hG hS => ?_)
            rw [show (st (st (st (st (st V (bN + 10) 0 a0) (bN + 10) 1 a1) (bN + 10) 2 a2) (bN + 10) 3 a3) (bN + 10) 4 a4) = (rlM a0 a1 a2 a3 a4 V) from rfl] at hG
            have eR : ∀ p, p ≠ bN + 10 → (rlM a0 a1 a2 a3 a4 V) p = V p := fun p hp => by unfold rlM; rw [st_p hp, st_p hp, st_p hp, st_p hp, st_p hp]
            have e3 : (rlM a0 a1 a2 a3 a4 V) (bN + 10) 3 = a3 := by unfold rlM; rw [st_k (by decide), st_s]
            refine x_aload_n E dX7_rules_105 (lv_at hl 0 rfl) ?_
            refine x_getr E hI hG (xb0 hX) cf7 1 bN rfl (by decide) kf_X7_27 dX7_rules_106 ?_
            refine x_cv hG hS (x_runV E hI hG hS (xd0 hX isN) cf1 rfl (c_X1_settleAll l hX isN (rlM a0 a1 a2 a3 a4 V) (hs.of (eR 1 (by decide)) (eR 2 (by decide))) (by rw [eR _ (by decide)]; exact iN.1.2.1.ps hd) (by rw [e3]; omega) (by rw [eR _ (by decide)]; exact iN.1.2.2)) mf_X1_settleAll km_X7_84 rfl hl rfl (Nat.le_of_ble_eq_true rfl) (by rw [hR]; exact ⟨Nat.le_of_ble_eq_true rfl, Nat.le_of_ble_eq_true rfl⟩) ⟨Nat.zero_le _, Nat.zero_le _⟩ dX7_rules_109) (fun V1 H locs hp hG hS => ?_)
            have eV := hp
            rw [eV] at hG
            refine x_iconst E dX7_rules_112 ?_
            exact r_z E hQ hG hS dX7_rules_113 (Or.inr rfl) (⟨(b01_1 (by omega)).symm, by rw [if_pos (by omega)]⟩)
          · have q48 := b01_iff0.mp c48
            exact L51_1  (by omega) _ _ _ hG hS (lv_sub hl [] rfl)

set_option maxHeartbeats 4000000 in
set_option maxRecDepth 100000 in
theorem c_X7_seed (l : Launch) {X : We} {n : Nat} (hX : isX X n) (V : Mem) (x : Int) : Mt l X V yX7_seed cX7_seed 2 none 0 0 [.ref (wa X 0), .int (jI x)] (Qv X (fun V1 => V1 = st V bN 11 x)) := by
  refine Mt.go (by decide) (Nat.le_of_ble_eq_true rfl) ?_
  intro pg ev s0 mi bl mt cd ls Rm ag Qq hR hQ E hI hG hS hl
  have hl : lv_has ls 2 [(0, .ref (wa X 0)), (1, .int (jI x))] := hl
  refine x_aload_n E dX7_seed_0 (lv_at hl 0 rfl) ?_
  refine x_getr E hI hG (xb0 hX) cf7 1 bN rfl (by decide) kf_X7_27 dX7_seed_1 ?_
  refine x_iload_n E dX7_seed_4 (lv_at hl 1 rfl) ?_
  refine x_puti E hI hG hS (xd0 hX isN) cf1 11 11 rfl rfl (by decide) rfl rfl kf_X7_87 dX7_seed_5 (fun H locs hG hS => ?_)
  exact r_v E hQ hG hS dX7_seed_8 rfl

set_option maxHeartbeats 4000000 in
set_option maxRecDepth 100000 in
theorem c_X7_feed (l : Launch) {X : We} {n : Nat} (hX : isX X n) (V : Mem) (hTP : TP V) (a b c d e : Int) : Mt l X V yX7_feed cX7_feed 6 (some .int) 1 22 [.ref (wa X 0), .int (jI a), .int (jI b), .int (jI c), .int (jI d), .int (jI e)] (Qi X (fun z V1 => if V 45 1 + 20 ≤ 200 then z = V 45 1 + 20 ∧ V1 = (apM e (apM d (apM c (apM b (apM a V))))) else z = -1 ∧ V1 = V)) := by
  refine Mt.go (by decide) (Nat.le_of_ble_eq_true rfl) ?_
  intro pg ev s0 mi bl mt cd ls Rm ag Qq hR hQ E hI hG hS hl
  have hl : lv_has ls 6 [(0, .ref (wa X 0)), (1, .int (jI a)), (2, .int (jI b)), (3, .int (jI c)), (4, .int (jI d)), (5, .int (jI e))] := hl
  have hl0 := hTP.1
  refine x_aload_n E dX7_feed_0 (lv_at hl 0 rfl) ?_
  refine x_getr E hI hG (xb0 hX) cf7 4 45 rfl (by decide) kf_X7_40 dX7_feed_1 ?_
  refine x_geti E hI hG (xt0 hX) cf4 1 (V 45 1) rfl (by decide) rfl kf_X7_90 dX7_feed_4 ?_
  refine x_bipush E dX7_feed_7 (by decide) ?_
  refine x_iadd E dX7_feed_9 ?_
  refine x_sipush E dX7_feed_10 (by decide) ?_
  refine x_icmp_le E 18 dX7_feed_13 (by decide) (by unfold rg; omega) (by unfold rg; omega) (fun c13 => ?_) (fun c13 => ?_)
  · have e0 : V 45 1 = V 45 1 := rfl
    have eA : ∀ (y : Int) (W : Mem), apM y W 45 1 = W 45 1 + 4 := fun y W => by unfold apM; rw [ap1_1, ap1_1, ap1_1, ap1_1]; omega
    have e1 : (apM a V) 45 1 = V 45 1 + 4 := by rw [eA]
    have e2 : (apM b (apM a V)) 45 1 = V 45 1 + 8 := by rw [eA, e1]; omega
    have e3 : (apM c (apM b (apM a V))) 45 1 = V 45 1 + 12 := by rw [eA, e2]; omega
    have e4 : (apM d (apM c (apM b (apM a V)))) 45 1 = V 45 1 + 16 := by rw [eA, e3]; omega
    have e5 : (apM e (apM d (apM c (apM b (apM a V))))) 45 1 = V 45 1 + 20 := by rw [eA, e4]; omega
    refine x_aload_n E dX7_feed_18 (lv_at hl 0 rfl) ?_
    refine x_getr E hI hG (xb0 hX) cf7 4 45 rfl (by decide) kf_X7_40 dX7_feed_19 ?_
    refine x_iload_n E dX7_feed_22 (lv_at hl 1 rfl) ?_
    refine x_cv hG hS (x_runV E hI hG hS (xt0 hX) cf4 rfl (c_X4_append l hX V (by rw [e0]; omega) a) mf_X4_append km_X7_93 rfl hl rfl (Nat.le_of_ble_eq_true rfl) (by rw [hR]; exact ⟨Nat.le_of_ble_eq_true rfl, Nat.le_of_ble_eq_true rfl⟩) ⟨Nat.zero_le _, Nat.zero_le _⟩ dX7_feed_23) (fun V1 H locs hp hG hS => ?_)
    have eV := hp
    rw [eV] at hG
    refine x_aload_n E dX7_feed_26 (lv_at hl 0 rfl) ?_
    refine x_getr E hI hG (xb0 hX) cf7 4 45 rfl (by decide) kf_X7_40 dX7_feed_27 ?_
    refine x_iload_n E dX7_feed_30 (lv_at hl 2 rfl) ?_
    refine x_cv hG hS (x_runV E hI hG hS (xt0 hX) cf4 rfl (c_X4_append l hX (apM a V) (by rw [e1]; omega) b) mf_X4_append km_X7_93 rfl hl rfl (Nat.le_of_ble_eq_true rfl) (by rw [hR]; exact ⟨Nat.le_of_ble_eq_true rfl, Nat.le_of_ble_eq_true rfl⟩) ⟨Nat.zero_le _, Nat.zero_le _⟩ dX7_feed_31) (fun V1 H locs hp hG hS => ?_)
    have eV := hp
    rw [eV] at hG
    refine x_aload_n E dX7_feed_34 (lv_at hl 0 rfl) ?_
    refine x_getr E hI hG (xb0 hX) cf7 4 45 rfl (by decide) kf_X7_40 dX7_feed_35 ?_
    refine x_iload_n E dX7_feed_38 (lv_at hl 3 rfl) ?_
    refine x_cv hG hS (x_runV E hI hG hS (xt0 hX) cf4 rfl (c_X4_append l hX (apM b (apM a V)) (by rw [e2]; omega) c) mf_X4_append km_X7_93 rfl hl rfl (Nat.le_of_ble_eq_true rfl) (by rw [hR]; exact ⟨Nat.le_of_ble_eq_true rfl, Nat.le_of_ble_eq_true rfl⟩) ⟨Nat.zero_le _, Nat.zero_le _⟩ dX7_feed_39) (fun V1 H locs hp hG hS => ?_)
    have eV := hp
    rw [eV] at hG
    refine x_aload_n E dX7_feed_42 (lv_at hl 0 rfl) ?_
    refine x_getr E hI hG (xb0 hX) cf7 4 45 rfl (by decide) kf_X7_40 dX7_feed_43 ?_
    refine x_iload E dX7_feed_46 (lv_at hl 4 rfl) ?_
    refine x_cv hG hS (x_runV E hI hG hS (xt0 hX) cf4 rfl (c_X4_append l hX (apM c (apM b (apM a V))) (by rw [e3]; omega) d) mf_X4_append km_X7_93 rfl hl rfl (Nat.le_of_ble_eq_true rfl) (by rw [hR]; exact ⟨Nat.le_of_ble_eq_true rfl, Nat.le_of_ble_eq_true rfl⟩) ⟨Nat.zero_le _, Nat.zero_le _⟩ dX7_feed_48) (fun V1 H locs hp hG hS => ?_)
    have eV := hp
    rw [eV] at hG
    refine x_aload_n E dX7_feed_51 (lv_at hl 0 rfl) ?_
    refine x_getr E hI hG (xb0 hX) cf7 4 45 rfl (by decide) kf_X7_40 dX7_feed_52 ?_
    refine x_iload E dX7_feed_55 (lv_at hl 5 rfl) ?_
    refine x_cv hG hS (x_runV E hI hG hS (xt0 hX) cf4 rfl (c_X4_append l hX (apM d (apM c (apM b (apM a V)))) (by rw [e4]; omega) e) mf_X4_append km_X7_93 rfl hl rfl (Nat.le_of_ble_eq_true rfl) (by rw [hR]; exact ⟨Nat.le_of_ble_eq_true rfl, Nat.le_of_ble_eq_true rfl⟩) ⟨Nat.zero_le _, Nat.zero_le _⟩ dX7_feed_57) (fun V1 H locs hp hG hS => ?_)
    have eV := hp
    rw [eV] at hG
    refine x_aload_n E dX7_feed_60 (lv_at hl 0 rfl) ?_
    refine x_getr E hI hG (xb0 hX) cf7 4 45 rfl (by decide) kf_X7_40 dX7_feed_61 ?_
    refine x_geti E hI hG (xt0 hX) cf4 1 (V 45 1 + 20) rfl (by decide) (show (apM e (apM d (apM c (apM b (apM a V))))) 45 1 = V 45 1 + 20 from e5) kf_X7_90 dX7_feed_64 ?_
    exact r_i E hQ hG hS dX7_feed_67 (by rw [if_pos (by omega)]; exact ⟨rfl, rfl⟩)
  · refine x_iconst E dX7_feed_16 ?_
    exact r_i E hQ hG hS dX7_feed_17 (by rw [if_neg (by omega)]; exact ⟨rfl, rfl⟩)

set_option maxHeartbeats 4000000 in
set_option maxRecDepth 100000 in
theorem c_X7_end (l : Launch) {X : We} {n : Nat} (hX : isX X n) (V : Mem) (hTP : TP V) (k : Int) (hk : rg k) : Mt l X V yX7_end cX7_end 2 (some .int) 1 22 [.ref (wa X 0), .int (jI k)] (Qi X (fun z V1 => if 0 ≤ k ∧ k ≤ V 45 1 then z = k ∧ V1 = st V 45 1 k else z = -1 ∧ V1 = V)) := by
  refine Mt.go (by decide) (Nat.le_of_ble_eq_true rfl) ?_
  intro pg ev s0 mi bl mt cd ls Rm ag Qq hR hQ E hI hG hS hl
  have hl : lv_has ls 2 [(0, .ref (wa X 0)), (1, .int (jI k))] := hl
  unfold rg at hk
  have hl0 := hTP.1
  refine x_iload_n E dX7_end_0 (lv_at hl 1 rfl) ?_
  refine x_iconst E dX7_end_1 ?_
  refine x_aload_n E dX7_end_2 (lv_at hl 0 rfl) ?_
  refine x_getr E hI hG (xb0 hX) cf7 4 45 rfl (by decide) kf_X7_40 dX7_end_3 ?_
  refine x_geti E hI hG (xt0 hX) cf4 1 (V 45 1) rfl (by decide) rfl kf_X7_90 dX7_end_6 ?_
  refine x_ci hG hS (x_runS E hI hG hS (c_X7_isWithin l V k 0 (V 45 1) (by unfold rg; omega) (by unfold rg; omega) (by unfold rg; omega)) mf_X7_isWithin km_X7_66 rfl hl rfl (Nat.le_of_ble_eq_true rfl) (by rw [hR]; exact ⟨Nat.le_of_ble_eq_true rfl, Nat.le_of_ble_eq_true rfl⟩) ⟨Nat.zero_le _, Nat.zero_le _⟩ dX7_end_9) (fun z1 V1 H locs hp hG hS => ?_)
  obtain ⟨ez, eV⟩ := hp
  rw [eV] at hG
  rw [ez]
  refine x_if_ne E 17 dX7_end_12 (by decide) b01_rg (fun c12 => ?_) (fun c12 => ?_)
  · have q12 := b01_ne c12
    refine x_aload_n E dX7_end_17 (lv_at hl 0 rfl) ?_
    refine x_getr E hI hG (xb0 hX) cf7 4 45 rfl (by decide) kf_X7_40 dX7_end_18 ?_
    refine x_iload_n E dX7_end_21 (lv_at hl 1 rfl) ?_
    refine x_puti E hI hG hS (xt0 hX) cf4 1 1 rfl rfl (by decide) rfl rfl kf_X7_90 dX7_end_22 (fun H locs hG hS => ?_)
    refine x_iload_n E dX7_end_25 (lv_at hl 1 rfl) ?_
    exact r_i E hQ hG hS dX7_end_26 (by rw [if_pos q12]; exact ⟨rfl, rfl⟩)
  · have q12 := b01_iff0.mp c12
    refine x_iconst E dX7_end_15 ?_
    exact r_i E hQ hG hS dX7_end_16 (by rw [if_neg q12]; exact ⟨rfl, rfl⟩)

set_option maxHeartbeats 4000000 in
set_option maxRecDepth 100000 in
theorem c_X7_winds (l : Launch) {X : We} {n : Nat} (hX : isX X n) (V : Mem) (hTP : TP V) : Mt l X V yX7_winds cX7_winds 2 (some .int) 8 181 [.ref (wa X 0)] (Qi X (fun z V1 => WdP V V1 z)) := by
  refine Mt.go (by decide) (Nat.le_of_ble_eq_true rfl) ?_
  intro pg ev s0 mi bl mt cd ls Rm ag Qq hR hQ E hI hG hS hl
  have hl : lv_has ls 2 [(0, .ref (wa X 0))] := hl
  refine x_aload_n E dX7_winds_0 (lv_at hl 0 rfl) ?_
  refine x_getr E hI hG (xb0 hX) cf7 4 45 rfl (by decide) kf_X7_40 dX7_winds_1 ?_
  refine x_ci hG hS (x_runV E hI hG hS (xt0 hX) cf4 rfl (c_X4_read l hX V hTP) mf_X4_read km_X7_97 rfl hl rfl (Nat.le_of_ble_eq_true rfl) (by rw [hR]; exact ⟨Nat.le_of_ble_eq_true rfl, Nat.le_of_ble_eq_true rfl⟩) ⟨Nat.zero_le _, Nat.zero_le _⟩ dX7_winds_4) (fun z1 V1 H locs hp hG hS => ?_)
  obtain ⟨r1, r2, r3, r4, r5, r6⟩ := hp
  rw [r1]
  refine x_istore_n E [(1, .int (jI (b01 ((PR0 (V 46) (V 45 1)).1 = 0)))), (0, .ref (wa X 0))] dX7_winds_7 hl (by decide) rfl (fun ls hl => ?_)
  refine x_aload_n E dX7_winds_8 (lv_at hl 1 rfl) ?_
  refine x_getr E hI hG (xb0 hX) cf7 4 45 rfl (by decide) kf_X7_40 dX7_winds_9 ?_
  refine x_iconst E dX7_winds_12 ?_
  refine x_puti E hI hG hS (xt0 hX) cf4 1 1 rfl rfl (by decide) rfl rfl kf_X7_90 dX7_winds_13 (fun H locs hG hS => ?_)
  refine x_iload_n E dX7_winds_16 (lv_at hl 0 rfl) ?_
  refine x_if_ne E 22 dX7_winds_17 (by decide) b01_rg (fun c17 => ?_) (fun c17 => ?_)
  · have q17 := b01_ne c17
    refine x_aload_n E dX7_winds_22 (lv_at hl 1 rfl) ?_
    refine x_getr E hI hG (xb0 hX) cf7 1 bN rfl (by decide) kf_X7_27 dX7_winds_23 ?_
    refine x_getr E hI hG (xd0 hX isN) cf1 10 (bN + 11) rfl (by decide) kf_X7_101 dX7_winds_26 ?_
    refine x_aload_n E dX7_winds_29 (lv_at hl 1 rfl) ?_
    refine x_getr E hI hG (xb0 hX) cf7 4 45 rfl (by decide) kf_X7_40 dX7_winds_30 ?_
    refine x_getr E hI hG (xt0 hX) cf4 4 47 rfl (by decide) kf_X7_105 dX7_winds_33 ?_
    refine x_cv hG hS (x_runV E hI hG hS (xw0 hX (isD.w isN)) cf5 rfl (c_X5_copyFrom l hX (isD.w isN) isW47 (by decide) (st V1 45 1 0)) mf_X5_copyFrom km_X7_108 rfl hl rfl (Nat.le_of_ble_eq_true rfl) (by rw [hR]; exact ⟨Nat.le_of_ble_eq_true rfl, Nat.le_of_ble_eq_true rfl⟩) ⟨Nat.zero_le _, Nat.zero_le _⟩ dX7_winds_36) (fun V2 H locs hp hG hS => ?_)
    obtain ⟨w1, w2, w3, w4⟩ := hp
    have hcw : V2 (bN + 11) 2 = (PR0 (V 46) (V 45 1)).2.2.1 := by rw [w3.1, st_p (by decide)]; exact r5.1
    refine x_aload_n E dX7_winds_39 (lv_at hl 1 rfl) ?_
    refine x_getr E hI hG (xb0 hX) cf7 1 bN rfl (by decide) kf_X7_27 dX7_winds_40 ?_
    refine x_getr E hI hG (xd0 hX isN) cf1 10 (bN + 11) rfl (by decide) kf_X7_101 dX7_winds_43 ?_
    refine x_geti E hI hG (xw0 hX (isD.w isN)) cf5 2 ((PR0 (V 46) (V 45 1)).2.2.1) rfl (by decide) (show V2 (bN + 11) 2 = (PR0 (V 46) (V 45 1)).2.2.1 from hcw) kf_X7_114 dX7_winds_46 ?_
    exact r_i E hQ hG hS dX7_winds_49 (⟨by rw [if_pos q17], by rw [w4 45 (by decide) (by decide) (by decide), st_s], by rw [w4 45 (by decide) (by decide) (by decide), st_k (by decide)]; exact r3, by rw [w4 45 (by decide) (by decide) (by decide), st_k (by decide)]; exact r4, fun p p0 p1 p2 p3 p4 p5 p6 => by rw [w4 p p4 p5 p6, st_p p0]; exact r6 p p0 p1 p2 p3, fun z => absurd q17 z, fun _ => ⟨hcw, by rw [w3.2.1, st_p (by decide)]; exact r5.2.1, by rw [w3.2.2, st_p (by decide)]; exact r5.2.2.1, fun k k0 k1 => by
          have e1 : V2 (bN + 12) = st V1 45 1 0 48 := w1
          have e2 : V2 (bN + 13) = st V1 45 1 0 49 := w2
          rw [e1, e2, st_p (by decide), st_p (by decide)]; exact r5.2.2.2 k k0 k1⟩⟩)
  · have q17 := b01_iff0.mp c17
    refine x_iconst E dX7_winds_20 ?_
    exact r_i E hQ hG hS dX7_winds_21 (⟨by rw [if_neg q17], st_s _ _ _ _, by rw [st_k (by decide)]; exact r3, by rw [st_k (by decide)]; exact r4, fun p p0 p1 p2 p3 _ _ _ => by rw [st_p p0]; exact r6 p p0 p1 p2 p3, fun _ => ⟨by rw [st_p (by decide)]; exact r6 _ (by decide) (by decide) (by decide) (by decide), by rw [st_p (by decide)]; exact r6 _ (by decide) (by decide) (by decide) (by decide), by rw [st_p (by decide)]; exact r6 _ (by decide) (by decide) (by decide) (by decide)⟩, fun z => absurd z q17⟩)

set_option maxHeartbeats 4000000 in
set_option maxRecDepth 100000 in
theorem c_X7_fault (l : Launch) {X : We} {n : Nat} (hX : isX X n) (V : Mem) (k : Int) (hk : rg k) : Mt l X V yX7_fault cX7_fault 2 (some .int) 0 0 [.ref (wa X 0), .int (jI k)] (Qi X (fun z V1 => z = (if k = 0 then V 45 2 else if k = 1 then V 45 3 else -1) ∧ V1 = V)) := by
  refine Mt.go (by decide) (Nat.le_of_ble_eq_true rfl) ?_
  intro pg ev s0 mi bl mt cd ls Rm ag Qq hR hQ E hI hG hS hl
  have hl : lv_has ls 2 [(0, .ref (wa X 0)), (1, .int (jI k))] := hl
  refine x_iload_n E dX7_fault_0 (lv_at hl 1 rfl) ?_
  rcases (show k = 0 ∨ k = 1 ∨ (k ≠ 0 ∧ k ≠ 1) by omega) with q | q | q
  · refine lv_lookup (tgt := 28) (off := 27) E.1 E.2.1 dX7_fault_1 (by decide) (by rw [q]; decide) (by decide) ?_
    refine x_aload_n E dX7_fault_28 (lv_at hl 0 rfl) ?_
    refine x_getr E hI hG (xb0 hX) cf7 4 45 rfl (by decide) kf_X7_40 dX7_fault_29 ?_
    refine x_geti E hI hG (xt0 hX) cf4 2 (V 45 2) rfl (by decide) rfl kf_X7_117 dX7_fault_32 ?_
    exact r_i E hQ hG hS dX7_fault_35 (⟨by rw [if_pos q], rfl⟩)
  · refine lv_lookup (tgt := 36) (off := 35) E.1 E.2.1 dX7_fault_1 (by decide) (by rw [q]; decide) (by decide) ?_
    refine x_aload_n E dX7_fault_36 (lv_at hl 0 rfl) ?_
    refine x_getr E hI hG (xb0 hX) cf7 4 45 rfl (by decide) kf_X7_40 dX7_fault_37 ?_
    refine x_geti E hI hG (xt0 hX) cf4 3 (V 45 3) rfl (by decide) rfl kf_X7_120 dX7_fault_40 ?_
    exact r_i E hQ hG hS dX7_fault_43 (⟨by rw [if_neg (by omega), if_pos q], rfl⟩)
  · refine lv_lookup (tgt := 44) (off := 43) E.1 E.2.1 dX7_fault_1 (by decide) (by exact (lv_osw (k := jI 0) (fun z => q.1 ((j_eq hk (by unfold rg; omega)).mp z)) rfl).trans ((lv_osw (k := jI 1) (fun z => q.2 ((j_eq hk (by unfold rg; omega)).mp z)) rfl).trans rfl)) (by decide) ?_
    refine x_iconst E dX7_fault_44 ?_
    exact r_i E hQ hG hS dX7_fault_45 (⟨by rw [if_neg q.1, if_neg q.2], rfl⟩)

set_option maxHeartbeats 4000000 in
set_option maxRecDepth 100000 in
theorem c_X7_days (l : Launch) {X : We} {n : Nat} (hX : isX X n) {wd hi : Int} (V : Mem) (hk : XI V n wd hi) (k : Int) (hk2 : rg k) : Mt l X V yX7_days cX7_days 2 (some .int) 6 141 [.ref (wa X 0), .int (jI k)] (Qi X (fun z V1 => if 1 ≤ k ∧ k ≤ 60 ∧ V bN 12 + k ≤ 3000 then z = V bN 12 + k ∧ V1 = psM n wd hi bN k.toNat V else z = -1 ∧ V1 = V)) := by
  refine Mt.go (by decide) (Nat.le_of_ble_eq_true rfl) ?_
  intro pg ev s0 mi bl mt cd ls Rm ag Qq hR hQ E hI hG hS hl
  have hl : lv_has ls 2 [(0, .ref (wa X 0)), (1, .int (jI k))] := hl
  obtain ⟨iN, iM, zT, hTP, hWK, hFL⟩ := id hk
  have hs : Sh V n wd hi := iN.1.1
  have hd := hs.2.2.2.1
  obtain ⟨hn1, hn2⟩ := dims.n hd
  have dyN := iN.2.2.2
  have dyM := iM.2.2.2
  refine x_aload_n E dX7_days_0 (lv_at hl 0 rfl) ?_
  refine x_getr E hI hG (xb0 hX) cf7 1 bN rfl (by decide) kf_X7_27 dX7_days_1 ?_
  refine x_iload_n E dX7_days_4 (lv_at hl 1 rfl) ?_
  refine x_ci hG hS (x_runV E hI hG hS (xd0 hX isN) cf1 rfl (c_X1_canPass l hX isN V k hk2 dyN) mf_X1_canPass km_X7_123 rfl hl rfl (Nat.le_of_ble_eq_true rfl) (by rw [hR]; exact ⟨Nat.le_of_ble_eq_true rfl, Nat.le_of_ble_eq_true rfl⟩) ⟨Nat.zero_le _, Nat.zero_le _⟩ dX7_days_5) (fun z1 V1 H locs hp hG hS => ?_)
  obtain ⟨ez, eV⟩ := hp
  rw [eV] at hG
  rw [ez]
  refine x_if_ne E 13 dX7_days_8 (by decide) b01_rg (fun c8 => ?_) (fun c8 => ?_)
  · have q8 := b01_ne c8
    refine x_aload_n E dX7_days_13 (lv_at hl 0 rfl) ?_
    refine x_getr E hI hG (xb0 hX) cf7 1 bN rfl (by decide) kf_X7_27 dX7_days_14 ?_
    refine x_iload_n E dX7_days_17 (lv_at hl 1 rfl) ?_
    refine x_cv hG hS (x_runV E hI hG hS (xd0 hX isN) cf1 rfl (c_X1_pass l hX isN V iN k (by omega) (by omega)) mf_X1_pass km_X7_126 rfl hl rfl (Nat.le_of_ble_eq_true rfl) (by rw [hR]; exact ⟨Nat.le_of_ble_eq_true rfl, Nat.le_of_ble_eq_true rfl⟩) ⟨Nat.zero_le _, Nat.zero_le _⟩ dX7_days_18) (fun V1 H locs hp hG hS => ?_)
    have eV := hp
    rw [eV] at hG
    refine x_aload_n E dX7_days_21 (lv_at hl 0 rfl) ?_
    refine x_getr E hI hG (xb0 hX) cf7 1 bN rfl (by decide) kf_X7_27 dX7_days_22 ?_
    refine x_geti E hI hG (xd0 hX isN) cf1 12 (V bN 12 + k) rfl (by decide) (show (psM n wd hi bN k.toNat V) bN 12 = V bN 12 + k from (by rw [(iN.pass (by decide) k.toNat (by omega)).2]; omega)) kf_X7_129 dX7_days_25 ?_
    exact r_i E hQ hG hS dX7_days_28 (by rw [if_pos q8]; exact ⟨rfl, rfl⟩)
  · have q8 := b01_iff0.mp c8
    refine x_iconst E dX7_days_11 ?_
    exact r_i E hQ hG hS dX7_days_12 (by rw [if_neg q8]; exact ⟨rfl, rfl⟩)

set_option maxHeartbeats 4000000 in
set_option maxRecDepth 100000 in
theorem c_X7_storm (l : Launch) {X : We} {n : Nat} (hX : isX X n) {wd hi : Int} (V : Mem) (hk : XI V n wd hi) (k : Int) (hk2 : rg k) : Mt l X V yX7_storm cX7_storm 2 (some .int) 5 118 [.ref (wa X 0), .int (jI k)] (Qi X (fun z V1 => if 1 ≤ k ∧ k ≤ 999 then z = su n (tkF wd (V (bN + 1)) k) ∧ V1 = cutM n wd hi bN k V else z = -1 ∧ V1 = V)) := by
  refine Mt.go (by decide) (Nat.le_of_ble_eq_true rfl) ?_
  intro pg ev s0 mi bl mt cd ls Rm ag Qq hR hQ E hI hG hS hl
  have hl : lv_has ls 2 [(0, .ref (wa X 0)), (1, .int (jI k))] := hl
  obtain ⟨iN, iM, zT, hTP, hWK, hFL⟩ := id hk
  have hs : Sh V n wd hi := iN.1.1
  have hd := hs.2.2.2.1
  obtain ⟨hn1, hn2⟩ := dims.n hd
  have dyN := iN.2.2.2
  have dyM := iM.2.2.2
  unfold rg at hk2
  refine x_iload_n E dX7_storm_0 (lv_at hl 1 rfl) ?_
  refine x_iconst E dX7_storm_1 ?_
  refine x_sipush E dX7_storm_2 (by decide) ?_
  refine x_ci hG hS (x_runS E hI hG hS (c_X7_isWithin l V k 1 999 (by unfold rg; omega) (by unfold rg; omega) (by unfold rg; omega)) mf_X7_isWithin km_X7_66 rfl hl rfl (Nat.le_of_ble_eq_true rfl) (by rw [hR]; exact ⟨Nat.le_of_ble_eq_true rfl, Nat.le_of_ble_eq_true rfl⟩) ⟨Nat.zero_le _, Nat.zero_le _⟩ dX7_storm_5) (fun z1 V1 H locs hp hG hS => ?_)
  obtain ⟨ez, eV⟩ := hp
  rw [eV] at hG
  rw [ez]
  refine x_if_ne E 13 dX7_storm_8 (by decide) b01_rg (fun c8 => ?_) (fun c8 => ?_)
  · have q8 := b01_ne c8
    refine x_aload_n E dX7_storm_13 (lv_at hl 0 rfl) ?_
    refine x_getr E hI hG (xb0 hX) cf7 1 bN rfl (by decide) kf_X7_27 dX7_storm_14 ?_
    refine x_iload_n E dX7_storm_17 (lv_at hl 1 rfl) ?_
    refine x_ci hG hS (x_runV E hI hG hS (xd0 hX isN) cf1 rfl (c_X1_cut l hX isN V iN.mid k q8) mf_X1_cut km_X7_132 rfl hl rfl (Nat.le_of_ble_eq_true rfl) (by rw [hR]; exact ⟨Nat.le_of_ble_eq_true rfl, Nat.le_of_ble_eq_true rfl⟩) ⟨Nat.zero_le _, Nat.zero_le _⟩ dX7_storm_18) (fun z1 V1 H locs hp hG hS => ?_)
    obtain ⟨ez, eV⟩ := hp
    rw [eV] at hG
    rw [ez]
    exact r_i E hQ hG hS dX7_storm_21 (by rw [if_pos q8]; exact ⟨rfl, rfl⟩)
  · have q8 := b01_iff0.mp c8
    refine x_iconst E dX7_storm_11 ?_
    exact r_i E hQ hG hS dX7_storm_12 (by rw [if_neg q8]; exact ⟨rfl, rfl⟩)

set_option maxHeartbeats 4000000 in
set_option maxRecDepth 100000 in
theorem c_X7_cell (l : Launch) {X : We} {n : Nat} (hX : isX X n) {wd hi : Int} (V : Mem) (hk : XI V n wd hi) (c k : Int) (hc : rg c) (hk2 : rg k) : Mt l X V yX7_cell cX7_cell 3 (some .int) 3 70 [.ref (wa X 0), .int (jI c), .int (jI k)] (Qi X (fun z V1 => z = (if 0 ≤ c ∧ c < (n : Int) then lookV wd hi bN c k V else -1) ∧ V1 = V)) := by
  refine Mt.go (by decide) (Nat.le_of_ble_eq_true rfl) ?_
  intro pg ev s0 mi bl mt cd ls Rm ag Qq hR hQ E hI hG hS hl
  have hl : lv_has ls 3 [(0, .ref (wa X 0)), (1, .int (jI c)), (2, .int (jI k))] := hl
  obtain ⟨iN, iM, zT, hTP, hWK, hFL⟩ := id hk
  have hs : Sh V n wd hi := iN.1.1
  have hd := hs.2.2.2.1
  obtain ⟨hn1, hn2⟩ := dims.n hd
  have dyN := iN.2.2.2
  have dyM := iM.2.2.2
  unfold rg at hc
  refine x_aload_n E dX7_cell_0 (lv_at hl 0 rfl) ?_
  refine x_getr E hI hG (xb0 hX) cf7 0 1 rfl (by decide) kf_X7_18 dX7_cell_1 ?_
  refine x_iload_n E dX7_cell_4 (lv_at hl 1 rfl) ?_
  refine x_ci hG hS (x_runV E hI hG hS (xs0 hX) cf3 rfl (c_X3_has l hX V hs c (by unfold rg; omega)) mf_X3_has km_X7_62 rfl hl rfl (Nat.le_of_ble_eq_true rfl) (by rw [hR]; exact ⟨Nat.le_of_ble_eq_true rfl, Nat.le_of_ble_eq_true rfl⟩) ⟨Nat.zero_le _, Nat.zero_le _⟩ dX7_cell_5) (fun z1 V1 H locs hp hG hS => ?_)
  obtain ⟨ez, eV⟩ := hp
  rw [eV] at hG
  rw [ez]
  refine x_if_ne E 13 dX7_cell_8 (by decide) b01_rg (fun c8 => ?_) (fun c8 => ?_)
  · have q8 := b01_ne c8
    refine x_aload_n E dX7_cell_13 (lv_at hl 0 rfl) ?_
    refine x_getr E hI hG (xb0 hX) cf7 1 bN rfl (by decide) kf_X7_27 dX7_cell_14 ?_
    refine x_iload_n E dX7_cell_17 (lv_at hl 1 rfl) ?_
    refine x_iload_n E dX7_cell_18 (lv_at hl 2 rfl) ?_
    refine x_ci hG hS (x_runV E hI hG hS (xd0 hX isN) cf1 rfl (c_X1_look l hX isN V iN.mid c k q8 hk2) mf_X1_look km_X7_136 rfl hl rfl (Nat.le_of_ble_eq_true rfl) (by rw [hR]; exact ⟨Nat.le_of_ble_eq_true rfl, Nat.le_of_ble_eq_true rfl⟩) ⟨Nat.zero_le _, Nat.zero_le _⟩ dX7_cell_19) (fun z1 V1 H locs hp hG hS => ?_)
    obtain ⟨ez, eV⟩ := hp
    rw [eV] at hG
    rw [ez]
    exact r_i E hQ hG hS dX7_cell_22 (⟨by rw [if_pos q8], rfl⟩)
  · have q8 := b01_iff0.mp c8
    refine x_iconst E dX7_cell_11 ?_
    exact r_i E hQ hG hS dX7_cell_12 (⟨by rw [if_neg q8], rfl⟩)

set_option maxHeartbeats 4000000 in
set_option maxRecDepth 100000 in
theorem c_X7_work (l : Launch) {X : We} {n : Nat} (hX : isX X n) {wd hi : Int} (V : Mem) (hk : XI V n wd hi) (k c v d : Int) (h0 : rg k) (h1 : rg c) (h2 : rg v) (h3 : rg d) : Mt l X V yX7_work cX7_work 5 (some .int) 1 24 [.ref (wa X 0), .int (jI k), .int (jI c), .int (jI v), .int (jI d)] (Qi X (fun z V1 => if (0 ≤ k ∧ k ≤ 2) ∧ (0 ≤ c ∧ c < (n : Int)) ∧ (1 ≤ v ∧ v ≤ 99) ∧ (0 ≤ d ∧ d ≤ 999) ∧ V 50 4 < 4 then z = V 50 4 ∧ V1 = wkM k c v d V else z = -1 ∧ V1 = V)) := by
  refine Mt.go (by decide) (Nat.le_of_ble_eq_true rfl) ?_
  intro pg ev s0 mi bl mt cd ls Rm ag Qq hR hQ E hI hG hS hl
  have hl : lv_has ls 5 [(0, .ref (wa X 0)), (1, .int (jI k)), (2, .int (jI c)), (3, .int (jI v)), (4, .int (jI d))] := hl
  obtain ⟨iN, iM, zT, hTP, hWK, hFL⟩ := id hk
  have hs : Sh V n wd hi := iN.1.1
  have hd := hs.2.2.2.1
  obtain ⟨hn1, hn2⟩ := dims.n hd
  have dyN := iN.2.2.2
  have dyM := iM.2.2.2
  unfold rg at h0 h1 h2 h3
  have L42_1 : (¬ ((0 ≤ k ∧ k ≤ 2) ∧ (0 ≤ c ∧ c < (n : Int)) ∧ (1 ≤ v ∧ v ≤ 99) ∧ (0 ≤ d ∧ d ≤ 999) ∧ V 50 4 < 4)) → ∀ (H : Heap) (locs : List Loc) (ls : Array Slot), GW X V H → va_S (wA X) s0.heap H locs → lv_has ls 5 [] → W pg l ev Rm s0 mi ag bl mt cd H locs 0 0 Qq (F0 mi 42 ls []) := by
    intro  hno H locs ls hG hS hl
    refine x_iconst E dX7_work_42 ?_
    exact r_i E hQ hG hS dX7_work_43 (by rw [if_neg hno]; exact ⟨rfl, rfl⟩)
  refine x_iload_n E dX7_work_0 (lv_at hl 1 rfl) ?_
  refine x_iconst E dX7_work_1 ?_
  refine x_iconst E dX7_work_2 ?_
  refine x_ci hG hS (x_runS E hI hG hS (c_X7_isWithin l V k 0 2 (by unfold rg; omega) (by unfold rg; omega) (by unfold rg; omega)) mf_X7_isWithin km_X7_66 rfl hl rfl (Nat.le_of_ble_eq_true rfl) (by rw [hR]; exact ⟨Nat.le_of_ble_eq_true rfl, Nat.le_of_ble_eq_true rfl⟩) ⟨Nat.zero_le _, Nat.zero_le _⟩ dX7_work_3) (fun z1 V1 H locs hp hG hS => ?_)
  obtain ⟨ez, eV⟩ := hp
  rw [eV] at hG
  rw [ez]
  refine x_if_eq E 42 dX7_work_6 (by decide) b01_rg (fun c6 => ?_) (fun c6 => ?_)
  · have q6 := b01_iff0.mp c6
    exact L42_1  (by omega) _ _ _ hG hS (lv_sub hl [] rfl)
  · have q6 := b01_ne c6
    refine x_aload_n E dX7_work_9 (lv_at hl 0 rfl) ?_
    refine x_getr E hI hG (xb0 hX) cf7 0 1 rfl (by decide) kf_X7_18 dX7_work_10 ?_
    refine x_iload_n E dX7_work_13 (lv_at hl 2 rfl) ?_
    refine x_ci hG hS (x_runV E hI hG hS (xs0 hX) cf3 rfl (c_X3_has l hX V hs c (by unfold rg; omega)) mf_X3_has km_X7_62 rfl hl rfl (Nat.le_of_ble_eq_true rfl) (by rw [hR]; exact ⟨Nat.le_of_ble_eq_true rfl, Nat.le_of_ble_eq_true rfl⟩) ⟨Nat.zero_le _, Nat.zero_le _⟩ dX7_work_14) (fun z1 V1 H locs hp hG hS => ?_)
    obtain ⟨ez, eV⟩ := hp
    rw [eV] at hG
    rw [ez]
    refine x_if_eq E 42 dX7_work_17 (by decide) b01_rg (fun c17 => ?_) (fun c17 => ?_)
    · have q17 := b01_iff0.mp c17
      exact L42_1  (by omega) _ _ _ hG hS (lv_sub hl [] rfl)
    · have q17 := b01_ne c17
      refine x_iload_n E dX7_work_20 (lv_at hl 3 rfl) ?_
      refine x_iconst E dX7_work_21 ?_
      refine x_bipush E dX7_work_22 (by decide) ?_
      refine x_ci hG hS (x_runS E hI hG hS (c_X7_isWithin l V v 1 99 (by unfold rg; omega) (by unfold rg; omega) (by unfold rg; omega)) mf_X7_isWithin km_X7_66 rfl hl rfl (Nat.le_of_ble_eq_true rfl) (by rw [hR]; exact ⟨Nat.le_of_ble_eq_true rfl, Nat.le_of_ble_eq_true rfl⟩) ⟨Nat.zero_le _, Nat.zero_le _⟩ dX7_work_24) (fun z1 V1 H locs hp hG hS => ?_)
      obtain ⟨ez, eV⟩ := hp
      rw [eV] at hG
      rw [ez]
      refine x_if_eq E 42 dX7_work_27 (by decide) b01_rg (fun c27 => ?_) (fun c27 => ?_)
      · have q27 := b01_iff0.mp c27
        exact L42_1  (by omega) _ _ _ hG hS (lv_sub hl [] rfl)
      · have q27 := b01_ne c27
        refine x_iload E dX7_work_30 (lv_at hl 4 rfl) ?_
        refine x_iconst E dX7_work_32 ?_
        refine x_sipush E dX7_work_33 (by decide) ?_
        refine x_ci hG hS (x_runS E hI hG hS (c_X7_isWithin l V d 0 999 (by unfold rg; omega) (by unfold rg; omega) (by unfold rg; omega)) mf_X7_isWithin km_X7_66 rfl hl rfl (Nat.le_of_ble_eq_true rfl) (by rw [hR]; exact ⟨Nat.le_of_ble_eq_true rfl, Nat.le_of_ble_eq_true rfl⟩) ⟨Nat.zero_le _, Nat.zero_le _⟩ dX7_work_36) (fun z1 V1 H locs hp hG hS => ?_)
        obtain ⟨ez, eV⟩ := hp
        rw [eV] at hG
        rw [ez]
        refine x_if_ne E 44 dX7_work_39 (by decide) b01_rg (fun c39 => ?_) (fun c39 => ?_)
        · have q39 := b01_ne c39
          refine x_aload_n E dX7_work_44 (lv_at hl 0 rfl) ?_
          refine x_getr E hI hG (xb0 hX) cf7 5 50 rfl (by decide) kf_X7_47 dX7_work_45 ?_
          refine x_iload_n E dX7_work_48 (lv_at hl 1 rfl) ?_
          refine x_iload_n E dX7_work_49 (lv_at hl 2 rfl) ?_
          refine x_iload_n E dX7_work_50 (lv_at hl 3 rfl) ?_
          refine x_iload E dX7_work_51 (lv_at hl 4 rfl) ?_
          refine x_ci hG hS (x_runV E hI hG hS (xk0 hX) cf6 rfl (c_X6_add l hX V hWK.1 k c v d) mf_X6_add km_X7_140 rfl hl rfl (Nat.le_of_ble_eq_true rfl) (by rw [hR]; exact ⟨Nat.le_of_ble_eq_true rfl, Nat.le_of_ble_eq_true rfl⟩) ⟨Nat.zero_le _, Nat.zero_le _⟩ dX7_work_53) (fun z1 V1 H locs hp hG hS => ?_)
          have hp2 := hp
          exact r_i E hQ hG hS dX7_work_56 (by
                  by_cases q4 : V 50 4 < 4
                  · rw [if_pos q4] at hp2; rw [if_pos (by omega)]; exact hp2
                  · rw [if_neg q4] at hp2; rw [if_neg (by omega)]; exact hp2)
        · have q39 := b01_iff0.mp c39
          exact L42_1  (by omega) _ _ _ hG hS (lv_sub hl [] rfl)

set_option maxHeartbeats 4000000 in
set_option maxRecDepth 100000 in
theorem c_X7_drop (l : Launch) {X : We} {n : Nat} (hX : isX X n) (V : Mem) : Mt l X V yX7_drop cX7_drop 2 (some .int) 0 0 [.ref (wa X 0)] (Qi X (fun z V1 => z = V 50 4 ∧ V1 = st V 50 4 0)) := by
  refine Mt.go (by decide) (Nat.le_of_ble_eq_true rfl) ?_
  intro pg ev s0 mi bl mt cd ls Rm ag Qq hR hQ E hI hG hS hl
  have hl : lv_has ls 2 [(0, .ref (wa X 0))] := hl
  refine x_aload_n E dX7_drop_0 (lv_at hl 0 rfl) ?_
  refine x_getr E hI hG (xb0 hX) cf7 5 50 rfl (by decide) kf_X7_47 dX7_drop_1 ?_
  refine x_geti E hI hG (xk0 hX) cf6 4 (V 50 4) rfl (by decide) rfl kf_X7_144 dX7_drop_4 ?_
  refine x_istore_n E [(1, .int (jI (V 50 4))), (0, .ref (wa X 0))] dX7_drop_7 hl (by decide) rfl (fun ls hl => ?_)
  refine x_aload_n E dX7_drop_8 (lv_at hl 1 rfl) ?_
  refine x_getr E hI hG (xb0 hX) cf7 5 50 rfl (by decide) kf_X7_47 dX7_drop_9 ?_
  refine x_iconst E dX7_drop_12 ?_
  refine x_puti E hI hG hS (xk0 hX) cf6 4 4 rfl rfl (by decide) rfl rfl kf_X7_144 dX7_drop_13 (fun H locs hG hS => ?_)
  refine x_iload_n E dX7_drop_16 (lv_at hl 0 rfl) ?_
  exact r_i E hQ hG hS dX7_drop_17 (⟨rfl, rfl⟩)

set_option maxHeartbeats 4000000 in
set_option maxRecDepth 100000 in
theorem c_X7_mark (l : Launch) {X : We} {n : Nat} (hX : isX X n) (V : Mem) : Mt l X V yX7_mark cX7_mark 1 none 4 111 [.ref (wa X 0)] (Qv X (fun V1 => V1 = st (cpF V bM bN) 55 3 0)) := by
  refine Mt.go (by decide) (Nat.le_of_ble_eq_true rfl) ?_
  intro pg ev s0 mi bl mt cd ls Rm ag Qq hR hQ E hI hG hS hl
  have hl : lv_has ls 1 [(0, .ref (wa X 0))] := hl
  refine x_aload_n E dX7_mark_0 (lv_at hl 0 rfl) ?_
  refine x_getr E hI hG (xb0 hX) cf7 2 bM rfl (by decide) kf_X7_31 dX7_mark_1 ?_
  refine x_aload_n E dX7_mark_4 (lv_at hl 0 rfl) ?_
  refine x_getr E hI hG (xb0 hX) cf7 1 bN rfl (by decide) kf_X7_27 dX7_mark_5 ?_
  refine x_cv hG hS (x_runV E hI hG hS (xd0 hX isM) cf1 rfl (c_X1_copyFrom l hX isM isN (by decide) V) mf_X1_copyFrom km_X7_148 rfl hl rfl (Nat.le_of_ble_eq_true rfl) (by rw [hR]; exact ⟨Nat.le_of_ble_eq_true rfl, Nat.le_of_ble_eq_true rfl⟩) ⟨Nat.zero_le _, Nat.zero_le _⟩ dX7_mark_8) (fun V1 H locs hp hG hS => ?_)
  have eV := hp
  rw [eV] at hG
  refine x_aload_n E dX7_mark_11 (lv_at hl 0 rfl) ?_
  refine x_getr E hI hG (xb0 hX) cf7 6 55 rfl (by decide) kf_X7_54 dX7_mark_12 ?_
  refine x_iconst E dX7_mark_15 ?_
  refine x_puti E hI hG hS (xf0 hX) cf2 3 3 rfl rfl (by decide) rfl rfl kf_X7_151 dX7_mark_16 (fun H locs hG hS => ?_)
  exact r_v E hQ hG hS dX7_mark_19 rfl

set_option maxHeartbeats 4000000 in
set_option maxRecDepth 100000 in
theorem c_X7_flight (l : Launch) {X : We} {n : Nat} (hX : isX X n) {wd hi : Int} (V : Mem) (hk : XI V n wd hi) (c v d : Int) (h1 : rg c) (h2 : rg v) (h3 : rg d) : Mt l X V yX7_flight cX7_flight 4 (some .int) 1 23 [.ref (wa X 0), .int (jI c), .int (jI v), .int (jI d)] (Qi X (fun z V1 => if (0 ≤ c ∧ c < (n : Int)) ∧ (0 ≤ v ∧ v ≤ 9999) ∧ (0 ≤ d ∧ d ≤ 9) ∧ V 55 3 < 20 then z = V 55 3 + 1 ∧ V1 = flM c v d V else z = -1 ∧ V1 = V)) := by
  refine Mt.go (by decide) (Nat.le_of_ble_eq_true rfl) ?_
  intro pg ev s0 mi bl mt cd ls Rm ag Qq hR hQ E hI hG hS hl
  have hl : lv_has ls 4 [(0, .ref (wa X 0)), (1, .int (jI c)), (2, .int (jI v)), (3, .int (jI d))] := hl
  obtain ⟨iN, iM, zT, hTP, hWK, hFL⟩ := id hk
  have hs : Sh V n wd hi := iN.1.1
  have hd := hs.2.2.2.1
  obtain ⟨hn1, hn2⟩ := dims.n hd
  have dyN := iN.2.2.2
  have dyM := iM.2.2.2
  unfold rg at h1 h2 h3
  have L32_1 : (¬ ((0 ≤ c ∧ c < (n : Int)) ∧ (0 ≤ v ∧ v ≤ 9999) ∧ (0 ≤ d ∧ d ≤ 9) ∧ V 55 3 < 20)) → ∀ (H : Heap) (locs : List Loc) (ls : Array Slot), GW X V H → va_S (wA X) s0.heap H locs → lv_has ls 4 [] → W pg l ev Rm s0 mi ag bl mt cd H locs 0 0 Qq (F0 mi 32 ls []) := by
    intro  hno H locs ls hG hS hl
    refine x_iconst E dX7_flight_32 ?_
    exact r_i E hQ hG hS dX7_flight_33 (by rw [if_neg hno]; exact ⟨rfl, rfl⟩)
  refine x_aload_n E dX7_flight_0 (lv_at hl 0 rfl) ?_
  refine x_getr E hI hG (xb0 hX) cf7 0 1 rfl (by decide) kf_X7_18 dX7_flight_1 ?_
  refine x_iload_n E dX7_flight_4 (lv_at hl 1 rfl) ?_
  refine x_ci hG hS (x_runV E hI hG hS (xs0 hX) cf3 rfl (c_X3_has l hX V hs c (by unfold rg; omega)) mf_X3_has km_X7_62 rfl hl rfl (Nat.le_of_ble_eq_true rfl) (by rw [hR]; exact ⟨Nat.le_of_ble_eq_true rfl, Nat.le_of_ble_eq_true rfl⟩) ⟨Nat.zero_le _, Nat.zero_le _⟩ dX7_flight_5) (fun z1 V1 H locs hp hG hS => ?_)
  obtain ⟨ez, eV⟩ := hp
  rw [eV] at hG
  rw [ez]
  refine x_if_eq E 32 dX7_flight_8 (by decide) b01_rg (fun c8 => ?_) (fun c8 => ?_)
  · have q8 := b01_iff0.mp c8
    exact L32_1  (by omega) _ _ _ hG hS (lv_sub hl [] rfl)
  · have q8 := b01_ne c8
    refine x_iload_n E dX7_flight_11 (lv_at hl 2 rfl) ?_
    refine x_iconst E dX7_flight_12 ?_
    refine x_sipush E dX7_flight_13 (by decide) ?_
    refine x_ci hG hS (x_runS E hI hG hS (c_X7_isWithin l V v 0 9999 (by unfold rg; omega) (by unfold rg; omega) (by unfold rg; omega)) mf_X7_isWithin km_X7_66 rfl hl rfl (Nat.le_of_ble_eq_true rfl) (by rw [hR]; exact ⟨Nat.le_of_ble_eq_true rfl, Nat.le_of_ble_eq_true rfl⟩) ⟨Nat.zero_le _, Nat.zero_le _⟩ dX7_flight_16) (fun z1 V1 H locs hp hG hS => ?_)
    obtain ⟨ez, eV⟩ := hp
    rw [eV] at hG
    rw [ez]
    refine x_if_eq E 32 dX7_flight_19 (by decide) b01_rg (fun c19 => ?_) (fun c19 => ?_)
    · have q19 := b01_iff0.mp c19
      exact L32_1  (by omega) _ _ _ hG hS (lv_sub hl [] rfl)
    · have q19 := b01_ne c19
      refine x_iload_n E dX7_flight_22 (lv_at hl 3 rfl) ?_
      refine x_iconst E dX7_flight_23 ?_
      refine x_bipush E dX7_flight_24 (by decide) ?_
      refine x_ci hG hS (x_runS E hI hG hS (c_X7_isWithin l V d 0 9 (by unfold rg; omega) (by unfold rg; omega) (by unfold rg; omega)) mf_X7_isWithin km_X7_66 rfl hl rfl (Nat.le_of_ble_eq_true rfl) (by rw [hR]; exact ⟨Nat.le_of_ble_eq_true rfl, Nat.le_of_ble_eq_true rfl⟩) ⟨Nat.zero_le _, Nat.zero_le _⟩ dX7_flight_26) (fun z1 V1 H locs hp hG hS => ?_)
      obtain ⟨ez, eV⟩ := hp
      rw [eV] at hG
      rw [ez]
      refine x_if_ne E 34 dX7_flight_29 (by decide) b01_rg (fun c29 => ?_) (fun c29 => ?_)
      · have q29 := b01_ne c29
        refine x_aload_n E dX7_flight_34 (lv_at hl 0 rfl) ?_
        refine x_getr E hI hG (xb0 hX) cf7 6 55 rfl (by decide) kf_X7_54 dX7_flight_35 ?_
        refine x_iload_n E dX7_flight_38 (lv_at hl 1 rfl) ?_
        refine x_iload_n E dX7_flight_39 (lv_at hl 2 rfl) ?_
        refine x_iload_n E dX7_flight_40 (lv_at hl 3 rfl) ?_
        refine x_ci hG hS (x_runV E hI hG hS (xf0 hX) cf2 rfl (c_X2_add l hX V hFL.1 c v d) mf_X2_add km_X7_152 rfl hl rfl (Nat.le_of_ble_eq_true rfl) (by rw [hR]; exact ⟨Nat.le_of_ble_eq_true rfl, Nat.le_of_ble_eq_true rfl⟩) ⟨Nat.zero_le _, Nat.zero_le _⟩ dX7_flight_41) (fun z1 V1 H locs hp hG hS => ?_)
        have hp2 := hp
        exact r_i E hQ hG hS dX7_flight_44 (by
                by_cases q4 : V 55 3 < 20
                · rw [if_pos q4] at hp2; rw [if_pos (by omega)]; exact hp2
                · rw [if_neg q4] at hp2; rw [if_neg (by omega)]; exact hp2)
      · have q29 := b01_iff0.mp c29
        exact L32_1  (by omega) _ _ _ hG hS (lv_sub hl [] rfl)

set_option maxHeartbeats 4000000 in
set_option maxRecDepth 100000 in
theorem c_X7_about (l : Launch) {X : We} {n : Nat} (hX : isX X n) {wd hi : Int} (V : Mem) (hk : XI V n wd hi) (k : Int) (hk2 : rg k) : Mt l X V yX7_about cX7_about 2 (some .int) 1 22 [.ref (wa X 0), .int (jI k)] (Qi X (fun z V1 => z = abF V n wd hi k ∧ V1 = V)) := by
  refine Mt.go (by decide) (Nat.le_of_ble_eq_true rfl) ?_
  intro pg ev s0 mi bl mt cd ls Rm ag Qq hR hQ E hI hG hS hl
  have hl : lv_has ls 2 [(0, .ref (wa X 0)), (1, .int (jI k))] := hl
  obtain ⟨iN, iM, zT, hTP, hWK, hFL⟩ := id hk
  have hs : Sh V n wd hi := iN.1.1
  have hd := hs.2.2.2.1
  obtain ⟨hn1, hn2⟩ := dims.n hd
  have dyN := iN.2.2.2
  have dyM := iM.2.2.2
  have hk3 := hk2
  unfold rg at hk3
  refine x_iload_n E dX7_about_0 (lv_at hl 1 rfl) ?_
  refine x_bipush E dX7_about_1 (by decide) ?_
  refine x_bipush E dX7_about_3 (by decide) ?_
  refine x_ci hG hS (x_runS E hI hG hS (c_X7_isWithin l V k 20 24 (by unfold rg; omega) (by unfold rg; omega) (by unfold rg; omega)) mf_X7_isWithin km_X7_66 rfl hl rfl (Nat.le_of_ble_eq_true rfl) (by rw [hR]; exact ⟨Nat.le_of_ble_eq_true rfl, Nat.le_of_ble_eq_true rfl⟩) ⟨Nat.zero_le _, Nat.zero_le _⟩ dX7_about_5) (fun z1 V1 H locs hp hG hS => ?_)
  obtain ⟨ez, eV⟩ := hp
  rw [eV] at hG
  rw [ez]
  refine x_if_eq E 24 dX7_about_8 (by decide) b01_rg (fun c8 => ?_) (fun c8 => ?_)
  · have q8 := b01_iff0.mp c8
    refine x_iload_n E dX7_about_24 (lv_at hl 1 rfl) ?_
    rcases (show k = 0 ∨ k = 1 ∨ k = 2 ∨ k = 3 ∨ k = 4 ∨ k = 5 ∨ k = 6 ∨ k = 7 ∨ k = 8 ∨ k = 9 ∨ k = 10 ∨ k = 11 ∨ k = 12 ∨ (k < 0 ∨ 12 < k) by omega) with q | q | q | q | q | q | q | q | q | q | q | q | q | q
    · refine lv_tableIn E.1 E.2.1 dX7_about_25 (by rw [q]; decide) (by rw [q]; decide) (off := 67) (tgt := 92) (by rw [q]; decide) (by decide) ?_
      refine x_aload_n E dX7_about_92 (lv_at hl 0 rfl) ?_
      refine x_getr E hI hG (xb0 hX) cf7 1 bN rfl (by decide) kf_X7_27 dX7_about_93 ?_
      refine x_geti E hI hG (xd0 hX isN) cf1 12 (V bN 12) rfl (by decide) rfl kf_X7_129 dX7_about_96 ?_
      exact r_i E hQ hG hS dX7_about_99 (⟨by unfold abF; rw [if_neg q8, if_pos q], rfl⟩)
    · refine lv_tableIn E.1 E.2.1 dX7_about_25 (by rw [q]; decide) (by rw [q]; decide) (off := 75) (tgt := 100) (by rw [q]; decide) (by decide) ?_
      refine x_aload_n E dX7_about_100 (lv_at hl 0 rfl) ?_
      refine x_getr E hI hG (xb0 hX) cf7 0 1 rfl (by decide) kf_X7_18 dX7_about_101 ?_
      refine x_geti E hI hG (xs0 hX) cf3 0 (wd) rfl (by decide) (show V 1 0 = wd from hs.1) kf_X7_158 dX7_about_104 ?_
      exact r_i E hQ hG hS dX7_about_107 (⟨by unfold abF; rw [if_neg q8, if_neg (by omega), if_pos q], rfl⟩)
    · refine lv_tableIn E.1 E.2.1 dX7_about_25 (by rw [q]; decide) (by rw [q]; decide) (off := 83) (tgt := 108) (by rw [q]; decide) (by decide) ?_
      refine x_aload_n E dX7_about_108 (lv_at hl 0 rfl) ?_
      refine x_getr E hI hG (xb0 hX) cf7 0 1 rfl (by decide) kf_X7_18 dX7_about_109 ?_
      refine x_geti E hI hG (xs0 hX) cf3 1 (hi) rfl (by decide) (show V 1 1 = hi from hs.2.1) kf_X7_161 dX7_about_112 ?_
      exact r_i E hQ hG hS dX7_about_115 (⟨by unfold abF; rw [if_neg q8, if_neg (by omega), if_neg (by omega), if_pos q], rfl⟩)
    · refine lv_tableIn E.1 E.2.1 dX7_about_25 (by rw [q]; decide) (by rw [q]; decide) (off := 91) (tgt := 116) (by rw [q]; decide) (by decide) ?_
      refine x_aload_n E dX7_about_116 (lv_at hl 0 rfl) ?_
      refine x_getr E hI hG (xb0 hX) cf7 1 bN rfl (by decide) kf_X7_27 dX7_about_117 ?_
      refine x_ci hG hS (x_runV E hI hG hS (xd0 hX isN) cf1 rfl (c_X1_grains l hX isN V (by omega)) mf_X1_grains km_X7_164 rfl hl rfl (Nat.le_of_ble_eq_true rfl) (by rw [hR]; exact ⟨Nat.le_of_ble_eq_true rfl, Nat.le_of_ble_eq_true rfl⟩) ⟨Nat.zero_le _, Nat.zero_le _⟩ dX7_about_120) (fun z1 V1 H locs hp hG hS => ?_)
      obtain ⟨ez, eV⟩ := hp
      rw [eV] at hG
      rw [ez]
      exact r_i E hQ hG hS dX7_about_123 (⟨by unfold abF; rw [if_neg q8, if_neg (by omega), if_neg (by omega), if_neg (by omega), if_pos q], rfl⟩)
    · refine lv_tableIn E.1 E.2.1 dX7_about_25 (by rw [q]; decide) (by rw [q]; decide) (off := 99) (tgt := 124) (by rw [q]; decide) (by decide) ?_
      refine x_aload_n E dX7_about_124 (lv_at hl 0 rfl) ?_
      refine x_getr E hI hG (xb0 hX) cf7 1 bN rfl (by decide) kf_X7_27 dX7_about_125 ?_
      refine x_geti E hI hG (xd0 hX isN) cf1 13 (V bN 13) rfl (by decide) rfl kf_X7_168 dX7_about_128 ?_
      exact r_i E hQ hG hS dX7_about_131 (⟨by unfold abF; rw [if_neg q8, if_neg (by omega), if_neg (by omega), if_neg (by omega), if_neg (by omega), if_pos q], rfl⟩)
    · refine lv_tableIn E.1 E.2.1 dX7_about_25 (by rw [q]; decide) (by rw [q]; decide) (off := 107) (tgt := 132) (by rw [q]; decide) (by decide) ?_
      refine x_aload_n E dX7_about_132 (lv_at hl 0 rfl) ?_
      refine x_getr E hI hG (xb0 hX) cf7 1 bN rfl (by decide) kf_X7_27 dX7_about_133 ?_
      refine x_geti E hI hG (xd0 hX isN) cf1 14 (V bN 14) rfl (by decide) rfl kf_X7_171 dX7_about_136 ?_
      exact r_i E hQ hG hS dX7_about_139 (⟨by unfold abF; rw [if_neg q8, if_neg (by omega), if_neg (by omega), if_neg (by omega), if_neg (by omega), if_neg (by omega), if_pos q], rfl⟩)
    · refine lv_tableIn E.1 E.2.1 dX7_about_25 (by rw [q]; decide) (by rw [q]; decide) (off := 115) (tgt := 140) (by rw [q]; decide) (by decide) ?_
      refine x_aload_n E dX7_about_140 (lv_at hl 0 rfl) ?_
      refine x_getr E hI hG (xb0 hX) cf7 1 bN rfl (by decide) kf_X7_27 dX7_about_141 ?_
      refine x_geti E hI hG (xd0 hX isN) cf1 15 (V bN 15) rfl (by decide) rfl kf_X7_174 dX7_about_144 ?_
      exact r_i E hQ hG hS dX7_about_147 (⟨by unfold abF; rw [if_neg q8, if_neg (by omega), if_neg (by omega), if_neg (by omega), if_neg (by omega), if_neg (by omega), if_neg (by omega), if_pos q], rfl⟩)
    · refine lv_tableIn E.1 E.2.1 dX7_about_25 (by rw [q]; decide) (by rw [q]; decide) (off := 123) (tgt := 148) (by rw [q]; decide) (by decide) ?_
      refine x_aload_n E dX7_about_148 (lv_at hl 0 rfl) ?_
      refine x_getr E hI hG (xb0 hX) cf7 1 bN rfl (by decide) kf_X7_27 dX7_about_149 ?_
      refine x_getr E hI hG (xd0 hX isN) cf1 10 (bN + 11) rfl (by decide) kf_X7_101 dX7_about_152 ?_
      refine x_geti E hI hG (xw0 hX (isD.w isN)) cf5 2 (V (bN + 11) 2) rfl (by decide) rfl kf_X7_114 dX7_about_155 ?_
      exact r_i E hQ hG hS dX7_about_158 (⟨by unfold abF; rw [if_neg q8, if_neg (by omega), if_neg (by omega), if_neg (by omega), if_neg (by omega), if_neg (by omega), if_neg (by omega), if_neg (by omega), if_pos q], rfl⟩)
    · refine lv_tableIn E.1 E.2.1 dX7_about_25 (by rw [q]; decide) (by rw [q]; decide) (off := 134) (tgt := 159) (by rw [q]; decide) (by decide) ?_
      refine x_aload_n E dX7_about_159 (lv_at hl 0 rfl) ?_
      refine x_getr E hI hG (xb0 hX) cf7 1 bN rfl (by decide) kf_X7_27 dX7_about_160 ?_
      refine x_getr E hI hG (xd0 hX isN) cf1 10 (bN + 11) rfl (by decide) kf_X7_101 dX7_about_163 ?_
      refine x_ci hG hS (x_runV E hI hG hS (xw0 hX (isD.w isN)) cf5 rfl (c_X5_next l hX (isD.w isN) V iN.2.2.1) mf_X5_next km_X7_177 rfl hl rfl (Nat.le_of_ble_eq_true rfl) (by rw [hR]; exact ⟨Nat.le_of_ble_eq_true rfl, Nat.le_of_ble_eq_true rfl⟩) ⟨Nat.zero_le _, Nat.zero_le _⟩ dX7_about_166) (fun z1 V1 H locs hp hG hS => ?_)
      obtain ⟨ez, eV⟩ := hp
      rw [eV] at hG
      rw [ez]
      exact r_i E hQ hG hS dX7_about_169 (⟨by unfold abF; rw [if_neg q8, if_neg (by omega), if_neg (by omega), if_neg (by omega), if_neg (by omega), if_neg (by omega), if_neg (by omega), if_neg (by omega), if_neg (by omega), if_pos q], rfl⟩)
    · refine lv_tableIn E.1 E.2.1 dX7_about_25 (by rw [q]; decide) (by rw [q]; decide) (off := 145) (tgt := 170) (by rw [q]; decide) (by decide) ?_
      refine x_aload_n E dX7_about_170 (lv_at hl 0 rfl) ?_
      refine x_getr E hI hG (xb0 hX) cf7 4 45 rfl (by decide) kf_X7_40 dX7_about_171 ?_
      refine x_geti E hI hG (xt0 hX) cf4 1 (V 45 1) rfl (by decide) rfl kf_X7_90 dX7_about_174 ?_
      exact r_i E hQ hG hS dX7_about_177 (⟨by unfold abF; rw [if_neg q8, if_neg (by omega), if_neg (by omega), if_neg (by omega), if_neg (by omega), if_neg (by omega), if_neg (by omega), if_neg (by omega), if_neg (by omega), if_neg (by omega), if_pos q], rfl⟩)
    · refine lv_tableIn E.1 E.2.1 dX7_about_25 (by rw [q]; decide) (by rw [q]; decide) (off := 153) (tgt := 178) (by rw [q]; decide) (by decide) ?_
      refine x_aload_n E dX7_about_178 (lv_at hl 0 rfl) ?_
      refine x_getr E hI hG (xb0 hX) cf7 5 50 rfl (by decide) kf_X7_47 dX7_about_179 ?_
      refine x_geti E hI hG (xk0 hX) cf6 4 (V 50 4) rfl (by decide) rfl kf_X7_144 dX7_about_182 ?_
      exact r_i E hQ hG hS dX7_about_185 (⟨by unfold abF; rw [if_neg q8, if_neg (by omega), if_neg (by omega), if_neg (by omega), if_neg (by omega), if_neg (by omega), if_neg (by omega), if_neg (by omega), if_neg (by omega), if_neg (by omega), if_neg (by omega), if_pos q], rfl⟩)
    · refine lv_tableIn E.1 E.2.1 dX7_about_25 (by rw [q]; decide) (by rw [q]; decide) (off := 161) (tgt := 186) (by rw [q]; decide) (by decide) ?_
      refine x_aload_n E dX7_about_186 (lv_at hl 0 rfl) ?_
      refine x_getr E hI hG (xb0 hX) cf7 6 55 rfl (by decide) kf_X7_54 dX7_about_187 ?_
      refine x_geti E hI hG (xf0 hX) cf2 3 (V 55 3) rfl (by decide) rfl kf_X7_151 dX7_about_190 ?_
      exact r_i E hQ hG hS dX7_about_193 (⟨by unfold abF; rw [if_neg q8, if_neg (by omega), if_neg (by omega), if_neg (by omega), if_neg (by omega), if_neg (by omega), if_neg (by omega), if_neg (by omega), if_neg (by omega), if_neg (by omega), if_neg (by omega), if_neg (by omega), if_pos q], rfl⟩)
    · refine lv_tableIn E.1 E.2.1 dX7_about_25 (by rw [q]; decide) (by rw [q]; decide) (off := 169) (tgt := 194) (by rw [q]; decide) (by decide) ?_
      refine x_aload_n E dX7_about_194 (lv_at hl 0 rfl) ?_
      refine x_getr E hI hG (xb0 hX) cf7 2 bM rfl (by decide) kf_X7_31 dX7_about_195 ?_
      refine x_geti E hI hG (xd0 hX isM) cf1 12 (V bM 12) rfl (by decide) rfl kf_X7_129 dX7_about_198 ?_
      exact r_i E hQ hG hS dX7_about_201 (⟨by unfold abF; rw [if_neg q8, if_neg (by omega), if_neg (by omega), if_neg (by omega), if_neg (by omega), if_neg (by omega), if_neg (by omega), if_neg (by omega), if_neg (by omega), if_neg (by omega), if_neg (by omega), if_neg (by omega), if_neg (by omega), if_pos q], rfl⟩)
    · refine lv_tableOut (tgt := 202) E.1 E.2.1 dX7_about_25 (by rw [j_toInt hk2]; omega) (by decide) ?_
      refine x_iconst E dX7_about_202 ?_
      exact r_i E hQ hG hS dX7_about_203 (⟨by unfold abF; rw [if_neg q8, if_neg (by omega), if_neg (by omega), if_neg (by omega), if_neg (by omega), if_neg (by omega), if_neg (by omega), if_neg (by omega), if_neg (by omega), if_neg (by omega), if_neg (by omega), if_neg (by omega), if_neg (by omega), if_neg (by omega)], rfl⟩)
  · have q8 := b01_ne c8
    refine x_aload_n E dX7_about_11 (lv_at hl 0 rfl) ?_
    refine x_getr E hI hG (xb0 hX) cf7 1 bN rfl (by decide) kf_X7_27 dX7_about_12 ?_
    refine x_getr E hI hG (xd0 hX isN) cf1 9 (bN + 10) rfl (by decide) kf_X7_81 dX7_about_15 ?_
    refine x_iload_n E dX7_about_18 (lv_at hl 1 rfl) ?_
    refine x_bipush E dX7_about_19 (by decide) ?_
    refine x_isub E dX7_about_21 ?_
    refine x_iald E hI hG (xd10 hX isN) (V (bN + 10) (k - 20)) rfl (by omega) dX7_about_22 ?_
    exact r_i E hQ hG hS dX7_about_23 (⟨by unfold abF; rw [if_pos q8], rfl⟩)
