/-- what is known of a class: its number, its fields' words, types, names -/
def ClF (ci : Nat) (C : String) (T : u_T) (ty : Nat → FieldType) (N : Nat) : Prop := vwCl[ci]? = some (C, T, N) ∧ (∀ w ∈ u_ws C T N, w ∈ gT) ∧ (∀ k, k < N → parseFieldDescriptor (T k).2.2.1 = some (ty k)) ∧ ∀ a, a < N → ∀ b, b < N → a ≠ b → (T a).2.1 ≠ (T b).2.1
theorem cf0 : ClF 0 RX0 TX0 tyX0 1 := ⟨rfl, inX0, tyX0_ok, nmX0⟩
theorem cf1 : ClF 1 RX1 TX1 tyX1 16 := ⟨rfl, inX1, tyX1_ok, nmX1⟩
theorem cf2 : ClF 2 RX2 TX2 tyX2 4 := ⟨rfl, inX2, tyX2_ok, nmX2⟩
theorem cf3 : ClF 3 RX3 TX3 tyX3 4 := ⟨rfl, inX3, tyX3_ok, nmX3⟩
theorem cf4 : ClF 4 RX4 TX4 tyX4 5 := ⟨rfl, inX4, tyX4_ok, nmX4⟩
theorem cf5 : ClF 5 RX5 TX5 tyX5 5 := ⟨rfl, inX5, tyX5_ok, nmX5⟩
theorem cf6 : ClF 6 RX6 TX6 tyX6 5 := ⟨rfl, inX6, tyX6_ok, nmX6⟩
theorem cf7 : ClF 7 RX7 TX7 tyX7 8 := ⟨rfl, inX7, tyX7_ok, nmX7⟩
theorem cf8 : ClF 8 RX8 TX8 tyX8 50 := ⟨rfl, inX8, tyX8_ok, nmX8⟩
/-- a place of the table -/
def At (X : We) (p : Nat) (d : Pd) : Prop := wT X p = d ∧ p < wn X
section XM
variable {p : Program} {l : Launch} {e : Env} {R : Room} {s : State} {m : MethodId} {args : Array Value} {below : List Frame} {meth : Method} {c : Code} {H : Heap} {locs : List Loc} {cells slots : Nat} {Q : State → Prop}
variable {own : String} {cc : ByteArray} {nL : Nat} {ret : Option FieldType} {pc : Nat} {ls : Array Slot} {rest : List Value}
variable {X : We} {V : Mem} {q : Nat}
theorem GW.cell {ci : Nat} {fs : List (Option Nat)} (hT : At X q (.inr (ci, fs))) : (gw X V)[q]? = some (wa X q, .inr (ci, g_fv X V q 0 fs)) := by
  rw [gw_get hT.2, g_e_obj hT.1]
theorem GW.row {k n : Nat} (hT : At X q (.inl (k, n))) (hk : k ≠ 3) : (gw X V)[q]? = some (wa X q, .inl (wC X k, n, .inl (fun j => jI (V q (j : Int))))) := by
  rw [gw_get hT.2, g_e_arr hT.1 hk]
theorem GW.rowL {n : Nat} (hT : At X q (.inl (3, n))) : (gw X V)[q]? = some (wa X q, .inl (wC X 3, n, .inr (.inl (fun j => lI (V q (j : Int)))))) := by
  rw [gw_get hT.2, g_e_long hT.1]
theorem x_getr (E : Ev p s m meth c own cc nL args ret) (hI : GJ X s) (hG : GW X V H) {ci : Nat} {fs : List (Option Nat)} (hT : At X q (.inr (ci, fs))) {C : String} {T : u_T} {ty : Nat → FieldType} {N : Nat} (cf : ClF ci C T ty N) (k r : Nat) (hf : fs[k]? = some (some r)) (hk : k < N) {index : Nat} (hlk : Cond.fieldLink own index (T k).1 (T k).2.1 (T k).2.2.1 ∈ gT) (hdg : decode cc pc = .ok (.getfield index, 3))
    (kk : W p l e R s m args below meth c H locs cells slots Q (F0 m (pc + 3) ls (.ref (wa X r) :: rest))) : W p l e R s m args below meth c H locs cells slots Q (F0 m pc ls (.ref (wa X q) :: rest)) :=
  va_get (C := C) (T := T) (N := N) (ci := ci) E.1 E.2.1 E.2.2.2.2.1 cf.2.1 E.2.2.2.1 hI.1 hG q (GW.cell hT) cf.1 k hk (E.2.2.2.2.1 _ hlk) (fun _ h => h) (by rw [g_fv_get fs 0 k _ hf]) hdg kk
theorem x_geti (E : Ev p s m meth c own cc nL args ret) (hI : GJ X s) (hG : GW X V H) {ci : Nat} {fs : List (Option Nat)} (hT : At X q (.inr (ci, fs))) {C : String} {T : u_T} {ty : Nat → FieldType} {N : Nat} (cf : ClF ci C T ty N) (k : Nat) (z : Int) (hf : fs[k]? = some none) (hk : k < N) (hz : V q ((k : Nat) : Int) = z) {index : Nat} (hlk : Cond.fieldLink own index (T k).1 (T k).2.1 (T k).2.2.1 ∈ gT) (hdg : decode cc pc = .ok (.getfield index, 3))
    (kk : W p l e R s m args below meth c H locs cells slots Q (F0 m (pc + 3) ls (.int (jI z) :: rest))) : W p l e R s m args below meth c H locs cells slots Q (F0 m pc ls (.ref (wa X q) :: rest)) :=
  va_get (C := C) (T := T) (N := N) (ci := ci) E.1 E.2.1 E.2.2.2.2.1 cf.2.1 E.2.2.2.1 hI.1 hG q (GW.cell hT) cf.1 k hk (E.2.2.2.2.1 _ hlk) (fun _ h => h) (by rw [g_fv_get fs 0 k _ hf]) hdg (by simp only [Nat.zero_add]; rw [hz]; exact kk)
theorem x_puti (E : Ev p s m meth c own cc nL args ret) (hI : GJ X s) (hG : GW X V H) (hS : va_S (wA X) s.heap H locs) {ci : Nat} {fs : List (Option Nat)} (hT : At X q (.inr (ci, fs))) {C : String} {T : u_T} {ty : Nat → FieldType} {N : Nat} (cf : ClF ci C T ty N) (k : Nat) (ki : Int) (hki : ((k : Nat) : Int) = ki) (hf : fs[k]? = some none) (hk : k < N) (hint : (T k).2.2.1 = "I") (hfin : (T k).2.2.2 = false) {v : Int} {index : Nat} (hlk : Cond.fieldLink own index (T k).1 (T k).2.1 (T k).2.2.1 ∈ gT) (hdg : decode cc pc = .ok (.putfield index, 3))
    (kk : ∀ (H1 : Heap) (locs1 : List Loc), GW X (st V q ki v) H1 → va_S (wA X) s.heap H1 locs1 → W p l e R s m args below meth c H1 locs1 cells slots Q (F0 m (pc + 3) ls rest)) : W p l e R s m args below meth c H locs cells slots Q (F0 m pc ls (.int (jI v) :: .ref (wa X q) :: rest)) := by
  subst hki
  refine va_put (C := C) (T := T) (N := N) (ci := ci) (ty := .int) E.1 E.2.1 E.2.2.2.2.1 cf.2.1 ty cf.2.2.1 cf.2.2.2 E.2.2.2.1 hI.1 hG (gw_D hI.2.1 V) hS q (GW.cell hT) cf.1 k hk (E.2.2.2.2.1 _ hlk) (fun _ h => h) hfin (by rw [hint]; decide) rfl rfl (by rw [g_fv_len]; exact (List.getElem?_eq_some_iff.mp hf).1) hdg (fun H1 locs1 hP1 _ hS1 => kk H1 locs1 ?_ hS1)
  rw [gw_set (V' := st V q ((k : Nat) : Int) v) hT.2 (fun r hr => st_p hr) (by rw [g_e_obj hT.1, g_fv_set v fs 0 k hf, Nat.zero_add])] at hP1
  exact hP1
theorem x_iald (E : Ev p s m meth c own cc nL args ret) (hI : GJ X s) (hG : GW X V H) {n : Nat} (hT : At X q (.inl (0, n))) {z : Int} (v : Int) (hv : V q z = v) (hin : 0 ≤ z ∧ z < (n : Int)) (hdg : decode cc pc = .ok (.iaload, 1))
    (kk : W p l e R s m args below meth c H locs cells slots Q (F0 m (pc + 1) ls (.int (jI v) :: rest))) : W p l e R s m args below meth c H locs cells slots Q (F0 m pc ls (.int (jI z) :: .ref (wa X q) :: rest)) := by
  have hn : n < 2147483648 := hI.2.2.1 q _ hT.1
  refine va_iald E.1 E.2.1 hI.1 hG q 0 (GW.row hT (by decide)) rfl (j_in hin hn) hdg ?_
  rw [j_clamp hin.1 (by omega), Int.toNat_of_nonneg hin.1, hv]
  exact kk
theorem x_bald (E : Ev p s m meth c own cc nL args ret) (hI : GJ X s) (hG : GW X V H) {n : Nat} (hT : At X q (.inl (1, n))) {z : Int} (v : Int) (hv : V q z = v) (hin : 0 ≤ z ∧ z < (n : Int)) (hdg : decode cc pc = .ok (.baload, 1))
    (kk : W p l e R s m args below meth c H locs cells slots Q (F0 m (pc + 1) ls (.int (jI v) :: rest))) : W p l e R s m args below meth c H locs cells slots Q (F0 m pc ls (.int (jI z) :: .ref (wa X q) :: rest)) := by
  have hn : n < 2147483648 := hI.2.2.1 q _ hT.1
  refine va_bald E.1 E.2.1 hI.1 hG q 1 (GW.row hT (by decide)) rfl (j_in hin hn) hdg ?_
  rw [j_clamp hin.1 (by omega), Int.toNat_of_nonneg hin.1, hv]
  exact kk
theorem x_zald (E : Ev p s m meth c own cc nL args ret) (hI : GJ X s) (hG : GW X V H) {n : Nat} (hT : At X q (.inl (2, n))) {z : Int} (v : Int) (hv : V q z = v) (hin : 0 ≤ z ∧ z < (n : Int)) (hdg : decode cc pc = .ok (.baload, 1))
    (kk : W p l e R s m args below meth c H locs cells slots Q (F0 m (pc + 1) ls (.int (jI v) :: rest))) : W p l e R s m args below meth c H locs cells slots Q (F0 m pc ls (.int (jI z) :: .ref (wa X q) :: rest)) := by
  have hn : n < 2147483648 := hI.2.2.1 q _ hT.1
  refine va_zald E.1 E.2.1 hI.1 hG q 2 (GW.row hT (by decide)) rfl (j_in hin hn) hdg ?_
  rw [j_clamp hin.1 (by omega), Int.toNat_of_nonneg hin.1, hv]
  exact kk
theorem x_lald (E : Ev p s m meth c own cc nL args ret) (hI : GJ X s) (hG : GW X V H) {n : Nat} (hT : At X q (.inl (3, n))) {z : Int} (v : Int) (hv : V q z = v) (hin : 0 ≤ z ∧ z < (n : Int)) (hdg : decode cc pc = .ok (.laload, 1))
    (kk : W p l e R s m args below meth c H locs cells slots Q (F0 m (pc + 1) ls (.long (lI v) :: rest))) : W p l e R s m args below meth c H locs cells slots Q (F0 m pc ls (.int (jI z) :: .ref (wa X q) :: rest)) := by
  have hn : n < 2147483648 := hI.2.2.1 q _ hT.1
  refine va_lald E.1 E.2.1 hI.1 hG q 3 (GW.rowL hT) rfl (j_in hin hn) hdg ?_
  rw [j_clamp hin.1 (by omega), Int.toNat_of_nonneg hin.1, hv]
  exact kk
theorem upd_st {V : Mem} {q : Nat} {z v : Int} (hz : 0 ≤ z) : upd (fun j => jI (V q (j : Int))) z.toNat (jI v) = fun j : Nat => jI (st V q z v q (j : Int)) := by
  funext j
  unfold upd
  by_cases h : j = z.toNat
  · subst h
    rw [if_pos rfl, Int.toNat_of_nonneg hz, st_s]
  · rw [if_neg h, st_k (by omega)]
theorem updL_st {V : Mem} {q : Nat} {z v : Int} (hz : 0 ≤ z) : vp_updL (fun j => lI (V q (j : Int))) z.toNat (lI v) = fun j : Nat => lI (st V q z v q (j : Int)) := by
  funext j
  unfold vp_updL
  by_cases h : j = z.toNat
  · subst h
    rw [if_pos rfl, Int.toNat_of_nonneg hz, st_s]
  · rw [if_neg h, st_k (by omega)]
theorem x_iast (E : Ev p s m meth c own cc nL args ret) (hI : GJ X s) (hG : GW X V H) (hS : va_S (wA X) s.heap H locs) {n : Nat} (hT : At X q (.inl (0, n))) {z v : Int} (hin : 0 ≤ z ∧ z < (n : Int)) (hdg : decode cc pc = .ok (.iastore, 1))
    (kk : ∀ (H1 : Heap) (locs1 : List Loc), GW X (st V q z v) H1 → va_S (wA X) s.heap H1 locs1 → W p l e R s m args below meth c H1 locs1 cells slots Q (F0 m (pc + 1) ls rest)) : W p l e R s m args below meth c H locs cells slots Q (F0 m pc ls (.int (jI v) :: .int (jI z) :: .ref (wa X q) :: rest)) := by
  have hn : n < 2147483648 := hI.2.2.1 q _ hT.1
  refine va_iast E.1 E.2.1 hI.1 hG (gw_D hI.2.1 V) hS q 0 (GW.row hT (by decide)) rfl (j_in hin hn) hdg (fun H1 locs1 hP1 _ hS1 => kk H1 locs1 ?_ hS1)
  rw [j_clamp hin.1 (by omega), upd_st hin.1, gw_set (V' := st V q z v) hT.2 (fun r hr => st_p hr) (by rw [g_e_arr hT.1 (by decide)])] at hP1
  exact hP1
theorem x_bast (E : Ev p s m meth c own cc nL args ret) (hI : GJ X s) (hG : GW X V H) (hS : va_S (wA X) s.heap H locs) {n : Nat} (hT : At X q (.inl (1, n))) {z v : Int} (hin : 0 ≤ z ∧ z < (n : Int)) (hv : -128 ≤ v ∧ v < 128) (hdg : decode cc pc = .ok (.bastore, 1))
    (kk : ∀ (H1 : Heap) (locs1 : List Loc), GW X (st V q z v) H1 → va_S (wA X) s.heap H1 locs1 → W p l e R s m args below meth c H1 locs1 cells slots Q (F0 m (pc + 1) ls rest)) : W p l e R s m args below meth c H locs cells slots Q (F0 m pc ls (.int (jI v) :: .int (jI z) :: .ref (wa X q) :: rest)) := by
  have hn : n < 2147483648 := hI.2.2.1 q _ hT.1
  have hb : vp_nar .byte (jI v) = jI v := by
    rw [vp_nar_byte]
    apply Int32.toInt_inj.1
    have hr : rg v := ⟨by omega, by omega⟩
    rw [Int8.toInt_toInt32, Int32.toInt_toInt8, j_toInt hr, Int.bmod_eq_of_le (by omega) (by omega)]
  refine va_bast E.1 E.2.1 hI.1 hG (gw_D hI.2.1 V) hS q 1 (GW.row hT (by decide)) rfl (j_in hin hn) hdg (fun H1 locs1 hP1 _ hS1 => kk H1 locs1 ?_ hS1)
  rw [hb, j_clamp hin.1 (by omega), upd_st hin.1, gw_set (V' := st V q z v) hT.2 (fun r hr => st_p hr) (by rw [g_e_arr hT.1 (by decide)])] at hP1
  exact hP1
theorem x_zast (E : Ev p s m meth c own cc nL args ret) (hI : GJ X s) (hG : GW X V H) (hS : va_S (wA X) s.heap H locs) {n : Nat} (hT : At X q (.inl (2, n))) {z v : Int} (hin : 0 ≤ z ∧ z < (n : Int)) (hv : v = 0 ∨ v = 1) (hdg : decode cc pc = .ok (.bastore, 1))
    (kk : ∀ (H1 : Heap) (locs1 : List Loc), GW X (st V q z v) H1 → va_S (wA X) s.heap H1 locs1 → W p l e R s m args below meth c H1 locs1 cells slots Q (F0 m (pc + 1) ls rest)) : W p l e R s m args below meth c H locs cells slots Q (F0 m pc ls (.int (jI v) :: .int (jI z) :: .ref (wa X q) :: rest)) := by
  have hn : n < 2147483648 := hI.2.2.1 q _ hT.1
  have hb : vp_nar .boolean (jI v) = jI v := by rcases hv with rfl | rfl <;> decide
  refine va_zast E.1 E.2.1 hI.1 hG (gw_D hI.2.1 V) hS q 2 (GW.row hT (by decide)) rfl (j_in hin hn) hdg (fun H1 locs1 hP1 _ hS1 => kk H1 locs1 ?_ hS1)
  rw [hb, j_clamp hin.1 (by omega), upd_st hin.1, gw_set (V' := st V q z v) hT.2 (fun r hr => st_p hr) (by rw [g_e_arr hT.1 (by decide)])] at hP1
  exact hP1
theorem x_last (E : Ev p s m meth c own cc nL args ret) (hI : GJ X s) (hG : GW X V H) (hS : va_S (wA X) s.heap H locs) {n : Nat} (hT : At X q (.inl (3, n))) {z v : Int} (hin : 0 ≤ z ∧ z < (n : Int)) (hdg : decode cc pc = .ok (.lastore, 1))
    (kk : ∀ (H1 : Heap) (locs1 : List Loc), GW X (st V q z v) H1 → va_S (wA X) s.heap H1 locs1 → W p l e R s m args below meth c H1 locs1 cells slots Q (F0 m (pc + 1) ls rest)) : W p l e R s m args below meth c H locs cells slots Q (F0 m pc ls (.long (lI v) :: .int (jI z) :: .ref (wa X q) :: rest)) := by
  have hn : n < 2147483648 := hI.2.2.1 q _ hT.1
  refine va_last E.1 E.2.1 hI.1 hG (gw_D hI.2.1 V) hS q 3 (GW.rowL hT) rfl (j_in hin hn) hdg (fun H1 locs1 hP1 _ hS1 => kk H1 locs1 ?_ hS1)
  rw [j_clamp hin.1 (by omega), updL_st hin.1, gw_set (V' := st V q z v) hT.2 (fun r hr => st_p hr) (by rw [g_e_long hT.1])] at hP1
  exact hP1
theorem x_alen (E : Ev p s m meth c own cc nL args ret) (hI : GJ X s) (hG : GW X V H) {k n : Nat} (hT : At X q (.inl (k, n))) (hk : k = 0 ∨ k = 1 ∨ k = 2) (hdg : decode cc pc = .ok (.arraylength, 1))
    (kk : W p l e R s m args below meth c H locs cells slots Q (F0 m (pc + 1) ls (.int (jI (n : Int)) :: rest))) : W p l e R s m args below meth c H locs cells slots Q (F0 m pc ls (.ref (wa X q) :: rest)) := by
  rcases hk with rfl | rfl | rfl
  · exact va_alen E.1 E.2.1 hI.1 hG q 0 (GW.row hT (by decide)) (ty := .int) rfl rfl hdg kk
  · exact va_alen E.1 E.2.1 hI.1 hG q 1 (GW.row hT (by decide)) (ty := .byte) rfl rfl hdg kk
  · exact va_alen E.1 E.2.1 hI.1 hG q 2 (GW.row hT (by decide)) (ty := .boolean) rfl rfl hdg kk
theorem x_alenL (E : Ev p s m meth c own cc nL args ret) (hI : GJ X s) (hG : GW X V H) {n : Nat} (hT : At X q (.inl (3, n))) (hdg : decode cc pc = .ok (.arraylength, 1))
    (kk : W p l e R s m args below meth c H locs cells slots Q (F0 m (pc + 1) ls (.int (jI (n : Int)) :: rest))) : W p l e R s m args below meth c H locs cells slots Q (F0 m pc ls (.ref (wa X q) :: rest)) :=
  va_alen E.1 E.2.1 hI.1 hG q 3 (GW.rowL hT) (ty := .long) rfl rfl hdg kk
theorem x_iret (E : Ev p s m meth c own cc nL args (some .int)) (hG : GW X V H) (hS : va_S (wA X) s.heap H locs) {post : Int → Mem → Prop} {z : Int} (hp : post z V) (hdg : decode cc pc = .ok (.ireturn, 1)) : W p l e R s m args below meth c H locs cells slots (MQ below (Qi X post) args s cells slots (wA X)) (F0 m pc ls [.int (jI z)]) :=
  W.iret (v := jI z) E.1 E.2.1 E.2.2.2.2.2.1 (fun t ht hW => ⟨⟨jI z, V, rfl, ⟨z, rfl, hp⟩, by show GW X V t.heap; rw [ht]; exact hG⟩, hS.F ht⟩) hS.2.2 hdg E.2.2.2.2.2.2
theorem x_zret (E : Ev p s m meth c own cc nL args (some .boolean)) (hG : GW X V H) (hS : va_S (wA X) s.heap H locs) {post : Int → Mem → Prop} {z : Int} (hz : z = 0 ∨ z = 1) (hp : post z V) (hdg : decode cc pc = .ok (.ireturn, 1)) : W p l e R s m args below meth c H locs cells slots (MQ below (Qi X post) args s cells slots (wA X)) (F0 m pc ls [.int (jI z)]) :=
  W.zret (v := jI z) E.1 E.2.1 E.2.2.2.2.2.1 (by rcases hz with rfl | rfl <;> rfl) (fun t ht hW => ⟨⟨jI z, V, rfl, ⟨z, rfl, hp⟩, by show GW X V t.heap; rw [ht]; exact hG⟩, hS.F ht⟩) hS.2.2 hdg E.2.2.2.2.2.2
theorem x_vret (E : Ev p s m meth c own cc nL args none) (hG : GW X V H) (hS : va_S (wA X) s.heap H locs) {post : Mem → Prop} (hp : post V) (hdg : decode cc pc = .ok (.return_, 1)) : W p l e R s m args below meth c H locs cells slots (MQ below (Qv X post) args s cells slots (wA X)) (F0 m pc ls []) :=
  W.vret E.1 E.2.1 E.2.2.2.2.2.1 (fun t ht hW => ⟨⟨V, rfl, hp, by show GW X V t.heap; rw [ht]; exact hG⟩, hS.F ht⟩) hS.2.2 hdg E.2.2.2.2.2.2
end XM
