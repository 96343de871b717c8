/-! ===== the law: the script, two worlds side by side ===== -/
def sx (xs : Nat → Int32) (j : Int) : Int := (xs j.toNat).toInt
theorem sx_rg (xs : Nat → Int32) (j : Int) : rg (sx xs j) := j_rg _
def clv (xs : Nat → Int32) (L : Nat) (k : Int) : Int := if k < (L : Int) then sx xs k else 0
theorem clv_rg (xs : Nat → Int32) (L : Nat) (k : Int) : rg (clv xs L k) := by
  unfold clv
  split
  · exact sx_rg _ _
  · exact rg_0
section LA
variable {p : Program} {l : Launch} {e : Env} {R : Room} {s : State} {m : MethodId} {args : Array Value} {below : List Frame} {meth : Method} {c : Code} {H : Heap} {locs : List Loc} {cells slots : Nat} {Q : State → Prop}
variable {own : String} {cc : ByteArray} {nL : Nat} {ret : Option FieldType} {pc : Nat} {ls : Array Slot} {rest : List Value}
variable {A : Nat → Prop} {b L : Nat} {xs : Nat → Int32}
theorem y_slen (E : Ev p s m meth c own cc nL args ret) (hX : va_X b L xs s s.heap) (hbl : b < s.heap.size) (hbA : ¬ A b) (hS : va_S A s.heap H locs) (hdg : decode cc pc = .ok (.arraylength, 1)) (kk : W p l e R s m args below meth c H locs cells slots Q (F0 m (pc + 1) ls (.int (jI (L : Int)) :: rest))) : W p l e R s m args below meth c H locs cells slots Q (F0 m pc ls (.ref b :: rest)) :=
  va_slen E.1 E.2.1 hX hbl hbA hS hdg (by rw [show Int32.ofNat L = jI (L : Int) from j_nat L]; exact kk)
theorem y_sld (E : Ev p s m meth c own cc nL args ret) (hX : va_X b L xs s s.heap) (hbl : b < s.heap.size) (hbA : ¬ A b) (hS : va_S A s.heap H locs) (hL : L ≤ 3074) {i : Int} (hi : 0 ≤ i ∧ i < (L : Int)) (hdg : decode cc pc = .ok (.iaload, 1)) (kk : W p l e R s m args below meth c H locs cells slots Q (F0 m (pc + 1) ls (.int (jI (sx xs i)) :: rest))) : W p l e R s m args below meth c H locs cells slots Q (F0 m pc ls (.int (jI i) :: .ref b :: rest)) :=
  va_sld E.1 E.2.1 hX hbl hbA hS (j_in hi (by omega)) hdg (by rw [j_clamp hi.1 (by omega), ← j_of (xs i.toNat)]; exact kk)
theorem c_L_cell (l : Launch) (hL : L ≤ 3074) (k : Int) (hk : 0 ≤ k ∧ k < 2) : Met l yL_cell (.code yL_cell cL_cell 2 (some .int) :: gT) ({ frames := 0, cells := 0, slots := 0, locals := 0 }) (va_Pc [.ref b, .int (jI k)] (fun U => va_X b L xs U U.heap)) (va_Qi (S := Unit) (fun r _ => r = jI (clv xs L k)) (fun _ _ => True) (fun _ => False)) 0 0 (fun _ => False) := by
  refine Met.ofW (cc := cL_cell) (maxL := 2) (ret := some .int) (by decide) rfl ?_
  intro p e s m args below meth c s₁ B hml hv
  obtain ⟨rfl, hX⟩ := hv
  have hts := atoms_spec (ws := .code yL_cell cL_cell 2 (some .int) :: gT) B.pre
  have hown : s.vm.findClass yL_cell.cls = some m.cls := findClass_of_methodNamed B.named
  rw [lg_entry_eq]
  have E : Ev p s m meth c yL_cell.cls cL_cell 2 ([Value.ref b, .int (jI k)] : List Value).toArray (some .int) := ⟨B.exec, B.bytes, hml, hown, fun w hw => hts w (List.mem_cons_of_mem _ hw), B.returns, B.notSynchronized⟩
  have hbl : b < s.heap.size := by
    obtain ⟨scr, h1, -⟩ := hX
    exact (Array.getElem?_eq_some_iff.mp h1).1
  have hS : va_S (fun _ => False) s.heap s.heap [] := va_S.rf
  have fin : ∀ (z : Int), z = clv xs L k → ∀ (pc : Nat) (ls : Array Slot), decode cL_cell pc = .ok (.ireturn, 1) → W p l e ({ frames := 0, cells := 0, slots := 0, locals := 0 }) s m ([Value.ref b, .int (jI k)] : List Value).toArray below meth c s.heap [] 0 0 (MQ below (va_Qi (S := Unit) (fun r _ => r = jI (clv xs L k)) (fun _ _ => True) (fun _ => False)) ([Value.ref b, .int (jI k)] : List Value).toArray s 0 0 (fun _ => False)) (F0 m pc ls [.int (jI z)]) := fun z ez pc ls hdg =>
    W.iret (v := jI z) E.1 E.2.1 E.2.2.2.2.2.1 (fun t ht hW => ⟨⟨jI z, (), rfl, by rw [ez], trivial⟩, hS.F ht⟩) hS.2.2 hdg E.2.2.2.2.2.2
  have body : ∀ ls : Array Slot, lv_has ls 2 [(0, .ref b), (1, .int (jI k))] → W p l e ({ frames := 0, cells := 0, slots := 0, locals := 0 }) s m ([Value.ref b, .int (jI k)] : List Value).toArray below meth c s.heap [] 0 0 (MQ below (va_Qi (S := Unit) (fun r _ => r = jI (clv xs L k)) (fun _ _ => True) (fun _ => False)) ([Value.ref b, .int (jI k)] : List Value).toArray s 0 0 (fun _ => False)) (F0 m 0 ls []) := by
    intro ls hl
    refine x_iload_n E dL_cell_0 (lv_at hl 1 rfl) ?_
    refine x_aload_n E dL_cell_1 (lv_at hl 0 rfl) ?_
    refine y_slen E hX hbl (fun h => h) hS dL_cell_2 ?_
    refine x_icmp_ge E 12 dL_cell_3 (by decide) (by unfold rg; omega) (by unfold rg; omega) (fun q => ?_) (fun q => ?_)
    · refine x_iconst E dL_cell_12 ?_
      exact fin 0 (by unfold clv; rw [if_neg (by omega)]) _ _ dL_cell_13
    · refine x_aload_n E dL_cell_6 (lv_at hl 0 rfl) ?_
      refine x_iload_n E dL_cell_7 (lv_at hl 1 rfl) ?_
      refine y_sld E hX hbl (fun h => h) hS hL (by omega) dL_cell_8 ?_
      refine x_goto E 13 dL_cell_9 (by decide) ?_
      exact fin _ (by unfold clv; rw [if_pos (by omega)]) _ _ dL_cell_13
  exact body _ (lv_entry _ (Nat.le_of_ble_eq_true rfl))
theorem n_cell {D : va_G} {ws : va_W} {index : Nat} {lv : List (Nat × Value)} (E : Ev p s m meth c own cc nL args ret) (hP : va_P D vwCl ws H) (hS : va_S A s.heap H locs) (hX : va_X b L xs s s.heap) (hbl : b < s.heap.size) (hbA : ¬ A b) (hL : L ≤ 3074) (k : Int) (hk : 0 ≤ k ∧ k < 2) (hl : lv_has ls nL lv) (hlk : Cond.methodLink own index yL_cell ∈ gT) (hw : (rest.map fun v => v.category).sum ≤ 8) (hR : 0 + 1 ≤ R.frames ∧ 8 + (2 + 11) + 0 ≤ R.locals) (hf : cells ≤ R.cells ∧ slots ≤ R.slots) (hdg : decode cc pc = .ok (.invokestatic index, 3))
    (kk : ∀ (H1 : Heap) (locs1 : List Loc), va_P D vwCl ws H1 → va_S A s.heap H1 locs1 → W p l e R s m args below meth c H1 locs1 cells slots Q (F0 m (pc + 3) ls (.int (jI (clv xs L k)) :: rest))) : W p l e R s m args below meth c H locs cells slots Q (F0 m pc ls (.int (jI k) :: .ref b :: rest)) := by
  refine va_calli (va_runS (As := [.ref b, .int (jI k)]) (rest := rest) (n := 2) ⟨E.1, E.2.1, E.2.2.1, E.2.2.2.1, E.2.2.2.2.1⟩ (c_L_cell (b := b) (xs := xs) l hL k hk) (va_cwS 2 E.2.2.2.2.1 (mf_L_cell.good hlk) rfl rfl rfl mf_L_cell.2.2.2 hR) ⟨fun a U g mk q => ⟨q.1, va_X.moved (u := U) (U := U.calling g mk a) (Vm.Alike.refl U.vm) q.2⟩, fun U hU hW => ⟨rfl, ?_⟩⟩ rfl rfl hl.1 rfl (lv_room (m := m) (pc := pc) (ls := ls) (rest := .int (jI k) :: .ref b :: rest) hw) hdg hf) hS (fun q _ h => h.elim) (fun q h => h.elim) (fun r u t H1 locs1 ht hvm hw hB hz1 hk1 hS1 => ?_)
  · show va_X b L xs U U.heap
    rw [hU]; exact va_X.moved hW.alike (hX.kept (hS.2.1 b hbl hbA))
  · rw [hw]
    exact kk H1 locs1 (hP.kept (fun k q hk => hk1 q.1 (hP k q hk).lt (fun h => h))) hS1
end LA
/-- a world of the law: its own cells alone are written -/
def GL (X : We) (A : Nat → Prop) (s : State) : Prop := va_K (wD X) vwCl (wtys X) s ∧ wI X ∧ wL X ∧ ZF (wz X) A s s.heap ∧ ∀ q, wA X q → A q
theorem GL.at {X : We} {A : Nat → Prop} {V : Mem} {s U : State} {H : Heap} {locs : List Loc} (hI : GL X A s) (hG : GW X V H) (hS : va_S A s.heap H locs) (hU : U.heap = H) (hW : s.WarmedH U.vm) : GI X V U := by
  obtain ⟨q1, q2, q3, q4, q5⟩ := hI
  subst hU
  exact ⟨va_K.moved hW.alike q1, q2, q3, ZF.warm hW ((q4.kept hS.2.1).narrow q5), hG⟩
section LB
variable {p : Program} {l : Launch} {e : Env} {R : Room} {s : State} {m : MethodId} {args : Array Value} {below : List Frame} {meth : Method} {c : Code} {H : Heap} {locs : List Loc} {cells slots : Nat} {Q : State → Prop}
variable {own : String} {cc : ByteArray} {nL : Nat} {ret : Option FieldType} {pc : Nat} {ls : Array Slot} {rest : List Value}
variable {X Y : We} {V V2 : Mem} {q : Nat} {y : MethodName} {bytes : ByteArray} {maxL n fr lo index : Nat} {rt : Option FieldType} {As st0 : List Value} {lv : List (Nat × Value)} {A : Nat → Prop}
theorem y_runV (E : Ev p s m meth c own cc nL args ret) (hI : GL X A s) (hG : GW X V H) (hS : va_S A s.heap H locs) {ci : Nat} {fs : List (Option Nat)} (hT : At X q (.inr (ci, fs))) {C : String} {T : u_T} {ty : Nat → FieldType} {N : Nat} (cf : ClF ci C T ty N) (hC : C = y.cls) {Qc : Array Value → State → Outcome → State → Prop} (hM : Mt l X V y bytes maxL rt fr lo (.ref (wa X q) :: As) Qc) (mf : MF y bytes maxL rt n) (hlk : Cond.methodLink own index y ∈ gT) (hn : As.length = n) (hl : lv_has ls nL lv) (hst : st0 = As.reverse ++ .ref (wa X q) :: rest) (hw : (rest.map fun v => v.category).sum ≤ 8) (hR : fr + 1 ≤ R.frames ∧ 8 + (maxL + 11) + lo ≤ R.locals) (hf : cells ≤ R.cells ∧ slots ≤ R.slots) (hdg : decode cc pc = .ok (.invokevirtual index, 3)) :
    va_Run p l e R s m args below meth c H locs cells slots 0 0 (F0 m pc ls st0) rest (Qc (Value.ref (wa X q) :: As).toArray) (wA X) := by
  subst hC
  exact va_runV (As := As) (rest := rest) (C := y.cls) (n := n) ⟨E.1, E.2.1, E.2.2.1, E.2.2.2.1, E.2.2.2.2.1⟩ hM (cwV n E.2.2.2.2.1 (mf.good hlk) rfl rfl rfl ⟨rfl, mf.2.2.2.2⟩ hR) ⟨GI.blind, va_recv hI.1 hG (ci := ci) (q0 := q) cf.1 (GW.cell hT), fun U hU hW => ⟨rfl, GL.at hI hG hS hU hW⟩⟩ rfl hn hl.1 hst (lv_room (m := m) (pc := pc) (ls := ls) (rest := st0) hw) hdg hf
theorem GW.other {H1 : Heap} (hG : GW Y V2 H) (hd : ∀ j, j < wn Y → ¬ wA X (wa Y j)) (hk : ∀ q : Nat, q < H.size → ¬ wA X q → H1[q]? = H[q]?) : GW Y V2 H1 :=
  va_P.kept hG (fun k q hq => hk q.1 (hG k q hq).lt (by rw [gw_at hq]; exact hd k (gw_lt hq)))
theorem y_ci {a : Array Value} (hI : GL X A s) (hG2 : GW Y V2 H) (hd : ∀ j, j < wn Y → ¬ wA X (wa Y j)) (hS : va_S A s.heap H locs) {post : Int → Mem → Prop} (hr : va_Run p l e R s m args below meth c H locs cells slots 0 0 (F0 m pc ls st0) rest (Qi X post a) (wA X))
    (kk : ∀ (z : Int) (V1 : Mem) (H1 : Heap) (locs1 : List Loc), post z V1 → GW X V1 H1 → GW Y V2 H1 → va_S A s.heap H1 locs1 → W p l e R s m args below meth c H1 locs1 cells slots Q (F0 m (pc + 3) ls (.int (jI z) :: rest))) : W p l e R s m args below meth c H locs cells slots Q (F0 m pc ls st0) :=
  va_calli hr hS (fun q _ h => hI.2.2.2.2 q h) (fun q h => hI.2.2.2.2 q h) (fun r u t H1 locs1 ht hvm hw hB _ hk1 hS1 => by
    obtain ⟨z, rfl, hp⟩ := hw
    exact kk z u H1 locs1 hp (by rw [← ht]; exact hB) (hG2.other hd hk1) hS1)
theorem y_cv {a : Array Value} (hI : GL X A s) (hG2 : GW Y V2 H) (hd : ∀ j, j < wn Y → ¬ wA X (wa Y j)) (hS : va_S A s.heap H locs) {post : Mem → Prop} (hr : va_Run p l e R s m args below meth c H locs cells slots 0 0 (F0 m pc ls st0) rest (Qv X post a) (wA X))
    (kk : ∀ (V1 : Mem) (H1 : Heap) (locs1 : List Loc), post V1 → GW X V1 H1 → GW Y V2 H1 → va_S A s.heap H1 locs1 → W p l e R s m args below meth c H1 locs1 cells slots Q (F0 m (pc + 3) ls rest)) : W p l e R s m args below meth c H locs cells slots Q (F0 m pc ls st0) :=
  va_callv hr hS (fun q _ h => hI.2.2.2.2 q h) (fun q h => hI.2.2.2.2 q h) (fun u t H1 locs1 ht hvm hw hB _ hk1 hS1 => kk u H1 locs1 hw (by rw [← ht]; exact hB) (hG2.other hd hk1) hS1)
end LB
/-- what stands through the law's loop -/
def LC (X Y : We) (A : Nat → Prop) (s : State) (n : Nat) (b L : Nat) (xs : Nat → Int32) : Prop := GL X A s ∧ GL Y A s ∧ (∀ j, j < wn Y → ¬ wA X (wa Y j)) ∧ (∀ j, j < wn X → ¬ wA Y (wa X j)) ∧ isX X n ∧ isY Y ∧ va_X b L xs s s.heap ∧ b < s.heap.size ∧ ¬ A b ∧ L ≤ 3074
def Lpr (X Y : We) (A : Nat → Prop) (s : State) (n : Nat) (wd hi : Int) (V W : Mem) (H : Heap) (locs : List Loc) : Prop := GW X V H ∧ GW Y W H ∧ va_S A s.heap H locs ∧ XI V n wd hi ∧ MR V W n wd hi
section LO
variable {p : Program} {l : Launch} {e : Env} {s : State} {m : MethodId} {args : Array Value} {below : List Frame} {meth : Method} {c : Code} {H : Heap} {locs : List Loc} {cells slots : Nat} {Q : State → Prop} {ls : Array Slot}
variable {X Y : We} {A : Nat → Prop} {n : Nat} {wd hi : Int} {b L : Nat} {xs : Nat → Int32} {V W0 : Mem} {i : Int}
set_option maxHeartbeats 4000000 in
theorem lc_heap (E : Ev p s m meth c RL code 4 args (some .boolean)) (hC : LC X Y A s n b L xs) (hP : Lpr X Y A s n wd hi V W0 H locs) (h0 : 2 ≤ i) (h6 : i + 6 ≤ (L : Int)) (hl : lv_has ls 4 [(3, .int (jI i)), (2, .ref (wa Y 0)), (1, .ref (wa X 0)), (0, .ref b)]) (hf : cells ≤ room_1.cells ∧ slots ≤ room_1.slots) (kk : ∀ (V1 W1 : Mem) (H1 : Heap) (locs1 : List Loc), Lpr X Y A s n wd hi V1 W1 H1 locs1 → W p l e room_1 s m args below meth c H1 locs1 cells slots Q (F0 m 737 ls [])) : W p l e room_1 s m args below meth c H locs cells slots Q (F0 m 144 ls []) := by
  obtain ⟨gx, gy, dxy, dyx, hX, hY, hxs, hbl, hbA, hL⟩ := hC
  obtain ⟨hGX, hGY, hS, hk, hm⟩ := hP
  obtain ⟨U, f, g, eW, hR1, hf1⟩ := hm
  subst eW
  refine x_aload_n E dL_law_144 (lv_at hl 2 rfl) ?_
  refine x_aload_n E dL_law_145 (lv_at hl 3 rfl) ?_
  refine x_iload_n E dL_law_146 (lv_at hl 0 rfl) ?_
  refine x_iconst E dL_law_147 ?_
  refine x_iadd E dL_law_148 ?_
  refine y_sld E hxs hbl hbA hS hL (by omega) dL_law_149 ?_
  refine x_aload_n E dL_law_150 (lv_at hl 3 rfl) ?_
  refine x_iload_n E dL_law_151 (lv_at hl 0 rfl) ?_
  refine x_iconst E dL_law_152 ?_
  refine x_iadd E dL_law_153 ?_
  refine y_sld E hxs hbl hbA hS hL (by omega) dL_law_154 ?_
  refine y_ci gx hGY dxy hS (y_runV E gx hGX hS (xb0 hX) cf7 rfl (c_X7_heap l hX V hk (sx xs (i + 1)) (sx xs (i + 2)) (sx_rg _ _) (sx_rg _ _)) mf_X7_heap km_L_21 rfl hl rfl (Nat.le_of_ble_eq_true rfl) ⟨Nat.le_of_ble_eq_true rfl, Nat.le_of_ble_eq_true rfl⟩ hf dL_law_155) (fun z1 V1 H locs hp1 hGX hGY hS => ?_)
  refine x_aload_n E dL_law_158 (lv_at hl 1 rfl) ?_
  refine x_aload_n E dL_law_159 (lv_at hl 3 rfl) ?_
  refine x_iload_n E dL_law_160 (lv_at hl 0 rfl) ?_
  refine x_iconst E dL_law_161 ?_
  refine x_iadd E dL_law_162 ?_
  refine y_sld E hxs hbl hbA hS hL (by omega) dL_law_163 ?_
  refine x_aload_n E dL_law_164 (lv_at hl 3 rfl) ?_
  refine x_iload_n E dL_law_165 (lv_at hl 0 rfl) ?_
  refine x_iconst E dL_law_166 ?_
  refine x_iadd E dL_law_167 ?_
  refine y_sld E hxs hbl hbA hS hL (by omega) dL_law_168 ?_
  refine y_ci gy hGX dyx hS (y_runV E gy hGY hS (ym0 hY) cf8 rfl (c_X8_heap l hY V U f g hR1 hf1 hk (sx xs (i + 1)) (sx xs (i + 2)) (sx_rg _ _) (sx_rg _ _)) mf_X8_heap km_L_25 rfl hl rfl (Nat.le_of_ble_eq_true rfl) ⟨Nat.le_of_ble_eq_true rfl, Nat.le_of_ble_eq_true rfl⟩ hf dL_law_169) (fun z2 W1 H locs hp2 hGY hGX hS => ?_)
  have key : z1 = z2 ∧ XI V1 n wd hi ∧ MR V1 W1 n wd hi := by
    obtain ⟨e1, e2⟩ := hp1
    obtain ⟨e3, hm⟩ := hp2
    refine ⟨e1.trans e3.symm, ?_, by rw [e2]; exact hm⟩
    rw [e2]
    by_cases h : 0 ≤ (sx xs (i + 1)) ∧ (sx xs (i + 1)) < (n : Int) ∧ 0 ≤ (sx xs (i + 2)) ∧ (sx xs (i + 2)) ≤ 999
    · rw [if_pos h]; exact hk.heap ⟨h.1, h.2.1⟩ ⟨h.2.2.1, h.2.2.2⟩
    · rw [if_neg h]; exact hk
  obtain ⟨ez, hk1, hm1⟩ := key
  subst ez
  exact lv_icmp_eq E.1 E.2.1 (tgt := 737) dL_law_172 (by decide) (fun _ => kk V1 W1 H locs ⟨hGX, hGY, hS, hk1, hm1⟩) (fun h => absurd rfl h)
set_option maxHeartbeats 4000000 in
theorem lc_lay (E : Ev p s m meth c RL code 4 args (some .boolean)) (hC : LC X Y A s n b L xs) (hP : Lpr X Y A s n wd hi V W0 H locs) (h0 : 2 ≤ i) (h6 : i + 6 ≤ (L : Int)) (hl : lv_has ls 4 [(3, .int (jI i)), (2, .ref (wa Y 0)), (1, .ref (wa X 0)), (0, .ref b)]) (hf : cells ≤ room_1.cells ∧ slots ≤ room_1.slots) (kk : ∀ (V1 W1 : Mem) (H1 : Heap) (locs1 : List Loc), Lpr X Y A s n wd hi V1 W1 H1 locs1 → W p l e room_1 s m args below meth c H1 locs1 cells slots Q (F0 m 737 ls [])) : W p l e room_1 s m args below meth c H locs cells slots Q (F0 m 177 ls []) := by
  obtain ⟨gx, gy, dxy, dyx, hX, hY, hxs, hbl, hbA, hL⟩ := hC
  obtain ⟨hGX, hGY, hS, hk, hm⟩ := hP
  obtain ⟨U, f, g, eW, hR1, hf1⟩ := hm
  subst eW
  refine x_aload_n E dL_law_177 (lv_at hl 2 rfl) ?_
  refine x_aload_n E dL_law_178 (lv_at hl 3 rfl) ?_
  refine x_iload_n E dL_law_179 (lv_at hl 0 rfl) ?_
  refine x_iconst E dL_law_180 ?_
  refine x_iadd E dL_law_181 ?_
  refine y_sld E hxs hbl hbA hS hL (by omega) dL_law_182 ?_
  refine x_aload_n E dL_law_183 (lv_at hl 3 rfl) ?_
  refine x_iload_n E dL_law_184 (lv_at hl 0 rfl) ?_
  refine x_iconst E dL_law_185 ?_
  refine x_iadd E dL_law_186 ?_
  refine y_sld E hxs hbl hbA hS hL (by omega) dL_law_187 ?_
  refine x_aload_n E dL_law_188 (lv_at hl 3 rfl) ?_
  refine x_iload_n E dL_law_189 (lv_at hl 0 rfl) ?_
  refine x_iconst E dL_law_190 ?_
  refine x_iadd E dL_law_191 ?_
  refine y_sld E hxs hbl hbA hS hL (by omega) dL_law_192 ?_
  refine y_ci gx hGY dxy hS (y_runV E gx hGX hS (xb0 hX) cf7 rfl (c_X7_lay l hX V hk (sx xs (i + 1)) (sx xs (i + 2)) (sx xs (i + 3)) (sx_rg _ _) (sx_rg _ _) (sx_rg _ _)) mf_X7_lay km_L_26 rfl hl rfl (Nat.le_of_ble_eq_true rfl) ⟨Nat.le_of_ble_eq_true rfl, Nat.le_of_ble_eq_true rfl⟩ hf dL_law_193) (fun z1 V1 H locs hp1 hGX hGY hS => ?_)
  refine x_aload_n E dL_law_196 (lv_at hl 1 rfl) ?_
  refine x_aload_n E dL_law_197 (lv_at hl 3 rfl) ?_
  refine x_iload_n E dL_law_198 (lv_at hl 0 rfl) ?_
  refine x_iconst E dL_law_199 ?_
  refine x_iadd E dL_law_200 ?_
  refine y_sld E hxs hbl hbA hS hL (by omega) dL_law_201 ?_
  refine x_aload_n E dL_law_202 (lv_at hl 3 rfl) ?_
  refine x_iload_n E dL_law_203 (lv_at hl 0 rfl) ?_
  refine x_iconst E dL_law_204 ?_
  refine x_iadd E dL_law_205 ?_
  refine y_sld E hxs hbl hbA hS hL (by omega) dL_law_206 ?_
  refine x_aload_n E dL_law_207 (lv_at hl 3 rfl) ?_
  refine x_iload_n E dL_law_208 (lv_at hl 0 rfl) ?_
  refine x_iconst E dL_law_209 ?_
  refine x_iadd E dL_law_210 ?_
  refine y_sld E hxs hbl hbA hS hL (by omega) dL_law_211 ?_
  refine y_ci gy hGX dyx hS (y_runV E gy hGY hS (ym0 hY) cf8 rfl (c_X8_lay l hY V U f g hR1 hf1 hk (sx xs (i + 1)) (sx xs (i + 2)) (sx xs (i + 3)) (sx_rg _ _) (sx_rg _ _) (sx_rg _ _)) mf_X8_lay km_L_30 rfl hl rfl (Nat.le_of_ble_eq_true rfl) ⟨Nat.le_of_ble_eq_true rfl, Nat.le_of_ble_eq_true rfl⟩ hf dL_law_212) (fun z2 W1 H locs hp2 hGY hGX hS => ?_)
  have key : z1 = z2 ∧ XI V1 n wd hi ∧ MR V1 W1 n wd hi := by
    obtain ⟨e1, e2⟩ := hp1
    obtain ⟨e3, hm⟩ := hp2
    refine ⟨e1.trans e3.symm, ?_, by rw [e2]; exact hm⟩
    rw [e2]
    by_cases h : 0 ≤ (sx xs (i + 1)) ∧ (sx xs (i + 1)) < (n : Int) ∧ 0 ≤ (sx xs (i + 2)) ∧ (sx xs (i + 2)) ≤ 3 ∧ 0 ≤ (sx xs (i + 3)) ∧ (sx xs (i + 3)) ≤ mlF (sx xs (i + 2))
    · rw [if_pos h]; exact hk.lay ⟨h.2.2.1, h.2.2.2.1⟩ ⟨h.2.2.2.2.1, h.2.2.2.2.2⟩
    · rw [if_neg h]; exact hk
  obtain ⟨ez, hk1, hm1⟩ := key
  subst ez
  exact lv_icmp_eq E.1 E.2.1 (tgt := 737) dL_law_215 (by decide) (fun _ => kk V1 W1 H locs ⟨hGX, hGY, hS, hk1, hm1⟩) (fun h => absurd rfl h)
set_option maxHeartbeats 4000000 in
theorem lc_rules (E : Ev p s m meth c RL code 4 args (some .boolean)) (hC : LC X Y A s n b L xs) (hP : Lpr X Y A s n wd hi V W0 H locs) (h0 : 2 ≤ i) (h6 : i + 6 ≤ (L : Int)) (hl : lv_has ls 4 [(3, .int (jI i)), (2, .ref (wa Y 0)), (1, .ref (wa X 0)), (0, .ref b)]) (hf : cells ≤ room_1.cells ∧ slots ≤ room_1.slots) (kk : ∀ (V1 W1 : Mem) (H1 : Heap) (locs1 : List Loc), Lpr X Y A s n wd hi V1 W1 H1 locs1 → W p l e room_1 s m args below meth c H1 locs1 cells slots Q (F0 m 737 ls [])) : W p l e room_1 s m args below meth c H locs cells slots Q (F0 m 220 ls []) := by
  obtain ⟨gx, gy, dxy, dyx, hX, hY, hxs, hbl, hbA, hL⟩ := hC
  obtain ⟨hGX, hGY, hS, hk, hm⟩ := hP
  obtain ⟨U, f, g, eW, hR1, hf1⟩ := hm
  subst eW
  refine x_aload_n E dL_law_220 (lv_at hl 2 rfl) ?_
  refine x_aload_n E dL_law_221 (lv_at hl 3 rfl) ?_
  refine x_iload_n E dL_law_222 (lv_at hl 0 rfl) ?_
  refine x_iconst E dL_law_223 ?_
  refine x_iadd E dL_law_224 ?_
  refine y_sld E hxs hbl hbA hS hL (by omega) dL_law_225 ?_
  refine x_aload_n E dL_law_226 (lv_at hl 3 rfl) ?_
  refine x_iload_n E dL_law_227 (lv_at hl 0 rfl) ?_
  refine x_iconst E dL_law_228 ?_
  refine x_iadd E dL_law_229 ?_
  refine y_sld E hxs hbl hbA hS hL (by omega) dL_law_230 ?_
  refine x_aload_n E dL_law_231 (lv_at hl 3 rfl) ?_
  refine x_iload_n E dL_law_232 (lv_at hl 0 rfl) ?_
  refine x_iconst E dL_law_233 ?_
  refine x_iadd E dL_law_234 ?_
  refine y_sld E hxs hbl hbA hS hL (by omega) dL_law_235 ?_
  refine x_aload_n E dL_law_236 (lv_at hl 3 rfl) ?_
  refine x_iload_n E dL_law_237 (lv_at hl 0 rfl) ?_
  refine x_iconst E dL_law_238 ?_
  refine x_iadd E dL_law_239 ?_
  refine y_sld E hxs hbl hbA hS hL (by omega) dL_law_240 ?_
  refine x_aload_n E dL_law_241 (lv_at hl 3 rfl) ?_
  refine x_iload_n E dL_law_242 (lv_at hl 0 rfl) ?_
  refine x_iconst E dL_law_243 ?_
  refine x_iadd E dL_law_244 ?_
  refine y_sld E hxs hbl hbA hS hL (by omega) dL_law_245 ?_
  refine y_ci gx hGY dxy hS (y_runV E gx hGX hS (xb0 hX) cf7 rfl (c_X7_rules l hX V hk (sx xs (i + 1)) (sx xs (i + 2)) (sx xs (i + 3)) (sx xs (i + 4)) (sx xs (i + 5)) (sx_rg _ _) (sx_rg _ _) (sx_rg _ _) (sx_rg _ _) (sx_rg _ _)) mf_X7_rules km_L_31 rfl hl rfl (Nat.le_of_ble_eq_true rfl) ⟨Nat.le_of_ble_eq_true rfl, Nat.le_of_ble_eq_true rfl⟩ hf dL_law_246) (fun z1 V1 H locs hp1 hGX hGY hS => ?_)
  refine x_aload_n E dL_law_249 (lv_at hl 1 rfl) ?_
  refine x_aload_n E dL_law_250 (lv_at hl 3 rfl) ?_
  refine x_iload_n E dL_law_251 (lv_at hl 0 rfl) ?_
  refine x_iconst E dL_law_252 ?_
  refine x_iadd E dL_law_253 ?_
  refine y_sld E hxs hbl hbA hS hL (by omega) dL_law_254 ?_
  refine x_aload_n E dL_law_255 (lv_at hl 3 rfl) ?_
  refine x_iload_n E dL_law_256 (lv_at hl 0 rfl) ?_
  refine x_iconst E dL_law_257 ?_
  refine x_iadd E dL_law_258 ?_
  refine y_sld E hxs hbl hbA hS hL (by omega) dL_law_259 ?_
  refine x_aload_n E dL_law_260 (lv_at hl 3 rfl) ?_
  refine x_iload_n E dL_law_261 (lv_at hl 0 rfl) ?_
  refine x_iconst E dL_law_262 ?_
  refine x_iadd E dL_law_263 ?_
  refine y_sld E hxs hbl hbA hS hL (by omega) dL_law_264 ?_
  refine x_aload_n E dL_law_265 (lv_at hl 3 rfl) ?_
  refine x_iload_n E dL_law_266 (lv_at hl 0 rfl) ?_
  refine x_iconst E dL_law_267 ?_
  refine x_iadd E dL_law_268 ?_
  refine y_sld E hxs hbl hbA hS hL (by omega) dL_law_269 ?_
  refine x_aload_n E dL_law_270 (lv_at hl 3 rfl) ?_
  refine x_iload_n E dL_law_271 (lv_at hl 0 rfl) ?_
  refine x_iconst E dL_law_272 ?_
  refine x_iadd E dL_law_273 ?_
  refine y_sld E hxs hbl hbA hS hL (by omega) dL_law_274 ?_
  refine y_ci gy hGX dyx hS (y_runV E gy hGY hS (ym0 hY) cf8 rfl (c_X8_rules l hY V U f g hR1 hf1 hk (sx xs (i + 1)) (sx xs (i + 2)) (sx xs (i + 3)) (sx xs (i + 4)) (sx xs (i + 5)) (sx_rg _ _) (sx_rg _ _) (sx_rg _ _) (sx_rg _ _) (sx_rg _ _)) mf_X8_rules km_L_35 rfl hl rfl (Nat.le_of_ble_eq_true rfl) ⟨Nat.le_of_ble_eq_true rfl, Nat.le_of_ble_eq_true rfl⟩ hf dL_law_275) (fun z2 W1 H locs hp2 hGY hGX hS => ?_)
  have key : z1 = z2 ∧ XI V1 n wd hi ∧ MR V1 W1 n wd hi := by
    obtain ⟨e1, e2⟩ := hp1
    obtain ⟨e3, hm⟩ := hp2
    refine ⟨e1.trans e3.symm, ?_, by rw [e2]; exact hm⟩
    rw [e2]
    by_cases h : (1 ≤ (sx xs (i + 1)) ∧ (sx xs (i + 1)) ≤ 5) ∧ (0 ≤ (sx xs (i + 2)) ∧ (sx xs (i + 2)) ≤ 100) ∧ (0 ≤ (sx xs (i + 3)) ∧ (sx xs (i + 3)) ≤ 100) ∧ (1 ≤ (sx xs (i + 4)) ∧ (sx xs (i + 4)) ≤ 9) ∧ 0 ≤ (sx xs (i + 5)) ∧ (sx xs (i + 5)) ≤ 20
    · rw [if_pos h]; exact hk.rules h.1 h.2.1 h.2.2.1 h.2.2.2.1 h.2.2.2.2
    · rw [if_neg h]; exact hk
  obtain ⟨ez, hk1, hm1⟩ := key
  subst ez
  exact lv_icmp_eq E.1 E.2.1 (tgt := 737) dL_law_278 (by decide) (fun _ => kk V1 W1 H locs ⟨hGX, hGY, hS, hk1, hm1⟩) (fun h => absurd rfl h)
set_option maxHeartbeats 4000000 in
theorem lc_seed (E : Ev p s m meth c RL code 4 args (some .boolean)) (hC : LC X Y A s n b L xs) (hP : Lpr X Y A s n wd hi V W0 H locs) (h0 : 2 ≤ i) (h6 : i + 6 ≤ (L : Int)) (hl : lv_has ls 4 [(3, .int (jI i)), (2, .ref (wa Y 0)), (1, .ref (wa X 0)), (0, .ref b)]) (hf : cells ≤ room_1.cells ∧ slots ≤ room_1.slots) (kk : ∀ (V1 W1 : Mem) (H1 : Heap) (locs1 : List Loc), Lpr X Y A s n wd hi V1 W1 H1 locs1 → W p l e room_1 s m args below meth c H1 locs1 cells slots Q (F0 m 737 ls [])) : W p l e room_1 s m args below meth c H locs cells slots Q (F0 m 283 ls []) := by
  obtain ⟨gx, gy, dxy, dyx, hX, hY, hxs, hbl, hbA, hL⟩ := hC
  obtain ⟨hGX, hGY, hS, hk, hm⟩ := hP
  obtain ⟨U, f, g, eW, hR1, hf1⟩ := hm
  subst eW
  refine x_aload_n E dL_law_283 (lv_at hl 2 rfl) ?_
  refine x_aload_n E dL_law_284 (lv_at hl 3 rfl) ?_
  refine x_iload_n E dL_law_285 (lv_at hl 0 rfl) ?_
  refine x_iconst E dL_law_286 ?_
  refine x_iadd E dL_law_287 ?_
  refine y_sld E hxs hbl hbA hS hL (by omega) dL_law_288 ?_
  refine y_cv gx hGY dxy hS (y_runV E gx hGX hS (xb0 hX) cf7 rfl (c_X7_seed l hX V (sx xs (i + 1))) mf_X7_seed km_L_36 rfl hl rfl (Nat.le_of_ble_eq_true rfl) ⟨Nat.le_of_ble_eq_true rfl, Nat.le_of_ble_eq_true rfl⟩ hf dL_law_289) (fun V1 H locs hp1 hGX hGY hS => ?_)
  refine x_aload_n E dL_law_292 (lv_at hl 1 rfl) ?_
  refine x_aload_n E dL_law_293 (lv_at hl 3 rfl) ?_
  refine x_iload_n E dL_law_294 (lv_at hl 0 rfl) ?_
  refine x_iconst E dL_law_295 ?_
  refine x_iadd E dL_law_296 ?_
  refine y_sld E hxs hbl hbA hS hL (by omega) dL_law_297 ?_
  refine y_cv gy hGX dyx hS (y_runV E gy hGY hS (ym0 hY) cf8 rfl (c_X8_seed l hY V U f g hR1 hf1 hk (sx xs (i + 1)) ) mf_X8_seed km_L_40 rfl hl rfl (Nat.le_of_ble_eq_true rfl) ⟨Nat.le_of_ble_eq_true rfl, Nat.le_of_ble_eq_true rfl⟩ hf dL_law_298) (fun W1 H locs hp2 hGY hGX hS => ?_)
  have key : XI V1 n wd hi ∧ MR V1 W1 n wd hi := ⟨by rw [hp1]; exact hk.seed _, by rw [hp1]; exact hp2⟩
  obtain ⟨hk1, hm1⟩ := key
  exact x_goto E 737 dL_law_301 (by decide) (kk V1 W1 H locs ⟨hGX, hGY, hS, hk1, hm1⟩)
set_option maxHeartbeats 4000000 in
theorem lc_feed (E : Ev p s m meth c RL code 4 args (some .boolean)) (hC : LC X Y A s n b L xs) (hP : Lpr X Y A s n wd hi V W0 H locs) (h0 : 2 ≤ i) (h6 : i + 6 ≤ (L : Int)) (hl : lv_has ls 4 [(3, .int (jI i)), (2, .ref (wa Y 0)), (1, .ref (wa X 0)), (0, .ref b)]) (hf : cells ≤ room_1.cells ∧ slots ≤ room_1.slots) (kk : ∀ (V1 W1 : Mem) (H1 : Heap) (locs1 : List Loc), Lpr X Y A s n wd hi V1 W1 H1 locs1 → W p l e room_1 s m args below meth c H1 locs1 cells slots Q (F0 m 737 ls [])) : W p l e room_1 s m args below meth c H locs cells slots Q (F0 m 304 ls []) := by
  obtain ⟨gx, gy, dxy, dyx, hX, hY, hxs, hbl, hbA, hL⟩ := hC
  obtain ⟨hGX, hGY, hS, hk, hm⟩ := hP
  obtain ⟨U, f, g, eW, hR1, hf1⟩ := hm
  subst eW
  refine x_aload_n E dL_law_304 (lv_at hl 2 rfl) ?_
  refine x_aload_n E dL_law_305 (lv_at hl 3 rfl) ?_
  refine x_iload_n E dL_law_306 (lv_at hl 0 rfl) ?_
  refine x_iconst E dL_law_307 ?_
  refine x_iadd E dL_law_308 ?_
  refine y_sld E hxs hbl hbA hS hL (by omega) dL_law_309 ?_
  refine x_aload_n E dL_law_310 (lv_at hl 3 rfl) ?_
  refine x_iload_n E dL_law_311 (lv_at hl 0 rfl) ?_
  refine x_iconst E dL_law_312 ?_
  refine x_iadd E dL_law_313 ?_
  refine y_sld E hxs hbl hbA hS hL (by omega) dL_law_314 ?_
  refine x_aload_n E dL_law_315 (lv_at hl 3 rfl) ?_
  refine x_iload_n E dL_law_316 (lv_at hl 0 rfl) ?_
  refine x_iconst E dL_law_317 ?_
  refine x_iadd E dL_law_318 ?_
  refine y_sld E hxs hbl hbA hS hL (by omega) dL_law_319 ?_
  refine x_aload_n E dL_law_320 (lv_at hl 3 rfl) ?_
  refine x_iload_n E dL_law_321 (lv_at hl 0 rfl) ?_
  refine x_iconst E dL_law_322 ?_
  refine x_iadd E dL_law_323 ?_
  refine y_sld E hxs hbl hbA hS hL (by omega) dL_law_324 ?_
  refine x_aload_n E dL_law_325 (lv_at hl 3 rfl) ?_
  refine x_iload_n E dL_law_326 (lv_at hl 0 rfl) ?_
  refine x_iconst E dL_law_327 ?_
  refine x_iadd E dL_law_328 ?_
  refine y_sld E hxs hbl hbA hS hL (by omega) dL_law_329 ?_
  refine y_ci gx hGY dxy hS (y_runV E gx hGX hS (xb0 hX) cf7 rfl (c_X7_feed l hX V hk.2.2.2.1 (sx xs (i + 1)) (sx xs (i + 2)) (sx xs (i + 3)) (sx xs (i + 4)) (sx xs (i + 5))) mf_X7_feed km_L_41 rfl hl rfl (Nat.le_of_ble_eq_true rfl) ⟨Nat.le_of_ble_eq_true rfl, Nat.le_of_ble_eq_true rfl⟩ hf dL_law_330) (fun z1 V1 H locs hp1 hGX hGY hS => ?_)
  refine x_aload_n E dL_law_333 (lv_at hl 1 rfl) ?_
  refine x_aload_n E dL_law_334 (lv_at hl 3 rfl) ?_
  refine x_iload_n E dL_law_335 (lv_at hl 0 rfl) ?_
  refine x_iconst E dL_law_336 ?_
  refine x_iadd E dL_law_337 ?_
  refine y_sld E hxs hbl hbA hS hL (by omega) dL_law_338 ?_
  refine x_aload_n E dL_law_339 (lv_at hl 3 rfl) ?_
  refine x_iload_n E dL_law_340 (lv_at hl 0 rfl) ?_
  refine x_iconst E dL_law_341 ?_
  refine x_iadd E dL_law_342 ?_
  refine y_sld E hxs hbl hbA hS hL (by omega) dL_law_343 ?_
  refine x_aload_n E dL_law_344 (lv_at hl 3 rfl) ?_
  refine x_iload_n E dL_law_345 (lv_at hl 0 rfl) ?_
  refine x_iconst E dL_law_346 ?_
  refine x_iadd E dL_law_347 ?_
  refine y_sld E hxs hbl hbA hS hL (by omega) dL_law_348 ?_
  refine x_aload_n E dL_law_349 (lv_at hl 3 rfl) ?_
  refine x_iload_n E dL_law_350 (lv_at hl 0 rfl) ?_
  refine x_iconst E dL_law_351 ?_
  refine x_iadd E dL_law_352 ?_
  refine y_sld E hxs hbl hbA hS hL (by omega) dL_law_353 ?_
  refine x_aload_n E dL_law_354 (lv_at hl 3 rfl) ?_
  refine x_iload_n E dL_law_355 (lv_at hl 0 rfl) ?_
  refine x_iconst E dL_law_356 ?_
  refine x_iadd E dL_law_357 ?_
  refine y_sld E hxs hbl hbA hS hL (by omega) dL_law_358 ?_
  refine y_ci gy hGX dyx hS (y_runV E gy hGY hS (ym0 hY) cf8 rfl (c_X8_feed l hY V U f g hR1 hf1 hk (sx xs (i + 1)) (sx xs (i + 2)) (sx xs (i + 3)) (sx xs (i + 4)) (sx xs (i + 5)) ) mf_X8_feed km_L_45 rfl hl rfl (Nat.le_of_ble_eq_true rfl) ⟨Nat.le_of_ble_eq_true rfl, Nat.le_of_ble_eq_true rfl⟩ hf dL_law_359) (fun z2 W1 H locs hp2 hGY hGX hS => ?_)
  have key : z1 = z2 ∧ XI V1 n wd hi ∧ MR V1 W1 n wd hi := by
    by_cases h : V 45 1 + 20 ≤ 200
    · rw [if_pos h] at hp1 hp2
      exact ⟨hp1.1.trans hp2.1.symm, by rw [hp1.2]; exact hk.feed _ _ _ _ _ h, by rw [hp1.2]; exact hp2.2⟩
    · rw [if_neg h] at hp1 hp2
      exact ⟨hp1.1.trans hp2.1.symm, by rw [hp1.2]; exact hk, by rw [hp1.2]; exact hp2.2⟩
  obtain ⟨ez, hk1, hm1⟩ := key
  subst ez
  exact lv_icmp_eq E.1 E.2.1 (tgt := 737) dL_law_362 (by decide) (fun _ => kk V1 W1 H locs ⟨hGX, hGY, hS, hk1, hm1⟩) (fun h => absurd rfl h)
set_option maxHeartbeats 4000000 in
theorem lc_end (E : Ev p s m meth c RL code 4 args (some .boolean)) (hC : LC X Y A s n b L xs) (hP : Lpr X Y A s n wd hi V W0 H locs) (h0 : 2 ≤ i) (h6 : i + 6 ≤ (L : Int)) (hl : lv_has ls 4 [(3, .int (jI i)), (2, .ref (wa Y 0)), (1, .ref (wa X 0)), (0, .ref b)]) (hf : cells ≤ room_1.cells ∧ slots ≤ room_1.slots) (kk : ∀ (V1 W1 : Mem) (H1 : Heap) (locs1 : List Loc), Lpr X Y A s n wd hi V1 W1 H1 locs1 → W p l e room_1 s m args below meth c H1 locs1 cells slots Q (F0 m 737 ls [])) : W p l e room_1 s m args below meth c H locs cells slots Q (F0 m 367 ls []) := by
  obtain ⟨gx, gy, dxy, dyx, hX, hY, hxs, hbl, hbA, hL⟩ := hC
  obtain ⟨hGX, hGY, hS, hk, hm⟩ := hP
  obtain ⟨U, f, g, eW, hR1, hf1⟩ := hm
  subst eW
  refine x_aload_n E dL_law_367 (lv_at hl 2 rfl) ?_
  refine x_aload_n E dL_law_368 (lv_at hl 3 rfl) ?_
  refine x_iload_n E dL_law_369 (lv_at hl 0 rfl) ?_
  refine x_iconst E dL_law_370 ?_
  refine x_iadd E dL_law_371 ?_
  refine y_sld E hxs hbl hbA hS hL (by omega) dL_law_372 ?_
  refine y_ci gx hGY dxy hS (y_runV E gx hGX hS (xb0 hX) cf7 rfl (c_X7_end l hX V hk.2.2.2.1 (sx xs (i + 1)) (sx_rg _ _)) mf_X7_end km_L_46 rfl hl rfl (Nat.le_of_ble_eq_true rfl) ⟨Nat.le_of_ble_eq_true rfl, Nat.le_of_ble_eq_true rfl⟩ hf dL_law_373) (fun z1 V1 H locs hp1 hGX hGY hS => ?_)
  refine x_aload_n E dL_law_376 (lv_at hl 1 rfl) ?_
  refine x_aload_n E dL_law_377 (lv_at hl 3 rfl) ?_
  refine x_iload_n E dL_law_378 (lv_at hl 0 rfl) ?_
  refine x_iconst E dL_law_379 ?_
  refine x_iadd E dL_law_380 ?_
  refine y_sld E hxs hbl hbA hS hL (by omega) dL_law_381 ?_
  refine y_ci gy hGX dyx hS (y_runV E gy hGY hS (ym0 hY) cf8 rfl (c_X8_end l hY V U f g hR1 hf1 hk (sx xs (i + 1)) (sx_rg _ _)) mf_X8_end km_L_50 rfl hl rfl (Nat.le_of_ble_eq_true rfl) ⟨Nat.le_of_ble_eq_true rfl, Nat.le_of_ble_eq_true rfl⟩ hf dL_law_382) (fun z2 W1 H locs hp2 hGY hGX hS => ?_)
  have key : z1 = z2 ∧ XI V1 n wd hi ∧ MR V1 W1 n wd hi := by
    by_cases h : 0 ≤ (sx xs (i + 1)) ∧ (sx xs (i + 1)) ≤ V 45 1
    · rw [if_pos h] at hp1 hp2
      exact ⟨hp1.1.trans hp2.1.symm, by rw [hp1.2]; exact hk.end h, by rw [hp1.2]; exact hp2.2⟩
    · rw [if_neg h] at hp1 hp2
      exact ⟨hp1.1.trans hp2.1.symm, by rw [hp1.2]; exact hk, by rw [hp1.2]; exact hp2.2⟩
  obtain ⟨ez, hk1, hm1⟩ := key
  subst ez
  exact lv_icmp_eq E.1 E.2.1 (tgt := 737) dL_law_385 (by decide) (fun _ => kk V1 W1 H locs ⟨hGX, hGY, hS, hk1, hm1⟩) (fun h => absurd rfl h)
set_option maxHeartbeats 4000000 in
theorem lc_winds (E : Ev p s m meth c RL code 4 args (some .boolean)) (hC : LC X Y A s n b L xs) (hP : Lpr X Y A s n wd hi V W0 H locs) (h0 : 2 ≤ i) (h6 : i + 6 ≤ (L : Int)) (hl : lv_has ls 4 [(3, .int (jI i)), (2, .ref (wa Y 0)), (1, .ref (wa X 0)), (0, .ref b)]) (hf : cells ≤ room_1.cells ∧ slots ≤ room_1.slots) (kk : ∀ (V1 W1 : Mem) (H1 : Heap) (locs1 : List Loc), Lpr X Y A s n wd hi V1 W1 H1 locs1 → W p l e room_1 s m args below meth c H1 locs1 cells slots Q (F0 m 737 ls [])) : W p l e room_1 s m args below meth c H locs cells slots Q (F0 m 390 ls []) := by
  obtain ⟨gx, gy, dxy, dyx, hX, hY, hxs, hbl, hbA, hL⟩ := hC
  obtain ⟨hGX, hGY, hS, hk, hm⟩ := hP
  obtain ⟨U, f, g, eW, hR1, hf1⟩ := hm
  subst eW
  refine x_aload_n E dL_law_390 (lv_at hl 2 rfl) ?_
  refine y_ci gx hGY dxy hS (y_runV E gx hGX hS (xb0 hX) cf7 rfl (c_X7_winds l hX V hk.2.2.2.1) mf_X7_winds km_L_51 rfl hl rfl (Nat.le_of_ble_eq_true rfl) ⟨Nat.le_of_ble_eq_true rfl, Nat.le_of_ble_eq_true rfl⟩ hf dL_law_391) (fun z1 V1 H locs hp1 hGX hGY hS => ?_)
  refine x_aload_n E dL_law_394 (lv_at hl 1 rfl) ?_
  refine y_ci gy hGX dyx hS (y_runV E gy hGY hS (ym0 hY) cf8 rfl (c_X8_winds l hY V U f g hR1 hf1 hk  ) mf_X8_winds km_L_55 rfl hl rfl (Nat.le_of_ble_eq_true rfl) ⟨Nat.le_of_ble_eq_true rfl, Nat.le_of_ble_eq_true rfl⟩ hf dL_law_395) (fun z2 W1 H locs hp2 hGY hGX hS => ?_)
  have key : z1 = z2 ∧ XI V1 n wd hi ∧ MR V1 W1 n wd hi := ⟨(hp2 _ _ hp1).1.symm, hk.winds hp1, (hp2 _ _ hp1).2⟩
  obtain ⟨ez, hk1, hm1⟩ := key
  subst ez
  exact lv_icmp_eq E.1 E.2.1 (tgt := 737) dL_law_398 (by decide) (fun _ => kk V1 W1 H locs ⟨hGX, hGY, hS, hk1, hm1⟩) (fun h => absurd rfl h)
set_option maxHeartbeats 4000000 in
theorem lc_fault (E : Ev p s m meth c RL code 4 args (some .boolean)) (hC : LC X Y A s n b L xs) (hP : Lpr X Y A s n wd hi V W0 H locs) (h0 : 2 ≤ i) (h6 : i + 6 ≤ (L : Int)) (hl : lv_has ls 4 [(3, .int (jI i)), (2, .ref (wa Y 0)), (1, .ref (wa X 0)), (0, .ref b)]) (hf : cells ≤ room_1.cells ∧ slots ≤ room_1.slots) (kk : ∀ (V1 W1 : Mem) (H1 : Heap) (locs1 : List Loc), Lpr X Y A s n wd hi V1 W1 H1 locs1 → W p l e room_1 s m args below meth c H1 locs1 cells slots Q (F0 m 737 ls [])) : W p l e room_1 s m args below meth c H locs cells slots Q (F0 m 403 ls []) := by
  obtain ⟨gx, gy, dxy, dyx, hX, hY, hxs, hbl, hbA, hL⟩ := hC
  obtain ⟨hGX, hGY, hS, hk, hm⟩ := hP
  obtain ⟨U, f, g, eW, hR1, hf1⟩ := hm
  subst eW
  refine x_aload_n E dL_law_403 (lv_at hl 2 rfl) ?_
  refine x_aload_n E dL_law_404 (lv_at hl 3 rfl) ?_
  refine x_iload_n E dL_law_405 (lv_at hl 0 rfl) ?_
  refine x_iconst E dL_law_406 ?_
  refine x_iadd E dL_law_407 ?_
  refine y_sld E hxs hbl hbA hS hL (by omega) dL_law_408 ?_
  refine y_ci gx hGY dxy hS (y_runV E gx hGX hS (xb0 hX) cf7 rfl (c_X7_fault l hX V (sx xs (i + 1)) (sx_rg _ _)) mf_X7_fault km_L_56 rfl hl rfl (Nat.le_of_ble_eq_true rfl) ⟨Nat.le_of_ble_eq_true rfl, Nat.le_of_ble_eq_true rfl⟩ hf dL_law_409) (fun z1 V1 H locs hp1 hGX hGY hS => ?_)
  refine x_aload_n E dL_law_412 (lv_at hl 1 rfl) ?_
  refine x_aload_n E dL_law_413 (lv_at hl 3 rfl) ?_
  refine x_iload_n E dL_law_414 (lv_at hl 0 rfl) ?_
  refine x_iconst E dL_law_415 ?_
  refine x_iadd E dL_law_416 ?_
  refine y_sld E hxs hbl hbA hS hL (by omega) dL_law_417 ?_
  refine y_ci gy hGX dyx hS (y_runV E gy hGY hS (ym0 hY) cf8 rfl (c_X8_fault l hY V U f g hR1 hf1 hk (sx xs (i + 1)) (sx_rg _ _)) mf_X8_fault km_L_59 rfl hl rfl (Nat.le_of_ble_eq_true rfl) ⟨Nat.le_of_ble_eq_true rfl, Nat.le_of_ble_eq_true rfl⟩ hf dL_law_418) (fun z2 W1 H locs hp2 hGY hGX hS => ?_)
  have key : z1 = z2 ∧ XI V1 n wd hi ∧ MR V1 W1 n wd hi := ⟨hp1.1.trans hp2.1.symm, by rw [hp1.2]; exact hk, by rw [hp1.2]; exact hp2.2⟩
  obtain ⟨ez, hk1, hm1⟩ := key
  subst ez
  exact lv_icmp_eq E.1 E.2.1 (tgt := 737) dL_law_421 (by decide) (fun _ => kk V1 W1 H locs ⟨hGX, hGY, hS, hk1, hm1⟩) (fun h => absurd rfl h)
set_option maxHeartbeats 4000000 in
theorem lc_days (E : Ev p s m meth c RL code 4 args (some .boolean)) (hC : LC X Y A s n b L xs) (hP : Lpr X Y A s n wd hi V W0 H locs) (h0 : 2 ≤ i) (h6 : i + 6 ≤ (L : Int)) (hl : lv_has ls 4 [(3, .int (jI i)), (2, .ref (wa Y 0)), (1, .ref (wa X 0)), (0, .ref b)]) (hf : cells ≤ room_1.cells ∧ slots ≤ room_1.slots) (kk : ∀ (V1 W1 : Mem) (H1 : Heap) (locs1 : List Loc), Lpr X Y A s n wd hi V1 W1 H1 locs1 → W p l e room_1 s m args below meth c H1 locs1 cells slots Q (F0 m 737 ls [])) : W p l e room_1 s m args below meth c H locs cells slots Q (F0 m 426 ls []) := by
  obtain ⟨gx, gy, dxy, dyx, hX, hY, hxs, hbl, hbA, hL⟩ := hC
  obtain ⟨hGX, hGY, hS, hk, hm⟩ := hP
  obtain ⟨U, f, g, eW, hR1, hf1⟩ := hm
  subst eW
  refine x_aload_n E dL_law_426 (lv_at hl 2 rfl) ?_
  refine x_aload_n E dL_law_427 (lv_at hl 3 rfl) ?_
  refine x_iload_n E dL_law_428 (lv_at hl 0 rfl) ?_
  refine x_iconst E dL_law_429 ?_
  refine x_iadd E dL_law_430 ?_
  refine y_sld E hxs hbl hbA hS hL (by omega) dL_law_431 ?_
  refine y_ci gx hGY dxy hS (y_runV E gx hGX hS (xb0 hX) cf7 rfl (c_X7_days l hX V hk (sx xs (i + 1)) (sx_rg _ _)) mf_X7_days km_L_60 rfl hl rfl (Nat.le_of_ble_eq_true rfl) ⟨Nat.le_of_ble_eq_true rfl, Nat.le_of_ble_eq_true rfl⟩ hf dL_law_432) (fun z1 V1 H locs hp1 hGX hGY hS => ?_)
  refine x_aload_n E dL_law_435 (lv_at hl 1 rfl) ?_
  refine x_aload_n E dL_law_436 (lv_at hl 3 rfl) ?_
  refine x_iload_n E dL_law_437 (lv_at hl 0 rfl) ?_
  refine x_iconst E dL_law_438 ?_
  refine x_iadd E dL_law_439 ?_
  refine y_sld E hxs hbl hbA hS hL (by omega) dL_law_440 ?_
  refine y_ci gy hGX dyx hS (y_runV E gy hGY hS (ym0 hY) cf8 rfl (c_X8_days l hY U hR1.1 V f g hf1 (by decide) hk.1 hR1.2.1 (sx xs (i + 1)) (sx_rg _ _)) mf_X8_days km_L_63 rfl hl rfl (Nat.le_of_ble_eq_true rfl) ⟨Nat.le_of_ble_eq_true rfl, Nat.le_of_ble_eq_true rfl⟩ hf dL_law_441) (fun z2 W1 H locs hp2 hGY hGX hS => ?_)
  have key : z1 = z2 ∧ XI V1 n wd hi ∧ MR V1 W1 n wd hi := by
    obtain ⟨f1, g1, hb, e2, eW⟩ := hp2
    by_cases h : 1 ≤ (sx xs (i + 1)) ∧ (sx xs (i + 1)) ≤ 60 ∧ V bN 12 + (sx xs (i + 1)) ≤ 3000
    · rw [if_pos h] at hp1 e2 eW
      exact ⟨hp1.1.trans e2.symm, by rw [hp1.2]; exact hk.days h.1 h.2.2, by rw [hp1.2]; exact ⟨U, f1, g1, eW, hR1.up (hR1.2.1.ps _) (fun p hp => psM_p hp _ _), hb⟩⟩
    · rw [if_neg h] at hp1 e2 eW
      exact ⟨hp1.1.trans e2.symm, by rw [hp1.2]; exact hk, by rw [hp1.2]; exact ⟨U, f1, g1, eW, hR1, hb⟩⟩
  obtain ⟨ez, hk1, hm1⟩ := key
  subst ez
  exact lv_icmp_eq E.1 E.2.1 (tgt := 737) dL_law_444 (by decide) (fun _ => kk V1 W1 H locs ⟨hGX, hGY, hS, hk1, hm1⟩) (fun h => absurd rfl h)
set_option maxHeartbeats 4000000 in
theorem lc_storm (E : Ev p s m meth c RL code 4 args (some .boolean)) (hC : LC X Y A s n b L xs) (hP : Lpr X Y A s n wd hi V W0 H locs) (h0 : 2 ≤ i) (h6 : i + 6 ≤ (L : Int)) (hl : lv_has ls 4 [(3, .int (jI i)), (2, .ref (wa Y 0)), (1, .ref (wa X 0)), (0, .ref b)]) (hf : cells ≤ room_1.cells ∧ slots ≤ room_1.slots) (kk : ∀ (V1 W1 : Mem) (H1 : Heap) (locs1 : List Loc), Lpr X Y A s n wd hi V1 W1 H1 locs1 → W p l e room_1 s m args below meth c H1 locs1 cells slots Q (F0 m 737 ls [])) : W p l e room_1 s m args below meth c H locs cells slots Q (F0 m 449 ls []) := by
  obtain ⟨gx, gy, dxy, dyx, hX, hY, hxs, hbl, hbA, hL⟩ := hC
  obtain ⟨hGX, hGY, hS, hk, hm⟩ := hP
  obtain ⟨U, f, g, eW, hR1, hf1⟩ := hm
  subst eW
  refine x_aload_n E dL_law_449 (lv_at hl 2 rfl) ?_
  refine x_aload_n E dL_law_450 (lv_at hl 3 rfl) ?_
  refine x_iload_n E dL_law_451 (lv_at hl 0 rfl) ?_
  refine x_iconst E dL_law_452 ?_
  refine x_iadd E dL_law_453 ?_
  refine y_sld E hxs hbl hbA hS hL (by omega) dL_law_454 ?_
  refine y_ci gx hGY dxy hS (y_runV E gx hGX hS (xb0 hX) cf7 rfl (c_X7_storm l hX V hk (sx xs (i + 1)) (sx_rg _ _)) mf_X7_storm km_L_64 rfl hl rfl (Nat.le_of_ble_eq_true rfl) ⟨Nat.le_of_ble_eq_true rfl, Nat.le_of_ble_eq_true rfl⟩ hf dL_law_455) (fun z1 V1 H locs hp1 hGX hGY hS => ?_)
  refine x_aload_n E dL_law_458 (lv_at hl 1 rfl) ?_
  refine x_aload_n E dL_law_459 (lv_at hl 3 rfl) ?_
  refine x_iload_n E dL_law_460 (lv_at hl 0 rfl) ?_
  refine x_iconst E dL_law_461 ?_
  refine x_iadd E dL_law_462 ?_
  refine y_sld E hxs hbl hbA hS hL (by omega) dL_law_463 ?_
  refine y_ci gy hGX dyx hS (y_runV E gy hGY hS (ym0 hY) cf8 rfl (c_X8_storm l hY V U f g hR1 hf1 hk (sx xs (i + 1)) (sx_rg _ _)) mf_X8_storm km_L_67 rfl hl rfl (Nat.le_of_ble_eq_true rfl) ⟨Nat.le_of_ble_eq_true rfl, Nat.le_of_ble_eq_true rfl⟩ hf dL_law_464) (fun z2 W1 H locs hp2 hGY hGX hS => ?_)
  have key : z1 = z2 ∧ XI V1 n wd hi ∧ MR V1 W1 n wd hi := by
    by_cases h : 1 ≤ (sx xs (i + 1)) ∧ (sx xs (i + 1)) ≤ 999
    · rw [if_pos h] at hp1 hp2
      exact ⟨hp1.1.trans hp2.1.symm, by rw [hp1.2]; exact hk.storm h, by rw [hp1.2]; exact hp2.2⟩
    · rw [if_neg h] at hp1 hp2
      exact ⟨hp1.1.trans hp2.1.symm, by rw [hp1.2]; exact hk, by rw [hp1.2]; exact hp2.2⟩
  obtain ⟨ez, hk1, hm1⟩ := key
  subst ez
  exact lv_icmp_eq E.1 E.2.1 (tgt := 737) dL_law_467 (by decide) (fun _ => kk V1 W1 H locs ⟨hGX, hGY, hS, hk1, hm1⟩) (fun h => absurd rfl h)
set_option maxHeartbeats 4000000 in
theorem lc_cell (E : Ev p s m meth c RL code 4 args (some .boolean)) (hC : LC X Y A s n b L xs) (hP : Lpr X Y A s n wd hi V W0 H locs) (h0 : 2 ≤ i) (h6 : i + 6 ≤ (L : Int)) (hl : lv_has ls 4 [(3, .int (jI i)), (2, .ref (wa Y 0)), (1, .ref (wa X 0)), (0, .ref b)]) (hf : cells ≤ room_1.cells ∧ slots ≤ room_1.slots) (kk : ∀ (V1 W1 : Mem) (H1 : Heap) (locs1 : List Loc), Lpr X Y A s n wd hi V1 W1 H1 locs1 → W p l e room_1 s m args below meth c H1 locs1 cells slots Q (F0 m 737 ls [])) : W p l e room_1 s m args below meth c H locs cells slots Q (F0 m 472 ls []) := by
  obtain ⟨gx, gy, dxy, dyx, hX, hY, hxs, hbl, hbA, hL⟩ := hC
  obtain ⟨hGX, hGY, hS, hk, hm⟩ := hP
  obtain ⟨U, f, g, eW, hR1, hf1⟩ := hm
  subst eW
  refine x_aload_n E dL_law_472 (lv_at hl 2 rfl) ?_
  refine x_aload_n E dL_law_473 (lv_at hl 3 rfl) ?_
  refine x_iload_n E dL_law_474 (lv_at hl 0 rfl) ?_
  refine x_iconst E dL_law_475 ?_
  refine x_iadd E dL_law_476 ?_
  refine y_sld E hxs hbl hbA hS hL (by omega) dL_law_477 ?_
  refine x_aload_n E dL_law_478 (lv_at hl 3 rfl) ?_
  refine x_iload_n E dL_law_479 (lv_at hl 0 rfl) ?_
  refine x_iconst E dL_law_480 ?_
  refine x_iadd E dL_law_481 ?_
  refine y_sld E hxs hbl hbA hS hL (by omega) dL_law_482 ?_
  refine y_ci gx hGY dxy hS (y_runV E gx hGX hS (xb0 hX) cf7 rfl (c_X7_cell l hX V hk (sx xs (i + 1)) (sx xs (i + 2)) (sx_rg _ _) (sx_rg _ _)) mf_X7_cell km_L_68 rfl hl rfl (Nat.le_of_ble_eq_true rfl) ⟨Nat.le_of_ble_eq_true rfl, Nat.le_of_ble_eq_true rfl⟩ hf dL_law_483) (fun z1 V1 H locs hp1 hGX hGY hS => ?_)
  refine x_aload_n E dL_law_486 (lv_at hl 1 rfl) ?_
  refine x_aload_n E dL_law_487 (lv_at hl 3 rfl) ?_
  refine x_iload_n E dL_law_488 (lv_at hl 0 rfl) ?_
  refine x_iconst E dL_law_489 ?_
  refine x_iadd E dL_law_490 ?_
  refine y_sld E hxs hbl hbA hS hL (by omega) dL_law_491 ?_
  refine x_aload_n E dL_law_492 (lv_at hl 3 rfl) ?_
  refine x_iload_n E dL_law_493 (lv_at hl 0 rfl) ?_
  refine x_iconst E dL_law_494 ?_
  refine x_iadd E dL_law_495 ?_
  refine y_sld E hxs hbl hbA hS hL (by omega) dL_law_496 ?_
  refine y_ci gy hGX dyx hS (y_runV E gy hGY hS (ym0 hY) cf8 rfl (c_X8_cell l hY V U f g hR1 hf1 hk (sx xs (i + 1)) (sx xs (i + 2)) (sx_rg _ _) (sx_rg _ _)) mf_X8_cell km_L_71 rfl hl rfl (Nat.le_of_ble_eq_true rfl) ⟨Nat.le_of_ble_eq_true rfl, Nat.le_of_ble_eq_true rfl⟩ hf dL_law_497) (fun z2 W1 H locs hp2 hGY hGX hS => ?_)
  have key : z1 = z2 ∧ XI V1 n wd hi ∧ MR V1 W1 n wd hi := ⟨hp1.1.trans hp2.1.symm, by rw [hp1.2]; exact hk, by rw [hp1.2]; exact hp2.2⟩
  obtain ⟨ez, hk1, hm1⟩ := key
  subst ez
  exact lv_icmp_eq E.1 E.2.1 (tgt := 737) dL_law_500 (by decide) (fun _ => kk V1 W1 H locs ⟨hGX, hGY, hS, hk1, hm1⟩) (fun h => absurd rfl h)
set_option maxHeartbeats 4000000 in
theorem lc_work (E : Ev p s m meth c RL code 4 args (some .boolean)) (hC : LC X Y A s n b L xs) (hP : Lpr X Y A s n wd hi V W0 H locs) (h0 : 2 ≤ i) (h6 : i + 6 ≤ (L : Int)) (hl : lv_has ls 4 [(3, .int (jI i)), (2, .ref (wa Y 0)), (1, .ref (wa X 0)), (0, .ref b)]) (hf : cells ≤ room_1.cells ∧ slots ≤ room_1.slots) (kk : ∀ (V1 W1 : Mem) (H1 : Heap) (locs1 : List Loc), Lpr X Y A s n wd hi V1 W1 H1 locs1 → W p l e room_1 s m args below meth c H1 locs1 cells slots Q (F0 m 737 ls [])) : W p l e room_1 s m args below meth c H locs cells slots Q (F0 m 505 ls []) := by
  obtain ⟨gx, gy, dxy, dyx, hX, hY, hxs, hbl, hbA, hL⟩ := hC
  obtain ⟨hGX, hGY, hS, hk, hm⟩ := hP
  obtain ⟨U, f, g, eW, hR1, hf1⟩ := hm
  subst eW
  refine x_aload_n E dL_law_505 (lv_at hl 2 rfl) ?_
  refine x_aload_n E dL_law_506 (lv_at hl 3 rfl) ?_
  refine x_iload_n E dL_law_507 (lv_at hl 0 rfl) ?_
  refine x_iconst E dL_law_508 ?_
  refine x_iadd E dL_law_509 ?_
  refine y_sld E hxs hbl hbA hS hL (by omega) dL_law_510 ?_
  refine x_aload_n E dL_law_511 (lv_at hl 3 rfl) ?_
  refine x_iload_n E dL_law_512 (lv_at hl 0 rfl) ?_
  refine x_iconst E dL_law_513 ?_
  refine x_iadd E dL_law_514 ?_
  refine y_sld E hxs hbl hbA hS hL (by omega) dL_law_515 ?_
  refine x_aload_n E dL_law_516 (lv_at hl 3 rfl) ?_
  refine x_iload_n E dL_law_517 (lv_at hl 0 rfl) ?_
  refine x_iconst E dL_law_518 ?_
  refine x_iadd E dL_law_519 ?_
  refine y_sld E hxs hbl hbA hS hL (by omega) dL_law_520 ?_
  refine x_aload_n E dL_law_521 (lv_at hl 3 rfl) ?_
  refine x_iload_n E dL_law_522 (lv_at hl 0 rfl) ?_
  refine x_iconst E dL_law_523 ?_
  refine x_iadd E dL_law_524 ?_
  refine y_sld E hxs hbl hbA hS hL (by omega) dL_law_525 ?_
  refine y_ci gx hGY dxy hS (y_runV E gx hGX hS (xb0 hX) cf7 rfl (c_X7_work l hX V hk (sx xs (i + 1)) (sx xs (i + 2)) (sx xs (i + 3)) (sx xs (i + 4)) (sx_rg _ _) (sx_rg _ _) (sx_rg _ _) (sx_rg _ _)) mf_X7_work km_L_72 rfl hl rfl (Nat.le_of_ble_eq_true rfl) ⟨Nat.le_of_ble_eq_true rfl, Nat.le_of_ble_eq_true rfl⟩ hf dL_law_526) (fun z1 V1 H locs hp1 hGX hGY hS => ?_)
  refine x_aload_n E dL_law_529 (lv_at hl 1 rfl) ?_
  refine x_aload_n E dL_law_530 (lv_at hl 3 rfl) ?_
  refine x_iload_n E dL_law_531 (lv_at hl 0 rfl) ?_
  refine x_iconst E dL_law_532 ?_
  refine x_iadd E dL_law_533 ?_
  refine y_sld E hxs hbl hbA hS hL (by omega) dL_law_534 ?_
  refine x_aload_n E dL_law_535 (lv_at hl 3 rfl) ?_
  refine x_iload_n E dL_law_536 (lv_at hl 0 rfl) ?_
  refine x_iconst E dL_law_537 ?_
  refine x_iadd E dL_law_538 ?_
  refine y_sld E hxs hbl hbA hS hL (by omega) dL_law_539 ?_
  refine x_aload_n E dL_law_540 (lv_at hl 3 rfl) ?_
  refine x_iload_n E dL_law_541 (lv_at hl 0 rfl) ?_
  refine x_iconst E dL_law_542 ?_
  refine x_iadd E dL_law_543 ?_
  refine y_sld E hxs hbl hbA hS hL (by omega) dL_law_544 ?_
  refine x_aload_n E dL_law_545 (lv_at hl 3 rfl) ?_
  refine x_iload_n E dL_law_546 (lv_at hl 0 rfl) ?_
  refine x_iconst E dL_law_547 ?_
  refine x_iadd E dL_law_548 ?_
  refine y_sld E hxs hbl hbA hS hL (by omega) dL_law_549 ?_
  refine y_ci gy hGX dyx hS (y_runV E gy hGY hS (ym0 hY) cf8 rfl (c_X8_work l hY V U f g hR1 hf1 hk (sx xs (i + 1)) (sx xs (i + 2)) (sx xs (i + 3)) (sx xs (i + 4)) (sx_rg _ _) (sx_rg _ _) (sx_rg _ _) (sx_rg _ _)) mf_X8_work km_L_76 rfl hl rfl (Nat.le_of_ble_eq_true rfl) ⟨Nat.le_of_ble_eq_true rfl, Nat.le_of_ble_eq_true rfl⟩ hf dL_law_550) (fun z2 W1 H locs hp2 hGY hGX hS => ?_)
  have key : z1 = z2 ∧ XI V1 n wd hi ∧ MR V1 W1 n wd hi := by
    by_cases h : (0 ≤ (sx xs (i + 1)) ∧ (sx xs (i + 1)) ≤ 2) ∧ (0 ≤ (sx xs (i + 2)) ∧ (sx xs (i + 2)) < (n : Int)) ∧ (1 ≤ (sx xs (i + 3)) ∧ (sx xs (i + 3)) ≤ 99) ∧ (0 ≤ (sx xs (i + 4)) ∧ (sx xs (i + 4)) ≤ 999) ∧ V 50 4 < 4
    · rw [if_pos h] at hp1 hp2
      exact ⟨hp1.1.trans hp2.1.symm, by rw [hp1.2]; exact hk.work h.1 h.2.1 h.2.2.1 h.2.2.2.1 h.2.2.2.2, by rw [hp1.2]; exact hp2.2⟩
    · rw [if_neg h] at hp1 hp2
      exact ⟨hp1.1.trans hp2.1.symm, by rw [hp1.2]; exact hk, by rw [hp1.2]; exact hp2.2⟩
  obtain ⟨ez, hk1, hm1⟩ := key
  subst ez
  exact lv_icmp_eq E.1 E.2.1 (tgt := 737) dL_law_553 (by decide) (fun _ => kk V1 W1 H locs ⟨hGX, hGY, hS, hk1, hm1⟩) (fun h => absurd rfl h)
set_option maxHeartbeats 4000000 in
theorem lc_drop (E : Ev p s m meth c RL code 4 args (some .boolean)) (hC : LC X Y A s n b L xs) (hP : Lpr X Y A s n wd hi V W0 H locs) (h0 : 2 ≤ i) (h6 : i + 6 ≤ (L : Int)) (hl : lv_has ls 4 [(3, .int (jI i)), (2, .ref (wa Y 0)), (1, .ref (wa X 0)), (0, .ref b)]) (hf : cells ≤ room_1.cells ∧ slots ≤ room_1.slots) (kk : ∀ (V1 W1 : Mem) (H1 : Heap) (locs1 : List Loc), Lpr X Y A s n wd hi V1 W1 H1 locs1 → W p l e room_1 s m args below meth c H1 locs1 cells slots Q (F0 m 737 ls [])) : W p l e room_1 s m args below meth c H locs cells slots Q (F0 m 558 ls []) := by
  obtain ⟨gx, gy, dxy, dyx, hX, hY, hxs, hbl, hbA, hL⟩ := hC
  obtain ⟨hGX, hGY, hS, hk, hm⟩ := hP
  obtain ⟨U, f, g, eW, hR1, hf1⟩ := hm
  subst eW
  refine x_aload_n E dL_law_558 (lv_at hl 2 rfl) ?_
  refine y_ci gx hGY dxy hS (y_runV E gx hGX hS (xb0 hX) cf7 rfl (c_X7_drop l hX V) mf_X7_drop km_L_77 rfl hl rfl (Nat.le_of_ble_eq_true rfl) ⟨Nat.le_of_ble_eq_true rfl, Nat.le_of_ble_eq_true rfl⟩ hf dL_law_559) (fun z1 V1 H locs hp1 hGX hGY hS => ?_)
  refine x_aload_n E dL_law_562 (lv_at hl 1 rfl) ?_
  refine y_ci gy hGX dyx hS (y_runV E gy hGY hS (ym0 hY) cf8 rfl (c_X8_drop l hY V U f g hR1 hf1 hk  ) mf_X8_drop km_L_80 rfl hl rfl (Nat.le_of_ble_eq_true rfl) ⟨Nat.le_of_ble_eq_true rfl, Nat.le_of_ble_eq_true rfl⟩ hf dL_law_563) (fun z2 W1 H locs hp2 hGY hGX hS => ?_)
  have key : z1 = z2 ∧ XI V1 n wd hi ∧ MR V1 W1 n wd hi := ⟨hp1.1.trans hp2.1.symm, by rw [hp1.2]; exact hk.drop, by rw [hp1.2]; exact hp2.2⟩
  obtain ⟨ez, hk1, hm1⟩ := key
  subst ez
  exact lv_icmp_eq E.1 E.2.1 (tgt := 737) dL_law_566 (by decide) (fun _ => kk V1 W1 H locs ⟨hGX, hGY, hS, hk1, hm1⟩) (fun h => absurd rfl h)
set_option maxHeartbeats 4000000 in
theorem lc_best (E : Ev p s m meth c RL code 4 args (some .boolean)) (hC : LC X Y A s n b L xs) (hP : Lpr X Y A s n wd hi V W0 H locs) (h0 : 2 ≤ i) (h6 : i + 6 ≤ (L : Int)) (hl : lv_has ls 4 [(3, .int (jI i)), (2, .ref (wa Y 0)), (1, .ref (wa X 0)), (0, .ref b)]) (hf : cells ≤ room_1.cells ∧ slots ≤ room_1.slots) (kk : ∀ (V1 W1 : Mem) (H1 : Heap) (locs1 : List Loc), Lpr X Y A s n wd hi V1 W1 H1 locs1 → W p l e room_1 s m args below meth c H1 locs1 cells slots Q (F0 m 737 ls [])) : W p l e room_1 s m args below meth c H locs cells slots Q (F0 m 571 ls []) := by
  obtain ⟨gx, gy, dxy, dyx, hX, hY, hxs, hbl, hbA, hL⟩ := hC
  obtain ⟨hGX, hGY, hS, hk, hm⟩ := hP
  obtain ⟨U, f, g, eW, hR1, hf1⟩ := hm
  subst eW
  refine x_aload_n E dL_law_571 (lv_at hl 2 rfl) ?_
  refine x_aload_n E dL_law_572 (lv_at hl 3 rfl) ?_
  refine x_iload_n E dL_law_573 (lv_at hl 0 rfl) ?_
  refine x_iconst E dL_law_574 ?_
  refine x_iadd E dL_law_575 ?_
  refine y_sld E hxs hbl hbA hS hL (by omega) dL_law_576 ?_
  refine x_aload_n E dL_law_577 (lv_at hl 3 rfl) ?_
  refine x_iload_n E dL_law_578 (lv_at hl 0 rfl) ?_
  refine x_iconst E dL_law_579 ?_
  refine x_iadd E dL_law_580 ?_
  refine y_sld E hxs hbl hbA hS hL (by omega) dL_law_581 ?_
  refine y_ci gx hGY dxy hS (y_runV E gx hGX hS (xb0 hX) cf7 rfl (c_X7_best l hX V hk (sx xs (i + 1)) (sx xs (i + 2)) (sx_rg _ _) (sx_rg _ _)) mf_X7_best km_L_81 rfl hl rfl (Nat.le_of_ble_eq_true rfl) ⟨Nat.le_of_ble_eq_true rfl, Nat.le_of_ble_eq_true rfl⟩ hf dL_law_582) (fun z1 V1 H locs hp1 hGX hGY hS => ?_)
  refine x_aload_n E dL_law_585 (lv_at hl 1 rfl) ?_
  refine x_aload_n E dL_law_586 (lv_at hl 3 rfl) ?_
  refine x_iload_n E dL_law_587 (lv_at hl 0 rfl) ?_
  refine x_iconst E dL_law_588 ?_
  refine x_iadd E dL_law_589 ?_
  refine y_sld E hxs hbl hbA hS hL (by omega) dL_law_590 ?_
  refine x_aload_n E dL_law_591 (lv_at hl 3 rfl) ?_
  refine x_iload_n E dL_law_592 (lv_at hl 0 rfl) ?_
  refine x_iconst E dL_law_593 ?_
  refine x_iadd E dL_law_594 ?_
  refine y_sld E hxs hbl hbA hS hL (by omega) dL_law_595 ?_
  refine y_ci gy hGX dyx hS (y_runV E gy hGY hS (ym0 hY) cf8 rfl (c_X8_best l hY V U f g hR1 hf1 hk (sx xs (i + 1)) (sx xs (i + 2)) (sx_rg _ _) (sx_rg _ _)) mf_X8_best km_L_84 rfl hl rfl (Nat.le_of_ble_eq_true rfl) ⟨Nat.le_of_ble_eq_true rfl, Nat.le_of_ble_eq_true rfl⟩ hf dL_law_596) (fun z2 W1 H locs hp2 hGY hGX hS => ?_)
  have key : z1 = z2 ∧ XI V1 n wd hi ∧ MR V1 W1 n wd hi := ⟨hp1.2.trans hp2.1.symm, hk.hid hp1.1, hp2.2.hid hp1.1⟩
  obtain ⟨ez, hk1, hm1⟩ := key
  subst ez
  exact lv_icmp_eq E.1 E.2.1 (tgt := 737) dL_law_599 (by decide) (fun _ => kk V1 W1 H locs ⟨hGX, hGY, hS, hk1, hm1⟩) (fun h => absurd rfl h)
set_option maxHeartbeats 4000000 in
theorem lc_bestSet (E : Ev p s m meth c RL code 4 args (some .boolean)) (hC : LC X Y A s n b L xs) (hP : Lpr X Y A s n wd hi V W0 H locs) (h0 : 2 ≤ i) (h6 : i + 6 ≤ (L : Int)) (hl : lv_has ls 4 [(3, .int (jI i)), (2, .ref (wa Y 0)), (1, .ref (wa X 0)), (0, .ref b)]) (hf : cells ≤ room_1.cells ∧ slots ≤ room_1.slots) (kk : ∀ (V1 W1 : Mem) (H1 : Heap) (locs1 : List Loc), Lpr X Y A s n wd hi V1 W1 H1 locs1 → W p l e room_1 s m args below meth c H1 locs1 cells slots Q (F0 m 737 ls [])) : W p l e room_1 s m args below meth c H locs cells slots Q (F0 m 604 ls []) := by
  obtain ⟨gx, gy, dxy, dyx, hX, hY, hxs, hbl, hbA, hL⟩ := hC
  obtain ⟨hGX, hGY, hS, hk, hm⟩ := hP
  obtain ⟨U, f, g, eW, hR1, hf1⟩ := hm
  subst eW
  refine x_aload_n E dL_law_604 (lv_at hl 2 rfl) ?_
  refine x_aload_n E dL_law_605 (lv_at hl 3 rfl) ?_
  refine x_iload_n E dL_law_606 (lv_at hl 0 rfl) ?_
  refine x_iconst E dL_law_607 ?_
  refine x_iadd E dL_law_608 ?_
  refine y_sld E hxs hbl hbA hS hL (by omega) dL_law_609 ?_
  refine x_aload_n E dL_law_610 (lv_at hl 3 rfl) ?_
  refine x_iload_n E dL_law_611 (lv_at hl 0 rfl) ?_
  refine x_iconst E dL_law_612 ?_
  refine x_iadd E dL_law_613 ?_
  refine y_sld E hxs hbl hbA hS hL (by omega) dL_law_614 ?_
  refine y_ci gx hGY dxy hS (y_runV E gx hGX hS (xb0 hX) cf7 rfl (c_X7_bestSet l hX V hk (sx xs (i + 1)) (sx xs (i + 2)) (sx_rg _ _) (sx_rg _ _)) mf_X7_bestSet km_L_85 rfl hl rfl (Nat.le_of_ble_eq_true rfl) ⟨Nat.le_of_ble_eq_true rfl, Nat.le_of_ble_eq_true rfl⟩ hf dL_law_615) (fun z1 V1 H locs hp1 hGX hGY hS => ?_)
  refine x_aload_n E dL_law_618 (lv_at hl 1 rfl) ?_
  refine x_aload_n E dL_law_619 (lv_at hl 3 rfl) ?_
  refine x_iload_n E dL_law_620 (lv_at hl 0 rfl) ?_
  refine x_iconst E dL_law_621 ?_
  refine x_iadd E dL_law_622 ?_
  refine y_sld E hxs hbl hbA hS hL (by omega) dL_law_623 ?_
  refine x_aload_n E dL_law_624 (lv_at hl 3 rfl) ?_
  refine x_iload_n E dL_law_625 (lv_at hl 0 rfl) ?_
  refine x_iconst E dL_law_626 ?_
  refine x_iadd E dL_law_627 ?_
  refine y_sld E hxs hbl hbA hS hL (by omega) dL_law_628 ?_
  refine y_ci gy hGX dyx hS (y_runV E gy hGY hS (ym0 hY) cf8 rfl (c_X8_bestSet l hY V U f g hR1 hf1 hk (sx xs (i + 1)) (sx xs (i + 2)) (sx_rg _ _) (sx_rg _ _)) mf_X8_bestSet km_L_88 rfl hl rfl (Nat.le_of_ble_eq_true rfl) ⟨Nat.le_of_ble_eq_true rfl, Nat.le_of_ble_eq_true rfl⟩ hf dL_law_629) (fun z2 W1 H locs hp2 hGY hGX hS => ?_)
  have key : z1 = z2 ∧ XI V1 n wd hi ∧ MR V1 W1 n wd hi := ⟨hp1.2.trans hp2.1.symm, hk.hid hp1.1, hp2.2.hid hp1.1⟩
  obtain ⟨ez, hk1, hm1⟩ := key
  subst ez
  exact lv_icmp_eq E.1 E.2.1 (tgt := 737) dL_law_632 (by decide) (fun _ => kk V1 W1 H locs ⟨hGX, hGY, hS, hk1, hm1⟩) (fun h => absurd rfl h)
set_option maxHeartbeats 4000000 in
theorem lc_mark (E : Ev p s m meth c RL code 4 args (some .boolean)) (hC : LC X Y A s n b L xs) (hP : Lpr X Y A s n wd hi V W0 H locs) (h0 : 2 ≤ i) (h6 : i + 6 ≤ (L : Int)) (hl : lv_has ls 4 [(3, .int (jI i)), (2, .ref (wa Y 0)), (1, .ref (wa X 0)), (0, .ref b)]) (hf : cells ≤ room_1.cells ∧ slots ≤ room_1.slots) (kk : ∀ (V1 W1 : Mem) (H1 : Heap) (locs1 : List Loc), Lpr X Y A s n wd hi V1 W1 H1 locs1 → W p l e room_1 s m args below meth c H1 locs1 cells slots Q (F0 m 737 ls [])) : W p l e room_1 s m args below meth c H locs cells slots Q (F0 m 637 ls []) := by
  obtain ⟨gx, gy, dxy, dyx, hX, hY, hxs, hbl, hbA, hL⟩ := hC
  obtain ⟨hGX, hGY, hS, hk, hm⟩ := hP
  obtain ⟨U, f, g, eW, hR1, hf1⟩ := hm
  subst eW
  refine x_aload_n E dL_law_637 (lv_at hl 2 rfl) ?_
  refine y_cv gx hGY dxy hS (y_runV E gx hGX hS (xb0 hX) cf7 rfl (c_X7_mark l hX V) mf_X7_mark km_L_89 rfl hl rfl (Nat.le_of_ble_eq_true rfl) ⟨Nat.le_of_ble_eq_true rfl, Nat.le_of_ble_eq_true rfl⟩ hf dL_law_638) (fun V1 H locs hp1 hGX hGY hS => ?_)
  refine x_aload_n E dL_law_641 (lv_at hl 1 rfl) ?_
  refine y_cv gy hGX dyx hS (y_runV E gy hGY hS (ym0 hY) cf8 rfl (c_X8_mark l hY V U f g hR1 hf1 hk  ) mf_X8_mark km_L_92 rfl hl rfl (Nat.le_of_ble_eq_true rfl) ⟨Nat.le_of_ble_eq_true rfl, Nat.le_of_ble_eq_true rfl⟩ hf dL_law_642) (fun W1 H locs hp2 hGY hGX hS => ?_)
  have key : XI V1 n wd hi ∧ MR V1 W1 n wd hi := ⟨by rw [hp1]; exact hk.mark, by rw [hp1]; exact hp2⟩
  obtain ⟨hk1, hm1⟩ := key
  exact x_goto E 737 dL_law_645 (by decide) (kk V1 W1 H locs ⟨hGX, hGY, hS, hk1, hm1⟩)
set_option maxHeartbeats 4000000 in
theorem lc_flight (E : Ev p s m meth c RL code 4 args (some .boolean)) (hC : LC X Y A s n b L xs) (hP : Lpr X Y A s n wd hi V W0 H locs) (h0 : 2 ≤ i) (h6 : i + 6 ≤ (L : Int)) (hl : lv_has ls 4 [(3, .int (jI i)), (2, .ref (wa Y 0)), (1, .ref (wa X 0)), (0, .ref b)]) (hf : cells ≤ room_1.cells ∧ slots ≤ room_1.slots) (kk : ∀ (V1 W1 : Mem) (H1 : Heap) (locs1 : List Loc), Lpr X Y A s n wd hi V1 W1 H1 locs1 → W p l e room_1 s m args below meth c H1 locs1 cells slots Q (F0 m 737 ls [])) : W p l e room_1 s m args below meth c H locs cells slots Q (F0 m 648 ls []) := by
  obtain ⟨gx, gy, dxy, dyx, hX, hY, hxs, hbl, hbA, hL⟩ := hC
  obtain ⟨hGX, hGY, hS, hk, hm⟩ := hP
  obtain ⟨U, f, g, eW, hR1, hf1⟩ := hm
  subst eW
  refine x_aload_n E dL_law_648 (lv_at hl 2 rfl) ?_
  refine x_aload_n E dL_law_649 (lv_at hl 3 rfl) ?_
  refine x_iload_n E dL_law_650 (lv_at hl 0 rfl) ?_
  refine x_iconst E dL_law_651 ?_
  refine x_iadd E dL_law_652 ?_
  refine y_sld E hxs hbl hbA hS hL (by omega) dL_law_653 ?_
  refine x_aload_n E dL_law_654 (lv_at hl 3 rfl) ?_
  refine x_iload_n E dL_law_655 (lv_at hl 0 rfl) ?_
  refine x_iconst E dL_law_656 ?_
  refine x_iadd E dL_law_657 ?_
  refine y_sld E hxs hbl hbA hS hL (by omega) dL_law_658 ?_
  refine x_aload_n E dL_law_659 (lv_at hl 3 rfl) ?_
  refine x_iload_n E dL_law_660 (lv_at hl 0 rfl) ?_
  refine x_iconst E dL_law_661 ?_
  refine x_iadd E dL_law_662 ?_
  refine y_sld E hxs hbl hbA hS hL (by omega) dL_law_663 ?_
  refine y_ci gx hGY dxy hS (y_runV E gx hGX hS (xb0 hX) cf7 rfl (c_X7_flight l hX V hk (sx xs (i + 1)) (sx xs (i + 2)) (sx xs (i + 3)) (sx_rg _ _) (sx_rg _ _) (sx_rg _ _)) mf_X7_flight km_L_93 rfl hl rfl (Nat.le_of_ble_eq_true rfl) ⟨Nat.le_of_ble_eq_true rfl, Nat.le_of_ble_eq_true rfl⟩ hf dL_law_664) (fun z1 V1 H locs hp1 hGX hGY hS => ?_)
  refine x_aload_n E dL_law_667 (lv_at hl 1 rfl) ?_
  refine x_aload_n E dL_law_668 (lv_at hl 3 rfl) ?_
  refine x_iload_n E dL_law_669 (lv_at hl 0 rfl) ?_
  refine x_iconst E dL_law_670 ?_
  refine x_iadd E dL_law_671 ?_
  refine y_sld E hxs hbl hbA hS hL (by omega) dL_law_672 ?_
  refine x_aload_n E dL_law_673 (lv_at hl 3 rfl) ?_
  refine x_iload_n E dL_law_674 (lv_at hl 0 rfl) ?_
  refine x_iconst E dL_law_675 ?_
  refine x_iadd E dL_law_676 ?_
  refine y_sld E hxs hbl hbA hS hL (by omega) dL_law_677 ?_
  refine x_aload_n E dL_law_678 (lv_at hl 3 rfl) ?_
  refine x_iload_n E dL_law_679 (lv_at hl 0 rfl) ?_
  refine x_iconst E dL_law_680 ?_
  refine x_iadd E dL_law_681 ?_
  refine y_sld E hxs hbl hbA hS hL (by omega) dL_law_682 ?_
  refine y_ci gy hGX dyx hS (y_runV E gy hGY hS (ym0 hY) cf8 rfl (c_X8_flight l hY V U f g hR1 hf1 hk (sx xs (i + 1)) (sx xs (i + 2)) (sx xs (i + 3)) (sx_rg _ _) (sx_rg _ _) (sx_rg _ _)) mf_X8_flight km_L_97 rfl hl rfl (Nat.le_of_ble_eq_true rfl) ⟨Nat.le_of_ble_eq_true rfl, Nat.le_of_ble_eq_true rfl⟩ hf dL_law_683) (fun z2 W1 H locs hp2 hGY hGX hS => ?_)
  have key : z1 = z2 ∧ XI V1 n wd hi ∧ MR V1 W1 n wd hi := by
    by_cases h : (0 ≤ (sx xs (i + 1)) ∧ (sx xs (i + 1)) < (n : Int)) ∧ (0 ≤ (sx xs (i + 2)) ∧ (sx xs (i + 2)) ≤ 9999) ∧ (0 ≤ (sx xs (i + 3)) ∧ (sx xs (i + 3)) ≤ 9) ∧ V 55 3 < 20
    · rw [if_pos h] at hp1 hp2
      exact ⟨hp1.1.trans hp2.1.symm, by rw [hp1.2]; exact hk.fly h.1 h.2.1 h.2.2.1 h.2.2.2, by rw [hp1.2]; exact hp2.2⟩
    · rw [if_neg h] at hp1 hp2
      exact ⟨hp1.1.trans hp2.1.symm, by rw [hp1.2]; exact hk, by rw [hp1.2]; exact hp2.2⟩
  obtain ⟨ez, hk1, hm1⟩ := key
  subst ez
  exact lv_icmp_eq E.1 E.2.1 (tgt := 737) dL_law_686 (by decide) (fun _ => kk V1 W1 H locs ⟨hGX, hGY, hS, hk1, hm1⟩) (fun h => absurd rfl h)
set_option maxHeartbeats 4000000 in
theorem lc_fits (E : Ev p s m meth c RL code 4 args (some .boolean)) (hC : LC X Y A s n b L xs) (hP : Lpr X Y A s n wd hi V W0 H locs) (h0 : 2 ≤ i) (h6 : i + 6 ≤ (L : Int)) (hl : lv_has ls 4 [(3, .int (jI i)), (2, .ref (wa Y 0)), (1, .ref (wa X 0)), (0, .ref b)]) (hf : cells ≤ room_1.cells ∧ slots ≤ room_1.slots) (kk : ∀ (V1 W1 : Mem) (H1 : Heap) (locs1 : List Loc), Lpr X Y A s n wd hi V1 W1 H1 locs1 → W p l e room_1 s m args below meth c H1 locs1 cells slots Q (F0 m 737 ls [])) : W p l e room_1 s m args below meth c H locs cells slots Q (F0 m 691 ls []) := by
  obtain ⟨gx, gy, dxy, dyx, hX, hY, hxs, hbl, hbA, hL⟩ := hC
  obtain ⟨hGX, hGY, hS, hk, hm⟩ := hP
  obtain ⟨U, f, g, eW, hR1, hf1⟩ := hm
  subst eW
  refine x_aload_n E dL_law_691 (lv_at hl 2 rfl) ?_
  refine x_aload_n E dL_law_692 (lv_at hl 3 rfl) ?_
  refine x_iload_n E dL_law_693 (lv_at hl 0 rfl) ?_
  refine x_iconst E dL_law_694 ?_
  refine x_iadd E dL_law_695 ?_
  refine y_sld E hxs hbl hbA hS hL (by omega) dL_law_696 ?_
  refine y_ci gx hGY dxy hS (y_runV E gx hGX hS (xb0 hX) cf7 rfl (c_X7_fits l hX V hk (sx xs (i + 1)) (sx_rg _ _)) mf_X7_fits km_L_98 rfl hl rfl (Nat.le_of_ble_eq_true rfl) ⟨Nat.le_of_ble_eq_true rfl, Nat.le_of_ble_eq_true rfl⟩ hf dL_law_697) (fun z1 V1 H locs hp1 hGX hGY hS => ?_)
  refine x_aload_n E dL_law_700 (lv_at hl 1 rfl) ?_
  refine x_aload_n E dL_law_701 (lv_at hl 3 rfl) ?_
  refine x_iload_n E dL_law_702 (lv_at hl 0 rfl) ?_
  refine x_iconst E dL_law_703 ?_
  refine x_iadd E dL_law_704 ?_
  refine y_sld E hxs hbl hbA hS hL (by omega) dL_law_705 ?_
  refine y_ci gy hGX dyx hS (y_runV E gy hGY hS (ym0 hY) cf8 rfl (c_X8_fits l hY V U f g hR1 hf1 hk (sx xs (i + 1)) (sx_rg _ _)) mf_X8_fits km_L_101 rfl hl rfl (Nat.le_of_ble_eq_true rfl) ⟨Nat.le_of_ble_eq_true rfl, Nat.le_of_ble_eq_true rfl⟩ hf dL_law_706) (fun z2 W1 H locs hp2 hGY hGX hS => ?_)
  have key : z1 = z2 ∧ XI V1 n wd hi ∧ MR V1 W1 n wd hi := ⟨hp1.2.2.trans hp2.1.symm, hk.hid hp1.1, hp2.2.hid hp1.1⟩
  obtain ⟨ez, hk1, hm1⟩ := key
  subst ez
  exact lv_icmp_eq E.1 E.2.1 (tgt := 737) dL_law_709 (by decide) (fun _ => kk V1 W1 H locs ⟨hGX, hGY, hS, hk1, hm1⟩) (fun h => absurd rfl h)
set_option maxHeartbeats 4000000 in
theorem lc_about (E : Ev p s m meth c RL code 4 args (some .boolean)) (hC : LC X Y A s n b L xs) (hP : Lpr X Y A s n wd hi V W0 H locs) (h0 : 2 ≤ i) (h6 : i + 6 ≤ (L : Int)) (hl : lv_has ls 4 [(3, .int (jI i)), (2, .ref (wa Y 0)), (1, .ref (wa X 0)), (0, .ref b)]) (hf : cells ≤ room_1.cells ∧ slots ≤ room_1.slots) (kk : ∀ (V1 W1 : Mem) (H1 : Heap) (locs1 : List Loc), Lpr X Y A s n wd hi V1 W1 H1 locs1 → W p l e room_1 s m args below meth c H1 locs1 cells slots Q (F0 m 737 ls [])) : W p l e room_1 s m args below meth c H locs cells slots Q (F0 m 714 ls []) := by
  obtain ⟨gx, gy, dxy, dyx, hX, hY, hxs, hbl, hbA, hL⟩ := hC
  obtain ⟨hGX, hGY, hS, hk, hm⟩ := hP
  obtain ⟨U, f, g, eW, hR1, hf1⟩ := hm
  subst eW
  refine x_aload_n E dL_law_714 (lv_at hl 2 rfl) ?_
  refine x_aload_n E dL_law_715 (lv_at hl 3 rfl) ?_
  refine x_iload_n E dL_law_716 (lv_at hl 0 rfl) ?_
  refine x_iconst E dL_law_717 ?_
  refine x_iadd E dL_law_718 ?_
  refine y_sld E hxs hbl hbA hS hL (by omega) dL_law_719 ?_
  refine y_ci gx hGY dxy hS (y_runV E gx hGX hS (xb0 hX) cf7 rfl (c_X7_about l hX V hk (sx xs (i + 1)) (sx_rg _ _)) mf_X7_about km_L_102 rfl hl rfl (Nat.le_of_ble_eq_true rfl) ⟨Nat.le_of_ble_eq_true rfl, Nat.le_of_ble_eq_true rfl⟩ hf dL_law_720) (fun z1 V1 H locs hp1 hGX hGY hS => ?_)
  refine x_aload_n E dL_law_723 (lv_at hl 1 rfl) ?_
  refine x_aload_n E dL_law_724 (lv_at hl 3 rfl) ?_
  refine x_iload_n E dL_law_725 (lv_at hl 0 rfl) ?_
  refine x_iconst E dL_law_726 ?_
  refine x_iadd E dL_law_727 ?_
  refine y_sld E hxs hbl hbA hS hL (by omega) dL_law_728 ?_
  refine y_ci gy hGX dyx hS (y_runV E gy hGY hS (ym0 hY) cf8 rfl (c_X8_about l hY V U f g hR1 hf1 hk (sx xs (i + 1)) (sx_rg _ _)) mf_X8_about km_L_105 rfl hl rfl (Nat.le_of_ble_eq_true rfl) ⟨Nat.le_of_ble_eq_true rfl, Nat.le_of_ble_eq_true rfl⟩ hf dL_law_729) (fun z2 W1 H locs hp2 hGY hGX hS => ?_)
  have key : z1 = z2 ∧ XI V1 n wd hi ∧ MR V1 W1 n wd hi := ⟨hp1.1.trans hp2.1.symm, by rw [hp1.2]; exact hk, by rw [hp1.2]; exact hp2.2⟩
  obtain ⟨ez, hk1, hm1⟩ := key
  subst ez
  exact lv_icmp_eq E.1 E.2.1 (tgt := 737) dL_law_732 (by decide) (fun _ => kk V1 W1 H locs ⟨hGX, hGY, hS, hk1, hm1⟩) (fun h => absurd rfl h)
set_option maxHeartbeats 4000000 in
theorem lw_loop (E : Ev p s m meth c RL code 4 args (some .boolean)) (hC : LC X Y A s n b L xs) (hf : cells ≤ room_1.cells ∧ slots ≤ room_1.slots) (hEnd : ∀ (H : Heap) (locs : List Loc) (ls : Array Slot), va_S A s.heap H locs → W p l e room_1 s m args below meth c H locs cells slots Q (F0 m 743 ls [])) : ∀ (N : Nat) (i : Int), 2 ≤ i → i ≤ (L : Int) + 6 → ((L : Int) - i).toNat < N → ∀ (V W0 : Mem) (H : Heap) (locs : List Loc) (ls : Array Slot), Lpr X Y A s n wd hi V W0 H locs → lv_has ls 4 [(3, .int (jI i)), (2, .ref (wa Y 0)), (1, .ref (wa X 0)), (0, .ref b)] → W p l e room_1 s m args below meth c H locs cells slots Q (F0 m 38 ls []) := by
  have hL := hC.2.2.2.2.2.2.2.2.2
  have hxs := hC.2.2.2.2.2.2.1
  have hbl := hC.2.2.2.2.2.2.2.1
  have hbA := hC.2.2.2.2.2.2.2.2.1
  intro N
  induction N with
  | zero => intro i _ _ h; exact absurd h (Nat.not_lt_zero _)
  | succ N ih =>
    intro i h0 h1 hN V W0 H locs ls hP hl
    refine x_iload_n E dL_law_38 (lv_at hl 0 rfl) ?_
    refine x_aload_n E dL_law_39 (lv_at hl 3 rfl) ?_
    refine y_slen E hxs hbl hbA hP.2.2.1 dL_law_40 ?_
    refine x_bipush E dL_law_41 (by decide) ?_
    refine x_isub E dL_law_43 ?_
    refine x_icmp_gt E 743 dL_law_44 (by decide) (by unfold rg; omega) (by unfold rg; omega) (fun q => hEnd H locs ls hP.2.2.1) (fun q => ?_)
    have h6 : i + 6 ≤ (L : Int) := by omega
    have kk : ∀ (V1 W1 : Mem) (H1 : Heap) (locs1 : List Loc), Lpr X Y A s n wd hi V1 W1 H1 locs1 → W p l e room_1 s m args below meth c H1 locs1 cells slots Q (F0 m 737 ls []) := by
      intro V1 W1 H1 locs1 hP1
      refine x_iinc (k := 0) (z := i) E [(3, .int (jI (i + 6))), (2, .ref (wa Y 0)), (1, .ref (wa X 0)), (0, .ref b)] dL_law_737 hl rfl (by decide) rfl (fun ls hl => ?_)
      refine x_goto E 38 dL_law_740 (by decide) ?_
      exact ih (i + 6) (by omega) (by omega) (by omega) V1 W1 H1 locs1 ls hP1 hl
    refine x_aload_n E dL_law_47 (lv_at hl 3 rfl) ?_
    refine x_iload_n E dL_law_48 (lv_at hl 0 rfl) ?_
    refine y_sld E hxs hbl hbA hP.2.2.1 hL (by omega) dL_law_49 ?_
    refine x_bipush E dL_law_50 (by decide) ?_
    refine lv_iand E.1 E.2.1 dL_law_52 ?_
    obtain ⟨v, hv, ev⟩ := pk_andE (jI (sx xs i)) (m := jI 31) 5 (by decide)
    rw [ev]
    have hv : v < 32 := hv
    by_cases hv2 : 19 ≤ v
    · refine lv_tableOut E.1 E.2.1 (tgt := 737) dL_law_53 (Or.inr ?_) (by decide) (kk V W0 H locs hP)
      rw [j_nat, j_toInt (by unfold rg; omega)]; omega
    · rcases (show v = 0 ∨ v = 1 ∨ v = 2 ∨ v = 3 ∨ v = 4 ∨ v = 5 ∨ v = 6 ∨ v = 7 ∨ v = 8 ∨ v = 9 ∨ v = 10 ∨ v = 11 ∨ v = 12 ∨ v = 13 ∨ v = 14 ∨ v = 15 ∨ v = 16 ∨ v = 17 ∨ v = 18 by omega) with rfl | rfl | rfl | rfl | rfl | rfl | rfl | rfl | rfl | rfl | rfl | rfl | rfl | rfl | rfl | rfl | rfl | rfl | rfl
      · exact lv_tableIn E.1 E.2.1 (off := 91) (tgt := 144) dL_law_53 (by decide) (by decide) (by decide) (by decide) (lc_heap E hC hP h0 h6 hl hf kk)
      · exact lv_tableIn E.1 E.2.1 (off := 124) (tgt := 177) dL_law_53 (by decide) (by decide) (by decide) (by decide) (lc_lay E hC hP h0 h6 hl hf kk)
      · exact lv_tableIn E.1 E.2.1 (off := 167) (tgt := 220) dL_law_53 (by decide) (by decide) (by decide) (by decide) (lc_rules E hC hP h0 h6 hl hf kk)
      · exact lv_tableIn E.1 E.2.1 (off := 230) (tgt := 283) dL_law_53 (by decide) (by decide) (by decide) (by decide) (lc_seed E hC hP h0 h6 hl hf kk)
      · exact lv_tableIn E.1 E.2.1 (off := 251) (tgt := 304) dL_law_53 (by decide) (by decide) (by decide) (by decide) (lc_feed E hC hP h0 h6 hl hf kk)
      · exact lv_tableIn E.1 E.2.1 (off := 314) (tgt := 367) dL_law_53 (by decide) (by decide) (by decide) (by decide) (lc_end E hC hP h0 h6 hl hf kk)
      · exact lv_tableIn E.1 E.2.1 (off := 337) (tgt := 390) dL_law_53 (by decide) (by decide) (by decide) (by decide) (lc_winds E hC hP h0 h6 hl hf kk)
      · exact lv_tableIn E.1 E.2.1 (off := 350) (tgt := 403) dL_law_53 (by decide) (by decide) (by decide) (by decide) (lc_fault E hC hP h0 h6 hl hf kk)
      · exact lv_tableIn E.1 E.2.1 (off := 373) (tgt := 426) dL_law_53 (by decide) (by decide) (by decide) (by decide) (lc_days E hC hP h0 h6 hl hf kk)
      · exact lv_tableIn E.1 E.2.1 (off := 396) (tgt := 449) dL_law_53 (by decide) (by decide) (by decide) (by decide) (lc_storm E hC hP h0 h6 hl hf kk)
      · exact lv_tableIn E.1 E.2.1 (off := 419) (tgt := 472) dL_law_53 (by decide) (by decide) (by decide) (by decide) (lc_cell E hC hP h0 h6 hl hf kk)
      · exact lv_tableIn E.1 E.2.1 (off := 452) (tgt := 505) dL_law_53 (by decide) (by decide) (by decide) (by decide) (lc_work E hC hP h0 h6 hl hf kk)
      · exact lv_tableIn E.1 E.2.1 (off := 505) (tgt := 558) dL_law_53 (by decide) (by decide) (by decide) (by decide) (lc_drop E hC hP h0 h6 hl hf kk)
      · exact lv_tableIn E.1 E.2.1 (off := 518) (tgt := 571) dL_law_53 (by decide) (by decide) (by decide) (by decide) (lc_best E hC hP h0 h6 hl hf kk)
      · exact lv_tableIn E.1 E.2.1 (off := 551) (tgt := 604) dL_law_53 (by decide) (by decide) (by decide) (by decide) (lc_bestSet E hC hP h0 h6 hl hf kk)
      · exact lv_tableIn E.1 E.2.1 (off := 584) (tgt := 637) dL_law_53 (by decide) (by decide) (by decide) (by decide) (lc_mark E hC hP h0 h6 hl hf kk)
      · exact lv_tableIn E.1 E.2.1 (off := 595) (tgt := 648) dL_law_53 (by decide) (by decide) (by decide) (by decide) (lc_flight E hC hP h0 h6 hl hf kk)
      · exact lv_tableIn E.1 E.2.1 (off := 638) (tgt := 691) dL_law_53 (by decide) (by decide) (by decide) (by decide) (lc_fits E hC hP h0 h6 hl hf kk)
      · exact lv_tableIn E.1 E.2.1 (off := 661) (tgt := 714) dL_law_53 (by decide) (by decide) (by decide) (by decide) (lc_about E hC hP h0 h6 hl hf kk)
end LO
