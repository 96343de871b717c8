/-! ===== what the tables and the start give: classes, array classes, statics, texts ===== -/
theorem K_one {args : Array Value} {s : State} (hts : ∀ w ∈ gT, w.before args s = true) {ci : Nat} {Cn : String} {T : u_T} {ty : Nat → FieldType} {N : Nat} (cf : ClF ci Cn T ty N) (kb : Cond.instantiable Cn N ∈ gT) : ∃ q : ClassId × (Nat → Nat), u_Kn s Cn T N q.1 q.2 := by
  obtain ⟨a, b, h⟩ := u_known hts cf.2.1 (hts _ kb)
  exact ⟨(a, b), h⟩
theorem K_arr {args : Array Value} {s : State} (hts : ∀ w ∈ gT, w.before args s = true) {ty : FieldType} (h : Cond.arrayClass ty ∈ gT) : ∃ cA : ClassId, ArrOfT s cA ty ∧ s.vm.findClass ("[" ++ ty.toString) = some cA := by
  obtain ⟨cA, kA, comp, h1, h2, h3⟩ := Cond.arrayClass_spec (hts _ h)
  exact ⟨cA, fun n z => ⟨fun k h => (by cases h), kA, h2, comp, h3⟩, h1⟩
theorem K_of {args : Array Value} {s : State} (hts : ∀ w ∈ gT, w.before args s = true) : ∃ (D : va_G) (C : Nat → ClassId), va_K D vwCl (tyC C) s := by
  obtain ⟨d0, k0⟩ := K_one hts cf0 kb_X0
  obtain ⟨d1, k1⟩ := K_one hts cf1 kb_X1
  obtain ⟨d2, k2⟩ := K_one hts cf2 kb_X2
  obtain ⟨d3, k3⟩ := K_one hts cf3 kb_X3
  obtain ⟨d4, k4⟩ := K_one hts cf4 kb_X4
  obtain ⟨d5, k5⟩ := K_one hts cf5 kb_X5
  obtain ⟨d6, k6⟩ := K_one hts cf6 kb_X6
  obtain ⟨d7, k7⟩ := K_one hts cf7 kb_X7
  obtain ⟨d8, k8⟩ := K_one hts cf8 kb_X8
  obtain ⟨a0, r0⟩ := K_arr hts ka_int
  obtain ⟨a1, r1⟩ := K_arr hts ka_byte
  obtain ⟨a2, r2⟩ := K_arr hts ka_boolean
  obtain ⟨a3, r3⟩ := K_arr hts ka_long
  refine ⟨((fun c => (([d0, d1, d2, d3, d4, d5, d6, d7, d8] : List (ClassId × (Nat → Nat))).getD c d0).1), (fun c => (([d0, d1, d2, d3, d4, d5, d6, d7, d8] : List (ClassId × (Nat → Nat))).getD c d0).2)), (fun c => ([a0, a1, a2, a3] : List ClassId).getD c a0), fun c q hq => ?_, fun k q hq => ?_⟩
  · have hc : c < vwCl.length := (List.getElem?_eq_some_iff.mp hq).1
    have hc : c < 9 := hc
    rcases (show c = 0 ∨ c = 1 ∨ c = 2 ∨ c = 3 ∨ c = 4 ∨ c = 5 ∨ c = 6 ∨ c = 7 ∨ c = 8 by omega) with rfl | rfl | rfl | rfl | rfl | rfl | rfl | rfl | rfl
    · have e := Option.some.inj (cf0.1.symm.trans hq); subst e; exact k0
    · have e := Option.some.inj (cf1.1.symm.trans hq); subst e; exact k1
    · have e := Option.some.inj (cf2.1.symm.trans hq); subst e; exact k2
    · have e := Option.some.inj (cf3.1.symm.trans hq); subst e; exact k3
    · have e := Option.some.inj (cf4.1.symm.trans hq); subst e; exact k4
    · have e := Option.some.inj (cf5.1.symm.trans hq); subst e; exact k5
    · have e := Option.some.inj (cf6.1.symm.trans hq); subst e; exact k6
    · have e := Option.some.inj (cf7.1.symm.trans hq); subst e; exact k7
    · have e := Option.some.inj (cf8.1.symm.trans hq); subst e; exact k8
  · have hk : k < 4 := (List.getElem?_eq_some_iff.mp hq).1
    rcases (show k = 0 ∨ k = 1 ∨ k = 2 ∨ k = 3 by omega) with rfl | rfl | rfl | rfl
    · have e := Option.some.inj (show some (a0, FieldType.int) = some q from hq); subst e; exact r0
    · have e := Option.some.inj (show some (a1, FieldType.byte) = some q from hq); subst e; exact r1
    · have e := Option.some.inj (show some (a2, FieldType.boolean) = some q from hq); subst e; exact r2
    · have e := Option.some.inj (show some (a3, FieldType.long) = some q from hq); subst e; exact r3
theorem zNest_in : ∀ q ∈ zNest, Cond.methodLinkNest q.1 q.2.1 q.2.2.1 q.2.2.2 ∈ lw_tbl := by decide +kernel
theorem zStr_in : ∀ i, i < 5 → Cond.stringRef RX4 (zIdx.getD i 0) (zTxt.getD i "") ∈ lw_tbl := by decide +kernel
def zTm (i : Nat) : Term := .string RX4 (zIdx.getD i 0)
theorem zEl_in : ∀ i, i < 5 → ∀ j, j < zLen.getD i 0 → Cond.eq (.elem (.field (zTm i) "java/lang/String" "value" "[B") (.int (Int32.ofNat j))) (.int ((zByt.getD i []).getD j 0)) ∈ flatC (Jvm.Cond.and given_1 narrow_1) := by decide +kernel
theorem zNe_in : ∀ j, j < 5 → ∀ i, i < j → Cond.not (Cond.eq (zTm i) (zTm j)) ∈ flatC (Jvm.Cond.and given_1 narrow_1) := by decide +kernel
theorem ZF_of {b : Nat} {s : State} (hts : ∀ w ∈ lw_tbl, w.before #[Value.ref b] s = true) (hgv : (Jvm.Cond.and given_1 narrow_1).before #[Value.ref b] s = true) : ∃ z : Nat → Nat, ZF z (fun q => s.heap.size ≤ q) s s.heap := by
  have hs := flat_of_before _ hgv
  have hA : ∀ a : Nat, a < s.heap.size → ¬ (fun q => s.heap.size ≤ q) a := fun a h q => absurd h (Nat.not_lt.mpr q)
  obtain ⟨t0, e0, T0⟩ := va_Tof (tm := .static RX7 "MOST_LAID" "[I") (ty := .int) (N := 4) (f := zML) (by decide) (hs _ (by decide +kernel)) (va_eqt (hs _ (by decide +kernel))) (fun j hj => by
    rcases (show j = 0 ∨ j = 1 ∨ j = 2 ∨ j = 3 by omega) with rfl | rfl | rfl | rfl <;> exact va_eqt (hs _ (by decide +kernel))) hA
  obtain ⟨t1, e1, T1⟩ := va_Tof (tm := .static RX7 "FIRST_RULES" "[I") (ty := .int) (N := 5) (f := zFR) (by decide) (hs _ (by decide +kernel)) (va_eqt (hs _ (by decide +kernel))) (fun j hj => by
    rcases (show j = 0 ∨ j = 1 ∨ j = 2 ∨ j = 3 ∨ j = 4 by omega) with rfl | rfl | rfl | rfl | rfl <;> exact va_eqt (hs _ (by decide +kernel))) hA
  obtain ⟨adK, adV, hS, hK⟩ := vk_Sof (N := 5) (tm := zTm) (len := zLen) (byt := zByt) (by decide)
    (fun i hi => hs _ (by revert i; decide +kernel)) (fun i hi => hs _ (by revert i; decide +kernel)) (fun i hi => hs _ (by revert i; decide +kernel)) (fun i hi => hs _ (by revert i; decide +kernel))
    (fun i hi j hj => hs _ (zEl_in i hi j hj))
    (fun i j hi hj hne => by
      rcases Nat.lt_or_gt_of_ne hne with h | h
      · exact Or.inl (hs _ (zNe_in j hj i h))
      · exact Or.inr (hs _ (zNe_in i hi j h))) hA
  obtain ⟨z, ez⟩ : ∃ z : Nat → Nat, z = fun i => if i = 0 then t0 else if i = 1 then t1 else if i < 20 then adK (i - 10) else adV (i - 20) := ⟨_, rfl⟩
  have z0 : z 0 = t0 := by rw [ez]; rfl
  have z1 : z 1 = t1 := by rw [ez]; rfl
  have zk : ∀ i, i < 5 → z (10 + i) = adK i := fun i hi => by
    rw [ez]
    show (if 10 + i = 0 then t0 else if 10 + i = 1 then t1 else if 10 + i < 20 then adK (10 + i - 10) else adV (10 + i - 20)) = adK i
    rw [if_neg (by omega), if_neg (by omega), if_pos (by omega), show 10 + i - 10 = i by omega]
  have zv : ∀ i, i < 5 → z (20 + i) = adV i := fun i hi => by
    rw [ez]
    show (if 20 + i = 0 then t0 else if 20 + i = 1 then t1 else if 20 + i < 20 then adK (20 + i - 10) else adV (20 + i - 20)) = adV i
    rw [if_neg (by omega), if_neg (by omega), if_neg (by omega), show 20 + i - 20 = i by omega]
  refine ⟨z, fun q hq => va_Nw.of rfl (hts _ (zNest_in q hq)), va_Nw.of rfl (hts _ (by decide +kernel)), ?_, by rw [z0]; exact T0, ?_, by rw [z1]; exact T1, ?_, ⟨fun i hi => ?_, fun i j hi hj h => ?_⟩, fun i hi => ?_, ?_⟩
  · rw [z0]; exact va_Zof (hts _ (by decide +kernel)) (hts _ (by decide +kernel)) e0 hA
  · rw [z1]; exact va_Zof (hts _ (by decide +kernel)) (hts _ (by decide +kernel)) e1 hA
  · exact va_Zof (hts _ (by decide +kernel)) (hts _ (by decide +kernel)) (va_eqi (z := jI 1) (hs _ (by decide +kernel))) hA
  · have h := hS.1 i hi
    rw [← zk i hi, ← zv i hi] at h
    exact h
  · have h : z (10 + i) = z (10 + j) := h
    rw [zk i hi, zk j hj] at h
    exact hS.2 i j hi hj h
  · rw [zk i hi]
    exact vk_R.of (hts _ (zStr_in i hi)) (hK i hi)
  · exact va_Zqof (hts _ (by decide +kernel)) (hts _ (by decide +kernel)) (hs _ (by decide +kernel)) hA
