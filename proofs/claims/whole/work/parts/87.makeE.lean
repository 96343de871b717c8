section MS2
variable {p : Program} {l : Launch} {e : Env} {R : Room} {s : State} {m : MethodId} {args : Array Value} {below : List Frame} {meth : Method} {c : Code} {H : Heap} {locs : List Loc} {cells slots : Nat} {Q : State → Prop}
variable {own : String} {cc : ByteArray} {nL : Nat} {ret : Option FieldType} {pc : Nat} {ls : Array Slot} {rest : List Value}
variable {D : va_G} {C : Nat → ClassId} {A : Nat → Prop} {ws : va_W}
/-- a static call that leans on no cell -/
theorem n_stat {As : List Value} {z : Nat → Nat} {y : MethodName} {bytes : ByteArray} {maxL n fr lo index : Nat} {st0 : List Value} {lv : List (Nat × Value)} {zz : Int} {V : Mem} (E : Ev p s m meth c own cc nL args ret) (K : va_K D vwCl (tyC C) s) (Z : ZF z A s s.heap) (hP : va_P D vwCl ws H) (hS : va_S A s.heap H locs) (hl : lv_has ls nL lv)
    (hM : ∀ X : We, Mt l X V y bytes maxL (some .int) fr lo As (Qi X (fun r V1 => r = zz ∧ V1 = V))) (mf : MS y bytes maxL (some .int) n) (hlk : Cond.methodLink own index y ∈ gT) (hn : As.length = n) (hst : st0 = As.reverse ++ rest) (hw : (rest.map fun v => v.category).sum ≤ 8) (hR : fr + 1 ≤ R.frames ∧ 8 + (maxL + 11) + lo ≤ R.locals) (hf : cells ≤ R.cells ∧ slots ≤ R.slots) (hdg : decode cc pc = .ok (.invokestatic index, 3))
    (kk : ∀ (H1 : Heap) (locs1 : List Loc), va_P D vwCl ws H1 → va_S A s.heap H1 locs1 → W p l e R s m args below meth c H1 locs1 cells slots Q (F0 m (pc + 3) ls (.int (jI zz) :: rest))) : W p l e R s m args below meth c H locs cells slots Q (F0 m pc ls st0) := by
  obtain ⟨X, eX⟩ : ∃ X : We, X = ((D, C, (fun _ => 0), (fun _ => .inl (0, 0)), 0, z, (fun _ => False)) : We) := ⟨_, rfl⟩
  have hno : ∀ q, wA X q → False := by rw [eX]; exact fun _ h => h
  refine va_calli (va_runS (As := As) (rest := rest) (n := n) ⟨E.1, E.2.1, E.2.2.1, E.2.2.2.1, E.2.2.2.2.1⟩ (hM X) (va_cwS n E.2.2.2.2.1 (mf.good hlk) rfl rfl rfl mf.2.2.2 hR) ⟨GI.blind, fun U hU hW => ⟨rfl, ?_⟩⟩ rfl hn hl.1 hst (lv_room (m := m) (pc := pc) (ls := ls) (rest := st0) hw) hdg hf) hS (fun q _ h => (hno q h).elim) (fun q h => (hno q h).elim) (fun r u t H1 locs1 ht hvm hw hB hz1 hk1 hS1 => ?_)
  · have hz := ZF.warm hW ((Z.kept hS.2.1).narrow (B := wA X) (fun q h => (hno q h).elim))
    rw [← hU] at hz
    refine ⟨by rw [eX]; exact va_K.moved hW.alike K, by rw [eX]; exact ⟨fun i j hi => absurd hi (Nat.not_lt_zero _), fun i hi => absurd hi (Nat.not_lt_zero _)⟩, by rw [eX]; exact fun p q e => by have := Sum.inl.inj (show (Sum.inl (0, 0) : Pd) = Sum.inl q from e); rw [← this]; decide, by rw [eX] at hz ⊢; exact hz, ?_⟩
    rw [eX]
    intro k q hq
    exact absurd (gw_lt hq) (Nat.not_lt_zero _)
  · obtain ⟨z', rfl, ez, -⟩ := hw
    rw [ez]
    exact kk H1 locs1 (hP.kept (fun k q hk => hk1 q.1 (hP k q hk).lt (fun h => hno _ h))) hS1
end MS2
/-- the cells of a new DuneBench, by their places -/
def L7 (C : Nat → ClassId) (n : Nat) (wd hi : Int) (q : Nat → Nat) (g : Int → Int) : va_W := [(q 0, .inr (7, [.ref (q 1), .ref (q 3), .ref (q 17), .ref (q 31), .ref (q 45), .ref (q 50), .ref (q 55), .int (jI 0)])), (q 1, .inr (3, [.int (jI wd), .int (jI hi), .int (jI (wd * hi)), .ref (q 2)])), (q 2, .inl (C 0, n * 4, .inl (fun j => jI (g (j : Int)))))] ++ L1 C n (q 1) (fun i => q (3 + i)) ++ L1 C n (q 1) (fun i => q (17 + i)) ++ L1 C n (q 1) (fun i => q (31 + i)) ++ [((q 45), .inr (4, [.ref (q 46), .int (jI 0), .int (jI (-1)), .int (jI (-1)), .ref (q 47)])), ((q 46), .inl (C 1, 200, .inl (fun _ => jI 0))), ((q 47), .inr (5, [.ref (q 48), .ref (q 49), .int (jI 0), .int (jI 0), .int (jI 0)])), ((q 48), .inl (C 0, 20, .inl (fun _ => jI 0))), ((q 49), .inl (C 0, 20, .inl (fun _ => jI 0))), ((q 50), .inr (6, [.ref (q 51), .ref (q 52), .ref (q 53), .ref (q 54), .int (jI 0)])), ((q 51), .inl (C 0, 4, .inl (fun _ => jI 0))), ((q 52), .inl (C 0, 4, .inl (fun _ => jI 0))), ((q 53), .inl (C 0, 4, .inl (fun _ => jI 0))), ((q 54), .inl (C 0, 4, .inl (fun _ => jI 0))), ((q 55), .inr (2, [.ref (q 56), .ref (q 57), .ref (q 58), .int (jI 0)])), ((q 56), .inl (C 0, 20, .inl (fun _ => jI 0))), ((q 57), .inl (C 0, 20, .inl (fun _ => jI 0))), ((q 58), .inl (C 0, 20, .inl (fun _ => jI 0)))]

set_option maxHeartbeats 4000000 in
set_option maxRecDepth 100000 in
theorem m_X7 (l : Launch) {D : va_G} {C : Nat → ClassId} {z : Nat → Nat} (h : Nat) (w0 h0 : Int) (hw0 : rg w0) (hh0 : rg h0) {n : Nat} {wd hi : Int} (hwd : wd = max 4 (min 16 w0)) (hhi : hi = max 2 (min 10 h0)) (hd : dims n wd hi) : Cs l D C z yX7_init cX7_init 3 5 58 4549 120 [.ref h, .int (jI w0), .int (jI h0)] [(h, .inr (7, [.null, .null, .null, .null, .null, .null, .null, .int (jI 0)]))] (fun w => ∃ (q : Nat → Nat) (g : Int → Int), q 0 = h ∧ (∀ c k : Int, 0 ≤ c → c < (n : Int) → 0 ≤ k → k < 4 → g (c * 4 + k) = nb wd hi c k) ∧ w = L7 C n wd hi q g) := by
  refine Cs.go (by decide) rfl (Nat.le_of_ble_eq_true rfl) ?_
  intro pg ev s0 mi bl mt cd ls Rm ag Qq A hR hQ E hin K Z hP hD hS hA hl
  have hl : lv_has ls 3 [(0, .ref h), (1, .int (jI w0)), (2, .int (jI h0))] := hl
  refine x_aload_n E dX7_init_0 (lv_at hl 0 rfl) ?_
  refine n_obj E hl km_X7_1 dX7_init_1 (by rw [hR]; exact ⟨Nat.le_of_ble_eq_true rfl, Nat.le_of_ble_eq_true rfl⟩) ⟨_, rfl⟩ ?_
  refine x_aload_n E dX7_init_4 (lv_at hl 0 rfl) ?_
  refine n_new E K hP hD hS hA cf3 kl_X7_7 kb_X3 ki_X3 [.int (jI 0), .int (jI 0), .int (jI 0), .null] (fun j hj => by rcases (show j = 0 ∨ j = 1 ∨ j = 2 ∨ j = 3 by omega) with rfl | rfl | rfl | rfl <;> rfl) (by rw [hR]; exact Nat.le_of_ble_eq_true rfl) (by rw [hR]; exact Nat.le_of_ble_eq_true rfl) dX7_init_5 (fun q1 H hP hD hS => ?_)
  refine x_dup E dX7_init_8 rfl ?_
  refine x_iload_n E dX7_init_9 (lv_at hl 1 rfl) ?_
  refine x_iconst E dX7_init_10 ?_
  refine x_bipush E dX7_init_11 (by decide) ?_
  refine n_stat (zz := wd) E K Z hP hS hl (fun X => by rw [hwd]; exact c_X7_nearest l (fun _ _ => 0) w0 4 16 hw0 (by unfold rg; omega) (by unfold rg; omega)) mf_X7_nearest km_X7_9 rfl rfl (Nat.le_of_ble_eq_true rfl) (by rw [hR]; exact ⟨Nat.le_of_ble_eq_true rfl, Nat.le_of_ble_eq_true rfl⟩) (by rw [hR]; exact ⟨Nat.le_of_ble_eq_true rfl, Nat.le_of_ble_eq_true rfl⟩) dX7_init_13 (fun H locs hP hS => ?_)
  refine x_iload_n E dX7_init_16 (lv_at hl 2 rfl) ?_
  refine x_iconst E dX7_init_17 ?_
  refine x_bipush E dX7_init_18 (by decide) ?_
  refine n_stat (zz := hi) E K Z hP hS hl (fun X => by rw [hhi]; exact c_X7_nearest l (fun _ _ => 0) h0 2 10 hh0 (by unfold rg; omega) (by unfold rg; omega)) mf_X7_nearest km_X7_9 rfl rfl (Nat.le_of_ble_eq_true rfl) (by rw [hR]; exact ⟨Nat.le_of_ble_eq_true rfl, Nat.le_of_ble_eq_true rfl⟩) (by rw [hR]; exact ⟨Nat.le_of_ble_eq_true rfl, Nat.le_of_ble_eq_true rfl⟩) dX7_init_20 (fun H locs hP hS => ?_)
  refine n_call E K Z [(h, .inr (7, [.null, .null, .null, .null, .null, .null, .null, .int (jI 0)]))] hP hD hS hA hl (m_X3 l q1 hd) mi_X3 km_X7_15 rfl rfl (Nat.le_of_ble_eq_true rfl) (by rw [hR]; exact ⟨Nat.le_of_ble_eq_true rfl, Nat.le_of_ble_eq_true rfl⟩) (by rw [hR]; exact ⟨Nat.le_of_ble_eq_true rfl, Nat.le_of_ble_eq_true rfl⟩) dX7_init_23 (fun w_ H locs hp hP hD hS => ?_)
  obtain ⟨a, g, hg, rfl⟩ := hp
  refine n_putF E hin K hP hD hS cf7 0 (by decide) rfl rfl (v := .ref q1) rfl rfl (Nat.le_of_ble_eq_true rfl) kf_X7_18 dX7_init_26 (fun H locs hP hD hS => ?_)
  refine x_aload_n E dX7_init_29 (lv_at hl 0 rfl) ?_
  refine n_new E K hP hD hS hA cf1 kl_X7_22 kb_X1 ki_X1 [.null, .null, .null, .null, .null, .null, .null, .null, .null, .null, .null, .int (jI 0), .int (jI 0), .int (jI 0), .int (jI 0), .int (jI 0)] (fun j hj => by rcases (show j = 0 ∨ j = 1 ∨ j = 2 ∨ j = 3 ∨ j = 4 ∨ j = 5 ∨ j = 6 ∨ j = 7 ∨ j = 8 ∨ j = 9 ∨ j = 10 ∨ j = 11 ∨ j = 12 ∨ j = 13 ∨ j = 14 ∨ j = 15 by omega) with rfl | rfl | rfl | rfl | rfl | rfl | rfl | rfl | rfl | rfl | rfl | rfl | rfl | rfl | rfl | rfl <;> rfl) (by rw [hR]; exact Nat.le_of_ble_eq_true rfl) (by rw [hR]; exact Nat.le_of_ble_eq_true rfl) dX7_init_30 (fun d1 H hP hD hS => ?_)
  refine x_dup E dX7_init_33 rfl ?_
  refine x_aload_n E dX7_init_34 (lv_at hl 0 rfl) ?_
  refine n_get E K hP 0 rfl cf7 0 (by decide) (v := .ref q1) rfl kf_X7_18 dX7_init_35 ?_
  refine n_call E K Z ([(h, .inr (7, [.ref q1, .null, .null, .null, .null, .null, .null, .int (jI 0)]))]) hP hD hS hA hl (m_X1 l d1 q1 a hd g) mi_X1 km_X7_24 rfl rfl (Nat.le_of_ble_eq_true rfl) (by rw [hR]; exact ⟨Nat.le_of_ble_eq_true rfl, Nat.le_of_ble_eq_true rfl⟩) (by rw [hR]; exact ⟨Nat.le_of_ble_eq_true rfl, Nat.le_of_ble_eq_true rfl⟩) dX7_init_38 (fun w_ H locs hp hP hD hS => ?_)
  obtain ⟨f1, ef, rfl⟩ := hp
  rw [← ef]
  refine n_putF E hin K hP hD hS cf7 1 (by decide) rfl rfl (v := .ref (f1 0)) rfl rfl (Nat.le_of_ble_eq_true rfl) kf_X7_27 dX7_init_41 (fun H locs hP hD hS => ?_)
  refine x_aload_n E dX7_init_44 (lv_at hl 0 rfl) ?_
  refine n_new E K hP hD hS hA cf1 kl_X7_22 kb_X1 ki_X1 [.null, .null, .null, .null, .null, .null, .null, .null, .null, .null, .null, .int (jI 0), .int (jI 0), .int (jI 0), .int (jI 0), .int (jI 0)] (fun j hj => by rcases (show j = 0 ∨ j = 1 ∨ j = 2 ∨ j = 3 ∨ j = 4 ∨ j = 5 ∨ j = 6 ∨ j = 7 ∨ j = 8 ∨ j = 9 ∨ j = 10 ∨ j = 11 ∨ j = 12 ∨ j = 13 ∨ j = 14 ∨ j = 15 by omega) with rfl | rfl | rfl | rfl | rfl | rfl | rfl | rfl | rfl | rfl | rfl | rfl | rfl | rfl | rfl | rfl <;> rfl) (by rw [hR]; exact Nat.le_of_ble_eq_true rfl) (by rw [hR]; exact Nat.le_of_ble_eq_true rfl) dX7_init_45 (fun d2 H hP hD hS => ?_)
  refine x_dup E dX7_init_48 rfl ?_
  refine x_aload_n E dX7_init_49 (lv_at hl 0 rfl) ?_
  refine n_get E K hP 0 rfl cf7 0 (by decide) (v := .ref q1) rfl kf_X7_18 dX7_init_50 ?_
  refine n_call E K Z ([(h, .inr (7, [.ref q1, .ref (f1 0), .null, .null, .null, .null, .null, .int (jI 0)]))] ++ L1 C n q1 f1) hP hD hS hA hl (m_X1 l d2 q1 a hd g) mi_X1 km_X7_24 rfl rfl (Nat.le_of_ble_eq_true rfl) (by rw [hR]; exact ⟨Nat.le_of_ble_eq_true rfl, Nat.le_of_ble_eq_true rfl⟩) (by rw [hR]; exact ⟨Nat.le_of_ble_eq_true rfl, Nat.le_of_ble_eq_true rfl⟩) dX7_init_53 (fun w_ H locs hp hP hD hS => ?_)
  obtain ⟨f2, ef, rfl⟩ := hp
  rw [← ef]
  refine n_putF E hin K hP hD hS cf7 2 (by decide) rfl rfl (v := .ref (f2 0)) rfl rfl (Nat.le_of_ble_eq_true rfl) kf_X7_31 dX7_init_56 (fun H locs hP hD hS => ?_)
  refine x_aload_n E dX7_init_59 (lv_at hl 0 rfl) ?_
  refine n_new E K hP hD hS hA cf1 kl_X7_22 kb_X1 ki_X1 [.null, .null, .null, .null, .null, .null, .null, .null, .null, .null, .null, .int (jI 0), .int (jI 0), .int (jI 0), .int (jI 0), .int (jI 0)] (fun j hj => by rcases (show j = 0 ∨ j = 1 ∨ j = 2 ∨ j = 3 ∨ j = 4 ∨ j = 5 ∨ j = 6 ∨ j = 7 ∨ j = 8 ∨ j = 9 ∨ j = 10 ∨ j = 11 ∨ j = 12 ∨ j = 13 ∨ j = 14 ∨ j = 15 by omega) with rfl | rfl | rfl | rfl | rfl | rfl | rfl | rfl | rfl | rfl | rfl | rfl | rfl | rfl | rfl | rfl <;> rfl) (by rw [hR]; exact Nat.le_of_ble_eq_true rfl) (by rw [hR]; exact Nat.le_of_ble_eq_true rfl) dX7_init_60 (fun d3 H hP hD hS => ?_)
  refine x_dup E dX7_init_63 rfl ?_
  refine x_aload_n E dX7_init_64 (lv_at hl 0 rfl) ?_
  refine n_get E K hP 0 rfl cf7 0 (by decide) (v := .ref q1) rfl kf_X7_18 dX7_init_65 ?_
  refine n_call E K Z ([(h, .inr (7, [.ref q1, .ref (f1 0), .ref (f2 0), .null, .null, .null, .null, .int (jI 0)]))] ++ L1 C n q1 f1 ++ L1 C n q1 f2) hP hD hS hA hl (m_X1 l d3 q1 a hd g) mi_X1 km_X7_24 rfl rfl (Nat.le_of_ble_eq_true rfl) (by rw [hR]; exact ⟨Nat.le_of_ble_eq_true rfl, Nat.le_of_ble_eq_true rfl⟩) (by rw [hR]; exact ⟨Nat.le_of_ble_eq_true rfl, Nat.le_of_ble_eq_true rfl⟩) dX7_init_68 (fun w_ H locs hp hP hD hS => ?_)
  obtain ⟨f3, ef, rfl⟩ := hp
  rw [← ef]
  refine n_putF E hin K hP hD hS cf7 3 (by decide) rfl rfl (v := .ref (f3 0)) rfl rfl (Nat.le_of_ble_eq_true rfl) kf_X7_34 dX7_init_71 (fun H locs hP hD hS => ?_)
  refine x_aload_n E dX7_init_74 (lv_at hl 0 rfl) ?_
  refine n_new E K hP hD hS hA cf4 kl_X7_37 kb_X4 ki_X4 [.null, .int (jI 0), .int (jI 0), .int (jI 0), .null] (fun j hj => by rcases (show j = 0 ∨ j = 1 ∨ j = 2 ∨ j = 3 ∨ j = 4 by omega) with rfl | rfl | rfl | rfl | rfl <;> rfl) (by rw [hR]; exact Nat.le_of_ble_eq_true rfl) (by rw [hR]; exact Nat.le_of_ble_eq_true rfl) dX7_init_75 (fun t0 H hP hD hS => ?_)
  refine x_dup E dX7_init_78 rfl ?_
  refine n_callN E K Z ([(h, .inr (7, [.ref q1, .ref (f1 0), .ref (f2 0), .ref (f3 0), .null, .null, .null, .int (jI 0)]))] ++ L1 C n q1 f1 ++ L1 C n q1 f2 ++ L1 C n q1 f3 ++ [(a, .inl (C 0, n * 4, .inl (fun j => jI (g (j : Int))))), (q1, .inr (3, [.int (jI wd), .int (jI hi), .int (jI (wd * hi)), .ref a]))]) hP hD hS hA hl (m_X4 l t0) mi_X4 (by decide : (_, _, _, RX7) ∈ zNest) rfl rfl (Nat.le_of_ble_eq_true rfl) (by rw [hR]; exact ⟨Nat.le_of_ble_eq_true rfl, Nat.le_of_ble_eq_true rfl⟩) (by rw [hR]; exact ⟨Nat.le_of_ble_eq_true rfl, Nat.le_of_ble_eq_true rfl⟩) dX7_init_79 (fun w_ H locs hp hP hD hS => ?_)
  obtain ⟨t1, t2, t3, t4, rfl⟩ := hp
  refine n_putF E hin K hP hD hS cf7 4 (by decide) rfl rfl (v := .ref t0) rfl rfl (Nat.le_of_ble_eq_true rfl) kf_X7_40 dX7_init_82 (fun H locs hP hD hS => ?_)
  refine x_aload_n E dX7_init_85 (lv_at hl 0 rfl) ?_
  refine n_new E K hP hD hS hA cf6 kl_X7_44 kb_X6 ki_X6 [.null, .null, .null, .null, .int (jI 0)] (fun j hj => by rcases (show j = 0 ∨ j = 1 ∨ j = 2 ∨ j = 3 ∨ j = 4 by omega) with rfl | rfl | rfl | rfl | rfl <;> rfl) (by rw [hR]; exact Nat.le_of_ble_eq_true rfl) (by rw [hR]; exact Nat.le_of_ble_eq_true rfl) dX7_init_86 (fun k0 H hP hD hS => ?_)
  refine x_dup E dX7_init_89 rfl ?_
  refine n_callN E K Z ([(h, .inr (7, [.ref q1, .ref (f1 0), .ref (f2 0), .ref (f3 0), .ref t0, .null, .null, .int (jI 0)]))] ++ L1 C n q1 f1 ++ L1 C n q1 f2 ++ L1 C n q1 f3 ++ [(a, .inl (C 0, n * 4, .inl (fun j => jI (g (j : Int))))), (q1, .inr (3, [.int (jI wd), .int (jI hi), .int (jI (wd * hi)), .ref a]))] ++ [(t0, .inr (4, [.ref t1, .int (jI 0), .int (jI (-1)), .int (jI (-1)), .ref t2])), (t1, .inl (C 1, 200, .inl (fun _ => jI 0))), (t2, .inr (5, [.ref t3, .ref t4, .int (jI 0), .int (jI 0), .int (jI 0)])), (t3, .inl (C 0, 20, .inl (fun _ => jI 0))), (t4, .inl (C 0, 20, .inl (fun _ => jI 0)))]) hP hD hS hA hl (m_X6 l k0) mi_X6 (by decide : (_, _, _, RX7) ∈ zNest) rfl rfl (Nat.le_of_ble_eq_true rfl) (by rw [hR]; exact ⟨Nat.le_of_ble_eq_true rfl, Nat.le_of_ble_eq_true rfl⟩) (by rw [hR]; exact ⟨Nat.le_of_ble_eq_true rfl, Nat.le_of_ble_eq_true rfl⟩) dX7_init_90 (fun w_ H locs hp hP hD hS => ?_)
  obtain ⟨k1, k2, k3, k4, rfl⟩ := hp
  refine n_putF E hin K hP hD hS cf7 5 (by decide) rfl rfl (v := .ref k0) rfl rfl (Nat.le_of_ble_eq_true rfl) kf_X7_47 dX7_init_93 (fun H locs hP hD hS => ?_)
  refine x_aload_n E dX7_init_96 (lv_at hl 0 rfl) ?_
  refine n_new E K hP hD hS hA cf2 kl_X7_51 kb_X2 ki_X2 [.null, .null, .null, .int (jI 0)] (fun j hj => by rcases (show j = 0 ∨ j = 1 ∨ j = 2 ∨ j = 3 by omega) with rfl | rfl | rfl | rfl <;> rfl) (by rw [hR]; exact Nat.le_of_ble_eq_true rfl) (by rw [hR]; exact Nat.le_of_ble_eq_true rfl) dX7_init_97 (fun l0 H hP hD hS => ?_)
  refine x_dup E dX7_init_100 rfl ?_
  refine n_callN E K Z ([(h, .inr (7, [.ref q1, .ref (f1 0), .ref (f2 0), .ref (f3 0), .ref t0, .ref k0, .null, .int (jI 0)]))] ++ L1 C n q1 f1 ++ L1 C n q1 f2 ++ L1 C n q1 f3 ++ [(a, .inl (C 0, n * 4, .inl (fun j => jI (g (j : Int))))), (q1, .inr (3, [.int (jI wd), .int (jI hi), .int (jI (wd * hi)), .ref a]))] ++ [(t0, .inr (4, [.ref t1, .int (jI 0), .int (jI (-1)), .int (jI (-1)), .ref t2])), (t1, .inl (C 1, 200, .inl (fun _ => jI 0))), (t2, .inr (5, [.ref t3, .ref t4, .int (jI 0), .int (jI 0), .int (jI 0)])), (t3, .inl (C 0, 20, .inl (fun _ => jI 0))), (t4, .inl (C 0, 20, .inl (fun _ => jI 0)))] ++ [(k0, .inr (6, [.ref k1, .ref k2, .ref k3, .ref k4, .int (jI 0)])), (k1, .inl (C 0, 4, .inl (fun _ => jI 0))), (k2, .inl (C 0, 4, .inl (fun _ => jI 0))), (k3, .inl (C 0, 4, .inl (fun _ => jI 0))), (k4, .inl (C 0, 4, .inl (fun _ => jI 0)))]) hP hD hS hA hl (m_X2 l l0) mi_X2 (by decide : (_, _, _, RX7) ∈ zNest) rfl rfl (Nat.le_of_ble_eq_true rfl) (by rw [hR]; exact ⟨Nat.le_of_ble_eq_true rfl, Nat.le_of_ble_eq_true rfl⟩) (by rw [hR]; exact ⟨Nat.le_of_ble_eq_true rfl, Nat.le_of_ble_eq_true rfl⟩) dX7_init_101 (fun w_ H locs hp hP hD hS => ?_)
  obtain ⟨l1, l2, l3, rfl⟩ := hp
  refine n_putF E hin K hP hD hS cf7 6 (by decide) rfl rfl (v := .ref l0) rfl rfl (Nat.le_of_ble_eq_true rfl) kf_X7_54 dX7_init_104 (fun H locs hP hD hS => ?_)
  refine x_aload_n E dX7_init_107 (lv_at hl 0 rfl) ?_
  refine x_iconst E dX7_init_108 ?_
  refine n_putV E K hP hD hS cf7 7 (by decide) rfl (v := .int (jI 0)) rfl rfl (Nat.le_of_ble_eq_true rfl) kf_X7_58 dX7_init_109 (fun H locs hP hD hS => ?_)
  have hP2 := hP.sub (ws' := L7 C n wd hi (fun i => ([h, q1, a, f1 0, f1 1, f1 2, f1 3, f1 4, f1 5, f1 6, f1 7, f1 8, f1 9, f1 10, f1 11, f1 12, f1 13, f2 0, f2 1, f2 2, f2 3, f2 4, f2 5, f2 6, f2 7, f2 8, f2 9, f2 10, f2 11, f2 12, f2 13, f3 0, f3 1, f3 2, f3 3, f3 4, f3 5, f3 6, f3 7, f3 8, f3 9, f3 10, f3 11, f3 12, f3 13, t0, t1, t2, t3, t4, k0, k1, k2, k3, k4, l0, l1, l2, l3] : List Nat).getD i 0) g) [0, 44, 43, 1, 2, 3, 4, 5, 6, 7, 8, 9, 10, 11, 12, 13, 14, 15, 16, 17, 18, 19, 20, 21, 22, 23, 24, 25, 26, 27, 28, 29, 30, 31, 32, 33, 34, 35, 36, 37, 38, 39, 40, 41, 42, 45, 46, 47, 48, 49, 50, 51, 52, 53, 54, 55, 56, 57, 58] rfl
  have hD2 := hD.sub (ws' := L7 C n wd hi (fun i => ([h, q1, a, f1 0, f1 1, f1 2, f1 3, f1 4, f1 5, f1 6, f1 7, f1 8, f1 9, f1 10, f1 11, f1 12, f1 13, f2 0, f2 1, f2 2, f2 3, f2 4, f2 5, f2 6, f2 7, f2 8, f2 9, f2 10, f2 11, f2 12, f2 13, f3 0, f3 1, f3 2, f3 3, f3 4, f3 5, f3 6, f3 7, f3 8, f3 9, f3 10, f3 11, f3 12, f3 13, t0, t1, t2, t3, t4, k0, k1, k2, k3, k4, l0, l1, l2, l3] : List Nat).getD i 0) g) [0, 44, 43, 1, 2, 3, 4, 5, 6, 7, 8, 9, 10, 11, 12, 13, 14, 15, 16, 17, 18, 19, 20, 21, 22, 23, 24, 25, 26, 27, 28, 29, 30, 31, 32, 33, 34, 35, 36, 37, 38, 39, 40, 41, 42, 45, 46, 47, 48, 49, 50, 51, 52, 53, 54, 55, 56, 57, 58] (by decide) rfl
  refine W.widen (k := 58) (n := 4549) (Nat.le_of_ble_eq_true rfl) (Nat.le_of_ble_eq_true rfl) ?_
  exact n_ret E hQ hP2 hD2 hS dX7_init_112 ⟨_, g, rfl, hg, rfl⟩
