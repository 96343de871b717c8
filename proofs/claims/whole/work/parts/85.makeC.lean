section AS
variable {p : Program} {l : Launch} {e : Env} {R : Room} {s : State} {m : MethodId} {args : Array Value} {below : List Frame} {meth : Method} {c : Code} {H : Heap} {locs : List Loc} {cells slots : Nat} {Q : State → Prop}
variable {own : String} {cc : ByteArray} {nL : Nat} {ret : Option FieldType} {pc : Nat} {ls : Array Slot} {rest : List Value}
variable {X : We} {V : Mem} {r : Nat} {index : Nat} {lv : List (Nat × Value)}
/-- a constant row is copied into a place -/
theorem x_acpS (E : Ev p s m meth c own cc nL args ret) (hI : GJ X s) (hG : GW X V H) (hS : va_S (wA X) s.heap H locs) (hl : lv_has ls nL lv) {t k : Nat} {f : Nat → Int32} (hk : k ≤ 1000) (hT : va_T .int t k (fun j => .int (f j)) (wA X) s s.heap) (hr : At X r (.inl (0, k))) (hlk : Cond.methodLink own index arraycopyName ∈ gT) (hR : 1 ≤ R.frames ∧ (rest.map fun v => v.category).sum + 18 ≤ R.locals) (hdg : decode cc pc = .ok (.invokestatic index, 3))
    (kk : ∀ (H1 : Heap) (locs1 : List Loc), GW X (sp V r (fun j => (f j.toNat).toInt)) H1 → va_S (wA X) s.heap H1 locs1 → W p l e R s m args below meth c H1 locs1 cells slots Q (F0 m (pc + 3) ls rest)) : W p l e R s m args below meth c H locs cells slots Q (F0 m pc ls (.int (jI (k : Int)) :: .int (jI 0) :: .ref (wa X r) :: .int (jI 0) :: .ref t :: rest)) := by
  have h := E.2.2.2.2.1
  have e0 : (jI 0).toNatClampNeg = 0 := rfl
  have i0 : (jI 0).toInt = 0 := rfl
  have ek : (jI (k : Int)).toNatClampNeg = k := by rw [j_clamp (by omega) (by omega)]; omega
  have ik : (jI (k : Int)).toInt = (k : Int) := j_toInt ⟨by omega, by omega⟩
  have n0 : ¬ jI 0 < 0 := by decide
  have nk : ¬ jI (k : Int) < 0 := by rw [← j_0, j_lt ⟨by omega, by omega⟩ rg_0]; omega
  obtain ⟨cs, s1, s2, s3, s4, -, s6, s7⟩ := hT
  intro T hT2 S
  have hsrc : H[t]? = some cs := by rw [hS.2.1 t (Array.getElem?_eq_some_iff.mp s1).1 s7]; exact s1
  have hrow := GW.row (V := V) hr (by decide)
  have hdst : H[wa X r]? = some (vp_cell (wC X 0) (k, .inl (fun j => jI (V r (j : Int))))) := hG r _ hrow
  obtain ⟨u1, kS, u2, cS, u3⟩ := s2
  obtain ⟨-, kD, v2, cD, v3⟩ := (hI.1.2 0 (wC X 0, .int) rfl).1 k (fun j => .int (jI (V r (j : Int))))
  have e1 : copied cs (vp_cell (wC X 0) (k, .inl (fun j => jI (V r (j : Int))))) (jI 0) (jI 0) (jI (k : Int)) = vp_cell (wC X 0) (k, .inl (va_cpy f (fun j => jI (V r (j : Int))) (jI 0).toNatClampNeg (jI 0).toNatClampNeg (jI (k : Int)).toNatClampNeg)) := va_copiedX (fun z => .int z) cs (wC X 0) f (fun j => jI (V r (j : Int))) s6 (by rw [e0, ek]; omega)
  obtain ⟨vm', S', step⟩ := S.arraycopy E.1 E.2.2.2.1 (h _ hlk) (h _ kv_acp) (h _ kt_acp) (h _ ki_J10) (src := t) (dst := wa X r) (cs := cs) (cd := vp_cell (wC X 0) (k, .inl (fun j => jI (V r (j : Int))))) (srcPos := jI 0) (destPos := jI 0) (n := jI (k : Int)) (by rw [hT2]; exact hsrc) (by rw [hT2]; exact hdst) u1 (fun _ q => by cases q) s3 (fun q => by cases q) u2 v2 u3 v3 (by simp [refKind]) n0 n0 nk
    (by rw [i0, ik]; omega) (by rw [i0, ik]; show ¬ _ > ((arrV (wC X 0) k (fun j => .int (jI (V r (j : Int))))).slots.size : Int); rw [arrV_size]; omega)
    (fun _ _ i hi => by
      have hi2 : i < k := by rw [ek] at hi; exact hi
      have q : cs.slots.getD ((jI 0).toNatClampNeg + i) .null = .int (f i) := by
        rw [e0, Nat.zero_add, Array.getD_eq_getD_getElem?, s6 i hi2]; rfl
      rw [q]; exact ⟨rfl, trivial⟩)
    (g := F0 m pc ls (.int (jI (k : Int)) :: .int (jI 0) :: .ref (wa X r) :: .int (jI 0) :: .ref t :: rest)) rfl (by rw [E.2.2.1]; exact hl.1) (rest := rest) rfl (by rw [E.2.1]; exact hdg) hR.1 (by have := hR.2; show 2 * 0 + _ + _ ≤ _; show _ + 18 ≤ _; omega)
  rw [e1] at S' step
  have hlt : wa X r < H.size := (Array.getElem?_eq_some_iff.mp hdst).1
  have oq : ∀ q : Nat, q ≠ wa X r → (H.setIfInBounds (wa X r) (vp_cell (wC X 0) (k, .inl (va_cpy f (fun j => jI (V r (j : Int))) (jI 0).toNatClampNeg (jI 0).toNatClampNeg (jI (k : Int)).toNatClampNeg))))[q]? = H[q]? := fun q hq => by simp [Array.getElem?_setIfInBounds, Ne.symm hq]
  have hAr : wA X (wa X r) := hI.2.1.2 r hr.2
  have hG1 : va_P (wD X) vwCl ((gw X V).set r (wa X r, .inl (wC X 0, k, .inl (va_cpy f (fun j => jI (V r (j : Int))) (jI 0).toNatClampNeg (jI 0).toNatClampNeg (jI (k : Int)).toNatClampNeg)))) _ := va_P.set hG (gw_D hI.2.1 V) hrow (show (H.setIfInBounds (wa X r) _)[wa X r]? = some _ by simp [Array.getElem?_setIfInBounds, hlt]) oq
  have hG2 : GW X (sp V r (fun j => (f j.toNat).toInt)) (H.setIfInBounds (wa X r) (vp_cell (wC X 0) (k, .inl (va_cpy f (fun j => jI (V r (j : Int))) (jI 0).toNatClampNeg (jI 0).toNatClampNeg (jI (k : Int)).toNatClampNeg)))) := by
    have g1 : GW X (sp V r (fun j => if j < (k : Int) then (f j.toNat).toInt else V r j)) (H.setIfInBounds (wa X r) (vp_cell (wC X 0) (k, .inl (va_cpy f (fun j => jI (V r (j : Int))) (jI 0).toNatClampNeg (jI 0).toNatClampNeg (jI (k : Int)).toNatClampNeg)))) := by
      rw [gw_set (V' := sp V r (fun j => if j < (k : Int) then (f j.toNat).toInt else V r j)) hr.2 (fun a ha => sp_n ha) (by
        rw [g_e_arr hr.1 (by decide)]
        congr 3
        congr 1
        funext j
        unfold va_cpy
        rw [sp_s, e0, ek]
        by_cases hj : j < k
        · rw [if_pos (by omega), if_pos (by omega), j_of]; congr 1; omega
        · rw [if_neg (by omega), if_neg (by omega)])] at hG1
      exact hG1
    refine g1.ext (fun a j ha hj => ?_)
    by_cases q : a = r
    · subst q
      rw [hr.1] at hj
      rw [sp_s, sp_s, if_pos hj.2]
    · rw [sp_n q, sp_n q]
  obtain ⟨t2, a1, b1⟩ := kk _ _ hG2 ⟨by simp; exact hS.1, fun q g1 g2 => by
      rw [oq q (fun z => g2 (by rw [z]; exact hAr))]
      exact hS.2.1 q g1 g2, fun q hq => by
      rcases List.mem_append.mp hq with z | z
      · exact hS.2.2 q z
      · obtain ⟨y, -, hy⟩ := List.mem_map.mp z
        rw [← hy]; exact hAr⟩ _ (by rw [← hT2]; rfl) S'
  exact ⟨t2, step t2 a1, b1⟩
end AS
def frF : Int → Int := fun j => (([2, 60, 40, 2, 2] : List Int32).getD j.toNat 0).toInt
theorem zFR_eq : zFR = fun j => .int (([2, 60, 40, 2, 2] : List Int32).getD j 0) := rfl

set_option maxHeartbeats 4000000 in
set_option maxRecDepth 100000 in
theorem c_X7_copyRowS (l : Launch) {X : We} (V : Mem) {r : Nat} (hr : At X r (.inl (0, 5))) : Mt l X V yX7_copyRow cX7_copyRow 2 none 1 48 [.ref (wz X 1), .ref (wa X r)] (Qv X (fun V1 => V1 = sp V r frF)) := by
  refine Mt.go (by decide) (Nat.le_of_ble_eq_true rfl) ?_
  intro pg ev s0 mi bl mt cd ls Rm ag Qq hR hQ E hI hG hS hl
  have hl : lv_has ls 2 [(0, .ref (wz X 1)), (1, .ref (wa X r))] := hl
  obtain ⟨-, -, -, -, z5, z6, -⟩ := id hI.2.2.2.1
  refine x_aload_n E dX7_copyRow_0 (lv_at hl 0 rfl) ?_
  refine x_iconst E dX7_copyRow_1 ?_
  refine x_aload_n E dX7_copyRow_2 (lv_at hl 1 rfl) ?_
  refine x_iconst E dX7_copyRow_3 ?_
  refine x_aload_n E dX7_copyRow_4 (lv_at hl 0 rfl) ?_
  refine x_tlen E z6 hS dX7_copyRow_5 ?_
  refine x_aload_n E dX7_copyRow_6 (lv_at hl 1 rfl) ?_
  refine x_alen E hI hG hr (by decide) dX7_copyRow_7 ?_
  refine x_min E hl km_X7_190 (by rw [hR]; exact ⟨Nat.le_of_ble_eq_true rfl, Nat.le_of_ble_eq_true rfl⟩) ⟨Nat.zero_le _, Nat.zero_le _⟩ (by unfold rg; omega) (by unfold rg; omega) dX7_copyRow_8 ?_
  refine x_topeq ((5 : Nat) : Int) (by decide) ?_
  refine x_acpS E hI hG hS hl (by decide) z6 hr km_X7_198 (by rw [hR]; exact ⟨Nat.le_of_ble_eq_true rfl, Nat.le_of_ble_eq_true rfl⟩) dX7_copyRow_11 (fun H locs hG hS => ?_)
  exact r_v E hQ hG hS dX7_copyRow_14 rfl
