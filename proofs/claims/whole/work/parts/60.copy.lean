section XA
variable {p : Program} {l : Launch} {e : Env} {R : Room} {s : State} {m : MethodId} {args : Array Value} {below : List Frame} {meth : Method} {c : Code} {H : Heap} {locs : List Loc} {cells slots : Nat} {Q : State → Prop}
variable {own : String} {cc : ByteArray} {nL : Nat} {ret : Option FieldType} {pc : Nat} {ls : Array Slot} {rest : List Value}
variable {X : We} {V : Mem} {q r : Nat} {index : Nat} {lv : List (Nat × Value)}
theorem x_acp (E : Ev p s m meth c own cc nL args ret) (hI : GJ X s) (hG : GW X V H) (hS : va_S (wA X) s.heap H locs) (hl : lv_has ls nL lv) {k : Nat} (hq : At X q (.inl (0, k))) (hr : At X r (.inl (0, k))) (hlk : Cond.methodLink own index arraycopyName ∈ gT) (hR : 1 ≤ R.frames ∧ (rest.map fun v => v.category).sum + 18 ≤ R.locals) (hdg : decode cc pc = .ok (.invokestatic index, 3))
    (kk : ∀ (H1 : Heap) (locs1 : List Loc), GW X (sp V r (V q)) H1 → va_S (wA X) s.heap H1 locs1 → W p l e R s m args below meth c H1 locs1 cells slots Q (F0 m (pc + 3) ls rest)) : W p l e R s m args below meth c H locs cells slots Q (F0 m pc ls (.int (jI (k : Int)) :: .int (jI 0) :: .ref (wa X r) :: .int (jI 0) :: .ref (wa X q) :: rest)) := by
  have h := E.2.2.2.2.1
  have hn : k < 2147483648 := hI.2.2.1 q _ hq.1
  have e0 : (jI 0).toNatClampNeg = 0 := rfl
  have ek : (jI (k : Int)).toNatClampNeg = k := by rw [j_clamp (by omega) (by omega)]; omega
  have en : ¬ jI (k : Int) < 0 := by rw [← j_0, j_lt ⟨by omega, by omega⟩ rg_0]; omega
  refine va_copyi (D := wD X) (cl := vwCl) (ty := .int) (tys := wtys X) (A := wA X) E.1 E.2.1 (by rw [hl.1]; exact E.2.2.1) E.2.2.2.1 (h _ hlk) (h _ kv_acp) (h _ kt_acp) (h _ ki_J10) hI.1 hG (gw_D hI.2.1 V) hS q r 0 0 (GW.row hq (by decide)) (GW.row hr (by decide)) rfl rfl rfl (by decide) (by decide) en (by rw [e0, ek]; omega) (by rw [e0, ek]; omega) (fun i _ => rfl) hR.1 hR.2 hdg (fun H1 locs1 hP1 _ hS1 => kk H1 locs1 ?_ hS1)
  rw [e0, ek] at hP1
  have g1 : GW X (sp V r (fun j => if j < (k : Int) then V q j else V r j)) H1 := by
    rw [gw_set (V' := sp V r (fun j => if j < (k : Int) then V q j else V r j)) hr.2 (fun a ha => sp_n ha) (by
      rw [g_e_arr hr.1 (by decide)]
      congr 3
      congr 1
      funext j
      unfold va_cpy
      rw [sp_s]
      by_cases hj : j < k
      · rw [if_pos (by omega), if_pos (by omega)]; congr 2; omega
      · rw [if_neg (by omega), if_neg (by omega)])] at hP1
    exact hP1
  refine g1.ext (fun a j ha hj => ?_)
  by_cases e : a = r
  · subst e
    rw [hr.1] at hj
    rw [sp_s, sp_s, if_pos hj.2]
  · rw [sp_n e, sp_n e]
end XA
