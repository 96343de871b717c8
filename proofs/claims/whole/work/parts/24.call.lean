/-- an instance method's words -/
def MF (y : MethodName) (bytes : ByteArray) (maxL : Nat) (ret : Option FieldType) (n : Nat) : Prop := Cond.instanceMethod y ∈ gT ∧ Cond.selects y.cls y y ∈ gT ∧ Cond.initialized y.cls ∈ gT ∧ Cond.code y bytes maxL ret ∈ gT ∧ (y.cls ≠ "java/lang/invoke/MethodHandle" ∧ y.cls ≠ "java/lang/invoke/VarHandle" ∧ (parseMethodDescriptor y.desc).map (fun d => d.parameters.length) = some n)
/-- a static method's words -/
def MS (y : MethodName) (bytes : ByteArray) (maxL : Nat) (ret : Option FieldType) (n : Nat) : Prop := Cond.static y ∈ gT ∧ Cond.initialized y.cls ∈ gT ∧ Cond.code y bytes maxL ret ∈ gT ∧ (y.cls ≠ "java/lang/invoke/MethodHandle" ∧ y.cls ≠ "java/lang/invoke/VarHandle" ∧ (parseMethodDescriptor y.desc).map (fun d => d.parameters.length) = some n)
theorem gT_cons {w : Cond} (h : w ∈ gT) : ∀ v ∈ w :: gT, v ∈ gT := fun v hv => (List.mem_cons.mp hv).elim (fun e => e ▸ h) id
theorem MF.good {own : String} {index : Nat} {y : MethodName} {bytes : ByteArray} {maxL n : Nat} {ret : Option FieldType} (h : MF y bytes maxL ret n) (hl : Cond.methodLink own index y ∈ gT) : GoodIn gT (wsV own index y.cls y (.code y bytes maxL ret :: gT)) := by
  refine gT_in (fun _ h => h) (fun w hw => ?_)
  unfold wsV at hw
  rcases List.mem_append.mp hw with q | q
  · simp only [List.mem_cons, List.not_mem_nil, or_false] at q
    rcases q with rfl | rfl | rfl | rfl
    · exact hl
    · exact h.1
    · exact h.2.1
    · exact h.2.2.1
  · exact gT_cons h.2.2.2.1 w q
theorem MS.good {own : String} {index : Nat} {y : MethodName} {bytes : ByteArray} {maxL n : Nat} {ret : Option FieldType} (h : MS y bytes maxL ret n) (hl : Cond.methodLink own index y ∈ gT) : GoodIn gT (va_wsS own index y (.code y bytes maxL ret :: gT)) := by
  refine gT_in (fun _ h => h) (fun w hw => ?_)
  unfold va_wsS at hw
  rcases List.mem_append.mp hw with q | q
  · simp only [List.mem_cons, List.not_mem_nil, or_false] at q
    rcases q with rfl | rfl | rfl
    · exact hl
    · exact h.1
    · exact h.2.1
  · exact gT_cons h.2.2.1 w q
section XC
variable {p : Program} {l : Launch} {e : Env} {R : Room} {s : State} {m : MethodId} {args : Array Value} {below : List Frame} {meth : Method} {c : Code} {H : Heap} {locs : List Loc} {cells slots : Nat} {Q : State → Prop}
variable {own : String} {cc : ByteArray} {nL : Nat} {ret : Option FieldType} {pc : Nat} {ls : Array Slot} {rest : List Value}
variable {X : We} {V : Mem} {q : Nat} {y : MethodName} {bytes : ByteArray} {maxL n fr lo index : Nat} {rt : Option FieldType} {As st0 : List Value} {lv : List (Nat × Value)}
theorem x_runV (E : Ev p s m meth c own cc nL args ret) (hI : GJ X s) (hG : GW X V H) (hS : va_S (wA X) s.heap H locs) {ci : Nat} {fs : List (Option Nat)} (hT : At X q (.inr (ci, fs))) {C : String} {T : u_T} {ty : Nat → FieldType} {N : Nat} (cf : ClF ci C T ty N) (hC : C = y.cls) {Qc : Array Value → State → Outcome → State → Prop} (hM : Mt l X V y bytes maxL rt fr lo (.ref (wa X q) :: As) Qc) (mf : MF y bytes maxL rt n) (hlk : Cond.methodLink own index y ∈ gT) (hn : As.length = n) (hl : lv_has ls nL lv) (hst : st0 = As.reverse ++ .ref (wa X q) :: rest) (hw : (rest.map fun v => v.category).sum ≤ 8) (hR : fr + 1 ≤ R.frames ∧ 8 + (maxL + 11) + lo ≤ R.locals) (hf : cells ≤ R.cells ∧ slots ≤ R.slots) (hdg : decode cc pc = .ok (.invokevirtual index, 3)) :
    va_Run p l e R s m args below meth c H locs cells slots 0 0 (F0 m pc ls st0) rest (Qc (Value.ref (wa X q) :: As).toArray) (wA X) := by
  subst hC
  exact va_runV (As := As) (rest := rest) (C := y.cls) (n := n) ⟨E.1, E.2.1, E.2.2.1, E.2.2.2.1, E.2.2.2.2.1⟩ hM (cwV n E.2.2.2.2.1 (mf.good hlk) rfl rfl rfl ⟨rfl, mf.2.2.2.2⟩ hR) ⟨GI.blind, va_recv hI.1 hG (ci := ci) (q0 := q) cf.1 (GW.cell hT), fun U hU hW => ⟨rfl, GI.at hI hG hS hU hW⟩⟩ rfl hn hl.1 hst (lv_room (m := m) (pc := pc) (ls := ls) (rest := st0) hw) hdg hf
theorem x_runS (E : Ev p s m meth c own cc nL args ret) (hI : GJ X s) (hG : GW X V H) (hS : va_S (wA X) s.heap H locs) {Qc : Array Value → State → Outcome → State → Prop} (hM : Mt l X V y bytes maxL rt fr lo As Qc) (mf : MS y bytes maxL rt n) (hlk : Cond.methodLink own index y ∈ gT) (hn : As.length = n) (hl : lv_has ls nL lv) (hst : st0 = As.reverse ++ rest) (hw : (rest.map fun v => v.category).sum ≤ 8) (hR : fr + 1 ≤ R.frames ∧ 8 + (maxL + 11) + lo ≤ R.locals) (hf : cells ≤ R.cells ∧ slots ≤ R.slots) (hdg : decode cc pc = .ok (.invokestatic index, 3)) :
    va_Run p l e R s m args below meth c H locs cells slots 0 0 (F0 m pc ls st0) rest (Qc As.toArray) (wA X) :=
  va_runS (As := As) (rest := rest) (n := n) ⟨E.1, E.2.1, E.2.2.1, E.2.2.2.1, E.2.2.2.2.1⟩ hM (va_cwS n E.2.2.2.2.1 (mf.good hlk) rfl rfl rfl mf.2.2.2 hR) ⟨GI.blind, fun U hU hW => ⟨rfl, GI.at hI hG hS hU hW⟩⟩ rfl hn hl.1 hst (lv_room (m := m) (pc := pc) (ls := ls) (rest := st0) hw) hdg hf
theorem x_runSN (E : Ev p s m meth c own cc nL args ret) (hI : GJ X s) (hG : GW X V H) (hS : va_S (wA X) s.heap H locs) {Qc : Array Value → State → Outcome → State → Prop} (hM : Mt l X V y bytes maxL rt fr lo As Qc) (mf : MS y bytes maxL rt n) {host : String} (hlk : (own, index, y, host) ∈ zNest) (hn : As.length = n) (hl : lv_has ls nL lv) (hst : st0 = As.reverse ++ rest) (hw : (rest.map fun v => v.category).sum ≤ 8) (hR : fr + 1 ≤ R.frames ∧ 8 + (maxL + 11) + lo ≤ R.locals) (hf : cells ≤ R.cells ∧ slots ≤ R.slots) (hdg : decode cc pc = .ok (.invokestatic index, 3)) :
    va_Run p l e R s m args below meth c H locs cells slots 0 0 (F0 m pc ls st0) rest (Qc As.toArray) (wA X) :=
  va_runSN (As := As) (rest := rest) (n := n) (host := host) ⟨E.1, E.2.1, E.2.2.1, E.2.2.2.1, E.2.2.2.2.1⟩ hM ⟨va_cnB n E.2.2.2.2.1 (gT_in (fun _ h => h) (gT_cons mf.2.2.1)) rfl rfl rfl (hI.2.2.2.1.1 _ hlk) (E.2.2.2.2.1 _ mf.2.1) mf.2.2.2 hR, E.2.2.2.2.1 _ mf.1, trivial⟩ ⟨GI.blind, fun U hU hW => ⟨rfl, GI.at hI hG hS hU hW⟩⟩ rfl hn hl.1 hst (lv_room (m := m) (pc := pc) (ls := ls) (rest := st0) hw) hdg hf
theorem x_ci {a : Array Value} (hG : GW X V H) (hS : va_S (wA X) s.heap H locs) {post : Int → Mem → Prop} (hr : va_Run p l e R s m args below meth c H locs cells slots 0 0 (F0 m pc ls st0) rest (Qi X post a) (wA X))
    (kk : ∀ (z : Int) (V1 : Mem) (H1 : Heap) (locs1 : List Loc), post z V1 → GW X V1 H1 → va_S (wA X) s.heap H1 locs1 → W p l e R s m args below meth c H1 locs1 cells slots Q (F0 m (pc + 3) ls (.int (jI z) :: rest))) : W p l e R s m args below meth c H locs cells slots Q (F0 m pc ls st0) :=
  va_calli hr hS (fun _ _ h => h) (fun _ h => h) (fun r u t H1 locs1 ht hvm hw hB _ _ hS1 => by
    obtain ⟨z, rfl, hp⟩ := hw
    exact kk z u H1 locs1 hp (by rw [← ht]; exact hB) hS1)
theorem x_cv {a : Array Value} (hG : GW X V H) (hS : va_S (wA X) s.heap H locs) {post : Mem → Prop} (hr : va_Run p l e R s m args below meth c H locs cells slots 0 0 (F0 m pc ls st0) rest (Qv X post a) (wA X))
    (kk : ∀ (V1 : Mem) (H1 : Heap) (locs1 : List Loc), post V1 → GW X V1 H1 → va_S (wA X) s.heap H1 locs1 → W p l e R s m args below meth c H1 locs1 cells slots Q (F0 m (pc + 3) ls rest)) : W p l e R s m args below meth c H locs cells slots Q (F0 m pc ls st0) :=
  va_callv hr hS (fun _ _ h => h) (fun _ h => h) (fun u t H1 locs1 ht hvm hw hB _ _ hS1 => kk u H1 locs1 hw (by rw [← ht]; exact hB) hS1)
theorem x_min (E : Ev p s m meth c own cc nL args ret) (hl : lv_has ls nL lv) {a b : Int} (hlk : Cond.methodLink own index Lib.Math.min.name ∈ gT) (hR : 1 ≤ R.frames ∧ (rest.map fun v => v.category).sum + 13 ≤ R.locals) (hf : cells ≤ R.cells ∧ slots ≤ R.slots) (ha : rg a) (hb : rg b) (hdg : decode cc pc = .ok (.invokestatic index, 3))
    (kk : W p l e R s m args below meth c H locs cells slots Q (F0 m (pc + 3) ls (.int (jI (min a b)) :: rest))) : W p l e R s m args below meth c H locs cells slots Q (F0 m pc ls (.int (jI b) :: .int (jI a) :: rest)) := by
  have h := E.2.2.2.2.1
  refine va_mmin E.1 E.2.1 (by rw [hl.1]; exact E.2.2.1) E.2.2.2.1 (h _ hlk) (h _ kt_Mmin) (h _ ki_J9) (h _ kc_Mmin) hR.1 hR.2 hf.1 hf.2 hdg ?_
  have e : (if jI b < jI a then jI b else jI a) = jI (min a b) := by
    by_cases q : b < a
    · rw [if_pos ((j_lt hb ha).mpr q)]; congr 1; omega
    · rw [if_neg (fun z => q ((j_lt hb ha).mp z))]; congr 1; omega
  rw [e]; exact kk
theorem x_max (E : Ev p s m meth c own cc nL args ret) (hl : lv_has ls nL lv) {a b : Int} (hlk : Cond.methodLink own index Lib.Math.max.name ∈ gT) (hR : 1 ≤ R.frames ∧ (rest.map fun v => v.category).sum + 13 ≤ R.locals) (hf : cells ≤ R.cells ∧ slots ≤ R.slots) (ha : rg a) (hb : rg b) (hdg : decode cc pc = .ok (.invokestatic index, 3))
    (kk : W p l e R s m args below meth c H locs cells slots Q (F0 m (pc + 3) ls (.int (jI (max a b)) :: rest))) : W p l e R s m args below meth c H locs cells slots Q (F0 m pc ls (.int (jI b) :: .int (jI a) :: rest)) := by
  have h := E.2.2.2.2.1
  refine va_mmax E.1 E.2.1 (by rw [hl.1]; exact E.2.2.1) E.2.2.2.1 (h _ hlk) (h _ kt_Mmax) (h _ ki_J9) (h _ kc_Mmax) hR.1 hR.2 hf.1 hf.2 hdg ?_
  have e : (if jI a < jI b then jI b else jI a) = jI (max a b) := by
    by_cases q : a < b
    · rw [if_pos ((j_lt ha hb).mpr q)]; congr 1; omega
    · rw [if_neg (fun z => q ((j_lt ha hb).mp z))]; congr 1; omega
  rw [e]; exact kk
theorem x_abs (E : Ev p s m meth c own cc nL args ret) (hl : lv_has ls nL lv) {a : Int} (hlk : Cond.methodLink own index Lib.Math.abs.name ∈ gT) (hR : 1 ≤ R.frames ∧ (rest.map fun v => v.category).sum + 13 ≤ R.locals) (hf : cells ≤ R.cells ∧ slots ≤ R.slots) (ha : rg a) (hdg : decode cc pc = .ok (.invokestatic index, 3))
    (kk : W p l e R s m args below meth c H locs cells slots Q (F0 m (pc + 3) ls (.int (jI (if 0 ≤ a then a else -a)) :: rest))) : W p l e R s m args below meth c H locs cells slots Q (F0 m pc ls (.int (jI a) :: rest)) := by
  have h := E.2.2.2.2.1
  refine va_mabs E.1 E.2.1 (by rw [hl.1]; exact E.2.2.1) E.2.2.2.1 (h _ hlk) (h _ kt_Mabs) (h _ ki_J9) (h _ kc_Mabs) hR.1 hR.2 hf.1 hf.2 hdg ?_
  have e : (if 0 ≤ jI a then jI a else 0 - jI a) = jI (if 0 ≤ a then a else -a) := by
    by_cases q : 0 ≤ a
    · have h0 : (0 : Int32) ≤ jI a := (j_le rg_0 ha).mpr q
      rw [if_pos h0, if_pos q]
    · have h0 : ¬ (0 : Int32) ≤ jI a := fun z => q ((j_le rg_0 ha).mp z)
      rw [if_neg h0, if_neg q, ← j_0, j_sub]; congr 1; omega
  rw [e]; exact kk
end XC
/-- a loop, by a measure that falls -/
theorem x_lp {α : Type} (I : α → Prop) (μ : α → Nat) (Wh : α → Prop) (h : ∀ a, I a → (∀ b, I b → μ b < μ a → Wh b) → Wh a) : ∀ a, I a → Wh a := by
  have key : ∀ n a, μ a < n → I a → Wh a := by
    intro n
    induction n with
    | zero => intro a ha; omega
    | succ n ih => intro a ha hI; exact h a hI (fun b hb hlt => ih b (by omega) hb)
  exact fun a => key (μ a + 1) a (Nat.lt_succ_self _)
