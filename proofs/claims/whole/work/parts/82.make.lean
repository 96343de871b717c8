/-! ===== making: cells come one by one ===== -/
def tyC (C : Nat → ClassId) : List (ClassId × FieldType) := [(C 0, .int), (C 1, .byte), (C 2, .boolean), (C 3, .long)]
/-- a maker's contract: from the cells ws to a world of its own -/
def Cs (l : Launch) (D : va_G) (C : Nat → ClassId) (z : Nat → Nat) (y : MethodName) (cc : ByteArray) (nL fr ce sl lo : Nat) (av : List Value) (ws : va_W) (post : va_W → Prop) : Prop :=
  ∀ sz : Nat, Met l y (.code y cc nL none :: gT) ({ frames := fr, cells := ce, slots := sl, locals := lo }) (va_Pc av (fun U => U.heap.size = sz ∧ va_P D vwCl ws U.heap ∧ va_K D vwCl (tyC C) U ∧ va_D (fun _ => True) ws ∧ ZF z (va_A ws sz) U U.heap)) (va_Qv (S := va_W) post (fun w t => va_P D vwCl w t.heap ∧ va_D (va_A ws sz) w) (va_A ws sz)) ce sl (va_A ws sz)
theorem Cs.go {l : Launch} {D : va_G} {C : Nat → ClassId} {z : Nat → Nat} {y : MethodName} {cc : ByteArray} {nL fr ce sl lo : Nat} {av : List Value} {ws : va_W} {post : va_W → Prop} (hy : plainName y.cls = true) (hyn : y.name = "<init>") (hn : (lg_sl av).length ≤ nL)
    (body : ∀ (p : Program) (e : Env) (s : State) (m : MethodId) (below : List Frame) (meth : Method) (c : Code) (ls : Array Slot) (R : Room) (args : Array Value) (Q : State → Prop) (A : Nat → Prop), R = ({ frames := fr, cells := ce, slots := sl, locals := lo } : Room) → Q = MQ below (va_Qv (S := va_W) post (fun w t => va_P D vwCl w t.heap ∧ va_D A w) A) args s ce sl A → Ev p s m meth c y.cls cc nL args none → meth.name = "<init>" → va_K D vwCl (tyC C) s → ZF z A s s.heap → va_P D vwCl ws s.heap → va_D A ws → va_S A s.heap s.heap [] → (∀ q, s.heap.size ≤ q → A q) → lv_has ls nL (lv_args 0 av) →
      W p l e R s m args below meth c s.heap [] 0 0 Q (F0 m 0 ls [])) : Cs l D C z y cc nL fr ce sl lo av ws post := by
  intro sz
  refine Met.ofW (cc := cc) (maxL := nL) (ret := none) hy rfl ?_
  intro p e s m args below meth c s₁ B hml hv
  obtain ⟨rfl, hsz, hP, hK, hD, hZ⟩ := hv
  subst hsz
  have hts := atoms_spec (ws := .code y cc nL none :: gT) B.pre
  have hown : s.vm.findClass y.cls = some m.cls := findClass_of_methodNamed B.named
  have hin : meth.name = "<init>" := (name_of_methodNamed B.named B.method).1.trans hyn
  rw [lg_entry_eq]
  exact body p e s m below meth c _ _ _ _ (va_A ws s.heap.size) rfl rfl ⟨B.exec, B.bytes, hml, hown, fun w hw => hts w (List.mem_cons_of_mem _ hw), B.returns, B.notSynchronized⟩ hin hK hZ hP hD.self va_S.rf (fun q h => Or.inr h) (lv_entry av hn)
section MK
variable {p : Program} {l : Launch} {e : Env} {R : Room} {s : State} {m : MethodId} {args : Array Value} {below : List Frame} {meth : Method} {c : Code} {H : Heap} {locs : List Loc} {cells slots : Nat} {Q : State → Prop}
variable {own : String} {cc : ByteArray} {nL : Nat} {ret : Option FieldType} {pc : Nat} {ls : Array Slot} {rest : List Value}
variable {D : va_G} {C : Nat → ClassId} {A : Nat → Prop} {ws tl : va_W} {h : Nat}
theorem n_newI (E : Ev p s m meth c own cc nL args ret) (K : va_K D vwCl (tyC C) s) (hP : va_P D vwCl ws H) (hD : va_D A ws) (hS : va_S A s.heap H locs) (hA : ∀ q, s.heap.size ≤ q → A q) {z : Int} (N : Nat) (hz : z = (N : Int)) (hN : N ≤ 100000) (hc : cells + 1 ≤ R.cells) (hs : slots + N ≤ R.slots) (hdg : decode cc pc = .ok (.newarray .int, 2))
    (kk : ∀ (q : Nat) (H1 : Heap), va_P D vwCl (ws ++ [(q, .inl (C 0, N, .inl (fun _ => jI 0)))]) H1 → va_D A (ws ++ [(q, .inl (C 0, N, .inl (fun _ => jI 0)))]) → va_S A s.heap H1 locs → W p l e R s m args below meth c H1 locs (cells + 1) (slots + N) Q (F0 m (pc + 2) ls (.ref q :: rest))) : W p l e R s m args below meth c H locs cells slots Q (F0 m pc ls (.int (jI z) :: rest)) := by
  subst hz
  refine va_newa (atype := .int) (ty := .int) (a0 := (N, .inl (fun _ => jI 0))) E.1 E.2.1 (E.2.2.2.2.1 _ ka_int) rfl K hP hD hS hA (fun _ => rfl) (by rw [← j_0, j_lt ⟨by omega, by omega⟩ rg_0]; omega) (by rw [j_clamp (by omega) (by omega)]; omega) (by show N * 4 ≤ _; omega) hc hs hdg (fun q cA H1 K1 hP1 hD1 hS1 => ?_)
  have e1 : s.vm.findClass ("[" ++ FieldType.int.toString) = some cA := (K1.2 4 (cA, .int) rfl).2
  have e2 : s.vm.findClass ("[" ++ FieldType.int.toString) = some (C 0) := (K.2 0 (C 0, .int) rfl).2
  have e3 : cA = C 0 := Option.some.inj (e1.symm.trans e2)
  subst e3
  exact kk q H1 hP1 hD1 hS1
theorem n_newB (E : Ev p s m meth c own cc nL args ret) (K : va_K D vwCl (tyC C) s) (hP : va_P D vwCl ws H) (hD : va_D A ws) (hS : va_S A s.heap H locs) (hA : ∀ q, s.heap.size ≤ q → A q) {z : Int} (N : Nat) (hz : z = (N : Int)) (hN : N ≤ 100000) (hc : cells + 1 ≤ R.cells) (hs : slots + N ≤ R.slots) (hdg : decode cc pc = .ok (.newarray .byte, 2))
    (kk : ∀ (q : Nat) (H1 : Heap), va_P D vwCl (ws ++ [(q, .inl (C 1, N, .inl (fun _ => jI 0)))]) H1 → va_D A (ws ++ [(q, .inl (C 1, N, .inl (fun _ => jI 0)))]) → va_S A s.heap H1 locs → W p l e R s m args below meth c H1 locs (cells + 1) (slots + N) Q (F0 m (pc + 2) ls (.ref q :: rest))) : W p l e R s m args below meth c H locs cells slots Q (F0 m pc ls (.int (jI z) :: rest)) := by
  subst hz
  refine va_newa (atype := .byte) (ty := .byte) (a0 := (N, .inl (fun _ => jI 0))) E.1 E.2.1 (E.2.2.2.2.1 _ ka_byte) rfl K hP hD hS hA (fun _ => rfl) (by rw [← j_0, j_lt ⟨by omega, by omega⟩ rg_0]; omega) (by rw [j_clamp (by omega) (by omega)]; omega) (by show N * 1 ≤ _; omega) hc hs hdg (fun q cA H1 K1 hP1 hD1 hS1 => ?_)
  have e1 : s.vm.findClass ("[" ++ FieldType.byte.toString) = some cA := (K1.2 4 (cA, .byte) rfl).2
  have e2 : s.vm.findClass ("[" ++ FieldType.byte.toString) = some (C 1) := (K.2 1 (C 1, .byte) rfl).2
  have e3 : cA = C 1 := Option.some.inj (e1.symm.trans e2)
  subst e3
  exact kk q H1 hP1 hD1 hS1
theorem n_newZ (E : Ev p s m meth c own cc nL args ret) (K : va_K D vwCl (tyC C) s) (hP : va_P D vwCl ws H) (hD : va_D A ws) (hS : va_S A s.heap H locs) (hA : ∀ q, s.heap.size ≤ q → A q) {z : Int} (N : Nat) (hz : z = (N : Int)) (hN : N ≤ 100000) (hc : cells + 1 ≤ R.cells) (hs : slots + N ≤ R.slots) (hdg : decode cc pc = .ok (.newarray .boolean, 2))
    (kk : ∀ (q : Nat) (H1 : Heap), va_P D vwCl (ws ++ [(q, .inl (C 2, N, .inl (fun _ => jI 0)))]) H1 → va_D A (ws ++ [(q, .inl (C 2, N, .inl (fun _ => jI 0)))]) → va_S A s.heap H1 locs → W p l e R s m args below meth c H1 locs (cells + 1) (slots + N) Q (F0 m (pc + 2) ls (.ref q :: rest))) : W p l e R s m args below meth c H locs cells slots Q (F0 m pc ls (.int (jI z) :: rest)) := by
  subst hz
  refine va_newa (atype := .boolean) (ty := .boolean) (a0 := (N, .inl (fun _ => jI 0))) E.1 E.2.1 (E.2.2.2.2.1 _ ka_boolean) rfl K hP hD hS hA (fun _ => rfl) (by rw [← j_0, j_lt ⟨by omega, by omega⟩ rg_0]; omega) (by rw [j_clamp (by omega) (by omega)]; omega) (by show N * 1 ≤ _; omega) hc hs hdg (fun q cA H1 K1 hP1 hD1 hS1 => ?_)
  have e1 : s.vm.findClass ("[" ++ FieldType.boolean.toString) = some cA := (K1.2 4 (cA, .boolean) rfl).2
  have e2 : s.vm.findClass ("[" ++ FieldType.boolean.toString) = some (C 2) := (K.2 2 (C 2, .boolean) rfl).2
  have e3 : cA = C 2 := Option.some.inj (e1.symm.trans e2)
  subst e3
  exact kk q H1 hP1 hD1 hS1
theorem n_newL (E : Ev p s m meth c own cc nL args ret) (K : va_K D vwCl (tyC C) s) (hP : va_P D vwCl ws H) (hD : va_D A ws) (hS : va_S A s.heap H locs) (hA : ∀ q, s.heap.size ≤ q → A q) {z : Int} (N : Nat) (hz : z = (N : Int)) (hN : N ≤ 100000) (hc : cells + 1 ≤ R.cells) (hs : slots + N ≤ R.slots) (hdg : decode cc pc = .ok (.newarray .long, 2))
    (kk : ∀ (q : Nat) (H1 : Heap), va_P D vwCl (ws ++ [(q, .inl (C 3, N, .inr (.inl (fun _ => lI 0))))]) H1 → va_D A (ws ++ [(q, .inl (C 3, N, .inr (.inl (fun _ => lI 0))))]) → va_S A s.heap H1 locs → W p l e R s m args below meth c H1 locs (cells + 1) (slots + N) Q (F0 m (pc + 2) ls (.ref q :: rest))) : W p l e R s m args below meth c H locs cells slots Q (F0 m pc ls (.int (jI z) :: rest)) := by
  subst hz
  refine va_newa (atype := .long) (ty := .long) (a0 := (N, .inr (.inl (fun _ => lI 0)))) E.1 E.2.1 (E.2.2.2.2.1 _ ka_long) rfl K hP hD hS hA (fun _ => rfl) (by rw [← j_0, j_lt ⟨by omega, by omega⟩ rg_0]; omega) (by rw [j_clamp (by omega) (by omega)]; omega) (by show N * 8 ≤ _; omega) hc hs hdg (fun q cA H1 K1 hP1 hD1 hS1 => ?_)
  have e1 : s.vm.findClass ("[" ++ FieldType.long.toString) = some cA := (K1.2 4 (cA, .long) rfl).2
  have e2 : s.vm.findClass ("[" ++ FieldType.long.toString) = some (C 3) := (K.2 3 (C 3, .long) rfl).2
  have e3 : cA = C 3 := Option.some.inj (e1.symm.trans e2)
  subst e3
  exact kk q H1 hP1 hD1 hS1
/-- a final field of the cell ahead -/
theorem n_putF (E : Ev p s m meth c own cc nL args ret) (hin : meth.name = "<init>") (K : va_K D vwCl (tyC C) s) {ci : Nat} {fs : List Value} (hP : va_P D vwCl ((h, .inr (ci, fs)) :: tl) H) (hD : va_D A ((h, .inr (ci, fs)) :: tl)) (hS : va_S A s.heap H locs) {Cn : String} {T : u_T} {ty : Nat → FieldType} {N : Nat} (cf : ClF ci Cn T ty N) (k : Nat) (hk : k < N) (hfin : (T k).2.2.2 = true) (hdecl : (T k).1 = own) {v : Value} (hn : narrow (ty k) v = v) (hfit : fits (ty k) v = true) (hl : k < fs.length) {index : Nat} (hlk : Cond.fieldLink own index (T k).1 (T k).2.1 (T k).2.2.1 ∈ gT) (hdg : decode cc pc = .ok (.putfield index, 3))
    (kk : ∀ (H1 : Heap) (locs1 : List Loc), va_P D vwCl ((h, .inr (ci, fs.set k v)) :: tl) H1 → va_D A ((h, .inr (ci, fs.set k v)) :: tl) → va_S A s.heap H1 locs1 → W p l e R s m args below meth c H1 locs1 cells slots Q (F0 m (pc + 3) ls rest)) : W p l e R s m args below meth c H locs cells slots Q (F0 m pc ls (v :: .ref h :: rest)) :=
  va_putF (C := Cn) (T := T) (N := N) (ci := ci) (ty := ty k) E.1 E.2.1 E.2.2.2.2.1 cf.2.1 ty cf.2.2.1 cf.2.2.2 E.2.2.2.1 K hP hD hS 0 rfl cf.1 k hk (E.2.2.2.2.1 _ hlk) (fun _ h => h) hfin hin hdecl (cf.2.2.1 k hk) hn hfit hl hdg kk
theorem n_putV (E : Ev p s m meth c own cc nL args ret) (K : va_K D vwCl (tyC C) s) {ci : Nat} {fs : List Value} (hP : va_P D vwCl ((h, .inr (ci, fs)) :: tl) H) (hD : va_D A ((h, .inr (ci, fs)) :: tl)) (hS : va_S A s.heap H locs) {Cn : String} {T : u_T} {ty : Nat → FieldType} {N : Nat} (cf : ClF ci Cn T ty N) (k : Nat) (hk : k < N) (hfin : (T k).2.2.2 = false) {v : Value} (hn : narrow (ty k) v = v) (hfit : fits (ty k) v = true) (hl : k < fs.length) {index : Nat} (hlk : Cond.fieldLink own index (T k).1 (T k).2.1 (T k).2.2.1 ∈ gT) (hdg : decode cc pc = .ok (.putfield index, 3))
    (kk : ∀ (H1 : Heap) (locs1 : List Loc), va_P D vwCl ((h, .inr (ci, fs.set k v)) :: tl) H1 → va_D A ((h, .inr (ci, fs.set k v)) :: tl) → va_S A s.heap H1 locs1 → W p l e R s m args below meth c H1 locs1 cells slots Q (F0 m (pc + 3) ls rest)) : W p l e R s m args below meth c H locs cells slots Q (F0 m pc ls (v :: .ref h :: rest)) :=
  va_put (C := Cn) (T := T) (N := N) (ci := ci) (ty := ty k) E.1 E.2.1 E.2.2.2.2.1 cf.2.1 ty cf.2.2.1 cf.2.2.2 E.2.2.2.1 K hP hD hS 0 rfl cf.1 k hk (E.2.2.2.2.1 _ hlk) (fun _ h => h) hfin (cf.2.2.1 k hk) hn hfit hl hdg kk
theorem n_get (E : Ev p s m meth c own cc nL args ret) (K : va_K D vwCl (tyC C) s) (hP : va_P D vwCl ws H) (i : Nat) {a ci : Nat} {fs : List Value} (he : ws[i]? = some (a, .inr (ci, fs))) {Cn : String} {T : u_T} {ty : Nat → FieldType} {N : Nat} (cf : ClF ci Cn T ty N) (k : Nat) (hk : k < N) {v : Value} (hv : fs[k]? = some v) {index : Nat} (hlk : Cond.fieldLink own index (T k).1 (T k).2.1 (T k).2.2.1 ∈ gT) (hdg : decode cc pc = .ok (.getfield index, 3))
    (kk : W p l e R s m args below meth c H locs cells slots Q (F0 m (pc + 3) ls (v :: rest))) : W p l e R s m args below meth c H locs cells slots Q (F0 m pc ls (.ref a :: rest)) :=
  va_get (C := Cn) (T := T) (N := N) (ci := ci) E.1 E.2.1 E.2.2.2.2.1 cf.2.1 E.2.2.2.1 K hP i he cf.1 k hk (E.2.2.2.2.1 _ hlk) (fun _ h => h) hv hdg kk
theorem n_new (E : Ev p s m meth c own cc nL args ret) (K : va_K D vwCl (tyC C) s) (hP : va_P D vwCl ws H) (hD : va_D A ws) (hS : va_S A s.heap H locs) (hA : ∀ q, s.heap.size ≤ q → A q) {ci : Nat} {Cn : String} {T : u_T} {ty : Nat → FieldType} {N : Nat} (cf : ClF ci Cn T ty N) {index : Nat} (hcl : Cond.classLink own index Cn ∈ gT) (hi : Cond.instantiable Cn N ∈ gT) (hini : Cond.initialized Cn ∈ gT) (fs : List Value) (hfs : ∀ j, j < N → defaultValue (ty j) = vp_V fs j) (hc : cells + 1 ≤ R.cells) (hs : slots + N ≤ R.slots) (hdg : decode cc pc = .ok (.new index, 3))
    (kk : ∀ (q : Nat) (H1 : Heap), va_P D vwCl (ws ++ [(q, .inr (ci, fs))]) H1 → va_D A (ws ++ [(q, .inr (ci, fs))]) → va_S A s.heap H1 locs → W p l e R s m args below meth c H1 locs (cells + 1) (slots + N) Q (F0 m (pc + 3) ls (.ref q :: rest))) : W p l e R s m args below meth c H locs cells slots Q (F0 m pc ls rest) :=
  va_new (ci := ci) (C := Cn) (T := T) (N := N) E.1 E.2.1 E.2.2.2.2.1 cf.2.1 ty cf.2.2.1 E.2.2.2.1 (E.2.2.2.2.1 _ hcl) (E.2.2.2.2.1 _ hi) (E.2.2.2.2.1 _ hini) K hP hD hS hA cf.1 hfs hc hs hdg kk
theorem n_obj (E : Ev p s m meth c own cc nL args ret) {lv : List (Nat × Value)} (hl : lv_has ls nL lv) {index : Nat} {v : Value} (hlk : Cond.methodLink own index objectInit ∈ gT) (hdg : decode cc pc = .ok (.invokespecial index, 3)) (hR : 1 ≤ R.frames ∧ 12 ≤ R.locals) (hv : ∃ a, v = .ref a)
    (kk : W p l e R s m args below meth c H locs cells slots Q (F0 m (pc + 3) ls [])) : W p l e R s m args below meth c H locs cells slots Q (F0 m pc ls [v]) := by
  obtain ⟨a, rfl⟩ := hv
  refine W.objInit E.1 E.2.1 E.2.2.2.1 (E.2.2.2.2.1 _ hlk) (E.2.2.2.2.1 _ kn_Obj) (E.2.2.2.2.1 _ kc_Obj) rfl (by rw [E.2.2.1]; exact hl.1) rfl hdg hR.1 hR.2 ?_
  exact W.eq (g2 := F0 m (pc + 3) ls []) rfl kk
/-- the end -/
theorem n_ret {w : va_W} {post : va_W → Prop} (E : Ev p s m meth c own cc nL args none) (hQ : Q = MQ below (va_Qv (S := va_W) post (fun w t => va_P D vwCl w t.heap ∧ va_D A w) A) args s cells slots A) (hP : va_P D vwCl w H) (hD : va_D A w) (hS : va_S A s.heap H locs) (hdg : decode cc pc = .ok (.return_, 1)) (hp : post w) : W p l e R s m args below meth c H locs cells slots Q (F0 m pc ls []) := by
  subst hQ
  exact W.vret E.1 E.2.1 E.2.2.2.2.2.1 (fun t ht hW => ⟨⟨w, rfl, hp, by rw [ht]; exact hP, hD⟩, hS.F ht⟩) hS.2.2 hdg E.2.2.2.2.2.2
/-- what is told of a maker -/
def MI (y : MethodName) (bytes : ByteArray) (maxL n : Nat) : Prop := Cond.instanceMethod y ∈ gT ∧ Cond.initialized y.cls ∈ gT ∧ Cond.code y bytes maxL none ∈ gT ∧ y.name = "<init>" ∧ (y.cls ≠ "java/lang/invoke/MethodHandle" ∧ y.cls ≠ "java/lang/invoke/VarHandle" ∧ (parseMethodDescriptor y.desc).map (fun d => d.parameters.length) = some n)
/-- behind a maker's call: what it made comes after the rest -/
theorem n_joinL {wc w : va_W} {H1 : Heap} (hP : va_P D vwCl (tl ++ wc) H) (hD : va_D A (tl ++ wc)) (hF : ∀ q, va_A wc H.size q → A q) (hk : ∀ q : Nat, q < H.size → ¬ va_A wc H.size q → H1[q]? = H[q]?) (hP1 : va_P D vwCl w H1) (hD1 : va_D (va_A wc H.size) w) : va_P D vwCl (tl ++ w) H1 ∧ va_D A (tl ++ w) := by
  have apart : ∀ (k : Nat) (q : Nat × va_E), tl[k]? = some q → q.1 < H.size ∧ ¬ va_A wc H.size q.1 := by
    intro k q hq
    have hkl : k < tl.length := (List.getElem?_eq_some_iff.mp hq).1
    have h2 : (tl ++ wc)[k]? = some q := by rw [List.getElem?_append_left hkl]; exact hq
    have hl := (hP k q h2).lt
    refine ⟨hl, fun h => ?_⟩
    rcases h with ⟨k2, e, h⟩ | h
    · have h4 : (tl ++ wc)[tl.length + k2]? = some (q.1, e) := by rw [List.getElem?_append_right (by omega), Nat.add_sub_cancel_left]; exact h
      have := hD.1 k (tl.length + k2) q (q.1, e) h2 h4 rfl
      omega
    · omega
  have hDt : va_D A tl := ⟨fun i j a b hi hj e => by
      have hil : i < tl.length := (List.getElem?_eq_some_iff.mp hi).1
      have hjl : j < tl.length := (List.getElem?_eq_some_iff.mp hj).1
      exact hD.1 i j a b (by rw [List.getElem?_append_left hil]; exact hi) (by rw [List.getElem?_append_left hjl]; exact hj) e, fun k q hk => by
      have hkl : k < tl.length := (List.getElem?_eq_some_iff.mp hk).1
      exact hD.2 k q (by rw [List.getElem?_append_left hkl]; exact hk)⟩
  refine ⟨va_P.app (fun k q hq => ?_) hP1, va_D.app hDt (hD1.weaken (fun k q _ h => hF q.1 h)) (fun i j x y hx hy hxy => ?_)⟩
  · obtain ⟨g1, g2⟩ := apart k q hq
    have hkl : k < tl.length := (List.getElem?_eq_some_iff.mp hq).1
    exact (hP k q (by rw [List.getElem?_append_left hkl]; exact hq)).kept (hk q.1 g1 g2)
  · exact (apart i x hx).2 (by rw [hxy]; exact hD1.2 j y hy)
theorem n_cut {wc : va_W} (hP : va_P D vwCl (tl ++ wc) H) (hD : va_D A (tl ++ wc)) (hS : va_S A s.heap H locs) (hA : ∀ q, s.heap.size ≤ q → A q) : va_P D vwCl wc H ∧ va_D A wc ∧ ∀ q, va_A wc H.size q → A q := by
  have at' : ∀ (k : Nat) (q : Nat × va_E), wc[k]? = some q → (tl ++ wc)[tl.length + k]? = some q := fun k q hq => by rw [List.getElem?_append_right (by omega), Nat.add_sub_cancel_left]; exact hq
  refine ⟨fun k q hq => hP _ q (at' k q hq), ⟨fun i j a b hi hj e => by have := hD.1 _ _ a b (at' i a hi) (at' j b hj) e; omega, fun k q hk => hD.2 _ q (at' k q hk)⟩, fun q h => ?_⟩
  rcases h with ⟨k, e, h⟩ | h
  · exact hD.2 _ _ (at' k _ h)
  · exact hA q (Nat.le_trans hS.1 h)
/-- a maker is called: over the last cells -/
theorem n_call {b : Nat} {As : List Value} {wc : va_W} {z : Nat → Nat} {y : MethodName} {bytes : ByteArray} {maxL n fr ce sl lo index : Nat} {st0 : List Value} {lv : List (Nat × Value)} {post : va_W → Prop} (E : Ev p s m meth c own cc nL args ret) (K : va_K D vwCl (tyC C) s) (Z : ZF z A s s.heap) (tl : va_W) (hP : va_P D vwCl (tl ++ wc) H) (hD : va_D A (tl ++ wc)) (hS : va_S A s.heap H locs) (hA : ∀ q, s.heap.size ≤ q → A q) (hl : lv_has ls nL lv)
    (hM : Cs l D C z y bytes maxL fr ce sl lo (.ref b :: As) wc post) (mi : MI y bytes maxL n) (hlk : Cond.methodLink own index y ∈ gT) (hn : As.length = n) (hst : st0 = As.reverse ++ .ref b :: rest) (hw : (rest.map fun v => v.category).sum ≤ 8) (hR : fr + 1 ≤ R.frames ∧ 8 + (maxL + 11) + lo ≤ R.locals) (hf : cells + ce ≤ R.cells ∧ slots + sl ≤ R.slots) (hdg : decode cc pc = .ok (.invokespecial index, 3))
    (kk : ∀ (w : va_W) (H1 : Heap) (locs1 : List Loc), post w → va_P D vwCl (tl ++ w) H1 → va_D A (tl ++ w) → va_S A s.heap H1 locs1 → W p l e R s m args below meth c H1 locs1 (cells + ce) (slots + sl) Q (F0 m (pc + 3) ls rest)) : W p l e R s m args below meth c H locs cells slots Q (F0 m pc ls st0) := by
  obtain ⟨hPc, hDc, hFc⟩ := n_cut (s := s) hP hD hS hA
  exact va_callv (va_runI (As := As) (rest := rest) ⟨E.1, E.2.1, E.2.2.1, E.2.2.2.1, E.2.2.2.2.1⟩ (hM H.size) (cwI n E.2.2.2.2.1 (gT_in (fun _ h => h) (gT_cons mi.2.2.1)) rfl rfl rfl (E.2.2.2.2.1 _ mi.2.1) (E.2.2.2.2.1 _ hlk) (E.2.2.2.2.1 _ mi.1) mi.2.2.2.1 mi.2.2.2.2 hR) ⟨fun a U g mk q => by
      obtain ⟨q0, q1, qP, qK, qD, qZ⟩ := q
      exact ⟨q0, q1, qP, va_K.moved (u := U) (U := U.calling g mk a) (Vm.Alike.refl U.vm) qK, qD, ZF.same (s := U) (U := U.calling g mk a) rfl qZ⟩, fun U hU hW => ⟨rfl, by rw [hU], by rw [hU]; exact hPc, va_K.moved hW.alike K, hDc.weaken (fun _ _ _ _ => trivial), by rw [hU]; exact ZF.warm hW ((Z.kept hS.2.1).narrow hFc)⟩⟩ rfl hn hl.1 hst (lv_room (m := m) (pc := pc) (ls := ls) (rest := st0) hw) hdg hf) hS (fun q _ h => hFc q h) hFc (fun u t H1 locs1 ht hvm hw hB hz1 hk1 hS1 => by
    obtain ⟨hP1, hD1⟩ := hB
    rw [ht] at hP1
    obtain ⟨hP2, hD2⟩ := n_joinL hP hD hFc hk1 hP1 hD1
    exact kk u H1 locs1 hw hP2 hD2 hS1)
theorem n_callN {b : Nat} {As : List Value} {wc : va_W} {z : Nat → Nat} {y : MethodName} {bytes : ByteArray} {maxL n fr ce sl lo index : Nat} {st0 : List Value} {lv : List (Nat × Value)} {post : va_W → Prop} (E : Ev p s m meth c own cc nL args ret) (K : va_K D vwCl (tyC C) s) (Z : ZF z A s s.heap) (tl : va_W) (hP : va_P D vwCl (tl ++ wc) H) (hD : va_D A (tl ++ wc)) (hS : va_S A s.heap H locs) (hA : ∀ q, s.heap.size ≤ q → A q) (hl : lv_has ls nL lv)
    (hM : Cs l D C z y bytes maxL fr ce sl lo (.ref b :: As) wc post) (mi : MI y bytes maxL n) {host : String} (hlk : (own, index, y, host) ∈ zNest) (hn : As.length = n) (hst : st0 = As.reverse ++ .ref b :: rest) (hw : (rest.map fun v => v.category).sum ≤ 8) (hR : fr + 1 ≤ R.frames ∧ 8 + (maxL + 11) + lo ≤ R.locals) (hf : cells + ce ≤ R.cells ∧ slots + sl ≤ R.slots) (hdg : decode cc pc = .ok (.invokespecial index, 3))
    (kk : ∀ (w : va_W) (H1 : Heap) (locs1 : List Loc), post w → va_P D vwCl (tl ++ w) H1 → va_D A (tl ++ w) → va_S A s.heap H1 locs1 → W p l e R s m args below meth c H1 locs1 (cells + ce) (slots + sl) Q (F0 m (pc + 3) ls rest)) : W p l e R s m args below meth c H locs cells slots Q (F0 m pc ls st0) := by
  obtain ⟨hPc, hDc, hFc⟩ := n_cut (s := s) hP hD hS hA
  exact va_callv (va_runIN (As := As) (rest := rest) (host := host) (n := n) ⟨E.1, E.2.1, E.2.2.1, E.2.2.2.1, E.2.2.2.2.1⟩ (hM H.size) ⟨va_cnB n E.2.2.2.2.1 (gT_in (fun _ h => h) (gT_cons mi.2.2.1)) rfl rfl rfl (Z.1 _ hlk) (E.2.2.2.2.1 _ mi.2.1) mi.2.2.2.2 hR, mi.2.2.2.1, E.2.2.2.2.1 _ mi.1⟩ ⟨fun a U g mk q => by
      obtain ⟨q0, q1, qP, qK, qD, qZ⟩ := q
      exact ⟨q0, q1, qP, va_K.moved (u := U) (U := U.calling g mk a) (Vm.Alike.refl U.vm) qK, qD, ZF.same (s := U) (U := U.calling g mk a) rfl qZ⟩, fun U hU hW => ⟨rfl, by rw [hU], by rw [hU]; exact hPc, va_K.moved hW.alike K, hDc.weaken (fun _ _ _ _ => trivial), by rw [hU]; exact ZF.warm hW ((Z.kept hS.2.1).narrow hFc)⟩⟩ rfl hn hl.1 hst (lv_room (m := m) (pc := pc) (ls := ls) (rest := st0) hw) hdg hf) hS (fun q _ h => hFc q h) hFc (fun u t H1 locs1 ht hvm hw hB hz1 hk1 hS1 => by
    obtain ⟨hP1, hD1⟩ := hB
    rw [ht] at hP1
    obtain ⟨hP2, hD2⟩ := n_joinL hP hD hFc hk1 hP1 hD1
    exact kk u H1 locs1 hw hP2 hD2 hS1)
end MK
theorem mi_X0 : MI yX0_init cX0_init 1 0 := ⟨kn_X0_init, ki_X0, kc_X0_init, rfl, by decide +kernel⟩
theorem mi_X1 : MI yX1_init cX1_init 3 1 := ⟨kn_X1_init, ki_X1, kc_X1_init, rfl, by decide +kernel⟩
theorem mi_X2 : MI yX2_init cX2_init 1 0 := ⟨kn_X2_init, ki_X2, kc_X2_init, rfl, by decide +kernel⟩
theorem mi_X3 : MI yX3_init cX3_init 8 2 := ⟨kn_X3_init, ki_X3, kc_X3_init, rfl, by decide +kernel⟩
theorem mi_X4 : MI yX4_init cX4_init 1 0 := ⟨kn_X4_init, ki_X4, kc_X4_init, rfl, by decide +kernel⟩
theorem mi_X5 : MI yX5_init cX5_init 1 0 := ⟨kn_X5_init, ki_X5, kc_X5_init, rfl, by decide +kernel⟩
theorem mi_X6 : MI yX6_init cX6_init 1 0 := ⟨kn_X6_init, ki_X6, kc_X6_init, rfl, by decide +kernel⟩
theorem mi_X7 : MI yX7_init cX7_init 3 2 := ⟨kn_X7_init, ki_X7, kc_X7_init, rfl, by decide +kernel⟩
theorem mi_X8 : MI yX8_init cX8_init 4 2 := ⟨kn_X8_init, ki_X8, kc_X8_init, rfl, by decide +kernel⟩
