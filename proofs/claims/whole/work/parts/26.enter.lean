theorem Mt.go {l : Launch} {X : We} {V : Mem} {y : MethodName} {cc : ByteArray} {nL : Nat} {ret : Option FieldType} {fr lo : Nat} {av : List Value} {Qc : Array Value → State → Outcome → State → Prop} (hy : plainName y.cls = true) (hn : (lg_sl av).length ≤ nL)
    (body : ∀ (p : Program) (e : Env) (s : State) (m : MethodId) (below : List Frame) (meth : Method) (c : Code) (ls : Array Slot) (R : Room) (args : Array Value) (Q : State → Prop), R = ({ frames := fr, cells := 0, slots := 0, locals := lo } : Room) → Q = MQ below Qc args s 0 0 (wA X) → Ev p s m meth c y.cls cc nL args ret → GJ X s → GW X V s.heap → va_S (wA X) s.heap s.heap [] → lv_has ls nL (lv_args 0 av) →
      W p l e R s m args below meth c s.heap [] 0 0 Q (F0 m 0 ls [])) : Mt l X V y cc nL ret fr lo av Qc :=
  Mt.enter hy hn (fun p e s m below meth c ls E hI hG hS hl => body p e s m below meth c ls _ _ _ rfl rfl E hI hG hS hl)
section XQ
variable {p : Program} {l : Launch} {e : Env} {R : Room} {s : State} {m : MethodId} {args : Array Value} {below : List Frame} {meth : Method} {c : Code} {H : Heap} {locs : List Loc} {cells slots : Nat} {Q : State → Prop}
variable {own : String} {cc : ByteArray} {nL : Nat} {pc : Nat} {ls : Array Slot} {X : We} {V : Mem}
theorem r_i (E : Ev p s m meth c own cc nL args (some .int)) {post : Int → Mem → Prop} (hQ : Q = MQ below (Qi X post) args s cells slots (wA X)) (hG : GW X V H) (hS : va_S (wA X) s.heap H locs) {z : Int} (hdg : decode cc pc = .ok (.ireturn, 1)) (hp : post z V) : W p l e R s m args below meth c H locs cells slots Q (F0 m pc ls [.int (jI z)]) := by
  subst hQ; exact x_iret E hG hS hp hdg
theorem r_z (E : Ev p s m meth c own cc nL args (some .boolean)) {post : Int → Mem → Prop} (hQ : Q = MQ below (Qi X post) args s cells slots (wA X)) (hG : GW X V H) (hS : va_S (wA X) s.heap H locs) {z : Int} (hdg : decode cc pc = .ok (.ireturn, 1)) (hz : z = 0 ∨ z = 1) (hp : post z V) : W p l e R s m args below meth c H locs cells slots Q (F0 m pc ls [.int (jI z)]) := by
  subst hQ; exact x_zret E hG hS hz hp hdg
theorem r_v (E : Ev p s m meth c own cc nL args none) {post : Mem → Prop} (hQ : Q = MQ below (Qv X post) args s cells slots (wA X)) (hG : GW X V H) (hS : va_S (wA X) s.heap H locs) (hdg : decode cc pc = .ok (.return_, 1)) (hp : post V) : W p l e R s m args below meth c H locs cells slots Q (F0 m pc ls []) := by
  subst hQ; exact x_vret E hG hS hp hdg
end XQ
