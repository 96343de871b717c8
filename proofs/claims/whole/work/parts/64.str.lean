/-! ===== texts: constants, outside the world ===== -/
/-- an answer that is a known cell -/
def Qs (X : We) (K : Nat) (post : Mem → Prop) : Array Value → State → Outcome → State → Prop := va_Qr (S := Mem) post (fun V1 a t => a = K ∧ GW X V1 t.heap) (wA X)
section XT
variable {p : Program} {l : Launch} {e : Env} {R : Room} {s : State} {m : MethodId} {args : Array Value} {below : List Frame} {meth : Method} {c : Code} {H : Heap} {locs : List Loc} {cells slots : Nat} {Q : State → Prop}
variable {own : String} {cc : ByteArray} {nL : Nat} {ret : Option FieldType} {pc : Nat} {ls : Array Slot} {rest : List Value}
variable {X : We} {V : Mem} {q r : Nat} {index : Nat} {lv : List (Nat × Value)} {y : MethodName} {bytes : ByteArray} {maxL n fr lo : Nat} {rt : Option FieldType} {As st0 : List Value}
theorem x_gets (E : Ev p s m meth c own cc nL args ret) {C nm d : String} {v : Value} (hZ : va_Z C nm d v (wA X) s s.heap) (hS : va_S (wA X) s.heap H locs) (hlk : Cond.fieldLink own index C nm d ∈ gT) (hdg : decode cc pc = .ok (.getstatic index, 3)) (kk : W p l e R s m args below meth c H locs cells slots Q (F0 m (pc + 3) ls (v :: rest))) : W p l e R s m args below meth c H locs cells slots Q (F0 m pc ls rest) :=
  va_gets E.1 E.2.1 hZ hS E.2.2.2.1 (E.2.2.2.2.1 _ hlk) (fun _ h => h) hdg kk
theorem x_getO (E : Ev p s m meth c own cc nL args ret) {C nm d : String} {v : Value} {a : Nat} (hO : va_OF C nm d v a (wA X) s s.heap) (hS : va_S (wA X) s.heap H locs) (hlk : Cond.fieldLink own index C nm d ∈ gT) (hdg : decode cc pc = .ok (.getfield index, 3)) (kk : W p l e R s m args below meth c H locs cells slots Q (F0 m (pc + 3) ls (v :: rest))) : W p l e R s m args below meth c H locs cells slots Q (F0 m pc ls (.ref a :: rest)) :=
  vk_getf E.1 E.2.1 hO hS E.2.2.2.1 (E.2.2.2.2.1 _ hlk) (fun _ h => h) hdg kk
theorem x_tlen (E : Ev p s m meth c own cc nL args ret) {ty : FieldType} {t N : Nat} {f : Nat → Value} (hT : va_T ty t N f (wA X) s s.heap) (hS : va_S (wA X) s.heap H locs) (hdg : decode cc pc = .ok (.arraylength, 1)) (kk : W p l e R s m args below meth c H locs cells slots Q (F0 m (pc + 1) ls (.int (jI (N : Int)) :: rest))) : W p l e R s m args below meth c H locs cells slots Q (F0 m pc ls (.ref t :: rest)) :=
  va_tlen E.1 E.2.1 hT hS (v := jI (N : Int)) rfl hdg kk
theorem x_runR (E : Ev p s m meth c own cc nL args ret) (hI : GJ X s) (hG : GW X V H) (hS : va_S (wA X) s.heap H locs) {a : Nat} (hr : ∃ cell : Cell, H[a]? = some cell ∧ cell.vm.isStatics = false ∧ s.vm.findClass y.cls = some cell.cls) {Qc : Array Value → State → Outcome → State → Prop} (hM : Mt l X V y bytes maxL rt fr lo (.ref a :: As) Qc) (mf : MF y bytes maxL rt n) (hlk : Cond.methodLink own index y ∈ gT) (hn : As.length = n) (hl : lv_has ls nL lv) (hst : st0 = As.reverse ++ .ref a :: rest) (hw : (rest.map fun v => v.category).sum ≤ 8) (hR : fr + 1 ≤ R.frames ∧ 8 + (maxL + 11) + lo ≤ R.locals) (hf : cells ≤ R.cells ∧ slots ≤ R.slots) (hdg : decode cc pc = .ok (.invokevirtual index, 3)) :
    va_Run p l e R s m args below meth c H locs cells slots 0 0 (F0 m pc ls st0) rest (Qc (Value.ref a :: As).toArray) (wA X) :=
  va_runV (As := As) (rest := rest) (C := y.cls) (n := n) ⟨E.1, E.2.1, E.2.2.1, E.2.2.2.1, E.2.2.2.2.1⟩ hM (cwV n E.2.2.2.2.1 (mf.good hlk) rfl rfl rfl ⟨rfl, mf.2.2.2.2⟩ hR) ⟨GI.blind, hr, fun U hU hW => ⟨rfl, GI.at hI hG hS hU hW⟩⟩ rfl hn hl.1 hst (lv_room (m := m) (pc := pc) (ls := ls) (rest := st0) hw) hdg hf
theorem x_cs {a : Array Value} {K : Nat} (hG : GW X V H) (hS : va_S (wA X) s.heap H locs) {post : Mem → Prop} (hr : va_Run p l e R s m args below meth c H locs cells slots 0 0 (F0 m pc ls st0) rest (Qs X K post a) (wA X))
    (kk : ∀ (V1 : Mem) (H1 : Heap) (locs1 : List Loc), post V1 → GW X V1 H1 → va_S (wA X) s.heap H1 locs1 → W p l e R s m args below meth c H1 locs1 cells slots Q (F0 m (pc + 3) ls (.ref K :: rest))) : W p l e R s m args below meth c H locs cells slots Q (F0 m pc ls st0) :=
  va_callr hr hS (fun _ _ h => h) (fun _ h => h) (fun u ra t H1 locs1 ht hvm hw hB _ _ hS1 => by
    obtain ⟨rfl, hB⟩ := hB
    exact kk u H1 locs1 hw (by rw [← ht]; exact hB) hS1)
theorem r_n {ty : FieldType} (E : Ev p s m meth c own cc nL args (some ty)) {post : Int → Mem → Prop} (hQ : Q = MQ below (Qi X post) args s cells slots (wA X)) (hG : GW X V H) (hS : va_S (wA X) s.heap H locs) {z : Int} (hn : narrow ty (.int (jI z)) = .int (jI z)) (hdg : decode cc pc = .ok (.ireturn, 1)) (hp : post z V) : W p l e R s m args below meth c H locs cells slots Q (F0 m pc ls [.int (jI z)]) := by
  subst hQ
  exact W.zret (v := jI z) E.1 E.2.1 E.2.2.2.2.2.1 hn (fun t ht hW => ⟨⟨jI z, V, rfl, ⟨z, rfl, hp⟩, by show GW X V t.heap; rw [ht]; exact hG⟩, hS.F ht⟩) hS.2.2 hdg E.2.2.2.2.2.2
theorem r_s {C : String} (E : Ev p s m meth c own cc nL args (some (.object C))) {K : Nat} {post : Mem → Prop} (hQ : Q = MQ below (Qs X K post) args s cells slots (wA X)) (hG : GW X V H) (hS : va_S (wA X) s.heap H locs) (hdg : decode cc pc = .ok (.areturn, 1)) (hp : post V) : W p l e R s m args below meth c H locs cells slots Q (F0 m pc ls [.ref K]) := by
  subst hQ
  exact W.aret (v := .ref K) E.1 E.2.1 E.2.2.2.2.2.1 (Or.inl ⟨_, rfl⟩) (Or.inr ⟨K, rfl⟩) (fun t ht hW => ⟨⟨V, K, rfl, hp, rfl, by rw [ht]; exact hG⟩, hS.F ht⟩) hS.2.2 hdg E.2.2.2.2.2.2
end XT
set_option maxHeartbeats 4000000 in
set_option maxRecDepth 100000 in
theorem c_coder (l : Launch) {X : We} (V : Mem) (i : Nat) (hi : i < 5) : Mt l X V yJ0_coder_7d493 cJ0_coder_7d493 1 (some .byte) 0 0 [.ref (wz X (10 + i))] (Qi X (fun z V1 => z = 0 ∧ V1 = V)) := by
  refine Mt.go (by decide) (Nat.le_of_ble_eq_true rfl) ?_
  intro pg ev s0 mi bl mt cd ls Rm ag Qq hR hQ E hI hG hS hl
  have hl : lv_has ls 1 [(0, .ref (wz X (10 + i)))] := hl
  obtain ⟨-, -, -, -, -, -, z7, z8, -⟩ := hI.2.2.2.1
  refine x_gets E z7 hS kf_J0_38 dJ0_coder_7d493_0 ?_
  refine x_if_eq E 13 dJ0_coder_7d493_3 (by decide) (by unfold rg; omega) (fun c3 => by omega) (fun c3 => ?_)
  refine x_aload_n E dJ0_coder_7d493_6 (lv_at hl 0 rfl) ?_
  refine x_getO E (z8.1 i hi).2.1 hS kf_J0_15 dJ0_coder_7d493_7 ?_
  refine x_rawi 0 rfl ?_
  refine x_goto E 14 dJ0_coder_7d493_10 (by decide) ?_
  exact r_n E hQ hG hS (by decide) dJ0_coder_7d493_14 ⟨rfl, rfl⟩
set_option maxHeartbeats 4000000 in
set_option maxRecDepth 100000 in
theorem c_isLatin1 (l : Launch) {X : We} (V : Mem) (i : Nat) (hi : i < 5) : Mt l X V yJ0_isLatin1_aae02 cJ0_isLatin1_aae02 1 (some .boolean) 0 0 [.ref (wz X (10 + i))] (Qi X (fun z V1 => z = 1 ∧ V1 = V)) := by
  refine Mt.go (by decide) (Nat.le_of_ble_eq_true rfl) ?_
  intro pg ev s0 mi bl mt cd ls Rm ag Qq hR hQ E hI hG hS hl
  have hl : lv_has ls 1 [(0, .ref (wz X (10 + i)))] := hl
  obtain ⟨-, -, -, -, -, -, z7, z8, -⟩ := hI.2.2.2.1
  refine x_gets E z7 hS kf_J0_38 dJ0_isLatin1_aae02_0 ?_
  refine x_if_eq E 17 dJ0_isLatin1_aae02_3 (by decide) (by unfold rg; omega) (fun c3 => by omega) (fun c3 => ?_)
  refine x_aload_n E dJ0_isLatin1_aae02_6 (lv_at hl 0 rfl) ?_
  refine x_getO E (z8.1 i hi).2.1 hS kf_J0_15 dJ0_isLatin1_aae02_7 ?_
  refine x_rawi 0 rfl ?_
  refine x_if_ne E 17 dJ0_isLatin1_aae02_10 (by decide) (by unfold rg; omega) (fun c3 => by omega) (fun c3 => ?_)
  refine x_iconst E dJ0_isLatin1_aae02_13 ?_
  refine x_goto E 18 dJ0_isLatin1_aae02_14 (by decide) ?_
  exact r_z E hQ hG hS dJ0_isLatin1_aae02_18 (Or.inr rfl) ⟨rfl, rfl⟩
set_option maxHeartbeats 4000000 in
set_option maxRecDepth 100000 in
theorem c_strlen (l : Launch) {X : We} (V : Mem) (i : Nat) (hi : i < 5) : Mt l X V yJ0_length_8abf5 cJ0_length_8abf5 1 (some .int) 1 20 [.ref (wz X (10 + i))] (Qi X (fun z V1 => z = (zLen.getD i 0 : Int) ∧ V1 = V)) := by
  refine Mt.go (by decide) (Nat.le_of_ble_eq_true rfl) ?_
  intro pg ev s0 mi bl mt cd ls Rm ag Qq hR hQ E hI hG hS hl
  have hl : lv_has ls 1 [(0, .ref (wz X (10 + i)))] := hl
  obtain ⟨-, -, -, -, -, -, z7, z8, -⟩ := id hI.2.2.2.1
  refine x_aload_n E dJ0_length_8abf5_0 (lv_at hl 0 rfl) ?_
  refine x_getO E (z8.1 i hi).2.2.1 hS kf_J0_9 dJ0_length_8abf5_1 ?_
  refine x_tlen E (z8.1 i hi).2.2.2 hS dJ0_length_8abf5_4 ?_
  refine x_aload_n E dJ0_length_8abf5_5 (lv_at hl 0 rfl) ?_
  refine x_ci hG hS (x_runR E hI hG hS (vk_recv z8 hi hS) (c_coder l V i hi) mf_J0_coder_7d493 km_J0_335 rfl hl rfl (Nat.le_of_ble_eq_true rfl) (by rw [hR]; exact ⟨Nat.le_of_ble_eq_true rfl, Nat.le_of_ble_eq_true rfl⟩) ⟨Nat.zero_le _, Nat.zero_le _⟩ dJ0_length_8abf5_6) (fun z1 V1 H locs hp hG hS => ?_)
  obtain ⟨ez, eV⟩ := hp
  rw [eV] at hG
  rw [ez]
  refine lv_ishr E.1 E.2.1 dJ0_length_8abf5_9 ?_
  refine x_rawi (zLen.getD i 0 : Int) (sb_shr0 _) ?_
  exact r_i E hQ hG hS dJ0_length_8abf5_10 ⟨rfl, rfl⟩
set_option maxHeartbeats 4000000 in
set_option maxRecDepth 100000 in
theorem c_pcheck (l : Launch) {X : We} (V : Mem) (k m : Int) (r : Value) (hk : 0 ≤ k ∧ k < m) (hm : m < 1000) (hr : r = .null ∨ ∃ t, r = .ref t) : Mt l X V yJ3_checkIndex_8e157 cJ3_checkIndex_8e157 3 (some .int) 0 0 [.int (jI k), .int (jI m), r] (Qi X (fun z V1 => z = k ∧ V1 = V)) := by
  refine Mt.go (by decide) (by rcases hr with rfl | ⟨t, rfl⟩ <;> exact Nat.le_of_ble_eq_true rfl) ?_
  intro pg ev s0 mi bl mt cd ls Rm ag Qq hR hQ E hI hG hS hl
  have hl : lv_has ls 3 [(0, .int (jI k)), (1, .int (jI m))] := by rcases hr with rfl | ⟨t, rfl⟩ <;> exact lv_sub hl [0, 1] rfl
  refine x_iload_n E dJ3_checkIndex_8e157_0 (lv_at hl 0 rfl) ?_
  refine x_if_lt E 9 dJ3_checkIndex_8e157_1 (by decide) (by unfold rg; omega) (fun c1 => by omega) (fun c1 => ?_)
  refine x_iload_n E dJ3_checkIndex_8e157_4 (lv_at hl 0 rfl) ?_
  refine x_iload_n E dJ3_checkIndex_8e157_5 (lv_at hl 1 rfl) ?_
  refine x_icmp_lt E 16 dJ3_checkIndex_8e157_6 (by decide) (by unfold rg; omega) (by unfold rg; omega) (fun c6 => ?_) (fun c6 => by omega)
  refine x_iload_n E dJ3_checkIndex_8e157_16 (lv_at hl 0 rfl) ?_
  exact r_i E hQ hG hS dJ3_checkIndex_8e157_17 ⟨rfl, rfl⟩
set_option maxHeartbeats 4000000 in
set_option maxRecDepth 100000 in
theorem c_scheck (l : Launch) {X : We} (V : Mem) (k m : Int) (hk : 0 ≤ k ∧ k < m) (hm : m < 1000) : Mt l X V yJ0_checkIndex_df160 cJ0_checkIndex_df160 2 none 1 22 [.int (jI k), .int (jI m)] (Qv X (fun V1 => V1 = V)) := by
  refine Mt.go (by decide) (Nat.le_of_ble_eq_true rfl) ?_
  intro pg ev s0 mi bl mt cd ls Rm ag Qq hR hQ E hI hG hS hl
  have hl : lv_has ls 2 [(0, .int (jI k)), (1, .int (jI m))] := hl
  have hq : ∃ r : Value, (r = .null ∨ ∃ t, r = .ref t) ∧ va_Z "jdk/internal/util/Preconditions" "SIOOBE_FORMATTER" "Ljava/util/function/BiFunction;" r (wA X) s0 s0.heap := by
    obtain ⟨-, -, -, -, -, -, -, -, -, z⟩ := id hI.2.2.2.1
    rcases z with z | ⟨t, z⟩
    · exact ⟨.null, Or.inl rfl, z⟩
    · exact ⟨.ref t, Or.inr ⟨t, rfl⟩, z⟩
  obtain ⟨r, hr, hz⟩ := hq
  have hrc : r.category = 1 := by rcases hr with rfl | ⟨t, rfl⟩ <;> rfl
  refine x_iload_n E dJ0_checkIndex_df160_0 (lv_at hl 0 rfl) ?_
  refine x_iload_n E dJ0_checkIndex_df160_1 (lv_at hl 1 rfl) ?_
  refine x_gets E hz hS kf_J0_1053 dJ0_checkIndex_df160_2 ?_
  refine x_ci hG hS (x_runS E hI hG hS (c_pcheck l V k m r hk hm hr) mf_J3_checkIndex_8e157 km_J0_1059 rfl hl rfl (Nat.le_of_ble_eq_true rfl) (by rw [hR]; exact ⟨Nat.le_of_ble_eq_true rfl, Nat.le_of_ble_eq_true rfl⟩) ⟨Nat.zero_le _, Nat.zero_le _⟩ dJ0_checkIndex_df160_5) (fun z1 V1 H locs hp hG hS => ?_)
  obtain ⟨ez, eV⟩ := hp
  rw [eV] at hG
  refine x_pop E dJ0_checkIndex_df160_8 rfl ?_
  exact r_v E hQ hG hS dJ0_checkIndex_df160_9 rfl
set_option maxHeartbeats 4000000 in
set_option maxRecDepth 100000 in
theorem c_lcharAt (l : Launch) {X : We} (V : Mem) (i : Nat) (hi : i < 5) (k : Int) (hk : 0 ≤ k ∧ k < (zLen.getD i 0 : Int)) : Mt l X V yJ1_charAt_3b067 cJ1_charAt_3b067 2 (some .char) 2 43 [.ref (wz X (20 + i)), .int (jI k)] (Qi X (fun z V1 => z = ((zByt.getD i []).getD k.toNat 0).toInt ∧ V1 = V)) := by
  refine Mt.go (by decide) (Nat.le_of_ble_eq_true rfl) ?_
  intro pg ev s0 mi bl mt cd ls Rm ag Qq hR hQ E hI hG hS hl
  have hl : lv_has ls 2 [(0, .ref (wz X (20 + i))), (1, .int (jI k))] := hl
  obtain ⟨-, -, -, -, -, -, z7, z8, -⟩ := id hI.2.2.2.1
  have hT := (z8.1 i hi).2.2.2
  have hlen : zLen.getD i 0 < 8 := by rcases (show i = 0 ∨ i = 1 ∨ i = 2 ∨ i = 3 ∨ i = 4 by omega) with rfl | rfl | rfl | rfl | rfl <;> decide
  refine x_iload_n E dJ1_charAt_3b067_0 (lv_at hl 1 rfl) ?_
  refine x_aload_n E dJ1_charAt_3b067_1 (lv_at hl 0 rfl) ?_
  refine x_tlen E hT hS dJ1_charAt_3b067_2 ?_
  refine x_cv hG hS (x_runS E hI hG hS (c_scheck l V k (zLen.getD i 0 : Int) hk (by omega)) mf_J0_checkIndex_df160 km_J1_9 rfl hl rfl (Nat.le_of_ble_eq_true rfl) (by rw [hR]; exact ⟨Nat.le_of_ble_eq_true rfl, Nat.le_of_ble_eq_true rfl⟩) ⟨Nat.zero_le _, Nat.zero_le _⟩ dJ1_charAt_3b067_3) (fun V1 H locs hp hG hS => ?_)
  rw [hp] at hG
  refine x_aload_n E dJ1_charAt_3b067_6 (lv_at hl 0 rfl) ?_
  refine x_iload_n E dJ1_charAt_3b067_7 (lv_at hl 1 rfl) ?_
  refine va_tb E.1 E.2.1 hT hS (j_in hk (by omega)) (v := .int ((zByt.getD i []).getD k.toNat 0)) (by rw [j_clamp hk.1 (by omega)]) dJ1_charAt_3b067_8 ?_
  refine x_sipush E dJ1_charAt_3b067_9 (by decide) ?_
  refine lv_iand E.1 E.2.1 dJ1_charAt_3b067_12 ?_
  refine lv_i2c (v := (zByt.getD i []).getD k.toNat 0) E.1 E.2.1 dJ1_charAt_3b067_13 ?_ ?_
  · have key : ∀ i : Nat, i < 5 → ∀ j : Nat, j < 8 → ((((zByt.getD i []).getD j 0) &&& jI 255).toUInt32 % 65536).toInt32 = (zByt.getD i []).getD j 0 := by decide
    exact key i hi k.toNat (by omega)
  · refine x_rawi ((zByt.getD i []).getD k.toNat 0).toInt (j_of _).symm ?_
    refine r_n E hQ hG hS ?_ dJ1_charAt_3b067_14 ⟨rfl, rfl⟩
    have key : ∀ i : Nat, i < 5 → ∀ j : Nat, j < 8 → narrow .char (.int ((zByt.getD i []).getD j 0)) = .int ((zByt.getD i []).getD j 0) := by decide
    rw [j_of]
    exact key i hi k.toNat (by omega)
set_option maxHeartbeats 4000000 in
set_option maxRecDepth 100000 in
theorem c_charAt (l : Launch) {X : We} (V : Mem) (i : Nat) (hi : i < 5) (k : Int) (hk : 0 ≤ k ∧ k < (zLen.getD i 0 : Int)) : Mt l X V yJ0_charAt_5068e cJ0_charAt_5068e 2 (some .char) 3 64 [.ref (wz X (10 + i)), .int (jI k)] (Qi X (fun z V1 => z = ((zByt.getD i []).getD k.toNat 0).toInt ∧ V1 = V)) := by
  refine Mt.go (by decide) (Nat.le_of_ble_eq_true rfl) ?_
  intro pg ev s0 mi bl mt cd ls Rm ag Qq hR hQ E hI hG hS hl
  have hl : lv_has ls 2 [(0, .ref (wz X (10 + i))), (1, .int (jI k))] := hl
  obtain ⟨-, -, -, -, -, -, z7, z8, -⟩ := id hI.2.2.2.1
  refine x_aload_n E dJ0_charAt_5068e_0 (lv_at hl 0 rfl) ?_
  refine x_ci hG hS (x_runR E hI hG hS (vk_recv z8 hi hS) (c_isLatin1 l V i hi) mf_J0_isLatin1_aae02 km_J0_492 rfl hl rfl (Nat.le_of_ble_eq_true rfl) (by rw [hR]; exact ⟨Nat.le_of_ble_eq_true rfl, Nat.le_of_ble_eq_true rfl⟩) ⟨Nat.zero_le _, Nat.zero_le _⟩ dJ0_charAt_5068e_1) (fun z1 V1 H locs hp hG hS => ?_)
  obtain ⟨ez, eV⟩ := hp
  rw [eV] at hG
  rw [ez]
  refine x_if_eq E 16 dJ0_charAt_5068e_4 (by decide) (by unfold rg; omega) (fun c3 => by omega) (fun c3 => ?_)
  refine x_aload_n E dJ0_charAt_5068e_7 (lv_at hl 0 rfl) ?_
  refine x_getO E (z8.1 i hi).2.2.1 hS kf_J0_9 dJ0_charAt_5068e_8 ?_
  refine x_iload_n E dJ0_charAt_5068e_11 (lv_at hl 1 rfl) ?_
  refine x_ci hG hS (x_runS E hI hG hS (c_lcharAt l V i hi k hk) mf_J1_charAt_3b067 km_J0_495 rfl hl rfl (Nat.le_of_ble_eq_true rfl) (by rw [hR]; exact ⟨Nat.le_of_ble_eq_true rfl, Nat.le_of_ble_eq_true rfl⟩) ⟨Nat.zero_le _, Nat.zero_le _⟩ dJ0_charAt_5068e_12) (fun z1 V1 H locs hp hG hS => ?_)
  obtain ⟨ez, eV⟩ := hp
  rw [eV] at hG
  refine r_n E hQ hG hS ?_ dJ0_charAt_5068e_15 ⟨ez, rfl⟩
  have key : ∀ i : Nat, i < 5 → ∀ j : Nat, j < 8 → narrow .char (.int ((zByt.getD i []).getD j 0)) = .int ((zByt.getD i []).getD j 0) := by decide
  rw [ez, j_of]
  have hlen : zLen.getD i 0 < 8 := by rcases (show i = 0 ∨ i = 1 ∨ i = 2 ∨ i = 3 ∨ i = 4 by omega) with rfl | rfl | rfl | rfl | rfl <;> decide
  exact key i hi k.toNat (by omega)
