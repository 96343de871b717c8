/-! THE CLAIM OUT OF ONE WALK OF THE LAW'S BODY. Your part is whole_start (and what it stands on); all else here is the same for every law, but numbers. -/
def R_law : String := "DuneBenchLaw"
def lw_P (b : Addr) (xs : List Int32) (args : Array Value) (s : State) : Prop := args = #[.ref b] ∧ s.IntsAt b xs ∧ xs.length ≤ 3074 ∧ (Jvm.Cond.and given_1 narrow_1).before args s = true
def lw_Q (_ : Array Value) (s : State) (o : Outcome) (t : State) : Prop := o = .returned (some (.int 1)) ∧ Framed s o t [] 600000 7302250
def lw_Z (below : List Frame) (a : Array Value) (s : State) : State → Prop := fun t => ∃ o, t.status = .running ∧ Ended t below o ∧ lw_Q a s o t
/-- the law's own end, with 1 on the stack, nothing written that was there before, its room as the claim has it -/
theorem lw_ret {p : Program} {l : Launch} {e : Env} {s : State} {m : MethodId} {below : List Frame} {meth : Method} {c : Code} {b : Nat} (hx : p.tables.exec = Jvm.exec) (hb : c.code = code) (hr : meth.sig.returnType = ret) (hlocks : meth.locks = false) {pc : Nat} {H : Heap} {ls : Array Slot} (hdg : decode code pc = .ok (.ireturn, 1)) : W p l e room_1 s m #[Value.ref b] below meth c H [] 600000 7302250 (lw_Z below #[Value.ref b] s) (F0 m pc ls [.int 1]) := by
  intro T hT X
  obtain ⟨fs, hret, hrun, hended, hW, hframe⟩ := X.leave (v := some (.int 1)) (hlocks := hlocks) (fun h => by rw [hr] at h; cases h)
  have hmeth' : T.vm.method? m = some meth := X.method'
  refine ⟨T.setFrames fs, ?_, .returned (some (.int 1)), hrun, hended, rfl, ⟨_, rfl⟩, hW, hframe⟩
  jvm_step X.here [X.here.top, hx, hb, hdg, hmeth', hr, ret, narrow_b1]
  (try refine ⟨rfl, ?_⟩); (try refine ⟨rfl, ?_⟩)
  first | (intro acts; rw [hret _ acts rfl rfl rfl]) | rw [hret _ _ rfl rfl rfl]
  exact Steps.refl _
/-- what holds at the law's entry: the machine, the code, the tables' words (any of lw_tbl by 'hts w (by decide +kernel)'), the script of L ints xs at the cell b, what the Statement gives of the start (any of its parts by flat_of_before) -/
def lw_At (p : Program) (s : State) (m : MethodId) (meth : Method) (c : Code) (b L : Nat) (xs : Nat → Int32) : Prop :=
  p.tables.exec = Jvm.exec ∧ c.code = code ∧ meth.sig.returnType = ret ∧ c.maxLocals = 4 ∧ s.vm.findClass R_law = some m.cls ∧ (∀ w ∈ lw_tbl, w.before #[Value.ref b] s = true) ∧ va_X b L xs s s.heap ∧ b < s.heap.size ∧ meth.locks = false ∧ (Jvm.Cond.and given_1 narrow_1).before #[Value.ref b] s = true
theorem va_P.left {D : va_G} {cl : List vw_C} {w1 w2 : va_W} {H : Heap} (h : va_P D cl (w1 ++ w2) H) : va_P D cl w1 H := fun k q hq => h k q (by rw [List.getElem?_append_left (List.getElem?_eq_some_iff.mp hq).1]; exact hq)
theorem va_P.right {D : va_G} {cl : List vw_C} {w1 w2 : va_W} {H : Heap} (h : va_P D cl (w1 ++ w2) H) : va_P D cl w2 H := fun k q hq => h (w1.length + k) q (by rw [List.getElem?_append_right (by omega), Nat.add_sub_cancel_left]; exact hq)
theorem va_D.left {A : Nat → Prop} {w1 w2 : va_W} (h : va_D A (w1 ++ w2)) : va_D A w1 := by
  have u : ∀ (k : Nat) (q : Nat × va_E), w1[k]? = some q → (w1 ++ w2)[k]? = some q := fun k q hq => by rw [List.getElem?_append_left (List.getElem?_eq_some_iff.mp hq).1]; exact hq
  exact ⟨fun i j p q hi hj e => h.1 i j p q (u i p hi) (u j q hj) e, fun k q hk => h.2 k q (u k q hk)⟩
theorem va_D.right {A : Nat → Prop} {w1 w2 : va_W} (h : va_D A (w1 ++ w2)) : va_D A w2 := by
  have u : ∀ (k : Nat) (q : Nat × va_E), w2[k]? = some q → (w1 ++ w2)[w1.length + k]? = some q := fun k q hq => by rw [List.getElem?_append_right (by omega), Nat.add_sub_cancel_left]; exact hq
  exact ⟨fun i j p q hi hj e => by have := h.1 _ _ p q (u i p hi) (u j q hj) e; omega, fun k q hk => h.2 _ q (u k q hk)⟩
theorem va_D.apart {A : Nat → Prop} {w1 w2 : va_W} (h : va_D A (w1 ++ w2)) {i j : Nat} {p q : Nat × va_E} (hi : w1[i]? = some p) (hj : w2[j]? = some q) : p.1 ≠ q.1 := by
  intro e
  have hl := (List.getElem?_eq_some_iff.mp hi).1
  have := h.1 i (w1.length + j) p q (by rw [List.getElem?_append_left hl]; exact hi) (by rw [List.getElem?_append_right (by omega), Nat.add_sub_cancel_left]; exact hj) e
  omega
set_option maxHeartbeats 4000000 in
set_option maxRecDepth 100000 in
/-- YOUR PART: from the entry, for every script of at most 3074 ints, the law comes to its end with true -/
theorem whole_start {p : Program} {e : Env} {s : State} {m : MethodId} {below : List Frame} {meth : Method} {c : Code} (l : Launch) {b L : Nat} {xs : Nat → Int32} (hL : L ≤ 3074) (C0 : lw_At p s m meth c b L xs) : W p l e room_1 s m #[Value.ref b] below meth c s.heap [] 0 0 (lw_Z below #[Value.ref b] s) (entryFrame m ([Value.ref b] : List Value).toArray 4) := by
  obtain ⟨hx, hcode, hret, hml, hown, hts, hX, hbl, hlocks, hgv⟩ := C0
  have E : Ev p s m meth c RL code 4 #[Value.ref b] (some .boolean) := ⟨hx, hcode, hml, hown, fun w hw => hts w (gT_tbl hw), hret, hlocks⟩
  obtain ⟨D, C, K⟩ := K_of E.2.2.2.2.1
  obtain ⟨z, Z⟩ := ZF_of hts hgv
  obtain ⟨A, eA⟩ : ∃ A : Nat → Prop, A = fun q => s.heap.size ≤ q := ⟨_, rfl⟩
  rw [← eA] at Z
  have hA : ∀ q, s.heap.size ≤ q → A q := by rw [eA]; exact fun q h => h
  have hAs : ∀ q, A q → s.heap.size ≤ q := by rw [eA]; exact fun q h => h
  have hbA : ¬ A b := by rw [eA]; exact Nat.not_le.mpr hbl
  obtain ⟨wd, hwd⟩ : ∃ wd : Int, wd = max 4 (min 16 (clv xs L 0)) := ⟨_, rfl⟩
  obtain ⟨hi, hhi⟩ : ∃ hi : Int, hi = max 2 (min 10 (clv xs L 1)) := ⟨_, rfl⟩
  obtain ⟨n, hn⟩ : ∃ n : Nat, (n : Int) = wd * hi := ⟨(wd * hi).toNat, Int.toNat_of_nonneg (Int.mul_nonneg (by omega) (by omega))⟩
  have hd : dims n wd hi := ⟨hn, by omega, by omega, by omega, by omega⟩
  have body : ∀ ls : Array Slot, lv_has ls 4 [(0, .ref b)] → W p l e room_1 s m #[Value.ref b] below meth c s.heap [] 0 0 (lw_Z below #[Value.ref b] s) (F0 m 0 ls []) := by
    intro ls hl
    have hP : va_P D vwCl [] s.heap := fun k q h => by simp at h
    have hD : va_D A [] := ⟨fun i j p q h => by simp at h, fun k q h => by simp at h⟩
    have hS : va_S A s.heap s.heap [] := va_S.rf
    refine n_new E K hP hD hS hA cf7 kl_L_7 kb_X7 ki_X7 [.null, .null, .null, .null, .null, .null, .null, .int (jI 0)] (fun j hj => by rcases (show j = 0 ∨ j = 1 ∨ j = 2 ∨ j = 3 ∨ j = 4 ∨ j = 5 ∨ j = 6 ∨ j = 7 by omega) with rfl | rfl | rfl | rfl | rfl | rfl | rfl | rfl <;> rfl) (Nat.le_of_ble_eq_true rfl) (Nat.le_of_ble_eq_true rfl) dL_law_0 (fun h7 H hP hD hS => ?_)
    refine x_dup E dL_law_3 rfl ?_
    refine x_aload_n E dL_law_4 (lv_at hl 0 rfl) ?_
    refine x_iconst E dL_law_5 ?_
    refine n_cell E hP hS hX hbl hbA hL 0 (by omega) hl km_L_9 (Nat.le_of_ble_eq_true rfl) ⟨Nat.le_of_ble_eq_true rfl, Nat.le_of_ble_eq_true rfl⟩ ⟨Nat.le_of_ble_eq_true rfl, Nat.le_of_ble_eq_true rfl⟩ dL_law_6 (fun H locs hP hS => ?_)
    refine x_aload_n E dL_law_9 (lv_at hl 0 rfl) ?_
    refine x_iconst E dL_law_10 ?_
    refine n_cell E hP hS hX hbl hbA hL 1 (by omega) hl km_L_9 (Nat.le_of_ble_eq_true rfl) ⟨Nat.le_of_ble_eq_true rfl, Nat.le_of_ble_eq_true rfl⟩ ⟨Nat.le_of_ble_eq_true rfl, Nat.le_of_ble_eq_true rfl⟩ dL_law_11 (fun H locs hP hS => ?_)
    refine n_call E K Z [] hP hD hS hA hl (m_X7 l h7 (clv xs L 0) (clv xs L 1) (clv_rg _ _ _) (clv_rg _ _ _) hwd hhi hd) mi_X7 km_L_15 rfl rfl (Nat.le_of_ble_eq_true rfl) ⟨Nat.le_of_ble_eq_true rfl, Nat.le_of_ble_eq_true rfl⟩ ⟨Nat.le_of_ble_eq_true rfl, Nat.le_of_ble_eq_true rfl⟩ dL_law_14 (fun w_ H locs hp hP hD hS => ?_)
    obtain ⟨q, g, e0, hg, rfl⟩ := hp
    have hP : va_P D vwCl (L7 C n wd hi q g) H := hP
    have hD : va_D A (L7 C n wd hi q g) := hD
    refine x_astore_n E [(1, .ref h7), (0, .ref b)] dL_law_17 hl (by decide) rfl (fun ls hl => ?_)
    refine n_new E K hP hD hS hA cf8 kl_L_18 kb_X8 ki_X8 [.int (jI 0), .int (jI 0), .int (jI 0), .null, .null, .null, .null, .null, .null, .null, .null, .int (jI 0), .int (jI 0), .int (jI 0), .int (jI 0), .int (jI 0), .int (jI 0), .null, .null, .int (jI 0), .int (jI 0), .null, .int (jI 0), .int (jI 0), .int (jI 0), .int (jI 0), .int (jI 0), .int (jI 0), .int (jI 0), .int (jI 0), .int (jI 0), .null, .null, .int (jI 0), .null, .null, .null, .null, .int (jI 0), .null, .null, .null, .null, .null, .null, .null, .null, .int (jI 0), .int (jI 0), .int (jI 0)] (fun j hj => by rcases (show j = 0 ∨ j = 1 ∨ j = 2 ∨ j = 3 ∨ j = 4 ∨ j = 5 ∨ j = 6 ∨ j = 7 ∨ j = 8 ∨ j = 9 ∨ j = 10 ∨ j = 11 ∨ j = 12 ∨ j = 13 ∨ j = 14 ∨ j = 15 ∨ j = 16 ∨ j = 17 ∨ j = 18 ∨ j = 19 ∨ j = 20 ∨ j = 21 ∨ j = 22 ∨ j = 23 ∨ j = 24 ∨ j = 25 ∨ j = 26 ∨ j = 27 ∨ j = 28 ∨ j = 29 ∨ j = 30 ∨ j = 31 ∨ j = 32 ∨ j = 33 ∨ j = 34 ∨ j = 35 ∨ j = 36 ∨ j = 37 ∨ j = 38 ∨ j = 39 ∨ j = 40 ∨ j = 41 ∨ j = 42 ∨ j = 43 ∨ j = 44 ∨ j = 45 ∨ j = 46 ∨ j = 47 ∨ j = 48 ∨ j = 49 by omega) with rfl | rfl | rfl | rfl | rfl | rfl | rfl | rfl | rfl | rfl | rfl | rfl | rfl | rfl | rfl | rfl | rfl | rfl | rfl | rfl | rfl | rfl | rfl | rfl | rfl | rfl | rfl | rfl | rfl | rfl | rfl | rfl | rfl | rfl | rfl | rfl | rfl | rfl | rfl | rfl | rfl | rfl | rfl | rfl | rfl | rfl | rfl | rfl | rfl | rfl <;> rfl) (Nat.le_of_ble_eq_true rfl) (Nat.le_of_ble_eq_true rfl) dL_law_18 (fun h8 H hP hD hS => ?_)
    refine x_dup E dL_law_21 rfl ?_
    refine x_aload_n E dL_law_22 (lv_at hl 1 rfl) ?_
    refine x_iconst E dL_law_23 ?_
    refine n_cell E hP hS hX hbl hbA hL 0 (by omega) hl km_L_9 (Nat.le_of_ble_eq_true rfl) ⟨Nat.le_of_ble_eq_true rfl, Nat.le_of_ble_eq_true rfl⟩ ⟨Nat.le_of_ble_eq_true rfl, Nat.le_of_ble_eq_true rfl⟩ dL_law_24 (fun H locs hP hS => ?_)
    refine x_aload_n E dL_law_27 (lv_at hl 1 rfl) ?_
    refine x_iconst E dL_law_28 ?_
    refine n_cell E hP hS hX hbl hbA hL 1 (by omega) hl km_L_9 (Nat.le_of_ble_eq_true rfl) ⟨Nat.le_of_ble_eq_true rfl, Nat.le_of_ble_eq_true rfl⟩ ⟨Nat.le_of_ble_eq_true rfl, Nat.le_of_ble_eq_true rfl⟩ dL_law_29 (fun H locs hP hS => ?_)
    refine n_call E K Z (L7 C n wd hi q g) hP hD hS hA hl (m_X8 l h8 (clv xs L 0) (clv xs L 1) (clv_rg _ _ _) (clv_rg _ _ _) hwd hhi g) mi_X8 km_L_20 rfl rfl (Nat.le_of_ble_eq_true rfl) ⟨Nat.le_of_ble_eq_true rfl, Nat.le_of_ble_eq_true rfl⟩ ⟨Nat.le_of_ble_eq_true rfl, Nat.le_of_ble_eq_true rfl⟩ dL_law_32 (fun w_ H locs hp hP hD hS => ?_)
    obtain ⟨q8, U, e8, hK8, hF8, rfl⟩ := hp
    refine x_astore_n E [(2, .ref h8), (1, .ref h7), (0, .ref b)] dL_law_35 hl (by decide) rfl (fun ls hl => ?_)
    refine x_iconst E dL_law_36 ?_
    refine x_istore_n E [(3, .int (jI 2)), (2, .ref h8), (1, .ref h7), (0, .ref b)] dL_law_37 hl (by decide) rfl (fun ls hl => ?_)
    obtain ⟨X, eX⟩ : ∃ X : We, X = ((D, C, q, xT n, 59, z, (fun a => ∃ i, i < 59 ∧ a = q i)) : We) := ⟨_, rfl⟩
    obtain ⟨Y, eY⟩ : ∃ Y : We, Y = ((D, C, q8, mT, 26, z, (fun a => ∃ i, i < 26 ∧ a = q8 i)) : We) := ⟨_, rfl⟩
    have e1 : L7 C n wd hi q g = gw X (iV wd hi g) := by rw [eX]; exact L7_gw D C n wd hi q g z _
    have e2 : gw ((D, C, q8, mT, 26, z, (fun _ => True)) : We) (pk (iV wd hi g) bN U (fun _ => 0) 0) = gw Y (pk (iV wd hi g) bN U (fun _ => 0) 0) := by rw [eY]; refine gw_A ?_ ?_ ?_ ?_ _ <;> rfl
    rw [e1, e2] at hP hD
    have hGX : GW X (iV wd hi g) H := by
      have := hP.left
      rw [eX] at this ⊢; exact this
    have hGY : GW Y (pk (iV wd hi g) bN U (fun _ => 0) 0) H := by
      have := hP.right
      rw [eY] at this ⊢; exact this
    have hDX := hD.left
    have hDY := hD.right
    have nX : wn X = 59 := by rw [eX]; rfl
    have nY : wn Y = 26 := by rw [eY]; rfl
    have aX : ∀ a, wA X a ↔ ∃ i, i < wn X ∧ a = wa X i := by rw [eX]; exact fun a => Iff.rfl
    have aY : ∀ a, wA Y a ↔ ∃ i, i < wn Y ∧ a = wa Y i := by rw [eY]; exact fun a => Iff.rfl
    have iX : wI X := ⟨fun i j hi hj e => hDX.1 i j _ _ (gw_get hi) (gw_get hj) e, fun i hi => (aX _).mpr ⟨i, hi, rfl⟩⟩
    have iY : wI Y := ⟨fun i j hi hj e => hDY.1 i j _ _ (gw_get hi) (gw_get hj) e, fun i hi => (aY _).mpr ⟨i, hi, rfl⟩⟩
    have gX : GL X A s := ⟨by rw [eX]; exact K, iX, by rw [eX]; exact xT_wL hd, by rw [eX]; exact Z, fun a h => by
      obtain ⟨i, hi, e⟩ := (aX a).mp h
      rw [e]; exact hDX.2 i _ (gw_get hi)⟩
    have gY : GL Y A s := ⟨by rw [eY]; exact K, iY, by rw [eY]; exact mT_wL, by rw [eY]; exact Z, fun a h => by
      obtain ⟨i, hi, e⟩ := (aY a).mp h
      rw [e]; exact hDY.2 i _ (gw_get hi)⟩
    have dXY : ∀ j, j < wn Y → ¬ wA X (wa Y j) := fun j hj h => by
      obtain ⟨i, hi, e⟩ := (aX _).mp h
      exact hD.apart (gw_get hi) (gw_get hj) e.symm
    have dYX : ∀ j, j < wn X → ¬ wA Y (wa X j) := fun j hj h => by
      obtain ⟨i, hi, e⟩ := (aY _).mp h
      exact hD.apart (gw_get hj) (gw_get hi) e
    have hC : LC X Y A s n b L xs := ⟨gX, gY, dXY, dYX, by rw [eX]; exact ⟨rfl, rfl⟩, by rw [eY]; exact ⟨rfl, rfl⟩, hX, hbl, hbA, hL⟩
    have h7X : h7 = wa X 0 := by rw [eX]; exact e0.symm
    have h8Y : h8 = wa Y 0 := by rw [eY]; exact e8.symm
    rw [h7X, h8Y] at hl
    refine lw_loop E hC ⟨Nat.le_of_ble_eq_true rfl, Nat.le_of_ble_eq_true rfl⟩ (fun H locs ls hS => ?_) (((L : Int) - 2).toNat + 1) 2 (by omega) (by omega) (by omega) _ _ H locs ls ⟨hGX, hGY, hS, iV_XI hd hg, iV_MR hd hK8 hF8⟩ hl
    refine va_forget (fun q hq => hAs _ (hS.2.2 q hq)) ?_
    refine W.widen (k := 600000) (n := 7302250) (Nat.le_of_ble_eq_true rfl) (Nat.le_of_ble_eq_true rfl) ?_
    refine x_iconst E dL_law_743 ?_
    exact lw_ret hx hcode hret hlocks dL_law_744
  rw [lg_entry_eq]
  exact body _ (lv_entry _ (Nat.le_of_ble_eq_true rfl))
-- ===== YOUR PART ENDS =====
set_option maxHeartbeats 4000000 in
theorem lw_walk (l : Launch) (b : Addr) (xs : List Int32) : MetFree l x (headSpec (Jvm.Cond.code x code maxLocals ret :: tables_1) room_1) (lw_P b xs) (fun _ _ _ _ _ => True) lw_Q := by
  refine MetFree.of_bodyS (code := code) (maxLocals := maxLocals) (ret := ret) (by decide) ?_ ?_
  · intro args s m h hn
    obtain ⟨meth, c, h1, h2, h3, h4, h5, h6, -, -⟩ := Cond.code_spec hn (atoms_spec (ws := Jvm.Cond.code x code maxLocals ret :: tables_1) h _ List.mem_cons_self)
    exact ⟨meth, c, h1, h2, h3, h4, h5, h6⟩
  · intro p e s m args below meth c s₁ B hml0 hP _
    obtain ⟨rfl, hx, hbd, hgv⟩ := hP
    obtain ⟨scr, harrAt, hlist, hof, hsmall⟩ := hx
    obtain ⟨hcb, hkn, -, -⟩ := State.arrayAt?_spec harrAt
    have hown : s.vm.findClass R_law = some m.cls := findClass_of_methodNamed B.named
    have hts0 : ∀ c ∈ (Jvm.Cond.code x code maxLocals ret :: tables_1), c.before #[Value.ref b] s = true := atoms_spec (ws := Jvm.Cond.code x code maxLocals ret :: tables_1) B.pre
    have hts : ∀ w ∈ lw_tbl, w.before #[Value.ref b] s = true := k2_hts_sels lw_privs (fun w hw => hts0 w (List.mem_cons_of_mem _ hw)) lw_privs_ok
    have hml : c.maxLocals = 4 := B.maxLocals_eq (hts0 _ List.mem_cons_self)
    have X₀ : Stand p l e room_1 s m #[Value.ref b] below meth c s₁ [] 0 0 := Stand.of_body B
    have hh0 : s₁.heap = s.heap := by rw [B.state]; rfl
    have hsz : scr.slots.size = xs.length := by rw [← Array.length_toList, hlist, List.length_map]
    have hval : ∀ j : Nat, j < xs.length → scr.slots[j]? = some (.int (xs.getD j 0)) := fun j hj => by
      rw [← Array.getElem?_toList, hlist]
      simp [hj]
    have hbl : b < s.heap.size := (Array.getElem?_eq_some_iff.mp hcb).1
    have hX : va_X b xs.length (fun j => xs.getD j 0) s s.heap := ⟨scr, hcb, hof, hkn, hsz, hval⟩
    have K : W p l e room_1 s m #[Value.ref b] below meth c s₁.heap [] 0 0 (lw_Z below #[Value.ref b] s) (entryFrame m ([Value.ref b] : List Value).toArray 4) := by
      rw [hh0]
      exact whole_start l hbd ⟨B.exec, B.bytes, B.returns, hml, hown, hts, hX, hbl, B.notSynchronized, hgv⟩
    obtain ⟨t, a1, o, b1, b2, b3⟩ := K s₁ rfl X₀
    exact ⟨t, o, a1, b1, b2, b3⟩
theorem lw_pre_spec {args : Array Value} {s : State} (h : (Jvm.Cond.and given_1 narrow_1).before args s = true) (hr : rest_1_c.before args s = true) : ∃ (b : Addr) (xs : List Int32), lw_P b xs args s := by
  have hs := flat_of_before _ h
  have hq := flat_of_before _ hr
  have hc : (Cond.count 1).before args s = true := hs _ (by decide +kernel)
  have harr : (Cond.arrayOf (.arg 0) .int).before args s = true := hs _ (by decide +kernel)
  have hle : (Cond.le (.length (.arg 0)) (.int 3074)).before args s = true := hs _ (by decide +kernel)
  have hlen : (Cond.isInt (.length (.arg 0))).before args s = true := hq _ (by decide +kernel)
  have hall : (Cond.all (.arg 0) (.isInt (.elem (.arg 0) (.index 0)))).before args s = true := hq _ (by decide +kernel)
  obtain ⟨b, xs, hb, hx⟩ := State.ints_of_pre rfl harr hlen hall
  have hsm : xs.length < 2 ^ 31 := hx.choose_spec.2.2.2
  have hev : (Term.length (.arg 0)).eval args s none [] s = some (.int xs.length.toInt32) := hx.length_eval hb
  have hv := Cond.le_ints hev (show (Term.int 3074).eval args s none [] s = some (.int 3074) from rfl)
  have hd : xs.length.toInt32 ≤ 3074 := by
    simpa [Cond.before, Cond.holds, hv] using hle
  have hN : xs.length ≤ 3074 := (Int32.ofNat_le_ofNat hsm (by decide)).mp (show Int32.ofNat xs.length ≤ Int32.ofNat 3074 from hd)
  exact ⟨b, xs, Cond.one_arg hc (show args[0]? = some (.ref b) from hb), hx, hN, h⟩
theorem lw_comes (l : Launch) : Comes l x (Jvm.Cond.code x code maxLocals ret :: tables_1) room_1 (fun tb e args s => Calls_1 tb e args s ∧ rest_1 tb e args s ∧ Pre_1 tb e args s)
    (fun _ _ args s o t => lw_Q args s o t) := by
  intro p e ha hc hk s m args below hf hfit hheap happ hpre
  obtain ⟨b, xs, hP⟩ := lw_pre_spec hpre.2.2 hpre.2.1
  obtain ⟨k, o, h1, h2, h3, hQ⟩ := lw_walk l b xs p e ha hc hk s m args below hf ((Spec.applies_iff_loose hf).mp happ).1 hP trivial
  exact ⟨k, o, h1, h2, h3, hQ⟩
theorem lw_frame {s t : State} {o : Outcome} {args : Array Value} (h : Framed s o t [] 600000 7302250) :
    Framed s o t (fieldLocs frame_1_writes args s ++ arrayLocs frame_1_arrays args s ++ staticLocs frame_1_statics s) 600000 7302250 := h
theorem lw_limb (L : Cond) (hL : ∀ (args : Array Value) (s t : State), L.after args s (.returned (some (.int 1))) t = true) :
    ArmFor flags0 classFile x code maxLocals ret World_1 tables_1 room_1 Calls_1 rest_1 Pre_1
      (fun tb e a s o t => postC L tb e a s o t ∧ Framed s o t (fieldLocs frame_1_writes a s ++ arrayLocs frame_1_arrays a s ++ staticLocs frame_1_statics s) 600000 7302250) := by
  intro l _ _ _ p e ha hc hk s m args below hf hfit hheap happ hpre
  obtain ⟨k, o, h1, h2, h3, rfl, hF⟩ := lw_comes l p e ha hc hk s m args below hf hfit hheap happ hpre
  exact ⟨k, _, h1, h2, h3, hL args s _, lw_frame hF⟩
theorem i_vc : Claimed_1_1 ∧ Claimed_1_2 := ⟨lw_limb limb_1_1 (fun args s t => by simp [limb_1_1, Cond.after, Cond.holds, Cond.value]), lw_limb limb_1_2 (fun args s t => Cond.after_iff.mpr (by
  first | (rw [show limb_1_2 = Cond.eq .result (.int 1) from rfl, Cond.eq_ints (x := 1) (y := 1) rfl rfl]; simp; done) | (simp [limb_1_2, Cond.value, Term.eval]; done)))⟩
