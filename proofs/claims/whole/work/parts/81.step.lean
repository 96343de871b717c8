/-! ===== what each call keeps ===== -/
section SX
variable {n : Nat} {wd hi : Int} {V V1 : Mem}
theorem Inv.same {b : Nat} (h : Inv V n wd hi b) (h1 : V1 1 = V 1) (h2 : V1 2 = V 2) (hp : ∀ p, b ≤ p → p < b + 14 → V1 p = V p) : Inv V1 n wd hi b := by
  obtain ⟨⟨a1, a2, a3⟩, a4, a5, a6⟩ := h
  unfold Inv
  rw [hp b (by omega) (by omega)]
  refine ⟨⟨a1.of h1 h2, by rw [hp _ (by omega) (by omega), hp _ (by omega) (by omega)]; exact a2, by rw [hp _ (by omega) (by omega)]; exact a3⟩, a4.of (hp _ (by omega) (by omega)) (hp _ (by omega) (by omega)) (hp _ (by omega) (by omega)) (hp _ (by omega) (by omega)) (hp _ (by omega) (by omega)) (hp _ (by omega) (by omega)) (hp _ (by omega) (by omega)), a5.of (hp _ (by omega) (by omega)) (hp _ (by omega) (by omega)) (hp _ (by omega) (by omega)), a6⟩
theorem TP.same (h : TP V) (h1 : V1 45 = V 45) (h2 : V1 46 = V 46) : TP V1 := by unfold TP; rw [h1, h2]; exact h
theorem WK.same (h : WK V n) (hp : ∀ p, 50 ≤ p → p ≤ 54 → V1 p = V p) : WK V1 n := by
  unfold WK; rw [hp 50 (by decide) (by decide), hp 51 (by decide) (by decide), hp 52 (by decide) (by decide), hp 53 (by decide) (by decide), hp 54 (by decide) (by decide)]; exact h
theorem FL.same (h : FL V n) (hp : ∀ p, 55 ≤ p → p ≤ 58 → V1 p = V p) : FL V1 n := by
  unfold FL; rw [hp 55 (by decide) (by decide), hp 56 (by decide) (by decide), hp 57 (by decide) (by decide), hp 58 (by decide) (by decide)]; exact h
/-- the shore of now alone has changed -/
theorem XI.now (h : XI V n wd hi) (hp : ∀ p, (p < bN ∨ bN + 14 ≤ p) → V1 p = V p) (hn : Inv V1 n wd hi bN) : XI V1 n wd hi := by
  obtain ⟨-, h2, h3, h4, h5, h6⟩ := h
  have e1 := bN3
  have e2 := bM17
  have e3 := bT31
  exact ⟨hn, h2.same (hp _ (by omega)) (hp _ (by omega)) (fun p _ _ => hp p (by omega)), by rw [hp _ (by omega)]; exact h3, h4.same (hp _ (by omega)) (hp _ (by omega)), h5.same (fun p _ _ => hp p (by omega)), h6.same (fun p _ _ => hp p (by omega))⟩
theorem Mid.inv {b : Nat} {t : Int} (h : Mid V n wd hi b t) (ht : t = 20 * V b 12) : Inv V n wd hi b := by subst ht; exact h
theorem XI.heap (h : XI V n wd hi) {c v : Int} (hc : 0 ≤ c ∧ c < (n : Int)) (hv : 0 ≤ v ∧ v ≤ 999) : XI (hput n wd hi bN c v (sp V (bN + 2) (ui (V (bN + 2)) c v))) n wd hi := by
  have e1 := bN3
  have iN := h.1
  have hd := iN.1.1.2.2.2.1
  refine h.now (fun p hp => by rw [hput_p _ _ (by omega), sp_n (by omega)]) ?_
  have hm : Mid (sp V (bN + 2) (ui (V (bN + 2)) c v)) n wd hi bN (20 * V bN 12) := by
    obtain ⟨⟨a1, a2, a3⟩, ⟨r2, r3, r4, r5, r6, r7, r8⟩, a5, a6⟩ := iN
    refine ⟨⟨a1.of (sp_n (by omega)) (sp_n (by omega)), by rw [sp_n (by omega), sp_n (by omega)]; exact a2, by rw [sp_n (by omega)]; exact a3⟩, ?_, a5.of (sp_n (by omega)) (sp_n (by omega)) (sp_n (by omega)), by rw [sp_n (by omega)]; exact a6⟩
    unfold DR
    rw [sp_s, sp_n (by omega), sp_n (by omega), sp_n (by omega), sp_n (by omega), sp_n (by omega), sp_n (by omega)]
    refine ⟨fun d d0 d1 => ?_, r3, r4, r5, r6, r7, r8⟩
    have := r2 d d0 d1
    unfold ui; split <;> omega
  refine Mid.inv (hm.heap (by decide) (HI.pile hd hm.1.2.1 hc.1 hc.2 hv.1 hv.2)) ?_
  show 20 * V bN 12 = 20 * hput n wd hi bN c v (sp V (bN + 2) (ui (V (bN + 2)) c v)) bN 12
  rw [hput_p _ _ (by omega), sp_n (by omega)]
theorem XI.lay (h : XI V n wd hi) {c k v : Int} (hk : 0 ≤ k ∧ k ≤ 3) (hv : 0 ≤ v ∧ v ≤ mlF k) : XI (layM bN c k v V) n wd hi := by
  have e1 := bN3
  refine h.now (fun p hp => layM_p (by omega)) ?_
  refine Mid.inv (Mid.lay (by decide) h.1.mid ?_) (by rw [layM_p (by omega)])
  unfold mlF at hv
  rcases (show k = 0 ∨ k = 1 ∨ k = 2 ∨ k = 3 by omega) with q | q | q | q
  · rw [if_pos q] at hv; exact Or.inl ⟨q, hv.1, hv.2⟩
  · rw [if_neg (by omega), if_pos q] at hv; exact Or.inr (Or.inl ⟨q, hv.1, hv.2⟩)
  · rw [if_neg (by omega), if_neg (by omega), if_pos q] at hv; exact Or.inr (Or.inr (Or.inl ⟨q, hv.1, hv.2⟩))
  · rw [if_neg (by omega), if_neg (by omega), if_neg (by omega)] at hv; exact Or.inr (Or.inr (Or.inr ⟨q, hv.1, hv.2⟩))
theorem XI.rules (h : XI V n wd hi) {a0 a1 a2 a3 a4 : Int} (h0 : 1 ≤ a0 ∧ a0 ≤ 5) (h1 : 0 ≤ a1 ∧ a1 ≤ 100) (h2 : 0 ≤ a2 ∧ a2 ≤ 100) (h3 : 1 ≤ a3 ∧ a3 ≤ 9) (h4 : 0 ≤ a4 ∧ a4 ≤ 20) : XI (hall n wd hi bN (rlM a0 a1 a2 a3 a4 V)) n wd hi := by
  have e1 := bN3
  have iN := h.1
  have hd := iN.1.1.2.2.2.1
  have eR : ∀ p, p ≠ bN + 10 → rlM a0 a1 a2 a3 a4 V p = V p := fun p hp => by unfold rlM; rw [st_p hp, st_p hp, st_p hp, st_p hp, st_p hp]
  have k0 : rlM a0 a1 a2 a3 a4 V (bN + 10) 0 = a0 := by unfold rlM; rw [st_k (by decide), st_k (by decide), st_k (by decide), st_k (by decide), st_s]
  have k1 : rlM a0 a1 a2 a3 a4 V (bN + 10) 1 = a1 := by unfold rlM; rw [st_k (by decide), st_k (by decide), st_k (by decide), st_s]
  have k2 : rlM a0 a1 a2 a3 a4 V (bN + 10) 2 = a2 := by unfold rlM; rw [st_k (by decide), st_k (by decide), st_s]
  have k3 : rlM a0 a1 a2 a3 a4 V (bN + 10) 3 = a3 := by unfold rlM; rw [st_k (by decide), st_s]
  have k4 : rlM a0 a1 a2 a3 a4 V (bN + 10) 4 = a4 := by unfold rlM; rw [st_s]
  refine h.now (fun p hp => by unfold hall; rw [sp_n (by omega), eR p (by omega)]) ?_
  obtain ⟨⟨s1, s2, s3⟩, ⟨r2, r3, r4, r5, r6, r7, r8⟩, s5, s6⟩ := iN
  unfold hall Inv
  rw [sp_n (show bN ≠ bN + 1 by omega), eR bN (by omega)]
  refine ⟨⟨(s1.of (eR _ (by omega)) (eR _ (by omega))).sp (by omega) _, ?_, by rw [sp_n (by omega), eR _ (by omega)]; exact s3⟩, ?_, s5.of (by rw [sp_n (by omega), eR _ (by omega)]) (by rw [sp_n (by omega), eR _ (by omega)]) (by rw [sp_n (by omega), eR _ (by omega)]), s6⟩
  · rw [sp_n (by omega), sp_s, k3, eR (bN + 1) (by omega)]
    exact HI.slope hd s2 h3.1 h3.2
  · unfold DR
    rw [sp_n (by omega), sp_n (by omega), sp_n (by omega), sp_n (by omega), sp_n (by omega), sp_n (by omega), sp_n (by omega), eR _ (by omega), eR _ (by omega), eR _ (by omega), eR _ (by omega), eR _ (by omega), eR _ (by omega), k0, k1, k2, k4]
    exact ⟨r2, r3, r4, r5, r6, r7, h0, h1, h2, h4⟩
theorem XI.seed (h : XI V n wd hi) (x : Int) : XI (st V bN 11 x) n wd hi := by
  have e1 := bN3
  exact h.now (fun p hp => st_p (by omega)) (Mid.inv (h.1.mid.scal (by decide) x (by decide)) (by rw [st_k (by decide)]))
/-- the tape alone has changed -/
theorem XI.tape (h : XI V n wd hi) (hp : ∀ p, p ≠ 45 → p ≠ 46 → V1 p = V p) (ht : TP V1) : XI V1 n wd hi := by
  obtain ⟨h1, h2, h3, -, h5, h6⟩ := h
  have e1 := bN3
  have e2 := bM17
  have e3 := bT31
  exact ⟨h1.same (hp _ (by omega) (by omega)) (hp _ (by omega) (by omega)) (fun p _ _ => hp p (by omega) (by omega)), h2.same (hp _ (by omega) (by omega)) (hp _ (by omega) (by omega)) (fun p _ _ => hp p (by omega) (by omega)), by rw [hp _ (by omega) (by omega)]; exact h3, ht, h5.same (fun p _ _ => hp p (by omega) (by omega)), h6.same (fun p _ _ => hp p (by omega) (by omega))⟩
theorem TP.put (h : TP V) (x : Int) (h4 : V 45 1 + 4 ≤ 200) : TP (apM x V) := by
  obtain ⟨e1, e2⟩ := byt_at x V
  have b1 := byt_rg x 24
  have b2 := byt_rg x 16
  have b3 := byt_rg x 8
  have b4 := byt_rg x 0
  unfold TP
  rw [e1, e2]
  refine ⟨by have := h.1; omega, fun k k0 k1 => ?_⟩
  have := h.2 k k0 k1
  unfold ui
  split
  · omega
  · split
    · omega
    · split
      · omega
      · split <;> omega
theorem XI.put (h : XI V n wd hi) (x : Int) (h4 : V 45 1 + 4 ≤ 200) : XI (apM x V) n wd hi := h.tape (fun p p0 p1 => apM_p _ _ p0 p1) (h.2.2.2.1.put x h4)
theorem XI.feed (h : XI V n wd hi) (a b c d e : Int) (h4 : V 45 1 + 20 ≤ 200) : XI (apM e (apM d (apM c (apM b (apM a V))))) n wd hi := by
  have t : ∀ (x : Int) (W : Mem), apM x W 45 1 = W 45 1 + 4 := fun x W => (byt_at x W).2
  exact ((((h.put a (by omega)).put b (by rw [t]; omega)).put c (by rw [t, t]; omega)).put d (by rw [t, t, t]; omega)).put e (by rw [t, t, t, t]; omega)
theorem XI.end (h : XI V n wd hi) {k : Int} (h0 : 0 ≤ k ∧ k ≤ V 45 1) : XI (st V 45 1 k) n wd hi := by
  refine h.tape (fun p p0 p1 => st_p p0) ?_
  have ht := h.2.2.2.1
  unfold TP
  rw [st_s, st_p (by decide)]
  exact ⟨by have := ht.1; omega, ht.2⟩
theorem XI.winds (h : XI V n wd hi) {z : Int} (hw : WdP V V1 z) : XI V1 n wd hi := by
  obtain ⟨x1, x2, x3, x4, x5, x6, x7⟩ := hw
  obtain ⟨h1, h2, h3, h4, h5, h6⟩ := h
  have e1 := bN3
  have e2 := bM17
  have e3 := bT31
  have hok := PR0_ok (V 46) (V 45 1)
  have eP : ∀ p, p ≠ 45 → (p < 47 ∨ 49 < p) → (p < bN + 11 ∨ bN + 13 < p) → V1 p = V p := fun p p0 p1 p2 => x5 p p0 (by omega) (by omega) (by omega) (by omega) (by omega) (by omega)
  refine ⟨?_, h2.same (eP _ (by omega) (by omega) (by omega)) (eP _ (by omega) (by omega) (by omega)) (fun p _ _ => eP p (by omega) (by omega) (by omega)), by rw [eP _ (by omega) (by omega) (by omega)]; exact h3, ?_, h5.same (fun p _ _ => eP p (by omega) (by omega) (by omega)), h6.same (fun p _ _ => eP p (by omega) (by omega) (by omega))⟩
  · by_cases q : (PR0 (V 46) (V 45 1)).1 = 0
    · obtain ⟨y1, y2, y3, y4⟩ := x7 q
      obtain ⟨⟨a1, a2, a3⟩, a4, a5, a6⟩ := h1
      unfold Inv
      rw [eP bN (by omega) (by omega) (by omega)]
      refine ⟨⟨a1.of (eP _ (by omega) (by omega) (by omega)) (eP _ (by omega) (by omega) (by omega)), by rw [eP _ (by omega) (by omega) (by omega), eP _ (by omega) (by omega) (by omega)]; exact a2, by rw [eP _ (by omega) (by omega) (by omega)]; exact a3⟩, a4.of (eP _ (by omega) (by omega) (by omega)) (eP _ (by omega) (by omega) (by omega)) (eP _ (by omega) (by omega) (by omega)) (eP _ (by omega) (by omega) (by omega)) (eP _ (by omega) (by omega) (by omega)) (eP _ (by omega) (by omega) (by omega)) (eP _ (by omega) (by omega) (by omega)), ?_, a6⟩
      have hr : ∀ k : Int, 0 ≤ k → k < V1 (bN + 11) 2 → (0 ≤ V1 (bN + 12) k ∧ V1 (bN + 12) k ≤ 4) ∧ 1 ≤ V1 (bN + 13) k ∧ V1 (bN + 13) k ≤ 60 := fun k k0 k1 => by
        rw [y1] at k1
        rw [(y4 k k0 k1).1, (y4 k k0 k1).2]
        exact hok.2.2 k k0 k1
      refine ⟨by rw [y1]; exact hok.1, by rw [y1]; exact hok.2.1, ?_, hr⟩
      have c0 := hok.1
      rw [← y1] at c0
      rcases (show V1 (bN + 11) 2 = 0 ∨ 0 < V1 (bN + 11) 2 by omega) with z | z
      · exact Or.inl ⟨z, y2⟩
      · have := hr 0 (by omega) z
        refine Or.inr ⟨by omega, by omega, by omega, ?_⟩
        rw [y2, y3]
        have e : V1 (bN + 11 + 2) 0 = V1 (bN + 13) 0 := rfl
        omega
    · obtain ⟨y1, y2, y3⟩ := x6 q
      refine h1.same (eP _ (by omega) (by omega) (by omega)) (eP _ (by omega) (by omega) (by omega)) (fun p p0 p1 => ?_)
      by_cases q1 : p = bN + 11
      · rw [q1]; exact y1
      · by_cases q2 : p = bN + 12
        · rw [q2]; exact y2
        · by_cases q3 : p = bN + 13
          · rw [q3]; exact y3
          · exact eP p (by omega) (by omega) (by omega)
  · unfold TP
    rw [x2, eP 46 (by omega) (by omega) (by omega)]
    exact ⟨by omega, h4.2⟩
theorem XI.days (h : XI V n wd hi) {k : Int} (h0 : 1 ≤ k) (h1 : V bN 12 + k ≤ 3000) : XI (psM n wd hi bN k.toNat V) n wd hi := by
  have e1 := bN3
  exact h.now (fun p hp => psM_p hp _ _) (h.1.pass (by decide) k.toNat (by omega)).1
theorem XI.storm (h : XI V n wd hi) {k : Int} (hk : 1 ≤ k ∧ k ≤ 999) : XI (cutM n wd hi bN k V) n wd hi := by
  have e1 := bN3
  have iN := h.1
  have hh := iN.1.2.1
  have hd := iN.1.1.2.2.2.1
  have hcut := HI.cut (g := cutF wd (V (bN + 1)) k (n : Int)) hd hh (fun c c0 c1 => by
    have p1 := hh.2.1 c c0 c1
    have p2 := lfr_rg (wd := wd) (h := V (bN + 1)) (by omega : 0 ≤ k) (by omega) hh.2.1 c.toNat (by omega)
    unfold cutF
    rw [if_pos ⟨c0, c1⟩]
    omega)
  refine h.now (fun p hp => by unfold cutM hall; rw [sp_n (by omega), st_p (by omega), sp_n (by omega)]) ?_
  have hm := iN.mid.scal (b := bN) (by decide) (k := 13) (V bN 13 + su n (tkF wd (V (bN + 1)) k)) (by decide)
  have e : cutM n wd hi bN k V = sp (st V bN 13 (V bN 13 + su n (tkF wd (V (bN + 1)) k))) (bN + 1) (stl n wd hi (V (bN + 10) 3) (cutF wd (V (bN + 1)) k (n : Int))) := by
    unfold cutM hall
    rw [st_p (by omega), st_p (by omega), sp_s, sp_n (by omega), st_out (by omega), sp_sp]
  rw [e]
  refine Mid.inv (hm.heap (by decide) (t1 := 20 * V bN 12) (by rw [st_p (by omega)]; exact hcut.2)) ?_
  rw [sp_n (by omega), st_k (by decide)]
theorem XI.work (h : XI V n wd hi) {k c v d : Int} (hk : 0 ≤ k ∧ k ≤ 2) (hc : 0 ≤ c ∧ c < (n : Int)) (hv : 1 ≤ v ∧ v ≤ 99) (hd : 0 ≤ d ∧ d ≤ 999) (h4 : V 50 4 < 4) : XI (wkM k c v d V) n wd hi := by
  obtain ⟨h1, h2, h3, ht, h5, h6⟩ := h
  have e1 := bN3
  have e2 := bM17
  have e3 := bT31
  have hp : ∀ p, (p < 50 ∨ 54 < p) → wkM k c v d V p = V p := fun p hp => by unfold wkM; rw [st_p (by omega), st_p (by omega), st_p (by omega), st_p (by omega), st_p (by omega)]
  refine ⟨h1.same (hp _ (by omega)) (hp _ (by omega)) (fun p _ _ => hp p (by omega)), h2.same (hp _ (by omega)) (hp _ (by omega)) (fun p _ _ => hp p (by omega)), by rw [hp _ (by omega)]; exact h3, ht.same (hp _ (by omega)) (hp _ (by omega)), ?_, h6.same (fun p _ _ => hp p (by omega))⟩
  have k0 : wkM k c v d V 50 4 = V 50 4 + 1 := st_s _ _ _ _
  have k1 : wkM k c v d V 51 = ui (V 51) (V 50 4) k := by unfold wkM; rw [st_p (by decide), st_p (by decide), st_p (by decide), st_p (by decide), st_ui]
  have k2 : wkM k c v d V 52 = ui (V 52) (V 50 4) c := by unfold wkM; rw [st_p (by decide), st_p (by decide), st_p (by decide), st_ui, st_p (by decide)]
  have k3 : wkM k c v d V 53 = ui (V 53) (V 50 4) v := by unfold wkM; rw [st_p (by decide), st_p (by decide), st_ui, st_p (by decide), st_p (by decide)]
  have k4 : wkM k c v d V 54 = ui (V 54) (V 50 4) d := by unfold wkM; rw [st_p (by decide), st_ui, st_p (by decide), st_p (by decide), st_p (by decide)]
  unfold WK
  rw [k0, k1, k2, k3, k4]
  refine ⟨by have := h5.1; omega, fun i i0 i1 => ?_⟩
  by_cases q : i = V 50 4
  · rw [q, ui_s, ui_s, ui_s, ui_s]; exact ⟨hk, hc, hv, hd⟩
  · rw [ui_n q, ui_n q, ui_n q, ui_n q]; exact h5.2 i i0 (by omega)
theorem XI.drop (h : XI V n wd hi) : XI (st V 50 4 0) n wd hi := by
  obtain ⟨h1, h2, h3, ht, h5, h6⟩ := h
  have e1 := bN3
  have e2 := bM17
  have e3 := bT31
  refine ⟨h1.same (st_p (by omega)) (st_p (by omega)) (fun p _ _ => st_p (by omega)), h2.same (st_p (by omega)) (st_p (by omega)) (fun p _ _ => st_p (by omega)), by rw [st_p (by omega)]; exact h3, ht.same (st_p (by omega)) (st_p (by omega)), ?_, h6.same (fun p _ _ => st_p (by omega))⟩
  unfold WK
  rw [st_s]
  exact ⟨by omega, fun i i0 i1 => by omega⟩
theorem XI.fly (h : XI V n wd hi) {c v d : Int} (hc : 0 ≤ c ∧ c < (n : Int)) (hv : 0 ≤ v ∧ v ≤ 9999) (hd : 0 ≤ d ∧ d ≤ 9) (h4 : V 55 3 < 20) : XI (flM c v d V) n wd hi := by
  obtain ⟨h1, h2, h3, ht, h5, h6⟩ := h
  have e1 := bN3
  have e2 := bM17
  have e3 := bT31
  have hp : ∀ p, p < 55 → flM c v d V p = V p := fun p hp => by unfold flM; rw [st_p (by omega), st_p (by omega), st_p (by omega), st_p (by omega)]
  refine ⟨h1.same (hp _ (by omega)) (hp _ (by omega)) (fun p _ _ => hp p (by omega)), h2.same (hp _ (by omega)) (hp _ (by omega)) (fun p _ _ => hp p (by omega)), by rw [hp _ (by omega)]; exact h3, ht.same (hp _ (by omega)) (hp _ (by omega)), h5.same (fun p _ _ => hp p (by omega)), ?_⟩
  have k0 : flM c v d V 55 3 = V 55 3 + 1 := st_s _ _ _ _
  have k1 : flM c v d V 56 = ui (V 56) (V 55 3) c := by unfold flM; rw [st_p (by decide), st_p (by decide), st_p (by decide), st_ui]
  have k2 : flM c v d V 57 = ui (V 57) (V 55 3) v := by unfold flM; rw [st_p (by decide), st_p (by decide), st_ui, st_p (by decide)]
  have k3 : flM c v d V 58 = ui (V 58) (V 55 3) d := by unfold flM; rw [st_p (by decide), st_ui, st_p (by decide), st_p (by decide)]
  unfold FL
  rw [k0, k1, k2, k3]
  refine ⟨by have := h6.1; omega, fun i i0 i1 => ?_⟩
  by_cases q : i = V 55 3
  · rw [q, ui_s, ui_s, ui_s]; exact ⟨hc, hv, hd⟩
  · rw [ui_n q, ui_n q, ui_n q]; exact h6.2 i i0 (by omega)
theorem XI.mark (h : XI V n wd hi) : XI (st (cpF V bM bN) 55 3 0) n wd hi := by
  obtain ⟨h1, h2, h3, ht, h5, h6⟩ := h
  have e1 := bN3
  have e2 := bM17
  have e3 := bT31
  have hp : ∀ p, (p < bM ∨ bM + 14 ≤ p) → p ≠ 55 → st (cpF V bM bN) 55 3 0 p = V p := fun p hp hq => by rw [st_p hq, cpF_p hp]
  have iM := Inv.cp (a := bN) (b := bM) (by decide) h1 h2.1.2.2
  refine ⟨h1.same (hp _ (by omega) (by omega)) (hp _ (by omega) (by omega)) (fun p _ _ => hp p (by omega) (by omega)), iM.same (st_p (by omega)) (st_p (by omega)) (fun p _ _ => st_p (by omega)), by rw [hp _ (by omega) (by omega)]; exact h3, ht.same (hp _ (by omega) (by omega)) (hp _ (by omega) (by omega)), h5.same (fun p _ _ => hp p (by omega) (by omega)), ?_⟩
  unfold FL
  rw [st_s]
  exact ⟨by omega, fun i i0 i1 => by omega⟩
theorem XI.hid (h : XI V n wd hi) (hh : hid V V1) : XI V1 n wd hi := by
  obtain ⟨h1, h2, h3, ht, h5, h6⟩ := h
  have e1 := bN3
  have e2 := bM17
  have e3 := bT31
  have hp := hh.1
  exact ⟨h1.same (hp _ (by omega) (by omega)) (hp _ (by omega) (by omega)) (fun p _ _ => hp p (by omega) (by omega)), h2.same (hp _ (by omega) (by omega)) (hp _ (by omega) (by omega)) (fun p _ _ => hp p (by omega) (by omega)), by rw [hh.2]; exact h3, ht.same (hp _ (by omega) (by omega)) (hp _ (by omega) (by omega)), h5.same (fun p _ _ => hp p (by omega) (by omega)), h6.same (fun p _ _ => hp p (by omega) (by omega))⟩
theorem MR.hid {W : Mem} (h : MR V W n wd hi) (hh : hid V V1) : MR V1 W n wd hi := by
  obtain ⟨U, f, g, eW, ⟨hU, h2, h3, h4, h5, h6, h7, ⟨w0, w1, w2, w3, w4⟩, f0, f1, f2, f3⟩, hf⟩ := h
  have e1 := bN3
  have e2 := bM17
  have e3 := bT31
  have hp := hh.1
  refine ⟨U, f, g, by rw [eW]; exact (pk_V (fun p _ _ => hp p (by omega) (by omega))).symm, ⟨hU, h2.of (by rw [hp _ (by omega) (by omega)]) (hp _ (by omega) (by omega)) (hp _ (by omega) (by omega)), h3.of (fun p _ _ => hp p (by omega) (by omega)), ?_⟩, hf⟩
  rw [hp 46 (by omega) (by omega), hp 45 (by omega) (by omega), hp 50 (by omega) (by omega), hp 51 (by omega) (by omega), hp 52 (by omega) (by omega), hp 53 (by omega) (by omega), hp 54 (by omega) (by omega), hp 55 (by omega) (by omega), hp 56 (by omega) (by omega), hp 57 (by omega) (by omega), hp 58 (by omega) (by omega)]
  exact ⟨h4, h5, h6, h7, ⟨w0, w1, w2, w3, w4⟩, f0, f1, f2, f3⟩
end SX
