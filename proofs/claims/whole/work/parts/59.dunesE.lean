section DY
variable {n b : Nat} {wd hi t : Int} {V : Mem}
theorem SK.pd {w : Nat} (h : SK V w) : SK (pdM w V) w := by
  obtain ⟨a1, a2, a3, a4⟩ := id h
  unfold pdM
  split
  · exact h
  · rename_i q0
    rcases a3 with ⟨z, -⟩ | ⟨c1, c2, c3, c4⟩
    · exact absurd z q0
    · split
      · rename_i q
        unfold SK
        rw [st_k (by decide), st_k (by decide), st_s, st_p (by omega), st_p (by omega)]
        exact ⟨a1, a2, Or.inr ⟨c1, c2, by omega, q⟩, a4⟩
      · have e2 : ∀ x : Int, st (st V w 4 0) w 3 x w 2 = V w 2 := fun x => by rw [st_k (by decide), st_k (by decide)]
        have e3 : ∀ x : Int, st (st V w 4 0) w 3 x w 3 = x := fun x => st_s _ _ _ _
        have e4 : ∀ x : Int, st (st V w 4 0) w 3 x w 4 = 0 := fun x => by rw [st_k (by decide), st_s]
        have e5 : ∀ x : Int, st (st V w 4 0) w 3 x (w + 1) = V (w + 1) := fun x => by rw [st_p (by omega), st_p (by omega)]
        have e6 : ∀ x : Int, st (st V w 4 0) w 3 x (w + 2) = V (w + 2) := fun x => by rw [st_p (by omega), st_p (by omega)]
        unfold SK
        rw [e2, e3, e4, e5, e6]
        refine ⟨a1, a2, Or.inr ?_, a4⟩
        split
        · have := a4 (V w 3 + 1) (by omega) (by assumption); omega
        · have := a4 0 (by omega) (by omega); omega
theorem pdM_p {w p : Nat} (h : p ≠ w) : pdM w V p = V p := by
  unfold pdM; split
  · rfl
  · split
    · exact st_p h
    · rw [st_p h, st_p h]
theorem Mid.pd (hb : 3 ≤ b) (h : Mid V n wd hi b t) : Mid (pdM (b + 11) V) n wd hi b t := by
  obtain ⟨⟨a1, a2, a3⟩, a4, a5, a6⟩ := h
  refine ⟨⟨a1.of (pdM_p (by omega)) (pdM_p (by omega)), ?_, ?_⟩, a4.of (pdM_p (by omega)) (pdM_p (by omega)) (pdM_p (by omega)) (pdM_p (by omega)) (pdM_p (by omega)) (pdM_p (by omega)) (pdM_p (by omega)), a5.pd, by rw [pdM_p (by omega)]; exact a6⟩
  · rw [pdM_p (by omega), pdM_p (by omega)]; exact a2
  · rw [pdM_p (by omega)]; exact a3
theorem Mid.day (hb : 3 ≤ b) (h : Mid V n wd hi b t) {d : Int} (h0 : 0 ≤ d) (h1 : d ≤ 3000) : Mid (st V b 12 d) n wd hi b t := by
  obtain ⟨⟨a1, a2, a3⟩, a4, a5, a6⟩ := h
  refine ⟨⟨a1.of (st_p (by omega)) (st_p (by omega)), ?_, ?_⟩, a4.of (st_p (by omega)) (st_p (by omega)) (st_p (by omega)) (st_p (by omega)) (st_p (by omega)) (st_p (by omega)) (st_p (by omega)), a5.of (st_p (by omega)) (st_p (by omega)) (st_p (by omega)), by rw [st_s]; exact ⟨h0, h1⟩⟩
  · rw [st_p (by omega), st_p (by omega)]; exact a2
  · rw [st_p (by omega)]; exact a3
theorem Mid.re (hb : 3 ≤ b) (h : Mid V n wd hi b t) : Mid (reM n b V) n wd hi b t := by
  obtain ⟨⟨a1, a2, a3⟩, ⟨r2, r3, r4, r5, r6, r7, r8⟩, a5, a6⟩ := h
  unfold reM
  refine ⟨⟨a1.sp (by omega) _, ?_, ?_⟩, ?_, a5.of (sp_n (by omega)) (sp_n (by omega)) (sp_n (by omega)), by rw [sp_n (by omega)]; exact a6⟩
  · rw [sp_n (by omega), sp_n (by omega)]; exact a2
  · rw [sp_n (by omega)]; exact a3
  · unfold DR
    rw [sp_n (by omega), sp_n (by omega), sp_n (by omega), sp_n (by omega), sp_n (by omega), sp_s, sp_n (by omega)]
    refine ⟨r2, r3, r4, r5, r6, fun c c0 c1 => ?_, r8⟩
    have := r7 c c0 c1
    dsimp only
    split <;> omega
theorem Mid.se (hb : 3 ≤ b) (h : Mid V n wd hi b t) : Mid (seM n b V) n wd hi b t := by
  obtain ⟨⟨a1, a2, a3⟩, ⟨r2, r3, r4, r5, r6, r7, r8⟩, a5, a6⟩ := h
  have hbn := (a2.ps a1.2.2.2.1).1
  unfold seM
  refine ⟨⟨(a1.sp (by omega) _).sp (by omega) _, ?_, ?_⟩, ?_, a5.of (sp_3 V (by omega) (by omega) _ _) (sp_3 V (by omega) (by omega) _ _) (sp_3 V (by omega) (by omega) _ _), by rw [sp_3 V (by omega) (by omega)]; exact a6⟩
  · rw [sp_3 V (by omega) (by omega), sp_3 V (by omega) (by omega)]; exact a2
  · rw [sp_3 V (by omega) (by omega)]; exact a3
  · unfold DR
    rw [sp_s, sp_ij V (by omega), sp_3 V (by omega) (by omega), sp_3 V (by omega) (by omega), sp_3 V (by omega) (by omega), sp_3 V (by omega) (by omega), sp_3 V (by omega) (by omega)]
    refine ⟨fun c c0 c1 => ?_, fun c c0 c1 => ?_, r4, r5, r6, r7, r8⟩
    · have := hbn c c0 c1
      dsimp only
      rw [if_pos ⟨c0, c1⟩]; exact this
    · have := r3 c c0 c1
      dsimp only
      split <;> omega
theorem reM_p {p : Nat} (h : p ≠ b + 7) : reM n b V p = V p := sp_n h
theorem seM_p {p : Nat} (h2 : p ≠ b + 2) (h3 : p ≠ b + 3) : seM n b V p = V p := by unfold seM; rw [sp_n h2, sp_n h3]
theorem SK.w {w : Nat} (h : SK V w) : 0 ≤ wnd w V ∧ wnd w V ≤ 4 := by
  obtain ⟨a1, a2, a3, a4⟩ := h
  unfold wnd
  split
  · omega
  · rcases a3 with ⟨z, -⟩ | ⟨c1, c2, -⟩
    · omega
    · exact (a4 _ c1 c2).1
theorem Inv.mid (h : Inv V n wd hi b) : Mid V n wd hi b (20 * V b 12) := h
theorem sups_p {p : Nat} (h0 : p ≠ b) (h1 : p ≠ b + 1) : ∀ k : Nat, itM (supM n wd hi b) k V p = V p
  | 0 => rfl
  | k + 1 => by
    show supM n wd hi b (itM (supM n wd hi b) k V) p = V p
    unfold supM
    rw [hput_p _ _ h1, drM_p h0, st_p h0]; exact sups_p h0 h1 k
theorem sups_12 : ∀ k : Nat, itM (supM n wd hi b) k V b 12 = V b 12
  | 0 => rfl
  | k + 1 => by
    show supM n wd hi b (itM (supM n wd hi b) k V) b 12 = V b 12
    unfold supM
    rw [hput_p _ _ (by omega), drM_k (by decide), st_k (by decide)]; exact sups_12 k
theorem lift_12 (w : Int) : liftM n wd hi b w V b 12 = V b 12 := by
  unfold liftM
  split
  · unfold flyM
    split
    · rw [loseM_k, landR_k _ _ _ _ (by decide), hput_p _ _ (by omega), lfM_k _ _ _ _ (by decide), drM_k (by decide)]
    · rw [hput_p _ _ (by omega), landR_k _ _ _ _ (by decide), hput_p _ _ (by omega), lfM_k _ _ _ _ (by decide), drM_k (by decide)]
  · rw [lfM_k _ _ _ _ (by decide), drM_k (by decide)]
theorem lifts_12 (w : Int) : ∀ k : Nat, itM (liftM n wd hi b w) k V b 12 = V b 12
  | 0 => rfl
  | k + 1 => (lift_12 w).trans (lifts_12 w k)
theorem Mid.A (hb : 3 ≤ b) (h : Inv V n wd hi b) (hd : V b 12 < 3000) : Mid (dayA n wd hi b V) n wd hi b (20 * (V b 12 + 1)) ∧ dayA n wd hi b V b 12 = V b 12 := by
  have hm := h.mid
  have r := hm.2.1.2.2.2.2.2.2.2.2.2
  have hdy := h.2.2.2
  unfold dayA
  split
  · refine ⟨?_, sups_12 _⟩
    have a := hm.sups hb (V (b + 10) 4).toNat (by omega)
    exact ⟨⟨a.1.1, a.1.2.1.more (by omega) (by omega), a.1.2.2⟩, a.2⟩
  · exact ⟨⟨⟨hm.1.1, hm.1.2.1.more (by omega) (by omega), hm.1.2.2⟩, hm.2⟩, rfl⟩
theorem Mid.B (hb : 3 ≤ b) (h : Mid V n wd hi b t) (w : Int) : Mid (dayB n wd hi b w V) n wd hi b t ∧ dayB n wd hi b w V b 12 = V b 12 := by
  unfold dayB
  split
  · exact ⟨h, rfl⟩
  · exact ⟨h.blow hb w n, lifts_12 w n⟩
theorem Mid.C (hb : 3 ≤ b) (h : Mid V n wd hi b t) (hd : V b 12 < 3000) : Mid (dayC n b V) n wd hi b t ∧ dayC n b V b 12 = V b 12 + 1 := by
  have e : pdM (b + 11) V b 12 = V b 12 := by rw [pdM_p (by omega)]
  have hdy := h.2.2.2
  refine ⟨((h.pd hb).day hb (by rw [e]; omega) (by rw [e]; omega)).re hb, ?_⟩
  unfold dayC
  rw [reM_p (by omega), st_s, e]
theorem Mid.E (hb : 3 ≤ b) (h : Mid V n wd hi b t) : Mid (dayE n b V) n wd hi b t ∧ dayE n b V b 12 = V b 12 := by
  unfold dayE
  split
  · exact ⟨h.se hb, by rw [seM_p (by omega) (by omega)]⟩
  · exact ⟨h, rfl⟩
theorem Inv.day (hb : 3 ≤ b) (h : Inv V n wd hi b) (hd : V b 12 < 3000) : Inv (dayM n wd hi b V) n wd hi b ∧ dayM n wd hi b V b 12 = V b 12 + 1 := by
  obtain ⟨a1, a2⟩ := Mid.A hb h hd
  obtain ⟨b1, b2⟩ := a1.B hb (wnd (b + 11) V)
  obtain ⟨c1, c2⟩ := b1.C hb (by omega)
  obtain ⟨d1, d2⟩ := c1.E hb
  have e : dayM n wd hi b V b 12 = V b 12 + 1 := by unfold dayM; rw [d2, c2, b2, a2]
  refine ⟨?_, e⟩
  unfold Inv
  rw [e]
  have q := d1.2.2.2
  exact ⟨d1.1, d1.2.1, d1.2.2.1, by rw [← e]; exact q⟩
theorem Inv.pass (hb : 3 ≤ b) (h : Inv V n wd hi b) : ∀ k : Nat, V b 12 + (k : Int) ≤ 3000 → Inv (psM n wd hi b k V) n wd hi b ∧ psM n wd hi b k V b 12 = V b 12 + (k : Int)
  | 0, _ => ⟨h, by show V b 12 = V b 12 + 0; omega⟩
  | k + 1, hk => by
    obtain ⟨a, e⟩ := Inv.pass hb h k (by omega)
    have := a.day hb (by omega)
    refine ⟨this.1, ?_⟩
    show dayM n wd hi b (psM n wd hi b k V) b 12 = _
    rw [this.2, e]; omega
/-! loops over the cells -/
def reF (V : Mem) (b : Nat) (i : Int) : Int → Int := fun c => if 0 ≤ c ∧ c < i ∧ 0 < V (b + 6) c ∧ V (b + 7) c = -1 ∧ V (b + 6) c ≤ V (b + 1) c then V b 12 else V (b + 7) c
theorem reF_0 : reF V b 0 = V (b + 7) := by funext c; unfold reF; rw [if_neg (by omega)]
theorem reF_yes {i : Int} (h0 : 0 ≤ i) (hq : 0 < V (b + 6) i ∧ V (b + 7) i = -1 ∧ V (b + 6) i ≤ V (b + 1) i) : ui (reF V b i) i (V b 12) = reF V b (i + 1) := by
  funext c; unfold ui reF
  by_cases e : c = i
  · subst e; rw [if_pos rfl, if_pos ⟨h0, by omega, hq⟩]
  · rw [if_neg e]
    by_cases q : 0 ≤ c ∧ c < i ∧ 0 < V (b + 6) c ∧ V (b + 7) c = -1 ∧ V (b + 6) c ≤ V (b + 1) c
    · rw [if_pos q, if_pos ⟨q.1, by omega, q.2.2⟩]
    · rw [if_neg q, if_neg (fun z => q ⟨z.1, by omega, z.2.2⟩)]
theorem reF_no {i : Int} (hq : ¬ (0 < V (b + 6) i ∧ V (b + 7) i = -1 ∧ V (b + 6) i ≤ V (b + 1) i)) : reF V b i = reF V b (i + 1) := by
  funext c; unfold reF
  by_cases e : c = i
  · subst e; rw [if_neg (by omega), if_neg (fun z => hq z.2.2)]
  · by_cases q : 0 ≤ c ∧ c < i ∧ 0 < V (b + 6) c ∧ V (b + 7) c = -1 ∧ V (b + 6) c ≤ V (b + 1) c
    · rw [if_pos q, if_pos ⟨q.1, by omega, q.2.2⟩]
    · rw [if_neg q, if_neg (fun z => q ⟨z.1, by omega, z.2.2⟩)]
theorem reF_i {i : Int} : reF V b i i = V (b + 7) i := by unfold reF; rw [if_neg (by omega)]
def seV (V : Mem) (b : Nat) (c : Int) : Int := max 0 (min 100 (V (b + 3) c + grw (V (b + 1) c - V (b + 2) c) - V (b + 5) c))
def seG (V : Mem) (b : Nat) (i : Int) : Int → Int := fun c => if 0 ≤ c ∧ c < i ∧ 0 < V (b + 3) c then seV V b c else V (b + 3) c
def seL (V : Mem) (b : Nat) (i : Int) : Int → Int := fun c => if 0 ≤ c ∧ c < i then V (b + 1) c else V (b + 2) c
theorem seG_0 : seG V b 0 = V (b + 3) := by funext c; unfold seG; rw [if_neg (by omega)]
theorem seL_0 : seL V b 0 = V (b + 2) := by funext c; unfold seL; rw [if_neg (by omega)]
theorem seG_i {i : Int} : seG V b i i = V (b + 3) i := by unfold seG; rw [if_neg (by omega)]
theorem seL_i {i : Int} : seL V b i i = V (b + 2) i := by unfold seL; rw [if_neg (by omega)]
theorem seG_yes {i : Int} (h0 : 0 ≤ i) (hq : 0 < V (b + 3) i) : ui (seG V b i) i (seV V b i) = seG V b (i + 1) := by
  funext c; unfold ui seG
  by_cases e : c = i
  · subst e; rw [if_pos rfl, if_pos ⟨h0, by omega, hq⟩]
  · rw [if_neg e]
    by_cases q : 0 ≤ c ∧ c < i ∧ 0 < V (b + 3) c
    · rw [if_pos q, if_pos ⟨q.1, by omega, q.2.2⟩]
    · rw [if_neg q, if_neg (fun z => q ⟨z.1, by omega, z.2.2⟩)]
theorem seG_no {i : Int} (hq : ¬ 0 < V (b + 3) i) : seG V b i = seG V b (i + 1) := by
  funext c; unfold seG
  by_cases e : c = i
  · subst e; rw [if_neg (by omega), if_neg (fun z => hq z.2.2)]
  · by_cases q : 0 ≤ c ∧ c < i ∧ 0 < V (b + 3) c
    · rw [if_pos q, if_pos ⟨q.1, by omega, q.2.2⟩]
    · rw [if_neg q, if_neg (fun z => q ⟨z.1, by omega, z.2.2⟩)]
theorem seL_s {i : Int} (h0 : 0 ≤ i) : ui (seL V b i) i (V (b + 1) i) = seL V b (i + 1) := by
  funext c; unfold ui seL
  by_cases e : c = i
  · subst e; rw [if_pos rfl, if_pos ⟨h0, by omega⟩]
  · rw [if_neg e]
    by_cases q : 0 ≤ c ∧ c < i
    · rw [if_pos q, if_pos ⟨q.1, by omega⟩]
    · rw [if_neg q, if_neg (fun z => q ⟨z.1, by omega⟩)]
theorem grw_rg (d : Int) : -30 ≤ grw d ∧ grw d ≤ 6 := by
  unfold grw
  split; omega
  split; omega
  split; omega
  split; omega
  split <;> omega
end DY

set_option maxHeartbeats 4000000 in
set_option maxRecDepth 100000 in
theorem c_X1_growth (l : Launch) {X : We} (V : Mem) (d : Int) (hd : rg d) : Mt l X V yX1_growth cX1_growth 1 (some .int) 0 0 [.int (jI d)] (Qi X (fun z V1 => z = grw d ∧ V1 = V)) := by
  refine Mt.go (by decide) (Nat.le_of_ble_eq_true rfl) ?_
  intro pg ev s0 mi bl mt cd ls Rm ag Qq hR hQ E hI hG hS hl
  have hl : lv_has ls 1 [(0, .int (jI d))] := hl
  unfold rg at hd
  have L42_1 : ∀ (z : Int), (z = grw d) → ∀ (H : Heap) (locs : List Loc) (ls : Array Slot), GW X V H → va_S (wA X) s0.heap H locs → lv_has ls 1 [] → W pg l ev Rm s0 mi ag bl mt cd H locs 0 0 Qq (F0 mi 42 ls [.int (jI z)]) := by
    intro z hz H locs ls hG hS hl
    exact r_i E hQ hG hS dX1_growth_42 (⟨hz, rfl⟩)
  refine x_iload_n E dX1_growth_0 (lv_at hl 0 rfl) ?_
  refine x_bipush E dX1_growth_1 (by decide) ?_
  refine x_icmp_ge E 9 dX1_growth_3 (by decide) (by unfold rg; omega) (by unfold rg; omega) (fun c3 => ?_) (fun c3 => ?_)
  · refine x_iload_n E dX1_growth_9 (lv_at hl 0 rfl) ?_
    refine x_if_ge E 16 dX1_growth_10 (by decide) (by unfold rg; omega) (fun c10 => ?_) (fun c10 => ?_)
    · refine x_iload_n E dX1_growth_16 (lv_at hl 0 rfl) ?_
      refine x_if_ne E 22 dX1_growth_17 (by decide) (by unfold rg; omega) (fun c17 => ?_) (fun c17 => ?_)
      · refine x_iload_n E dX1_growth_22 (lv_at hl 0 rfl) ?_
        refine x_iconst E dX1_growth_23 ?_
        refine x_icmp_gt E 30 dX1_growth_24 (by decide) (by unfold rg; omega) (by unfold rg; omega) (fun c24 => ?_) (fun c24 => ?_)
        · refine x_iload_n E dX1_growth_30 (lv_at hl 0 rfl) ?_
          refine x_bipush E dX1_growth_31 (by decide) ?_
          refine x_icmp_gt E 40 dX1_growth_33 (by decide) (by unfold rg; omega) (by unfold rg; omega) (fun c33 => ?_) (fun c33 => ?_)
          · refine x_bipush E dX1_growth_40 (by decide) ?_
            exact L42_1 (-30) (by unfold grw; rw [if_neg (by omega), if_neg (by omega), if_neg (by omega), if_neg (by omega), if_neg (by omega)]) _ _ _ hG hS (lv_sub hl [] rfl)
          · refine x_iconst E dX1_growth_36 ?_
            refine x_goto E 42 dX1_growth_37 (by decide) ?_
            exact L42_1 2 (by unfold grw; rw [if_neg (by omega), if_neg (by omega), if_neg (by omega), if_neg (by omega), if_pos (by omega)]) _ _ _ hG hS (lv_sub hl [] rfl)
        · refine x_bipush E dX1_growth_27 (by decide) ?_
          exact r_i E hQ hG hS dX1_growth_29 (⟨by unfold grw; rw [if_neg (by omega), if_neg (by omega), if_neg (by omega), if_pos (by omega)], rfl⟩)
      · refine x_iconst E dX1_growth_20 ?_
        exact r_i E hQ hG hS dX1_growth_21 (⟨by unfold grw; rw [if_neg (by omega), if_neg (by omega), if_pos (by omega)], rfl⟩)
    · refine x_bipush E dX1_growth_13 (by decide) ?_
      exact r_i E hQ hG hS dX1_growth_15 (⟨by unfold grw; rw [if_neg (by omega), if_pos (by omega)], rfl⟩)
  · refine x_bipush E dX1_growth_6 (by decide) ?_
    exact r_i E hQ hG hS dX1_growth_8 (⟨by unfold grw; rw [if_pos (by omega)], rfl⟩)

set_option maxHeartbeats 4000000 in
set_option maxRecDepth 100000 in
theorem c_X7_isWithin (l : Launch) {X : We} (V : Mem) (v lo up : Int) (h1 : rg v) (h2 : rg lo) (h3 : rg up) : Mt l X V yX7_isWithin cX7_isWithin 3 (some .boolean) 0 0 [.int (jI v), .int (jI lo), .int (jI up)] (Qi X (fun z V1 => z = b01 (lo ≤ v ∧ v ≤ up) ∧ V1 = V)) := by
  refine Mt.go (by decide) (Nat.le_of_ble_eq_true rfl) ?_
  intro pg ev s0 mi bl mt cd ls Rm ag Qq hR hQ E hI hG hS hl
  have hl : lv_has ls 3 [(0, .int (jI v)), (1, .int (jI lo)), (2, .int (jI up))] := hl
  unfold rg at h1 h2 h3
  have L15_1 : ∀ (z : Int), (z = b01 (lo ≤ v ∧ v ≤ up)) → ∀ (H : Heap) (locs : List Loc) (ls : Array Slot), GW X V H → va_S (wA X) s0.heap H locs → lv_has ls 3 [] → W pg l ev Rm s0 mi ag bl mt cd H locs 0 0 Qq (F0 mi 15 ls [.int (jI z)]) := by
    intro z hz H locs ls hG hS hl
    exact r_z E hQ hG hS dX7_isWithin_15 (by rw [hz]; exact b01_c) (⟨hz, rfl⟩)
  refine x_iload_n E dX7_isWithin_0 (lv_at hl 0 rfl) ?_
  refine x_iload_n E dX7_isWithin_1 (lv_at hl 1 rfl) ?_
  refine x_icmp_lt E 14 dX7_isWithin_2 (by decide) (by unfold rg; omega) (by unfold rg; omega) (fun c2 => ?_) (fun c2 => ?_)
  · refine x_iconst E dX7_isWithin_14 ?_
    exact L15_1 0 ((b01_0 (by omega)).symm) _ _ _ hG hS (lv_sub hl [] rfl)
  · refine x_iload_n E dX7_isWithin_5 (lv_at hl 0 rfl) ?_
    refine x_iload_n E dX7_isWithin_6 (lv_at hl 2 rfl) ?_
    refine x_icmp_gt E 14 dX7_isWithin_7 (by decide) (by unfold rg; omega) (by unfold rg; omega) (fun c7 => ?_) (fun c7 => ?_)
    · refine x_iconst E dX7_isWithin_14 ?_
      exact L15_1 0 ((b01_0 (by omega)).symm) _ _ _ hG hS (lv_sub hl [] rfl)
    · refine x_iconst E dX7_isWithin_10 ?_
      refine x_goto E 15 dX7_isWithin_11 (by decide) ?_
      exact L15_1 1 ((b01_1 (by omega)).symm) _ _ _ hG hS (lv_sub hl [] rfl)

set_option maxHeartbeats 4000000 in
set_option maxRecDepth 100000 in
theorem c_X7_nearest (l : Launch) {X : We} (V : Mem) (v lo up : Int) (h1 : rg v) (h2 : rg lo) (h3 : rg up) : Mt l X V yX7_nearest cX7_nearest 3 (some .int) 1 24 [.int (jI v), .int (jI lo), .int (jI up)] (Qi X (fun z V1 => z = max lo (min up v) ∧ V1 = V)) := by
  refine Mt.go (by decide) (Nat.le_of_ble_eq_true rfl) ?_
  intro pg ev s0 mi bl mt cd ls Rm ag Qq hR hQ E hI hG hS hl
  have hl : lv_has ls 3 [(0, .int (jI v)), (1, .int (jI lo)), (2, .int (jI up))] := hl
  unfold rg at h1 h2 h3
  refine x_iload_n E dX7_nearest_0 (lv_at hl 1 rfl) ?_
  refine x_iload_n E dX7_nearest_1 (lv_at hl 2 rfl) ?_
  refine x_iload_n E dX7_nearest_2 (lv_at hl 0 rfl) ?_
  refine x_min E hl km_X7_190 (by rw [hR]; exact ⟨Nat.le_of_ble_eq_true rfl, Nat.le_of_ble_eq_true rfl⟩) ⟨Nat.zero_le _, Nat.zero_le _⟩ (by unfold rg; omega) (by unfold rg; omega) dX7_nearest_3 ?_
  refine x_max E hl km_X7_195 (by rw [hR]; exact ⟨Nat.le_of_ble_eq_true rfl, Nat.le_of_ble_eq_true rfl⟩) ⟨Nat.zero_le _, Nat.zero_le _⟩ (by unfold rg; omega) (by unfold rg; omega) dX7_nearest_6 ?_
  exact r_i E hQ hG hS dX7_nearest_9 (⟨rfl, rfl⟩)

set_option maxHeartbeats 4000000 in
set_option maxRecDepth 100000 in
theorem c_X5_next (l : Launch) {X : We} {n w : Nat} (hX : isX X n) (hw : isW w) (V : Mem) (hk : SK V w) : Mt l X V yX5_next cX5_next 1 (some .int) 0 0 [.ref (wa X w)] (Qi X (fun z V1 => z = wnd w V ∧ V1 = V)) := by
  refine Mt.go (by decide) (Nat.le_of_ble_eq_true rfl) ?_
  intro pg ev s0 mi bl mt cd ls Rm ag Qq hR hQ E hI hG hS hl
  have hl : lv_has ls 1 [(0, .ref (wa X w))] := hl
  obtain ⟨a1, a2, a3, a4⟩ := id hk
  have L43_1 : ∀ (z : Int), (z = wnd w V) → ∀ (H : Heap) (locs : List Loc) (ls : Array Slot), GW X V H → va_S (wA X) s0.heap H locs → lv_has ls 1 [] → W pg l ev Rm s0 mi ag bl mt cd H locs 0 0 Qq (F0 mi 43 ls [.int (jI z)]) := by
    intro z hz H locs ls hG hS hl
    exact r_i E hQ hG hS dX5_next_43 (⟨hz, rfl⟩)
  have L42_2 : (V w 2 = 0) → ∀ (H : Heap) (locs : List Loc) (ls : Array Slot), GW X V H → va_S (wA X) s0.heap H locs → lv_has ls 1 [] → W pg l ev Rm s0 mi ag bl mt cd H locs 0 0 Qq (F0 mi 42 ls []) := by
    intro  hy H locs ls hG hS hl
    refine x_iconst E dX5_next_42 ?_
    exact L43_1 4 (by unfold wnd; rw [if_pos hy]) _ _ _ hG hS (lv_sub hl [] rfl)
  refine x_aload_n E dX5_next_0 (lv_at hl 0 rfl) ?_
  refine x_geti E hI hG (xw0 hX hw) cf5 3 (V w 3) rfl (by decide) rfl kf_X5_22 dX5_next_1 ?_
  refine x_if_lt E 42 dX5_next_4 (by decide) (by unfold rg; omega) (fun c4 => ?_) (fun c4 => ?_)
  · exact L42_2  (by omega) _ _ _ hG hS (lv_sub hl [] rfl)
  · refine x_aload_n E dX5_next_7 (lv_at hl 0 rfl) ?_
    refine x_geti E hI hG (xw0 hX hw) cf5 3 (V w 3) rfl (by decide) rfl kf_X5_22 dX5_next_8 ?_
    refine x_aload_n E dX5_next_11 (lv_at hl 0 rfl) ?_
    refine x_geti E hI hG (xw0 hX hw) cf5 2 (V w 2) rfl (by decide) rfl kf_X5_18 dX5_next_12 ?_
    refine x_icmp_ge E 42 dX5_next_15 (by decide) (by unfold rg; omega) (by unfold rg; omega) (fun c15 => ?_) (fun c15 => ?_)
    · exact L42_2  (by omega) _ _ _ hG hS (lv_sub hl [] rfl)
    · refine x_aload_n E dX5_next_18 (lv_at hl 0 rfl) ?_
      refine x_geti E hI hG (xw0 hX hw) cf5 3 (V w 3) rfl (by decide) rfl kf_X5_22 dX5_next_19 ?_
      refine x_aload_n E dX5_next_22 (lv_at hl 0 rfl) ?_
      refine x_getr E hI hG (xw0 hX hw) cf5 0 (w + 1) rfl (by decide) kf_X5_9 dX5_next_23 ?_
      refine x_alen E hI hG (xw1 hX hw) (by decide) dX5_next_26 ?_
      refine x_icmp_ge E 42 dX5_next_27 (by decide) (by unfold rg; omega) (by unfold rg; omega) (fun c27 => ?_) (fun c27 => ?_)
      · exact L42_2  (by omega) _ _ _ hG hS (lv_sub hl [] rfl)
      · refine x_aload_n E dX5_next_30 (lv_at hl 0 rfl) ?_
        refine x_getr E hI hG (xw0 hX hw) cf5 0 (w + 1) rfl (by decide) kf_X5_9 dX5_next_31 ?_
        refine x_aload_n E dX5_next_34 (lv_at hl 0 rfl) ?_
        refine x_geti E hI hG (xw0 hX hw) cf5 3 (V w 3) rfl (by decide) rfl kf_X5_22 dX5_next_35 ?_
        refine x_iald E hI hG (xw1 hX hw) (V (w + 1) (V w 3)) rfl (by omega) dX5_next_38 ?_
        refine x_goto E 43 dX5_next_39 (by decide) ?_
        exact L43_1 (V (w + 1) (V w 3)) (by unfold wnd; rw [if_neg (by omega)]) _ _ _ hG hS (lv_sub hl [] rfl)

set_option maxHeartbeats 4000000 in
set_option maxRecDepth 100000 in
theorem c_X5_passDay (l : Launch) {X : We} {n w : Nat} (hX : isX X n) (hw : isW w) (V : Mem) (hk : SK V w) : Mt l X V yX5_passDay cX5_passDay 1 none 0 0 [.ref (wa X w)] (Qv X (fun V1 => V1 = pdM w V)) := by
  refine Mt.go (by decide) (Nat.le_of_ble_eq_true rfl) ?_
  intro pg ev s0 mi bl mt cd ls Rm ag Qq hR hQ E hI hG hS hl
  have hl : lv_has ls 1 [(0, .ref (wa X w))] := hl
  obtain ⟨a1, a2, a3, a4⟩ := id hk
  have L30_1 : (V w 2 = 0) → ∀ (H : Heap) (locs : List Loc) (ls : Array Slot), GW X V H → va_S (wA X) s0.heap H locs → lv_has ls 1 [] → W pg l ev Rm s0 mi ag bl mt cd H locs 0 0 Qq (F0 mi 30 ls []) := by
    intro  hy H locs ls hG hS hl
    exact r_v E hQ hG hS dX5_passDay_30 (by unfold pdM; rw [if_pos hy])
  refine x_aload_n E dX5_passDay_0 (lv_at hl 0 rfl) ?_
  refine x_geti E hI hG (xw0 hX hw) cf5 3 (V w 3) rfl (by decide) rfl kf_X5_22 dX5_passDay_1 ?_
  refine x_if_lt E 30 dX5_passDay_4 (by decide) (by unfold rg; omega) (fun c4 => ?_) (fun c4 => ?_)
  · exact L30_1  (by omega) _ _ _ hG hS (lv_sub hl [] rfl)
  · refine x_aload_n E dX5_passDay_7 (lv_at hl 0 rfl) ?_
    refine x_geti E hI hG (xw0 hX hw) cf5 3 (V w 3) rfl (by decide) rfl kf_X5_22 dX5_passDay_8 ?_
    refine x_aload_n E dX5_passDay_11 (lv_at hl 0 rfl) ?_
    refine x_geti E hI hG (xw0 hX hw) cf5 2 (V w 2) rfl (by decide) rfl kf_X5_18 dX5_passDay_12 ?_
    refine x_icmp_ge E 30 dX5_passDay_15 (by decide) (by unfold rg; omega) (by unfold rg; omega) (fun c15 => ?_) (fun c15 => ?_)
    · exact L30_1  (by omega) _ _ _ hG hS (lv_sub hl [] rfl)
    · refine x_aload_n E dX5_passDay_18 (lv_at hl 0 rfl) ?_
      refine x_geti E hI hG (xw0 hX hw) cf5 3 (V w 3) rfl (by decide) rfl kf_X5_22 dX5_passDay_19 ?_
      refine x_aload_n E dX5_passDay_22 (lv_at hl 0 rfl) ?_
      refine x_getr E hI hG (xw0 hX hw) cf5 1 (w + 2) rfl (by decide) kf_X5_15 dX5_passDay_23 ?_
      refine x_alen E hI hG (xw2 hX hw) (by decide) dX5_passDay_26 ?_
      refine x_icmp_lt E 31 dX5_passDay_27 (by decide) (by unfold rg; omega) (by unfold rg; omega) (fun c27 => ?_) (fun c27 => ?_)
      · have q0 : V w 2 ≠ 0 := by omega
        have hk4 := a4 (V w 3) (by omega) (by omega)
        have L89_2 : ∀ (U : Mem), (U = pdM w V) → ∀ (H : Heap) (locs : List Loc) (ls : Array Slot), GW X U H → va_S (wA X) s0.heap H locs → lv_has ls 1 [] → W pg l ev Rm s0 mi ag bl mt cd H locs 0 0 Qq (F0 mi 89 ls []) := by
          intro U hu H locs ls hG hS hl
          exact r_v E hQ hG hS dX5_passDay_89 hu
        refine x_aload_n E dX5_passDay_31 (lv_at hl 0 rfl) ?_
        refine x_dup E dX5_passDay_32 rfl ?_
        refine x_geti E hI hG (xw0 hX hw) cf5 4 (V w 4) rfl (by decide) rfl kf_X5_25 dX5_passDay_33 ?_
        refine x_iconst E dX5_passDay_36 ?_
        refine x_iadd E dX5_passDay_37 ?_
        refine x_puti E hI hG hS (xw0 hX hw) cf5 4 4 rfl rfl (by decide) rfl rfl kf_X5_25 dX5_passDay_38 (fun H locs hG hS => ?_)
        refine x_aload_n E dX5_passDay_41 (lv_at hl 0 rfl) ?_
        refine x_geti E hI hG (xw0 hX hw) cf5 4 (V w 4 + 1) rfl (by decide) (show (st V w 4 ((V w 4) + 1)) w 4 = V w 4 + 1 from (st_s _ _ _ _)) kf_X5_25 dX5_passDay_42 ?_
        refine x_aload_n E dX5_passDay_45 (lv_at hl 0 rfl) ?_
        refine x_getr E hI hG (xw0 hX hw) cf5 1 (w + 2) rfl (by decide) kf_X5_15 dX5_passDay_46 ?_
        refine x_aload_n E dX5_passDay_49 (lv_at hl 0 rfl) ?_
        refine x_geti E hI hG (xw0 hX hw) cf5 3 (V w 3) rfl (by decide) (show (st V w 4 ((V w 4) + 1)) w 3 = V w 3 from (by rw [st_k (by decide)])) kf_X5_22 dX5_passDay_50 ?_
        refine x_iald E hI hG (xw2 hX hw) (V (w + 2) (V w 3)) (by rw [st_p (by omega)]) (by omega) dX5_passDay_53 ?_
        refine x_icmp_lt E 89 dX5_passDay_54 (by decide) (by unfold rg; omega) (by unfold rg; omega) (fun c54 => ?_) (fun c54 => ?_)
        · exact L89_2 (st V w 4 (V w 4 + 1)) (by unfold pdM; rw [if_neg q0, if_pos c54]) _ _ _ hG hS (lv_sub hl [] rfl)
        · refine x_aload_n E dX5_passDay_57 (lv_at hl 0 rfl) ?_
          refine x_iconst E dX5_passDay_58 ?_
          refine x_puti E hI hG hS (xw0 hX hw) cf5 4 4 rfl rfl (by decide) rfl rfl kf_X5_25 dX5_passDay_59 (fun H locs hG hS => ?_)
          rw [show (st (st V w 4 ((V w 4) + 1)) w 4 0) = (st V w 4 0) from by rw [st_sp, st_sp, sp_s, sp_sp, ui_ui, st_sp]] at hG
          have L86_3 : ∀ (z : Int), (z = if V w 3 + 1 < V w 2 then V w 3 + 1 else 0) → ∀ (H : Heap) (locs : List Loc) (ls : Array Slot), GW X (st V w 4 0) H → va_S (wA X) s0.heap H locs → lv_has ls 1 [] → W pg l ev Rm s0 mi ag bl mt cd H locs 0 0 Qq (F0 mi 86 ls [.int (jI z), .ref (wa X w)]) := by
            intro z hz H locs ls hG hS hl
            refine x_puti E hI hG hS (xw0 hX hw) cf5 3 3 rfl rfl (by decide) rfl rfl kf_X5_22 dX5_passDay_86 (fun H locs hG hS => ?_)
            exact L89_2 (st (st V w 4 0) w 3 z) (by unfold pdM; rw [if_neg q0, if_neg c54, hz]) _ _ _ hG hS (lv_sub hl [] rfl)
          refine x_aload_n E dX5_passDay_62 (lv_at hl 0 rfl) ?_
          refine x_aload_n E dX5_passDay_63 (lv_at hl 0 rfl) ?_
          refine x_geti E hI hG (xw0 hX hw) cf5 3 (V w 3) rfl (by decide) (show (st V w 4 0) w 3 = V w 3 from (st_k (by decide))) kf_X5_22 dX5_passDay_64 ?_
          refine x_iconst E dX5_passDay_67 ?_
          refine x_iadd E dX5_passDay_68 ?_
          refine x_aload_n E dX5_passDay_69 (lv_at hl 0 rfl) ?_
          refine x_geti E hI hG (xw0 hX hw) cf5 2 (V w 2) rfl (by decide) (show (st V w 4 0) w 2 = V w 2 from (st_k (by decide))) kf_X5_18 dX5_passDay_70 ?_
          refine x_icmp_ge E 85 dX5_passDay_73 (by decide) (by unfold rg; omega) (by unfold rg; omega) (fun c73 => ?_) (fun c73 => ?_)
          · refine x_iconst E dX5_passDay_85 ?_
            exact L86_3 0 (by rw [if_neg (by omega)]) _ _ _ hG hS (lv_sub hl [] rfl)
          · refine x_aload_n E dX5_passDay_76 (lv_at hl 0 rfl) ?_
            refine x_geti E hI hG (xw0 hX hw) cf5 3 (V w 3) rfl (by decide) (show (st V w 4 0) w 3 = V w 3 from (st_k (by decide))) kf_X5_22 dX5_passDay_77 ?_
            refine x_iconst E dX5_passDay_80 ?_
            refine x_iadd E dX5_passDay_81 ?_
            refine x_goto E 86 dX5_passDay_82 (by decide) ?_
            exact L86_3 (V w 3 + 1) (by rw [if_pos (by omega)]) _ _ _ hG hS (lv_sub hl [] rfl)
      · omega

set_option maxHeartbeats 4000000 in
set_option maxRecDepth 100000 in
theorem c_X1_reachHouses (l : Launch) {X : We} {n b : Nat} (hX : isX X n) (hb : isD b) {wd hi t : Int} (V : Mem) (hk : Mid V n wd hi b t) : Mt l X V yX1_reachHouses cX1_reachHouses 2 none 0 0 [.ref (wa X b)] (Qv X (fun V1 => V1 = reM n b V)) := by
  refine Mt.go (by decide) (Nat.le_of_ble_eq_true rfl) ?_
  intro pg ev s0 mi bl mt cd ls Rm ag Qq hR hQ E hI hG hS hl
  have hl : lv_has ls 2 [(0, .ref (wa X b))] := hl
  obtain ⟨⟨hs, hh, hz⟩, ⟨r2, r3, r4, r5, r6, r7, r8, r9, r10, r11⟩, hsk, hday⟩ := id hk
  have hd := hs.2.2.2.1
  have hbn : bnd n 0 9500 (V (b + 1)) := hh.ps hd |>.1
  obtain ⟨hn1, hn2⟩ := dims.n hd
  obtain ⟨hb1, hb2⟩ := isD.ge hb
  rw [show V = sp V (b + 7) (reF V b 0) by rw [reF_0, sp_self]] at hG
  refine x_iconst E dX1_reachHouses_0 ?_
  refine x_istore_n E [(1, .int (jI 0)), (0, .ref (wa X b))] dX1_reachHouses_1 hl (by decide) rfl (fun ls hl => ?_)
  have L2_1 : ∀ (N : Nat) (i : Int), (0 ≤ i) → (i ≤ (n : Int)) → (((n : Int) - i).toNat) < N → ∀ (H : Heap) (locs : List Loc) (ls : Array Slot), GW X (sp V (b + 7) (reF V b i)) H → va_S (wA X) s0.heap H locs → lv_has ls 2 [(0, .ref (wa X b)), (1, .int (jI i))] → W pg l ev Rm s0 mi ag bl mt cd H locs 0 0 Qq (F0 mi 2 ls []) := by
    intro N
    induction N with
    | zero => intro i i0 i1 hN; exact absurd hN (Nat.not_lt_zero _)
    | succ N ih2 =>
      intro i i0 i1 hN H locs ls hG hS hl
      refine x_iload_n E dX1_reachHouses_2 (lv_at hl 1 rfl) ?_
      refine x_aload_n E dX1_reachHouses_3 (lv_at hl 0 rfl) ?_
      refine x_getr E hI hG (xd0 hX hb) cf1 1 (b + 1) rfl (by decide) kf_X1_45 dX1_reachHouses_4 ?_
      refine x_alen E hI hG (xd1 hX hb) (by decide) dX1_reachHouses_7 ?_
      refine x_icmp_ge E 61 dX1_reachHouses_8 (by decide) (by unfold rg; omega) (by unfold rg; omega) (fun c8 => ?_) (fun c8 => ?_)
      · exact r_v E hQ hG hS dX1_reachHouses_61 (by unfold reM; rw [show i = (n : Int) by omega]; rfl)
      · have q1 := r6 i i0 (by omega)
        have q2 := r7 i i0 (by omega)
        have q3 := hbn i i0 (by omega)
        have L55_2 : ∀ (H : Heap) (locs : List Loc) (ls : Array Slot), GW X (sp V (b + 7) (reF V b (i + 1))) H → va_S (wA X) s0.heap H locs → lv_has ls 2 [(0, .ref (wa X b)), (1, .int (jI i))] → W pg l ev Rm s0 mi ag bl mt cd H locs 0 0 Qq (F0 mi 55 ls []) := by
          intro   H locs ls hG hS hl
          refine x_iinc E (k := 1) [(1, .int (jI (i + 1))), (0, .ref (wa X b))] dX1_reachHouses_55 hl rfl (by decide) rfl (fun ls hl => ?_)
          refine x_goto E 2 dX1_reachHouses_58 (by decide) ?_
          exact ih2 (i + 1) (by omega) (by omega) (by omega) _ _ _ hG hS (lv_sub hl [1, 0] rfl)
        refine x_aload_n E dX1_reachHouses_11 (lv_at hl 0 rfl) ?_
        refine x_getr E hI hG (xd0 hX hb) cf1 6 (b + 6) rfl (by decide) kf_X1_60 dX1_reachHouses_12 ?_
        refine x_iload_n E dX1_reachHouses_15 (lv_at hl 1 rfl) ?_
        refine x_iald E hI hG (xd6 hX hb) (V (b + 6) i) (by rw [sp_n (by omega)]) (by omega) dX1_reachHouses_16 ?_
        refine x_if_le E 55 dX1_reachHouses_17 (by decide) (by unfold rg; omega) (fun c17 => ?_) (fun c17 => ?_)
        · rw [reF_no (by omega)] at hG
          exact L55_2   _ _ _ hG hS (lv_sub hl [0, 1] rfl)
        · refine x_aload_n E dX1_reachHouses_20 (lv_at hl 0 rfl) ?_
          refine x_getr E hI hG (xd0 hX hb) cf1 7 (b + 7) rfl (by decide) kf_X1_63 dX1_reachHouses_21 ?_
          refine x_iload_n E dX1_reachHouses_24 (lv_at hl 1 rfl) ?_
          refine x_iald E hI hG (xd7 hX hb) (V (b + 7) i) (by rw [sp_s]; exact reF_i) (by omega) dX1_reachHouses_25 ?_
          refine x_iconst E dX1_reachHouses_26 ?_
          refine x_icmp_ne E 55 dX1_reachHouses_27 (by decide) (by unfold rg; omega) (by unfold rg; omega) (fun c27 => ?_) (fun c27 => ?_)
          · rw [reF_no (by omega)] at hG
            exact L55_2   _ _ _ hG hS (lv_sub hl [0, 1] rfl)
          · refine x_aload_n E dX1_reachHouses_30 (lv_at hl 0 rfl) ?_
            refine x_getr E hI hG (xd0 hX hb) cf1 1 (b + 1) rfl (by decide) kf_X1_45 dX1_reachHouses_31 ?_
            refine x_iload_n E dX1_reachHouses_34 (lv_at hl 1 rfl) ?_
            refine x_iald E hI hG (xd1 hX hb) (V (b + 1) i) (by rw [sp_n (by omega)]) (by omega) dX1_reachHouses_35 ?_
            refine x_aload_n E dX1_reachHouses_36 (lv_at hl 0 rfl) ?_
            refine x_getr E hI hG (xd0 hX hb) cf1 6 (b + 6) rfl (by decide) kf_X1_60 dX1_reachHouses_37 ?_
            refine x_iload_n E dX1_reachHouses_40 (lv_at hl 1 rfl) ?_
            refine x_iald E hI hG (xd6 hX hb) (V (b + 6) i) (by rw [sp_n (by omega)]) (by omega) dX1_reachHouses_41 ?_
            refine x_icmp_lt E 55 dX1_reachHouses_42 (by decide) (by unfold rg; omega) (by unfold rg; omega) (fun c42 => ?_) (fun c42 => ?_)
            · rw [reF_no (by omega)] at hG
              exact L55_2   _ _ _ hG hS (lv_sub hl [0, 1] rfl)
            · refine x_aload_n E dX1_reachHouses_45 (lv_at hl 0 rfl) ?_
              refine x_getr E hI hG (xd0 hX hb) cf1 7 (b + 7) rfl (by decide) kf_X1_63 dX1_reachHouses_46 ?_
              refine x_iload_n E dX1_reachHouses_49 (lv_at hl 1 rfl) ?_
              refine x_aload_n E dX1_reachHouses_50 (lv_at hl 0 rfl) ?_
              refine x_geti E hI hG (xd0 hX hb) cf1 12 (V b 12) rfl (by decide) (show (sp V (b + 7) (reF V b i)) b 12 = V b 12 from (by rw [sp_n (by omega)])) kf_X1_74 dX1_reachHouses_51 ?_
              refine x_iast E hI hG hS (xd7 hX hb) (by omega) dX1_reachHouses_54 (fun H locs hG hS => ?_)
              rw [show (st (sp V (b + 7) (reF V b i)) (b + 7) i (V b 12)) = (sp V (b + 7) (reF V b (i + 1))) from by rw [st_sp, sp_s, sp_sp, reF_yes i0 (by omega)]] at hG
              exact L55_2   _ _ _ hG hS (lv_sub hl [0, 1] rfl)
  exact L2_1 _ 0 (by omega) (by omega) (Nat.lt_succ_self _) _ _ _ hG hS (lv_sub hl [1, 0] rfl)

set_option maxHeartbeats 4000000 in
set_option maxRecDepth 100000 in
theorem c_X1_passSeason (l : Launch) {X : We} {n b : Nat} (hX : isX X n) (hb : isD b) {wd hi t : Int} (V : Mem) (hk : Mid V n wd hi b t) : Mt l X V yX1_passSeason cX1_passSeason 3 none 2 46 [.ref (wa X b)] (Qv X (fun V1 => V1 = seM n b V)) := by
  refine Mt.go (by decide) (Nat.le_of_ble_eq_true rfl) ?_
  intro pg ev s0 mi bl mt cd ls Rm ag Qq hR hQ E hI hG hS hl
  have hl : lv_has ls 3 [(0, .ref (wa X b))] := hl
  obtain ⟨⟨hs, hh, hz⟩, ⟨r2, r3, r4, r5, r6, r7, r8, r9, r10, r11⟩, hsk, hday⟩ := id hk
  have hd := hs.2.2.2.1
  have hbn : bnd n 0 9500 (V (b + 1)) := hh.ps hd |>.1
  obtain ⟨hn1, hn2⟩ := dims.n hd
  obtain ⟨hb1, hb2⟩ := isD.ge hb
  rw [show V = sp (sp V (b + 3) (seG V b 0)) (b + 2) (seL V b 0) by rw [seG_0, seL_0, sp_self V (b + 3), sp_self]] at hG
  refine x_iconst E dX1_passSeason_0 ?_
  refine x_istore_n E [(1, .int (jI 0)), (0, .ref (wa X b))] dX1_passSeason_1 hl (by decide) rfl (fun ls hl => ?_)
  have L2_1 : ∀ (N : Nat) (i : Int), (0 ≤ i) → (i ≤ (n : Int)) → (((n : Int) - i).toNat) < N → ∀ (H : Heap) (locs : List Loc) (ls : Array Slot), GW X (sp (sp V (b + 3) (seG V b i)) (b + 2) (seL V b i)) H → va_S (wA X) s0.heap H locs → lv_has ls 3 [(0, .ref (wa X b)), (1, .int (jI i))] → W pg l ev Rm s0 mi ag bl mt cd H locs 0 0 Qq (F0 mi 2 ls []) := by
    intro N
    induction N with
    | zero => intro i i0 i1 hN; exact absurd hN (Nat.not_lt_zero _)
    | succ N ih2 =>
      intro i i0 i1 hN H locs ls hG hS hl
      refine x_iload_n E dX1_passSeason_2 (lv_at hl 1 rfl) ?_
      refine x_aload_n E dX1_passSeason_3 (lv_at hl 0 rfl) ?_
      refine x_getr E hI hG (xd0 hX hb) cf1 1 (b + 1) rfl (by decide) kf_X1_45 dX1_passSeason_4 ?_
      refine x_alen E hI hG (xd1 hX hb) (by decide) dX1_passSeason_7 ?_
      refine x_icmp_ge E 82 dX1_passSeason_8 (by decide) (by unfold rg; omega) (by unfold rg; omega) (fun c8 => ?_) (fun c8 => ?_)
      · exact r_v E hQ hG hS dX1_passSeason_82 (by unfold seM; rw [show i = (n : Int) by omega]; rfl)
      · have q1 := r3 i i0 (by omega)
        have q2 := r2 i i0 (by omega)
        have q3 := hbn i i0 (by omega)
        have q4 := r5 i i0 (by omega)
        have q5 := grw_rg (V (b + 1) i - V (b + 2) i)
        have L64_2 : ∀ (H : Heap) (locs : List Loc) (ls : Array Slot), GW X (sp (sp V (b + 3) (seG V b (i + 1))) (b + 2) (seL V b i)) H → va_S (wA X) s0.heap H locs → lv_has ls 3 [(0, .ref (wa X b)), (1, .int (jI i))] → W pg l ev Rm s0 mi ag bl mt cd H locs 0 0 Qq (F0 mi 64 ls []) := by
          intro   H locs ls hG hS hl
          refine x_aload_n E dX1_passSeason_64 (lv_at hl 0 rfl) ?_
          refine x_getr E hI hG (xd0 hX hb) cf1 2 (b + 2) rfl (by decide) kf_X1_48 dX1_passSeason_65 ?_
          refine x_iload_n E dX1_passSeason_68 (lv_at hl 1 rfl) ?_
          refine x_aload_n E dX1_passSeason_69 (lv_at hl 0 rfl) ?_
          refine x_getr E hI hG (xd0 hX hb) cf1 1 (b + 1) rfl (by decide) kf_X1_45 dX1_passSeason_70 ?_
          refine x_iload_n E dX1_passSeason_73 (lv_at hl 1 rfl) ?_
          refine x_iald E hI hG (xd1 hX hb) (V (b + 1) i) (by rw [sp_3 V (by omega) (by omega)]) (by omega) dX1_passSeason_74 ?_
          refine x_iast E hI hG hS (xd2 hX hb) (by omega) dX1_passSeason_75 (fun H locs hG hS => ?_)
          rw [show (st (sp (sp V (b + 3) (seG V b (i + 1))) (b + 2) (seL V b i)) (b + 2) i (V (b + 1) i)) = (sp (sp V (b + 3) (seG V b (i + 1))) (b + 2) (seL V b (i + 1))) from by rw [st_sp, sp_s, sp_sp, seL_s i0]] at hG
          refine x_iinc E (k := 1) [(1, .int (jI (i + 1))), (0, .ref (wa X b))] dX1_passSeason_76 hl rfl (by decide) rfl (fun ls hl => ?_)
          refine x_goto E 2 dX1_passSeason_79 (by decide) ?_
          exact ih2 (i + 1) (by omega) (by omega) (by omega) _ _ _ hG hS (lv_sub hl [1, 0] rfl)
        refine x_aload_n E dX1_passSeason_11 (lv_at hl 0 rfl) ?_
        refine x_getr E hI hG (xd0 hX hb) cf1 3 (b + 3) rfl (by decide) kf_X1_51 dX1_passSeason_12 ?_
        refine x_iload_n E dX1_passSeason_15 (lv_at hl 1 rfl) ?_
        refine x_iald E hI hG (xd3 hX hb) (V (b + 3) i) (by rw [sp_ij V (by omega)]; exact seG_i) (by omega) dX1_passSeason_16 ?_
        refine x_if_le E 64 dX1_passSeason_17 (by decide) (by unfold rg; omega) (fun c17 => ?_) (fun c17 => ?_)
        · rw [seG_no (by omega)] at hG
          exact L64_2   _ _ _ hG hS (lv_sub hl [0, 1] rfl)
        · refine x_aload_n E dX1_passSeason_20 (lv_at hl 0 rfl) ?_
          refine x_getr E hI hG (xd0 hX hb) cf1 3 (b + 3) rfl (by decide) kf_X1_51 dX1_passSeason_21 ?_
          refine x_iload_n E dX1_passSeason_24 (lv_at hl 1 rfl) ?_
          refine x_iald E hI hG (xd3 hX hb) (V (b + 3) i) (by rw [sp_ij V (by omega)]; exact seG_i) (by omega) dX1_passSeason_25 ?_
          refine x_aload_n E dX1_passSeason_26 (lv_at hl 0 rfl) ?_
          refine x_getr E hI hG (xd0 hX hb) cf1 1 (b + 1) rfl (by decide) kf_X1_45 dX1_passSeason_27 ?_
          refine x_iload_n E dX1_passSeason_30 (lv_at hl 1 rfl) ?_
          refine x_iald E hI hG (xd1 hX hb) (V (b + 1) i) (by rw [sp_3 V (by omega) (by omega)]) (by omega) dX1_passSeason_31 ?_
          refine x_aload_n E dX1_passSeason_32 (lv_at hl 0 rfl) ?_
          refine x_getr E hI hG (xd0 hX hb) cf1 2 (b + 2) rfl (by decide) kf_X1_48 dX1_passSeason_33 ?_
          refine x_iload_n E dX1_passSeason_36 (lv_at hl 1 rfl) ?_
          refine x_iald E hI hG (xd2 hX hb) (V (b + 2) i) (by rw [sp_s]; exact seL_i) (by omega) dX1_passSeason_37 ?_
          refine x_isub E dX1_passSeason_38 ?_
          refine x_ci hG hS (x_runS E hI hG hS (c_X1_growth l (sp (sp V (b + 3) (seG V b i)) (b + 2) (seL V b i)) (V (b + 1) i - V (b + 2) i) (by unfold rg; omega)) mf_X1_growth km_X1_182 rfl hl rfl (Nat.le_of_ble_eq_true rfl) (by rw [hR]; exact ⟨Nat.le_of_ble_eq_true rfl, Nat.le_of_ble_eq_true rfl⟩) ⟨Nat.zero_le _, Nat.zero_le _⟩ dX1_passSeason_39) (fun z1 V1 H locs hp hG hS => ?_)
          obtain ⟨ez, eV⟩ := hp
          rw [eV] at hG
          rw [ez]
          refine x_iadd E dX1_passSeason_42 ?_
          refine x_aload_n E dX1_passSeason_43 (lv_at hl 0 rfl) ?_
          refine x_getr E hI hG (xd0 hX hb) cf1 5 (b + 5) rfl (by decide) kf_X1_57 dX1_passSeason_44 ?_
          refine x_iload_n E dX1_passSeason_47 (lv_at hl 1 rfl) ?_
          refine x_iald E hI hG (xd5 hX hb) (V (b + 5) i) (by rw [sp_3 V (by omega) (by omega)]) (by omega) dX1_passSeason_48 ?_
          refine x_isub E dX1_passSeason_49 ?_
          refine x_istore_n E [(2, .int (jI (((V (b + 3) i) + (grw (V (b + 1) i - V (b + 2) i))) - (V (b + 5) i)))), (0, .ref (wa X b)), (1, .int (jI i))] dX1_passSeason_50 hl (by decide) rfl (fun ls hl => ?_)
          refine x_aload_n E dX1_passSeason_51 (lv_at hl 1 rfl) ?_
          refine x_getr E hI hG (xd0 hX hb) cf1 3 (b + 3) rfl (by decide) kf_X1_51 dX1_passSeason_52 ?_
          refine x_iload_n E dX1_passSeason_55 (lv_at hl 2 rfl) ?_
          refine x_iload_n E dX1_passSeason_56 (lv_at hl 0 rfl) ?_
          refine x_iconst E dX1_passSeason_57 ?_
          refine x_bipush E dX1_passSeason_58 (by decide) ?_
          refine x_ci hG hS (x_runSN E hI hG hS (c_X7_nearest l (sp (sp V (b + 3) (seG V b i)) (b + 2) (seL V b i)) (V (b + 3) i + grw (V (b + 1) i - V (b + 2) i) - V (b + 5) i) 0 100 (by unfold rg; omega) (by unfold rg; omega) (by unfold rg; omega)) mf_X7_nearest (by decide : (_, _, _, RX7) ∈ zNest) rfl hl rfl (Nat.le_of_ble_eq_true rfl) (by rw [hR]; exact ⟨Nat.le_of_ble_eq_true rfl, Nat.le_of_ble_eq_true rfl⟩) ⟨Nat.zero_le _, Nat.zero_le _⟩ dX1_passSeason_60) (fun z1 V1 H locs hp hG hS => ?_)
          obtain ⟨ez, eV⟩ := hp
          change z1 = seV V b i at ez
          rw [eV] at hG
          rw [ez]
          refine x_iast E hI hG hS (xd3 hX hb) (by omega) dX1_passSeason_63 (fun H locs hG hS => ?_)
          rw [show (st (sp (sp V (b + 3) (seG V b i)) (b + 2) (seL V b i)) (b + 3) i (seV V b i)) = (sp (sp V (b + 3) (seG V b (i + 1))) (b + 2) (seL V b i)) from by rw [st_in V (by omega), seG_yes i0 (by omega)]] at hG
          exact L64_2   _ _ _ hG hS (lv_sub hl [1, 2] rfl)
  exact L2_1 _ 0 (by omega) (by omega) (Nat.lt_succ_self _) _ _ _ hG hS (lv_sub hl [1, 0] rfl)

set_option maxHeartbeats 4000000 in
set_option maxRecDepth 100000 in
theorem c_X1_canPass (l : Launch) {X : We} {n b : Nat} (hX : isX X n) (hb : isD b) (V : Mem) (k : Int) (hk : rg k) (hday : 0 ≤ V b 12 ∧ V b 12 ≤ 3000) : Mt l X V yX1_canPass cX1_canPass 2 (some .boolean) 1 22 [.ref (wa X b), .int (jI k)] (Qi X (fun z V1 => z = b01 (1 ≤ k ∧ k ≤ 60 ∧ V b 12 + k ≤ 3000) ∧ V1 = V)) := by
  refine Mt.go (by decide) (Nat.le_of_ble_eq_true rfl) ?_
  intro pg ev s0 mi bl mt cd ls Rm ag Qq hR hQ E hI hG hS hl
  have hl : lv_has ls 2 [(0, .ref (wa X b)), (1, .int (jI k))] := hl
  have L27_1 : ∀ (z : Int), (z = b01 (1 ≤ k ∧ k ≤ 60 ∧ V b 12 + k ≤ 3000)) → ∀ (H : Heap) (locs : List Loc) (ls : Array Slot), GW X V H → va_S (wA X) s0.heap H locs → lv_has ls 2 [] → W pg l ev Rm s0 mi ag bl mt cd H locs 0 0 Qq (F0 mi 27 ls [.int (jI z)]) := by
    intro z hz H locs ls hG hS hl
    exact r_z E hQ hG hS dX1_canPass_27 (by rw [hz]; exact b01_c) (⟨hz, rfl⟩)
  have L26_2 : (¬ (1 ≤ k ∧ k ≤ 60 ∧ V b 12 + k ≤ 3000)) → ∀ (H : Heap) (locs : List Loc) (ls : Array Slot), GW X V H → va_S (wA X) s0.heap H locs → lv_has ls 2 [] → W pg l ev Rm s0 mi ag bl mt cd H locs 0 0 Qq (F0 mi 26 ls []) := by
    intro  hy H locs ls hG hS hl
    refine x_iconst E dX1_canPass_26 ?_
    exact L27_1 0 ((b01_0 hy).symm) _ _ _ hG hS (lv_sub hl [] rfl)
  refine x_iload_n E dX1_canPass_0 (lv_at hl 1 rfl) ?_
  refine x_iconst E dX1_canPass_1 ?_
  refine x_bipush E dX1_canPass_2 (by decide) ?_
  refine x_ci hG hS (x_runSN E hI hG hS (c_X7_isWithin l V k 1 60 hk (by unfold rg; omega) (by unfold rg; omega)) mf_X7_isWithin (by decide : (_, _, _, RX7) ∈ zNest) rfl hl rfl (Nat.le_of_ble_eq_true rfl) (by rw [hR]; exact ⟨Nat.le_of_ble_eq_true rfl, Nat.le_of_ble_eq_true rfl⟩) ⟨Nat.zero_le _, Nat.zero_le _⟩ dX1_canPass_4) (fun z1 V1 H locs hp hG hS => ?_)
  obtain ⟨ez, eV⟩ := hp
  rw [eV] at hG
  rw [ez]
  refine x_if_eq E 26 dX1_canPass_7 (by decide) b01_rg (fun c7 => ?_) (fun c7 => ?_)
  · have hno := b01_iff0.mp c7
    exact L26_2  (fun z => hno ⟨z.1, z.2.1⟩) _ _ _ hG hS (lv_sub hl [] rfl)
  · have hyes := b01_ne c7
    refine x_aload_n E dX1_canPass_10 (lv_at hl 0 rfl) ?_
    refine x_geti E hI hG (xd0 hX hb) cf1 12 (V b 12) rfl (by decide) rfl kf_X1_74 dX1_canPass_11 ?_
    refine x_iload_n E dX1_canPass_14 (lv_at hl 1 rfl) ?_
    refine x_iadd E dX1_canPass_15 ?_
    refine x_sipush E dX1_canPass_16 (by decide) ?_
    refine x_icmp_gt E 26 dX1_canPass_19 (by decide) (by unfold rg; omega) (by unfold rg; omega) (fun c19 => ?_) (fun c19 => ?_)
    · exact L26_2  (by omega) _ _ _ hG hS (lv_sub hl [] rfl)
    · refine x_iconst E dX1_canPass_22 ?_
      refine x_goto E 27 dX1_canPass_23 (by decide) ?_
      exact L27_1 1 ((b01_1 (by omega)).symm) _ _ _ hG hS (lv_sub hl [] rfl)
