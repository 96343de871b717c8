section MD
variable {n b : Nat} {wd hi t : Int} {V : Mem}
theorem SK.of {V V1 : Mem} {w : Nat} (h : SK V w) (h0 : V1 w = V w) (h1 : V1 (w + 1) = V (w + 1)) (h2 : V1 (w + 2) = V (w + 2)) : SK V1 w := by
  unfold SK at *; rw [h0, h1, h2]; exact h
theorem DR.of {V V1 : Mem} (h : DR V n b) (h2 : V1 (b + 2) = V (b + 2)) (h3 : V1 (b + 3) = V (b + 3)) (h4 : V1 (b + 4) = V (b + 4)) (h5 : V1 (b + 5) = V (b + 5)) (h6 : V1 (b + 6) = V (b + 6)) (h7 : V1 (b + 7) = V (b + 7)) (h10 : V1 (b + 10) = V (b + 10)) : DR V1 n b := by
  unfold DR at *; rw [h2, h3, h4, h5, h6, h7, h10]; exact h
theorem Sh.of {V V1 : Mem} (h : Sh V n wd hi) (h1 : V1 1 = V 1) (h2 : V1 2 = V 2) : Sh V1 n wd hi := by
  unfold Sh at *; rw [h1, h2]; exact h
theorem Mid.of {V1 : Mem} (hb : 3 ≤ b) (h : Mid V n wd hi b t) (h1 : ∀ p, p ≠ b → V1 p = V p) (h12 : V1 b 12 = V b 12) : Mid V1 n wd hi b t := by
  obtain ⟨⟨a1, a2, a3⟩, a4, a5, a6⟩ := h
  refine ⟨⟨a1.of (h1 _ (by omega)) (h1 _ (by omega)), ?_, ?_⟩, a4.of (h1 _ (by omega)) (h1 _ (by omega)) (h1 _ (by omega)) (h1 _ (by omega)) (h1 _ (by omega)) (h1 _ (by omega)) (h1 _ (by omega)), a5.of (h1 _ (by omega)) (h1 _ (by omega)) (h1 _ (by omega)), by rw [h12]; exact a6⟩
  · rw [h1 _ (by omega), h1 _ (by omega)]; exact a2
  · rw [h1 _ (by omega)]; exact a3
theorem Mid.scal (hb : 3 ≤ b) (h : Mid V n wd hi b t) {k : Int} (v : Int) (hk : k ≠ 12) : Mid (st V b k v) n wd hi b t := h.of hb (fun p hp => st_p hp) (st_k (Ne.symm hk))
theorem Mid.dr (hb : 3 ≤ b) (h : Mid V n wd hi b t) : Mid (drM b V) n wd hi b t := h.scal hb _ (by decide)
theorem drM_p {p : Nat} (h : p ≠ b) : drM b V p = V p := st_p h
theorem lfM_p (wd hi w c : Int) {p : Nat} (h : p ≠ b) : lfM wd hi b w c V p = V p := by unfold lfM; split; rfl; exact drM_p h
theorem ldM_p (wd hi w c : Int) {p : Nat} (h : p ≠ b) : ldM wd hi b w c V p = V p := by unfold ldM; split; rfl; exact drM_p h
theorem drM_k {k : Int} (h : k ≠ 11) : drM b V b k = V b k := st_k h
theorem lfM_k (wd hi w c : Int) {k : Int} (h : k ≠ 11) : lfM wd hi b w c V b k = V b k := by unfold lfM; split; rfl; exact drM_k h
theorem ldM_k (wd hi w c : Int) {k : Int} (h : k ≠ 11) : ldM wd hi b w c V b k = V b k := by unfold ldM; split; rfl; exact drM_k h
theorem Mid.lf (hb : 3 ≤ b) (h : Mid V n wd hi b t) (w c : Int) : Mid (lfM wd hi b w c V) n wd hi b t := h.of hb (fun p hp => lfM_p _ _ _ _ hp) (lfM_k _ _ _ _ (by decide))
theorem Mid.ld (hb : 3 ≤ b) (h : Mid V n wd hi b t) (w c : Int) : Mid (ldM wd hi b w c V) n wd hi b t := h.of hb (fun p hp => ldM_p _ _ _ _ hp) (ldM_k _ _ _ _ (by decide))
theorem landR_p (w : Int) : ∀ (k : Nat) (a : Int) (V : Mem) {p : Nat}, p ≠ b → (landR wd hi b w k a V).2 p = V p
  | 0, _, _, _, _ => rfl
  | k + 1, a, V, p, hp => by
    unfold landR
    split
    · rfl
    · split
      · rfl
      · split
        · exact ldM_p _ _ _ _ hp
        · rw [landR_p w k _ _ hp]; exact ldM_p _ _ _ _ hp
theorem landR_k (w : Int) : ∀ (k : Nat) (a : Int) (V : Mem) {j : Int}, j ≠ 11 → (landR wd hi b w k a V).2 b j = V b j
  | 0, _, _, _, _ => rfl
  | k + 1, a, V, p, hp => by
    unfold landR
    split
    · rfl
    · split
      · rfl
      · split
        · exact ldM_k _ _ _ _ hp
        · rw [landR_k w k _ _ hp]; exact ldM_k _ _ _ _ hp
theorem landR_r (hd : dims n wd hi) (w : Int) : ∀ (k : Nat) (a : Int) (V : Mem), 0 ≤ a → a < (n : Int) → -1 ≤ (landR wd hi b w k a V).1 ∧ (landR wd hi b w k a V).1 < (n : Int)
  | 0, a, _, h0, h1 => ⟨by show -1 ≤ a; omega, h1⟩
  | k + 1, a, V, h0, h1 => by
    have hr := gow_rg (w := w) hd (show -1 ≤ a by omega) h1 (V (b + 10) 0).toNat
    unfold landR
    split
    · have := dims.n hd
      show -1 ≤ -1 ∧ -1 < (n : Int)
      omega
    · split
      · exact hr
      · split
        · exact hr
        · exact landR_r hd w k _ _ (by omega) hr.2
theorem Mid.land (hb : 3 ≤ b) (h : Mid V n wd hi b t) (w : Int) (k : Nat) (a : Int) : Mid (landR wd hi b w k a V).2 n wd hi b t := h.of hb (fun p hp => landR_p w k a V hp) (landR_k w k a V (by decide))
theorem Mid.heap (hb : 3 ≤ b) (h : Mid V n wd hi b t) {h1 : Int → Int} {t1 : Int} (hh : HI n wd hi (V (b + 10) 3) t1 h1) : Mid (sp V (b + 1) h1) n wd hi b t1 := by
  obtain ⟨⟨a1, a2, a3⟩, a4, a5, a6⟩ := h
  refine ⟨⟨a1.sp (by omega) _, ?_, ?_⟩, a4.of (sp_n (by omega)) (sp_n (by omega)) (sp_n (by omega)) (sp_n (by omega)) (sp_n (by omega)) (sp_n (by omega)) (sp_n (by omega)), a5.of (sp_n (by omega)) (sp_n (by omega)) (sp_n (by omega)), by rw [sp_n (by omega)]; exact a6⟩
  · rw [sp_n (by omega), sp_s]; exact hh
  · rw [sp_n (by omega)]; exact a3
theorem Mid.raise (hb : 3 ≤ b) (h : Mid V n wd hi b t) {c : Int} (h0 : 0 ≤ c) (h1 : c < (n : Int)) (ht : t + 1 ≤ 60100) : Mid (hput n wd hi b c (V (b + 1) c + 1) V) n wd hi b (t + 1) := h.heap hb (HI.raise h.1.1.2.2.2.1 h.1.2.1 h0 h1 ht)
theorem Mid.raise2 (hb : 3 ≤ b) (h : Mid V n wd hi b t) {c : Int} (h0 : 0 ≤ c) (h1 : c < (n : Int)) (hs : su n (V (b + 1)) + 1 ≤ 1430 * (n : Int) + t) : Mid (hput n wd hi b c (V (b + 1) c + 1) V) n wd hi b t := by
  have hh := h.1.2.1
  have hd := h.1.1.2.2.2.1
  have hp := hh.2.1 c h0 h1
  refine h.heap hb (HI.after hd (fun d d0 d1 => ?_) ?_ hh.2.2.2.1 hh.2.2.2.2.1 hh.2.2.2.2.2.1 hh.2.2.2.2.2.2)
  · have := hh.2.1 d d0 d1
    unfold ui; split <;> omega
  · rw [su_ui n h0 h1]; omega
theorem Mid.lower (hb : 3 ≤ b) (h : Mid V n wd hi b t) {c v : Int} (h0 : 0 ≤ c) (h1 : c < (n : Int)) (v0 : 0 ≤ v) (v1 : v ≤ V (b + 1) c) : Mid (hput n wd hi b c v V) n wd hi b t ∧ su n (hput n wd hi b c v V (b + 1)) = su n (V (b + 1)) - V (b + 1) c + v := by
  have a := HI.lower h.1.1.2.2.2.1 h.1.2.1 h0 h1 v0 v1
  refine ⟨h.heap hb a.1, ?_⟩
  unfold hput; rw [sp_s]; exact a.2
theorem hput_p {p : Nat} (c v : Int) (h : p ≠ b + 1) : hput n wd hi b c v V p = V p := sp_n h
theorem lfB_pos {wd hi w c : Int} (h : lfB wd hi b w c V = true) : V (b + 1) c ≠ 0 := by
  unfold lfB at h
  simp only [Bool.and_eq_true, Bool.not_eq_true', decide_eq_false_iff_not] at h
  exact h.1.1.1
theorem loseM_p (w : Int) {p : Nat} (h : p ≠ b) : loseM b w V p = V p := by unfold loseM; split <;> exact st_p h
theorem loseM_k (w : Int) : loseM b w V b 12 = V b 12 := by unfold loseM; split <;> exact st_k (by decide)
theorem Mid.fly (hb : 3 ≤ b) (h : Mid V n wd hi b t) (w : Int) {c : Int} (h0 : 0 ≤ c) (h1 : c < (n : Int)) (hs : su n (V (b + 1)) + 1 ≤ 1430 * (n : Int) + t) : Mid (flyM n wd hi b w c V) n wd hi b t := by
  have hl := h.land hb w 10 c
  have hr := landR_r (b := b) h.1.1.2.2.2.1 w 10 c V h0 h1
  unfold flyM
  split
  · exact hl.of hb (fun p hp => loseM_p w hp) (loseM_k w)
  · exact hl.raise2 hb (by omega) hr.2 (by rw [landR_p w 10 c V (by omega)]; exact hs)
theorem Mid.lift (hb : 3 ≤ b) (h : Mid V n wd hi b t) (w : Int) : Mid (liftM n wd hi b w V) n wd hi b t := by
  have hd := h.1.1.2.2.2.1
  obtain ⟨n1, n2⟩ := dims.n hd
  have hc := dw_rg (nx (V b 11)) (m := (n : Int)) (by omega)
  unfold liftM
  split
  · rename_i q
    have hp := lfB_pos q
    rw [drM_p (by omega)] at hp
    have hq := h.1.2.1.2.1 _ hc.1 hc.2
    have h2 := (h.dr hb).lf hb w (dw (nx (V b 11)) (n : Int))
    have e : lfM wd hi b w (dw (nx (V b 11)) (n : Int)) (drM b V) (b + 1) = V (b + 1) := by rw [lfM_p _ _ _ _ (by omega), drM_p (by omega)]
    obtain ⟨h3, h4⟩ := h2.lower hb (v := V (b + 1) (dw (nx (V b 11)) (n : Int)) - 1) hc.1 hc.2 (by omega) (by rw [e]; omega)
    refine h3.fly hb w hc.1 hc.2 ?_
    rw [h4, e]
    have := h.1.2.1.2.2.1
    omega
  · exact (h.dr hb).lf hb w _
theorem Mid.blow (hb : 3 ≤ b) (h : Mid V n wd hi b t) (w : Int) : ∀ k : Nat, Mid (itM (liftM n wd hi b w) k V) n wd hi b t
  | 0 => h
  | k + 1 => (Mid.blow hb h w k).lift hb w
theorem Mid.sup (hb : 3 ≤ b) (h : Mid V n wd hi b t) (ht : t + 1 ≤ 60100) : Mid (supM n wd hi b V) n wd hi b (t + 1) := by
  have hd := h.1.1.2.2.2.1
  have hw := dw_rg (nx (V b 11)) (m := hi) (by have := hd.2.2.2.1; omega)
  have hc := cell_of hd (x := 0) hw.1 hw.2 (by omega) (by have := hd.2.1; omega)
  simp only [Int.add_zero] at hc
  have h2 := (h.scal hb (k := 15) (V b 15 + 1) (by decide)).dr hb
  have e : drM b (st V b 15 (V b 15 + 1)) (b + 1) = V (b + 1) := by rw [drM_p (by omega), st_p (by omega)]
  have := h2.raise hb hc.1 hc.2.1 ht
  rw [e] at this
  exact this
theorem Mid.sups (hb : 3 ≤ b) (h : Mid V n wd hi b t) : ∀ k : Nat, t + (k : Int) ≤ 60100 → Mid (itM (supM n wd hi b) k V) n wd hi b (t + (k : Int))
  | 0, _ => by
    show Mid V n wd hi b (t + 0)
    rw [Int.add_zero]; exact h
  | k + 1, hk => by
    have := (Mid.sups hb h k (by omega)).sup hb (by omega)
    rw [show t + ((k + 1 : Nat) : Int) = t + (k : Int) + 1 by omega]
    exact this
end MD
