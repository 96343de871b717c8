def settled (n : Nat) (wd hi sl : Int) (h : Int → Int) : Prop := ∀ c : Int, 0 ≤ c → c < (n : Int) → ¬ stp wd hi sl h c
def frs (n : Nat) (wd hi sl : Int) (h : Int → Int) (c : Int) : Prop := 0 ≤ c ∧ c < (n : Int) ∧ stp wd hi sl h c ∧ ∀ d : Int, 0 ≤ d → d < c → ¬ stp wd hi sl h d
noncomputable def sstep (n : Nat) (wd hi sl : Int) (h : Int → Int) : Int → Int := @dite _ (∃ c, frs n wd hi sl h c) (Classical.propDecidable _) (fun q => slide wd hi h (Classical.choose q)) (fun _ => h)
noncomputable def itr (n : Nat) (wd hi sl : Int) (h : Int → Int) : Nat → (Int → Int)
  | 0 => h
  | k + 1 => sstep n wd hi sl (itr n wd hi sl h k)
noncomputable def stl (n : Nat) (wd hi sl : Int) (h : Int → Int) : Int → Int := @dite _ (∃ k, settled n wd hi sl (itr n wd hi sl h k)) (Classical.propDecidable _) (fun q => itr n wd hi sl h (Classical.choose q)) (fun _ => h)
section ST
variable {n : Nat} {wd hi sl : Int}
theorem frs_one {h : Int → Int} {c d : Int} (hc : frs n wd hi sl h c) (hd : frs n wd hi sl h d) : c = d := by
  rcases Int.lt_trichotomy c d with q | q | q
  · exact absurd hc.2.2.1 (hd.2.2.2 c hc.1 q)
  · exact q
  · exact absurd hd.2.2.1 (hc.2.2.2 d hd.1 q)
theorem sstep_at {h : Int → Int} {c : Int} (hc : frs n wd hi sl h c) : sstep n wd hi sl h = slide wd hi h c := by
  have hx : ∃ c, frs n wd hi sl h c := ⟨c, hc⟩
  unfold sstep
  rw [dif_pos hx, frs_one (Classical.choose_spec hx) hc]
theorem sstep_no {h : Int → Int} (hs : settled n wd hi sl h) : sstep n wd hi sl h = h := by
  unfold sstep
  rw [dif_neg]
  rintro ⟨c, hc⟩
  exact hs c hc.1 hc.2.1 hc.2.2.1
theorem frs_ex {h : Int → Int} (hs : ¬ settled n wd hi sl h) : ∃ c, frs n wd hi sl h c := by
  have key : ∀ k : Nat, (∀ d : Int, 0 ≤ d → d < (k : Int) → ¬ stp wd hi sl h d) ∨ ∃ c, c < (k : Int) ∧ 0 ≤ c ∧ stp wd hi sl h c ∧ ∀ d : Int, 0 ≤ d → d < c → ¬ stp wd hi sl h d := by
    intro k
    induction k with
    | zero => exact Or.inl (fun d d0 d1 => by omega)
    | succ k ih =>
      rcases ih with q | ⟨c, a, b⟩
      · rcases Classical.em (stp wd hi sl h (k : Int)) with z | z
        · exact Or.inr ⟨(k : Int), by omega, by omega, z, q⟩
        · refine Or.inl (fun d d0 d1 => ?_)
          rcases Int.lt_or_le d (k : Int) with y | y
          · exact q d d0 y
          · rw [show d = (k : Int) by omega]; exact z
      · exact Or.inr ⟨c, by omega, b⟩
  rcases key n with q | ⟨c, a, b, e, f⟩
  · exact absurd q hs
  · exact ⟨c, b, a, e, f⟩
theorem itr_stop {h : Int → Int} {k : Nat} (hs : settled n wd hi sl (itr n wd hi sl h k)) : ∀ j : Nat, itr n wd hi sl h (k + j) = itr n wd hi sl h k := by
  intro j
  induction j with
  | zero => rfl
  | succ j ih =>
    show sstep n wd hi sl (itr n wd hi sl h (k + j)) = _
    rw [ih, sstep_no hs]
theorem stl_of {h : Int → Int} {k : Nat} (hs : settled n wd hi sl (itr n wd hi sl h k)) : stl n wd hi sl h = itr n wd hi sl h k := by
  have hx : ∃ k, settled n wd hi sl (itr n wd hi sl h k) := ⟨k, hs⟩
  unfold stl
  rw [dif_pos hx]
  have h2 := Classical.choose_spec hx
  generalize Classical.choose hx = j at *
  rcases Nat.le_total j k with q | q
  · rw [← Nat.add_sub_cancel' q, itr_stop h2]
  · rw [← Nat.add_sub_cancel' q, itr_stop hs]
theorem sstep_cases (hd : dims n wd hi) (hs : 1 ≤ sl) (h : Int → Int) : (settled n wd hi sl h ∧ sstep n wd hi sl h = h) ∨ ∃ c, frs n wd hi sl h c ∧ sstep n wd hi sl h = slide wd hi h c := by
  rcases Classical.em (settled n wd hi sl h) with q | q
  · exact Or.inl ⟨q, sstep_no q⟩
  · obtain ⟨c, hc⟩ := frs_ex q
    exact Or.inr ⟨c, hc, sstep_at hc⟩
theorem itr_ex (hd : dims n wd hi) (hs : 1 ≤ sl) (h : Int → Int) : ∃ k, settled n wd hi sl (itr n wd hi sl h k) := by
  have key : ∀ N k : Nat, sq n 0 (itr n wd hi sl h k) < (N : Int) → ∃ k, settled n wd hi sl (itr n wd hi sl h k) := by
    intro N
    induction N with
    | zero => intro k hk; have := sq_nonneg n 0 (itr n wd hi sl h k); omega
    | succ N ih =>
      intro k hk
      rcases sstep_cases hd hs (itr n wd hi sl h k) with ⟨q, -⟩ | ⟨c, hc, e⟩
      · exact ⟨k, q⟩
      · refine ih (k + 1) ?_
        show sq n 0 (sstep n wd hi sl (itr n wd hi sl h k)) < (N : Int)
        rw [e]
        have := slide_sq (m := 0) hd hs hc.1 hc.2.1 hc.2.2.1
        omega
  exact key ((sq n 0 h).toNat + 1) 0 (by show sq n 0 h < _; have := sq_nonneg n 0 h; omega)
theorem stl_settled (hd : dims n wd hi) (hs : 1 ≤ sl) (h : Int → Int) : settled n wd hi sl (stl n wd hi sl h) := by
  obtain ⟨k, hk⟩ := itr_ex hd hs h
  rw [stl_of hk]; exact hk
theorem stl_itr (hd : dims n wd hi) (hs : 1 ≤ sl) (h : Int → Int) : ∃ k, stl n wd hi sl h = itr n wd hi sl h k := by
  obtain ⟨k, hk⟩ := itr_ex hd hs h
  exact ⟨k, stl_of hk⟩
theorem stl_id (h : Int → Int) (hs : settled n wd hi sl h) : stl n wd hi sl h = h := stl_of (k := 0) hs
/-- what slides keep -/
theorem itr_keep (hd : dims n wd hi) (hs : 1 ≤ sl) (P : (Int → Int) → Prop) (hP : ∀ (g : Int → Int) (c : Int), P g → 0 ≤ c → c < (n : Int) → stp wd hi sl g c → P (slide wd hi g c)) {h : Int → Int} (h0 : P h) : ∀ k, P (itr n wd hi sl h k) := by
  intro k
  induction k with
  | zero => exact h0
  | succ k ih =>
    show P (sstep n wd hi sl (itr n wd hi sl h k))
    rcases sstep_cases hd hs (itr n wd hi sl h k) with ⟨-, e⟩ | ⟨c, hc, e⟩
    · rw [e]; exact ih
    · rw [e]; exact hP _ c ih hc.1 hc.2.1 hc.2.2.1
theorem stl_keep (hd : dims n wd hi) (hs : 1 ≤ sl) (P : (Int → Int) → Prop) (hP : ∀ (g : Int → Int) (c : Int), P g → 0 ≤ c → c < (n : Int) → stp wd hi sl g c → P (slide wd hi g c)) {h : Int → Int} (h0 : P h) : P (stl n wd hi sl h) := by
  obtain ⟨k, e⟩ := stl_itr hd hs h
  rw [e]; exact itr_keep hd hs P hP h0 k
/-- bounds, sum and the far cells -/
def bnd (n : Nat) (L U : Int) (h : Int → Int) : Prop := ∀ c : Int, 0 ≤ c → c < (n : Int) → L ≤ h c ∧ h c ≤ U
theorem slide_bnd (hd : dims n wd hi) (hs : 1 ≤ sl) {L U : Int} {g : Int → Int} {c : Int} (hb : bnd n L U g) (h0 : 0 ≤ c) (h1 : c < (n : Int)) (q : stp wd hi sl g c) : bnd n L U (slide wd hi g c) := by
  obtain ⟨a1, a2, a3, -, -⟩ := lowN_spec hd g h0 h1
  have q2 := (stp_low hd h0 h1).mp q
  have b1 := hb c h0 h1
  have b2 := hb _ a1 a2
  intro d d0 d1
  have b3 := hb d d0 d1
  unfold slide
  generalize lowN wd hi g c = t at *
  unfold ui
  split
  · omega
  · split <;> omega
theorem slide_su (hd : dims n wd hi) (g : Int → Int) {c : Int} (h0 : 0 ≤ c) (h1 : c < (n : Int)) : su n (slide wd hi g c) = su n g := by
  obtain ⟨a1, a2, a3, -, -⟩ := lowN_spec hd g h0 h1
  unfold slide
  rw [su_ui n a1 a2, su_ui n h0 h1, ui_n a3]
  omega
theorem slide_far (hd : dims n wd hi) (g : Int → Int) {c d : Int} (h0 : 0 ≤ c) (h1 : c < (n : Int)) (hf : d < 0 ∨ (n : Int) ≤ d) : slide wd hi g c d = g d := by
  obtain ⟨a1, a2, a3, -, -⟩ := lowN_spec hd g h0 h1
  unfold slide
  rw [ui_n (by omega), ui_n (by omega)]
theorem stl_bnd (hd : dims n wd hi) (hs : 1 ≤ sl) {L U : Int} {h : Int → Int} (hb : bnd n L U h) : bnd n L U (stl n wd hi sl h) := stl_keep hd hs (bnd n L U) (fun _ _ hb h0 h1 q => slide_bnd hd hs hb h0 h1 q) hb
theorem stl_su (hd : dims n wd hi) (hs : 1 ≤ sl) (h : Int → Int) : su n (stl n wd hi sl h) = su n h := stl_keep hd hs (fun g => su n g = su n h) (fun g c e h0 h1 _ => (slide_su hd g h0 h1).trans e) rfl
theorem stl_far (hd : dims n wd hi) (hs : 1 ≤ sl) (h : Int → Int) {d : Int} (hf : d < 0 ∨ (n : Int) ≤ d) : stl n wd hi sl h d = h d := stl_keep hd hs (fun g => g d = h d) (fun g c e h0 h1 _ => (slide_far hd g h0 h1 hf).trans e) rfl
/-- what a slide can bring: the cell that got a grain, and neighbours above the one that gave it -/
theorem slide_new (hd : dims n wd hi) {g : Int → Int} {c d : Int} (hs : 1 ≤ sl) (h0 : 0 ≤ c) (h1 : c < (n : Int)) (q : stp wd hi sl g c) (d0 : 0 ≤ d) (d1 : d < (n : Int)) (hq : stp wd hi sl (slide wd hi g c) d) : stp wd hi sl g d ∨ d = lowN wd hi g c ∨ ∃ k : Int, 0 ≤ k ∧ k < 4 ∧ nb wd hi c k = d ∧ sl < slide wd hi g c d - slide wd hi g c c := by
  obtain ⟨a1, a2, a3, -, -⟩ := lowN_spec hd g h0 h1
  obtain ⟨k, k0, k1, k2, k3⟩ := hq
  rcases Classical.em (d = lowN wd hi g c) with e | e
  · exact Or.inr (Or.inl e)
  · rcases Classical.em (nb wd hi d k = c) with e2 | e2
    · obtain ⟨j, j0, j1, j2⟩ := nb_sym hd d0 d1 k0 k1 k2
      rw [e2] at j2 k3
      exact Or.inr (Or.inr ⟨j, j0, j1, j2, k3⟩)
    · refine Or.inl ⟨k, k0, k1, k2, ?_⟩
      have hd1 : slide wd hi g c d ≤ g d := by
        unfold slide
        rw [ui_n e]
        unfold ui
        split
        · rename_i z; rw [z]; omega
        · exact Int.le_refl _
      have hd2 : g (nb wd hi d k) ≤ slide wd hi g c (nb wd hi d k) := by
        unfold slide
        by_cases z : nb wd hi d k = lowN wd hi g c
        · rw [z, ui_s]; omega
        · rw [ui_n z, ui_n e2]; exact Int.le_refl _
      omega
/-- one cell became higher, or lower -/
theorem ui_new (hd : dims n wd hi) {g : Int → Int} {c v d : Int} (h0 : 0 ≤ c) (h1 : c < (n : Int)) (hg : settled n wd hi sl g) (d0 : 0 ≤ d) (d1 : d < (n : Int)) (hq : stp wd hi sl (ui g c v) d) : (d = c ∧ g c < v) ∨ (v < g c ∧ ∃ k : Int, 0 ≤ k ∧ k < 4 ∧ nb wd hi c k = d ∧ sl < ui g c v d - ui g c v c) := by
  obtain ⟨k, k0, k1, k2, k3⟩ := hq
  have hr := (nb_range (k := k) hd d0 d1).2
  rcases Classical.em (d = c) with e | e
  · subst e
    refine Or.inl ⟨rfl, ?_⟩
    rw [ui_s, ui_n (nb_ne hd d0 d1 k0 k1)] at k3
    rcases Int.lt_or_le (g d) v with z | z
    · exact z
    · exact absurd ⟨k, k0, k1, k2, by omega⟩ (hg d d0 d1)
  · rcases Classical.em (nb wd hi d k = c) with e2 | e2
    · obtain ⟨j, j0, j1, j2⟩ := nb_sym hd d0 d1 k0 k1 k2
      rw [e2] at j2 k3
      refine Or.inr ⟨?_, j, j0, j1, j2, k3⟩
      rw [ui_n e, ui_s] at k3
      rcases Int.lt_or_le v (g c) with z | z
      · exact z
      · exact absurd ⟨k, k0, k1, k2, by rw [e2]; omega⟩ (hg d d0 d1)
    · rw [ui_n e, ui_n e2] at k3
      exact absurd ⟨k, k0, k1, k2, k3⟩ (hg d d0 d1)
end ST
