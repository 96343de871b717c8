/-! ===== a world: places, each an array of numbers or an object whose reference fields never change ===== -/
/-- .inl (kind, length): an array (0 int, 1 byte, 2 boolean, 3 long); .inr (class, fields): an object, a field none: an int, some r: the place r -/
abbrev Pd : Type := (Nat × Nat) ⊕ (Nat × List (Option Nat))
/-- class numbers and slots, array classes, addresses, the table of places, how many, addresses of statics, what may be written -/
abbrev We : Type := va_G × (Nat → ClassId) × (Nat → Nat) × (Nat → Pd) × Nat × (Nat → Nat) × (Nat → Prop)
def wD (X : We) : va_G := X.1
def wC (X : We) : Nat → ClassId := X.2.1
def wa (X : We) : Nat → Nat := X.2.2.1
def wT (X : We) : Nat → Pd := X.2.2.2.1
def wn (X : We) : Nat := X.2.2.2.2.1
def wz (X : We) : Nat → Nat := X.2.2.2.2.2.1
def wtys (X : We) : List (ClassId × FieldType) := [(wC X 0, .int), (wC X 1, .byte), (wC X 2, .boolean), (wC X 3, .long)]
def wA (X : We) : Nat → Prop := X.2.2.2.2.2.2
def wI (X : We) : Prop := (∀ i j, i < wn X → j < wn X → wa X i = wa X j → i = j) ∧ ∀ i, i < wn X → wA X (wa X i)
def g_fv (X : We) (V : Mem) (p : Nat) : Nat → List (Option Nat) → List Value
  | _, [] => []
  | k, none :: fs => .int (jI (V p (k : Int))) :: g_fv X V p (k + 1) fs
  | k, some r :: fs => .ref (wa X r) :: g_fv X V p (k + 1) fs
def g_e (X : We) (V : Mem) (p : Nat) : va_E := match wT X p with
  | .inl (k, n) => if k = 3 then .inl (wC X 3, n, .inr (.inl (fun j => lI (V p (j : Int))))) else .inl (wC X k, n, .inl (fun j => jI (V p (j : Int))))
  | .inr (ci, fs) => .inr (ci, g_fv X V p 0 fs)
def gw (X : We) (V : Mem) : va_W := (List.range (wn X)).map (fun p => (wa X p, g_e X V p))
def GW (X : We) (V : Mem) (H : Heap) : Prop := va_P (wD X) vwCl (gw X V) H
theorem gw_get {X : We} {V : Mem} {p : Nat} (h : p < wn X) : (gw X V)[p]? = some (wa X p, g_e X V p) := by
  unfold gw
  rw [List.getElem?_map, List.getElem?_range h]
  rfl
theorem gw_lt {X : We} {V : Mem} {p : Nat} {q : Nat × va_E} (h : (gw X V)[p]? = some q) : p < wn X := by
  have := (List.getElem?_eq_some_iff.mp h).1
  simpa [gw] using this
theorem gw_at {X : We} {V : Mem} {p : Nat} {q : Nat × va_E} (h : (gw X V)[p]? = some q) : q = (wa X p, g_e X V p) := by
  rw [gw_get (gw_lt h)] at h
  exact (Option.some.inj h).symm
theorem gw_D {X : We} (hI : wI X) (V : Mem) : va_D (wA X) (gw X V) := by
  refine ⟨fun i j a b hi hj e => ?_, fun k q hk => ?_⟩
  · rw [gw_at hi, gw_at hj] at e
    exact hI.1 i j (gw_lt hi) (gw_lt hj) e
  · rw [gw_at hk]
    exact hI.2 k (gw_lt hk)
theorem g_fv_congr {X : We} {V V' : Mem} {p : Nat} (fs : List (Option Nat)) : ∀ k : Nat, (∀ j : Nat, k ≤ j → fs[j - k]? = some none → V' p (j : Int) = V p (j : Int)) → g_fv X V' p k fs = g_fv X V p k fs := by
  induction fs with
  | nil => intro k _; rfl
  | cons a fs ih =>
    intro k h
    have h2 := ih (k + 1) (fun j hj e => h j (by omega) (by rw [show j - k = (j - (k + 1)) + 1 by omega, List.getElem?_cons_succ]; exact e))
    cases a with
    | none =>
      show Value.int (jI (V' p (k : Int))) :: g_fv X V' p (k + 1) fs = Value.int (jI (V p (k : Int))) :: g_fv X V p (k + 1) fs
      rw [h2, h k (Nat.le_refl k) (by simp)]
    | some r =>
      show Value.ref (wa X r) :: g_fv X V' p (k + 1) fs = Value.ref (wa X r) :: g_fv X V p (k + 1) fs
      rw [h2]
theorem g_fv_get {X : We} {V : Mem} {p : Nat} (fs : List (Option Nat)) : ∀ (k j : Nat) (o : Option Nat), fs[j]? = some o → (g_fv X V p k fs)[j]? = some (match o with | none => Value.int (jI (V p ((k + j : Nat) : Int))) | some r => Value.ref (wa X r)) := by
  induction fs with
  | nil => intro k j o h; simp at h
  | cons a fs ih =>
    intro k j o h
    cases j with
    | zero =>
      simp at h
      subst h
      cases a <;> rfl
    | succ j =>
      rw [List.getElem?_cons_succ] at h
      have := ih (k + 1) j o h
      rw [show k + 1 + j = k + (j + 1) by omega] at this
      cases a
      · show (Value.int _ :: g_fv X V p (k + 1) fs)[j + 1]? = _
        rw [List.getElem?_cons_succ]; exact this
      · show (Value.ref _ :: g_fv X V p (k + 1) fs)[j + 1]? = _
        rw [List.getElem?_cons_succ]; exact this
theorem g_fv_len {X : We} {V : Mem} {p : Nat} (fs : List (Option Nat)) : ∀ k : Nat, (g_fv X V p k fs).length = fs.length := by
  induction fs with
  | nil => intro k; rfl
  | cons a fs ih =>
    intro k
    cases a
    · show (g_fv X V p (k + 1) fs).length + 1 = _
      rw [ih]; rfl
    · show (g_fv X V p (k + 1) fs).length + 1 = _
      rw [ih]; rfl
theorem g_fv_set {X : We} {V : Mem} {p : Nat} (v : Int) (fs : List (Option Nat)) : ∀ (k j : Nat), fs[j]? = some none → (g_fv X V p k fs).set j (.int (jI v)) = g_fv X (st V p ((k + j : Nat) : Int) v) p k fs := by
  induction fs with
  | nil => intro k j h; simp at h
  | cons a fs ih =>
    intro k j h
    cases j with
    | zero =>
      simp at h
      subst h
      show Value.int (jI v) :: g_fv X V p (k + 1) fs = Value.int (jI (st V p ((k : Nat) : Int) v p (k : Int))) :: g_fv X (st V p ((k : Nat) : Int) v) p (k + 1) fs
      rw [st_s, g_fv_congr (V := V) (V' := st V p ((k : Nat) : Int) v) fs (k + 1) (fun i hi _ => st_k (by omega))]
    | succ j =>
      rw [List.getElem?_cons_succ] at h
      have := ih (k + 1) j h
      rw [show k + 1 + j = k + (j + 1) by omega] at this
      cases a
      · show Value.int (jI (V p (k : Int))) :: (g_fv X V p (k + 1) fs).set j _ = Value.int (jI (st V p ((k + (j + 1) : Nat) : Int) v p (k : Int))) :: g_fv X _ p (k + 1) fs
        rw [this, st_k (by omega)]
      · show Value.ref _ :: (g_fv X V p (k + 1) fs).set j _ = Value.ref _ :: g_fv X _ p (k + 1) fs
        rw [this]
theorem g_e_congr {X : We} {V V' : Mem} {p : Nat} (h : V' p = V p) : g_e X V' p = g_e X V p := by
  unfold g_e
  rcases hT : wT X p with ⟨k, n⟩ | ⟨ci, fs⟩
  · simp only [h]
  · simp only
    rw [g_fv_congr (V := V) (V' := V') fs 0 (fun j _ _ => by rw [h])]
theorem gw_set {X : We} {V V' : Mem} {p : Nat} {e : va_E} (hp : p < wn X) (h : ∀ q, q ≠ p → V' q = V q) (he : e = g_e X V' p) : (gw X V).set p (wa X p, e) = gw X V' := by
  apply List.ext_getElem?
  intro k
  by_cases hk : k = p
  · subst hk
    rw [List.getElem?_set_self (by simpa [gw] using hp), gw_get hp, he]
  · rw [List.getElem?_set_ne (Ne.symm hk)]
    by_cases hl : k < wn X
    · rw [gw_get hl, gw_get hl, g_e_congr (h k hk)]
    · have h1 : (gw X V)[k]? = none := List.getElem?_eq_none (by simp [gw]; omega)
      have h2 : (gw X V')[k]? = none := List.getElem?_eq_none (by simp [gw]; omega)
      rw [h1, h2]
theorem g_e_obj {X : We} {V : Mem} {p ci : Nat} {fs : List (Option Nat)} (h : wT X p = .inr (ci, fs)) : g_e X V p = .inr (ci, g_fv X V p 0 fs) := by
  unfold g_e; rw [h]
theorem g_e_arr {X : We} {V : Mem} {p k n : Nat} (h : wT X p = .inl (k, n)) (hk : k ≠ 3) : g_e X V p = .inl (wC X k, n, .inl (fun j => jI (V p (j : Int)))) := by
  unfold g_e; rw [h]; simp [hk]
theorem g_e_long {X : We} {V : Mem} {p n : Nat} (h : wT X p = .inl (3, n)) : g_e X V p = .inl (wC X 3, n, .inr (.inl (fun j => lI (V p (j : Int))))) := by
  unfold g_e; rw [h]; simp
/-- the same cells, other names for what can't be seen -/
theorem arrV_congr {cA : ClassId} {n : Nat} {f g : Nat → Value} (h : ∀ j, j < n → f j = g j) : arrV cA n f = arrV cA n g := by
  unfold arrV
  congr 1
  apply Array.ext
  · simp
  · intro i h1 h2
    simp at h1
    simp [h i h1]
def seeN (d : Pd) (k : Int) : Prop := match d with
  | .inl a => 0 ≤ k ∧ k < (a.2 : Int)
  | .inr o => 0 ≤ k ∧ o.2[k.toNat]? = some none
theorem GW.ext {X : We} {V V' : Mem} {H : Heap} (h : GW X V H) (he : ∀ p k, p < wn X → seeN (wT X p) k → V' p k = V p k) : GW X V' H := by
  intro k q hq
  have hl := gw_lt hq
  have h0 := h k _ (gw_get hl)
  rw [gw_at hq]
  rcases hT : wT X k with ⟨kd, n⟩ | ⟨ci, fs⟩
  · by_cases h3 : kd = 3
    · subst h3
      rw [g_e_long hT] at h0 ⊢
      have e : vp_cell (wC X 3) (n, .inr (.inl (fun j => lI (V' k (j : Int))))) = vp_cell (wC X 3) (n, .inr (.inl (fun j => lI (V k (j : Int))))) := by
        show arrV (wC X 3) n (fun j => .long (lI (V' k (j : Int)))) = arrV (wC X 3) n (fun j => .long (lI (V k (j : Int))))
        exact arrV_congr (fun j hj => by rw [he k (j : Int) hl (by rw [hT]; exact ⟨by omega, by exact_mod_cast hj⟩)])
      show H[wa X k]? = some _
      rw [e]; exact h0
    · rw [g_e_arr hT h3] at h0 ⊢
      have e : vp_cell (wC X kd) (n, .inl (fun j => jI (V' k (j : Int)))) = vp_cell (wC X kd) (n, .inl (fun j => jI (V k (j : Int)))) := by
        show arrV (wC X kd) n (fun j => .int (jI (V' k (j : Int)))) = arrV (wC X kd) n (fun j => .int (jI (V k (j : Int))))
        exact arrV_congr (fun j hj => by rw [he k (j : Int) hl (by rw [hT]; exact ⟨by omega, by exact_mod_cast hj⟩)])
      show H[wa X k]? = some _
      rw [e]; exact h0
  · rw [g_e_obj hT] at h0 ⊢
    rw [g_fv_congr (V := V) (V' := V') fs 0 (fun j _ hj => he k (j : Int) hl (by rw [hT]; exact ⟨by omega, by simpa using hj⟩))]
    exact h0
