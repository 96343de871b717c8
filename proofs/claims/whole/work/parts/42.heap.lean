section HP
variable {n : Nat} {wd hi sl : Int}
theorem not_stp {h : Int → Int} {c : Int} (q : ¬ stp wd hi sl h c) {k : Int} (k0 : 0 ≤ k) (k1 : k < 4) (hp : 0 ≤ nb wd hi c k) : h c - h (nb wd hi c k) ≤ sl := by
  rcases Int.lt_or_le sl (h c - h (nb wd hi c k)) with z | z
  · exact absurd ⟨k, k0, k1, hp, z⟩ q
  · exact z
theorem settled_row (hd : dims n wd hi) {h : Int → Int} (hs : settled n wd hi sl h) (h9 : sl ≤ 9) {y : Int} (y0 : 0 ≤ y) (y1 : y < hi) : ∀ x : Nat, (x : Int) < wd → h (y * wd + (x : Int)) ≤ h (y * wd) + 9 * (x : Int) ∧ h (y * wd) ≤ h (y * wd + (x : Int)) + 9 * (x : Int) := by
  intro x
  induction x with
  | zero => intro _; simp
  | succ x ih =>
    intro hx
    have ih := ih (by omega)
    obtain ⟨c0, c1, -, -⟩ := cell_of hd y0 y1 (x := (x : Int)) (by omega) (by omega)
    obtain ⟨d0, d1, -, -⟩ := cell_of hd y0 y1 (x := (x : Int) + 1) (by omega) (by omega)
    have n0 := (nb_xy hd y0 y1 (x := (x : Int)) (by omega) (by omega)).1
    have n1 := (nb_xy hd y0 y1 (x := (x : Int) + 1) (by omega) (by omega)).2.1
    rw [if_pos (by omega)] at n0
    rw [if_pos (by omega)] at n1
    have a := not_stp (hs _ c0 c1) (k := 0) (by omega) (by omega) (by rw [n0]; exact d0)
    have b := not_stp (hs _ d0 d1) (k := 1) (by omega) (by omega) (by rw [n1]; rw [show (x : Int) + 1 - 1 = (x : Int) by omega]; exact c0)
    rw [n0] at a
    rw [n1, show (x : Int) + 1 - 1 = (x : Int) by omega] at b
    rw [show ((x + 1 : Nat) : Int) = (x : Int) + 1 by omega]
    omega
theorem settled_col (hd : dims n wd hi) {h : Int → Int} (hs : settled n wd hi sl h) (h9 : sl ≤ 9) : ∀ y : Nat, (y : Int) < hi → h ((y : Int) * wd) ≤ h 0 + 9 * (y : Int) ∧ h 0 ≤ h ((y : Int) * wd) + 9 * (y : Int) := by
  have hw : 4 ≤ wd := hd.2.1
  intro y
  induction y with
  | zero => intro _; simp
  | succ y ih =>
    intro hy
    have ih := ih (by omega)
    obtain ⟨c0, c1, -, -⟩ := cell_of hd (y := (y : Int)) (x := 0) (by omega) (by omega) (by omega) (by omega)
    obtain ⟨d0, d1, -, -⟩ := cell_of hd (y := (y : Int) + 1) (x := 0) (by omega) (by omega) (by omega) (by omega)
    have n2 := (nb_xy hd (y := (y : Int)) (x := 0) (by omega) (by omega) (by omega) (by omega)).2.2.1
    have n3 := (nb_xy hd (y := (y : Int) + 1) (x := 0) (by omega) (by omega) (by omega) (by omega)).2.2.2
    rw [if_pos (by omega)] at n2
    rw [if_pos (by omega), show (y : Int) + 1 - 1 = (y : Int) by omega] at n3
    simp only [Int.add_zero] at *
    have a := not_stp (hs _ c0 c1) (k := 2) (by omega) (by omega) (by rw [n2]; exact d0)
    have b := not_stp (hs _ d0 d1) (k := 3) (by omega) (by omega) (by rw [n3]; exact c0)
    rw [n2] at a
    rw [n3] at b
    rw [show ((y + 1 : Nat) : Int) = (y : Int) + 1 by omega]
    omega
theorem settled_near (hd : dims n wd hi) {h : Int → Int} (hs : settled n wd hi sl h) (h9 : sl ≤ 9) {c : Int} (h0 : 0 ≤ c) (h1 : c < (n : Int)) : h c ≤ h 0 + 216 ∧ h 0 ≤ h c + 216 := by
  obtain ⟨y0, y1, x0, x1, ec⟩ := row_lt hd h0 h1
  obtain ⟨-, a1, a2, a3, a4⟩ := id hd
  generalize c / wd = y at *
  generalize c % wd = x at *
  obtain ⟨x, rfl⟩ := Int.eq_ofNat_of_zero_le x0
  obtain ⟨y, rfl⟩ := Int.eq_ofNat_of_zero_le y0
  have r := settled_row hd hs h9 (y := (y : Int)) y0 y1 x (by omega)
  have q := settled_col hd hs h9 y y1
  rw [ec]
  constructor <;> omega
/-- what holds of the heaps between slides: t bounds what came by supply -/
def HI (n : Nat) (wd hi sl t : Int) (h : Int → Int) : Prop := settled n wd hi sl h ∧ (∀ c : Int, 0 ≤ c → c < (n : Int) → 0 ≤ h c) ∧ su n h ≤ 1430 * (n : Int) + t ∧ 1 ≤ sl ∧ sl ≤ 9 ∧ 0 ≤ t ∧ t ≤ 60100
/-- what a slide may begin with -/
def PS (n : Nat) (h : Int → Int) : Prop := bnd n 0 9500 h ∧ ∃ m : Int, sq n m h ≤ 300000000
theorem HI.top (hd : dims n wd hi) {t : Int} {h : Int → Int} (hh : HI n wd hi sl t h) {c : Int} (h0 : 0 ≤ c) (h1 : c < (n : Int)) : h c ≤ 9400 := by
  obtain ⟨hs, hp, ht, -, h9, -, ht2⟩ := hh
  obtain ⟨n1, n2⟩ := dims.n hd
  rcases Int.lt_or_le 9400 (h c) with z | z
  · exfalso
    have a := su_le n (f := fun _ => h c - 432) (g := h) (fun d d0 d1 => by
      have p1 := settled_near hd hs h9 d0 d1
      have p2 := settled_near hd hs h9 h0 h1
      omega)
    rw [su_const] at a
    have b : (n : Int) * (h c - 432) = (n : Int) * (h c - 1862) + (n : Int) * 1430 := by
      rw [← Int.mul_add]; congr 1; omega
    have e : 8 * 7538 ≤ (n : Int) * (h c - 1862) := Int.mul_le_mul n1 (by omega) (by omega) (by omega)
    omega
  · exact z
theorem HI.bnd (hd : dims n wd hi) {t : Int} {h : Int → Int} (hh : HI n wd hi sl t h) : bnd n 0 9400 h := fun c h0 h1 => ⟨hh.2.1 c h0 h1, hh.top hd h0 h1⟩
theorem sq_bound {m B : Int} (hB : 0 ≤ B) {h : Int → Int} (hb : ∀ c : Int, 0 ≤ c → c < (n : Int) → -B ≤ h c - m ∧ h c - m ≤ B) : sq n m h ≤ (n : Int) * (B * B) := by
  have := su_le n (f := fun k => (h k - m) * (h k - m)) (g := fun _ => B * B) (fun d d0 d1 => by
    obtain ⟨p1, p2⟩ := hb d d0 d1
    show (h d - m) * (h d - m) ≤ B * B
    rcases Int.le_total 0 (h d - m) with q | q
    · exact Int.mul_le_mul p2 p2 q hB
    · have := Int.mul_le_mul (show -(h d - m) ≤ B by omega) (show -(h d - m) ≤ B by omega) (by omega) hB
      rw [Int.neg_mul_neg] at this
      exact this)
  rw [su_const] at this
  exact this
theorem HI.sq (hd : dims n wd hi) {t : Int} {h : Int → Int} (hh : HI n wd hi sl t h) : sq n (h 0) h ≤ 8000000 := by
  obtain ⟨n1, n2⟩ := dims.n hd
  have a := sq_bound (n := n) (m := h 0) (B := 216) (by omega) (h := h) (fun c h0 h1 => by
    have := settled_near hd hh.1 hh.2.2.2.2.1 h0 h1
    omega)
  have b : (n : Int) * (216 * 216) ≤ 160 * (216 * 216) := Int.mul_le_mul_of_nonneg_right n2 (by omega)
  omega
theorem HI.ps (hd : dims n wd hi) {t : Int} {h : Int → Int} (hh : HI n wd hi sl t h) : PS n h := ⟨fun c h0 h1 => by have := hh.bnd hd c h0 h1; omega, h 0, by have := hh.sq hd; omega⟩
theorem HI.put (hd : dims n wd hi) {t : Int} {h : Int → Int} (hh : HI n wd hi sl t h) {c v : Int} (h0 : 0 ≤ c) (h1 : c < (n : Int)) (v0 : 0 ≤ v) (v1 : v ≤ 9500) : PS n (ui h c v) := by
  refine ⟨fun d d0 d1 => ?_, h 0, ?_⟩
  · have := hh.bnd hd d d0 d1
    unfold ui
    split <;> omega
  · rw [sq_ui h0 h1]
    have a := hh.sq hd
    obtain ⟨n1, n2⟩ := dims.n hd
    have b := hh.bnd hd 0 (by omega) (by omega)
    have e : (v - h 0) * (v - h 0) ≤ 9500 * 9500 := by
      rcases Int.le_total 0 (v - h 0) with q | q
      · exact Int.mul_le_mul (by omega) (by omega) q (by omega)
      · have := Int.mul_le_mul (show -(v - h 0) ≤ 9500 by omega) (show -(v - h 0) ≤ 9500 by omega) (by omega) (by omega)
        rw [Int.neg_mul_neg] at this
        exact this
    have f : 0 ≤ (h c - h 0) * (h c - h 0) := by
      rcases Int.le_total 0 (h c - h 0) with q | q
      · exact Int.mul_nonneg q q
      · exact Int.mul_nonneg_of_nonpos_of_nonpos q q
    omega
/-- after sliding, by another slope perhaps -/
theorem HI.after (hd : dims n wd hi) {s2 t : Int} {g : Int → Int} (hg : ∀ c : Int, 0 ≤ c → c < (n : Int) → 0 ≤ g c) (ht : su n g ≤ 1430 * (n : Int) + t) (hs : 1 ≤ s2) (h9 : s2 ≤ 9) (t0 : 0 ≤ t) (t1 : t ≤ 60100) : HI n wd hi s2 t (stl n wd hi s2 g) := by
  refine ⟨stl_settled hd hs g, ?_, by rw [stl_su hd hs]; exact ht, hs, h9, t0, t1⟩
  exact stl_keep hd hs (fun g => ∀ c : Int, 0 ≤ c → c < (n : Int) → 0 ≤ g c) (fun g c hb h0 h1 q d d0 d1 => by
    obtain ⟨a1, a2, a3, -, -⟩ := lowN_spec hd g h0 h1
    have q2 := (stp_low hd h0 h1).mp q
    have b1 := hb _ a1 a2
    have b2 := hb d d0 d1
    unfold slide
    generalize lowN wd hi g c = u at *
    unfold ui
    split
    · omega
    · split <;> omega) hg
theorem HI.raise (hd : dims n wd hi) {t : Int} {h : Int → Int} (hh : HI n wd hi sl t h) {c : Int} (h0 : 0 ≤ c) (h1 : c < (n : Int)) (ht : t + 1 ≤ 60100) : HI n wd hi sl (t + 1) (stl n wd hi sl (ui h c (h c + 1))) := by
  have hp := hh.2.1 c h0 h1
  refine HI.after hd (fun d d0 d1 => ?_) ?_ hh.2.2.2.1 hh.2.2.2.2.1 (by have := hh.2.2.2.2.2.1; omega) ht
  · have := hh.2.1 d d0 d1
    unfold ui; split <;> omega
  · rw [su_ui n h0 h1]
    have := hh.2.2.1
    omega
theorem HI.lower (hd : dims n wd hi) {t : Int} {h : Int → Int} (hh : HI n wd hi sl t h) {c v : Int} (h0 : 0 ≤ c) (h1 : c < (n : Int)) (v0 : 0 ≤ v) (v1 : v ≤ h c) : HI n wd hi sl t (stl n wd hi sl (ui h c v)) ∧ su n (stl n wd hi sl (ui h c v)) = su n h - h c + v := by
  refine ⟨HI.after hd (fun d d0 d1 => ?_) ?_ hh.2.2.2.1 hh.2.2.2.2.1 hh.2.2.2.2.2.1 hh.2.2.2.2.2.2, ?_⟩
  · have := hh.2.1 d d0 d1
    unfold ui; split <;> omega
  · rw [su_ui n h0 h1]
    have := hh.2.2.1
    omega
  · rw [stl_su hd hh.2.2.2.1, su_ui n h0 h1]
theorem HI.pile (hd : dims n wd hi) {t : Int} {h : Int → Int} (hh : HI n wd hi sl t h) {c v : Int} (h0 : 0 ≤ c) (h1 : c < (n : Int)) (v0 : 0 ≤ v) (v1 : v ≤ 999) : HI n wd hi sl t (stl n wd hi sl (ui h c v)) := by
  refine HI.after hd (fun d d0 d1 => ?_) ?_ hh.2.2.2.1 hh.2.2.2.2.1 hh.2.2.2.2.2.1 hh.2.2.2.2.2.2
  · have := hh.2.1 d d0 d1
    unfold ui; split <;> omega
  · rcases Int.lt_or_le (h c) v with q | q
    · have a := su_le n (f := ui h c v) (g := fun _ => 1430) (fun d d0 d1 => by
        have p1 := settled_near hd hh.1 hh.2.2.2.2.1 d0 d1
        have p2 := settled_near hd hh.1 hh.2.2.2.2.1 h0 h1
        show ui h c v d ≤ 1430
        unfold ui; split <;> omega)
      rw [su_const] at a
      have := hh.2.2.2.2.2.1
      omega
    · rw [su_ui n h0 h1]
      have := hh.2.2.1
      omega
theorem HI.more {t t2 : Int} {h : Int → Int} (hh : HI n wd hi sl t h) (h1 : t ≤ t2) (h2 : t2 ≤ 60100) : HI n wd hi sl t2 h := ⟨hh.1, hh.2.1, by have := hh.2.2.1; omega, hh.2.2.2.1, hh.2.2.2.2.1, by have := hh.2.2.2.2.2.1; omega, h2⟩
theorem HI.slope (hd : dims n wd hi) {t s2 : Int} {h : Int → Int} (hh : HI n wd hi sl t h) (hs : 1 ≤ s2) (h9 : s2 ≤ 9) : HI n wd hi s2 t (stl n wd hi s2 h) := HI.after hd hh.2.1 hh.2.2.1 hs h9 hh.2.2.2.2.2.1 hh.2.2.2.2.2.2
/-- a storm: each heap some lower, by 999 at most -/
theorem HI.cut (hd : dims n wd hi) {t : Int} {h g : Int → Int} (hh : HI n wd hi sl t h) (hg : ∀ c : Int, 0 ≤ c → c < (n : Int) → 0 ≤ g c ∧ g c ≤ h c ∧ h c - 999 ≤ g c) : PS n g ∧ HI n wd hi sl t (stl n wd hi sl g) := by
  refine ⟨⟨fun d d0 d1 => ?_, h 0, ?_⟩, HI.after hd (fun d d0 d1 => (hg d d0 d1).1) ?_ hh.2.2.2.1 hh.2.2.2.2.1 hh.2.2.2.2.2.1 hh.2.2.2.2.2.2⟩
  · have := hh.bnd hd d d0 d1
    have := hg d d0 d1
    omega
  · obtain ⟨n1, n2⟩ := dims.n hd
    have a := sq_bound (n := n) (m := h 0) (B := 1215) (by omega) (h := g) (fun c h0 h1 => by
      have p1 := settled_near hd hh.1 hh.2.2.2.2.1 h0 h1
      have p2 := hg c h0 h1
      omega)
    have b : (n : Int) * (1215 * 1215) ≤ 160 * (1215 * 1215) := Int.mul_le_mul_of_nonneg_right n2 (by omega)
    omega
  · have a := su_le n (f := g) (g := h) (fun d d0 d1 => (hg d d0 d1).2.1)
    have := hh.2.2.1
    omega
end HP
