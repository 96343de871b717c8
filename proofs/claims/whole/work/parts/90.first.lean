/-! ===== a new pair ===== -/
theorem iV_D (wd hi : Int) (g : Int → Int) {b j : Nat} (hb : isD b) (hj : j < 14) : iV wd hi g (b + j) = fun k => shV k j := by
  funext k
  unfold iV
  rcases hb with rfl | rfl | rfl
  · rw [if_neg (by omega), if_neg (by omega), if_neg (by omega), if_pos (by omega), show 3 + j - 3 = j by omega]
  · rw [if_neg (by omega), if_neg (by omega), if_neg (by omega), if_neg (by omega), if_pos (by omega), show 17 + j - 17 = j by omega]
  · rw [if_neg (by omega), if_neg (by omega), if_neg (by omega), if_neg (by omega), if_neg (by omega), if_pos (by omega), show 31 + j - 31 = j by omega]
theorem su_z (n : Nat) : su n (fun _ => 0) = 0 := by
  rw [su_const, Int.mul_zero]
theorem iV_Inv {n : Nat} {wd hi : Int} {g : Int → Int} (hd : dims n wd hi) (hg : ∀ c k : Int, 0 ≤ c → c < (n : Int) → 0 ≤ k → k < 4 → g (c * 4 + k) = nb wd hi c k) {b : Nat} (hb : isD b) : Inv (iV wd hi g) n wd hi b := by
  have e0 : iV wd hi g b = fun k => shV k 0 := iV_D wd hi g (j := 0) hb (by decide)
  have f2 : bnd n 0 9500 (fun k => shV k 2) := fun c _ _ => ⟨show (0 : Int) ≤ 0 by omega, show (0 : Int) ≤ 9500 by omega⟩
  have f3 : bnd n 0 100 (fun k => shV k 3) := fun c _ _ => ⟨show (0 : Int) ≤ 0 by omega, show (0 : Int) ≤ 100 by omega⟩
  have f4 : bnd n 0 99 (fun k => shV k 4) := fun c _ _ => ⟨show (0 : Int) ≤ 0 by omega, show (0 : Int) ≤ 99 by omega⟩
  have f5 : bnd n 0 20 (fun k => shV k 5) := fun c _ _ => ⟨show (0 : Int) ≤ 0 by omega, show (0 : Int) ≤ 20 by omega⟩
  have f6 : bnd n 0 999 (fun k => shV k 6) := fun c _ _ => ⟨show (0 : Int) ≤ 0 by omega, show (0 : Int) ≤ 999 by omega⟩
  have f7 : bnd n (-1) 3000 (fun k => shV k 7) := fun c _ _ => ⟨show (-1 : Int) ≤ -1 by omega, show (-1 : Int) ≤ 3000 by omega⟩
  have f1 : HI n wd hi (shV 3 10) (20 * shV 12 0) (fun k => shV k 1) := by
    refine ⟨?_, fun c _ _ => show (0 : Int) ≤ 0 by omega, ?_, show (1 : Int) ≤ 2 by omega, show (2 : Int) ≤ 9 by omega, show (0 : Int) ≤ 20 * 0 by omega, show (20 : Int) * 0 ≤ 60100 by omega⟩
    · intro c c0 c1
      intro q
      obtain ⟨k, k0, k1, h0, h1⟩ := q
      have h1 : (2 : Int) < 0 - 0 := h1
      omega
    · show su n (fun _ => 0) ≤ 1430 * (n : Int) + 20 * 0
      rw [su_z]; omega
  refine ⟨⟨⟨rfl, rfl, ?_, hd, fun c k c0 c1 k0 k1 => hg c k c0 c1 k0 k1⟩, ?_, ?_⟩, ⟨?_, ?_, ?_, ?_, ?_, ?_, ?_⟩, ?_, ?_, ?_⟩
  · show wd * hi = (n : Int); exact hd.1.symm
  · rw [iV_D wd hi g hb (by decide), iV_D wd hi g hb (by decide), e0]; exact f1
  · rw [iV_D wd hi g hb (by decide)]; rfl
  · rw [iV_D wd hi g hb (by decide)]; exact f2
  · rw [iV_D wd hi g hb (by decide)]; exact f3
  · rw [iV_D wd hi g hb (by decide)]; exact f4
  · rw [iV_D wd hi g hb (by decide)]; exact f5
  · rw [iV_D wd hi g hb (by decide)]; exact f6
  · rw [iV_D wd hi g hb (by decide)]; exact f7
  · rw [iV_D wd hi g hb (by decide)]
    exact ⟨⟨show (1 : Int) ≤ 2 by omega, show (2 : Int) ≤ 5 by omega⟩, ⟨show (0 : Int) ≤ 60 by omega, show (60 : Int) ≤ 100 by omega⟩, ⟨show (0 : Int) ≤ 40 by omega, show (40 : Int) ≤ 100 by omega⟩, ⟨show (0 : Int) ≤ 2 by omega, show (2 : Int) ≤ 20 by omega⟩⟩
  · unfold SK
    rw [iV_D wd hi g hb (by decide)]
    refine ⟨show (0 : Int) ≤ 0 by omega, show (0 : Int) ≤ 20 by omega, Or.inl ⟨rfl, rfl⟩, fun k k0 k1 => ?_⟩
    have k1 : k < 0 := k1
    omega
  · rw [e0]; exact show (0 : Int) ≤ 0 by omega
  · rw [e0]; exact show (0 : Int) ≤ 3000 by omega
theorem iV_XI {n : Nat} {wd hi : Int} {g : Int → Int} (hd : dims n wd hi) (hg : ∀ c k : Int, 0 ≤ c → c < (n : Int) → 0 ≤ k → k < 4 → g (c * 4 + k) = nb wd hi c k) : XI (iV wd hi g) n wd hi := by
  refine ⟨iV_Inv hd hg isN, iV_Inv hd hg isM, ?_, ⟨⟨show (0 : Int) ≤ 0 by omega, show (0 : Int) ≤ 200 by omega⟩, fun k _ _ => ⟨show (-128 : Int) ≤ 0 by omega, show (0 : Int) ≤ 127 by omega⟩⟩, ⟨⟨show (0 : Int) ≤ 0 by omega, show (0 : Int) ≤ 4 by omega⟩, fun i i0 i1 => ?_⟩, ⟨⟨show (0 : Int) ≤ 0 by omega, show (0 : Int) ≤ 20 by omega⟩, fun i i0 i1 => ?_⟩⟩
  · rw [iV_D wd hi g isT (by decide)]; rfl
  · have i1 : i < 0 := i1
    omega
  · have i1 : i < 0 := i1
    omega
theorem KP.to {U V : Mem} {a a' : Nat} {q : Int} (h : KP U V a q) (e : ∀ j, j < 14 → V (a' + j) = V (a + j)) : KP U V a' q := by
  obtain ⟨h1, h2, h3, ⟨h4, h5, h6⟩, h7⟩ := h
  have e0 : V a' = V a := e 0 (by decide)
  refine ⟨fun j c j0 j1 c0 c1 => ?_, fun k k0 k1 => ?_, fun k k0 k1 => ?_, ⟨?_, ?_, ?_⟩, fun k k0 k1 k2 => ?_⟩
  · rw [e j (by omega)]; exact h1 j c j0 j1 c0 c1
  · rw [e 10 (by decide)]; exact h2 k k0 k1
  · rw [e0]; exact h3 k k0 k1
  · rw [e 11 (by decide)]; exact h4
  · rw [e 11 (by decide)]; exact h5
  · rw [e 11 (by decide)]; exact h6
  · rw [e 11 (by decide)] at k2
    rw [e 12 (by decide), e 13 (by decide)]; exact h7 k k0 k1 k2
theorem iV_MR {n : Nat} {wd hi : Int} {g : Int → Int} (hd : dims n wd hi) {U : Mem} (hK : KP U (iV wd hi g) bN 1) (hF : FK (mw wd hi) U 1) : MR (iV wd hi g) (pk (iV wd hi g) bN U (fun _ => 0) 0) n wd hi := by
  have u : ∀ p, p < 21 → U p = mw wd hi p := fun p hp => hF.1 p (by omega) (by omega) (by omega) (by omega)
  refine ⟨U, fun _ => 0, 0, rfl, ⟨⟨?_, ?_, ?_, hd⟩, ?_, ?_, ?_, ?_, ?_, ?_, ⟨?_, ?_, ?_, ?_, ?_⟩, ?_, ?_, ?_, ?_⟩, fun c => Or.inl rfl⟩
  · rw [u 0 (by decide)]; rfl
  · rw [u 0 (by decide)]; rfl
  · rw [u 0 (by decide)]; exact hd.1.symm
  · intro k k0 k1
    rw [iV_N wd hi g (j := 11) (by decide)] at k1
    have k1 : k < 0 := k1
    omega
  · exact hK.to (fun j hj => by rw [iV_D wd hi g isM hj, iV_D wd hi g isN hj])
  · rw [u 11 (by decide)]; rfl
  · rw [u 0 (by decide)]; rfl
  · rw [u 0 (by decide)]; rfl
  · rw [u 0 (by decide)]; rfl
  · rw [u 0 (by decide)]; rfl
  · rw [u 14 (by decide)]; rfl
  · rw [u 15 (by decide)]; rfl
  · rw [u 16 (by decide)]; rfl
  · rw [u 17 (by decide)]; rfl
  · rw [u 0 (by decide)]; rfl
  · rw [u 18 (by decide)]; rfl
  · rw [u 19 (by decide)]; rfl
  · rw [u 20 (by decide)]; rfl
set_option maxHeartbeats 4000000 in
set_option maxRecDepth 100000 in
theorem L7_gw (D : va_G) (C : Nat → ClassId) (n : Nat) (wd hi : Int) (q : Nat → Nat) (g : Int → Int) (z : Nat → Nat) (A : Nat → Prop) : L7 C n wd hi q g = gw ((D, C, q, xT n, 59, z, A) : We) (iV wd hi g) := rfl
theorem xT_wL {n : Nat} {wd hi : Int} (hd : dims n wd hi) : ∀ (p : Nat) (q : Nat × Nat), xT n p = .inl q → q.2 < 2147483648 := by
  obtain ⟨hn1, hn2⟩ := dims.n hd
  intro p q e
  unfold xT at e
  have dn : ∀ b j, xDn b n j = .inl q → q.2 < 2147483648 := by
    intro b j e
    unfold xDn at e
    split at e <;> first | (cases e; done) | (have e2 := Sum.inl.inj e; rw [← e2]; dsimp only; omega)
  split at e
  · split at e <;> first | (cases e; done) | (have e2 := Sum.inl.inj e; rw [← e2]; dsimp only; omega)
  · split at e
    · exact dn _ _ e
    · split at e
      · exact dn _ _ e
      · split at e
        · exact dn _ _ e
        · split at e <;> first | (cases e; done) | (have e2 := Sum.inl.inj e; rw [← e2]; dsimp only; omega)
