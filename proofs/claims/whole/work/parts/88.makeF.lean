section PF
variable {p : Program} {l : Launch} {e : Env} {R : Room} {s : State} {m : MethodId} {args : Array Value} {below : List Frame} {meth : Method} {c : Code} {H : Heap} {locs : List Loc} {cells slots : Nat} {Q : State → Prop}
variable {own : String} {cc : ByteArray} {nL : Nat} {ret : Option FieldType} {pc : Nat} {ls : Array Slot} {rest : List Value} {X : We} {V : Mem} {q : Nat}
theorem x_putiF (E : Ev p s m meth c own cc nL args ret) (hmn : meth.name = "<init>") (hI : GJ X s) (hG : GW X V H) (hS : va_S (wA X) s.heap H locs) {ci : Nat} {fs : List (Option Nat)} (hT : At X q (.inr (ci, fs))) {C : String} {T : u_T} {ty : Nat → FieldType} {N : Nat} (cf : ClF ci C T ty N) (k : Nat) (ki : Int) (hki : ((k : Nat) : Int) = ki) (hf : fs[k]? = some none) (hk : k < N) (hint : (T k).2.2.1 = "I") (hfin : (T k).2.2.2 = true) (hdecl : (T k).1 = own) {v : Int} {index : Nat} (hlk : Cond.fieldLink own index (T k).1 (T k).2.1 (T k).2.2.1 ∈ gT) (hdg : decode cc pc = .ok (.putfield index, 3))
    (kk : ∀ (H1 : Heap) (locs1 : List Loc), GW X (st V q ki v) H1 → va_S (wA X) s.heap H1 locs1 → W p l e R s m args below meth c H1 locs1 cells slots Q (F0 m (pc + 3) ls rest)) : W p l e R s m args below meth c H locs cells slots Q (F0 m pc ls (.int (jI v) :: .ref (wa X q) :: rest)) := by
  subst hki
  refine va_putF (C := C) (T := T) (N := N) (ci := ci) (ty := .int) E.1 E.2.1 E.2.2.2.2.1 cf.2.1 ty cf.2.2.1 cf.2.2.2 E.2.2.2.1 hI.1 hG (gw_D hI.2.1 V) hS q (GW.cell hT) cf.1 k hk (E.2.2.2.2.1 _ hlk) (fun _ h => h) hfin hmn hdecl (by rw [hint]; decide) rfl rfl (by rw [g_fv_len]; exact (List.getElem?_eq_some_iff.mp hf).1) hdg (fun H1 locs1 hP1 _ hS1 => kk H1 locs1 ?_ hS1)
  rw [gw_set (V' := st V q ((k : Nat) : Int) v) hT.2 (fun r hr => st_p hr) (by rw [g_e_obj hT.1, g_fv_set v fs 0 k hf, Nat.zero_add])] at hP1
  exact hP1
end PF
/-- what a new model holds ahead of its mark -/
def mw (wd hi : Int) : Mem := fun p k => if p = 0 then (if k = 0 then wd else if k = 1 then hi else if k = 2 then wd * hi else if k = 11 then 1 else if k = 29 then -1 else if k = 30 then -1 else 0) else if p = 7 then -1 else if p = 8 then frF k else 0
/-- a new shore -/
def shV (k : Int) (j : Nat) : Int := if j = 0 then (if k = 11 then 1 else 0) else if j = 7 then -1 else if j = 10 then frF k else 0
/-- what a new DuneBench holds -/
def iV (wd hi : Int) (g : Int → Int) : Mem := fun p k => if p = 0 then 0 else if p = 1 then (if k = 0 then wd else if k = 1 then hi else wd * hi) else if p = 2 then g k else if p < 17 then shV k (p - 3) else if p < 31 then shV k (p - 17) else if p < 45 then shV k (p - 31) else if p = 45 then (if k = 2 then -1 else if k = 3 then -1 else 0) else 0
theorem iV_N (wd hi : Int) (g : Int → Int) {j : Nat} (hj : j < 14) : iV wd hi g (bN + j) = fun k => shV k j := by
  have e := bN3
  funext k
  unfold iV
  rw [if_neg (by omega), if_neg (by omega), if_neg (by omega), if_pos (by omega), show bN + j - 3 = j by omega]
theorem mw_pk (wd hi : Int) (g : Int → Int) : pk (iV wd hi g) bN (mw wd hi) (fun _ => 0) 0 = mw wd hi := by
  have e0 : iV wd hi g bN = fun k => shV k 0 := iV_N wd hi g (j := 0) (by decide)
  have e10 := iV_N wd hi g (j := 10) (by decide)
  have e11 := iV_N wd hi g (j := 11) (by decide)
  funext p
  unfold pk
  by_cases h0 : p = 0
  · subst h0
    rw [if_pos rfl, e0, e11]
    funext k
    by_cases h47 : k = 47
    · subst h47; rfl
    · rw [if_neg h47]
      by_cases h1 : 11 ≤ k ∧ k ≤ 15
      · rw [if_pos h1]
        rcases (show k = 11 ∨ k = 12 ∨ k = 13 ∨ k = 14 ∨ k = 15 by omega) with rfl | rfl | rfl | rfl | rfl <;> rfl
      · rw [if_neg h1]
        by_cases h2 : k = 16
        · subst h2; rfl
        · rw [if_neg h2]
          by_cases h3 : k = 19
          · subst h3; rfl
          · rw [if_neg h3]
            by_cases h4 : k = 20
            · subst h4; rfl
            · rw [if_neg h4]
  · rw [if_neg h0]
    by_cases h7 : p ≤ 7
    · rw [if_pos h7, iV_N wd hi g (by omega)]
      rcases (show p = 1 ∨ p = 2 ∨ p = 3 ∨ p = 4 ∨ p = 5 ∨ p = 6 ∨ p = 7 by omega) with rfl | rfl | rfl | rfl | rfl | rfl | rfl <;> rfl
    · rw [if_neg h7]
      by_cases h8 : p = 8
      · subst h8; rw [if_pos rfl, e10]; rfl
      · rw [if_neg h8]
        by_cases h25 : p = 25
        · subst h25; rfl
        · rw [if_neg h25]

theorem mT_wL : ∀ (p : Nat) (q : Nat × Nat), mT p = .inl q → q.2 < 2147483648 := by
  intro p q e
  by_cases hp : p < 26
  · have key : ∀ i : Nat, i < 26 → (match mT i with | .inl a => decide (a.2 < 2147483648) | .inr _ => true) = true := by decide
    have k := key p hp
    rw [e] at k
    exact of_decide_eq_true k
  · have : mT p = mT 26 := by
      unfold mT
      split <;> first | omega | rfl
    rw [this] at e
    have e2 : (match mT 26 with | .inl a => decide (a.2 < 2147483648) | .inr _ => true) = true := by decide
    rw [e] at e2
    exact of_decide_eq_true e2
theorem WR.zero (wd hi : Int) (g : Int → Int) : WR (mw wd hi) (iV wd hi g) bN := by
  intro k k0 k1
  rw [iV_N wd hi g (j := 11) (by decide)] at k1
  have : shV 2 11 = 0 := rfl
  omega

set_option maxHeartbeats 4000000 in
set_option maxRecDepth 100000 in
theorem m_X8 (l : Launch) {D : va_G} {C : Nat → ClassId} {z : Nat → Nat} (h : Nat) (w0 h0 : Int) (hw0 : rg w0) (hh0 : rg h0) {wd hi : Int} (hwd : wd = max 4 (min 16 w0)) (hhi : hi = max 2 (min 10 h0)) (g : Int → Int) : Cs l D C z yX8_init cX8_init 4 2 25 3987 60 [.ref h, .int (jI w0), .int (jI h0)] [(h, .inr (8, [.int (jI 0), .int (jI 0), .int (jI 0), .null, .null, .null, .null, .null, .null, .null, .null, .int (jI 0), .int (jI 0), .int (jI 0), .int (jI 0), .int (jI 0), .int (jI 0), .null, .null, .int (jI 0), .int (jI 0), .null, .int (jI 0), .int (jI 0), .int (jI 0), .int (jI 0), .int (jI 0), .int (jI 0), .int (jI 0), .int (jI 0), .int (jI 0), .null, .null, .int (jI 0), .null, .null, .null, .null, .int (jI 0), .null, .null, .null, .null, .null, .null, .null, .null, .int (jI 0), .int (jI 0), .int (jI 0)]))] (fun w => ∃ (q : Nat → Nat) (U : Mem), q 0 = h ∧ KP U (iV wd hi g) bN 1 ∧ FK (mw wd hi) U 1 ∧ w = gw ((D, C, q, mT, 26, z, (fun _ => True)) : We) (pk (iV wd hi g) bN U (fun _ => 0) 0)) := by
  refine Cs.go (by decide) rfl (Nat.le_of_ble_eq_true rfl) ?_
  intro pg ev s0 mi bl mt cd ls Rm ag Qq A hR hQ E hin K Z hP hD hS hA hl
  have hl : lv_has ls 4 [(0, .ref h), (1, .int (jI w0)), (2, .int (jI h0))] := hl
  unfold rg at hw0 hh0
  refine x_aload_n E dX8_init_0 (lv_at hl 0 rfl) ?_
  refine n_obj E hl km_X8_1 dX8_init_1 (by rw [hR]; exact ⟨Nat.le_of_ble_eq_true rfl, Nat.le_of_ble_eq_true rfl⟩) ⟨_, rfl⟩ ?_
  refine x_aload_n E dX8_init_4 (lv_at hl 0 rfl) ?_
  refine x_sipush E dX8_init_5 (by decide) ?_
  refine n_newI E K hP hD hS hA 160 rfl (by decide) (by rw [hR]; exact Nat.le_of_ble_eq_true rfl) (by rw [hR]; exact Nat.le_of_ble_eq_true rfl) dX8_init_8 (fun q1 H hP hD hS => ?_)
  refine n_putF E hin K hP hD hS cf8 3 (by decide) rfl rfl (v := .ref q1) rfl rfl (Nat.le_of_ble_eq_true rfl) kf_X8_7 dX8_init_10 (fun H locs hP hD hS => ?_)
  refine x_aload_n E dX8_init_13 (lv_at hl 0 rfl) ?_
  refine x_sipush E dX8_init_14 (by decide) ?_
  refine n_newI E K hP hD hS hA 160 rfl (by decide) (by rw [hR]; exact Nat.le_of_ble_eq_true rfl) (by rw [hR]; exact Nat.le_of_ble_eq_true rfl) dX8_init_17 (fun q2 H hP hD hS => ?_)
  refine n_putF E hin K hP hD hS cf8 4 (by decide) rfl rfl (v := .ref q2) rfl rfl (Nat.le_of_ble_eq_true rfl) kf_X8_13 dX8_init_19 (fun H locs hP hD hS => ?_)
  refine x_aload_n E dX8_init_22 (lv_at hl 0 rfl) ?_
  refine x_sipush E dX8_init_23 (by decide) ?_
  refine n_newI E K hP hD hS hA 160 rfl (by decide) (by rw [hR]; exact Nat.le_of_ble_eq_true rfl) (by rw [hR]; exact Nat.le_of_ble_eq_true rfl) dX8_init_26 (fun q3 H hP hD hS => ?_)
  refine n_putF E hin K hP hD hS cf8 5 (by decide) rfl rfl (v := .ref q3) rfl rfl (Nat.le_of_ble_eq_true rfl) kf_X8_16 dX8_init_28 (fun H locs hP hD hS => ?_)
  refine x_aload_n E dX8_init_31 (lv_at hl 0 rfl) ?_
  refine x_sipush E dX8_init_32 (by decide) ?_
  refine n_newI E K hP hD hS hA 160 rfl (by decide) (by rw [hR]; exact Nat.le_of_ble_eq_true rfl) (by rw [hR]; exact Nat.le_of_ble_eq_true rfl) dX8_init_35 (fun q4 H hP hD hS => ?_)
  refine n_putF E hin K hP hD hS cf8 6 (by decide) rfl rfl (v := .ref q4) rfl rfl (Nat.le_of_ble_eq_true rfl) kf_X8_19 dX8_init_37 (fun H locs hP hD hS => ?_)
  refine x_aload_n E dX8_init_40 (lv_at hl 0 rfl) ?_
  refine x_sipush E dX8_init_41 (by decide) ?_
  refine n_newI E K hP hD hS hA 160 rfl (by decide) (by rw [hR]; exact Nat.le_of_ble_eq_true rfl) (by rw [hR]; exact Nat.le_of_ble_eq_true rfl) dX8_init_44 (fun q5 H hP hD hS => ?_)
  refine n_putF E hin K hP hD hS cf8 7 (by decide) rfl rfl (v := .ref q5) rfl rfl (Nat.le_of_ble_eq_true rfl) kf_X8_22 dX8_init_46 (fun H locs hP hD hS => ?_)
  refine x_aload_n E dX8_init_49 (lv_at hl 0 rfl) ?_
  refine x_sipush E dX8_init_50 (by decide) ?_
  refine n_newI E K hP hD hS hA 160 rfl (by decide) (by rw [hR]; exact Nat.le_of_ble_eq_true rfl) (by rw [hR]; exact Nat.le_of_ble_eq_true rfl) dX8_init_53 (fun q6 H hP hD hS => ?_)
  refine n_putF E hin K hP hD hS cf8 8 (by decide) rfl rfl (v := .ref q6) rfl rfl (Nat.le_of_ble_eq_true rfl) kf_X8_25 dX8_init_55 (fun H locs hP hD hS => ?_)
  refine x_aload_n E dX8_init_58 (lv_at hl 0 rfl) ?_
  refine x_sipush E dX8_init_59 (by decide) ?_
  refine n_newI E K hP hD hS hA 160 rfl (by decide) (by rw [hR]; exact Nat.le_of_ble_eq_true rfl) (by rw [hR]; exact Nat.le_of_ble_eq_true rfl) dX8_init_62 (fun q7 H hP hD hS => ?_)
  refine n_putF E hin K hP hD hS cf8 9 (by decide) rfl rfl (v := .ref q7) rfl rfl (Nat.le_of_ble_eq_true rfl) kf_X8_28 dX8_init_64 (fun H locs hP hD hS => ?_)
  refine x_aload_n E dX8_init_67 (lv_at hl 0 rfl) ?_
  refine x_iconst E dX8_init_68 ?_
  refine n_newI E K hP hD hS hA 5 rfl (by decide) (by rw [hR]; exact Nat.le_of_ble_eq_true rfl) (by rw [hR]; exact Nat.le_of_ble_eq_true rfl) dX8_init_69 (fun q8 H hP hD hS => ?_)
  refine x_dup E dX8_init_71 rfl ?_
  refine x_iconst E dX8_init_72 ?_
  refine x_iconst E dX8_init_73 ?_
  refine va_iast E.1 E.2.1 K hP hD hS 8 0 rfl rfl (j_in (z := 0) (by omega) (by omega)) dX8_init_74 (fun H locs hP hD hS => ?_)
  refine x_dup E dX8_init_75 rfl ?_
  refine x_iconst E dX8_init_76 ?_
  refine x_bipush E dX8_init_77 (by decide) ?_
  refine va_iast E.1 E.2.1 K hP hD hS 8 0 rfl rfl (j_in (z := 1) (by omega) (by omega)) dX8_init_79 (fun H locs hP hD hS => ?_)
  refine x_dup E dX8_init_80 rfl ?_
  refine x_iconst E dX8_init_81 ?_
  refine x_bipush E dX8_init_82 (by decide) ?_
  refine va_iast E.1 E.2.1 K hP hD hS 8 0 rfl rfl (j_in (z := 2) (by omega) (by omega)) dX8_init_84 (fun H locs hP hD hS => ?_)
  refine x_dup E dX8_init_85 rfl ?_
  refine x_iconst E dX8_init_86 ?_
  refine x_iconst E dX8_init_87 ?_
  refine va_iast E.1 E.2.1 K hP hD hS 8 0 rfl rfl (j_in (z := 3) (by omega) (by omega)) dX8_init_88 (fun H locs hP hD hS => ?_)
  refine x_dup E dX8_init_89 rfl ?_
  refine x_iconst E dX8_init_90 ?_
  refine x_iconst E dX8_init_91 ?_
  refine va_iast E.1 E.2.1 K hP hD hS 8 0 rfl rfl (j_in (z := 4) (by omega) (by omega)) dX8_init_92 (fun H locs hP hD hS => ?_)
  have hru : ∀ (ws : va_W), ws = [(h, .inr (8, [.int (jI 0), .int (jI 0), .int (jI 0), .ref q1, .ref q2, .ref q3, .ref q4, .ref q5, .ref q6, .ref q7, .null, .int (jI 0), .int (jI 0), .int (jI 0), .int (jI 0), .int (jI 0), .int (jI 0), .null, .null, .int (jI 0), .int (jI 0), .null, .int (jI 0), .int (jI 0), .int (jI 0), .int (jI 0), .int (jI 0), .int (jI 0), .int (jI 0), .int (jI 0), .int (jI 0), .null, .null, .int (jI 0), .null, .null, .null, .null, .int (jI 0), .null, .null, .null, .null, .null, .null, .null, .null, .int (jI 0), .int (jI 0), .int (jI 0)])), (q1, .inl (C 0, 160, .inl (fun _ => jI 0))), (q2, .inl (C 0, 160, .inl (fun _ => jI 0))), (q3, .inl (C 0, 160, .inl (fun _ => jI 0))), (q4, .inl (C 0, 160, .inl (fun _ => jI 0))), (q5, .inl (C 0, 160, .inl (fun _ => jI 0))), (q6, .inl (C 0, 160, .inl (fun _ => jI 0))), (q7, .inl (C 0, 160, .inl (fun _ => jI 0))), (q8, .inl (C 0, 5, .inl (fun j => jI (frF (j : Int)))))] → va_P D vwCl ws H → va_D A ws → va_P D vwCl [(h, .inr (8, [.int (jI 0), .int (jI 0), .int (jI 0), .ref q1, .ref q2, .ref q3, .ref q4, .ref q5, .ref q6, .ref q7, .null, .int (jI 0), .int (jI 0), .int (jI 0), .int (jI 0), .int (jI 0), .int (jI 0), .null, .null, .int (jI 0), .int (jI 0), .null, .int (jI 0), .int (jI 0), .int (jI 0), .int (jI 0), .int (jI 0), .int (jI 0), .int (jI 0), .int (jI 0), .int (jI 0), .null, .null, .int (jI 0), .null, .null, .null, .null, .int (jI 0), .null, .null, .null, .null, .null, .null, .null, .null, .int (jI 0), .int (jI 0), .int (jI 0)])), (q1, .inl (C 0, 160, .inl (fun _ => jI 0))), (q2, .inl (C 0, 160, .inl (fun _ => jI 0))), (q3, .inl (C 0, 160, .inl (fun _ => jI 0))), (q4, .inl (C 0, 160, .inl (fun _ => jI 0))), (q5, .inl (C 0, 160, .inl (fun _ => jI 0))), (q6, .inl (C 0, 160, .inl (fun _ => jI 0))), (q7, .inl (C 0, 160, .inl (fun _ => jI 0))), (q8, .inl (C 0, 5, .inl (fun j => jI (frF (j : Int)))))] H ∧ va_D A [(h, .inr (8, [.int (jI 0), .int (jI 0), .int (jI 0), .ref q1, .ref q2, .ref q3, .ref q4, .ref q5, .ref q6, .ref q7, .null, .int (jI 0), .int (jI 0), .int (jI 0), .int (jI 0), .int (jI 0), .int (jI 0), .null, .null, .int (jI 0), .int (jI 0), .null, .int (jI 0), .int (jI 0), .int (jI 0), .int (jI 0), .int (jI 0), .int (jI 0), .int (jI 0), .int (jI 0), .int (jI 0), .null, .null, .int (jI 0), .null, .null, .null, .null, .int (jI 0), .null, .null, .null, .null, .null, .null, .null, .null, .int (jI 0), .int (jI 0), .int (jI 0)])), (q1, .inl (C 0, 160, .inl (fun _ => jI 0))), (q2, .inl (C 0, 160, .inl (fun _ => jI 0))), (q3, .inl (C 0, 160, .inl (fun _ => jI 0))), (q4, .inl (C 0, 160, .inl (fun _ => jI 0))), (q5, .inl (C 0, 160, .inl (fun _ => jI 0))), (q6, .inl (C 0, 160, .inl (fun _ => jI 0))), (q7, .inl (C 0, 160, .inl (fun _ => jI 0))), (q8, .inl (C 0, 5, .inl (fun j => jI (frF (j : Int)))))] := fun ws e h1 h2 => by rw [← e]; exact ⟨h1, h2⟩
  obtain ⟨hP, hD⟩ := hru _ (by
    have er : upd (upd (upd (upd (upd (fun _ => jI 0) (jI 0).toNatClampNeg (jI 2)) (jI 1).toNatClampNeg (jI 60)) (jI 2).toNatClampNeg (jI 40)) (jI 3).toNatClampNeg (jI 2)) (jI 4).toNatClampNeg (jI 2) = (fun j : Nat => jI (frF (j : Int))) := by
      funext j
      match j with
      | 0 => rfl
      | 1 => rfl
      | 2 => rfl
      | 3 => rfl
      | 4 => rfl
      | j + 5 => rfl
    rw [← er]; rfl) hP hD
  refine n_putF E hin K hP hD hS cf8 10 (by decide) rfl rfl (v := .ref q8) rfl rfl (Nat.le_of_ble_eq_true rfl) kf_X8_31 dX8_init_93 (fun H locs hP hD hS => ?_)
  refine x_aload_n E dX8_init_96 (lv_at hl 0 rfl) ?_
  refine x_iconst E dX8_init_97 ?_
  refine n_putV E K hP hD hS cf8 11 (by decide) rfl (v := .int (jI 1)) rfl rfl (Nat.le_of_ble_eq_true rfl) kf_X8_34 dX8_init_98 (fun H locs hP hD hS => ?_)
  refine x_aload_n E dX8_init_101 (lv_at hl 0 rfl) ?_
  refine x_bipush E dX8_init_102 (by decide) ?_
  refine n_newI E K hP hD hS hA 20 rfl (by decide) (by rw [hR]; exact Nat.le_of_ble_eq_true rfl) (by rw [hR]; exact Nat.le_of_ble_eq_true rfl) dX8_init_104 (fun q9 H hP hD hS => ?_)
  refine n_putF E hin K hP hD hS cf8 17 (by decide) rfl rfl (v := .ref q9) rfl rfl (Nat.le_of_ble_eq_true rfl) kf_X8_38 dX8_init_106 (fun H locs hP hD hS => ?_)
  refine x_aload_n E dX8_init_109 (lv_at hl 0 rfl) ?_
  refine x_bipush E dX8_init_110 (by decide) ?_
  refine n_newI E K hP hD hS hA 20 rfl (by decide) (by rw [hR]; exact Nat.le_of_ble_eq_true rfl) (by rw [hR]; exact Nat.le_of_ble_eq_true rfl) dX8_init_112 (fun q10 H hP hD hS => ?_)
  refine n_putF E hin K hP hD hS cf8 18 (by decide) rfl rfl (v := .ref q10) rfl rfl (Nat.le_of_ble_eq_true rfl) kf_X8_41 dX8_init_114 (fun H locs hP hD hS => ?_)
  refine x_aload_n E dX8_init_117 (lv_at hl 0 rfl) ?_
  refine x_sipush E dX8_init_118 (by decide) ?_
  refine n_newB E K hP hD hS hA 200 rfl (by decide) (by rw [hR]; exact Nat.le_of_ble_eq_true rfl) (by rw [hR]; exact Nat.le_of_ble_eq_true rfl) dX8_init_121 (fun q11 H hP hD hS => ?_)
  refine n_putF E hin K hP hD hS cf8 21 (by decide) rfl rfl (v := .ref q11) rfl rfl (Nat.le_of_ble_eq_true rfl) kf_X8_44 dX8_init_123 (fun H locs hP hD hS => ?_)
  refine x_aload_n E dX8_init_126 (lv_at hl 0 rfl) ?_
  refine x_iconst E dX8_init_127 ?_
  refine n_putV E K hP hD hS cf8 29 (by decide) rfl (v := .int (jI (-1))) rfl rfl (Nat.le_of_ble_eq_true rfl) kf_X8_48 dX8_init_128 (fun H locs hP hD hS => ?_)
  refine x_aload_n E dX8_init_131 (lv_at hl 0 rfl) ?_
  refine x_iconst E dX8_init_132 ?_
  refine n_putV E K hP hD hS cf8 30 (by decide) rfl (v := .int (jI (-1))) rfl rfl (Nat.le_of_ble_eq_true rfl) kf_X8_51 dX8_init_133 (fun H locs hP hD hS => ?_)
  refine x_aload_n E dX8_init_136 (lv_at hl 0 rfl) ?_
  refine x_bipush E dX8_init_137 (by decide) ?_
  refine n_newI E K hP hD hS hA 20 rfl (by decide) (by rw [hR]; exact Nat.le_of_ble_eq_true rfl) (by rw [hR]; exact Nat.le_of_ble_eq_true rfl) dX8_init_139 (fun q12 H hP hD hS => ?_)
  refine n_putF E hin K hP hD hS cf8 31 (by decide) rfl rfl (v := .ref q12) rfl rfl (Nat.le_of_ble_eq_true rfl) kf_X8_54 dX8_init_141 (fun H locs hP hD hS => ?_)
  refine x_aload_n E dX8_init_144 (lv_at hl 0 rfl) ?_
  refine x_bipush E dX8_init_145 (by decide) ?_
  refine n_newI E K hP hD hS hA 20 rfl (by decide) (by rw [hR]; exact Nat.le_of_ble_eq_true rfl) (by rw [hR]; exact Nat.le_of_ble_eq_true rfl) dX8_init_147 (fun q13 H hP hD hS => ?_)
  refine n_putF E hin K hP hD hS cf8 32 (by decide) rfl rfl (v := .ref q13) rfl rfl (Nat.le_of_ble_eq_true rfl) kf_X8_57 dX8_init_149 (fun H locs hP hD hS => ?_)
  refine x_aload_n E dX8_init_152 (lv_at hl 0 rfl) ?_
  refine x_iconst E dX8_init_153 ?_
  refine n_newI E K hP hD hS hA 4 rfl (by decide) (by rw [hR]; exact Nat.le_of_ble_eq_true rfl) (by rw [hR]; exact Nat.le_of_ble_eq_true rfl) dX8_init_154 (fun q14 H hP hD hS => ?_)
  refine n_putF E hin K hP hD hS cf8 34 (by decide) rfl rfl (v := .ref q14) rfl rfl (Nat.le_of_ble_eq_true rfl) kf_X8_60 dX8_init_156 (fun H locs hP hD hS => ?_)
  refine x_aload_n E dX8_init_159 (lv_at hl 0 rfl) ?_
  refine x_iconst E dX8_init_160 ?_
  refine n_newI E K hP hD hS hA 4 rfl (by decide) (by rw [hR]; exact Nat.le_of_ble_eq_true rfl) (by rw [hR]; exact Nat.le_of_ble_eq_true rfl) dX8_init_161 (fun q15 H hP hD hS => ?_)
  refine n_putF E hin K hP hD hS cf8 35 (by decide) rfl rfl (v := .ref q15) rfl rfl (Nat.le_of_ble_eq_true rfl) kf_X8_63 dX8_init_163 (fun H locs hP hD hS => ?_)
  refine x_aload_n E dX8_init_166 (lv_at hl 0 rfl) ?_
  refine x_iconst E dX8_init_167 ?_
  refine n_newI E K hP hD hS hA 4 rfl (by decide) (by rw [hR]; exact Nat.le_of_ble_eq_true rfl) (by rw [hR]; exact Nat.le_of_ble_eq_true rfl) dX8_init_168 (fun q16 H hP hD hS => ?_)
  refine n_putF E hin K hP hD hS cf8 36 (by decide) rfl rfl (v := .ref q16) rfl rfl (Nat.le_of_ble_eq_true rfl) kf_X8_66 dX8_init_170 (fun H locs hP hD hS => ?_)
  refine x_aload_n E dX8_init_173 (lv_at hl 0 rfl) ?_
  refine x_iconst E dX8_init_174 ?_
  refine n_newI E K hP hD hS hA 4 rfl (by decide) (by rw [hR]; exact Nat.le_of_ble_eq_true rfl) (by rw [hR]; exact Nat.le_of_ble_eq_true rfl) dX8_init_175 (fun q17 H hP hD hS => ?_)
  refine n_putF E hin K hP hD hS cf8 37 (by decide) rfl rfl (v := .ref q17) rfl rfl (Nat.le_of_ble_eq_true rfl) kf_X8_69 dX8_init_177 (fun H locs hP hD hS => ?_)
  refine x_aload_n E dX8_init_180 (lv_at hl 0 rfl) ?_
  refine x_bipush E dX8_init_181 (by decide) ?_
  refine n_newI E K hP hD hS hA 20 rfl (by decide) (by rw [hR]; exact Nat.le_of_ble_eq_true rfl) (by rw [hR]; exact Nat.le_of_ble_eq_true rfl) dX8_init_183 (fun q18 H hP hD hS => ?_)
  refine n_putF E hin K hP hD hS cf8 39 (by decide) rfl rfl (v := .ref q18) rfl rfl (Nat.le_of_ble_eq_true rfl) kf_X8_72 dX8_init_185 (fun H locs hP hD hS => ?_)
  refine x_aload_n E dX8_init_188 (lv_at hl 0 rfl) ?_
  refine x_bipush E dX8_init_189 (by decide) ?_
  refine n_newI E K hP hD hS hA 20 rfl (by decide) (by rw [hR]; exact Nat.le_of_ble_eq_true rfl) (by rw [hR]; exact Nat.le_of_ble_eq_true rfl) dX8_init_191 (fun q19 H hP hD hS => ?_)
  refine n_putF E hin K hP hD hS cf8 40 (by decide) rfl rfl (v := .ref q19) rfl rfl (Nat.le_of_ble_eq_true rfl) kf_X8_75 dX8_init_193 (fun H locs hP hD hS => ?_)
  refine x_aload_n E dX8_init_196 (lv_at hl 0 rfl) ?_
  refine x_bipush E dX8_init_197 (by decide) ?_
  refine n_newI E K hP hD hS hA 20 rfl (by decide) (by rw [hR]; exact Nat.le_of_ble_eq_true rfl) (by rw [hR]; exact Nat.le_of_ble_eq_true rfl) dX8_init_199 (fun q20 H hP hD hS => ?_)
  refine n_putF E hin K hP hD hS cf8 41 (by decide) rfl rfl (v := .ref q20) rfl rfl (Nat.le_of_ble_eq_true rfl) kf_X8_78 dX8_init_201 (fun H locs hP hD hS => ?_)
  refine x_aload_n E dX8_init_204 (lv_at hl 0 rfl) ?_
  refine x_sipush E dX8_init_205 (by decide) ?_
  refine n_newI E K hP hD hS hA 2240 rfl (by decide) (by rw [hR]; exact Nat.le_of_ble_eq_true rfl) (by rw [hR]; exact Nat.le_of_ble_eq_true rfl) dX8_init_208 (fun q21 H hP hD hS => ?_)
  refine n_putF E hin K hP hD hS cf8 42 (by decide) rfl rfl (v := .ref q21) rfl rfl (Nat.le_of_ble_eq_true rfl) kf_X8_81 dX8_init_210 (fun H locs hP hD hS => ?_)
  refine x_aload_n E dX8_init_213 (lv_at hl 0 rfl) ?_
  refine x_bipush E dX8_init_214 (by decide) ?_
  refine n_newI E K hP hD hS hA 10 rfl (by decide) (by rw [hR]; exact Nat.le_of_ble_eq_true rfl) (by rw [hR]; exact Nat.le_of_ble_eq_true rfl) dX8_init_216 (fun q22 H hP hD hS => ?_)
  refine n_putF E hin K hP hD hS cf8 43 (by decide) rfl rfl (v := .ref q22) rfl rfl (Nat.le_of_ble_eq_true rfl) kf_X8_84 dX8_init_218 (fun H locs hP hD hS => ?_)
  refine x_aload_n E dX8_init_221 (lv_at hl 0 rfl) ?_
  refine x_bipush E dX8_init_222 (by decide) ?_
  refine n_newI E K hP hD hS hA 16 rfl (by decide) (by rw [hR]; exact Nat.le_of_ble_eq_true rfl) (by rw [hR]; exact Nat.le_of_ble_eq_true rfl) dX8_init_224 (fun q23 H hP hD hS => ?_)
  refine n_putF E hin K hP hD hS cf8 44 (by decide) rfl rfl (v := .ref q23) rfl rfl (Nat.le_of_ble_eq_true rfl) kf_X8_87 dX8_init_226 (fun H locs hP hD hS => ?_)
  refine x_aload_n E dX8_init_229 (lv_at hl 0 rfl) ?_
  refine x_bipush E dX8_init_230 (by decide) ?_
  refine n_newI E K hP hD hS hA 80 rfl (by decide) (by rw [hR]; exact Nat.le_of_ble_eq_true rfl) (by rw [hR]; exact Nat.le_of_ble_eq_true rfl) dX8_init_232 (fun q24 H hP hD hS => ?_)
  refine n_putF E hin K hP hD hS cf8 45 (by decide) rfl rfl (v := .ref q24) rfl rfl (Nat.le_of_ble_eq_true rfl) kf_X8_90 dX8_init_234 (fun H locs hP hD hS => ?_)
  refine x_aload_n E dX8_init_237 (lv_at hl 0 rfl) ?_
  refine x_sipush E dX8_init_238 (by decide) ?_
  refine n_newZ E K hP hD hS hA 160 rfl (by decide) (by rw [hR]; exact Nat.le_of_ble_eq_true rfl) (by rw [hR]; exact Nat.le_of_ble_eq_true rfl) dX8_init_241 (fun q25 H hP hD hS => ?_)
  refine n_putF E hin K hP hD hS cf8 46 (by decide) rfl rfl (v := .ref q25) rfl rfl (Nat.le_of_ble_eq_true rfl) kf_X8_93 dX8_init_243 (fun H locs hP hD hS => ?_)
  obtain ⟨X, eX⟩ : ∃ X : We, X = ((D, C, (fun p => ([h, q1, q2, q3, q4, q5, q6, q7, q8, q9, q10, q11, q12, q13, q14, q15, q16, q17, q18, q19, q20, q21, q22, q23, q24, q25] : List Nat).getD p 0), mT, 26, z, A) : We) := ⟨_, rfl⟩
  obtain ⟨V, eV0⟩ : ∃ V : Mem, V = (fun p k => if p = 0 then (if k = 11 then 1 else if k = 29 then -1 else if k = 30 then -1 else 0) else if p = 8 then frF k else 0) := ⟨_, rfl⟩
  have hG : GW X V H := by rw [eX, eV0]; exact hP
  have hD2 : va_D (wA X) (gw X V) := by rw [eX, eV0]; exact hD
  have hI0 : wI X := wI_of hD2
  have hY : isY X := by rw [eX]; exact ⟨rfl, rfl⟩
  have hL0 : wL X := by rw [eX]; exact mT_wL
  have hI : GJ X s0 := ⟨by rw [eX]; exact K, hI0, hL0, by rw [eX]; exact Z, trivial⟩
  have hw : h = wa X 0 := by rw [eX]; rfl
  have hS : va_S (wA X) s0.heap H locs := by rw [eX]; exact hS
  rw [hw] at hl
  refine W.widen (k := 25) (n := 3987) (Nat.le_of_ble_eq_true rfl) (Nat.le_of_ble_eq_true rfl) ?_
  have z7 : V 7 = fun _ => 0 := by rw [eV0]; rfl
  have L268_1 : ∀ (H : Heap) (locs : List Loc) (ls : Array Slot), GW X V H → va_S (wA X) s0.heap H locs → lv_has ls 4 [(0, .ref (wa X 0)), (1, .int (jI w0)), (2, .int (jI h0))] → W pg l ev Rm s0 mi ag bl mt cd H locs 25 3987 Qq (F0 mi 268 ls [.int (jI wd), .ref (wa X 0)]) := by
    intro   H locs ls hG hS hl
    refine x_putiF E hin hI hG hS (ym0 hY) cf8 0 0 rfl rfl (by decide) rfl rfl rfl kf_X8_97 dX8_init_268 (fun H locs hG hS => ?_)
    have L293_2 : ∀ (H : Heap) (locs : List Loc) (ls : Array Slot), GW X (st V 0 0 wd) H → va_S (wA X) s0.heap H locs → lv_has ls 4 [(0, .ref (wa X 0)), (1, .int (jI w0)), (2, .int (jI h0))] → W pg l ev Rm s0 mi ag bl mt cd H locs 25 3987 Qq (F0 mi 293 ls [.int (jI hi), .ref (wa X 0)]) := by
      intro   H locs ls hG hS hl
      refine x_putiF E hin hI hG hS (ym0 hY) cf8 1 1 rfl rfl (by decide) rfl rfl rfl kf_X8_100 dX8_init_293 (fun H locs hG hS => ?_)
      refine x_aload_n E dX8_init_296 (lv_at hl 0 rfl) ?_
      refine x_aload_n E dX8_init_297 (lv_at hl 0 rfl) ?_
      refine x_geti E hI hG (ym0 hY) cf8 0 (wd) rfl (by decide) (show (st (st V 0 0 wd) 0 1 hi) 0 0 = wd from ((st_k (by decide)).trans (st_s _ _ _ _))) kf_X8_97 dX8_init_298 ?_
      refine x_aload_n E dX8_init_301 (lv_at hl 0 rfl) ?_
      refine x_geti E hI hG (ym0 hY) cf8 1 (hi) rfl (by decide) (show (st (st V 0 0 wd) 0 1 hi) 0 1 = hi from (st_s _ _ _ _)) kf_X8_100 dX8_init_302 ?_
      refine x_imul E dX8_init_305 ?_
      refine x_putiF E hin hI hG hS (ym0 hY) cf8 2 2 rfl rfl (by decide) rfl rfl rfl kf_X8_103 dX8_init_306 (fun H locs hG hS => ?_)
      rw [show (st (st (st V 0 0 wd) 0 1 hi) 0 2 (wd * hi)) = sp (st (st (st V 0 0 wd) 0 1 hi) 0 2 (wd * hi)) 7 (rchF 0) by rw [rchF_0, ← z7, show V 7 = (st (st (st V 0 0 wd) 0 1 hi) 0 2 (wd * hi)) 7 by rw [st_p (by decide), st_p (by decide), st_p (by decide)], sp_self]] at hG
      refine x_iconst E dX8_init_309 ?_
      refine x_istore_n E [(3, .int (jI 0)), (0, .ref (wa X 0)), (1, .int (jI w0)), (2, .int (jI h0))] dX8_init_310 hl (by decide) rfl (fun ls hl => ?_)
      have L311_3 : ∀ (N : Nat) (i : Int), (0 ≤ i) → (i ≤ 160) → ((160 - i).toNat) < N → ∀ (H : Heap) (locs : List Loc) (ls : Array Slot), GW X (sp (st (st (st V 0 0 wd) 0 1 hi) 0 2 (wd * hi)) 7 (rchF i)) H → va_S (wA X) s0.heap H locs → lv_has ls 4 [(0, .ref (wa X 0)), (3, .int (jI i))] → W pg l ev Rm s0 mi ag bl mt cd H locs 25 3987 Qq (F0 mi 311 ls []) := by
        intro N
        induction N with
        | zero => intro i i0 i1 hN; exact absurd hN (Nat.not_lt_zero _)
        | succ N ih311 =>
          intro i i0 i1 hN H locs ls hG hS hl
          refine x_iload_n E dX8_init_311 (lv_at hl 1 rfl) ?_
          refine x_sipush E dX8_init_312 (by decide) ?_
          refine x_icmp_ge E 331 dX8_init_315 (by decide) (by unfold rg; omega) (by unfold rg; omega) (fun c315 => ?_) (fun c315 => ?_)
          · have ei : i = 160 := by omega
            subst ei
            have hG := hG.ext (V' := mw wd hi) (fun p k hp hk => by
              by_cases e7 : p = 7
              · subst e7
                rw [(ym7 hY).1] at hk
                rw [sp_s]; unfold rchF
                rw [if_pos ⟨hk.1, hk.2⟩]; rfl
              · rw [sp_n e7, eV0]
                by_cases e0 : p = 0
                · subst e0
                  unfold mw st
                  simp only [true_and, if_true]
                  by_cases k2 : k = 2
                  · subst k2; rfl
                  · rw [if_neg k2]
                    by_cases k1 : k = 1
                    · subst k1; rfl
                    · rw [if_neg k1]
                      by_cases k0 : k = 0
                      · rw [if_pos k0, if_pos k0]
                      · rw [if_neg k0, if_neg k0, if_neg k1, if_neg k2]
                · rw [st_p e0, st_p e0, st_p e0]
                  unfold mw
                  simp only [if_neg e0, if_neg e7])
            rw [← mw_pk wd hi g] at hG
            refine x_aload_n E dX8_init_331 (lv_at hl 0 rfl) ?_
            refine x_iconst E dX8_init_332 ?_
            refine x_cv hG hS (x_runV E hI hG hS (ym0 hY) cf8 rfl (c_X8_keeps l hY (iV wd hi g) (mw wd hi) (fun _ => 0) 0 (WR.zero wd hi g) 1 (by omega)) mf_X8_keeps km_X8_106 rfl hl rfl (Nat.le_of_ble_eq_true rfl) (by rw [hR]; exact ⟨Nat.le_of_ble_eq_true rfl, Nat.le_of_ble_eq_true rfl⟩) (by rw [hR]; exact ⟨Nat.le_of_ble_eq_true rfl, Nat.le_of_ble_eq_true rfl⟩) dX8_init_333) (fun V1 H locs hp hG hS => ?_)
            obtain ⟨U1, eV, hK1, hF1⟩ := hp
            rw [eV] at hG
            have hD3 := gw_D hI0 (pk (iV wd hi g) bN U1 (fun _ => 0) 0)
            rw [eX] at hG hS hD3
            exact n_ret E hQ hG hD3 hS dX8_init_336 ⟨_, U1, rfl, hK1, hF1, rfl⟩
          · refine x_aload_n E dX8_init_318 (lv_at hl 0 rfl) ?_
            refine x_getr E hI hG (ym0 hY) cf8 9 7 rfl (by decide) kf_X8_28 dX8_init_319 ?_
            refine x_iload_n E dX8_init_322 (lv_at hl 1 rfl) ?_
            refine x_iconst E dX8_init_323 ?_
            refine x_iast E hI hG hS (ym7 hY) (by omega) dX8_init_324 (fun H locs hG hS => ?_)
            rw [show (st (sp (st (st (st V 0 0 wd) 0 1 hi) 0 2 (wd * hi)) 7 (rchF i)) 7 i (-1)) = (sp (st (st (st V 0 0 wd) 0 1 hi) 0 2 (wd * hi)) 7 (rchF (i + 1))) from by rw [sp_st, rchF_s i0]] at hG
            refine x_iinc E (k := 1) [(3, .int (jI (i + 1))), (0, .ref (wa X 0))] dX8_init_325 hl rfl (by decide) rfl (fun ls hl => ?_)
            refine x_goto E 311 dX8_init_328 (by decide) ?_
            exact ih311 (i + 1) (by omega) (by omega) (by omega) _ _ _ hG hS (lv_sub hl [1, 0] rfl)
      exact L311_3 _ 0 (by omega) (by omega) (Nat.lt_succ_self _) _ _ _ hG hS (lv_sub hl [1, 0] rfl)
    refine x_aload_n E dX8_init_271 (lv_at hl 0 rfl) ?_
    refine x_iload_n E dX8_init_272 (lv_at hl 2 rfl) ?_
    refine x_iconst E dX8_init_273 ?_
    refine x_icmp_ge E 281 dX8_init_274 (by decide) (by unfold rg; omega) (by unfold rg; omega) (fun c274 => ?_) (fun c274 => ?_)
    · refine x_iload_n E dX8_init_281 (lv_at hl 2 rfl) ?_
      refine x_bipush E dX8_init_282 (by decide) ?_
      refine x_icmp_le E 292 dX8_init_284 (by decide) (by unfold rg; omega) (by unfold rg; omega) (fun c284 => ?_) (fun c284 => ?_)
      · refine x_iload_n E dX8_init_292 (lv_at hl 2 rfl) ?_
        refine x_topeq (hi) (by omega) ?_
        exact L293_2   _ _ _ hG hS (lv_sub hl [0, 1, 2] rfl)
      · refine x_bipush E dX8_init_287 (by decide) ?_
        refine x_topeq (hi) (by omega) ?_
        refine x_goto E 293 dX8_init_289 (by decide) ?_
        exact L293_2   _ _ _ hG hS (lv_sub hl [0, 1, 2] rfl)
    · refine x_iconst E dX8_init_277 ?_
      refine x_topeq (hi) (by omega) ?_
      refine x_goto E 293 dX8_init_278 (by decide) ?_
      exact L293_2   _ _ _ hG hS (lv_sub hl [0, 1, 2] rfl)
  refine x_aload_n E dX8_init_246 (lv_at hl 0 rfl) ?_
  refine x_iload_n E dX8_init_247 (lv_at hl 1 rfl) ?_
  refine x_iconst E dX8_init_248 ?_
  refine x_icmp_ge E 256 dX8_init_249 (by decide) (by unfold rg; omega) (by unfold rg; omega) (fun c249 => ?_) (fun c249 => ?_)
  · refine x_iload_n E dX8_init_256 (lv_at hl 1 rfl) ?_
    refine x_bipush E dX8_init_257 (by decide) ?_
    refine x_icmp_le E 267 dX8_init_259 (by decide) (by unfold rg; omega) (by unfold rg; omega) (fun c259 => ?_) (fun c259 => ?_)
    · refine x_iload_n E dX8_init_267 (lv_at hl 1 rfl) ?_
      refine x_topeq (wd) (by omega) ?_
      exact L268_1   _ _ _ hG hS (lv_sub hl [0, 1, 2] rfl)
    · refine x_bipush E dX8_init_262 (by decide) ?_
      refine x_topeq (wd) (by omega) ?_
      refine x_goto E 268 dX8_init_264 (by decide) ?_
      exact L268_1   _ _ _ hG hS (lv_sub hl [0, 1, 2] rfl)
  · refine x_iconst E dX8_init_252 ?_
    refine x_topeq (wd) (by omega) ?_
    refine x_goto E 268 dX8_init_253 (by decide) ?_
    exact L268_1   _ _ _ hG hS (lv_sub hl [0, 1, 2] rfl)
