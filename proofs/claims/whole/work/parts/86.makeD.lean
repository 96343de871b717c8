theorem wI_of {X : We} {V : Mem} (hD : va_D (wA X) (gw X V)) : wI X := ⟨fun i j hi hj e => hD.1 i j _ _ (gw_get hi) (gw_get hj) e, fun i hi => hD.2 i _ (gw_get hi)⟩
theorem wL_of {L : List Pd} (h : ∀ d ∈ L, ∀ q, d = .inl q → q.2 < 2147483648) : ∀ (p : Nat) (q : Nat × Nat), L.getD p (.inl (0, 0)) = .inl q → q.2 < 2147483648 := by
  intro p q e
  rw [List.getD_eq_getElem?_getD] at e
  cases hp : L[p]? with
  | none => rw [hp] at e; have := Sum.inl.inj e; rw [← this]; decide
  | some d => rw [hp] at e; exact h d (List.mem_of_getElem? hp) q e
def rchF (i : Int) : Int → Int := fun c => if 0 ≤ c ∧ c < i then -1 else 0
theorem rchF_0 : rchF 0 = fun _ => 0 := by funext c; unfold rchF; rw [if_neg (by omega)]
theorem rchF_s {i : Int} (h : 0 ≤ i) : ui (rchF i) i (-1) = rchF (i + 1) := by
  funext c; unfold ui rchF
  by_cases e : c = i
  · rw [if_pos e, if_pos (by omega)]
  · rw [if_neg e]
    by_cases q : 0 ≤ c ∧ c < i
    · rw [if_pos q, if_pos (by omega)]
    · rw [if_neg q, if_neg (by omega)]
/-- the cells of a new Dunes: place h first -/
def L1 (C : Nat → ClassId) (n : Nat) (hs : Nat) (q : Nat → Nat) : va_W := [(q 0, .inr (1, [.ref hs, .ref (q 1), .ref (q 2), .ref (q 3), .ref (q 4), .ref (q 5), .ref (q 6), .ref (q 7), .ref (q 8), .ref (q 10), .ref (q 11), .int (jI 1), .int (jI 0), .int (jI 0), .int (jI 0), .int (jI 0)])), (q 1, .inl (C 0, n, .inl (fun _ => jI 0))), (q 2, .inl (C 0, n, .inl (fun _ => jI 0))), (q 3, .inl (C 0, n, .inl (fun _ => jI 0))), (q 4, .inl (C 0, n, .inl (fun _ => jI 0))), (q 5, .inl (C 0, n, .inl (fun _ => jI 0))), (q 6, .inl (C 0, n, .inl (fun _ => jI 0))), (q 7, .inl (C 0, n, .inl (fun _ => jI (-1)))), (q 8, .inr (0, [.ref (q 9)])), (q 9, .inl (C 3, 3, .inr (.inl (fun _ => lI 0)))), (q 10, .inl (C 0, 5, .inl (fun j => jI (frF (j : Int))))), (q 11, .inr (5, [.ref (q 12), .ref (q 13), .int (jI 0), .int (jI 0), .int (jI 0)])), (q 12, .inl (C 0, 20, .inl (fun _ => jI 0))), (q 13, .inl (C 0, 20, .inl (fun _ => jI 0)))]

set_option maxHeartbeats 4000000 in
set_option maxRecDepth 100000 in
theorem m_X1 (l : Launch) {D : va_G} {C : Nat → ClassId} {z : Nat → Nat} (h hs a : Nat) {n : Nat} {wd hi : Int} (hd : dims n wd hi) (g : Int → Int) : Cs l D C z yX1_init cX1_init 3 3 13 1174 80 [.ref h, .ref hs] [(a, .inl (C 0, n * 4, .inl (fun j => jI (g (j : Int))))), (hs, .inr (3, [.int (jI wd), .int (jI hi), .int (jI (wd * hi)), .ref a])), (h, .inr (1, [.null, .null, .null, .null, .null, .null, .null, .null, .null, .null, .null, .int (jI 0), .int (jI 0), .int (jI 0), .int (jI 0), .int (jI 0)]))] (fun w => ∃ q : Nat → Nat, q 0 = h ∧ w = L1 C n hs q ++ [(a, .inl (C 0, n * 4, .inl (fun j => jI (g (j : Int))))), (hs, .inr (3, [.int (jI wd), .int (jI hi), .int (jI (wd * hi)), .ref a]))]) := by
  refine Cs.go (by decide) rfl (Nat.le_of_ble_eq_true rfl) ?_
  intro pg ev s0 mi bl mt cd ls Rm ag Qq A hR hQ E hin K Z hP hD hS hA hl
  have hl : lv_has ls 3 [(0, .ref h), (1, .ref hs)] := hl
  obtain ⟨hn1, hn2⟩ := dims.n hd
  have hP := hP.sub (ws' := [(h, .inr (1, [.null, .null, .null, .null, .null, .null, .null, .null, .null, .null, .null, .int (jI 0), .int (jI 0), .int (jI 0), .int (jI 0), .int (jI 0)])), (a, .inl (C 0, (n * 4), .inl (fun j => jI (g (j : Int))))), (hs, .inr (3, [.int (jI wd), .int (jI hi), .int (jI (wd * hi)), .ref a]))]) [2, 0, 1] rfl
  have hD := hD.sub (ws' := [(h, .inr (1, [.null, .null, .null, .null, .null, .null, .null, .null, .null, .null, .null, .int (jI 0), .int (jI 0), .int (jI 0), .int (jI 0), .int (jI 0)])), (a, .inl (C 0, (n * 4), .inl (fun j => jI (g (j : Int))))), (hs, .inr (3, [.int (jI wd), .int (jI hi), .int (jI (wd * hi)), .ref a]))]) [2, 0, 1] (by decide) rfl
  refine x_aload_n E dX1_init_0 (lv_at hl 0 rfl) ?_
  refine n_obj E hl km_X1_3 dX1_init_1 (by rw [hR]; exact ⟨Nat.le_of_ble_eq_true rfl, Nat.le_of_ble_eq_true rfl⟩) ⟨_, rfl⟩ ?_
  refine x_aload_n E dX1_init_4 (lv_at hl 0 rfl) ?_
  refine n_new E K hP hD hS hA cf0 kl_X1_9 kb_X0 ki_X0 [.null] (fun j hj => by rcases (show j = 0 by omega) with rfl <;> rfl) (by rw [hR]; exact Nat.le_of_ble_eq_true rfl) (by rw [hR]; show _ ≤ (1174 : Nat); omega) dX1_init_5 (fun q1 H hP hD hS => ?_)
  refine x_dup E dX1_init_8 rfl ?_
  refine n_callN E K Z [(h, .inr (1, [.null, .null, .null, .null, .null, .null, .null, .null, .null, .null, .null, .int (jI 0), .int (jI 0), .int (jI 0), .int (jI 0), .int (jI 0)])), (a, .inl (C 0, (n * 4), .inl (fun j => jI (g (j : Int))))), (hs, .inr (3, [.int (jI wd), .int (jI hi), .int (jI (wd * hi)), .ref a]))] hP hD hS hA hl (m_X0 l q1) mi_X0 (by decide : (_, _, _, RX7) ∈ zNest) rfl rfl (Nat.le_of_ble_eq_true rfl) (by rw [hR]; exact ⟨Nat.le_of_ble_eq_true rfl, Nat.le_of_ble_eq_true rfl⟩) (by rw [hR]; exact ⟨Nat.le_of_ble_eq_true rfl, Nat.le_of_ble_eq_true rfl⟩) dX1_init_9 (fun w_ H locs hp hP hD hS => ?_)
  obtain ⟨q2, rfl⟩ := hp
  refine n_putF E hin K hP hD hS cf1 8 (by decide) rfl rfl (v := .ref q1) rfl rfl (Nat.le_of_ble_eq_true rfl) kf_X1_12 dX1_init_12 (fun H locs hP hD hS => ?_)
  refine x_aload_n E dX1_init_15 (lv_at hl 0 rfl) ?_
  refine va_getsN E.1 E.2.1 Z.2.2.2.2.1 hS E.2.2.2.1 (va_Nw.use rfl Z.2.1) (fun _ h => h) dX1_init_16 ?_
  refine va_tlen E.1 E.2.1 Z.2.2.2.2.2.1 hS (v := jI ((5 : Nat) : Int)) rfl dX1_init_19 ?_
  refine n_newI E K hP hD hS hA 5 rfl (by decide) (by rw [hR]; exact Nat.le_of_ble_eq_true rfl) (by rw [hR]; show _ ≤ (1174 : Nat); omega) dX1_init_20 (fun q3 H hP hD hS => ?_)
  refine n_putF E hin K hP hD hS cf1 9 (by decide) rfl rfl (v := .ref q3) rfl rfl (Nat.le_of_ble_eq_true rfl) kf_X1_22 dX1_init_22 (fun H locs hP hD hS => ?_)
  refine x_aload_n E dX1_init_25 (lv_at hl 0 rfl) ?_
  refine n_new E K hP hD hS hA cf5 kl_X1_25 kb_X5 ki_X5 [.null, .null, .int (jI 0), .int (jI 0), .int (jI 0)] (fun j hj => by rcases (show j = 0 ∨ j = 1 ∨ j = 2 ∨ j = 3 ∨ j = 4 by omega) with rfl | rfl | rfl | rfl | rfl <;> rfl) (by rw [hR]; exact Nat.le_of_ble_eq_true rfl) (by rw [hR]; show _ ≤ (1174 : Nat); omega) dX1_init_26 (fun q4 H hP hD hS => ?_)
  refine x_dup E dX1_init_29 rfl ?_
  refine n_callN E K Z [(h, .inr (1, [.null, .null, .null, .null, .null, .null, .null, .null, .ref q1, .ref q3, .null, .int (jI 0), .int (jI 0), .int (jI 0), .int (jI 0), .int (jI 0)])), (a, .inl (C 0, (n * 4), .inl (fun j => jI (g (j : Int))))), (hs, .inr (3, [.int (jI wd), .int (jI hi), .int (jI (wd * hi)), .ref a])), (q1, .inr (0, [.ref q2])), (q2, .inl (C 3, 3, .inr (.inl (fun _ => lI 0)))), (q3, .inl (C 0, 5, .inl (fun _ => jI 0)))] hP hD hS hA hl (m_X5 l q4) mi_X5 (by decide : (_, _, _, RX7) ∈ zNest) rfl rfl (Nat.le_of_ble_eq_true rfl) (by rw [hR]; exact ⟨Nat.le_of_ble_eq_true rfl, Nat.le_of_ble_eq_true rfl⟩) (by rw [hR]; exact ⟨Nat.le_of_ble_eq_true rfl, Nat.le_of_ble_eq_true rfl⟩) dX1_init_30 (fun w_ H locs hp hP hD hS => ?_)
  obtain ⟨q5, q6, rfl⟩ := hp
  refine n_putF E hin K hP hD hS cf1 10 (by decide) rfl rfl (v := .ref q4) rfl rfl (Nat.le_of_ble_eq_true rfl) kf_X1_28 dX1_init_33 (fun H locs hP hD hS => ?_)
  refine x_aload_n E dX1_init_36 (lv_at hl 0 rfl) ?_
  refine x_iconst E dX1_init_37 ?_
  refine n_putV E K hP hD hS cf1 11 (by decide) rfl (v := .int (jI 1)) rfl rfl (Nat.le_of_ble_eq_true rfl) kf_X1_32 dX1_init_38 (fun H locs hP hD hS => ?_)
  refine x_aload_n E dX1_init_41 (lv_at hl 0 rfl) ?_
  refine x_aload_n E dX1_init_42 (lv_at hl 1 rfl) ?_
  refine n_putF E hin K hP hD hS cf1 0 (by decide) rfl rfl (v := .ref hs) rfl rfl (Nat.le_of_ble_eq_true rfl) kf_X1_36 dX1_init_43 (fun H locs hP hD hS => ?_)
  refine x_aload_n E dX1_init_46 (lv_at hl 0 rfl) ?_
  refine x_aload_n E dX1_init_47 (lv_at hl 1 rfl) ?_
  refine n_get E K hP 2 rfl cf3 2 (by decide) (v := .int (jI (wd * hi))) rfl kf_X1_40 dX1_init_48 ?_
  refine n_newI E K hP hD hS hA n (by have := hd.1; omega) (by omega) (by rw [hR]; exact Nat.le_of_ble_eq_true rfl) (by rw [hR]; show _ ≤ (1174 : Nat); omega) dX1_init_51 (fun q7 H hP hD hS => ?_)
  refine n_putF E hin K hP hD hS cf1 1 (by decide) rfl rfl (v := .ref q7) rfl rfl (Nat.le_of_ble_eq_true rfl) kf_X1_45 dX1_init_53 (fun H locs hP hD hS => ?_)
  refine x_aload_n E dX1_init_56 (lv_at hl 0 rfl) ?_
  refine x_aload_n E dX1_init_57 (lv_at hl 1 rfl) ?_
  refine n_get E K hP 2 rfl cf3 2 (by decide) (v := .int (jI (wd * hi))) rfl kf_X1_40 dX1_init_58 ?_
  refine n_newI E K hP hD hS hA n (by have := hd.1; omega) (by omega) (by rw [hR]; exact Nat.le_of_ble_eq_true rfl) (by rw [hR]; show _ ≤ (1174 : Nat); omega) dX1_init_61 (fun q8 H hP hD hS => ?_)
  refine n_putF E hin K hP hD hS cf1 2 (by decide) rfl rfl (v := .ref q8) rfl rfl (Nat.le_of_ble_eq_true rfl) kf_X1_48 dX1_init_63 (fun H locs hP hD hS => ?_)
  refine x_aload_n E dX1_init_66 (lv_at hl 0 rfl) ?_
  refine x_aload_n E dX1_init_67 (lv_at hl 1 rfl) ?_
  refine n_get E K hP 2 rfl cf3 2 (by decide) (v := .int (jI (wd * hi))) rfl kf_X1_40 dX1_init_68 ?_
  refine n_newI E K hP hD hS hA n (by have := hd.1; omega) (by omega) (by rw [hR]; exact Nat.le_of_ble_eq_true rfl) (by rw [hR]; show _ ≤ (1174 : Nat); omega) dX1_init_71 (fun q9 H hP hD hS => ?_)
  refine n_putF E hin K hP hD hS cf1 3 (by decide) rfl rfl (v := .ref q9) rfl rfl (Nat.le_of_ble_eq_true rfl) kf_X1_51 dX1_init_73 (fun H locs hP hD hS => ?_)
  refine x_aload_n E dX1_init_76 (lv_at hl 0 rfl) ?_
  refine x_aload_n E dX1_init_77 (lv_at hl 1 rfl) ?_
  refine n_get E K hP 2 rfl cf3 2 (by decide) (v := .int (jI (wd * hi))) rfl kf_X1_40 dX1_init_78 ?_
  refine n_newI E K hP hD hS hA n (by have := hd.1; omega) (by omega) (by rw [hR]; exact Nat.le_of_ble_eq_true rfl) (by rw [hR]; show _ ≤ (1174 : Nat); omega) dX1_init_81 (fun q10 H hP hD hS => ?_)
  refine n_putF E hin K hP hD hS cf1 4 (by decide) rfl rfl (v := .ref q10) rfl rfl (Nat.le_of_ble_eq_true rfl) kf_X1_54 dX1_init_83 (fun H locs hP hD hS => ?_)
  refine x_aload_n E dX1_init_86 (lv_at hl 0 rfl) ?_
  refine x_aload_n E dX1_init_87 (lv_at hl 1 rfl) ?_
  refine n_get E K hP 2 rfl cf3 2 (by decide) (v := .int (jI (wd * hi))) rfl kf_X1_40 dX1_init_88 ?_
  refine n_newI E K hP hD hS hA n (by have := hd.1; omega) (by omega) (by rw [hR]; exact Nat.le_of_ble_eq_true rfl) (by rw [hR]; show _ ≤ (1174 : Nat); omega) dX1_init_91 (fun q11 H hP hD hS => ?_)
  refine n_putF E hin K hP hD hS cf1 5 (by decide) rfl rfl (v := .ref q11) rfl rfl (Nat.le_of_ble_eq_true rfl) kf_X1_57 dX1_init_93 (fun H locs hP hD hS => ?_)
  refine x_aload_n E dX1_init_96 (lv_at hl 0 rfl) ?_
  refine x_aload_n E dX1_init_97 (lv_at hl 1 rfl) ?_
  refine n_get E K hP 2 rfl cf3 2 (by decide) (v := .int (jI (wd * hi))) rfl kf_X1_40 dX1_init_98 ?_
  refine n_newI E K hP hD hS hA n (by have := hd.1; omega) (by omega) (by rw [hR]; exact Nat.le_of_ble_eq_true rfl) (by rw [hR]; show _ ≤ (1174 : Nat); omega) dX1_init_101 (fun q12 H hP hD hS => ?_)
  refine n_putF E hin K hP hD hS cf1 6 (by decide) rfl rfl (v := .ref q12) rfl rfl (Nat.le_of_ble_eq_true rfl) kf_X1_60 dX1_init_103 (fun H locs hP hD hS => ?_)
  refine x_aload_n E dX1_init_106 (lv_at hl 0 rfl) ?_
  refine x_aload_n E dX1_init_107 (lv_at hl 1 rfl) ?_
  refine n_get E K hP 2 rfl cf3 2 (by decide) (v := .int (jI (wd * hi))) rfl kf_X1_40 dX1_init_108 ?_
  refine n_newI E K hP hD hS hA n (by have := hd.1; omega) (by omega) (by rw [hR]; exact Nat.le_of_ble_eq_true rfl) (by rw [hR]; show _ ≤ (1174 : Nat); omega) dX1_init_111 (fun q13 H hP hD hS => ?_)
  refine n_putF E hin K hP hD hS cf1 7 (by decide) rfl rfl (v := .ref q13) rfl rfl (Nat.le_of_ble_eq_true rfl) kf_X1_63 dX1_init_113 (fun H locs hP hD hS => ?_)
  refine W.widen (k := 13) (n := 1174) (Nat.le_of_ble_eq_true rfl) (by omega) ?_
  have hP := hP.sub (ws' := [(h, .inr (1, [.ref hs, .ref q7, .ref q8, .ref q9, .ref q10, .ref q11, .ref q12, .ref q13, .ref q1, .ref q3, .ref q4, .int (jI 1), .int (jI 0), .int (jI 0), .int (jI 0), .int (jI 0)])), (q7, .inl (C 0, n, .inl (fun _ => jI 0))), (q8, .inl (C 0, n, .inl (fun _ => jI 0))), (q9, .inl (C 0, n, .inl (fun _ => jI 0))), (q10, .inl (C 0, n, .inl (fun _ => jI 0))), (q11, .inl (C 0, n, .inl (fun _ => jI 0))), (q12, .inl (C 0, n, .inl (fun _ => jI 0))), (q13, .inl (C 0, n, .inl (fun _ => jI 0))), (q1, .inr (0, [.ref q2])), (q2, .inl (C 3, 3, .inr (.inl (fun _ => lI 0)))), (q3, .inl (C 0, 5, .inl (fun _ => jI 0))), (q4, .inr (5, [.ref q5, .ref q6, .int (jI 0), .int (jI 0), .int (jI 0)])), (q5, .inl (C 0, 20, .inl (fun _ => jI 0))), (q6, .inl (C 0, 20, .inl (fun _ => jI 0))), (hs, .inr (3, [.int (jI wd), .int (jI hi), .int (jI (wd * hi)), .ref a])), (a, .inl (C 0, (n * 4), .inl (fun j => jI (g (j : Int)))))]) [0, 9, 10, 11, 12, 13, 14, 15, 3, 4, 5, 6, 7, 8, 2, 1] rfl
  have hD := hD.sub (ws' := [(h, .inr (1, [.ref hs, .ref q7, .ref q8, .ref q9, .ref q10, .ref q11, .ref q12, .ref q13, .ref q1, .ref q3, .ref q4, .int (jI 1), .int (jI 0), .int (jI 0), .int (jI 0), .int (jI 0)])), (q7, .inl (C 0, n, .inl (fun _ => jI 0))), (q8, .inl (C 0, n, .inl (fun _ => jI 0))), (q9, .inl (C 0, n, .inl (fun _ => jI 0))), (q10, .inl (C 0, n, .inl (fun _ => jI 0))), (q11, .inl (C 0, n, .inl (fun _ => jI 0))), (q12, .inl (C 0, n, .inl (fun _ => jI 0))), (q13, .inl (C 0, n, .inl (fun _ => jI 0))), (q1, .inr (0, [.ref q2])), (q2, .inl (C 3, 3, .inr (.inl (fun _ => lI 0)))), (q3, .inl (C 0, 5, .inl (fun _ => jI 0))), (q4, .inr (5, [.ref q5, .ref q6, .int (jI 0), .int (jI 0), .int (jI 0)])), (q5, .inl (C 0, 20, .inl (fun _ => jI 0))), (q6, .inl (C 0, 20, .inl (fun _ => jI 0))), (hs, .inr (3, [.int (jI wd), .int (jI hi), .int (jI (wd * hi)), .ref a])), (a, .inl (C 0, (n * 4), .inl (fun j => jI (g (j : Int)))))]) [0, 9, 10, 11, 12, 13, 14, 15, 3, 4, 5, 6, 7, 8, 2, 1] (by decide) rfl
  obtain ⟨X, eX⟩ : ∃ X : We, X = ((D, C, (fun p => ([h, q7, q8, q9, q10, q11, q12, q13, q1, q2, q3, q4, q5, q6, hs, a] : List Nat).getD p 0), (fun p => ([.inr (1, [some 14, some 1, some 2, some 3, some 4, some 5, some 6, some 7, some 8, some 10, some 11, none, none, none, none, none]), .inl (0, n), .inl (0, n), .inl (0, n), .inl (0, n), .inl (0, n), .inl (0, n), .inl (0, n), .inr (0, [some 9]), .inl (3, 3), .inl (0, 5), .inr (5, [some 12, some 13, none, none, none]), .inl (0, 20), .inl (0, 20), .inr (3, [none, none, none, some 15]), .inl (0, n * 4)] : List Pd).getD p (.inl (0, 0))), 16, z, A) : We) := ⟨_, rfl⟩
  obtain ⟨V, eV0⟩ : ∃ V : Mem, V = (fun p k => if p = 0 then (if k = 11 then 1 else 0) else if p = 14 then (if k = 0 then wd else if k = 1 then hi else wd * hi) else if p = 15 then g k else 0) := ⟨_, rfl⟩
  have hG : GW X V H := by rw [eX, eV0]; exact hP
  have hD2 : va_D (wA X) (gw X V) := by rw [eX, eV0]; exact hD
  have hI0 : wI X := wI_of hD2
  have hI : GJ X s0 := ⟨by rw [eX]; exact K, hI0, by rw [eX]; exact wL_of (fun d hd' q e => by
    simp only [List.mem_cons, List.not_mem_nil, or_false] at hd'
    rcases hd' with rfl | rfl | rfl | rfl | rfl | rfl | rfl | rfl | rfl | rfl | rfl | rfl | rfl | rfl | rfl | rfl <;> first | (cases e; done) | (have e2 := Sum.inl.inj e; rw [← e2]; dsimp only; omega)), by rw [eX]; exact Z, trivial⟩
  have t0 : At X 0 (.inr (1, [some 14, some 1, some 2, some 3, some 4, some 5, some 6, some 7, some 8, some 10, some 11, none, none, none, none, none])) := by rw [eX]; exact ⟨rfl, Nat.le_of_ble_eq_true rfl⟩
  have t7 : At X 7 (.inl (0, n)) := by rw [eX]; exact ⟨rfl, Nat.le_of_ble_eq_true rfl⟩
  have t10 : At X 10 (.inl (0, 5)) := by rw [eX]; exact ⟨rfl, Nat.le_of_ble_eq_true rfl⟩
  have hw : h = wa X 0 := by rw [eX]; rfl
  have hS : va_S (wA X) s0.heap H locs := by rw [eX]; exact hS
  rw [hw] at hl
  have hl := lv_sub hl [0] rfl
  rw [show V = sp V 7 (rchF 0) by rw [rchF_0, show (fun _ => (0 : Int)) = V 7 by rw [eV0]; rfl, sp_self]] at hG
  refine x_iconst E dX1_init_116 ?_
  refine x_istore_n E [(2, .int (jI 0)), (0, .ref (wa X 0))] dX1_init_117 hl (by decide) rfl (fun ls hl => ?_)
  have L118_1 : ∀ (N : Nat) (i : Int), (0 ≤ i) → (i ≤ (n : Int)) → (((n : Int) - i).toNat) < N → ∀ (H : Heap) (locs : List Loc) (ls : Array Slot), GW X (sp V 7 (rchF i)) H → va_S (wA X) s0.heap H locs → lv_has ls 3 [(0, .ref (wa X 0)), (2, .int (jI i))] → W pg l ev Rm s0 mi ag bl mt cd H locs 13 1174 Qq (F0 mi 118 ls []) := by
    intro N
    induction N with
    | zero => intro i i0 i1 hN; exact absurd hN (Nat.not_lt_zero _)
    | succ N ih118 =>
      intro i i0 i1 hN H locs ls hG hS hl
      refine x_iload_n E dX1_init_118 (lv_at hl 1 rfl) ?_
      refine x_aload_n E dX1_init_119 (lv_at hl 0 rfl) ?_
      refine x_getr E hI hG t0 cf1 7 7 rfl (by decide) kf_X1_63 dX1_init_120 ?_
      refine x_alen E hI hG t7 (by decide) dX1_init_123 ?_
      refine x_icmp_ge E 140 dX1_init_124 (by decide) (by unfold rg; omega) (by unfold rg; omega) (fun c124 => ?_) (fun c124 => ?_)
      · refine va_getsN E.1 E.2.1 hI.2.2.2.1.2.2.2.2.1 hS E.2.2.2.1 (va_Nw.use rfl hI.2.2.2.1.2.1) (fun _ h => h) dX1_init_140 ?_
        refine x_aload_n E dX1_init_143 (lv_at hl 0 rfl) ?_
        refine x_getr E hI hG t0 cf1 9 10 rfl (by decide) kf_X1_22 dX1_init_144 ?_
        refine x_cv hG hS (x_runSN E hI hG hS (c_X7_copyRowS l (sp V 7 (rchF i)) t10) mf_X7_copyRow (by decide : (_, _, _, RX7) ∈ zNest) rfl hl rfl (Nat.le_of_ble_eq_true rfl) (by rw [hR]; exact ⟨Nat.le_of_ble_eq_true rfl, Nat.le_of_ble_eq_true rfl⟩) (by rw [hR]; exact ⟨Nat.le_of_ble_eq_true rfl, Nat.le_of_ble_eq_true rfl⟩) dX1_init_147) (fun V1 H locs hp hG hS => ?_)
        have eV := hp
        rw [eV] at hG
        have hG := hG.ext (V' := sp (sp V 7 (fun _ => -1)) 10 frF) (fun p k hp hk => by
          by_cases e : p = 10
          · subst e; rw [sp_s, sp_s]
          · rw [sp_n e, sp_n e]
            by_cases e2 : p = 7
            · subst e2
              rw [t7.1] at hk
              rw [sp_s, sp_s]; unfold rchF
              rw [if_pos ⟨hk.1, by have := hk.2; omega⟩]
            · rw [sp_n e2, sp_n e2])
        have hD3 := gw_D hI0 (sp (sp V 7 (fun _ => -1)) 10 frF)
        rw [eX, eV0] at hG hD3
        rw [eX] at hS
        have hP2 := va_P.sub (ws' := L1 C n hs (fun i => ([h, q7, q8, q9, q10, q11, q12, q13, q1, q2, q3, q4, q5, q6] : List Nat).getD i 0) ++ [(a, .inl (C 0, n * 4, .inl (fun j => jI (g (j : Int))))), (hs, .inr (3, [.int (jI wd), .int (jI hi), .int (jI (wd * hi)), .ref a]))]) hG [0, 1, 2, 3, 4, 5, 6, 7, 8, 9, 10, 11, 12, 13, 15, 14] rfl
        have hD2 := va_D.sub (ws' := L1 C n hs (fun i => ([h, q7, q8, q9, q10, q11, q12, q13, q1, q2, q3, q4, q5, q6] : List Nat).getD i 0) ++ [(a, .inl (C 0, n * 4, .inl (fun j => jI (g (j : Int))))), (hs, .inr (3, [.int (jI wd), .int (jI hi), .int (jI (wd * hi)), .ref a]))]) hD3 [0, 1, 2, 3, 4, 5, 6, 7, 8, 9, 10, 11, 12, 13, 15, 14] (by decide) rfl
        exact n_ret E hQ hP2 hD2 hS dX1_init_150 ⟨_, rfl, rfl⟩
      · refine x_aload_n E dX1_init_127 (lv_at hl 0 rfl) ?_
        refine x_getr E hI hG t0 cf1 7 7 rfl (by decide) kf_X1_63 dX1_init_128 ?_
        refine x_iload_n E dX1_init_131 (lv_at hl 1 rfl) ?_
        refine x_iconst E dX1_init_132 ?_
        refine x_iast E hI hG hS t7 (by omega) dX1_init_133 (fun H locs hG hS => ?_)
        rw [show (st (sp V 7 (rchF i)) 7 i (-1)) = (sp V 7 (rchF (i + 1))) from by rw [sp_st, rchF_s i0]] at hG
        refine x_iinc E (k := 1) [(2, .int (jI (i + 1))), (0, .ref (wa X 0))] dX1_init_134 hl rfl (by decide) rfl (fun ls hl => ?_)
        refine x_goto E 118 dX1_init_137 (by decide) ?_
        exact ih118 (i + 1) (by omega) (by omega) (by omega) _ _ _ hG hS (lv_sub hl [1, 0] rfl)
  exact L118_1 _ 0 (by omega) (by omega) (Nat.lt_succ_self _) _ _ _ hG hS (lv_sub hl [1, 0] rfl)
