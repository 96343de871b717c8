set_option maxHeartbeats 4000000 in
set_option maxRecDepth 100000 in
theorem m_X0 (l : Launch) {D : va_G} {C : Nat → ClassId} {z : Nat → Nat} (h : Nat) : Cs l D C z yX0_init cX0_init 1 1 1 3 12 [.ref h] [(h, .inr (0, [.null]))] (fun w => ∃ (q1 : Nat), w = [(h, .inr (0, [.ref q1])), (q1, .inl (C 3, 3, .inr (.inl (fun _ => lI 0))))]) := by
  refine Cs.go (by decide) rfl (Nat.le_of_ble_eq_true rfl) ?_
  intro pg ev s0 mi bl mt cd ls Rm ag Qq A hR hQ E hin K Z hP hD hS hA hl
  have hl : lv_has ls 1 [(0, .ref h)] := hl
  refine x_aload_n E dX0_init_0 (lv_at hl 0 rfl) ?_
  refine n_obj E hl km_X0_3 dX0_init_1 (by rw [hR]; exact ⟨Nat.le_of_ble_eq_true rfl, Nat.le_of_ble_eq_true rfl⟩) ⟨_, rfl⟩ ?_
  refine x_aload_n E dX0_init_4 (lv_at hl 0 rfl) ?_
  refine x_iconst E dX0_init_5 ?_
  refine n_newL E K hP hD hS hA 3 rfl (by decide) (by rw [hR]; exact Nat.le_of_ble_eq_true rfl) (by rw [hR]; exact Nat.le_of_ble_eq_true rfl) dX0_init_6 (fun q1 H hP hD hS => ?_)
  refine n_putF E hin K hP hD hS cf0 0 (by decide) rfl rfl (v := .ref q1) rfl rfl (Nat.le_of_ble_eq_true rfl) kf_X0_9 dX0_init_8 (fun H locs hP hD hS => ?_)
  refine W.widen (k := 1) (n := 3) (Nat.le_of_ble_eq_true rfl) (Nat.le_of_ble_eq_true rfl) ?_
  exact n_ret E hQ hP hD hS dX0_init_11 ⟨q1, rfl⟩

set_option maxHeartbeats 4000000 in
set_option maxRecDepth 100000 in
theorem m_X5 (l : Launch) {D : va_G} {C : Nat → ClassId} {z : Nat → Nat} (h : Nat) : Cs l D C z yX5_init cX5_init 1 1 2 40 12 [.ref h] [(h, .inr (5, [.null, .null, .int (jI 0), .int (jI 0), .int (jI 0)]))] (fun w => ∃ (q1 : Nat) (q2 : Nat), w = [(h, .inr (5, [.ref q1, .ref q2, .int (jI 0), .int (jI 0), .int (jI 0)])), (q1, .inl (C 0, 20, .inl (fun _ => jI 0))), (q2, .inl (C 0, 20, .inl (fun _ => jI 0)))]) := by
  refine Cs.go (by decide) rfl (Nat.le_of_ble_eq_true rfl) ?_
  intro pg ev s0 mi bl mt cd ls Rm ag Qq A hR hQ E hin K Z hP hD hS hA hl
  have hl : lv_has ls 1 [(0, .ref h)] := hl
  refine x_aload_n E dX5_init_0 (lv_at hl 0 rfl) ?_
  refine n_obj E hl km_X5_3 dX5_init_1 (by rw [hR]; exact ⟨Nat.le_of_ble_eq_true rfl, Nat.le_of_ble_eq_true rfl⟩) ⟨_, rfl⟩ ?_
  refine x_aload_n E dX5_init_4 (lv_at hl 0 rfl) ?_
  refine x_bipush E dX5_init_5 (by decide) ?_
  refine n_newI E K hP hD hS hA 20 rfl (by decide) (by rw [hR]; exact Nat.le_of_ble_eq_true rfl) (by rw [hR]; exact Nat.le_of_ble_eq_true rfl) dX5_init_7 (fun q1 H hP hD hS => ?_)
  refine n_putF E hin K hP hD hS cf5 0 (by decide) rfl rfl (v := .ref q1) rfl rfl (Nat.le_of_ble_eq_true rfl) kf_X5_9 dX5_init_9 (fun H locs hP hD hS => ?_)
  refine x_aload_n E dX5_init_12 (lv_at hl 0 rfl) ?_
  refine x_bipush E dX5_init_13 (by decide) ?_
  refine n_newI E K hP hD hS hA 20 rfl (by decide) (by rw [hR]; exact Nat.le_of_ble_eq_true rfl) (by rw [hR]; exact Nat.le_of_ble_eq_true rfl) dX5_init_15 (fun q2 H hP hD hS => ?_)
  refine n_putF E hin K hP hD hS cf5 1 (by decide) rfl rfl (v := .ref q2) rfl rfl (Nat.le_of_ble_eq_true rfl) kf_X5_15 dX5_init_17 (fun H locs hP hD hS => ?_)
  refine W.widen (k := 2) (n := 40) (Nat.le_of_ble_eq_true rfl) (Nat.le_of_ble_eq_true rfl) ?_
  exact n_ret E hQ hP hD hS dX5_init_20 ⟨q1, q2, rfl⟩

set_option maxHeartbeats 4000000 in
set_option maxRecDepth 100000 in
theorem m_X6 (l : Launch) {D : va_G} {C : Nat → ClassId} {z : Nat → Nat} (h : Nat) : Cs l D C z yX6_init cX6_init 1 1 4 16 12 [.ref h] [(h, .inr (6, [.null, .null, .null, .null, .int (jI 0)]))] (fun w => ∃ (q1 : Nat) (q2 : Nat) (q3 : Nat) (q4 : Nat), w = [(h, .inr (6, [.ref q1, .ref q2, .ref q3, .ref q4, .int (jI 0)])), (q1, .inl (C 0, 4, .inl (fun _ => jI 0))), (q2, .inl (C 0, 4, .inl (fun _ => jI 0))), (q3, .inl (C 0, 4, .inl (fun _ => jI 0))), (q4, .inl (C 0, 4, .inl (fun _ => jI 0)))]) := by
  refine Cs.go (by decide) rfl (Nat.le_of_ble_eq_true rfl) ?_
  intro pg ev s0 mi bl mt cd ls Rm ag Qq A hR hQ E hin K Z hP hD hS hA hl
  have hl : lv_has ls 1 [(0, .ref h)] := hl
  refine x_aload_n E dX6_init_0 (lv_at hl 0 rfl) ?_
  refine n_obj E hl km_X6_3 dX6_init_1 (by rw [hR]; exact ⟨Nat.le_of_ble_eq_true rfl, Nat.le_of_ble_eq_true rfl⟩) ⟨_, rfl⟩ ?_
  refine x_aload_n E dX6_init_4 (lv_at hl 0 rfl) ?_
  refine x_iconst E dX6_init_5 ?_
  refine n_newI E K hP hD hS hA 4 rfl (by decide) (by rw [hR]; exact Nat.le_of_ble_eq_true rfl) (by rw [hR]; exact Nat.le_of_ble_eq_true rfl) dX6_init_6 (fun q1 H hP hD hS => ?_)
  refine n_putF E hin K hP hD hS cf6 0 (by decide) rfl rfl (v := .ref q1) rfl rfl (Nat.le_of_ble_eq_true rfl) kf_X6_9 dX6_init_8 (fun H locs hP hD hS => ?_)
  refine x_aload_n E dX6_init_11 (lv_at hl 0 rfl) ?_
  refine x_iconst E dX6_init_12 ?_
  refine n_newI E K hP hD hS hA 4 rfl (by decide) (by rw [hR]; exact Nat.le_of_ble_eq_true rfl) (by rw [hR]; exact Nat.le_of_ble_eq_true rfl) dX6_init_13 (fun q2 H hP hD hS => ?_)
  refine n_putF E hin K hP hD hS cf6 1 (by decide) rfl rfl (v := .ref q2) rfl rfl (Nat.le_of_ble_eq_true rfl) kf_X6_15 dX6_init_15 (fun H locs hP hD hS => ?_)
  refine x_aload_n E dX6_init_18 (lv_at hl 0 rfl) ?_
  refine x_iconst E dX6_init_19 ?_
  refine n_newI E K hP hD hS hA 4 rfl (by decide) (by rw [hR]; exact Nat.le_of_ble_eq_true rfl) (by rw [hR]; exact Nat.le_of_ble_eq_true rfl) dX6_init_20 (fun q3 H hP hD hS => ?_)
  refine n_putF E hin K hP hD hS cf6 2 (by decide) rfl rfl (v := .ref q3) rfl rfl (Nat.le_of_ble_eq_true rfl) kf_X6_18 dX6_init_22 (fun H locs hP hD hS => ?_)
  refine x_aload_n E dX6_init_25 (lv_at hl 0 rfl) ?_
  refine x_iconst E dX6_init_26 ?_
  refine n_newI E K hP hD hS hA 4 rfl (by decide) (by rw [hR]; exact Nat.le_of_ble_eq_true rfl) (by rw [hR]; exact Nat.le_of_ble_eq_true rfl) dX6_init_27 (fun q4 H hP hD hS => ?_)
  refine n_putF E hin K hP hD hS cf6 3 (by decide) rfl rfl (v := .ref q4) rfl rfl (Nat.le_of_ble_eq_true rfl) kf_X6_21 dX6_init_29 (fun H locs hP hD hS => ?_)
  refine W.widen (k := 4) (n := 16) (Nat.le_of_ble_eq_true rfl) (Nat.le_of_ble_eq_true rfl) ?_
  exact n_ret E hQ hP hD hS dX6_init_32 ⟨q1, q2, q3, q4, rfl⟩

set_option maxHeartbeats 4000000 in
set_option maxRecDepth 100000 in
theorem m_X2 (l : Launch) {D : va_G} {C : Nat → ClassId} {z : Nat → Nat} (h : Nat) : Cs l D C z yX2_init cX2_init 1 1 3 60 12 [.ref h] [(h, .inr (2, [.null, .null, .null, .int (jI 0)]))] (fun w => ∃ (q1 : Nat) (q2 : Nat) (q3 : Nat), w = [(h, .inr (2, [.ref q1, .ref q2, .ref q3, .int (jI 0)])), (q1, .inl (C 0, 20, .inl (fun _ => jI 0))), (q2, .inl (C 0, 20, .inl (fun _ => jI 0))), (q3, .inl (C 0, 20, .inl (fun _ => jI 0)))]) := by
  refine Cs.go (by decide) rfl (Nat.le_of_ble_eq_true rfl) ?_
  intro pg ev s0 mi bl mt cd ls Rm ag Qq A hR hQ E hin K Z hP hD hS hA hl
  have hl : lv_has ls 1 [(0, .ref h)] := hl
  refine x_aload_n E dX2_init_0 (lv_at hl 0 rfl) ?_
  refine n_obj E hl km_X2_3 dX2_init_1 (by rw [hR]; exact ⟨Nat.le_of_ble_eq_true rfl, Nat.le_of_ble_eq_true rfl⟩) ⟨_, rfl⟩ ?_
  refine x_aload_n E dX2_init_4 (lv_at hl 0 rfl) ?_
  refine x_bipush E dX2_init_5 (by decide) ?_
  refine n_newI E K hP hD hS hA 20 rfl (by decide) (by rw [hR]; exact Nat.le_of_ble_eq_true rfl) (by rw [hR]; exact Nat.le_of_ble_eq_true rfl) dX2_init_7 (fun q1 H hP hD hS => ?_)
  refine n_putF E hin K hP hD hS cf2 0 (by decide) rfl rfl (v := .ref q1) rfl rfl (Nat.le_of_ble_eq_true rfl) kf_X2_9 dX2_init_9 (fun H locs hP hD hS => ?_)
  refine x_aload_n E dX2_init_12 (lv_at hl 0 rfl) ?_
  refine x_bipush E dX2_init_13 (by decide) ?_
  refine n_newI E K hP hD hS hA 20 rfl (by decide) (by rw [hR]; exact Nat.le_of_ble_eq_true rfl) (by rw [hR]; exact Nat.le_of_ble_eq_true rfl) dX2_init_15 (fun q2 H hP hD hS => ?_)
  refine n_putF E hin K hP hD hS cf2 1 (by decide) rfl rfl (v := .ref q2) rfl rfl (Nat.le_of_ble_eq_true rfl) kf_X2_15 dX2_init_17 (fun H locs hP hD hS => ?_)
  refine x_aload_n E dX2_init_20 (lv_at hl 0 rfl) ?_
  refine x_bipush E dX2_init_21 (by decide) ?_
  refine n_newI E K hP hD hS hA 20 rfl (by decide) (by rw [hR]; exact Nat.le_of_ble_eq_true rfl) (by rw [hR]; exact Nat.le_of_ble_eq_true rfl) dX2_init_23 (fun q3 H hP hD hS => ?_)
  refine n_putF E hin K hP hD hS cf2 2 (by decide) rfl rfl (v := .ref q3) rfl rfl (Nat.le_of_ble_eq_true rfl) kf_X2_18 dX2_init_25 (fun H locs hP hD hS => ?_)
  refine W.widen (k := 3) (n := 60) (Nat.le_of_ble_eq_true rfl) (Nat.le_of_ble_eq_true rfl) ?_
  exact n_ret E hQ hP hD hS dX2_init_28 ⟨q1, q2, q3, rfl⟩

set_option maxHeartbeats 4000000 in
set_option maxRecDepth 100000 in
theorem m_X4 (l : Launch) {D : va_G} {C : Nat → ClassId} {z : Nat → Nat} (h : Nat) : Cs l D C z yX4_init cX4_init 1 2 4 245 32 [.ref h] [(h, .inr (4, [.null, .int (jI 0), .int (jI 0), .int (jI 0), .null]))] (fun w => ∃ (q1 : Nat) (q2 : Nat) (q3 : Nat) (q4 : Nat), w = [(h, .inr (4, [.ref q1, .int (jI 0), .int (jI (-1)), .int (jI (-1)), .ref q2])), (q1, .inl (C 1, 200, .inl (fun _ => jI 0))), (q2, .inr (5, [.ref q3, .ref q4, .int (jI 0), .int (jI 0), .int (jI 0)])), (q3, .inl (C 0, 20, .inl (fun _ => jI 0))), (q4, .inl (C 0, 20, .inl (fun _ => jI 0)))]) := by
  refine Cs.go (by decide) rfl (Nat.le_of_ble_eq_true rfl) ?_
  intro pg ev s0 mi bl mt cd ls Rm ag Qq A hR hQ E hin K Z hP hD hS hA hl
  have hl : lv_has ls 1 [(0, .ref h)] := hl
  refine x_aload_n E dX4_init_0 (lv_at hl 0 rfl) ?_
  refine n_obj E hl km_X4_3 dX4_init_1 (by rw [hR]; exact ⟨Nat.le_of_ble_eq_true rfl, Nat.le_of_ble_eq_true rfl⟩) ⟨_, rfl⟩ ?_
  refine x_aload_n E dX4_init_4 (lv_at hl 0 rfl) ?_
  refine x_sipush E dX4_init_5 (by decide) ?_
  refine n_newB E K hP hD hS hA 200 rfl (by decide) (by rw [hR]; exact Nat.le_of_ble_eq_true rfl) (by rw [hR]; exact Nat.le_of_ble_eq_true rfl) dX4_init_8 (fun q1 H hP hD hS => ?_)
  refine n_putF E hin K hP hD hS cf4 0 (by decide) rfl rfl (v := .ref q1) rfl rfl (Nat.le_of_ble_eq_true rfl) kf_X4_9 dX4_init_10 (fun H locs hP hD hS => ?_)
  refine x_aload_n E dX4_init_13 (lv_at hl 0 rfl) ?_
  refine x_iconst E dX4_init_14 ?_
  refine n_putV E K hP hD hS cf4 2 (by decide) rfl (v := .int (jI (-1))) rfl rfl (Nat.le_of_ble_eq_true rfl) kf_X4_15 dX4_init_15 (fun H locs hP hD hS => ?_)
  refine x_aload_n E dX4_init_18 (lv_at hl 0 rfl) ?_
  refine x_iconst E dX4_init_19 ?_
  refine n_putV E K hP hD hS cf4 3 (by decide) rfl (v := .int (jI (-1))) rfl rfl (Nat.le_of_ble_eq_true rfl) kf_X4_19 dX4_init_20 (fun H locs hP hD hS => ?_)
  refine x_aload_n E dX4_init_23 (lv_at hl 0 rfl) ?_
  refine n_new E K hP hD hS hA cf5 kl_X4_22 kb_X5 ki_X5 [.null, .null, .int (jI 0), .int (jI 0), .int (jI 0)] (fun j hj => by rcases (show j = 0 ∨ j = 1 ∨ j = 2 ∨ j = 3 ∨ j = 4 by omega) with rfl | rfl | rfl | rfl | rfl <;> rfl) (by rw [hR]; exact Nat.le_of_ble_eq_true rfl) (by rw [hR]; exact Nat.le_of_ble_eq_true rfl) dX4_init_24 (fun q2 H hP hD hS => ?_)
  refine x_dup E dX4_init_27 rfl ?_
  refine n_callN E K Z [(h, .inr (4, [.ref q1, .int (jI 0), .int (jI (-1)), .int (jI (-1)), .null])), (q1, .inl (C 1, 200, .inl (fun _ => jI 0)))] hP hD hS hA hl (m_X5 l q2) mi_X5 (by decide : (_, _, _, RX7) ∈ zNest) rfl rfl (Nat.le_of_ble_eq_true rfl) (by rw [hR]; exact ⟨Nat.le_of_ble_eq_true rfl, Nat.le_of_ble_eq_true rfl⟩) (by rw [hR]; exact ⟨Nat.le_of_ble_eq_true rfl, Nat.le_of_ble_eq_true rfl⟩) dX4_init_28 (fun w_ H locs hp hP hD hS => ?_)
  obtain ⟨q3, q4, rfl⟩ := hp
  refine n_putF E hin K hP hD hS cf4 4 (by decide) rfl rfl (v := .ref q2) rfl rfl (Nat.le_of_ble_eq_true rfl) kf_X4_25 dX4_init_31 (fun H locs hP hD hS => ?_)
  refine W.widen (k := 4) (n := 245) (Nat.le_of_ble_eq_true rfl) (Nat.le_of_ble_eq_true rfl) ?_
  exact n_ret E hQ hP hD hS dX4_init_34 ⟨q1, q2, q3, q4, rfl⟩
