section VC12
def mI0 : Nat → Nat → Int32 := fun j => if j = 0 then (fun k => if k = 5 then 3 else if k = 6 then 1 else if k = 7 then 1 else 0) else fun _ => 0
def mIn (m : Nat → Nat → Int32) : Prop := m 0 0 = 0 ∧ m 0 5 = 3 ∧ m 0 6 = 1 ∧ m 0 7 = 1 ∧ (∀ b, b < 3 → m 4 b = 4) ∧ (∀ k, k < 270 → m 11 k = -1) ∧ m 8 0 = -1 ∧ m 9 0 = 0 ∧ m 10 0 = -1 ∧ ∀ k, m 12 k = 0
def iR (k : Nat) (m : Nat → Nat → Int32) : Prop := k ≤ 3 ∧ (∀ j, j ≠ 4 → m j = mI0 j) ∧ ∀ i, i < k → m 4 i = 4
theorem iR_s {k : Nat} {m : Nat → Nat → Int32} (h : iR k m) (hk : k < 3) : iR (k + 1) (up2 m 4 k 4) := by
  refine ⟨hk, fun j hj => ?_, fun i hi => ?_⟩
  · rw [show up2 m 4 k 4 j = m j by simp [up2, hj]]; exact h.2.1 j hj
  · by_cases e : i = k
    · subst e; exact up2_same m 4 i 4
    · rw [up2_i m 4 4 e]; exact h.2.2 i (by omega)
def iO (k : Nat) (m : Nat → Nat → Int32) : Prop := k ≤ 270 ∧ (∀ j, j ≠ 4 → j ≠ 11 → m j = mI0 j) ∧ (∀ i, i < 3 → m 4 i = 4) ∧ ∀ i, i < k → m 11 i = -1
theorem iO_s {k : Nat} {m : Nat → Nat → Int32} (h : iO k m) (hk : k < 270) : iO (k + 1) (up2 m 11 k (-1)) := by
  refine ⟨hk, fun j hj hj2 => ?_, fun i hi => h.2.2.1 i hi, fun i hi => ?_⟩
  · rw [show up2 m 11 k (-1) j = m j by simp [up2, hj2]]; exact h.2.1 j hj hj2
  · by_cases e : i = k
    · subst e; exact up2_same m 11 i (-1)
    · rw [up2_i m 11 (-1) e]; exact h.2.2.2 i (by omega)
theorem iO_e {m : Nat → Nat → Int32} (h : iO 270 m) : mIn (up2 (up2 m 8 0 (-1)) 10 0 (-1)) := by
  obtain ⟨-, h1, h2, h3⟩ := h
  have e : ∀ j, j ≠ 8 → j ≠ 10 → up2 (up2 m 8 0 (-1)) 10 0 (-1) j = m j := fun j a b => by simp [up2, a, b]
  refine ⟨?_, ?_, ?_, ?_, fun b hb => ?_, fun k hk => ?_, ?_, ?_, ?_, fun k => ?_⟩
  · rw [e 0 (by decide) (by decide), h1 0 (by decide) (by decide)]; rfl
  · rw [e 0 (by decide) (by decide), h1 0 (by decide) (by decide)]; rfl
  · rw [e 0 (by decide) (by decide), h1 0 (by decide) (by decide)]; rfl
  · rw [e 0 (by decide) (by decide), h1 0 (by decide) (by decide)]; rfl
  · rw [e 4 (by decide) (by decide)]; exact h2 b hb
  · rw [e 11 (by decide) (by decide)]; exact h3 k hk
  · rfl
  · rw [e 9 (by decide) (by decide), h1 9 (by decide) (by decide)]; rfl
  · rfl
  · rw [e 12 (by decide) (by decide), h1 12 (by decide) (by decide)]; rfl
set_option maxHeartbeats 4000000 in
set_option maxRecDepth 100000 in
theorem c_X4_init {l : Launch} {D : va_G} {cy : Nat → ClassId} {Y : va_W}  (hl0 : l.stackTraces = false) (h0 : Nat) : vl_Kv l D cy yX4_init wsX4_init { frames := 1, cells := 11, slots := 610, locals := 21 } 11 610 (Y ++ [(h0, .inr (4, [.int 0, .null, .null, .null, .null, .int 0, .int 0, .int 0, .null, .null, .null, .null, .null, .null, .null, .int 0, .int 0, .int 0]))]) [.ref h0] (fun w' => ∃ (ad : Nat → Nat) (m' : Nat → Nat → Int32), ad 0 = h0 ∧ w' = mw cy ad m' ++ Y ∧ mIn m') := by
  refine vl_openv hl0 (by decide) rfl (Nat.le_of_ble_eq_true rfl) rfl ?_
  intro p e s m args below meth c C0 hr hnm
  generalize hA : va_A (Y ++ [(h0, .inr (4, [.int 0, .null, .null, .null, .null, .int 0, .int 0, .int 0, .null, .null, .null, .null, .null, .null, .null, .int 0, .int 0, .int 0]))]) s.heap.size = A at C0 ⊢
  refine vl_lv (lv2 := [(0, .ref h0)]) [0] rfl ?_
  have hinX4 : ∀ x ∈ u_ws RX4 TX4 18, x ∈ wsX4_init := by decide +kernel
  refine vl_aload_n C0 dX4_init_0 0 rfl ?_
  refine vl_objInit C0 (by decide +kernel) (by decide +kernel) (by decide +kernel) (Nat.le_of_ble_eq_true rfl) (Nat.le_of_ble_eq_true rfl) dX4_init_1 ?_
  refine vl_aload_n C0 dX4_init_4 0 rfl ?_
  refine vl_bipush (v := 8) C0 dX4_init_5 (by decide) ?_
  refine vl_newI C0 (N := 8) (by decide +kernel) (by decide) (by decide) (by decide) (Nat.le_of_ble_eq_true rfl) (Nat.le_of_ble_eq_true rfl) dX4_init_7 (fun q7 => ?_)
  refine vl_w (w2 := Y ++ [(h0, .inr (4, [.int 0, .null, .null, .null, .null, .int 0, .int 0, .int 0, .null, .null, .null, .null, .null, .null, .null, .int 0, .int 0, .int 0])), (q7, .inl (cy 0, 8, .inl (fun _ => 0)))]) (List.append_assoc _ _ _) ?_
  refine vl_wid (k2 := 1) (n2 := 8) (Nat.le_of_ble_eq_true rfl) (Nat.le_of_ble_eq_true rfl) ?_
  refine vl_putF C0 (C := RX4) (T := TX4) (N := 18) (ci := 4) (q0 := Y.length + 0) (fs := [.int 0, .null, .null, .null, .null, .int 0, .int 0, .int 0, .null, .null, .null, .null, .null, .null, .null, .int 0, .int 0, .int 0]) (v := .ref q7) (w2 := Y ++ [(h0, .inr (4, [.int 0, .ref q7, .null, .null, .null, .int 0, .int 0, .int 0, .null, .null, .null, .null, .null, .null, .null, .int 0, .int 0, .int 0])), (q7, .inl (cy 0, 8, .inl (fun _ => 0)))]) hinX4 tyX4 tyX4_ok nmX4 (wy_at rfl) rfl 1 (by decide) (by decide +kernel) rfl hnm rfl rfl rfl rfl (Nat.le_of_ble_eq_true rfl) wy_set dX4_init_9 ?_
  refine vl_aload_n C0 dX4_init_12 0 rfl ?_
  refine vl_bipush (v := 8) C0 dX4_init_13 (by decide) ?_
  refine vl_newI C0 (N := 8) (by decide +kernel) (by decide) (by decide) (by decide) (Nat.le_of_ble_eq_true rfl) (Nat.le_of_ble_eq_true rfl) dX4_init_15 (fun q15 => ?_)
  refine vl_w (w2 := Y ++ [(h0, .inr (4, [.int 0, .ref q7, .null, .null, .null, .int 0, .int 0, .int 0, .null, .null, .null, .null, .null, .null, .null, .int 0, .int 0, .int 0])), (q7, .inl (cy 0, 8, .inl (fun _ => 0))), (q15, .inl (cy 0, 8, .inl (fun _ => 0)))]) (List.append_assoc _ _ _) ?_
  refine vl_wid (k2 := 2) (n2 := 16) (Nat.le_of_ble_eq_true rfl) (Nat.le_of_ble_eq_true rfl) ?_
  refine vl_putF C0 (C := RX4) (T := TX4) (N := 18) (ci := 4) (q0 := Y.length + 0) (fs := [.int 0, .ref q7, .null, .null, .null, .int 0, .int 0, .int 0, .null, .null, .null, .null, .null, .null, .null, .int 0, .int 0, .int 0]) (v := .ref q15) (w2 := Y ++ [(h0, .inr (4, [.int 0, .ref q7, .ref q15, .null, .null, .int 0, .int 0, .int 0, .null, .null, .null, .null, .null, .null, .null, .int 0, .int 0, .int 0])), (q7, .inl (cy 0, 8, .inl (fun _ => 0))), (q15, .inl (cy 0, 8, .inl (fun _ => 0)))]) hinX4 tyX4 tyX4_ok nmX4 (wy_at rfl) rfl 2 (by decide) (by decide +kernel) rfl hnm rfl rfl rfl rfl (Nat.le_of_ble_eq_true rfl) wy_set dX4_init_17 ?_
  refine vl_aload_n C0 dX4_init_20 0 rfl ?_
  refine vl_bipush (v := 8) C0 dX4_init_21 (by decide) ?_
  refine vl_newI C0 (N := 8) (by decide +kernel) (by decide) (by decide) (by decide) (Nat.le_of_ble_eq_true rfl) (Nat.le_of_ble_eq_true rfl) dX4_init_23 (fun q23 => ?_)
  refine vl_w (w2 := Y ++ [(h0, .inr (4, [.int 0, .ref q7, .ref q15, .null, .null, .int 0, .int 0, .int 0, .null, .null, .null, .null, .null, .null, .null, .int 0, .int 0, .int 0])), (q7, .inl (cy 0, 8, .inl (fun _ => 0))), (q15, .inl (cy 0, 8, .inl (fun _ => 0))), (q23, .inl (cy 0, 8, .inl (fun _ => 0)))]) (List.append_assoc _ _ _) ?_
  refine vl_wid (k2 := 3) (n2 := 24) (Nat.le_of_ble_eq_true rfl) (Nat.le_of_ble_eq_true rfl) ?_
  refine vl_putF C0 (C := RX4) (T := TX4) (N := 18) (ci := 4) (q0 := Y.length + 0) (fs := [.int 0, .ref q7, .ref q15, .null, .null, .int 0, .int 0, .int 0, .null, .null, .null, .null, .null, .null, .null, .int 0, .int 0, .int 0]) (v := .ref q23) (w2 := Y ++ [(h0, .inr (4, [.int 0, .ref q7, .ref q15, .ref q23, .null, .int 0, .int 0, .int 0, .null, .null, .null, .null, .null, .null, .null, .int 0, .int 0, .int 0])), (q7, .inl (cy 0, 8, .inl (fun _ => 0))), (q15, .inl (cy 0, 8, .inl (fun _ => 0))), (q23, .inl (cy 0, 8, .inl (fun _ => 0)))]) hinX4 tyX4 tyX4_ok nmX4 (wy_at rfl) rfl 3 (by decide) (by decide +kernel) rfl hnm rfl rfl rfl rfl (Nat.le_of_ble_eq_true rfl) wy_set dX4_init_25 ?_
  refine vl_aload_n C0 dX4_init_28 0 rfl ?_
  refine vl_iconst (v := 3) C0 dX4_init_29 (by decide) ?_
  refine vl_newI C0 (N := 3) (by decide +kernel) (by decide) (by decide) (by decide) (Nat.le_of_ble_eq_true rfl) (Nat.le_of_ble_eq_true rfl) dX4_init_30 (fun q30 => ?_)
  refine vl_w (w2 := Y ++ [(h0, .inr (4, [.int 0, .ref q7, .ref q15, .ref q23, .null, .int 0, .int 0, .int 0, .null, .null, .null, .null, .null, .null, .null, .int 0, .int 0, .int 0])), (q7, .inl (cy 0, 8, .inl (fun _ => 0))), (q15, .inl (cy 0, 8, .inl (fun _ => 0))), (q23, .inl (cy 0, 8, .inl (fun _ => 0))), (q30, .inl (cy 0, 3, .inl (fun _ => 0)))]) (List.append_assoc _ _ _) ?_
  refine vl_wid (k2 := 4) (n2 := 27) (Nat.le_of_ble_eq_true rfl) (Nat.le_of_ble_eq_true rfl) ?_
  refine vl_putF C0 (C := RX4) (T := TX4) (N := 18) (ci := 4) (q0 := Y.length + 0) (fs := [.int 0, .ref q7, .ref q15, .ref q23, .null, .int 0, .int 0, .int 0, .null, .null, .null, .null, .null, .null, .null, .int 0, .int 0, .int 0]) (v := .ref q30) (w2 := Y ++ [(h0, .inr (4, [.int 0, .ref q7, .ref q15, .ref q23, .ref q30, .int 0, .int 0, .int 0, .null, .null, .null, .null, .null, .null, .null, .int 0, .int 0, .int 0])), (q7, .inl (cy 0, 8, .inl (fun _ => 0))), (q15, .inl (cy 0, 8, .inl (fun _ => 0))), (q23, .inl (cy 0, 8, .inl (fun _ => 0))), (q30, .inl (cy 0, 3, .inl (fun _ => 0)))]) hinX4 tyX4 tyX4_ok nmX4 (wy_at rfl) rfl 4 (by decide) (by decide +kernel) rfl hnm rfl rfl rfl rfl (Nat.le_of_ble_eq_true rfl) wy_set dX4_init_32 ?_
  refine vl_aload_n C0 dX4_init_35 0 rfl ?_
  refine vl_iconst (v := 3) C0 dX4_init_36 (by decide) ?_
  refine vl_put C0 (C := RX4) (T := TX4) (N := 18) (ci := 4) (q0 := Y.length + 0) (fs := [.int 0, .ref q7, .ref q15, .ref q23, .ref q30, .int 0, .int 0, .int 0, .null, .null, .null, .null, .null, .null, .null, .int 0, .int 0, .int 0]) (v := .int 3) (w2 := Y ++ [(h0, .inr (4, [.int 0, .ref q7, .ref q15, .ref q23, .ref q30, .int 3, .int 0, .int 0, .null, .null, .null, .null, .null, .null, .null, .int 0, .int 0, .int 0])), (q7, .inl (cy 0, 8, .inl (fun _ => 0))), (q15, .inl (cy 0, 8, .inl (fun _ => 0))), (q23, .inl (cy 0, 8, .inl (fun _ => 0))), (q30, .inl (cy 0, 3, .inl (fun _ => 0)))]) hinX4 tyX4 tyX4_ok nmX4 (wy_at rfl) rfl 5 (by decide) (by decide +kernel) rfl rfl rfl rfl (Nat.le_of_ble_eq_true rfl) wy_set dX4_init_37 ?_
  refine vl_aload_n C0 dX4_init_40 0 rfl ?_
  refine vl_iconst (v := 1) C0 dX4_init_41 (by decide) ?_
  refine vl_put C0 (C := RX4) (T := TX4) (N := 18) (ci := 4) (q0 := Y.length + 0) (fs := [.int 0, .ref q7, .ref q15, .ref q23, .ref q30, .int 3, .int 0, .int 0, .null, .null, .null, .null, .null, .null, .null, .int 0, .int 0, .int 0]) (v := .int 1) (w2 := Y ++ [(h0, .inr (4, [.int 0, .ref q7, .ref q15, .ref q23, .ref q30, .int 3, .int 1, .int 0, .null, .null, .null, .null, .null, .null, .null, .int 0, .int 0, .int 0])), (q7, .inl (cy 0, 8, .inl (fun _ => 0))), (q15, .inl (cy 0, 8, .inl (fun _ => 0))), (q23, .inl (cy 0, 8, .inl (fun _ => 0))), (q30, .inl (cy 0, 3, .inl (fun _ => 0)))]) hinX4 tyX4 tyX4_ok nmX4 (wy_at rfl) rfl 6 (by decide) (by decide +kernel) rfl rfl rfl rfl (Nat.le_of_ble_eq_true rfl) wy_set dX4_init_42 ?_
  refine vl_aload_n C0 dX4_init_45 0 rfl ?_
  refine vl_iconst (v := 1) C0 dX4_init_46 (by decide) ?_
  refine vl_put C0 (C := RX4) (T := TX4) (N := 18) (ci := 4) (q0 := Y.length + 0) (fs := [.int 0, .ref q7, .ref q15, .ref q23, .ref q30, .int 3, .int 1, .int 0, .null, .null, .null, .null, .null, .null, .null, .int 0, .int 0, .int 0]) (v := .int 1) (w2 := Y ++ [(h0, .inr (4, [.int 0, .ref q7, .ref q15, .ref q23, .ref q30, .int 3, .int 1, .int 1, .null, .null, .null, .null, .null, .null, .null, .int 0, .int 0, .int 0])), (q7, .inl (cy 0, 8, .inl (fun _ => 0))), (q15, .inl (cy 0, 8, .inl (fun _ => 0))), (q23, .inl (cy 0, 8, .inl (fun _ => 0))), (q30, .inl (cy 0, 3, .inl (fun _ => 0)))]) hinX4 tyX4 tyX4_ok nmX4 (wy_at rfl) rfl 7 (by decide) (by decide +kernel) rfl rfl rfl rfl (Nat.le_of_ble_eq_true rfl) wy_set dX4_init_47 ?_
  refine vl_aload_n C0 dX4_init_50 0 rfl ?_
  refine vl_bipush (v := 9) C0 dX4_init_51 (by decide) ?_
  refine vl_newI C0 (N := 9) (by decide +kernel) (by decide) (by decide) (by decide) (Nat.le_of_ble_eq_true rfl) (Nat.le_of_ble_eq_true rfl) dX4_init_53 (fun q53 => ?_)
  refine vl_w (w2 := Y ++ [(h0, .inr (4, [.int 0, .ref q7, .ref q15, .ref q23, .ref q30, .int 3, .int 1, .int 1, .null, .null, .null, .null, .null, .null, .null, .int 0, .int 0, .int 0])), (q7, .inl (cy 0, 8, .inl (fun _ => 0))), (q15, .inl (cy 0, 8, .inl (fun _ => 0))), (q23, .inl (cy 0, 8, .inl (fun _ => 0))), (q30, .inl (cy 0, 3, .inl (fun _ => 0))), (q53, .inl (cy 0, 9, .inl (fun _ => 0)))]) (List.append_assoc _ _ _) ?_
  refine vl_wid (k2 := 5) (n2 := 36) (Nat.le_of_ble_eq_true rfl) (Nat.le_of_ble_eq_true rfl) ?_
  refine vl_putF C0 (C := RX4) (T := TX4) (N := 18) (ci := 4) (q0 := Y.length + 0) (fs := [.int 0, .ref q7, .ref q15, .ref q23, .ref q30, .int 3, .int 1, .int 1, .null, .null, .null, .null, .null, .null, .null, .int 0, .int 0, .int 0]) (v := .ref q53) (w2 := Y ++ [(h0, .inr (4, [.int 0, .ref q7, .ref q15, .ref q23, .ref q30, .int 3, .int 1, .int 1, .ref q53, .null, .null, .null, .null, .null, .null, .int 0, .int 0, .int 0])), (q7, .inl (cy 0, 8, .inl (fun _ => 0))), (q15, .inl (cy 0, 8, .inl (fun _ => 0))), (q23, .inl (cy 0, 8, .inl (fun _ => 0))), (q30, .inl (cy 0, 3, .inl (fun _ => 0))), (q53, .inl (cy 0, 9, .inl (fun _ => 0)))]) hinX4 tyX4 tyX4_ok nmX4 (wy_at rfl) rfl 8 (by decide) (by decide +kernel) rfl hnm rfl rfl rfl rfl (Nat.le_of_ble_eq_true rfl) wy_set dX4_init_55 ?_
  refine vl_aload_n C0 dX4_init_58 0 rfl ?_
  refine vl_bipush (v := 9) C0 dX4_init_59 (by decide) ?_
  refine vl_newI C0 (N := 9) (by decide +kernel) (by decide) (by decide) (by decide) (Nat.le_of_ble_eq_true rfl) (Nat.le_of_ble_eq_true rfl) dX4_init_61 (fun q61 => ?_)
  refine vl_w (w2 := Y ++ [(h0, .inr (4, [.int 0, .ref q7, .ref q15, .ref q23, .ref q30, .int 3, .int 1, .int 1, .ref q53, .null, .null, .null, .null, .null, .null, .int 0, .int 0, .int 0])), (q7, .inl (cy 0, 8, .inl (fun _ => 0))), (q15, .inl (cy 0, 8, .inl (fun _ => 0))), (q23, .inl (cy 0, 8, .inl (fun _ => 0))), (q30, .inl (cy 0, 3, .inl (fun _ => 0))), (q53, .inl (cy 0, 9, .inl (fun _ => 0))), (q61, .inl (cy 0, 9, .inl (fun _ => 0)))]) (List.append_assoc _ _ _) ?_
  refine vl_wid (k2 := 6) (n2 := 45) (Nat.le_of_ble_eq_true rfl) (Nat.le_of_ble_eq_true rfl) ?_
  refine vl_putF C0 (C := RX4) (T := TX4) (N := 18) (ci := 4) (q0 := Y.length + 0) (fs := [.int 0, .ref q7, .ref q15, .ref q23, .ref q30, .int 3, .int 1, .int 1, .ref q53, .null, .null, .null, .null, .null, .null, .int 0, .int 0, .int 0]) (v := .ref q61) (w2 := Y ++ [(h0, .inr (4, [.int 0, .ref q7, .ref q15, .ref q23, .ref q30, .int 3, .int 1, .int 1, .ref q53, .ref q61, .null, .null, .null, .null, .null, .int 0, .int 0, .int 0])), (q7, .inl (cy 0, 8, .inl (fun _ => 0))), (q15, .inl (cy 0, 8, .inl (fun _ => 0))), (q23, .inl (cy 0, 8, .inl (fun _ => 0))), (q30, .inl (cy 0, 3, .inl (fun _ => 0))), (q53, .inl (cy 0, 9, .inl (fun _ => 0))), (q61, .inl (cy 0, 9, .inl (fun _ => 0)))]) hinX4 tyX4 tyX4_ok nmX4 (wy_at rfl) rfl 9 (by decide) (by decide +kernel) rfl hnm rfl rfl rfl rfl (Nat.le_of_ble_eq_true rfl) wy_set dX4_init_63 ?_
  refine vl_aload_n C0 dX4_init_66 0 rfl ?_
  refine vl_bipush (v := 9) C0 dX4_init_67 (by decide) ?_
  refine vl_newI C0 (N := 9) (by decide +kernel) (by decide) (by decide) (by decide) (Nat.le_of_ble_eq_true rfl) (Nat.le_of_ble_eq_true rfl) dX4_init_69 (fun q69 => ?_)
  refine vl_w (w2 := Y ++ [(h0, .inr (4, [.int 0, .ref q7, .ref q15, .ref q23, .ref q30, .int 3, .int 1, .int 1, .ref q53, .ref q61, .null, .null, .null, .null, .null, .int 0, .int 0, .int 0])), (q7, .inl (cy 0, 8, .inl (fun _ => 0))), (q15, .inl (cy 0, 8, .inl (fun _ => 0))), (q23, .inl (cy 0, 8, .inl (fun _ => 0))), (q30, .inl (cy 0, 3, .inl (fun _ => 0))), (q53, .inl (cy 0, 9, .inl (fun _ => 0))), (q61, .inl (cy 0, 9, .inl (fun _ => 0))), (q69, .inl (cy 0, 9, .inl (fun _ => 0)))]) (List.append_assoc _ _ _) ?_
  refine vl_wid (k2 := 7) (n2 := 54) (Nat.le_of_ble_eq_true rfl) (Nat.le_of_ble_eq_true rfl) ?_
  refine vl_putF C0 (C := RX4) (T := TX4) (N := 18) (ci := 4) (q0 := Y.length + 0) (fs := [.int 0, .ref q7, .ref q15, .ref q23, .ref q30, .int 3, .int 1, .int 1, .ref q53, .ref q61, .null, .null, .null, .null, .null, .int 0, .int 0, .int 0]) (v := .ref q69) (w2 := Y ++ [(h0, .inr (4, [.int 0, .ref q7, .ref q15, .ref q23, .ref q30, .int 3, .int 1, .int 1, .ref q53, .ref q61, .ref q69, .null, .null, .null, .null, .int 0, .int 0, .int 0])), (q7, .inl (cy 0, 8, .inl (fun _ => 0))), (q15, .inl (cy 0, 8, .inl (fun _ => 0))), (q23, .inl (cy 0, 8, .inl (fun _ => 0))), (q30, .inl (cy 0, 3, .inl (fun _ => 0))), (q53, .inl (cy 0, 9, .inl (fun _ => 0))), (q61, .inl (cy 0, 9, .inl (fun _ => 0))), (q69, .inl (cy 0, 9, .inl (fun _ => 0)))]) hinX4 tyX4 tyX4_ok nmX4 (wy_at rfl) rfl 10 (by decide) (by decide +kernel) rfl hnm rfl rfl rfl rfl (Nat.le_of_ble_eq_true rfl) wy_set dX4_init_71 ?_
  refine vl_aload_n C0 dX4_init_74 0 rfl ?_
  refine vl_sipush (v := 270) C0 dX4_init_75 (by decide) ?_
  refine vl_newI C0 (N := 270) (by decide +kernel) (by decide) (by decide) (by decide) (Nat.le_of_ble_eq_true rfl) (Nat.le_of_ble_eq_true rfl) dX4_init_78 (fun q78 => ?_)
  refine vl_w (w2 := Y ++ [(h0, .inr (4, [.int 0, .ref q7, .ref q15, .ref q23, .ref q30, .int 3, .int 1, .int 1, .ref q53, .ref q61, .ref q69, .null, .null, .null, .null, .int 0, .int 0, .int 0])), (q7, .inl (cy 0, 8, .inl (fun _ => 0))), (q15, .inl (cy 0, 8, .inl (fun _ => 0))), (q23, .inl (cy 0, 8, .inl (fun _ => 0))), (q30, .inl (cy 0, 3, .inl (fun _ => 0))), (q53, .inl (cy 0, 9, .inl (fun _ => 0))), (q61, .inl (cy 0, 9, .inl (fun _ => 0))), (q69, .inl (cy 0, 9, .inl (fun _ => 0))), (q78, .inl (cy 0, 270, .inl (fun _ => 0)))]) (List.append_assoc _ _ _) ?_
  refine vl_wid (k2 := 8) (n2 := 324) (Nat.le_of_ble_eq_true rfl) (Nat.le_of_ble_eq_true rfl) ?_
  refine vl_putF C0 (C := RX4) (T := TX4) (N := 18) (ci := 4) (q0 := Y.length + 0) (fs := [.int 0, .ref q7, .ref q15, .ref q23, .ref q30, .int 3, .int 1, .int 1, .ref q53, .ref q61, .ref q69, .null, .null, .null, .null, .int 0, .int 0, .int 0]) (v := .ref q78) (w2 := Y ++ [(h0, .inr (4, [.int 0, .ref q7, .ref q15, .ref q23, .ref q30, .int 3, .int 1, .int 1, .ref q53, .ref q61, .ref q69, .ref q78, .null, .null, .null, .int 0, .int 0, .int 0])), (q7, .inl (cy 0, 8, .inl (fun _ => 0))), (q15, .inl (cy 0, 8, .inl (fun _ => 0))), (q23, .inl (cy 0, 8, .inl (fun _ => 0))), (q30, .inl (cy 0, 3, .inl (fun _ => 0))), (q53, .inl (cy 0, 9, .inl (fun _ => 0))), (q61, .inl (cy 0, 9, .inl (fun _ => 0))), (q69, .inl (cy 0, 9, .inl (fun _ => 0))), (q78, .inl (cy 0, 270, .inl (fun _ => 0)))]) hinX4 tyX4 tyX4_ok nmX4 (wy_at rfl) rfl 11 (by decide) (by decide +kernel) rfl hnm rfl rfl rfl rfl (Nat.le_of_ble_eq_true rfl) wy_set dX4_init_80 ?_
  refine vl_aload_n C0 dX4_init_83 0 rfl ?_
  refine vl_sipush (v := 270) C0 dX4_init_84 (by decide) ?_
  refine vl_newZ C0 (N := 270) (by decide +kernel) (by decide) (by decide) (by decide) (Nat.le_of_ble_eq_true rfl) (Nat.le_of_ble_eq_true rfl) dX4_init_87 (fun q87 => ?_)
  refine vl_w (w2 := Y ++ [(h0, .inr (4, [.int 0, .ref q7, .ref q15, .ref q23, .ref q30, .int 3, .int 1, .int 1, .ref q53, .ref q61, .ref q69, .ref q78, .null, .null, .null, .int 0, .int 0, .int 0])), (q7, .inl (cy 0, 8, .inl (fun _ => 0))), (q15, .inl (cy 0, 8, .inl (fun _ => 0))), (q23, .inl (cy 0, 8, .inl (fun _ => 0))), (q30, .inl (cy 0, 3, .inl (fun _ => 0))), (q53, .inl (cy 0, 9, .inl (fun _ => 0))), (q61, .inl (cy 0, 9, .inl (fun _ => 0))), (q69, .inl (cy 0, 9, .inl (fun _ => 0))), (q78, .inl (cy 0, 270, .inl (fun _ => 0))), (q87, .inl (cy 1, 270, .inl (fun _ => 0)))]) (List.append_assoc _ _ _) ?_
  refine vl_wid (k2 := 9) (n2 := 594) (Nat.le_of_ble_eq_true rfl) (Nat.le_of_ble_eq_true rfl) ?_
  refine vl_putF C0 (C := RX4) (T := TX4) (N := 18) (ci := 4) (q0 := Y.length + 0) (fs := [.int 0, .ref q7, .ref q15, .ref q23, .ref q30, .int 3, .int 1, .int 1, .ref q53, .ref q61, .ref q69, .ref q78, .null, .null, .null, .int 0, .int 0, .int 0]) (v := .ref q87) (w2 := Y ++ [(h0, .inr (4, [.int 0, .ref q7, .ref q15, .ref q23, .ref q30, .int 3, .int 1, .int 1, .ref q53, .ref q61, .ref q69, .ref q78, .ref q87, .null, .null, .int 0, .int 0, .int 0])), (q7, .inl (cy 0, 8, .inl (fun _ => 0))), (q15, .inl (cy 0, 8, .inl (fun _ => 0))), (q23, .inl (cy 0, 8, .inl (fun _ => 0))), (q30, .inl (cy 0, 3, .inl (fun _ => 0))), (q53, .inl (cy 0, 9, .inl (fun _ => 0))), (q61, .inl (cy 0, 9, .inl (fun _ => 0))), (q69, .inl (cy 0, 9, .inl (fun _ => 0))), (q78, .inl (cy 0, 270, .inl (fun _ => 0))), (q87, .inl (cy 1, 270, .inl (fun _ => 0)))]) hinX4 tyX4 tyX4_ok nmX4 (wy_at rfl) rfl 12 (by decide) (by decide +kernel) rfl hnm rfl rfl rfl rfl (Nat.le_of_ble_eq_true rfl) wy_set dX4_init_89 ?_
  refine vl_aload_n C0 dX4_init_92 0 rfl ?_
  refine vl_bipush (v := 8) C0 dX4_init_93 (by decide) ?_
  refine vl_newI C0 (N := 8) (by decide +kernel) (by decide) (by decide) (by decide) (Nat.le_of_ble_eq_true rfl) (Nat.le_of_ble_eq_true rfl) dX4_init_95 (fun q95 => ?_)
  refine vl_w (w2 := Y ++ [(h0, .inr (4, [.int 0, .ref q7, .ref q15, .ref q23, .ref q30, .int 3, .int 1, .int 1, .ref q53, .ref q61, .ref q69, .ref q78, .ref q87, .null, .null, .int 0, .int 0, .int 0])), (q7, .inl (cy 0, 8, .inl (fun _ => 0))), (q15, .inl (cy 0, 8, .inl (fun _ => 0))), (q23, .inl (cy 0, 8, .inl (fun _ => 0))), (q30, .inl (cy 0, 3, .inl (fun _ => 0))), (q53, .inl (cy 0, 9, .inl (fun _ => 0))), (q61, .inl (cy 0, 9, .inl (fun _ => 0))), (q69, .inl (cy 0, 9, .inl (fun _ => 0))), (q78, .inl (cy 0, 270, .inl (fun _ => 0))), (q87, .inl (cy 1, 270, .inl (fun _ => 0))), (q95, .inl (cy 0, 8, .inl (fun _ => 0)))]) (List.append_assoc _ _ _) ?_
  refine vl_wid (k2 := 10) (n2 := 602) (Nat.le_of_ble_eq_true rfl) (Nat.le_of_ble_eq_true rfl) ?_
  refine vl_putF C0 (C := RX4) (T := TX4) (N := 18) (ci := 4) (q0 := Y.length + 0) (fs := [.int 0, .ref q7, .ref q15, .ref q23, .ref q30, .int 3, .int 1, .int 1, .ref q53, .ref q61, .ref q69, .ref q78, .ref q87, .null, .null, .int 0, .int 0, .int 0]) (v := .ref q95) (w2 := Y ++ [(h0, .inr (4, [.int 0, .ref q7, .ref q15, .ref q23, .ref q30, .int 3, .int 1, .int 1, .ref q53, .ref q61, .ref q69, .ref q78, .ref q87, .ref q95, .null, .int 0, .int 0, .int 0])), (q7, .inl (cy 0, 8, .inl (fun _ => 0))), (q15, .inl (cy 0, 8, .inl (fun _ => 0))), (q23, .inl (cy 0, 8, .inl (fun _ => 0))), (q30, .inl (cy 0, 3, .inl (fun _ => 0))), (q53, .inl (cy 0, 9, .inl (fun _ => 0))), (q61, .inl (cy 0, 9, .inl (fun _ => 0))), (q69, .inl (cy 0, 9, .inl (fun _ => 0))), (q78, .inl (cy 0, 270, .inl (fun _ => 0))), (q87, .inl (cy 1, 270, .inl (fun _ => 0))), (q95, .inl (cy 0, 8, .inl (fun _ => 0)))]) hinX4 tyX4 tyX4_ok nmX4 (wy_at rfl) rfl 13 (by decide) (by decide +kernel) rfl hnm rfl rfl rfl rfl (Nat.le_of_ble_eq_true rfl) wy_set dX4_init_97 ?_
  refine vl_aload_n C0 dX4_init_100 0 rfl ?_
  refine vl_bipush (v := 8) C0 dX4_init_101 (by decide) ?_
  refine vl_newI C0 (N := 8) (by decide +kernel) (by decide) (by decide) (by decide) (Nat.le_of_ble_eq_true rfl) (Nat.le_of_ble_eq_true rfl) dX4_init_103 (fun q103 => ?_)
  refine vl_w (w2 := Y ++ [(h0, .inr (4, [.int 0, .ref q7, .ref q15, .ref q23, .ref q30, .int 3, .int 1, .int 1, .ref q53, .ref q61, .ref q69, .ref q78, .ref q87, .ref q95, .null, .int 0, .int 0, .int 0])), (q7, .inl (cy 0, 8, .inl (fun _ => 0))), (q15, .inl (cy 0, 8, .inl (fun _ => 0))), (q23, .inl (cy 0, 8, .inl (fun _ => 0))), (q30, .inl (cy 0, 3, .inl (fun _ => 0))), (q53, .inl (cy 0, 9, .inl (fun _ => 0))), (q61, .inl (cy 0, 9, .inl (fun _ => 0))), (q69, .inl (cy 0, 9, .inl (fun _ => 0))), (q78, .inl (cy 0, 270, .inl (fun _ => 0))), (q87, .inl (cy 1, 270, .inl (fun _ => 0))), (q95, .inl (cy 0, 8, .inl (fun _ => 0))), (q103, .inl (cy 0, 8, .inl (fun _ => 0)))]) (List.append_assoc _ _ _) ?_
  refine vl_wid (k2 := 11) (n2 := 610) (Nat.le_of_ble_eq_true rfl) (Nat.le_of_ble_eq_true rfl) ?_
  refine vl_putF C0 (C := RX4) (T := TX4) (N := 18) (ci := 4) (q0 := Y.length + 0) (fs := [.int 0, .ref q7, .ref q15, .ref q23, .ref q30, .int 3, .int 1, .int 1, .ref q53, .ref q61, .ref q69, .ref q78, .ref q87, .ref q95, .null, .int 0, .int 0, .int 0]) (v := .ref q103) (w2 := Y ++ [(h0, .inr (4, [.int 0, .ref q7, .ref q15, .ref q23, .ref q30, .int 3, .int 1, .int 1, .ref q53, .ref q61, .ref q69, .ref q78, .ref q87, .ref q95, .ref q103, .int 0, .int 0, .int 0])), (q7, .inl (cy 0, 8, .inl (fun _ => 0))), (q15, .inl (cy 0, 8, .inl (fun _ => 0))), (q23, .inl (cy 0, 8, .inl (fun _ => 0))), (q30, .inl (cy 0, 3, .inl (fun _ => 0))), (q53, .inl (cy 0, 9, .inl (fun _ => 0))), (q61, .inl (cy 0, 9, .inl (fun _ => 0))), (q69, .inl (cy 0, 9, .inl (fun _ => 0))), (q78, .inl (cy 0, 270, .inl (fun _ => 0))), (q87, .inl (cy 1, 270, .inl (fun _ => 0))), (q95, .inl (cy 0, 8, .inl (fun _ => 0))), (q103, .inl (cy 0, 8, .inl (fun _ => 0)))]) hinX4 tyX4 tyX4_ok nmX4 (wy_at rfl) rfl 14 (by decide) (by decide +kernel) rfl hnm rfl rfl rfl rfl (Nat.le_of_ble_eq_true rfl) wy_set dX4_init_105 ?_
  refine vl_w (w2 := Y ++ mw cy (fun k => [h0, q7, q15, q23, q30, 0, 0, 0, q53, q61, q69, q78, q87, q95, q103].getD k 0) mI0) rfl ?_
  refine vl_perm (w2 := mw cy (fun k => [h0, q7, q15, q23, q30, 0, 0, 0, q53, q61, q69, q78, q87, q95, q103].getD k 0) mI0 ++ Y) List.perm_append_comm ?_
  obtain ⟨ad, had⟩ : ∃ ad : Nat → Nat, ad = (fun k => [h0, q7, q15, q23, q30, 0, 0, 0, q53, q61, q69, q78, q87, q95, q103].getD k 0) := ⟨_, rfl⟩
  have had0 : ad 0 = h0 := by rw [had]; rfl
  rw [← had]
  subst had0
  have hin := hinX4
  refine vl_iconst (v := 0) C0 dX4_init_108 (by decide) ?_
  refine vl_istore_n (lv' := [(0, .ref (ad 0)), (1, .int 0)]) C0 dX4_init_109 [1, 0] (by decide) rfl ?_
  refine vl_loop (σ := Nat × (Nat → Nat → Int32)) (fun x => mw cy ad x.2 ++ Y) (fun x => [(0, .ref (ad 0)), (1, .int (nI x.1))]) (fun x => iR x.1 x.2) (fun x => 3 - x.1) ?_ (0, mI0) (⟨Nat.zero_le _, fun _ _ => rfl, fun _ h => absurd h (Nat.not_lt_zero _)⟩)
  rintro ⟨k, m1⟩ hI ihk
  refine vl_w (w2 := mw cy ad m1 ++ Y) rfl ?_
  refine vl_lv (lv2 := [(0, .ref (ad 0)), (1, .int (nI k))]) [0, 1] rfl ?_
  have hI : iR k m1 := hI
  refine vl_iload_n C0 dX4_init_110 1 rfl ?_
  refine vl_iconst (v := 3) C0 dX4_init_111 (by decide) ?_
  refine vl_icmp_ge (tgt := 128) C0 dX4_init_112 (by decide) (fun (h112 : (3 : Int32) ≤ (nI k : Int32)) => ?_) (fun (h112 : ¬ (3 : Int32) ≤ (nI k : Int32)) => ?_)
  · have hkn : k = 3 := by have z : ¬ k < 3 := fun q => absurd h112 (nI_ge q (by decide)); have := hI.1; omega
    rw [hkn] at hI
    refine vl_iconst (v := 0) C0 dX4_init_128 (by decide) ?_
    refine vl_istore_n (lv' := [(0, .ref (ad 0)), (1, .int 0)]) C0 dX4_init_129 [1, 0] (by decide) rfl ?_
    refine vl_loop (σ := Nat × (Nat → Nat → Int32)) (fun x => mw cy ad x.2 ++ Y) (fun x => [(0, .ref (ad 0)), (1, .int (nI x.1))]) (fun x => iO x.1 x.2) (fun x => 270 - x.1) ?_ (0, m1) (⟨Nat.zero_le _, fun j a _ => hI.2.1 j a, hI.2.2, fun _ h => absurd h (Nat.not_lt_zero _)⟩)
    rintro ⟨j, m2⟩ hJ ihj
    refine vl_w (w2 := mw cy ad m2 ++ Y) rfl ?_
    refine vl_lv (lv2 := [(0, .ref (ad 0)), (1, .int (nI j))]) [0, 1] rfl ?_
    have hJ : iO j m2 := hJ
    refine vl_iload_n C0 dX4_init_130 1 rfl ?_
    refine vl_sipush (v := 270) C0 dX4_init_131 (by decide) ?_
    refine vl_icmp_ge (tgt := 150) C0 dX4_init_134 (by decide) (fun (h134 : (270 : Int32) ≤ (nI j : Int32)) => ?_) (fun (h134 : ¬ (270 : Int32) ≤ (nI j : Int32)) => ?_)
    · have hkn : j = 270 := by have z : ¬ j < 270 := fun q => absurd h134 (nI_ge q (by decide)); have := hJ.1; omega
      rw [hkn] at hJ
      refine vl_aload_n C0 dX4_init_150 0 rfl ?_
      refine rm_get C0 hin 8 (by decide) (by decide +kernel) rfl dX4_init_151 ?_
      refine vl_iconst (v := 0) C0 dX4_init_154 (by decide) ?_
      refine vl_iconst (v := -1) C0 dX4_init_155 (by decide) ?_
      refine rm_iast C0 8 5 9 rfl (mw_st8 _ _) (vp_in_iff.mpr (by decide)) (kn := 0) (by decide) dX4_init_156 ?_
      refine vl_aload_n C0 dX4_init_157 0 rfl ?_
      refine rm_get C0 hin 10 (by decide) (by decide +kernel) rfl dX4_init_158 ?_
      refine vl_iconst (v := 0) C0 dX4_init_161 (by decide) ?_
      refine vl_iconst (v := -1) C0 dX4_init_162 (by decide) ?_
      refine rm_iast C0 10 7 9 rfl (mw_st10 _ _) (vp_in_iff.mpr (by decide)) (kn := 0) (by decide) dX4_init_163 ?_
      exact vl_vret C0 hA.symm hr ⟨ad, _, rfl, rfl, iO_e hJ⟩ (Nat.le_of_ble_eq_true rfl) (Nat.le_of_ble_eq_true rfl) dX4_init_164
    · have hj3 : j < 270 := by have z : ¬ j = 270 := fun q => h134 (by rw [q]; exact nI_le (Nat.le_refl _) (by decide)); have := hJ.1; omega
      refine vl_aload_n C0 dX4_init_137 0 rfl ?_
      refine rm_get C0 hin 11 (by decide) (by decide +kernel) rfl dX4_init_138 ?_
      refine vl_iload_n C0 dX4_init_141 1 rfl ?_
      refine vl_iconst (v := -1) C0 dX4_init_142 (by decide) ?_
      refine rm_iast C0 11 8 270 rfl (mw_st11 _ _) (vp_in_nI hj3 (by decide)) (kn := j) (nI_clamp (by omega)) dX4_init_143 ?_
      refine vl_iinc (v := nI (j + 1)) (lv' := [(0, .ref (ad 0)), (1, .int (nI (j + 1)))]) C0 dX4_init_144 1 rfl (nI_1 j) [1, 0] (by decide) rfl ?_
      refine vl_goto (tgt := 130) C0 dX4_init_147 (by decide) ?_
      exact ihj (j + 1, up2 m2 11 j (-1)) (iO_s hJ hj3) (by show 270 - (j + 1) < 270 - j; omega)
  · have hk3 : k < 3 := by have z : ¬ k = 3 := fun q => h112 (by rw [q]; exact nI_le (Nat.le_refl _) (by decide)); have := hI.1; omega
    refine vl_aload_n C0 dX4_init_115 0 rfl ?_
    refine rm_get C0 hin 4 (by decide) (by decide +kernel) rfl dX4_init_116 ?_
    refine vl_iload_n C0 dX4_init_119 1 rfl ?_
    refine vl_iconst (v := 4) C0 dX4_init_120 (by decide) ?_
    refine rm_iast C0 4 4 3 rfl (mw_st4 _ _) (vp_in_nI hk3 (by decide)) (kn := k) (nI_clamp (by omega)) dX4_init_121 ?_
    refine vl_iinc (v := nI (k + 1)) (lv' := [(0, .ref (ad 0)), (1, .int (nI (k + 1)))]) C0 dX4_init_122 1 rfl (nI_1 k) [1, 0] (by decide) rfl ?_
    refine vl_goto (tgt := 110) C0 dX4_init_125 (by decide) ?_
    exact ihk (k + 1, up2 m1 4 k 4) (iR_s hI hk3) (by show 3 - (k + 1) < 3 - k; omega)
end VC12
