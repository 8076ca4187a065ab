section VM1
set_option maxHeartbeats 4000000 in
set_option maxRecDepth 100000 in
theorem c_X4_isIn {l : Launch} {D : va_G} {cy : Nat → ClassId} {w0 : va_W} (hl0 : l.stackTraces = false) (a b c0 : Int32) : vl_Ki l D cy yX4_isIn wsX4_isIn { frames := 0, cells := 0, slots := 0, locals := 0 } 0 0 (w0) [.int a, .int b, .int c0] (fun r w' => r = bI (inB a b c0) ∧ w' = w0) := by
  refine vl_openi hl0 (by decide) rfl (Nat.le_of_ble_eq_true rfl) rfl ?_
  intro p e s m args below meth c C0 hr hnm
  generalize hA : va_A (w0) s.heap.size = A at C0 ⊢
  refine vl_lv (lv2 := [(0, .int a), (1, .int b), (2, .int c0)]) [0, 1, 2] rfl ?_
  refine vl_iload_n C0 dX4_isIn_0 0 rfl ?_
  refine vl_iload_n C0 dX4_isIn_1 1 rfl ?_
  refine vl_icmp_lt (tgt := 14) C0 dX4_isIn_2 (by decide) (fun (h2 : (a : Int32) < (b : Int32)) => ?_) (fun (h2 : ¬ (a : Int32) < (b : Int32)) => ?_)
  · refine vl_iconst (v := 0) C0 dX4_isIn_14 (by decide) ?_
    exact vl_zret C0 hA.symm hr rfl ⟨by simp [bI, inB, ← Int32.not_lt, h2], rfl⟩ (Nat.le_of_ble_eq_true rfl) (Nat.le_of_ble_eq_true rfl) dX4_isIn_15
  · refine vl_iload_n C0 dX4_isIn_5 0 rfl ?_
    refine vl_iload_n C0 dX4_isIn_6 2 rfl ?_
    refine vl_icmp_gt (tgt := 14) C0 dX4_isIn_7 (by decide) (fun (h7 : (c0 : Int32) < (a : Int32)) => ?_) (fun (h7 : ¬ (c0 : Int32) < (a : Int32)) => ?_)
    · refine vl_iconst (v := 0) C0 dX4_isIn_14 (by decide) ?_
      exact vl_zret C0 hA.symm hr rfl ⟨by simp [bI, inB, ← Int32.not_lt, h2, h7], rfl⟩ (Nat.le_of_ble_eq_true rfl) (Nat.le_of_ble_eq_true rfl) dX4_isIn_15
    · refine vl_iconst (v := 1) C0 dX4_isIn_10 (by decide) ?_
      refine vl_goto (tgt := 15) C0 dX4_isIn_11 (by decide) ?_
      exact vl_zret C0 hA.symm hr rfl ⟨by simp [bI, inB, ← Int32.not_lt, h2, h7], rfl⟩ (Nat.le_of_ble_eq_true rfl) (Nat.le_of_ble_eq_true rfl) dX4_isIn_15
set_option maxHeartbeats 4000000 in
set_option maxRecDepth 100000 in
theorem c_X4_isTurn {l : Launch} {D : va_G} {cy : Nat → ClassId} {w0 : va_W} (hl0 : l.stackTraces = false) (a : Int32) : vl_Ki l D cy yX4_isTurn wsX4_isTurn { frames := 1, cells := 0, slots := 0, locals := 22 } 0 0 (w0) [.int a] (fun r w' => r = bI (inB a 0 29) ∧ w' = w0) := by
  refine vl_openi hl0 (by decide) rfl (Nat.le_of_ble_eq_true rfl) rfl ?_
  intro p e s m args below meth c C0 hr hnm
  generalize hA : va_A (w0) s.heap.size = A at C0 ⊢
  refine vl_lv (lv2 := [(0, .int a)]) [0] rfl ?_
  refine vl_iload_n C0 dX4_isTurn_0 0 rfl ?_
  refine vl_iconst (v := 0) C0 dX4_isTurn_1 (by decide) ?_
  refine vl_bipush (v := 29) C0 dX4_isTurn_2 (by decide) ?_
  refine vl_calli C0 (vl_goS C0 (As := [.int a, .int 0, .int 29]) (na := 3) (st := []) gX4_isTurn_X4_isIn rfl rfl rfl (by decide +kernel) ⟨Nat.le_of_ble_eq_true rfl, Nat.le_of_ble_eq_true rfl⟩ dX4_isTurn_4 (Nat.le_of_ble_eq_true rfl) ⟨Nat.le_of_ble_eq_true rfl, Nat.le_of_ble_eq_true rfl⟩ rfl rfl) (c_X4_isIn hl0 a 0 29) (k2 := 0) (n2 := 0) (Nat.le_of_ble_eq_true rfl) (Nat.le_of_ble_eq_true rfl) (fun r9 w9 hp9 => ?_)
  obtain ⟨rfl, rfl⟩ := hp9
  exact vl_zret C0 hA.symm hr (nb_bI _) ⟨rfl, rfl⟩ (Nat.le_of_ble_eq_true rfl) (Nat.le_of_ble_eq_true rfl) dX4_isTurn_7
set_option maxHeartbeats 4000000 in
set_option maxRecDepth 100000 in
theorem c_X4_isBerth {l : Launch} {D : va_G} {cy : Nat → ClassId} {w0 : va_W} (hl0 : l.stackTraces = false) (a : Int32) : vl_Ki l D cy yX4_isBerth wsX4_isBerth { frames := 1, cells := 0, slots := 0, locals := 22 } 0 0 (w0) [.int a] (fun r w' => r = bI (inB a 0 2) ∧ w' = w0) := by
  refine vl_openi hl0 (by decide) rfl (Nat.le_of_ble_eq_true rfl) rfl ?_
  intro p e s m args below meth c C0 hr hnm
  generalize hA : va_A (w0) s.heap.size = A at C0 ⊢
  refine vl_lv (lv2 := [(0, .int a)]) [0] rfl ?_
  refine vl_iload_n C0 dX4_isBerth_0 0 rfl ?_
  refine vl_iconst (v := 0) C0 dX4_isBerth_1 (by decide) ?_
  refine vl_iconst (v := 2) C0 dX4_isBerth_2 (by decide) ?_
  refine vl_calli C0 (vl_goS C0 (As := [.int a, .int 0, .int 2]) (na := 3) (st := []) gX4_isBerth_X4_isIn rfl rfl rfl (by decide +kernel) ⟨Nat.le_of_ble_eq_true rfl, Nat.le_of_ble_eq_true rfl⟩ dX4_isBerth_3 (Nat.le_of_ble_eq_true rfl) ⟨Nat.le_of_ble_eq_true rfl, Nat.le_of_ble_eq_true rfl⟩ rfl rfl) (c_X4_isIn hl0 a 0 2) (k2 := 0) (n2 := 0) (Nat.le_of_ble_eq_true rfl) (Nat.le_of_ble_eq_true rfl) (fun r9 w9 hp9 => ?_)
  obtain ⟨rfl, rfl⟩ := hp9
  exact vl_zret C0 hA.symm hr (nb_bI _) ⟨rfl, rfl⟩ (Nat.le_of_ble_eq_true rfl) (Nat.le_of_ble_eq_true rfl) dX4_isBerth_6
set_option maxHeartbeats 4000000 in
set_option maxRecDepth 100000 in
theorem c_X4_isShip {l : Launch} {D : va_G} {cy : Nat → ClassId} {ad : Nat → Nat} {mm : Nat → Nat → Int32} {X : va_W} (hl0 : l.stackTraces = false) (a : Int32) : vl_Ki l D cy yX4_isShip wsX4_isShip { frames := 1, cells := 0, slots := 0, locals := 22 } 0 0 (mw cy ad mm ++ X) [.ref (ad 0), .int a] (fun r w' => r = bI (inB a 0 (mm 0 0 - 1)) ∧ w' = mw cy ad mm ++ X) := by
  refine vl_openi hl0 (by decide) rfl (Nat.le_of_ble_eq_true rfl) rfl ?_
  intro p e s m args below meth c C0 hr hnm
  generalize hA : va_A (mw cy ad mm ++ X) s.heap.size = A at C0 ⊢
  refine vl_lv (lv2 := [(0, .ref (ad 0)), (1, .int a)]) [0, 1] rfl ?_
  have hin : ∀ x ∈ u_ws RX4 TX4 18, x ∈ wsX4_isShip := by decide +kernel
  refine vl_iload_n C0 dX4_isShip_0 1 rfl ?_
  refine vl_iconst (v := 0) C0 dX4_isShip_1 (by decide) ?_
  refine vl_aload_n C0 dX4_isShip_2 0 rfl ?_
  refine rm_get C0 hin 0 (by decide) (by decide +kernel) (v := .int (mm 0 0)) (rfl) dX4_isShip_3 ?_
  refine vl_iconst (v := 1) C0 dX4_isShip_6 (by decide) ?_
  refine vl_isub C0 dX4_isShip_7 ?_
  refine vl_calli C0 (vl_goS C0 (As := [.int a, .int 0, .int ((mm 0 0) - (1))]) (na := 3) (st := []) gX4_isShip_X4_isIn rfl rfl rfl (by decide +kernel) ⟨Nat.le_of_ble_eq_true rfl, Nat.le_of_ble_eq_true rfl⟩ dX4_isShip_8 (Nat.le_of_ble_eq_true rfl) ⟨Nat.le_of_ble_eq_true rfl, Nat.le_of_ble_eq_true rfl⟩ rfl rfl) (c_X4_isIn hl0 a 0 ((mm 0 0) - (1))) (k2 := 0) (n2 := 0) (Nat.le_of_ble_eq_true rfl) (Nat.le_of_ble_eq_true rfl) (fun r9 w9 hp9 => ?_)
  obtain ⟨rfl, rfl⟩ := hp9
  exact vl_zret C0 hA.symm hr (nb_bI _) ⟨rfl, rfl⟩ (Nat.le_of_ble_eq_true rfl) (Nat.le_of_ble_eq_true rfl) dX4_isShip_11
set_option maxHeartbeats 4000000 in
set_option maxRecDepth 100000 in
theorem c_X4_isLine {l : Launch} {D : va_G} {cy : Nat → ClassId} {ad : Nat → Nat} {mm : Nat → Nat → Int32} {X : va_W} (hl0 : l.stackTraces = false) (a : Int32) : vl_Ki l D cy yX4_isLine wsX4_isLine { frames := 1, cells := 0, slots := 0, locals := 22 } 0 0 (mw cy ad mm ++ X) [.ref (ad 0), .int a] (fun r w' => r = bI (inB a 0 (mm 0 7 - 1)) ∧ w' = mw cy ad mm ++ X) := by
  refine vl_openi hl0 (by decide) rfl (Nat.le_of_ble_eq_true rfl) rfl ?_
  intro p e s m args below meth c C0 hr hnm
  generalize hA : va_A (mw cy ad mm ++ X) s.heap.size = A at C0 ⊢
  refine vl_lv (lv2 := [(0, .ref (ad 0)), (1, .int a)]) [0, 1] rfl ?_
  have hin : ∀ x ∈ u_ws RX4 TX4 18, x ∈ wsX4_isLine := by decide +kernel
  refine vl_iload_n C0 dX4_isLine_0 1 rfl ?_
  refine vl_iconst (v := 0) C0 dX4_isLine_1 (by decide) ?_
  refine vl_aload_n C0 dX4_isLine_2 0 rfl ?_
  refine rm_get C0 hin 7 (by decide) (by decide +kernel) (v := .int (mm 0 7)) (rfl) dX4_isLine_3 ?_
  refine vl_iconst (v := 1) C0 dX4_isLine_6 (by decide) ?_
  refine vl_isub C0 dX4_isLine_7 ?_
  refine vl_calli C0 (vl_goS C0 (As := [.int a, .int 0, .int ((mm 0 7) - (1))]) (na := 3) (st := []) gX4_isLine_X4_isIn rfl rfl rfl (by decide +kernel) ⟨Nat.le_of_ble_eq_true rfl, Nat.le_of_ble_eq_true rfl⟩ dX4_isLine_8 (Nat.le_of_ble_eq_true rfl) ⟨Nat.le_of_ble_eq_true rfl, Nat.le_of_ble_eq_true rfl⟩ rfl rfl) (c_X4_isIn hl0 a 0 ((mm 0 7) - (1))) (k2 := 0) (n2 := 0) (Nat.le_of_ble_eq_true rfl) (Nat.le_of_ble_eq_true rfl) (fun r9 w9 hp9 => ?_)
  obtain ⟨rfl, rfl⟩ := hp9
  exact vl_zret C0 hA.symm hr (nb_bI _) ⟨rfl, rfl⟩ (Nat.le_of_ble_eq_true rfl) (Nat.le_of_ble_eq_true rfl) dX4_isLine_11
set_option maxHeartbeats 4000000 in
set_option maxRecDepth 100000 in
theorem c_X4_fails {l : Launch} {D : va_G} {cy : Nat → ClassId} {ad : Nat → Nat} {mm : Nat → Nat → Int32} {X : va_W} (hl0 : l.stackTraces = false) (a : Int32) : vl_Ki l D cy yX4_fails wsX4_fails { frames := 0, cells := 0, slots := 0, locals := 0 } 0 0 (mw cy ad mm ++ X) [.ref (ad 0), .int a] (fun r w' => r = bI (decide (0 < a)) ∧ w' = mw cy ad (up2 mm 0 17 a) ++ X) := by
  refine vl_openi hl0 (by decide) rfl (Nat.le_of_ble_eq_true rfl) rfl ?_
  intro p e s m args below meth c C0 hr hnm
  generalize hA : va_A (mw cy ad mm ++ X) s.heap.size = A at C0 ⊢
  refine vl_lv (lv2 := [(0, .ref (ad 0)), (1, .int a)]) [0, 1] rfl ?_
  have hin : ∀ x ∈ u_ws RX4 TX4 18, x ∈ wsX4_fails := by decide +kernel
  refine vl_aload_n C0 dX4_fails_0 0 rfl ?_
  refine vl_iload_n C0 dX4_fails_1 1 rfl ?_
  refine rm_put C0 hin 17 (by decide) (by decide +kernel) rfl rfl (mw_put17 _) dX4_fails_2 ?_
  refine vl_iload_n C0 dX4_fails_5 1 rfl ?_
  refine vl_if_le (tgt := 13) C0 dX4_fails_6 (by decide) (fun (h6 : (a : Int32) ≤ (0 : Int32)) => ?_) (fun (h6 : ¬ (a : Int32) ≤ (0 : Int32)) => ?_)
  · refine vl_iconst (v := 0) C0 dX4_fails_13 (by decide) ?_
    exact vl_zret C0 hA.symm hr rfl ⟨by simp [bI, ← Int32.not_le, h6], rfl⟩ (Nat.le_of_ble_eq_true rfl) (Nat.le_of_ble_eq_true rfl) dX4_fails_14
  · refine vl_iconst (v := 1) C0 dX4_fails_9 (by decide) ?_
    refine vl_goto (tgt := 14) C0 dX4_fails_10 (by decide) ?_
    exact vl_zret C0 hA.symm hr rfl ⟨by simp [bI, ← Int32.not_le, h6], rfl⟩ (Nat.le_of_ble_eq_true rfl) (Nat.le_of_ble_eq_true rfl) dX4_fails_14
set_option maxHeartbeats 4000000 in
set_option maxRecDepth 100000 in
theorem c_X4_thrown {l : Launch} {D : va_G} {cy : Nat → ClassId} {ad : Nat → Nat} {mm : Nat → Nat → Int32} {X : va_W} (hl0 : l.stackTraces = false)  : vl_Ki l D cy yX4_thrown wsX4_thrown { frames := 0, cells := 0, slots := 0, locals := 0 } 0 0 (mw cy ad mm ++ X) [.ref (ad 0)] (fun r w' => r = mm 0 17 ∧ w' = mw cy ad mm ++ X) := by
  refine vl_openi hl0 (by decide) rfl (Nat.le_of_ble_eq_true rfl) rfl ?_
  intro p e s m args below meth c C0 hr hnm
  generalize hA : va_A (mw cy ad mm ++ X) s.heap.size = A at C0 ⊢
  refine vl_lv (lv2 := [(0, .ref (ad 0))]) [0] rfl ?_
  have hin : ∀ x ∈ u_ws RX4 TX4 18, x ∈ wsX4_thrown := by decide +kernel
  refine vl_aload_n C0 dX4_thrown_0 0 rfl ?_
  refine rm_get C0 hin 17 (by decide) (by decide +kernel) (v := .int (mm 0 17)) (rfl) dX4_thrown_1 ?_
  exact vl_iret C0 hA.symm hr ⟨rfl, rfl⟩ (Nat.le_of_ble_eq_true rfl) (Nat.le_of_ble_eq_true rfl) dX4_thrown_4
end VM1
