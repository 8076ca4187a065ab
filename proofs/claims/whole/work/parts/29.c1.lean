section VC1
theorem inB_2 {v : Int32} : inB v 0 2 = true ↔ ¬ v < 0 ∧ ¬ 3 ≤ v := by
  simp only [inB, Bool.and_eq_true, decide_eq_true_eq, Int32.le_iff_toInt_le, Int32.lt_iff_toInt_lt]
  have h0 : (0 : Int32).toInt = 0 := by decide
  have h2 : (2 : Int32).toInt = 2 := by decide
  have h3 : (3 : Int32).toInt = 3 := by decide
  omega
theorem inB_29 {v : Int32} : inB v 0 29 = true ↔ ¬ v < 0 ∧ ¬ 30 ≤ v := by
  simp only [inB, Bool.and_eq_true, decide_eq_true_eq, Int32.le_iff_toInt_le, Int32.lt_iff_toInt_lt]
  have h0 : (0 : Int32).toInt = 0 := by decide
  have h2 : (29 : Int32).toInt = 29 := by decide
  have h3 : (30 : Int32).toInt = 30 := by decide
  omega
theorem bI_t {b : Bool} (h : b = true) : 1 = bI b := by rw [h]; rfl
theorem bI_f {b : Bool} (h : ¬ b = true) : 0 = bI b := by
  have : b = false := by simpa using h
  rw [this]; rfl
theorem tide_c {t : Nat} (ht : t < 30) : (if nI t &&& 3 = 3 then 1 else nI t &&& 3) = tideI t := (show ∀ t, t < 30 → (if nI t &&& 3 = 3 then 1 else nI t &&& 3) = tideI t by decide +kernel) t ht
set_option maxHeartbeats 4000000 in
set_option maxRecDepth 100000 in
theorem c_X3_isBerth {l : Launch} {D : va_G} {cy : Nat → ClassId} {w0 : va_W} (hl0 : l.stackTraces = false) (a : Int32) : vl_Ki l D cy yX3_isBerth wsX3_isBerth { frames := 0, cells := 0, slots := 0, locals := 0 } 0 0 (w0) [.int a] (fun r w' => r = bI (inB a 0 2) ∧ w' = w0) := by
  refine vl_openi hl0 (by decide) rfl (Nat.le_of_ble_eq_true rfl) rfl ?_
  intro p e s m args below meth c C0 hr hnm
  generalize hA : va_A (w0) s.heap.size = A at C0 ⊢
  refine vl_lv (lv2 := [(0, .int a)]) [0] rfl ?_
  refine vl_iload_n C0 dX3_isBerth_0 0 rfl ?_
  refine vl_if_lt (tgt := 13) C0 dX3_isBerth_1 (by decide) (fun (h1 : (a : Int32) < (0 : Int32)) => ?_) (fun (h1 : ¬ (a : Int32) < (0 : Int32)) => ?_)
  · refine vl_iconst (v := 0) C0 dX3_isBerth_13 (by decide) ?_
    exact vl_zret C0 hA.symm hr rfl ⟨bI_f (fun q => (inB_2.mp q).1 h1), rfl⟩ (Nat.le_of_ble_eq_true rfl) (Nat.le_of_ble_eq_true rfl) dX3_isBerth_14
  · refine vl_iload_n C0 dX3_isBerth_4 0 rfl ?_
    refine vl_iconst (v := 3) C0 dX3_isBerth_5 (by decide) ?_
    refine vl_icmp_ge (tgt := 13) C0 dX3_isBerth_6 (by decide) (fun (h6 : (3 : Int32) ≤ (a : Int32)) => ?_) (fun (h6 : ¬ (3 : Int32) ≤ (a : Int32)) => ?_)
    · refine vl_iconst (v := 0) C0 dX3_isBerth_13 (by decide) ?_
      exact vl_zret C0 hA.symm hr rfl ⟨bI_f (fun q => (inB_2.mp q).2 h6), rfl⟩ (Nat.le_of_ble_eq_true rfl) (Nat.le_of_ble_eq_true rfl) dX3_isBerth_14
    · refine vl_iconst (v := 1) C0 dX3_isBerth_9 (by decide) ?_
      refine vl_goto (tgt := 14) C0 dX3_isBerth_10 (by decide) ?_
      exact vl_zret C0 hA.symm hr rfl ⟨bI_t (inB_2.mpr ⟨h1, h6⟩), rfl⟩ (Nat.le_of_ble_eq_true rfl) (Nat.le_of_ble_eq_true rfl) dX3_isBerth_14
set_option maxHeartbeats 4000000 in
set_option maxRecDepth 100000 in
theorem c_X3_isTurn {l : Launch} {D : va_G} {cy : Nat → ClassId} {w0 : va_W} (hl0 : l.stackTraces = false) (a : Int32) : vl_Ki l D cy yX3_isTurn wsX3_isTurn { frames := 0, cells := 0, slots := 0, locals := 0 } 0 0 (w0) [.int a] (fun r w' => r = bI (inB a 0 29) ∧ w' = w0) := by
  refine vl_openi hl0 (by decide) rfl (Nat.le_of_ble_eq_true rfl) rfl ?_
  intro p e s m args below meth c C0 hr hnm
  generalize hA : va_A (w0) s.heap.size = A at C0 ⊢
  refine vl_lv (lv2 := [(0, .int a)]) [0] rfl ?_
  refine vl_iload_n C0 dX3_isTurn_0 0 rfl ?_
  refine vl_if_lt (tgt := 14) C0 dX3_isTurn_1 (by decide) (fun (h1 : (a : Int32) < (0 : Int32)) => ?_) (fun (h1 : ¬ (a : Int32) < (0 : Int32)) => ?_)
  · refine vl_iconst (v := 0) C0 dX3_isTurn_14 (by decide) ?_
    exact vl_zret C0 hA.symm hr rfl ⟨bI_f (fun q => (inB_29.mp q).1 h1), rfl⟩ (Nat.le_of_ble_eq_true rfl) (Nat.le_of_ble_eq_true rfl) dX3_isTurn_15
  · refine vl_iload_n C0 dX3_isTurn_4 0 rfl ?_
    refine vl_bipush (v := 30) C0 dX3_isTurn_5 (by decide) ?_
    refine vl_icmp_ge (tgt := 14) C0 dX3_isTurn_7 (by decide) (fun (h7 : (30 : Int32) ≤ (a : Int32)) => ?_) (fun (h7 : ¬ (30 : Int32) ≤ (a : Int32)) => ?_)
    · refine vl_iconst (v := 0) C0 dX3_isTurn_14 (by decide) ?_
      exact vl_zret C0 hA.symm hr rfl ⟨bI_f (fun q => (inB_29.mp q).2 h7), rfl⟩ (Nat.le_of_ble_eq_true rfl) (Nat.le_of_ble_eq_true rfl) dX3_isTurn_15
    · refine vl_iconst (v := 1) C0 dX3_isTurn_10 (by decide) ?_
      refine vl_goto (tgt := 15) C0 dX3_isTurn_11 (by decide) ?_
      exact vl_zret C0 hA.symm hr rfl ⟨bI_t (inB_29.mpr ⟨h1, h7⟩), rfl⟩ (Nat.le_of_ble_eq_true rfl) (Nat.le_of_ble_eq_true rfl) dX3_isTurn_15
set_option maxHeartbeats 4000000 in
set_option maxRecDepth 100000 in
theorem c_X0_tideOf {l : Launch} {D : va_G} {cy : Nat → ClassId} {w0 : va_W} (hl0 : l.stackTraces = false) (t : Nat) (ht : t < 30) : vl_Ki l D cy yX0_tideOf wsX0_tideOf { frames := 0, cells := 0, slots := 0, locals := 0 } 0 0 (w0) [.int (nI t)] (fun r w' => r = tideI t ∧ w' = w0) := by
  refine vl_openi hl0 (by decide) rfl (Nat.le_of_ble_eq_true rfl) rfl ?_
  intro p e s m args below meth c C0 hr hnm
  generalize hA : va_A (w0) s.heap.size = A at C0 ⊢
  refine vl_lv (lv2 := [(0, .int (nI t))]) [0] rfl ?_
  refine vl_iload_n C0 dX0_tideOf_0 0 rfl ?_
  refine vl_iconst (v := 3) C0 dX0_tideOf_1 (by decide) ?_
  refine vl_iand C0 dX0_tideOf_2 ?_
  refine vl_istore_n (lv' := [(0, .int (nI t)), (1, .int ((nI t) &&& (3)))]) C0 dX0_tideOf_3 [1, 0] (by decide) rfl ?_
  refine vl_iload_n C0 dX0_tideOf_4 1 rfl ?_
  refine vl_iconst (v := 3) C0 dX0_tideOf_5 (by decide) ?_
  refine vl_icmp_ne (tgt := 13) C0 dX0_tideOf_6 (by decide) (fun (h6 : ¬ ((nI t) &&& (3) : Int32) = (3 : Int32)) => ?_) (fun (h6 : ((nI t) &&& (3) : Int32) = (3 : Int32)) => ?_)
  · refine vl_iload_n C0 dX0_tideOf_13 1 rfl ?_
    exact vl_iret C0 hA.symm hr ⟨by rw [← tide_c ht, if_neg h6], rfl⟩ (Nat.le_of_ble_eq_true rfl) (Nat.le_of_ble_eq_true rfl) dX0_tideOf_14
  · refine vl_iconst (v := 1) C0 dX0_tideOf_9 (by decide) ?_
    refine vl_goto (tgt := 14) C0 dX0_tideOf_10 (by decide) ?_
    exact vl_iret C0 hA.symm hr ⟨by rw [← tide_c ht, if_pos h6], rfl⟩ (Nat.le_of_ble_eq_true rfl) (Nat.le_of_ble_eq_true rfl) dX0_tideOf_14
set_option maxHeartbeats 4000000 in
set_option maxRecDepth 100000 in
theorem c_X2_startAfresh {l : Launch} {D : va_G} {cy : Nat → ClassId} {ad : Nat → Nat → Nat} {nl ns : Nat} {par : Nat → Option Nat} {Rl : List (Nat × Nat)} {d : Nat → Nat → Nat → Int32} {X : va_W} (hl0 : l.stackTraces = false) (hok : cw_ok nl ns Rl) (j : Nat) (hj : j < ns) : vl_Kv l D cy yX2_startAfresh wsX2_startAfresh { frames := 0, cells := 0, slots := 0, locals := 0 } 0 0 (cw cy ad nl ns par Rl d ++ X) [.ref (ad 7 j)] (fun w' => w' = cw cy ad nl ns par Rl (up3 (up3 d 7 j 3 (-2)) 7 j 4 (d 7 j 2)) ++ X) := by
  refine vl_openv hl0 (by decide) rfl (Nat.le_of_ble_eq_true rfl) rfl ?_
  intro p e s m args below meth c C0 hr hnm
  generalize hA : va_A (cw cy ad nl ns par Rl d ++ X) s.heap.size = A at C0 ⊢
  refine vl_lv (lv2 := [(0, .ref (ad 7 j))]) [0] rfl ?_
  have hinX2 : ∀ x ∈ u_ws RX2 TX2 5, x ∈ wsX2_startAfresh := by decide +kernel
  refine vl_aload_n C0 dX2_startAfresh_0 0 rfl ?_
  refine vl_bipush (v := -2) C0 dX2_startAfresh_1 (by decide) ?_
  refine rc_put C0 (C := RX2) (T := TX2) (N := 5) (ci := 2) hinX2 tyX2 tyX2_ok nmX2 hok.1 (cR7 hok (by omega)) rfl rfl 3 (by decide) (by decide +kernel) rfl rfl (Nat.le_of_ble_eq_true rfl) rfl dX2_startAfresh_3 ?_
  refine vl_aload_n C0 dX2_startAfresh_6 0 rfl ?_
  refine vl_aload_n C0 dX2_startAfresh_7 0 rfl ?_
  refine rc_get C0 (C := RX2) (T := TX2) (N := 5) (ci := 2) hinX2 (cR7 hok (by omega)) rfl rfl 2 (by decide) (by decide +kernel) (v := .int (d 7 j 2)) (congrArg (fun z => some (Value.int z)) (by simp [up3, upd])) dX2_startAfresh_8 ?_
  refine rc_put C0 (C := RX2) (T := TX2) (N := 5) (ci := 2) hinX2 tyX2 tyX2_ok nmX2 hok.1 (cR7 hok (by omega)) rfl rfl 4 (by decide) (by decide +kernel) rfl rfl (Nat.le_of_ble_eq_true rfl) rfl dX2_startAfresh_11 ?_
  exact vl_vret C0 hA.symm hr rfl (Nat.le_of_ble_eq_true rfl) (Nat.le_of_ble_eq_true rfl) dX2_startAfresh_14
set_option maxHeartbeats 4000000 in
set_option maxRecDepth 100000 in
theorem c_X2_unload {l : Launch} {D : va_G} {cy : Nat → ClassId} {ad : Nat → Nat → Nat} {nl ns : Nat} {par : Nat → Option Nat} {Rl : List (Nat × Nat)} {d : Nat → Nat → Nat → Int32} {X : va_W} (hl0 : l.stackTraces = false) (hok : cw_ok nl ns Rl) (j : Nat) (hj : j < ns) (q : Int32) : vl_Ki l D cy yX2_unload wsX2_unload { frames := 1, cells := 0, slots := 0, locals := 21 } 0 0 (cw cy ad nl ns par Rl d ++ X) [.ref (ad 7 j), .int q] (fun r w' => r = (if d 7 j 4 < q then d 7 j 4 else q) ∧ w' = cw cy ad nl ns par Rl (up3 d 7 j 4 (d 7 j 4 - (if d 7 j 4 < q then d 7 j 4 else q))) ++ X) := by
  refine vl_openi hl0 (by decide) rfl (Nat.le_of_ble_eq_true rfl) rfl ?_
  intro p e s m args below meth c C0 hr hnm
  generalize hA : va_A (cw cy ad nl ns par Rl d ++ X) s.heap.size = A at C0 ⊢
  refine vl_lv (lv2 := [(0, .ref (ad 7 j)), (1, .int q)]) [0, 1] rfl ?_
  have hinX2 : ∀ x ∈ u_ws RX2 TX2 5, x ∈ wsX2_unload := by decide +kernel
  refine vl_iload_n C0 dX2_unload_0 1 rfl ?_
  refine vl_aload_n C0 dX2_unload_1 0 rfl ?_
  refine rc_get C0 (C := RX2) (T := TX2) (N := 5) (ci := 2) hinX2 (cR7 hok (by omega)) rfl rfl 4 (by decide) (by decide +kernel) (v := .int (d 7 j 4)) (rfl) dX2_unload_2 ?_
  refine vl_min C0 (by decide +kernel) (by decide +kernel) (by decide +kernel) (by decide +kernel) (Nat.le_of_ble_eq_true rfl) (Nat.le_of_ble_eq_true rfl) (Nat.le_of_ble_eq_true rfl) (Nat.le_of_ble_eq_true rfl) dX2_unload_5 ?_
  refine vl_istore_n (lv' := [(0, .ref (ad 7 j)), (1, .int q), (2, .int (if ((d 7 j 4) : Int32) < q then d 7 j 4 else q))]) C0 dX2_unload_8 [1, 2, 0] (by decide) rfl ?_
  refine vl_aload_n C0 dX2_unload_9 0 rfl ?_
  refine vl_dup C0 dX2_unload_10 rfl ?_
  refine rc_get C0 (C := RX2) (T := TX2) (N := 5) (ci := 2) hinX2 (cR7 hok (by omega)) rfl rfl 4 (by decide) (by decide +kernel) (v := .int (d 7 j 4)) (rfl) dX2_unload_11 ?_
  refine vl_iload_n C0 dX2_unload_14 2 rfl ?_
  refine vl_isub C0 dX2_unload_15 ?_
  refine rc_put C0 (C := RX2) (T := TX2) (N := 5) (ci := 2) hinX2 tyX2 tyX2_ok nmX2 hok.1 (cR7 hok (by omega)) rfl rfl 4 (by decide) (by decide +kernel) rfl rfl (Nat.le_of_ble_eq_true rfl) rfl dX2_unload_16 ?_
  refine vl_iload_n C0 dX2_unload_19 2 rfl ?_
  exact vl_iret C0 hA.symm hr ⟨rfl, rfl⟩ (Nat.le_of_ble_eq_true rfl) (Nat.le_of_ble_eq_true rfl) dX2_unload_20
set_option maxHeartbeats 4000000 in
set_option maxRecDepth 100000 in
theorem c_X1_hasOwn {l : Launch} {D : va_G} {cy : Nat → ClassId} {ad : Nat → Nat → Nat} {nl ns : Nat} {par : Nat → Option Nat} {Rl : List (Nat × Nat)} {d : Nat → Nat → Nat → Int32} {X : va_W} (hl0 : l.stackTraces = false) (hok : cw_ok nl ns Rl) (j : Nat) (hj : j < nl) (t : Int32) : vl_Ki l D cy yX1_hasOwn wsX1_hasOwn { frames := 0, cells := 0, slots := 0, locals := 0 } 0 0 (cw cy ad nl ns par Rl d ++ X) [.ref (ad 5 j), .int t] (fun r w' => r = bI (decide (¬ d 5 j 3 &&& 1 <<< (t &&& 31) = 0)) ∧ w' = cw cy ad nl ns par Rl d ++ X) := by
  refine vl_openi hl0 (by decide) rfl (Nat.le_of_ble_eq_true rfl) rfl ?_
  intro p e s m args below meth c C0 hr hnm
  generalize hA : va_A (cw cy ad nl ns par Rl d ++ X) s.heap.size = A at C0 ⊢
  refine vl_lv (lv2 := [(0, .ref (ad 5 j)), (1, .int t)]) [0, 1] rfl ?_
  have hinX1 : ∀ x ∈ u_ws RX1 TX1 6, x ∈ wsX1_hasOwn := by decide +kernel
  refine vl_aload_n C0 dX1_hasOwn_0 0 rfl ?_
  refine rc_get C0 (C := RX1) (T := TX1) (N := 6) (ci := 1) hinX1 (cR5 hok (by omega)) rfl rfl 3 (by decide) (by decide +kernel) (v := .int (d 5 j 3)) (rfl) dX1_hasOwn_1 ?_
  refine vl_iconst (v := 1) C0 dX1_hasOwn_4 (by decide) ?_
  refine vl_iload_n C0 dX1_hasOwn_5 1 rfl ?_
  refine vl_ishl C0 dX1_hasOwn_6 ?_
  refine vl_iand C0 dX1_hasOwn_7 ?_
  refine vl_if_eq (tgt := 15) C0 dX1_hasOwn_8 (by decide) (fun (h8 : ((d 5 j 3) &&& ((1) <<< ((t) &&& 31)) : Int32) = (0 : Int32)) => ?_) (fun (h8 : ¬ ((d 5 j 3) &&& ((1) <<< ((t) &&& 31)) : Int32) = (0 : Int32)) => ?_)
  · refine vl_iconst (v := 0) C0 dX1_hasOwn_15 (by decide) ?_
    exact vl_zret C0 hA.symm hr rfl ⟨by simp [bI, h8], rfl⟩ (Nat.le_of_ble_eq_true rfl) (Nat.le_of_ble_eq_true rfl) dX1_hasOwn_16
  · refine vl_iconst (v := 1) C0 dX1_hasOwn_11 (by decide) ?_
    refine vl_goto (tgt := 16) C0 dX1_hasOwn_12 (by decide) ?_
    exact vl_zret C0 hA.symm hr rfl ⟨by simp [bI, h8], rfl⟩ (Nat.le_of_ble_eq_true rfl) (Nat.le_of_ble_eq_true rfl) dX1_hasOwn_16
end VC1
