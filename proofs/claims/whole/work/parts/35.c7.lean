section VC7
set_option maxHeartbeats 4000000 in
set_option maxRecDepth 100000 in
theorem c_X3_checkTurn {l : Launch} {D : va_G} {cy : Nat → ClassId} {w0 : va_W} (hl0 : l.stackTraces = false) (a : Int32) : vl_Xv l D cy yX3_checkTurn wsX3_checkTurn { frames := 6, cells := 1, slots := 6, locals := 90 } 1 6 (w0) [.int a] (fun w' => inB a 0 29 = true ∧ w' = w0) (fun E => E = "java/lang/IndexOutOfBoundsException" ∧ inB a 0 29 = false) := by
  refine vl_openXv hl0 (by decide) rfl (Nat.le_of_ble_eq_true rfl) rfl ?_
  intro p e s m args below meth c C0 hr hnm hex
  generalize hA : va_A (w0) s.heap.size = A at C0 ⊢
  refine vl_lv (lv2 := [(0, .int a)]) [0] rfl ?_
  refine vl_iload_n C0 dX3_checkTurn_0 0 rfl ?_
  refine vl_calli C0 (vl_goS C0 (As := [.int a]) (na := 1) (st := []) gX3_checkTurn_X3_isTurn rfl rfl rfl (by decide +kernel) ⟨Nat.le_of_ble_eq_true rfl, Nat.le_of_ble_eq_true rfl⟩ dX3_checkTurn_1 (Nat.le_of_ble_eq_true rfl) ⟨Nat.le_of_ble_eq_true rfl, Nat.le_of_ble_eq_true rfl⟩ rfl rfl) (c_X3_isTurn hl0 a) (k2 := 0) (n2 := 0) (Nat.le_of_ble_eq_true rfl) (Nat.le_of_ble_eq_true rfl) (fun r9 w9 hp9 => ?_)
  obtain ⟨rfl, rfl⟩ := hp9
  refine vl_if_ne (tgt := 17) C0 dX3_checkTurn_4 (by decide) (fun (h4 : ¬ (bI (inB a 0 29) : Int32) = (0 : Int32)) => ?_) (fun (h4 : (bI (inB a 0 29) : Int32) = (0 : Int32)) => ?_)
  · have g4 := bI_n.mp h4
    exact vl_vretX C0 hA.symm hr ⟨g4, rfl⟩ (Nat.le_of_ble_eq_true rfl) (Nat.le_of_ble_eq_true rfl) dX3_checkTurn_17
  · have g4 := bI_0.mp h4
    exact vl_throw (ic := 165) (is := 171) (text := "there is no such turn") (names := ["java/lang/RuntimeException", "java/lang/Exception"]) C0 hA.symm rfl (by decide +kernel) (by decide +kernel) (by decide +kernel) (by decide +kernel) (by decide +kernel) (by decide +kernel) (by decide +kernel) (by decide +kernel) hex dX3_checkTurn_7 dX3_checkTurn_10 dX3_checkTurn_11 dX3_checkTurn_13 dX3_checkTurn_16 (Nat.le_of_ble_eq_true rfl) (Nat.le_of_ble_eq_true rfl) (Nat.le_of_ble_eq_true rfl) (Nat.le_of_ble_eq_true rfl) (Nat.le_of_ble_eq_true rfl) (Nat.le_of_ble_eq_true rfl) ⟨rfl, g4⟩
set_option maxHeartbeats 4000000 in
set_option maxRecDepth 100000 in
theorem c_X3_checkBerth {l : Launch} {D : va_G} {cy : Nat → ClassId} {w0 : va_W} (hl0 : l.stackTraces = false) (a : Int32) : vl_Xv l D cy yX3_checkBerth wsX3_checkBerth { frames := 6, cells := 1, slots := 6, locals := 90 } 1 6 (w0) [.int a] (fun w' => inB a 0 2 = true ∧ w' = w0) (fun E => E = "java/lang/IndexOutOfBoundsException" ∧ inB a 0 2 = false) := by
  refine vl_openXv hl0 (by decide) rfl (Nat.le_of_ble_eq_true rfl) rfl ?_
  intro p e s m args below meth c C0 hr hnm hex
  generalize hA : va_A (w0) s.heap.size = A at C0 ⊢
  refine vl_lv (lv2 := [(0, .int a)]) [0] rfl ?_
  refine vl_iload_n C0 dX3_checkBerth_0 0 rfl ?_
  refine vl_calli C0 (vl_goS C0 (As := [.int a]) (na := 1) (st := []) gX3_checkBerth_X3_isBerth rfl rfl rfl (by decide +kernel) ⟨Nat.le_of_ble_eq_true rfl, Nat.le_of_ble_eq_true rfl⟩ dX3_checkBerth_1 (Nat.le_of_ble_eq_true rfl) ⟨Nat.le_of_ble_eq_true rfl, Nat.le_of_ble_eq_true rfl⟩ rfl rfl) (c_X3_isBerth hl0 a) (k2 := 0) (n2 := 0) (Nat.le_of_ble_eq_true rfl) (Nat.le_of_ble_eq_true rfl) (fun r9 w9 hp9 => ?_)
  obtain ⟨rfl, rfl⟩ := hp9
  refine vl_if_ne (tgt := 17) C0 dX3_checkBerth_4 (by decide) (fun (h4 : ¬ (bI (inB a 0 2) : Int32) = (0 : Int32)) => ?_) (fun (h4 : (bI (inB a 0 2) : Int32) = (0 : Int32)) => ?_)
  · have g4 := bI_n.mp h4
    exact vl_vretX C0 hA.symm hr ⟨g4, rfl⟩ (Nat.le_of_ble_eq_true rfl) (Nat.le_of_ble_eq_true rfl) dX3_checkBerth_17
  · have g4 := bI_0.mp h4
    exact vl_throw (ic := 165) (is := 176) (text := "there is no such berth") (names := ["java/lang/RuntimeException", "java/lang/Exception"]) C0 hA.symm rfl (by decide +kernel) (by decide +kernel) (by decide +kernel) (by decide +kernel) (by decide +kernel) (by decide +kernel) (by decide +kernel) (by decide +kernel) hex dX3_checkBerth_7 dX3_checkBerth_10 dX3_checkBerth_11 dX3_checkBerth_13 dX3_checkBerth_16 (Nat.le_of_ble_eq_true rfl) (Nat.le_of_ble_eq_true rfl) (Nat.le_of_ble_eq_true rfl) (Nat.le_of_ble_eq_true rfl) (Nat.le_of_ble_eq_true rfl) (Nat.le_of_ble_eq_true rfl) ⟨rfl, g4⟩
set_option maxHeartbeats 4000000 in
set_option maxRecDepth 100000 in
theorem c_X3_lineNumbered {l : Launch} {D : va_G} {cy : Nat → ClassId} {ad : Nat → Nat → Nat} {nl ns : Nat} {par : Nat → Option Nat} {Rl : List (Nat × Nat)} {d : Nat → Nat → Nat → Int32} {X : va_W} (hl0 : l.stackTraces = false) (hok : cw_ok nl ns Rl) (h19 : 1 ≤ nl) (h9 : nl ≤ 9) (k9 : Int32) : vl_Xq l D cy yX3_lineNumbered wsX3_lineNumbered { frames := 6, cells := 1, slots := 6, locals := 90 } 1 6 (cw cy ad nl ns par Rl d ++ X) [.ref (ad 0 0), .int k9] (fun r w' => ∃ j : Nat, j < nl ∧ k9 = nI j ∧ r = some (ad 5 j) ∧ w' = cw cy ad nl ns par Rl d ++ X) (fun E => E = "java/lang/IndexOutOfBoundsException" ∧ inB k9 0 (nI nl - 1) = false) := by
  refine vl_openXq hl0 (by decide) rfl (Nat.le_of_ble_eq_true rfl) rfl ?_
  intro p e s m args below meth c C0 hr hnm hex
  generalize hA : va_A (cw cy ad nl ns par Rl d ++ X) s.heap.size = A at C0 ⊢
  refine vl_lv (lv2 := [(0, .ref (ad 0 0)), (1, .int k9)]) [0, 1] rfl ?_
  have hinX3 : ∀ x ∈ u_ws RX3 TX3 4, x ∈ wsX3_lineNumbered := by decide +kernel
  refine vl_iload_n C0 dX3_lineNumbered_0 1 rfl ?_
  refine vl_if_lt (tgt := 22) C0 dX3_lineNumbered_1 (by decide) (fun (h1 : (k9 : Int32) < (0 : Int32)) => ?_) (fun (h1 : ¬ (k9 : Int32) < (0 : Int32)) => ?_)
  · refine vl_null C0 dX3_lineNumbered_22 ?_
    refine vl_astore_nN (lv' := [(0, .ref (ad 0 0)), (1, .int k9), (2, .null)]) C0 dX3_lineNumbered_23 [1, 2, 0] (by decide) rfl ?_
    refine vl_aload_nN C0 dX3_lineNumbered_24 2 rfl ?_
    refine vl_ifnonnullN C0 dX3_lineNumbered_25 ?_
    exact vl_throw (ic := 165) (is := 163) (text := "there is no such line") (names := ["java/lang/RuntimeException", "java/lang/Exception"]) C0 hA.symm rfl (by decide +kernel) (by decide +kernel) (by decide +kernel) (by decide +kernel) (by decide +kernel) (by decide +kernel) (by decide +kernel) (by decide +kernel) hex dX3_lineNumbered_28 dX3_lineNumbered_31 dX3_lineNumbered_32 dX3_lineNumbered_34 dX3_lineNumbered_37 (Nat.le_of_ble_eq_true rfl) (Nat.le_of_ble_eq_true rfl) (Nat.le_of_ble_eq_true rfl) (Nat.le_of_ble_eq_true rfl) (Nat.le_of_ble_eq_true rfl) (Nat.le_of_ble_eq_true rfl) ⟨rfl, Bool.eq_false_iff.mpr (fun q => Int32.not_le.mpr h1 (inB_t q).1)⟩
  · refine vl_iload_n C0 dX3_lineNumbered_4 1 rfl ?_
    refine vl_aload_n C0 dX3_lineNumbered_5 0 rfl ?_
    refine rc_get C0 (C := RX3) (T := TX3) (N := 4) (ci := 3) hinX3 (cR0 hok) rfl rfl 2 (by decide) (by decide +kernel) (v := .ref (ad 2 0)) (rfl) dX3_lineNumbered_6 ?_
    refine rc_alen C0 2 (cR2 hok) rfl rfl (v := 9) rfl dX3_lineNumbered_9 ?_
    refine vl_icmp_ge (tgt := 22) C0 dX3_lineNumbered_10 (by decide) (fun (h10 : (9 : Int32) ≤ (k9 : Int32)) => ?_) (fun (h10 : ¬ (9 : Int32) ≤ (k9 : Int32)) => ?_)
    · refine vl_null C0 dX3_lineNumbered_22 ?_
      refine vl_astore_nN (lv' := [(0, .ref (ad 0 0)), (1, .int k9), (2, .null)]) C0 dX3_lineNumbered_23 [1, 2, 0] (by decide) rfl ?_
      refine vl_aload_nN C0 dX3_lineNumbered_24 2 rfl ?_
      refine vl_ifnonnullN C0 dX3_lineNumbered_25 ?_
      exact vl_throw (ic := 165) (is := 163) (text := "there is no such line") (names := ["java/lang/RuntimeException", "java/lang/Exception"]) C0 hA.symm rfl (by decide +kernel) (by decide +kernel) (by decide +kernel) (by decide +kernel) (by decide +kernel) (by decide +kernel) (by decide +kernel) (by decide +kernel) hex dX3_lineNumbered_28 dX3_lineNumbered_31 dX3_lineNumbered_32 dX3_lineNumbered_34 dX3_lineNumbered_37 (Nat.le_of_ble_eq_true rfl) (Nat.le_of_ble_eq_true rfl) (Nat.le_of_ble_eq_true rfl) (Nat.le_of_ble_eq_true rfl) (Nat.le_of_ble_eq_true rfl) (Nat.le_of_ble_eq_true rfl) ⟨rfl, Bool.eq_false_iff.mpr (fun q => by obtain ⟨j, hj, e⟩ := inB_nI h19 (by omega) q; subst e; exact nI_ge (show j < 9 by omega) (by decide) h10)⟩
    · refine vl_aload_n C0 dX3_lineNumbered_13 0 rfl ?_
      refine rc_get C0 (C := RX3) (T := TX3) (N := 4) (ci := 3) hinX3 (cR0 hok) rfl rfl 2 (by decide) (by decide +kernel) (v := .ref (ad 2 0)) (rfl) dX3_lineNumbered_14 ?_
      refine vl_iload_n C0 dX3_lineNumbered_17 1 rfl ?_
      obtain ⟨k, hk8, hk9⟩ : ∃ k : Nat, k < 9 ∧ k9 = nI k := vp_in_of (vp_in_9 h1 h10) (by decide)
      subst hk9
      by_cases hks : k < nl
      · skip
        refine rc_aldL C0 (cR2 hok) (vp_in_nI hk8 (by decide)) (kn := k) (nI_clamp (by omega)) (v := .ref (ad 5 k)) (by rw [if_pos hks]; rfl) dX3_lineNumbered_18 ?_
        refine vl_goto (tgt := 23) C0 dX3_lineNumbered_19 (by decide) ?_
        refine vl_astore_n (lv' := [(0, .ref (ad 0 0)), (1, .int (nI k)), (2, .ref (ad 5 k))]) C0 dX3_lineNumbered_23 [1, 2, 0] (by decide) rfl ?_
        refine vl_aload_n C0 dX3_lineNumbered_24 2 rfl ?_
        refine vl_ifnonnull (tgt := 38) C0 dX3_lineNumbered_25 (by decide) ?_
        refine vl_aload_n C0 dX3_lineNumbered_38 2 rfl ?_
        exact vl_aretX C0 hA.symm (r := some (ad 5 k)) hr ⟨k, hks, rfl, rfl, rfl⟩ (Nat.le_of_ble_eq_true rfl) (Nat.le_of_ble_eq_true rfl) dX3_lineNumbered_39
      · skip
        refine rc_aldL C0 (cR2 hok) (vp_in_nI hk8 (by decide)) (kn := k) (nI_clamp (by omega)) (v := .null) (by rw [if_neg hks]; rfl) dX3_lineNumbered_18 ?_
        refine vl_goto (tgt := 23) C0 dX3_lineNumbered_19 (by decide) ?_
        refine vl_astore_nN (lv' := [(0, .ref (ad 0 0)), (1, .int (nI k)), (2, .null)]) C0 dX3_lineNumbered_23 [1, 2, 0] (by decide) rfl ?_
        refine vl_aload_nN C0 dX3_lineNumbered_24 2 rfl ?_
        refine vl_ifnonnullN C0 dX3_lineNumbered_25 ?_
        exact vl_throw (ic := 165) (is := 163) (text := "there is no such line") (names := ["java/lang/RuntimeException", "java/lang/Exception"]) C0 hA.symm rfl (by decide +kernel) (by decide +kernel) (by decide +kernel) (by decide +kernel) (by decide +kernel) (by decide +kernel) (by decide +kernel) (by decide +kernel) hex dX3_lineNumbered_28 dX3_lineNumbered_31 dX3_lineNumbered_32 dX3_lineNumbered_34 dX3_lineNumbered_37 (Nat.le_of_ble_eq_true rfl) (Nat.le_of_ble_eq_true rfl) (Nat.le_of_ble_eq_true rfl) (Nat.le_of_ble_eq_true rfl) (Nat.le_of_ble_eq_true rfl) (Nat.le_of_ble_eq_true rfl) ⟨rfl, Bool.eq_false_iff.mpr (fun q => hks (by obtain ⟨j, hj, e⟩ := inB_nI h19 (by omega) q; rw [(nI_eq (by omega) (by omega)).mp e]; exact hj))⟩
set_option maxHeartbeats 4000000 in
set_option maxRecDepth 100000 in
theorem c_X3_shipNumbered {l : Launch} {D : va_G} {cy : Nat → ClassId} {ad : Nat → Nat → Nat} {nl ns : Nat} {par : Nat → Option Nat} {Rl : List (Nat × Nat)} {d : Nat → Nat → Nat → Int32} {X : va_W} (hl0 : l.stackTraces = false) (hok : cw_ok nl ns Rl) (h8 : ns ≤ 8) (k9 : Int32) : vl_Xq l D cy yX3_shipNumbered wsX3_shipNumbered { frames := 6, cells := 1, slots := 6, locals := 90 } 1 6 (cw cy ad nl ns par Rl d ++ X) [.ref (ad 0 0), .int k9] (fun r w' => ∃ j : Nat, j < ns ∧ k9 = nI j ∧ r = some (ad 7 j) ∧ w' = cw cy ad nl ns par Rl d ++ X) (fun E => E = "java/lang/IndexOutOfBoundsException" ∧ inB k9 0 (nI ns - 1) = false) := by
  refine vl_openXq hl0 (by decide) rfl (Nat.le_of_ble_eq_true rfl) rfl ?_
  intro p e s m args below meth c C0 hr hnm hex
  generalize hA : va_A (cw cy ad nl ns par Rl d ++ X) s.heap.size = A at C0 ⊢
  refine vl_lv (lv2 := [(0, .ref (ad 0 0)), (1, .int k9)]) [0, 1] rfl ?_
  have hinX3 : ∀ x ∈ u_ws RX3 TX3 4, x ∈ wsX3_shipNumbered := by decide +kernel
  refine vl_aload_n C0 dX3_shipNumbered_0 0 rfl ?_
  refine rc_get C0 (C := RX3) (T := TX3) (N := 4) (ci := 3) hinX3 (cR0 hok) rfl rfl 0 (by decide) (by decide +kernel) (v := .ref (ad 1 0)) (rfl) dX3_shipNumbered_1 ?_
  refine vl_iload_n C0 dX3_shipNumbered_4 1 rfl ?_
  refine vl_callq C0 (vl_goVN C0 (As := [.int k9]) (na := 1) (b := ad 1 0) (st := []) (ci := 0) gX3_shipNumbered_X0_shipOrNull_n166 rfl rfl rfl (by decide +kernel) (by decide +kernel) (by decide +kernel) (by decide +kernel) (by decide +kernel) ⟨Nat.le_of_ble_eq_true rfl, Nat.le_of_ble_eq_true rfl⟩ rfl (rc_rec (cR1 hok) rfl) dX3_shipNumbered_5 (Nat.le_of_ble_eq_true rfl) ⟨Nat.le_of_ble_eq_true rfl, Nat.le_of_ble_eq_true rfl⟩ rfl rfl) (c_X0_shipOrNull hl0 hok h8 k9) (k2 := 0) (n2 := 0) (Nat.le_of_ble_eq_true rfl) (Nat.le_of_ble_eq_true rfl) (fun r9 w9 hp9 => ?_)
  obtain ⟨rfl, rfl⟩ := hp9
  rcases hb9 : inB k9 0 (nI ns - 1) with _ | _
  · rw [if_neg (by decide)]
    refine vl_st (st2 := [.null]) rfl ?_
    refine vl_astore_nN (lv' := [(0, .ref (ad 0 0)), (1, .int k9), (2, .null)]) C0 dX3_shipNumbered_8 [1, 2, 0] (by decide) rfl ?_
    refine vl_aload_nN C0 dX3_shipNumbered_9 2 rfl ?_
    refine vl_ifnonnullN C0 dX3_shipNumbered_10 ?_
    exact vl_throw (ic := 165) (is := 169) (text := "there is no such ship") (names := ["java/lang/RuntimeException", "java/lang/Exception"]) C0 hA.symm rfl (by decide +kernel) (by decide +kernel) (by decide +kernel) (by decide +kernel) (by decide +kernel) (by decide +kernel) (by decide +kernel) (by decide +kernel) hex dX3_shipNumbered_13 dX3_shipNumbered_16 dX3_shipNumbered_17 dX3_shipNumbered_19 dX3_shipNumbered_22 (Nat.le_of_ble_eq_true rfl) (Nat.le_of_ble_eq_true rfl) (Nat.le_of_ble_eq_true rfl) (Nat.le_of_ble_eq_true rfl) (Nat.le_of_ble_eq_true rfl) (Nat.le_of_ble_eq_true rfl) ⟨rfl, rfl⟩
  · obtain ⟨k, hk, rfl⟩ := inB_nS h8 hb9
    rw [if_pos rfl, nI_clamp (by omega)]
    refine vl_st (st2 := [.ref (ad 7 k)]) rfl ?_
    refine vl_astore_n (lv' := [(0, .ref (ad 0 0)), (1, .int (nI k)), (2, .ref (ad 7 k))]) C0 dX3_shipNumbered_8 [1, 2, 0] (by decide) rfl ?_
    refine vl_aload_n C0 dX3_shipNumbered_9 2 rfl ?_
    refine vl_ifnonnull (tgt := 23) C0 dX3_shipNumbered_10 (by decide) ?_
    refine vl_aload_n C0 dX3_shipNumbered_23 2 rfl ?_
    exact vl_aretX C0 hA.symm (r := some (ad 7 k)) hr ⟨k, hk, rfl, rfl, rfl⟩ (Nat.le_of_ble_eq_true rfl) (Nat.le_of_ble_eq_true rfl) dX3_shipNumbered_24
set_option maxHeartbeats 4000000 in
set_option maxRecDepth 100000 in
theorem c_X3_codeOf {l : Launch} {D : va_G} {cy : Nat → ClassId} {w0 : va_W} (hl0 : l.stackTraces = false) (a b c0 : Int32) : vl_Ki l D cy yX3_codeOf wsX3_codeOf { frames := 0, cells := 0, slots := 0, locals := 0 } 0 0 (w0) [.int a, .int b, .int c0] (fun r w' => r = codeI a b c0 ∧ w' = w0) := by
  refine vl_openi hl0 (by decide) rfl (Nat.le_of_ble_eq_true rfl) rfl ?_
  intro p e s m args below meth c C0 hr hnm
  generalize hA : va_A (w0) s.heap.size = A at C0 ⊢
  refine vl_lv (lv2 := [(0, .int a), (1, .int b), (2, .int c0)]) [0, 1, 2] rfl ?_
  refine vl_iload_n C0 dX3_codeOf_0 0 rfl ?_
  refine vl_if_ne (tgt := 6) C0 dX3_codeOf_1 (by decide) (fun (h1 : ¬ (a : Int32) = (0 : Int32)) => ?_) (fun (h1 : (a : Int32) = (0 : Int32)) => ?_)
  · refine vl_bipush (v := 100) C0 dX3_codeOf_6 (by decide) ?_
    refine vl_iload_n C0 dX3_codeOf_8 0 rfl ?_
    refine vl_imul C0 dX3_codeOf_9 ?_
    refine vl_bipush (v := 10) C0 dX3_codeOf_10 (by decide) ?_
    refine vl_iload_n C0 dX3_codeOf_12 1 rfl ?_
    refine vl_imul C0 dX3_codeOf_13 ?_
    refine vl_iadd C0 dX3_codeOf_14 ?_
    refine vl_iload_n C0 dX3_codeOf_15 0 rfl ?_
    refine vl_iconst (v := 1) C0 dX3_codeOf_16 (by decide) ?_
    refine vl_icmp_ne (tgt := 24) C0 dX3_codeOf_17 (by decide) (fun (h17 : ¬ (a : Int32) = (1 : Int32)) => ?_) (fun (h17 : (a : Int32) = (1 : Int32)) => ?_)
    · refine vl_iconst (v := 0) C0 dX3_codeOf_24 (by decide) ?_
      refine vl_iadd C0 dX3_codeOf_25 ?_
      exact vl_iret C0 hA.symm hr ⟨by rw [codeI, if_neg h1, if_neg h17], rfl⟩ (Nat.le_of_ble_eq_true rfl) (Nat.le_of_ble_eq_true rfl) dX3_codeOf_26
    · refine vl_iload_n C0 dX3_codeOf_20 2 rfl ?_
      refine vl_goto (tgt := 25) C0 dX3_codeOf_21 (by decide) ?_
      refine vl_iadd C0 dX3_codeOf_25 ?_
      exact vl_iret C0 hA.symm hr ⟨by rw [codeI, if_neg h1, if_pos h17], rfl⟩ (Nat.le_of_ble_eq_true rfl) (Nat.le_of_ble_eq_true rfl) dX3_codeOf_26
  · refine vl_iconst (v := 0) C0 dX3_codeOf_4 (by decide) ?_
    exact vl_iret C0 hA.symm hr ⟨by rw [h1]; rfl, rfl⟩ (Nat.le_of_ble_eq_true rfl) (Nat.le_of_ble_eq_true rfl) dX3_codeOf_5
end VC7
