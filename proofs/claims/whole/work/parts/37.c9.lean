section VC9
theorem inB_20 {v : Int32} : inB v 0 20 = true ↔ ¬ v < 0 ∧ v ≤ 20 := by
  simp only [inB, Bool.and_eq_true, decide_eq_true_eq, Int32.not_lt]
theorem inB_100 {v : Int32} : inB v 0 100 = true ↔ ¬ v < 0 ∧ v ≤ 100 := by
  simp only [inB, Bool.and_eq_true, decide_eq_true_eq, Int32.not_lt]
set_option maxHeartbeats 4000000 in
set_option maxRecDepth 100000 in
theorem c_X3_failures {l : Launch} {D : va_G} {cy : Nat → ClassId} {ad : Nat → Nat → Nat} {nl ns : Nat} {par : Nat → Option Nat} {Rl : List (Nat × Nat)} {d : Nat → Nat → Nat → Int32} {X : va_W} {mm : Nat → Nat → Int32} (hl0 : l.stackTraces = false) (hok : cw_ok nl ns Rl) (h19 : 1 ≤ nl) (h9 : nl ≤ 9) (h8 : ns ≤ 8) (hln : rLn nl mm d) (hw : rWd ns mm d) (ht : mTree nl par mm) (hcode : ∀ j t, j < nl → t < 30 → codeOK ns (ordX (mm 11) par t (some j))) (hcg : ∀ q, q < ns → 0 ≤ mm 3 q) (hrt : ∀ b, b < 3 → 0 ≤ mm 4 b) (a : Int32) : vl_Xi l D cy yX3_failures wsX3_failures { frames := 7, cells := 1, slots := 6, locals := 122 } 1 6 (cw cy ad nl ns par Rl d ++ X) [.ref (ad 0 0), .int a] (fun r w' => inB a 0 (nI nl - 1) = true ∧ r = faV ns nl par mm a ∧ ∃ d', w' = cw cy ad nl ns par Rl d' ++ X ∧ dFr d d') (fun E => E = "java/lang/IndexOutOfBoundsException" ∧ inB a 0 (nI nl - 1) = false) := by
  refine vl_openXi hl0 (by decide) rfl (Nat.le_of_ble_eq_true rfl) rfl ?_
  intro p e s m args below meth c C0 hr hnm hex
  generalize hA : va_A (cw cy ad nl ns par Rl d ++ X) s.heap.size = A at C0 ⊢
  refine vl_lv (lv2 := [(0, .ref (ad 0 0)), (1, .int a)]) [0, 1] rfl ?_
  have hinX3 : ∀ x ∈ u_ws RX3 TX3 4, x ∈ wsX3_failures := by decide +kernel
  have hinX0 : ∀ x ∈ u_ws RX0 TX0 7, x ∈ wsX3_failures := by decide +kernel
  refine vl_aload_n C0 dX3_failures_0 0 rfl ?_
  refine vl_iload_n C0 dX3_failures_1 1 rfl ?_
  refine vl_xcallq C0 (vl_goVX C0 (As := [.int a]) (na := 1) (b := ad 0 0) (st := []) (ci := 3) gX3_failures_X3_lineNumbered rfl rfl rfl (by decide +kernel) ⟨Nat.le_of_ble_eq_true rfl, Nat.le_of_ble_eq_true rfl⟩ rfl (rc_rec (cR0 hok) rfl) dX3_failures_2 (Nat.le_of_ble_eq_true rfl) ⟨Nat.le_of_ble_eq_true rfl, Nat.le_of_ble_eq_true rfl⟩ rfl rfl) (c_X3_lineNumbered hl0 hok h19 h9 a) (k2 := 1) (n2 := 6) (Nat.le_of_ble_eq_true rfl) (Nat.le_of_ble_eq_true rfl) (fun E9 hE9 => vl_out C0 hA.symm hex (Nat.le_of_ble_eq_true rfl) (Nat.le_of_ble_eq_true rfl) hE9) (fun r9 w9 hp9 => ?_)
  obtain ⟨ja, hja, eja, rfl, rfl⟩ := hp9
  subst eja
  refine vl_st (st2 := [.ref (ad 5 ja)]) rfl ?_
  refine vl_astore_n (lv' := [(0, .ref (ad 0 0)), (1, .int (nI ja)), (2, .ref (ad 5 ja))]) C0 dX3_failures_5 [1, 2, 0] (by decide) rfl ?_
  refine vl_aload_n C0 dX3_failures_6 0 rfl ?_
  refine rc_get C0 (C := RX3) (T := TX3) (N := 4) (ci := 3) hinX3 (cR0 hok) rfl rfl 0 (by decide) (by decide +kernel) (v := .ref (ad 1 0)) (rfl) dX3_failures_7 ?_
  refine vl_aload_n C0 dX3_failures_10 2 rfl ?_
  refine vl_bipush (v := 29) C0 dX3_failures_11 (by decide) ?_
  refine vl_callv C0 (vl_goVN C0 (As := [.ref (ad 5 ja), .int 29]) (na := 2) (b := ad 1 0) (st := []) (ci := 0) gX3_failures_X0_play_n130 rfl rfl rfl (by decide +kernel) (by decide +kernel) (by decide +kernel) (by decide +kernel) (by decide +kernel) ⟨Nat.le_of_ble_eq_true rfl, Nat.le_of_ble_eq_true rfl⟩ rfl (rc_rec (cR1 hok) rfl) dX3_failures_13 (Nat.le_of_ble_eq_true rfl) ⟨Nat.le_of_ble_eq_true rfl, Nat.le_of_ble_eq_true rfl⟩ rfl rfl) (c_X0_play hl0 hok h8 ja 29 (mm := mm) hln hw ht h9 hja (by omega) (fun t9 h9t => hcode ja t9 hja h9t) hcg hrt) (k2 := 1) (n2 := 6) (Nat.le_of_ble_eq_true rfl) (Nat.le_of_ble_eq_true rfl) (fun w9 hp9 => ?_)
  obtain ⟨d1, rfl, hf1, hq1⟩ := hp9
  refine vl_aload_n C0 dX3_failures_16 0 rfl ?_
  refine rc_get C0 (C := RX3) (T := TX3) (N := 4) (ci := 3) hinX3 (cR0 hok) rfl rfl 0 (by decide) (by decide +kernel) (v := .ref (ad 1 0)) (rfl) dX3_failures_17 ?_
  refine rc_getN C0 (C := RX0) (T := TX0) (N := 7) (ci := 0) hinX0 (cR1 hok) rfl rfl 6 (by decide) (by decide +kernel) (v := .int ((plyM ns par mm ja 30).2.2.2)) (congrArg (fun z => some (Value.int z)) hq1.2.2.2) dX3_failures_20 ?_
  exact vl_iretX C0 hA.symm hr (have hm : inB (nI ja) 0 (nI nl - 1) = true := inB_of hja (show nl < 2 ^ 31 by omega); ⟨hm, by rw [faV, if_neg (by rw [hm]; decide), nI_clamp (show ja < 2 ^ 31 by omega)], d1, rfl, hf1⟩) (Nat.le_of_ble_eq_true rfl) (Nat.le_of_ble_eq_true rfl) dX3_failures_23
set_option maxHeartbeats 4000000 in
set_option maxRecDepth 100000 in
theorem c_X3_seen {l : Launch} {D : va_G} {cy : Nat → ClassId} {ad : Nat → Nat → Nat} {nl ns : Nat} {par : Nat → Option Nat} {Rl : List (Nat × Nat)} {d : Nat → Nat → Nat → Int32} {X : va_W} {mm : Nat → Nat → Int32} (hl0 : l.stackTraces = false) (hok : cw_ok nl ns Rl) (h19 : 1 ≤ nl) (h9 : nl ≤ 9) (hln : rLn nl mm d) (a : Int32) : vl_Xi l D cy yX3_seen wsX3_seen { frames := 7, cells := 1, slots := 6, locals := 112 } 1 6 (cw cy ad nl ns par Rl d ++ X) [.ref (ad 0 0), .int a] (fun r w' => inB a 0 (nI nl - 1) = true ∧ r = mm 10 a.toNatClampNeg ∧ w' = cw cy ad nl ns par Rl d ++ X) (fun E => E = "java/lang/IndexOutOfBoundsException" ∧ inB a 0 (nI nl - 1) = false) := by
  refine vl_openXi hl0 (by decide) rfl (Nat.le_of_ble_eq_true rfl) rfl ?_
  intro p e s m args below meth c C0 hr hnm hex
  generalize hA : va_A (cw cy ad nl ns par Rl d ++ X) s.heap.size = A at C0 ⊢
  refine vl_lv (lv2 := [(0, .ref (ad 0 0)), (1, .int a)]) [0, 1] rfl ?_
  have hinX1 : ∀ x ∈ u_ws RX1 TX1 6, x ∈ wsX3_seen := by decide +kernel
  refine vl_aload_n C0 dX3_seen_0 0 rfl ?_
  refine vl_iload_n C0 dX3_seen_1 1 rfl ?_
  refine vl_xcallq C0 (vl_goVX C0 (As := [.int a]) (na := 1) (b := ad 0 0) (st := []) (ci := 3) gX3_seen_X3_lineNumbered rfl rfl rfl (by decide +kernel) ⟨Nat.le_of_ble_eq_true rfl, Nat.le_of_ble_eq_true rfl⟩ rfl (rc_rec (cR0 hok) rfl) dX3_seen_2 (Nat.le_of_ble_eq_true rfl) ⟨Nat.le_of_ble_eq_true rfl, Nat.le_of_ble_eq_true rfl⟩ rfl rfl) (c_X3_lineNumbered hl0 hok h19 h9 a) (k2 := 1) (n2 := 6) (Nat.le_of_ble_eq_true rfl) (Nat.le_of_ble_eq_true rfl) (fun E9 hE9 => vl_out C0 hA.symm hex (Nat.le_of_ble_eq_true rfl) (Nat.le_of_ble_eq_true rfl) hE9) (fun r9 w9 hp9 => ?_)
  obtain ⟨ja, hja, eja, rfl, rfl⟩ := hp9
  subst eja
  refine vl_st (st2 := [.ref (ad 5 ja)]) rfl ?_
  refine rc_getN C0 (C := RX1) (T := TX1) (N := 6) (ci := 1) hinX1 (cR5 hok (by omega)) rfl rfl 5 (by decide) (by decide +kernel) (v := .int (mm 10 ja)) (congrArg (fun z => some (Value.int z)) (hln ja hja).2.2.2.1) dX3_seen_5 ?_
  exact vl_iretX C0 hA.symm hr ⟨inB_of hja (show nl < 2 ^ 31 by omega), by rw [nI_clamp (show ja < 2 ^ 31 by omega)], rfl⟩ (Nat.le_of_ble_eq_true rfl) (Nat.le_of_ble_eq_true rfl) dX3_seen_8
set_option maxHeartbeats 4000000 in
set_option maxRecDepth 100000 in
theorem c_X3_ahead {l : Launch} {D : va_G} {cy : Nat → ClassId} {ad : Nat → Nat → Nat} {nl ns : Nat} {par : Nat → Option Nat} {Rl : List (Nat × Nat)} {d : Nat → Nat → Nat → Int32} {X : va_W} {mm : Nat → Nat → Int32} (hl0 : l.stackTraces = false) (hok : cw_ok nl ns Rl) (h19 : 1 ≤ nl) (h9 : nl ≤ 9) (hln : rLn nl mm d) (a : Int32) : vl_Xi l D cy yX3_ahead wsX3_ahead { frames := 7, cells := 1, slots := 6, locals := 112 } 1 6 (cw cy ad nl ns par Rl d ++ X) [.ref (ad 0 0), .int a] (fun r w' => inB a 0 (nI nl - 1) = true ∧ r = aheadI mm a.toNatClampNeg ∧ w' = cw cy ad nl ns par Rl d ++ X) (fun E => E = "java/lang/IndexOutOfBoundsException" ∧ inB a 0 (nI nl - 1) = false) := by
  refine vl_openXi hl0 (by decide) rfl (Nat.le_of_ble_eq_true rfl) rfl ?_
  intro p e s m args below meth c C0 hr hnm hex
  generalize hA : va_A (cw cy ad nl ns par Rl d ++ X) s.heap.size = A at C0 ⊢
  refine vl_lv (lv2 := [(0, .ref (ad 0 0)), (1, .int a)]) [0, 1] rfl ?_
  have hinX1 : ∀ x ∈ u_ws RX1 TX1 6, x ∈ wsX3_ahead := by decide +kernel
  refine vl_aload_n C0 dX3_ahead_0 0 rfl ?_
  refine vl_iload_n C0 dX3_ahead_1 1 rfl ?_
  refine vl_xcallq C0 (vl_goVX C0 (As := [.int a]) (na := 1) (b := ad 0 0) (st := []) (ci := 3) gX3_ahead_X3_lineNumbered rfl rfl rfl (by decide +kernel) ⟨Nat.le_of_ble_eq_true rfl, Nat.le_of_ble_eq_true rfl⟩ rfl (rc_rec (cR0 hok) rfl) dX3_ahead_2 (Nat.le_of_ble_eq_true rfl) ⟨Nat.le_of_ble_eq_true rfl, Nat.le_of_ble_eq_true rfl⟩ rfl rfl) (c_X3_lineNumbered hl0 hok h19 h9 a) (k2 := 1) (n2 := 6) (Nat.le_of_ble_eq_true rfl) (Nat.le_of_ble_eq_true rfl) (fun E9 hE9 => vl_out C0 hA.symm hex (Nat.le_of_ble_eq_true rfl) (Nat.le_of_ble_eq_true rfl) hE9) (fun r9 w9 hp9 => ?_)
  obtain ⟨ja, hja, eja, rfl, rfl⟩ := hp9
  subst eja
  refine vl_st (st2 := [.ref (ad 5 ja)]) rfl ?_
  refine rc_getN C0 (C := RX1) (T := TX1) (N := 6) (ci := 1) hinX1 (cR5 hok (by omega)) rfl rfl 4 (by decide) (by decide +kernel) (v := .int (aheadI mm ja)) (congrArg (fun z => some (Value.int z)) (hln ja hja).2.2.1) dX3_ahead_5 ?_
  exact vl_iretX C0 hA.symm hr ⟨inB_of hja (show nl < 2 ^ 31 by omega), by rw [nI_clamp (show ja < 2 ^ 31 by omega)], rfl⟩ (Nat.le_of_ble_eq_true rfl) (Nat.le_of_ble_eq_true rfl) dX3_ahead_8
set_option maxHeartbeats 4000000 in
set_option maxRecDepth 100000 in
theorem c_X3_mark {l : Launch} {D : va_G} {cy : Nat → ClassId} {ad : Nat → Nat → Nat} {nl ns : Nat} {par : Nat → Option Nat} {Rl : List (Nat × Nat)} {d : Nat → Nat → Nat → Int32} {X : va_W} {mm : Nat → Nat → Int32} (hl0 : l.stackTraces = false) (hok : cw_ok nl ns Rl) (h19 : 1 ≤ nl) (h9 : nl ≤ 9) (h8 : ns ≤ 8) (hln : rLn nl mm d) (hw : rWd ns mm d) (ht : mTree nl par mm) (hcode : ∀ j t, j < nl → t < 30 → codeOK ns (ordX (mm 11) par t (some j))) (hcg : ∀ q, q < ns → 0 ≤ mm 3 q) (hrt : ∀ b, b < 3 → 0 ≤ mm 4 b) (h0a : aheadI mm 0 = 0) (a : Int32) : vl_Xi l D cy yX3_mark wsX3_mark { frames := 7, cells := 1, slots := 6, locals := 167 } 1 6 (cw cy ad nl ns par Rl d ++ X) [.ref (ad 0 0), .int a] (fun r w' => inB a 0 (nI nl - 1) = true ∧ r = maV ns nl par mm a ∧ ∃ d', w' = cw cy ad nl ns par Rl d' ++ X ∧ dFr d d') (fun E => E = "java/lang/IndexOutOfBoundsException" ∧ inB a 0 (nI nl - 1) = false) := by
  refine vl_openXi hl0 (by decide) rfl (Nat.le_of_ble_eq_true rfl) rfl ?_
  intro p e s m args below meth c C0 hr hnm hex
  generalize hA : va_A (cw cy ad nl ns par Rl d ++ X) s.heap.size = A at C0 ⊢
  refine vl_lv (lv2 := [(0, .ref (ad 0 0)), (1, .int a)]) [0, 1] rfl ?_
  have hinX3 : ∀ x ∈ u_ws RX3 TX3 4, x ∈ wsX3_mark := by decide +kernel
  refine vl_aload_n C0 dX3_mark_0 0 rfl ?_
  refine vl_iload_n C0 dX3_mark_1 1 rfl ?_
  refine vl_xcallq C0 (vl_goVX C0 (As := [.int a]) (na := 1) (b := ad 0 0) (st := []) (ci := 3) gX3_mark_X3_lineNumbered rfl rfl rfl (by decide +kernel) ⟨Nat.le_of_ble_eq_true rfl, Nat.le_of_ble_eq_true rfl⟩ rfl (rc_rec (cR0 hok) rfl) dX3_mark_2 (Nat.le_of_ble_eq_true rfl) ⟨Nat.le_of_ble_eq_true rfl, Nat.le_of_ble_eq_true rfl⟩ rfl rfl) (c_X3_lineNumbered hl0 hok h19 h9 a) (k2 := 1) (n2 := 6) (Nat.le_of_ble_eq_true rfl) (Nat.le_of_ble_eq_true rfl) (fun E9 hE9 => vl_out C0 hA.symm hex (Nat.le_of_ble_eq_true rfl) (Nat.le_of_ble_eq_true rfl) hE9) (fun r9 w9 hp9 => ?_)
  obtain ⟨ja, hja, eja, rfl, rfl⟩ := hp9
  subst eja
  refine vl_st (st2 := [.ref (ad 5 ja)]) rfl ?_
  refine vl_astore_n (lv' := [(0, .ref (ad 0 0)), (1, .int (nI ja)), (2, .ref (ad 5 ja))]) C0 dX3_mark_5 [1, 2, 0] (by decide) rfl ?_
  refine vl_aload_n C0 dX3_mark_6 0 rfl ?_
  refine vl_aload_n C0 dX3_mark_7 2 rfl ?_
  refine vl_aload_n C0 dX3_mark_8 0 rfl ?_
  refine vl_aload_n C0 dX3_mark_9 0 rfl ?_
  refine rc_get C0 (C := RX3) (T := TX3) (N := 4) (ci := 3) hinX3 (cR0 hok) rfl rfl 1 (by decide) (by decide +kernel) (v := .ref (ad 5 0)) (rfl) dX3_mark_10 ?_
  refine vl_bipush (v := 29) C0 dX3_mark_13 (by decide) ?_
  refine vl_calli C0 (vl_goV C0 (As := [.ref (ad 5 0), .int 29]) (na := 2) (b := ad 0 0) (st := [.ref (ad 5 ja), .ref (ad 0 0)]) (ci := 3) gX3_mark_X3_earningOf rfl rfl rfl (by decide +kernel) ⟨Nat.le_of_ble_eq_true rfl, Nat.le_of_ble_eq_true rfl⟩ rfl (rc_rec (cR0 hok) rfl) dX3_mark_15 (Nat.le_of_ble_eq_true rfl) ⟨Nat.le_of_ble_eq_true rfl, Nat.le_of_ble_eq_true rfl⟩ rfl rfl) (c_X3_earningOf hl0 hok h19 h9 h8 (mm := mm) hln hw ht hcode hcg hrt 0 29 (h19) (by omega)) (k2 := 1) (n2 := 6) (Nat.le_of_ble_eq_true rfl) (Nat.le_of_ble_eq_true rfl) (fun r9 w9 hp9 => ?_)
  obtain ⟨d1, rfl, hf1, rfl⟩ := hp9
  refine vl_calli C0 (vl_goV C0 (As := [.ref (ad 5 ja), .int ((plyM ns par mm 0 (29 + 1)).2.2.1)]) (na := 2) (b := ad 0 0) (st := []) (ci := 3) gX3_mark_X3_markAgainst rfl rfl rfl (by decide +kernel) ⟨Nat.le_of_ble_eq_true rfl, Nat.le_of_ble_eq_true rfl⟩ rfl (rc_rec (cR0 hok) rfl) dX3_mark_18 (Nat.le_of_ble_eq_true rfl) ⟨Nat.le_of_ble_eq_true rfl, Nat.le_of_ble_eq_true rfl⟩ rfl rfl) (c_X3_markAgainst hl0 hok h19 h9 h8 (mm := mm) (rLn_f hln hf1) (rWd_f hw hf1) ht hcode hcg hrt ja ((plyM ns par mm 0 (29 + 1)).2.2.1) (hja)) (k2 := 1) (n2 := 6) (Nat.le_of_ble_eq_true rfl) (Nat.le_of_ble_eq_true rfl) (fun r9 w9 hp9 => ?_)
  obtain ⟨d2, rfl, hf2, rfl⟩ := hp9
  exact vl_iretX C0 hA.symm hr (have hm : inB (nI ja) 0 (nI nl - 1) = true := inB_of hja (show nl < 2 ^ 31 by omega); ⟨hm, by rw [maV, if_neg (by rw [hm]; decide), nI_clamp (show ja < 2 ^ 31 by omega), ← mkA_V h0a], d2, rfl, hf1.tr hf2⟩) (Nat.le_of_ble_eq_true rfl) (Nat.le_of_ble_eq_true rfl) dX3_mark_21
set_option maxHeartbeats 4000000 in
set_option maxRecDepth 100000 in
theorem c_X3_orderOf {l : Launch} {D : va_G} {cy : Nat → ClassId} {ad : Nat → Nat → Nat} {nl ns : Nat} {par : Nat → Option Nat} {Rl : List (Nat × Nat)} {d : Nat → Nat → Nat → Int32} {X : va_W} {mm : Nat → Nat → Int32} (hl0 : l.stackTraces = false) (hok : cw_ok nl ns Rl) (h19 : 1 ≤ nl) (h9 : nl ≤ 9) (hln : rLn nl mm d) (ht : mTree nl par mm) (a t : Int32) : vl_Xi l D cy yX3_orderOf wsX3_orderOf { frames := 7, cells := 2, slots := 12, locals := 112 } 2 12 (cw cy ad nl ns par Rl d ++ X) [.ref (ad 0 0), .int a, .int t] (fun r w' => (inB a 0 (nI nl - 1) && inB t 0 29) = true ∧ r = ordX (mm 11) par t.toNatClampNeg (some a.toNatClampNeg) ∧ w' = cw cy ad nl ns par Rl d ++ X) (fun E => E = "java/lang/IndexOutOfBoundsException" ∧ (inB a 0 (nI nl - 1) && inB t 0 29) = false) := by
  refine vl_openXi hl0 (by decide) rfl (Nat.le_of_ble_eq_true rfl) rfl ?_
  intro p e s m args below meth c C0 hr hnm hex
  generalize hA : va_A (cw cy ad nl ns par Rl d ++ X) s.heap.size = A at C0 ⊢
  refine vl_lv (lv2 := [(0, .ref (ad 0 0)), (1, .int a), (2, .int t)]) [0, 1, 2] rfl ?_
  refine vl_aload_n C0 dX3_orderOf_0 0 rfl ?_
  refine vl_iload_n C0 dX3_orderOf_1 1 rfl ?_
  refine vl_xcallq C0 (vl_goVX C0 (As := [.int a]) (na := 1) (b := ad 0 0) (st := []) (ci := 3) gX3_orderOf_X3_lineNumbered rfl rfl rfl (by decide +kernel) ⟨Nat.le_of_ble_eq_true rfl, Nat.le_of_ble_eq_true rfl⟩ rfl (rc_rec (cR0 hok) rfl) dX3_orderOf_2 (Nat.le_of_ble_eq_true rfl) ⟨Nat.le_of_ble_eq_true rfl, Nat.le_of_ble_eq_true rfl⟩ rfl rfl) (c_X3_lineNumbered hl0 hok h19 h9 a) (k2 := 1) (n2 := 6) (Nat.le_of_ble_eq_true rfl) (Nat.le_of_ble_eq_true rfl) (fun E9 hE9 => vl_out C0 hA.symm hex (Nat.le_of_ble_eq_true rfl) (Nat.le_of_ble_eq_true rfl) ⟨hE9.1, by rw [hE9.2]; rfl⟩) (fun r9 w9 hp9 => ?_)
  obtain ⟨ja, hja, eja, rfl, rfl⟩ := hp9
  subst eja
  refine vl_st (st2 := [.ref (ad 5 ja)]) rfl ?_
  refine vl_astore_n (lv' := [(0, .ref (ad 0 0)), (1, .int (nI ja)), (2, .int t), (3, .ref (ad 5 ja))]) C0 dX3_orderOf_5 [1, 2, 3, 0] (by decide) rfl ?_
  refine vl_iload_n C0 dX3_orderOf_6 2 rfl ?_
  refine vl_xcallv C0 (vl_goSX C0 (As := [.int t]) (na := 1) (st := []) gX3_orderOf_X3_checkTurn rfl rfl rfl (by decide +kernel) ⟨Nat.le_of_ble_eq_true rfl, Nat.le_of_ble_eq_true rfl⟩ dX3_orderOf_7 (Nat.le_of_ble_eq_true rfl) ⟨Nat.le_of_ble_eq_true rfl, Nat.le_of_ble_eq_true rfl⟩ rfl rfl) (c_X3_checkTurn hl0 t) (k2 := 2) (n2 := 12) (Nat.le_of_ble_eq_true rfl) (Nat.le_of_ble_eq_true rfl) (fun E9 hE9 => vl_out C0 hA.symm hex (Nat.le_of_ble_eq_true rfl) (Nat.le_of_ble_eq_true rfl) ⟨hE9.1, by rw [hE9.2, Bool.and_false]⟩) (fun w9 hp9 => ?_)
  obtain ⟨gt, rfl⟩ := hp9
  obtain ⟨jt, hjt, ejt⟩ := inB_k gt (by decide) (n := 30) (by decide)
  subst ejt
  refine vl_aload_n C0 dX3_orderOf_10 3 rfl ?_
  refine vl_iload_n C0 dX3_orderOf_11 2 rfl ?_
  refine vl_calli C0 (vl_goVN C0 (As := [.int (nI jt)]) (na := 1) (b := ad 5 ja) (st := []) (ci := 1) gX3_orderOf_X1_orderFor_n116 rfl rfl rfl (by decide +kernel) (by decide +kernel) (by decide +kernel) (by decide +kernel) (by decide +kernel) ⟨Nat.le_of_ble_eq_true rfl, Nat.le_of_ble_eq_true rfl⟩ rfl (rc_rec (cR5 hok (by omega)) rfl) dX3_orderOf_12 (Nat.le_of_ble_eq_true rfl) ⟨Nat.le_of_ble_eq_true rfl, Nat.le_of_ble_eq_true rfl⟩ rfl rfl) (c_X1_orderFor hl0 hok ja jt (mm := mm) hln ht h9 (hja) (hjt)) (k2 := 2) (n2 := 12) (Nat.le_of_ble_eq_true rfl) (Nat.le_of_ble_eq_true rfl) (fun r9 w9 hp9 => ?_)
  obtain ⟨rfl, rfl⟩ := hp9
  exact vl_iretX C0 hA.symm hr ⟨(by rw [inB_of hja (show nl < 2 ^ 31 by omega), show inB (nI jt) 0 29 = true from (inB_of (n := 30) hjt (by decide))]; rfl), by rw [nI_clamp (show ja < 2 ^ 31 by omega), nI_clamp (show jt < 2 ^ 31 by omega)], rfl⟩ (Nat.le_of_ble_eq_true rfl) (Nat.le_of_ble_eq_true rfl) dX3_orderOf_15
set_option maxHeartbeats 4000000 in
set_option maxRecDepth 100000 in
theorem c_X3_takeAway {l : Launch} {D : va_G} {cy : Nat → ClassId} {ad : Nat → Nat → Nat} {nl ns : Nat} {par : Nat → Option Nat} {Rl : List (Nat × Nat)} {d : Nat → Nat → Nat → Int32} {X : va_W} {mm : Nat → Nat → Int32} (hl0 : l.stackTraces = false) (hok : cw_ok nl ns Rl) (h19 : 1 ≤ nl) (h9 : nl ≤ 9)  (a t : Int32) : vl_Xi l D cy yX3_takeAway wsX3_takeAway { frames := 7, cells := 2, slots := 12, locals := 112 } 2 12 (cw cy ad nl ns par Rl d ++ X) [.ref (ad 0 0), .int a, .int t] (fun r w' => (inB a 0 (nI nl - 1) && inB t 0 29) = true ∧ r = bI (decide (¬ d 5 a.toNatClampNeg 3 &&& 1 <<< (t &&& 31) = 0)) ∧ w' = cw cy ad nl ns par Rl (drpD d a.toNatClampNeg t.toNatClampNeg) ++ X) (fun E => E = "java/lang/IndexOutOfBoundsException" ∧ (inB a 0 (nI nl - 1) && inB t 0 29) = false) := by
  refine vl_openXi hl0 (by decide) rfl (Nat.le_of_ble_eq_true rfl) rfl ?_
  intro p e s m args below meth c C0 hr hnm hex
  generalize hA : va_A (cw cy ad nl ns par Rl d ++ X) s.heap.size = A at C0 ⊢
  refine vl_lv (lv2 := [(0, .ref (ad 0 0)), (1, .int a), (2, .int t)]) [0, 1, 2] rfl ?_
  refine vl_aload_n C0 dX3_takeAway_0 0 rfl ?_
  refine vl_iload_n C0 dX3_takeAway_1 1 rfl ?_
  refine vl_xcallq C0 (vl_goVX C0 (As := [.int a]) (na := 1) (b := ad 0 0) (st := []) (ci := 3) gX3_takeAway_X3_lineNumbered rfl rfl rfl (by decide +kernel) ⟨Nat.le_of_ble_eq_true rfl, Nat.le_of_ble_eq_true rfl⟩ rfl (rc_rec (cR0 hok) rfl) dX3_takeAway_2 (Nat.le_of_ble_eq_true rfl) ⟨Nat.le_of_ble_eq_true rfl, Nat.le_of_ble_eq_true rfl⟩ rfl rfl) (c_X3_lineNumbered hl0 hok h19 h9 a) (k2 := 1) (n2 := 6) (Nat.le_of_ble_eq_true rfl) (Nat.le_of_ble_eq_true rfl) (fun E9 hE9 => vl_out C0 hA.symm hex (Nat.le_of_ble_eq_true rfl) (Nat.le_of_ble_eq_true rfl) ⟨hE9.1, by rw [hE9.2]; rfl⟩) (fun r9 w9 hp9 => ?_)
  obtain ⟨ja, hja, eja, rfl, rfl⟩ := hp9
  subst eja
  refine vl_st (st2 := [.ref (ad 5 ja)]) rfl ?_
  refine vl_astore_n (lv' := [(0, .ref (ad 0 0)), (1, .int (nI ja)), (2, .int t), (3, .ref (ad 5 ja))]) C0 dX3_takeAway_5 [1, 2, 3, 0] (by decide) rfl ?_
  refine vl_iload_n C0 dX3_takeAway_6 2 rfl ?_
  refine vl_xcallv C0 (vl_goSX C0 (As := [.int t]) (na := 1) (st := []) gX3_takeAway_X3_checkTurn rfl rfl rfl (by decide +kernel) ⟨Nat.le_of_ble_eq_true rfl, Nat.le_of_ble_eq_true rfl⟩ dX3_takeAway_7 (Nat.le_of_ble_eq_true rfl) ⟨Nat.le_of_ble_eq_true rfl, Nat.le_of_ble_eq_true rfl⟩ rfl rfl) (c_X3_checkTurn hl0 t) (k2 := 2) (n2 := 12) (Nat.le_of_ble_eq_true rfl) (Nat.le_of_ble_eq_true rfl) (fun E9 hE9 => vl_out C0 hA.symm hex (Nat.le_of_ble_eq_true rfl) (Nat.le_of_ble_eq_true rfl) ⟨hE9.1, by rw [hE9.2, Bool.and_false]⟩) (fun w9 hp9 => ?_)
  obtain ⟨gt, rfl⟩ := hp9
  obtain ⟨jt, hjt, ejt⟩ := inB_k gt (by decide) (n := 30) (by decide)
  subst ejt
  refine vl_aload_n C0 dX3_takeAway_10 3 rfl ?_
  refine vl_iload_n C0 dX3_takeAway_11 2 rfl ?_
  refine vl_calli C0 (vl_goVN C0 (As := [.int (nI jt)]) (na := 1) (b := ad 5 ja) (st := []) (ci := 1) gX3_takeAway_X1_drop_n113 rfl rfl rfl (by decide +kernel) (by decide +kernel) (by decide +kernel) (by decide +kernel) (by decide +kernel) ⟨Nat.le_of_ble_eq_true rfl, Nat.le_of_ble_eq_true rfl⟩ rfl (rc_rec (cR5 hok (by omega)) rfl) dX3_takeAway_12 (Nat.le_of_ble_eq_true rfl) ⟨Nat.le_of_ble_eq_true rfl, Nat.le_of_ble_eq_true rfl⟩ rfl rfl) (c_X1_drop hl0 hok ja jt (hja)) (k2 := 2) (n2 := 12) (Nat.le_of_ble_eq_true rfl) (Nat.le_of_ble_eq_true rfl) (fun r9 w9 hp9 => ?_)
  obtain ⟨rfl, rfl⟩ := hp9
  exact vl_zretX C0 hA.symm hr (nb_bI _) ⟨(by rw [inB_of hja (show nl < 2 ^ 31 by omega), show inB (nI jt) 0 29 = true from (inB_of (n := 30) hjt (by decide))]; rfl), by rw [nI_clamp (show ja < 2 ^ 31 by omega)], by rw [nI_clamp (show ja < 2 ^ 31 by omega), nI_clamp (show jt < 2 ^ 31 by omega)]⟩ (Nat.le_of_ble_eq_true rfl) (Nat.le_of_ble_eq_true rfl) dX3_takeAway_15
set_option maxHeartbeats 4000000 in
set_option maxRecDepth 100000 in
theorem c_X3_look {l : Launch} {D : va_G} {cy : Nat → ClassId} {ad : Nat → Nat → Nat} {nl ns : Nat} {par : Nat → Option Nat} {Rl : List (Nat × Nat)} {d : Nat → Nat → Nat → Int32} {X : va_W} {mm : Nat → Nat → Int32} (hl0 : l.stackTraces = false) (hok : cw_ok nl ns Rl) (h19 : 1 ≤ nl) (h9 : nl ≤ 9) (h8 : ns ≤ 8) (hln : rLn nl mm d) (hw : rWd ns mm d) (ht : mTree nl par mm) (hcode : ∀ j t, j < nl → t < 30 → codeOK ns (ordX (mm 11) par t (some j))) (hcg : ∀ q, q < ns → 0 ≤ mm 3 q) (hrt : ∀ b, b < 3 → 0 ≤ mm 4 b) (a t : Int32) : vl_Xi l D cy yX3_look wsX3_look { frames := 7, cells := 2, slots := 12, locals := 144 } 2 12 (cw cy ad nl ns par Rl d ++ X) [.ref (ad 0 0), .int a, .int t] (fun r w' => (inB a 0 (nI nl - 1) && inB t 0 29) = true ∧ r = lkV ns nl par mm a t ∧ ∃ (ja jt : Nat) (d' : Nat → Nat → Nat → Int32), a = nI ja ∧ t = nI jt ∧ ja < nl ∧ w' = cw cy ad nl ns par Rl d' ++ X ∧ dFr (up3 d 5 ja 5 (if mm 10 ja < nI jt then nI jt else mm 10 ja)) d') (fun E => E = "java/lang/IndexOutOfBoundsException" ∧ (inB a 0 (nI nl - 1) && inB t 0 29) = false) := by
  refine vl_openXi hl0 (by decide) rfl (Nat.le_of_ble_eq_true rfl) rfl ?_
  intro p e s m args below meth c C0 hr hnm hex
  generalize hA : va_A (cw cy ad nl ns par Rl d ++ X) s.heap.size = A at C0 ⊢
  refine vl_lv (lv2 := [(0, .ref (ad 0 0)), (1, .int a), (2, .int t)]) [0, 1, 2] rfl ?_
  have hinX1 : ∀ x ∈ u_ws RX1 TX1 6, x ∈ wsX3_look := by decide +kernel
  refine vl_aload_n C0 dX3_look_0 0 rfl ?_
  refine vl_iload_n C0 dX3_look_1 1 rfl ?_
  refine vl_xcallq C0 (vl_goVX C0 (As := [.int a]) (na := 1) (b := ad 0 0) (st := []) (ci := 3) gX3_look_X3_lineNumbered rfl rfl rfl (by decide +kernel) ⟨Nat.le_of_ble_eq_true rfl, Nat.le_of_ble_eq_true rfl⟩ rfl (rc_rec (cR0 hok) rfl) dX3_look_2 (Nat.le_of_ble_eq_true rfl) ⟨Nat.le_of_ble_eq_true rfl, Nat.le_of_ble_eq_true rfl⟩ rfl rfl) (c_X3_lineNumbered hl0 hok h19 h9 a) (k2 := 1) (n2 := 6) (Nat.le_of_ble_eq_true rfl) (Nat.le_of_ble_eq_true rfl) (fun E9 hE9 => vl_out C0 hA.symm hex (Nat.le_of_ble_eq_true rfl) (Nat.le_of_ble_eq_true rfl) ⟨hE9.1, by rw [hE9.2]; rfl⟩) (fun r9 w9 hp9 => ?_)
  obtain ⟨ja, hja, eja, rfl, rfl⟩ := hp9
  subst eja
  refine vl_st (st2 := [.ref (ad 5 ja)]) rfl ?_
  refine vl_astore_n (lv' := [(0, .ref (ad 0 0)), (1, .int (nI ja)), (2, .int t), (3, .ref (ad 5 ja))]) C0 dX3_look_5 [1, 2, 3, 0] (by decide) rfl ?_
  refine vl_iload_n C0 dX3_look_6 2 rfl ?_
  refine vl_xcallv C0 (vl_goSX C0 (As := [.int t]) (na := 1) (st := []) gX3_look_X3_checkTurn rfl rfl rfl (by decide +kernel) ⟨Nat.le_of_ble_eq_true rfl, Nat.le_of_ble_eq_true rfl⟩ dX3_look_7 (Nat.le_of_ble_eq_true rfl) ⟨Nat.le_of_ble_eq_true rfl, Nat.le_of_ble_eq_true rfl⟩ rfl rfl) (c_X3_checkTurn hl0 t) (k2 := 2) (n2 := 12) (Nat.le_of_ble_eq_true rfl) (Nat.le_of_ble_eq_true rfl) (fun E9 hE9 => vl_out C0 hA.symm hex (Nat.le_of_ble_eq_true rfl) (Nat.le_of_ble_eq_true rfl) ⟨hE9.1, by rw [hE9.2, Bool.and_false]⟩) (fun w9 hp9 => ?_)
  obtain ⟨gt, rfl⟩ := hp9
  obtain ⟨jt, hjt, ejt⟩ := inB_k gt (by decide) (n := 30) (by decide)
  subst ejt
  refine vl_aload_n C0 dX3_look_10 3 rfl ?_
  refine vl_aload_n C0 dX3_look_11 3 rfl ?_
  refine rc_getN C0 (C := RX1) (T := TX1) (N := 6) (ci := 1) hinX1 (cR5 hok (by omega)) rfl rfl 5 (by decide) (by decide +kernel) (v := .int (mm 10 ja)) (congrArg (fun z => some (Value.int z)) (hln ja hja).2.2.2.1) dX3_look_12 ?_
  refine vl_iload_n C0 dX3_look_15 2 rfl ?_
  refine vl_max C0 (by decide +kernel) (by decide +kernel) (by decide +kernel) (by decide +kernel) (Nat.le_of_ble_eq_true rfl) (Nat.le_of_ble_eq_true rfl) (Nat.le_of_ble_eq_true rfl) (Nat.le_of_ble_eq_true rfl) dX3_look_16 ?_
  refine rc_putN C0 (C := RX1) (T := TX1) (N := 6) (ci := 1) hinX1 tyX1 tyX1_ok nmX1 hok.1 (cR5 hok (by omega)) rfl rfl 5 (by decide) (by decide +kernel) rfl rfl (Nat.le_of_ble_eq_true rfl) rfl dX3_look_19 ?_
  have hln2 := rLn_seen hln ja (if ((mm 10 ja) : Int32) < (nI jt) then nI jt else mm 10 ja)
  have hw2 := rWd_seen hw ja (if ((mm 10 ja) : Int32) < (nI jt) then nI jt else mm 10 ja)
  refine vl_aload_n C0 dX3_look_22 0 rfl ?_
  refine vl_aload_n C0 dX3_look_23 3 rfl ?_
  refine vl_iload_n C0 dX3_look_24 2 rfl ?_
  refine vl_calli C0 (vl_goV C0 (As := [.ref (ad 5 ja), .int (nI jt)]) (na := 2) (b := ad 0 0) (st := []) (ci := 3) gX3_look_X3_earningOf rfl rfl rfl (by decide +kernel) ⟨Nat.le_of_ble_eq_true rfl, Nat.le_of_ble_eq_true rfl⟩ rfl (rc_rec (cR0 hok) rfl) dX3_look_25 (Nat.le_of_ble_eq_true rfl) ⟨Nat.le_of_ble_eq_true rfl, Nat.le_of_ble_eq_true rfl⟩ rfl rfl) (c_X3_earningOf hl0 hok h19 h9 h8 (mm := up2 mm 10 ja (if ((mm 10 ja) : Int32) < (nI jt) then nI jt else mm 10 ja)) hln2 hw2 ht hcode hcg hrt ja jt (hja) (by omega)) (k2 := 2) (n2 := 12) (Nat.le_of_ble_eq_true rfl) (Nat.le_of_ble_eq_true rfl) (fun r9 w9 hp9 => ?_)
  obtain ⟨d2, rfl, hf2, hr2⟩ := hp9
  exact vl_iretX C0 hA.symm hr (have hm : (inB (nI ja) 0 (nI nl - 1) && inB (nI jt) 0 29) = true := (by rw [inB_of hja (show nl < 2 ^ 31 by omega), show inB (nI jt) 0 29 = true from (inB_of (n := 30) hjt (by decide))]; rfl); ⟨hm, by rw [lkV, if_neg (by rw [hm]; decide), nI_clamp (show ja < 2 ^ 31 by omega), nI_clamp (show jt < 2 ^ 31 by omega)]; exact hr2, ja, jt, d2, rfl, rfl, hja, rfl, hf2⟩) (Nat.le_of_ble_eq_true rfl) (Nat.le_of_ble_eq_true rfl) dX3_look_28
set_option maxHeartbeats 4000000 in
set_option maxRecDepth 100000 in
theorem c_X3_setRate {l : Launch} {D : va_G} {cy : Nat → ClassId} {ad : Nat → Nat → Nat} {nl ns : Nat} {par : Nat → Option Nat} {Rl : List (Nat × Nat)} {d : Nat → Nat → Nat → Int32} {X : va_W} {mm : Nat → Nat → Int32} (hl0 : l.stackTraces = false) (hok : cw_ok nl ns Rl)  (b t : Int32) : vl_Xi l D cy yX3_setRate wsX3_setRate { frames := 7, cells := 2, slots := 12, locals := 110 } 2 12 (cw cy ad nl ns par Rl d ++ X) [.ref (ad 0 0), .int b, .int t] (fun r w' => inB b 0 2 = true ∧ inB t 0 20 = true ∧ r = d 4 0 b.toNatClampNeg ∧ w' = cw cy ad nl ns par Rl (up3 d 4 0 b.toNatClampNeg t) ++ X) (fun E => (E = "java/lang/IndexOutOfBoundsException" ∧ inB b 0 2 = false) ∨ (E = "java/lang/IllegalArgumentException" ∧ inB b 0 2 = true ∧ inB t 0 20 = false)) := by
  refine vl_openXi hl0 (by decide) rfl (Nat.le_of_ble_eq_true rfl) rfl ?_
  intro p e s m args below meth c C0 hr hnm hex
  generalize hA : va_A (cw cy ad nl ns par Rl d ++ X) s.heap.size = A at C0 ⊢
  refine vl_lv (lv2 := [(0, .ref (ad 0 0)), (1, .int b), (2, .int t)]) [0, 1, 2] rfl ?_
  have hinX3 : ∀ x ∈ u_ws RX3 TX3 4, x ∈ wsX3_setRate := by decide +kernel
  have hinX0 : ∀ x ∈ u_ws RX0 TX0 7, x ∈ wsX3_setRate := by decide +kernel
  refine vl_iload_n C0 dX3_setRate_0 1 rfl ?_
  refine vl_xcallv C0 (vl_goSX C0 (As := [.int b]) (na := 1) (st := []) gX3_setRate_X3_checkBerth rfl rfl rfl (by decide +kernel) ⟨Nat.le_of_ble_eq_true rfl, Nat.le_of_ble_eq_true rfl⟩ dX3_setRate_1 (Nat.le_of_ble_eq_true rfl) ⟨Nat.le_of_ble_eq_true rfl, Nat.le_of_ble_eq_true rfl⟩ rfl rfl) (c_X3_checkBerth hl0 b) (k2 := 1) (n2 := 6) (Nat.le_of_ble_eq_true rfl) (Nat.le_of_ble_eq_true rfl) (fun E9 hE9 => vl_out C0 hA.symm hex (Nat.le_of_ble_eq_true rfl) (Nat.le_of_ble_eq_true rfl) (Or.inl hE9)) (fun w9 hp9 => ?_)
  obtain ⟨gb, rfl⟩ := hp9
  refine vl_iload_n C0 dX3_setRate_4 2 rfl ?_
  refine vl_if_lt (tgt := 14) C0 dX3_setRate_5 (by decide) (fun (h5 : (t : Int32) < (0 : Int32)) => ?_) (fun (h5 : ¬ (t : Int32) < (0 : Int32)) => ?_)
  · exact vl_throw (ic := 41) (is := 69) (text := "rate is out of range") (names := ["java/lang/RuntimeException", "java/lang/Exception"]) C0 hA.symm rfl (by decide +kernel) (by decide +kernel) (by decide +kernel) (by decide +kernel) (by decide +kernel) (by decide +kernel) (by decide +kernel) (by decide +kernel) hex dX3_setRate_14 dX3_setRate_17 dX3_setRate_18 dX3_setRate_20 dX3_setRate_23 (Nat.le_of_ble_eq_true rfl) (Nat.le_of_ble_eq_true rfl) (Nat.le_of_ble_eq_true rfl) (Nat.le_of_ble_eq_true rfl) (Nat.le_of_ble_eq_true rfl) (Nat.le_of_ble_eq_true rfl) (Or.inr ⟨rfl, gb, Bool.eq_false_iff.mpr (fun q => (inB_20.mp q).1 h5)⟩)
  · refine vl_iload_n C0 dX3_setRate_8 2 rfl ?_
    refine vl_bipush (v := 20) C0 dX3_setRate_9 (by decide) ?_
    refine vl_icmp_le (tgt := 24) C0 dX3_setRate_11 (by decide) (fun (h11 : (t : Int32) ≤ (20 : Int32)) => ?_) (fun (h11 : ¬ (t : Int32) ≤ (20 : Int32)) => ?_)
    · refine vl_aload_n C0 dX3_setRate_24 0 rfl ?_
      refine rc_get C0 (C := RX3) (T := TX3) (N := 4) (ci := 3) hinX3 (cR0 hok) rfl rfl 0 (by decide) (by decide +kernel) (v := .ref (ad 1 0)) (rfl) dX3_setRate_25 ?_
      refine rc_getN C0 (C := RX0) (T := TX0) (N := 7) (ci := 0) hinX0 (cR1 hok) rfl rfl 2 (by decide) (by decide +kernel) (v := .ref (ad 4 0)) (rfl) dX3_setRate_28 ?_
      refine vl_iload_n C0 dX3_setRate_31 1 rfl ?_
      refine rc_iald C0 (cR4 hok) rfl (inB_vp gb (by decide)) (kn := (b).toNatClampNeg) (rfl) (v := d 4 0 ((b).toNatClampNeg)) (rfl) dX3_setRate_32 ?_
      refine vl_istore_n (lv' := [(0, .ref (ad 0 0)), (1, .int b), (2, .int t), (3, .int (d 4 0 ((b).toNatClampNeg)))]) C0 dX3_setRate_33 [1, 2, 3, 0] (by decide) rfl ?_
      refine vl_aload_n C0 dX3_setRate_34 0 rfl ?_
      refine rc_get C0 (C := RX3) (T := TX3) (N := 4) (ci := 3) hinX3 (cR0 hok) rfl rfl 0 (by decide) (by decide +kernel) (v := .ref (ad 1 0)) (rfl) dX3_setRate_35 ?_
      refine rc_getN C0 (C := RX0) (T := TX0) (N := 7) (ci := 0) hinX0 (cR1 hok) rfl rfl 2 (by decide) (by decide +kernel) (v := .ref (ad 4 0)) (rfl) dX3_setRate_38 ?_
      refine vl_iload_n C0 dX3_setRate_41 1 rfl ?_
      refine vl_iload_n C0 dX3_setRate_42 2 rfl ?_
      refine rc_iast C0 hok.1 (cR4 hok) (fun _ => rfl) (inB_vp gb (by decide)) (kn := (b).toNatClampNeg) (rfl) dX3_setRate_43 ?_
      refine vl_iload_n C0 dX3_setRate_44 3 rfl ?_
      exact vl_iretX C0 hA.symm hr ⟨gb, inB_20.mpr ⟨h5, h11⟩, rfl, rfl⟩ (Nat.le_of_ble_eq_true rfl) (Nat.le_of_ble_eq_true rfl) dX3_setRate_45
    · exact vl_throw (ic := 41) (is := 69) (text := "rate is out of range") (names := ["java/lang/RuntimeException", "java/lang/Exception"]) C0 hA.symm rfl (by decide +kernel) (by decide +kernel) (by decide +kernel) (by decide +kernel) (by decide +kernel) (by decide +kernel) (by decide +kernel) (by decide +kernel) hex dX3_setRate_14 dX3_setRate_17 dX3_setRate_18 dX3_setRate_20 dX3_setRate_23 (Nat.le_of_ble_eq_true rfl) (Nat.le_of_ble_eq_true rfl) (Nat.le_of_ble_eq_true rfl) (Nat.le_of_ble_eq_true rfl) (Nat.le_of_ble_eq_true rfl) (Nat.le_of_ble_eq_true rfl) (Or.inr ⟨rfl, gb, Bool.eq_false_iff.mpr (fun q => h11 (inB_20.mp q).2)⟩)
set_option maxHeartbeats 4000000 in
set_option maxRecDepth 100000 in
theorem c_X3_setRules {l : Launch} {D : va_G} {cy : Nat → ClassId} {ad : Nat → Nat → Nat} {nl ns : Nat} {par : Nat → Option Nat} {Rl : List (Nat × Nat)} {d : Nat → Nat → Nat → Int32} {X : va_W} {mm : Nat → Nat → Int32} (hl0 : l.stackTraces = false) (hok : cw_ok nl ns Rl)  (a b : Int32) : vl_Xv l D cy yX3_setRules wsX3_setRules { frames := 6, cells := 1, slots := 6, locals := 90 } 1 6 (cw cy ad nl ns par Rl d ++ X) [.ref (ad 0 0), .int a, .int b] (fun w' => (inB a 0 100 && inB b 0 100) = true ∧ w' = cw cy ad nl ns par Rl (up3 (up3 d 1 0 3 a) 1 0 4 b) ++ X) (fun E => E = "java/lang/IllegalArgumentException" ∧ (inB a 0 100 && inB b 0 100) = false) := by
  refine vl_openXv hl0 (by decide) rfl (Nat.le_of_ble_eq_true rfl) rfl ?_
  intro p e s m args below meth c C0 hr hnm hex
  generalize hA : va_A (cw cy ad nl ns par Rl d ++ X) s.heap.size = A at C0 ⊢
  refine vl_lv (lv2 := [(0, .ref (ad 0 0)), (1, .int a), (2, .int b)]) [0, 1, 2] rfl ?_
  have hinX3 : ∀ x ∈ u_ws RX3 TX3 4, x ∈ wsX3_setRules := by decide +kernel
  have hinX0 : ∀ x ∈ u_ws RX0 TX0 7, x ∈ wsX3_setRules := by decide +kernel
  refine vl_iload_n C0 dX3_setRules_0 1 rfl ?_
  refine vl_if_lt (tgt := 10) C0 dX3_setRules_1 (by decide) (fun (h1 : (a : Int32) < (0 : Int32)) => ?_) (fun (h1 : ¬ (a : Int32) < (0 : Int32)) => ?_)
  · exact vl_throw (ic := 41) (is := 75) (text := "price is out of range") (names := ["java/lang/RuntimeException", "java/lang/Exception"]) C0 hA.symm rfl (by decide +kernel) (by decide +kernel) (by decide +kernel) (by decide +kernel) (by decide +kernel) (by decide +kernel) (by decide +kernel) (by decide +kernel) hex dX3_setRules_10 dX3_setRules_13 dX3_setRules_14 dX3_setRules_16 dX3_setRules_19 (Nat.le_of_ble_eq_true rfl) (Nat.le_of_ble_eq_true rfl) (Nat.le_of_ble_eq_true rfl) (Nat.le_of_ble_eq_true rfl) (Nat.le_of_ble_eq_true rfl) (Nat.le_of_ble_eq_true rfl) ⟨rfl, Bool.eq_false_iff.mpr (fun q => (inB_100.mp (Bool.and_eq_true_iff.mp q).1).1 h1)⟩
  · refine vl_iload_n C0 dX3_setRules_4 1 rfl ?_
    refine vl_bipush (v := 100) C0 dX3_setRules_5 (by decide) ?_
    refine vl_icmp_le (tgt := 20) C0 dX3_setRules_7 (by decide) (fun (h7 : (a : Int32) ≤ (100 : Int32)) => ?_) (fun (h7 : ¬ (a : Int32) ≤ (100 : Int32)) => ?_)
    · refine vl_iload_n C0 dX3_setRules_20 2 rfl ?_
      refine vl_if_lt (tgt := 30) C0 dX3_setRules_21 (by decide) (fun (h21 : (b : Int32) < (0 : Int32)) => ?_) (fun (h21 : ¬ (b : Int32) < (0 : Int32)) => ?_)
      · exact vl_throw (ic := 41) (is := 77) (text := "fee is out of range") (names := ["java/lang/RuntimeException", "java/lang/Exception"]) C0 hA.symm rfl (by decide +kernel) (by decide +kernel) (by decide +kernel) (by decide +kernel) (by decide +kernel) (by decide +kernel) (by decide +kernel) (by decide +kernel) hex dX3_setRules_30 dX3_setRules_33 dX3_setRules_34 dX3_setRules_36 dX3_setRules_39 (Nat.le_of_ble_eq_true rfl) (Nat.le_of_ble_eq_true rfl) (Nat.le_of_ble_eq_true rfl) (Nat.le_of_ble_eq_true rfl) (Nat.le_of_ble_eq_true rfl) (Nat.le_of_ble_eq_true rfl) ⟨rfl, Bool.eq_false_iff.mpr (fun q => (inB_100.mp (Bool.and_eq_true_iff.mp q).2).1 h21)⟩
      · refine vl_iload_n C0 dX3_setRules_24 2 rfl ?_
        refine vl_bipush (v := 100) C0 dX3_setRules_25 (by decide) ?_
        refine vl_icmp_le (tgt := 40) C0 dX3_setRules_27 (by decide) (fun (h27 : (b : Int32) ≤ (100 : Int32)) => ?_) (fun (h27 : ¬ (b : Int32) ≤ (100 : Int32)) => ?_)
        · refine vl_aload_n C0 dX3_setRules_40 0 rfl ?_
          refine rc_get C0 (C := RX3) (T := TX3) (N := 4) (ci := 3) hinX3 (cR0 hok) rfl rfl 0 (by decide) (by decide +kernel) (v := .ref (ad 1 0)) (rfl) dX3_setRules_41 ?_
          refine vl_iload_n C0 dX3_setRules_44 1 rfl ?_
          refine rc_putN C0 (C := RX0) (T := TX0) (N := 7) (ci := 0) hinX0 tyX0 tyX0_ok nmX0 hok.1 (cR1 hok) rfl rfl 3 (by decide) (by decide +kernel) rfl rfl (Nat.le_of_ble_eq_true rfl) rfl dX3_setRules_45 ?_
          refine vl_aload_n C0 dX3_setRules_48 0 rfl ?_
          refine rc_get C0 (C := RX3) (T := TX3) (N := 4) (ci := 3) hinX3 (cR0 hok) rfl rfl 0 (by decide) (by decide +kernel) (v := .ref (ad 1 0)) (rfl) dX3_setRules_49 ?_
          refine vl_iload_n C0 dX3_setRules_52 2 rfl ?_
          refine rc_putN C0 (C := RX0) (T := TX0) (N := 7) (ci := 0) hinX0 tyX0 tyX0_ok nmX0 hok.1 (cR1 hok) rfl rfl 4 (by decide) (by decide +kernel) rfl rfl (Nat.le_of_ble_eq_true rfl) rfl dX3_setRules_53 ?_
          exact vl_vretX C0 hA.symm hr ⟨Bool.and_eq_true_iff.mpr ⟨inB_100.mpr ⟨h1, h7⟩, inB_100.mpr ⟨h21, h27⟩⟩, rfl⟩ (Nat.le_of_ble_eq_true rfl) (Nat.le_of_ble_eq_true rfl) dX3_setRules_56
        · exact vl_throw (ic := 41) (is := 77) (text := "fee is out of range") (names := ["java/lang/RuntimeException", "java/lang/Exception"]) C0 hA.symm rfl (by decide +kernel) (by decide +kernel) (by decide +kernel) (by decide +kernel) (by decide +kernel) (by decide +kernel) (by decide +kernel) (by decide +kernel) hex dX3_setRules_30 dX3_setRules_33 dX3_setRules_34 dX3_setRules_36 dX3_setRules_39 (Nat.le_of_ble_eq_true rfl) (Nat.le_of_ble_eq_true rfl) (Nat.le_of_ble_eq_true rfl) (Nat.le_of_ble_eq_true rfl) (Nat.le_of_ble_eq_true rfl) (Nat.le_of_ble_eq_true rfl) ⟨rfl, Bool.eq_false_iff.mpr (fun q => h27 (inB_100.mp (Bool.and_eq_true_iff.mp q).2).2)⟩
    · exact vl_throw (ic := 41) (is := 75) (text := "price is out of range") (names := ["java/lang/RuntimeException", "java/lang/Exception"]) C0 hA.symm rfl (by decide +kernel) (by decide +kernel) (by decide +kernel) (by decide +kernel) (by decide +kernel) (by decide +kernel) (by decide +kernel) (by decide +kernel) hex dX3_setRules_10 dX3_setRules_13 dX3_setRules_14 dX3_setRules_16 dX3_setRules_19 (Nat.le_of_ble_eq_true rfl) (Nat.le_of_ble_eq_true rfl) (Nat.le_of_ble_eq_true rfl) (Nat.le_of_ble_eq_true rfl) (Nat.le_of_ble_eq_true rfl) (Nat.le_of_ble_eq_true rfl) ⟨rfl, Bool.eq_false_iff.mpr (fun q => h7 (inB_100.mp (Bool.and_eq_true_iff.mp q).1).2)⟩
end VC9
