section VL9
set_option maxHeartbeats 4000000 in
set_option maxRecDepth 100000 in
theorem c_L_setRate {l : Launch} {D : va_G} {cy : Nat → ClassId} {ad : Nat → Nat → Nat} {nl ns : Nat} {par : Nat → Option Nat} {Rl : List (Nat × Nat)} {d : Nat → Nat → Nat → Int32} {mm : Nat → Nat → Int32} {o : Nat} {f : Nat → Int64} {Z : va_W} (hl0 : l.stackTraces = false) (hok : cw_ok nl ns Rl)  (b t : Int32): vl_Xi l D cy yL_setRate wsL_setRate { frames := 8, cells := 2, slots := 12, locals := 133 } 2 12 (cw cy ad nl ns par Rl d ++ ((o, .inl (cy 4, 1, .inr (.inl f))) :: Z)) [.ref (ad 0 0), .int b, .int t, .ref o] (fun r w' => (r = 0 ∧ inB b 0 2 = true ∧ inB t 0 20 = true ∧  w' = cw cy ad nl ns par Rl (up3 d 4 0 b.toNatClampNeg t) ++ ((o, .inl (cy 4, 1, .inr (.inl (vp_updL f (0 : Int32).toNatClampNeg ((d 4 0 b.toNatClampNeg).toInt64))))) :: Z)) ∨ (r = 1 ∧ (inB b 0 2 = false) ∧ w' = cw cy ad nl ns par Rl d ++ ((o, .inl (cy 4, 1, .inr (.inl f))) :: Z)) ∨ (r = 2 ∧ (inB b 0 2 = true ∧ inB t 0 20 = false) ∧ w' = cw cy ad nl ns par Rl d ++ ((o, .inl (cy 4, 1, .inr (.inl f))) :: Z))) (fun _ => False) := by
  refine vl_openXiH hl0 (by decide) rfl (Nat.le_of_ble_eq_true rfl) ?_
  intro p e s m args below meth c C0 hr htb
  generalize hA : va_A (cw cy ad nl ns par Rl d ++ ((o, .inl (cy 4, 1, .inr (.inl f))) :: Z)) s.heap.size = A at C0 ⊢
  refine vl_lv (lv2 := [(0, .ref (ad 0 0)), (1, .int b), (2, .int t), (3, .ref o)]) [0, 1, 2, 3] rfl ?_
  refine vl_aload_n C0 dL_setRate_0 3 rfl ?_
  refine vl_iconst (v := 0) C0 dL_setRate_1 (by decide) ?_
  refine vl_aload_n C0 dL_setRate_2 0 rfl ?_
  refine vl_iload_n C0 dL_setRate_3 1 rfl ?_
  refine vl_iload_n C0 dL_setRate_4 2 rfl ?_
  refine vl_xcalli C0 (vl_goVX C0 (As := [.int b, .int t]) (na := 2) (b := ad 0 0) (st := [.int 0, .ref o]) (ci := 3) gL_setRate_X3_setRate rfl rfl rfl (by decide +kernel) ⟨Nat.le_of_ble_eq_true rfl, Nat.le_of_ble_eq_true rfl⟩ rfl (rc_rec (cR0 hok) rfl) dL_setRate_5 (Nat.le_of_ble_eq_true rfl) ⟨Nat.le_of_ble_eq_true rfl, Nat.le_of_ble_eq_true rfl⟩ rfl rfl) (c_X3_setRate hl0 hok b t (mm := mm)) (k2 := 2) (n2 := 12) (Nat.le_of_ble_eq_true rfl) (Nat.le_of_ble_eq_true rfl) (fun E9 hE9 => ?_) (fun r9 w9 hp9 => ?_)
  · rcases hE9 with ⟨hEc, hE9⟩ | ⟨hEc, hE9⟩
    · skip
      have hps : ∀ z ∈ ([] : List ExceptionTableEntry), covers z (5) = false ∨ (z.catchType ≠ 0 ∧ ∃ nm : String, Cond.classLink yL_setRate.cls z.catchType nm ∈ wsL_setRate ∧ (E9, nm) ∈ vl_nc) := by
        intro z hz
        simp at hz
      refine vl_catch C0 (name := "java/lang/IndexOutOfBoundsException") [] (⟨0, 10, 13, 21⟩ : ExceptionTableEntry) [(⟨0, 10, 17, 13⟩ : ExceptionTableEntry)] (htb.trans rfl) hps (by decide) (by decide) (by decide +kernel) hEc (by rw [hEc]; decide) (fun qx => ?_)
      refine vl_astore (lv' := [(0, .ref (ad 0 0)), (1, .int b), (2, .int t), (3, .ref o), (4, .ref qx)]) C0 dL_setRate_13 [1, 2, 3, 4, 0] (by decide) rfl ?_
      refine vl_iconst (v := 1) C0 dL_setRate_15 (by decide) ?_
      exact vl_iretX C0 hA.symm hr (Or.inr (Or.inl ⟨rfl, hE9, rfl⟩)) (Nat.le_of_ble_eq_true rfl) (Nat.le_of_ble_eq_true rfl) dL_setRate_16
    · skip
      have hps : ∀ z ∈ ([(⟨0, 10, 13, 21⟩ : ExceptionTableEntry)] : List ExceptionTableEntry), covers z (5) = false ∨ (z.catchType ≠ 0 ∧ ∃ nm : String, Cond.classLink yL_setRate.cls z.catchType nm ∈ wsL_setRate ∧ (E9, nm) ∈ vl_nc) := by
        intro z hz
        simp only [List.mem_cons, List.mem_nil_iff, or_false] at hz
        subst hz
        exact Or.inr ⟨by decide, "java/lang/IndexOutOfBoundsException", (show Cond.classLink RL 21 "java/lang/IndexOutOfBoundsException" ∈ _ by decide +kernel), by rw [hEc]; decide⟩
      refine vl_catch C0 (name := "java/lang/IllegalArgumentException") [(⟨0, 10, 13, 21⟩ : ExceptionTableEntry)] (⟨0, 10, 17, 13⟩ : ExceptionTableEntry) [] (htb.trans rfl) hps (by decide) (by decide) (by decide +kernel) hEc (by rw [hEc]; decide) (fun qx => ?_)
      refine vl_astore (lv' := [(0, .ref (ad 0 0)), (1, .int b), (2, .int t), (3, .ref o), (4, .ref qx)]) C0 dL_setRate_17 [1, 2, 3, 4, 0] (by decide) rfl ?_
      refine vl_iconst (v := 2) C0 dL_setRate_19 (by decide) ?_
      exact vl_iretX C0 hA.symm hr (Or.inr (Or.inr (⟨rfl, hE9, rfl⟩))) (Nat.le_of_ble_eq_true rfl) (Nat.le_of_ble_eq_true rfl) dL_setRate_20
  · obtain ⟨g1, g2, rfl, rfl⟩ := hp9
    refine vl_i2l C0 dL_setRate_8 rfl ?_
    refine vl_last C0 (q0 := (cw cy ad nl ns par Rl (up3 d 4 0 b.toNatClampNeg t)).length + 0) (w2 := cw cy ad nl ns par Rl (up3 d 4 0 b.toNatClampNeg t) ++ ((o, .inl (cy 4, 1, .inr (.inl (vp_updL f (0 : Int32).toNatClampNeg ((d 4 0 b.toNatClampNeg).toInt64))))) :: Z)) (wy_at rfl) (vp_in_iff.mpr (by decide)) wy_set dL_setRate_9 ?_
    refine vl_goto (tgt := 21) C0 dL_setRate_10 (by decide) ?_
    refine vl_iconst (v := 0) C0 dL_setRate_21 (by decide) ?_
    exact vl_iretX C0 hA.symm hr (Or.inl ⟨rfl, g1, g2, rfl⟩) (Nat.le_of_ble_eq_true rfl) (Nat.le_of_ble_eq_true rfl) dL_setRate_22
set_option maxHeartbeats 4000000 in
set_option maxRecDepth 100000 in
theorem c_L_setRules {l : Launch} {D : va_G} {cy : Nat → ClassId} {ad : Nat → Nat → Nat} {nl ns : Nat} {par : Nat → Option Nat} {Rl : List (Nat × Nat)} {d : Nat → Nat → Nat → Int32} {mm : Nat → Nat → Int32} {o : Nat} {f : Nat → Int64} {Z : va_W} (hl0 : l.stackTraces = false) (hok : cw_ok nl ns Rl)  (a b : Int32): vl_Xi l D cy yL_setRules wsL_setRules { frames := 7, cells := 1, slots := 6, locals := 112 } 1 6 (cw cy ad nl ns par Rl d ++ ((o, .inl (cy 4, 1, .inr (.inl f))) :: Z)) [.ref (ad 0 0), .int a, .int b] (fun r w' => (r = 0 ∧ (inB a 0 100 && inB b 0 100) = true ∧ w' = cw cy ad nl ns par Rl (up3 (up3 d 1 0 3 a) 1 0 4 b) ++ ((o, .inl (cy 4, 1, .inr (.inl f))) :: Z)) ∨ (r = 1 ∧ ((inB a 0 100 && inB b 0 100) = false) ∧ w' = cw cy ad nl ns par Rl d ++ ((o, .inl (cy 4, 1, .inr (.inl f))) :: Z))) (fun _ => False) := by
  refine vl_openXiH hl0 (by decide) rfl (Nat.le_of_ble_eq_true rfl) ?_
  intro p e s m args below meth c C0 hr htb
  generalize hA : va_A (cw cy ad nl ns par Rl d ++ ((o, .inl (cy 4, 1, .inr (.inl f))) :: Z)) s.heap.size = A at C0 ⊢
  refine vl_lv (lv2 := [(0, .ref (ad 0 0)), (1, .int a), (2, .int b)]) [0, 1, 2] rfl ?_
  refine vl_aload_n C0 dL_setRules_0 0 rfl ?_
  refine vl_iload_n C0 dL_setRules_1 1 rfl ?_
  refine vl_iload_n C0 dL_setRules_2 2 rfl ?_
  refine vl_xcallv C0 (vl_goVX C0 (As := [.int a, .int b]) (na := 2) (b := ad 0 0) (st := []) (ci := 3) gL_setRules_X3_setRules rfl rfl rfl (by decide +kernel) ⟨Nat.le_of_ble_eq_true rfl, Nat.le_of_ble_eq_true rfl⟩ rfl (rc_rec (cR0 hok) rfl) dL_setRules_3 (Nat.le_of_ble_eq_true rfl) ⟨Nat.le_of_ble_eq_true rfl, Nat.le_of_ble_eq_true rfl⟩ rfl rfl) (c_X3_setRules hl0 hok a b (mm := mm)) (k2 := 1) (n2 := 6) (Nat.le_of_ble_eq_true rfl) (Nat.le_of_ble_eq_true rfl) (fun E9 hE9 => ?_) (fun w9 hp9 => ?_)
  · obtain ⟨hEc, hE9⟩ := hE9
    have hps : ∀ z ∈ ([] : List ExceptionTableEntry), covers z (3) = false ∨ (z.catchType ≠ 0 ∧ ∃ nm : String, Cond.classLink yL_setRules.cls z.catchType nm ∈ wsL_setRules ∧ (E9, nm) ∈ vl_nc) := by
      intro z hz
      simp at hz
    refine vl_catch C0 (name := "java/lang/IllegalArgumentException") [] (⟨0, 6, 9, 13⟩ : ExceptionTableEntry) [] (htb.trans rfl) hps (by decide) (by decide) (by decide +kernel) hEc (by rw [hEc]; decide) (fun qx => ?_)
    refine vl_astore_n (lv' := [(0, .ref (ad 0 0)), (1, .int a), (2, .int b), (3, .ref qx)]) C0 dL_setRules_9 [1, 2, 3, 0] (by decide) rfl ?_
    refine vl_iconst (v := 1) C0 dL_setRules_10 (by decide) ?_
    exact vl_iretX C0 hA.symm hr (Or.inr (⟨rfl, hE9, rfl⟩)) (Nat.le_of_ble_eq_true rfl) (Nat.le_of_ble_eq_true rfl) dL_setRules_11
  · obtain ⟨g1, rfl⟩ := hp9
    refine vl_goto (tgt := 12) C0 dL_setRules_6 (by decide) ?_
    refine vl_iconst (v := 0) C0 dL_setRules_12 (by decide) ?_
    exact vl_iretX C0 hA.symm hr (Or.inl ⟨rfl, g1, rfl⟩) (Nat.le_of_ble_eq_true rfl) (Nat.le_of_ble_eq_true rfl) dL_setRules_13
set_option maxHeartbeats 4000000 in
set_option maxRecDepth 100000 in
theorem c_L_order {l : Launch} {D : va_G} {cy : Nat → ClassId} {ad : Nat → Nat → Nat} {nl ns : Nat} {par : Nat → Option Nat} {Rl : List (Nat × Nat)} {d : Nat → Nat → Nat → Int32} {mm : Nat → Nat → Int32} {o : Nat} {f : Nat → Int64} {Z : va_W} (hl0 : l.stackTraces = false) (hok : cw_ok nl ns Rl) (h19 : 1 ≤ nl) (h9 : nl ≤ 9) (h8 : ns ≤ 8) (hln : rLn nl mm d) (a t k z b : Int32): vl_Xi l D cy yL_order wsL_order { frames := 8, cells := 5, slots := 30, locals := 138 } 5 30 (cw cy ad nl ns par Rl d ++ ((o, .inl (cy 4, 1, .inr (.inl f))) :: Z)) [.ref (ad 0 0), .int a, .int t, .int k, .int z, .int b, .ref o] (fun r w' => (r = 0 ∧ (inB a 0 (nI nl - 1) && inB t 0 29 && inB z 0 (nI ns - 1) && inB b 0 2) = true ∧ inB k 0 2 = true ∧ ¬ t < mm 9 a.toNatClampNeg ∧  ∃ v : Int64, ((ahC par d a.toNatClampNeg t.toNatClampNeg) = true → v = 1) ∧ ((ahC par d a.toNatClampNeg t.toNatClampNeg) = false → v = 0) ∧ w' = cw cy ad nl ns par Rl (givD d a.toNatClampNeg t.toNatClampNeg (codeI k z b) (ahC par d a.toNatClampNeg t.toNatClampNeg)) ++ ((o, .inl (cy 4, 1, .inr (.inl (vp_updL f (0 : Int32).toNatClampNeg v)))) :: Z)) ∨ (r = 1 ∧ ((inB a 0 (nI nl - 1) && inB t 0 29 && inB z 0 (nI ns - 1) && inB b 0 2) = false) ∧ w' = cw cy ad nl ns par Rl d ++ ((o, .inl (cy 4, 1, .inr (.inl f))) :: Z)) ∨ (r = 2 ∧ ((inB a 0 (nI nl - 1) && inB t 0 29 && inB z 0 (nI ns - 1) && inB b 0 2) = true ∧ inB k 0 2 = false) ∧ w' = cw cy ad nl ns par Rl d ++ ((o, .inl (cy 4, 1, .inr (.inl f))) :: Z)) ∨ (r = 3 ∧ ((inB a 0 (nI nl - 1) && inB t 0 29 && inB z 0 (nI ns - 1) && inB b 0 2) = true ∧ inB k 0 2 = true ∧ t < mm 9 a.toNatClampNeg) ∧ w' = cw cy ad nl ns par Rl d ++ ((o, .inl (cy 4, 1, .inr (.inl f))) :: Z))) (fun _ => False) := by
  refine vl_openXiH hl0 (by decide) rfl (Nat.le_of_ble_eq_true rfl) ?_
  intro p e s m args below meth c C0 hr htb
  generalize hA : va_A (cw cy ad nl ns par Rl d ++ ((o, .inl (cy 4, 1, .inr (.inl f))) :: Z)) s.heap.size = A at C0 ⊢
  refine vl_lv (lv2 := [(0, .ref (ad 0 0)), (1, .int a), (2, .int t), (3, .int k), (4, .int z), (5, .int b), (6, .ref o)]) [0, 1, 2, 3, 4, 5, 6] rfl ?_
  refine vl_aload C0 dL_order_0 6 rfl ?_
  refine vl_iconst (v := 0) C0 dL_order_2 (by decide) ?_
  refine vl_aload_n C0 dL_order_3 0 rfl ?_
  refine vl_iload_n C0 dL_order_4 1 rfl ?_
  refine vl_iload_n C0 dL_order_5 2 rfl ?_
  refine vl_iload_n C0 dL_order_6 3 rfl ?_
  refine vl_iload C0 dL_order_7 4 rfl ?_
  refine vl_iload C0 dL_order_9 5 rfl ?_
  refine vl_xcalli C0 (vl_goVX C0 (As := [.int a, .int t, .int k, .int z, .int b]) (na := 5) (b := ad 0 0) (st := [.int 0, .ref o]) (ci := 3) gL_order_X3_order rfl rfl rfl (by decide +kernel) ⟨Nat.le_of_ble_eq_true rfl, Nat.le_of_ble_eq_true rfl⟩ rfl (rc_rec (cR0 hok) rfl) dL_order_11 (Nat.le_of_ble_eq_true rfl) ⟨Nat.le_of_ble_eq_true rfl, Nat.le_of_ble_eq_true rfl⟩ rfl rfl) (c_X3_order hl0 hok h19 h9 h8 hln a t k z b (mm := mm)) (k2 := 5) (n2 := 30) (Nat.le_of_ble_eq_true rfl) (Nat.le_of_ble_eq_true rfl) (fun E9 hE9 => ?_) (fun r9 w9 hp9 => ?_)
  · rcases hE9 with ⟨hEc, hE9⟩ | ⟨hEc, hE9⟩ | ⟨hEc, hE9⟩
    · skip
      have hps : ∀ z ∈ ([] : List ExceptionTableEntry), covers z (11) = false ∨ (z.catchType ≠ 0 ∧ ∃ nm : String, Cond.classLink yL_order.cls z.catchType nm ∈ wsL_order ∧ (E9, nm) ∈ vl_nc) := by
        intro z hz
        simp at hz
      refine vl_catch C0 (name := "java/lang/IndexOutOfBoundsException") [] (⟨0, 23, 26, 21⟩ : ExceptionTableEntry) [(⟨0, 23, 30, 13⟩ : ExceptionTableEntry), (⟨0, 23, 34, 15⟩ : ExceptionTableEntry)] (htb.trans rfl) hps (by decide) (by decide) (by decide +kernel) hEc (by rw [hEc]; decide) (fun qx => ?_)
      refine vl_astore (lv' := [(0, .ref (ad 0 0)), (1, .int a), (2, .int t), (3, .int k), (4, .int z), (5, .int b), (6, .ref o), (7, .ref qx)]) C0 dL_order_26 [1, 2, 3, 4, 5, 6, 7, 0] (by decide) rfl ?_
      refine vl_iconst (v := 1) C0 dL_order_28 (by decide) ?_
      exact vl_iretX C0 hA.symm hr (Or.inr (Or.inl ⟨rfl, hE9, rfl⟩)) (Nat.le_of_ble_eq_true rfl) (Nat.le_of_ble_eq_true rfl) dL_order_29
    · skip
      have hps : ∀ z ∈ ([(⟨0, 23, 26, 21⟩ : ExceptionTableEntry)] : List ExceptionTableEntry), covers z (11) = false ∨ (z.catchType ≠ 0 ∧ ∃ nm : String, Cond.classLink yL_order.cls z.catchType nm ∈ wsL_order ∧ (E9, nm) ∈ vl_nc) := by
        intro z hz
        simp only [List.mem_cons, List.mem_nil_iff, or_false] at hz
        subst hz
        exact Or.inr ⟨by decide, "java/lang/IndexOutOfBoundsException", (show Cond.classLink RL 21 "java/lang/IndexOutOfBoundsException" ∈ _ by decide +kernel), by rw [hEc]; decide⟩
      refine vl_catch C0 (name := "java/lang/IllegalArgumentException") [(⟨0, 23, 26, 21⟩ : ExceptionTableEntry)] (⟨0, 23, 30, 13⟩ : ExceptionTableEntry) [(⟨0, 23, 34, 15⟩ : ExceptionTableEntry)] (htb.trans rfl) hps (by decide) (by decide) (by decide +kernel) hEc (by rw [hEc]; decide) (fun qx => ?_)
      refine vl_astore (lv' := [(0, .ref (ad 0 0)), (1, .int a), (2, .int t), (3, .int k), (4, .int z), (5, .int b), (6, .ref o), (7, .ref qx)]) C0 dL_order_30 [1, 2, 3, 4, 5, 6, 7, 0] (by decide) rfl ?_
      refine vl_iconst (v := 2) C0 dL_order_32 (by decide) ?_
      exact vl_iretX C0 hA.symm hr (Or.inr (Or.inr (Or.inl ⟨rfl, hE9, rfl⟩))) (Nat.le_of_ble_eq_true rfl) (Nat.le_of_ble_eq_true rfl) dL_order_33
    · skip
      have hps : ∀ z ∈ ([(⟨0, 23, 26, 21⟩ : ExceptionTableEntry), (⟨0, 23, 30, 13⟩ : ExceptionTableEntry)] : List ExceptionTableEntry), covers z (11) = false ∨ (z.catchType ≠ 0 ∧ ∃ nm : String, Cond.classLink yL_order.cls z.catchType nm ∈ wsL_order ∧ (E9, nm) ∈ vl_nc) := by
        intro z hz
        simp only [List.mem_cons, List.mem_nil_iff, or_false] at hz
        rcases hz with rfl | rfl
        · exact Or.inr ⟨by decide, "java/lang/IndexOutOfBoundsException", (show Cond.classLink RL 21 "java/lang/IndexOutOfBoundsException" ∈ _ by decide +kernel), by rw [hEc]; decide⟩
        · exact Or.inr ⟨by decide, "java/lang/IllegalArgumentException", (show Cond.classLink RL 13 "java/lang/IllegalArgumentException" ∈ _ by decide +kernel), by rw [hEc]; decide⟩
      refine vl_catch C0 (name := "java/lang/IllegalStateException") [(⟨0, 23, 26, 21⟩ : ExceptionTableEntry), (⟨0, 23, 30, 13⟩ : ExceptionTableEntry)] (⟨0, 23, 34, 15⟩ : ExceptionTableEntry) [] (htb.trans rfl) hps (by decide) (by decide) (by decide +kernel) hEc (by rw [hEc]; decide) (fun qx => ?_)
      refine vl_astore (lv' := [(0, .ref (ad 0 0)), (1, .int a), (2, .int t), (3, .int k), (4, .int z), (5, .int b), (6, .ref o), (7, .ref qx)]) C0 dL_order_34 [1, 2, 3, 4, 5, 6, 7, 0] (by decide) rfl ?_
      refine vl_iconst (v := 3) C0 dL_order_36 (by decide) ?_
      exact vl_iretX C0 hA.symm hr (Or.inr (Or.inr (Or.inr (⟨rfl, hE9, rfl⟩)))) (Nat.le_of_ble_eq_true rfl) (Nat.le_of_ble_eq_true rfl) dL_order_37
  · obtain ⟨g1, g2, g3, rfl, rfl⟩ := hp9
    refine vl_if_eq (tgt := 21) C0 dL_order_14 (by decide) (fun (h14 : (bI (ahC par d a.toNatClampNeg t.toNatClampNeg) : Int32) = (0 : Int32)) => ?_) (fun (h14 : ¬ (bI (ahC par d a.toNatClampNeg t.toNatClampNeg) : Int32) = (0 : Int32)) => ?_)
    · have g14 := bI_0.mp h14
      refine vl_lconst (v := 0) C0 dL_order_21 (by decide) ?_
      refine vl_last C0 (q0 := (cw cy ad nl ns par Rl (givD d a.toNatClampNeg t.toNatClampNeg (codeI k z b) (ahC par d a.toNatClampNeg t.toNatClampNeg))).length + 0) (w2 := cw cy ad nl ns par Rl (givD d a.toNatClampNeg t.toNatClampNeg (codeI k z b) (ahC par d a.toNatClampNeg t.toNatClampNeg)) ++ ((o, .inl (cy 4, 1, .inr (.inl (vp_updL f (0 : Int32).toNatClampNeg (0))))) :: Z)) (wy_at rfl) (vp_in_iff.mpr (by decide)) wy_set dL_order_22 ?_
      refine vl_goto (tgt := 38) C0 dL_order_23 (by decide) ?_
      refine vl_iconst (v := 0) C0 dL_order_38 (by decide) ?_
      exact vl_iretX C0 hA.symm hr (Or.inl ⟨rfl, g1, g2, g3, 0, (fun h => absurd (h.symm.trans g14) (by decide)), (fun _ => rfl), rfl⟩) (Nat.le_of_ble_eq_true rfl) (Nat.le_of_ble_eq_true rfl) dL_order_39
    · have g14 := bI_n.mp h14
      refine vl_lconst (v := 1) C0 dL_order_17 (by decide) ?_
      refine vl_goto (tgt := 22) C0 dL_order_18 (by decide) ?_
      refine vl_last C0 (q0 := (cw cy ad nl ns par Rl (givD d a.toNatClampNeg t.toNatClampNeg (codeI k z b) (ahC par d a.toNatClampNeg t.toNatClampNeg))).length + 0) (w2 := cw cy ad nl ns par Rl (givD d a.toNatClampNeg t.toNatClampNeg (codeI k z b) (ahC par d a.toNatClampNeg t.toNatClampNeg)) ++ ((o, .inl (cy 4, 1, .inr (.inl (vp_updL f (0 : Int32).toNatClampNeg (1))))) :: Z)) (wy_at rfl) (vp_in_iff.mpr (by decide)) wy_set dL_order_22 ?_
      refine vl_goto (tgt := 38) C0 dL_order_23 (by decide) ?_
      refine vl_iconst (v := 0) C0 dL_order_38 (by decide) ?_
      exact vl_iretX C0 hA.symm hr (Or.inl ⟨rfl, g1, g2, g3, 1, (fun _ => rfl), (fun h => absurd (h.symm.trans g14) (by decide)), rfl⟩) (Nat.le_of_ble_eq_true rfl) (Nat.le_of_ble_eq_true rfl) dL_order_39
set_option maxHeartbeats 4000000 in
set_option maxRecDepth 100000 in
theorem c_L_takeAway {l : Launch} {D : va_G} {cy : Nat → ClassId} {ad : Nat → Nat → Nat} {nl ns : Nat} {par : Nat → Option Nat} {Rl : List (Nat × Nat)} {d : Nat → Nat → Nat → Int32} {mm : Nat → Nat → Int32} {o : Nat} {f : Nat → Int64} {Z : va_W} (hl0 : l.stackTraces = false) (hok : cw_ok nl ns Rl) (h19 : 1 ≤ nl) (h9 : nl ≤ 9)  (a t : Int32): vl_Xi l D cy yL_takeAway wsL_takeAway { frames := 8, cells := 2, slots := 12, locals := 135 } 2 12 (cw cy ad nl ns par Rl d ++ ((o, .inl (cy 4, 1, .inr (.inl f))) :: Z)) [.ref (ad 0 0), .int a, .int t, .ref o] (fun r w' => (r = 0 ∧ (inB a 0 (nI nl - 1) && inB t 0 29) = true ∧  ∃ v : Int64, ((decide (¬ d 5 a.toNatClampNeg 3 &&& 1 <<< (t &&& 31) = 0)) = true → v = 1) ∧ ((decide (¬ d 5 a.toNatClampNeg 3 &&& 1 <<< (t &&& 31) = 0)) = false → v = 0) ∧ w' = cw cy ad nl ns par Rl (drpD d a.toNatClampNeg t.toNatClampNeg) ++ ((o, .inl (cy 4, 1, .inr (.inl (vp_updL f (0 : Int32).toNatClampNeg v)))) :: Z)) ∨ (r = 1 ∧ ((inB a 0 (nI nl - 1) && inB t 0 29) = false) ∧ w' = cw cy ad nl ns par Rl d ++ ((o, .inl (cy 4, 1, .inr (.inl f))) :: Z))) (fun _ => False) := by
  refine vl_openXiH hl0 (by decide) rfl (Nat.le_of_ble_eq_true rfl) ?_
  intro p e s m args below meth c C0 hr htb
  generalize hA : va_A (cw cy ad nl ns par Rl d ++ ((o, .inl (cy 4, 1, .inr (.inl f))) :: Z)) s.heap.size = A at C0 ⊢
  refine vl_lv (lv2 := [(0, .ref (ad 0 0)), (1, .int a), (2, .int t), (3, .ref o)]) [0, 1, 2, 3] rfl ?_
  refine vl_aload_n C0 dL_takeAway_0 3 rfl ?_
  refine vl_iconst (v := 0) C0 dL_takeAway_1 (by decide) ?_
  refine vl_aload_n C0 dL_takeAway_2 0 rfl ?_
  refine vl_iload_n C0 dL_takeAway_3 1 rfl ?_
  refine vl_iload_n C0 dL_takeAway_4 2 rfl ?_
  refine vl_xcalli C0 (vl_goVX C0 (As := [.int a, .int t]) (na := 2) (b := ad 0 0) (st := [.int 0, .ref o]) (ci := 3) gL_takeAway_X3_takeAway rfl rfl rfl (by decide +kernel) ⟨Nat.le_of_ble_eq_true rfl, Nat.le_of_ble_eq_true rfl⟩ rfl (rc_rec (cR0 hok) rfl) dL_takeAway_5 (Nat.le_of_ble_eq_true rfl) ⟨Nat.le_of_ble_eq_true rfl, Nat.le_of_ble_eq_true rfl⟩ rfl rfl) (c_X3_takeAway hl0 hok h19 h9 a t (mm := mm)) (k2 := 2) (n2 := 12) (Nat.le_of_ble_eq_true rfl) (Nat.le_of_ble_eq_true rfl) (fun E9 hE9 => ?_) (fun r9 w9 hp9 => ?_)
  · obtain ⟨hEc, hE9⟩ := hE9
    have hps : ∀ z ∈ ([] : List ExceptionTableEntry), covers z (5) = false ∨ (z.catchType ≠ 0 ∧ ∃ nm : String, Cond.classLink yL_takeAway.cls z.catchType nm ∈ wsL_takeAway ∧ (E9, nm) ∈ vl_nc) := by
      intro z hz
      simp at hz
    refine vl_catch C0 (name := "java/lang/IndexOutOfBoundsException") [] (⟨0, 17, 20, 21⟩ : ExceptionTableEntry) [] (htb.trans rfl) hps (by decide) (by decide) (by decide +kernel) hEc (by rw [hEc]; decide) (fun qx => ?_)
    refine vl_astore (lv' := [(0, .ref (ad 0 0)), (1, .int a), (2, .int t), (3, .ref o), (4, .ref qx)]) C0 dL_takeAway_20 [1, 2, 3, 4, 0] (by decide) rfl ?_
    refine vl_iconst (v := 1) C0 dL_takeAway_22 (by decide) ?_
    exact vl_iretX C0 hA.symm hr (Or.inr (⟨rfl, hE9, rfl⟩)) (Nat.le_of_ble_eq_true rfl) (Nat.le_of_ble_eq_true rfl) dL_takeAway_23
  · obtain ⟨g1, rfl, rfl⟩ := hp9
    refine vl_if_eq (tgt := 15) C0 dL_takeAway_8 (by decide) (fun (h8 : (bI (decide (¬ d 5 a.toNatClampNeg 3 &&& 1 <<< (t &&& 31) = 0)) : Int32) = (0 : Int32)) => ?_) (fun (h8 : ¬ (bI (decide (¬ d 5 a.toNatClampNeg 3 &&& 1 <<< (t &&& 31) = 0)) : Int32) = (0 : Int32)) => ?_)
    · have g8 := bI_0.mp h8
      refine vl_lconst (v := 0) C0 dL_takeAway_15 (by decide) ?_
      refine vl_last C0 (q0 := (cw cy ad nl ns par Rl (drpD d a.toNatClampNeg t.toNatClampNeg)).length + 0) (w2 := cw cy ad nl ns par Rl (drpD d a.toNatClampNeg t.toNatClampNeg) ++ ((o, .inl (cy 4, 1, .inr (.inl (vp_updL f (0 : Int32).toNatClampNeg (0))))) :: Z)) (wy_at rfl) (vp_in_iff.mpr (by decide)) wy_set dL_takeAway_16 ?_
      refine vl_goto (tgt := 24) C0 dL_takeAway_17 (by decide) ?_
      refine vl_iconst (v := 0) C0 dL_takeAway_24 (by decide) ?_
      exact vl_iretX C0 hA.symm hr (Or.inl ⟨rfl, g1, 0, (fun h => absurd (h.symm.trans g8) (by decide)), (fun _ => rfl), rfl⟩) (Nat.le_of_ble_eq_true rfl) (Nat.le_of_ble_eq_true rfl) dL_takeAway_25
    · have g8 := bI_n.mp h8
      refine vl_lconst (v := 1) C0 dL_takeAway_11 (by decide) ?_
      refine vl_goto (tgt := 16) C0 dL_takeAway_12 (by decide) ?_
      refine vl_last C0 (q0 := (cw cy ad nl ns par Rl (drpD d a.toNatClampNeg t.toNatClampNeg)).length + 0) (w2 := cw cy ad nl ns par Rl (drpD d a.toNatClampNeg t.toNatClampNeg) ++ ((o, .inl (cy 4, 1, .inr (.inl (vp_updL f (0 : Int32).toNatClampNeg (1))))) :: Z)) (wy_at rfl) (vp_in_iff.mpr (by decide)) wy_set dL_takeAway_16 ?_
      refine vl_goto (tgt := 24) C0 dL_takeAway_17 (by decide) ?_
      refine vl_iconst (v := 0) C0 dL_takeAway_24 (by decide) ?_
      exact vl_iretX C0 hA.symm hr (Or.inl ⟨rfl, g1, 1, (fun _ => rfl), (fun h => absurd (h.symm.trans g8) (by decide)), rfl⟩) (Nat.le_of_ble_eq_true rfl) (Nat.le_of_ble_eq_true rfl) dL_takeAway_25
set_option maxHeartbeats 4000000 in
set_option maxRecDepth 100000 in
theorem c_L_orderOf {l : Launch} {D : va_G} {cy : Nat → ClassId} {ad : Nat → Nat → Nat} {nl ns : Nat} {par : Nat → Option Nat} {Rl : List (Nat × Nat)} {d : Nat → Nat → Nat → Int32} {mm : Nat → Nat → Int32} {o : Nat} {f : Nat → Int64} {Z : va_W} (hl0 : l.stackTraces = false) (hok : cw_ok nl ns Rl) (h19 : 1 ≤ nl) (h9 : nl ≤ 9) (hln : rLn nl mm d) (ht : mTree nl par mm) (a t : Int32): vl_Xi l D cy yL_orderOf wsL_orderOf { frames := 8, cells := 2, slots := 12, locals := 135 } 2 12 (cw cy ad nl ns par Rl d ++ ((o, .inl (cy 4, 1, .inr (.inl f))) :: Z)) [.ref (ad 0 0), .int a, .int t, .ref o] (fun r w' => (r = 0 ∧ (inB a 0 (nI nl - 1) && inB t 0 29) = true ∧  w' = cw cy ad nl ns par Rl d ++ ((o, .inl (cy 4, 1, .inr (.inl (vp_updL f (0 : Int32).toNatClampNeg ((ordX (mm 11) par t.toNatClampNeg (some a.toNatClampNeg)).toInt64))))) :: Z)) ∨ (r = 1 ∧ ((inB a 0 (nI nl - 1) && inB t 0 29) = false) ∧ w' = cw cy ad nl ns par Rl d ++ ((o, .inl (cy 4, 1, .inr (.inl f))) :: Z))) (fun _ => False) := by
  refine vl_openXiH hl0 (by decide) rfl (Nat.le_of_ble_eq_true rfl) ?_
  intro p e s m args below meth c C0 hr htb
  generalize hA : va_A (cw cy ad nl ns par Rl d ++ ((o, .inl (cy 4, 1, .inr (.inl f))) :: Z)) s.heap.size = A at C0 ⊢
  refine vl_lv (lv2 := [(0, .ref (ad 0 0)), (1, .int a), (2, .int t), (3, .ref o)]) [0, 1, 2, 3] rfl ?_
  refine vl_aload_n C0 dL_orderOf_0 3 rfl ?_
  refine vl_iconst (v := 0) C0 dL_orderOf_1 (by decide) ?_
  refine vl_aload_n C0 dL_orderOf_2 0 rfl ?_
  refine vl_iload_n C0 dL_orderOf_3 1 rfl ?_
  refine vl_iload_n C0 dL_orderOf_4 2 rfl ?_
  refine vl_xcalli C0 (vl_goVX C0 (As := [.int a, .int t]) (na := 2) (b := ad 0 0) (st := [.int 0, .ref o]) (ci := 3) gL_orderOf_X3_orderOf rfl rfl rfl (by decide +kernel) ⟨Nat.le_of_ble_eq_true rfl, Nat.le_of_ble_eq_true rfl⟩ rfl (rc_rec (cR0 hok) rfl) dL_orderOf_5 (Nat.le_of_ble_eq_true rfl) ⟨Nat.le_of_ble_eq_true rfl, Nat.le_of_ble_eq_true rfl⟩ rfl rfl) (c_X3_orderOf hl0 hok h19 h9 hln ht a t (mm := mm)) (k2 := 2) (n2 := 12) (Nat.le_of_ble_eq_true rfl) (Nat.le_of_ble_eq_true rfl) (fun E9 hE9 => ?_) (fun r9 w9 hp9 => ?_)
  · obtain ⟨hEc, hE9⟩ := hE9
    have hps : ∀ z ∈ ([] : List ExceptionTableEntry), covers z (5) = false ∨ (z.catchType ≠ 0 ∧ ∃ nm : String, Cond.classLink yL_orderOf.cls z.catchType nm ∈ wsL_orderOf ∧ (E9, nm) ∈ vl_nc) := by
      intro z hz
      simp at hz
    refine vl_catch C0 (name := "java/lang/IndexOutOfBoundsException") [] (⟨0, 10, 13, 21⟩ : ExceptionTableEntry) [] (htb.trans rfl) hps (by decide) (by decide) (by decide +kernel) hEc (by rw [hEc]; decide) (fun qx => ?_)
    refine vl_astore (lv' := [(0, .ref (ad 0 0)), (1, .int a), (2, .int t), (3, .ref o), (4, .ref qx)]) C0 dL_orderOf_13 [1, 2, 3, 4, 0] (by decide) rfl ?_
    refine vl_iconst (v := 1) C0 dL_orderOf_15 (by decide) ?_
    exact vl_iretX C0 hA.symm hr (Or.inr (⟨rfl, hE9, rfl⟩)) (Nat.le_of_ble_eq_true rfl) (Nat.le_of_ble_eq_true rfl) dL_orderOf_16
  · obtain ⟨g1, rfl, rfl⟩ := hp9
    refine vl_i2l C0 dL_orderOf_8 rfl ?_
    refine vl_last C0 (q0 := (cw cy ad nl ns par Rl d).length + 0) (w2 := cw cy ad nl ns par Rl d ++ ((o, .inl (cy 4, 1, .inr (.inl (vp_updL f (0 : Int32).toNatClampNeg ((ordX (mm 11) par t.toNatClampNeg (some a.toNatClampNeg)).toInt64))))) :: Z)) (wy_at rfl) (vp_in_iff.mpr (by decide)) wy_set dL_orderOf_9 ?_
    refine vl_goto (tgt := 17) C0 dL_orderOf_10 (by decide) ?_
    refine vl_iconst (v := 0) C0 dL_orderOf_17 (by decide) ?_
    exact vl_iretX C0 hA.symm hr (Or.inl ⟨rfl, g1, rfl⟩) (Nat.le_of_ble_eq_true rfl) (Nat.le_of_ble_eq_true rfl) dL_orderOf_18
set_option maxHeartbeats 4000000 in
set_option maxRecDepth 100000 in
theorem c_L_differences {l : Launch} {D : va_G} {cy : Nat → ClassId} {ad : Nat → Nat → Nat} {nl ns : Nat} {par : Nat → Option Nat} {Rl : List (Nat × Nat)} {d : Nat → Nat → Nat → Int32} {mm : Nat → Nat → Int32} {o : Nat} {f : Nat → Int64} {Z : va_W} (hl0 : l.stackTraces = false) (hok : cw_ok nl ns Rl) (h19 : 1 ≤ nl) (h9 : nl ≤ 9) (hln : rLn nl mm d) (ht : mTree nl par mm) (a b : Int32): vl_Xi l D cy yL_differences wsL_differences { frames := 8, cells := 2, slots := 12, locals := 138 } 2 12 (cw cy ad nl ns par Rl d ++ ((o, .inl (cy 4, 1, .inr (.inl f))) :: Z)) [.ref (ad 0 0), .int a, .int b, .ref o] (fun r w' => (r = 0 ∧ (inB a 0 (nI nl - 1) && inB b 0 (nI nl - 1)) = true ∧  w' = cw cy ad nl ns par Rl d ++ ((o, .inl (cy 4, 1, .inr (.inl (vp_updL f (0 : Int32).toNatClampNeg ((bset (difP (mm 11) par a.toNatClampNeg b.toNatClampNeg) 30).toInt64))))) :: Z)) ∨ (r = 1 ∧ ((inB a 0 (nI nl - 1) && inB b 0 (nI nl - 1)) = false) ∧ w' = cw cy ad nl ns par Rl d ++ ((o, .inl (cy 4, 1, .inr (.inl f))) :: Z))) (fun _ => False) := by
  refine vl_openXiH hl0 (by decide) rfl (Nat.le_of_ble_eq_true rfl) ?_
  intro p e s m args below meth c C0 hr htb
  generalize hA : va_A (cw cy ad nl ns par Rl d ++ ((o, .inl (cy 4, 1, .inr (.inl f))) :: Z)) s.heap.size = A at C0 ⊢
  refine vl_lv (lv2 := [(0, .ref (ad 0 0)), (1, .int a), (2, .int b), (3, .ref o)]) [0, 1, 2, 3] rfl ?_
  refine vl_aload_n C0 dL_differences_0 3 rfl ?_
  refine vl_iconst (v := 0) C0 dL_differences_1 (by decide) ?_
  refine vl_aload_n C0 dL_differences_2 0 rfl ?_
  refine vl_iload_n C0 dL_differences_3 1 rfl ?_
  refine vl_iload_n C0 dL_differences_4 2 rfl ?_
  refine vl_xcalli C0 (vl_goVX C0 (As := [.int a, .int b]) (na := 2) (b := ad 0 0) (st := [.int 0, .ref o]) (ci := 3) gL_differences_X3_differences rfl rfl rfl (by decide +kernel) ⟨Nat.le_of_ble_eq_true rfl, Nat.le_of_ble_eq_true rfl⟩ rfl (rc_rec (cR0 hok) rfl) dL_differences_5 (Nat.le_of_ble_eq_true rfl) ⟨Nat.le_of_ble_eq_true rfl, Nat.le_of_ble_eq_true rfl⟩ rfl rfl) (c_X3_differences hl0 hok h19 h9 hln ht a b (mm := mm)) (k2 := 2) (n2 := 12) (Nat.le_of_ble_eq_true rfl) (Nat.le_of_ble_eq_true rfl) (fun E9 hE9 => ?_) (fun r9 w9 hp9 => ?_)
  · obtain ⟨hEc, hE9⟩ := hE9
    have hps : ∀ z ∈ ([] : List ExceptionTableEntry), covers z (5) = false ∨ (z.catchType ≠ 0 ∧ ∃ nm : String, Cond.classLink yL_differences.cls z.catchType nm ∈ wsL_differences ∧ (E9, nm) ∈ vl_nc) := by
      intro z hz
      simp at hz
    refine vl_catch C0 (name := "java/lang/IndexOutOfBoundsException") [] (⟨0, 10, 13, 21⟩ : ExceptionTableEntry) [] (htb.trans rfl) hps (by decide) (by decide) (by decide +kernel) hEc (by rw [hEc]; decide) (fun qx => ?_)
    refine vl_astore (lv' := [(0, .ref (ad 0 0)), (1, .int a), (2, .int b), (3, .ref o), (4, .ref qx)]) C0 dL_differences_13 [1, 2, 3, 4, 0] (by decide) rfl ?_
    refine vl_iconst (v := 1) C0 dL_differences_15 (by decide) ?_
    exact vl_iretX C0 hA.symm hr (Or.inr (⟨rfl, hE9, rfl⟩)) (Nat.le_of_ble_eq_true rfl) (Nat.le_of_ble_eq_true rfl) dL_differences_16
  · obtain ⟨g1, rfl, rfl⟩ := hp9
    refine vl_i2l C0 dL_differences_8 rfl ?_
    refine vl_last C0 (q0 := (cw cy ad nl ns par Rl d).length + 0) (w2 := cw cy ad nl ns par Rl d ++ ((o, .inl (cy 4, 1, .inr (.inl (vp_updL f (0 : Int32).toNatClampNeg ((bset (difP (mm 11) par a.toNatClampNeg b.toNatClampNeg) 30).toInt64))))) :: Z)) (wy_at rfl) (vp_in_iff.mpr (by decide)) wy_set dL_differences_9 ?_
    refine vl_goto (tgt := 17) C0 dL_differences_10 (by decide) ?_
    refine vl_iconst (v := 0) C0 dL_differences_17 (by decide) ?_
    exact vl_iretX C0 hA.symm hr (Or.inl ⟨rfl, g1, rfl⟩) (Nat.le_of_ble_eq_true rfl) (Nat.le_of_ble_eq_true rfl) dL_differences_18
set_option maxHeartbeats 4000000 in
set_option maxRecDepth 100000 in
theorem c_L_where {l : Launch} {D : va_G} {cy : Nat → ClassId} {ad : Nat → Nat → Nat} {nl ns : Nat} {par : Nat → Option Nat} {Rl : List (Nat × Nat)} {d : Nat → Nat → Nat → Int32} {mm : Nat → Nat → Int32} {o : Nat} {f : Nat → Int64} {Z : va_W} (hl0 : l.stackTraces = false) (hok : cw_ok nl ns Rl) (h19 : 1 ≤ nl) (h9 : nl ≤ 9) (h8 : ns ≤ 8) (hln : rLn nl mm d) (hw : rWd ns mm d) (ht : mTree nl par mm) (hcode : ∀ j t, j < nl → t < 30 → codeOK ns (ordX (mm 11) par t (some j))) (hcg : ∀ q, q < ns → 0 ≤ mm 3 q) (hrt : ∀ b, b < 3 → 0 ≤ mm 4 b) (a b t : Int32): vl_Xi l D cy yL_where wsL_where { frames := 9, cells := 3, slots := 18, locals := 170 } 3 18 (cw cy ad nl ns par Rl d ++ ((o, .inl (cy 4, 1, .inr (.inl f))) :: Z)) [.ref (ad 0 0), .int a, .int b, .int t, .ref o] (fun r w' => (r = 0 ∧ misB nl ns a b t = false ∧  ∃ d', w' = cw cy ad nl ns par Rl d' ++ ((o, .inl (cy 4, 1, .inr (.inl (vp_updL f (0 : Int32).toNatClampNeg ((whV ns nl par mm a b t).toInt64))))) :: Z) ∧ dFr d d') ∨ (r = 1 ∧ (misB nl ns a b t = true) ∧ w' = cw cy ad nl ns par Rl d ++ ((o, .inl (cy 4, 1, .inr (.inl f))) :: Z))) (fun _ => False) := by
  refine vl_openXiH hl0 (by decide) rfl (Nat.le_of_ble_eq_true rfl) ?_
  intro p e s m args below meth c C0 hr htb
  generalize hA : va_A (cw cy ad nl ns par Rl d ++ ((o, .inl (cy 4, 1, .inr (.inl f))) :: Z)) s.heap.size = A at C0 ⊢
  refine vl_lv (lv2 := [(0, .ref (ad 0 0)), (1, .int a), (2, .int b), (3, .int t), (4, .ref o)]) [0, 1, 2, 3, 4] rfl ?_
  refine vl_aload C0 dL_where_0 4 rfl ?_
  refine vl_iconst (v := 0) C0 dL_where_2 (by decide) ?_
  refine vl_aload_n C0 dL_where_3 0 rfl ?_
  refine vl_iload_n C0 dL_where_4 1 rfl ?_
  refine vl_iload_n C0 dL_where_5 2 rfl ?_
  refine vl_iload_n C0 dL_where_6 3 rfl ?_
  refine vl_xcalli C0 (vl_goVX C0 (As := [.int a, .int b, .int t]) (na := 3) (b := ad 0 0) (st := [.int 0, .ref o]) (ci := 3) gL_where_X3_where rfl rfl rfl (by decide +kernel) ⟨Nat.le_of_ble_eq_true rfl, Nat.le_of_ble_eq_true rfl⟩ rfl (rc_rec (cR0 hok) rfl) dL_where_7 (Nat.le_of_ble_eq_true rfl) ⟨Nat.le_of_ble_eq_true rfl, Nat.le_of_ble_eq_true rfl⟩ rfl rfl) (c_X3_where hl0 hok h19 h9 h8 hln hw ht hcode hcg hrt a b t (mm := mm)) (k2 := 3) (n2 := 18) (Nat.le_of_ble_eq_true rfl) (Nat.le_of_ble_eq_true rfl) (fun E9 hE9 => ?_) (fun r9 w9 hp9 => ?_)
  · obtain ⟨hEc, hE9⟩ := hE9
    have hps : ∀ z ∈ ([] : List ExceptionTableEntry), covers z (7) = false ∨ (z.catchType ≠ 0 ∧ ∃ nm : String, Cond.classLink yL_where.cls z.catchType nm ∈ wsL_where ∧ (E9, nm) ∈ vl_nc) := by
      intro z hz
      simp at hz
    refine vl_catch C0 (name := "java/lang/IndexOutOfBoundsException") [] (⟨0, 12, 15, 21⟩ : ExceptionTableEntry) [] (htb.trans rfl) hps (by decide) (by decide) (by decide +kernel) hEc (by rw [hEc]; decide) (fun qx => ?_)
    refine vl_astore (lv' := [(0, .ref (ad 0 0)), (1, .int a), (2, .int b), (3, .int t), (4, .ref o), (5, .ref qx)]) C0 dL_where_15 [1, 2, 3, 4, 5, 0] (by decide) rfl ?_
    refine vl_iconst (v := 1) C0 dL_where_17 (by decide) ?_
    exact vl_iretX C0 hA.symm hr (Or.inr (⟨rfl, hE9, rfl⟩)) (Nat.le_of_ble_eq_true rfl) (Nat.le_of_ble_eq_true rfl) dL_where_18
  · obtain ⟨g1, rfl, d2, rfl, g2⟩ := hp9
    refine vl_i2l C0 dL_where_10 rfl ?_
    refine vl_last C0 (q0 := (cw cy ad nl ns par Rl d2).length + 0) (w2 := cw cy ad nl ns par Rl d2 ++ ((o, .inl (cy 4, 1, .inr (.inl (vp_updL f (0 : Int32).toNatClampNeg ((whV ns nl par mm a b t).toInt64))))) :: Z)) (wy_at rfl) (vp_in_iff.mpr (by decide)) wy_set dL_where_11 ?_
    refine vl_goto (tgt := 19) C0 dL_where_12 (by decide) ?_
    refine vl_iconst (v := 0) C0 dL_where_19 (by decide) ?_
    exact vl_iretX C0 hA.symm hr (Or.inl ⟨rfl, g1, d2, rfl, g2⟩) (Nat.le_of_ble_eq_true rfl) (Nat.le_of_ble_eq_true rfl) dL_where_20
set_option maxHeartbeats 4000000 in
set_option maxRecDepth 100000 in
theorem c_L_cargo {l : Launch} {D : va_G} {cy : Nat → ClassId} {ad : Nat → Nat → Nat} {nl ns : Nat} {par : Nat → Option Nat} {Rl : List (Nat × Nat)} {d : Nat → Nat → Nat → Int32} {mm : Nat → Nat → Int32} {o : Nat} {f : Nat → Int64} {Z : va_W} (hl0 : l.stackTraces = false) (hok : cw_ok nl ns Rl) (h19 : 1 ≤ nl) (h9 : nl ≤ 9) (h8 : ns ≤ 8) (hln : rLn nl mm d) (hw : rWd ns mm d) (ht : mTree nl par mm) (hcode : ∀ j t, j < nl → t < 30 → codeOK ns (ordX (mm 11) par t (some j))) (hcg : ∀ q, q < ns → 0 ≤ mm 3 q) (hrt : ∀ b, b < 3 → 0 ≤ mm 4 b) (a b t : Int32): vl_Xi l D cy yL_cargo wsL_cargo { frames := 9, cells := 3, slots := 18, locals := 170 } 3 18 (cw cy ad nl ns par Rl d ++ ((o, .inl (cy 4, 1, .inr (.inl f))) :: Z)) [.ref (ad 0 0), .int a, .int b, .int t, .ref o] (fun r w' => (r = 0 ∧ misB nl ns a b t = false ∧  ∃ d', w' = cw cy ad nl ns par Rl d' ++ ((o, .inl (cy 4, 1, .inr (.inl (vp_updL f (0 : Int32).toNatClampNeg ((cgV ns nl par mm a b t).toInt64))))) :: Z) ∧ dFr d d') ∨ (r = 1 ∧ (misB nl ns a b t = true) ∧ w' = cw cy ad nl ns par Rl d ++ ((o, .inl (cy 4, 1, .inr (.inl f))) :: Z))) (fun _ => False) := by
  refine vl_openXiH hl0 (by decide) rfl (Nat.le_of_ble_eq_true rfl) ?_
  intro p e s m args below meth c C0 hr htb
  generalize hA : va_A (cw cy ad nl ns par Rl d ++ ((o, .inl (cy 4, 1, .inr (.inl f))) :: Z)) s.heap.size = A at C0 ⊢
  refine vl_lv (lv2 := [(0, .ref (ad 0 0)), (1, .int a), (2, .int b), (3, .int t), (4, .ref o)]) [0, 1, 2, 3, 4] rfl ?_
  refine vl_aload C0 dL_cargo_0 4 rfl ?_
  refine vl_iconst (v := 0) C0 dL_cargo_2 (by decide) ?_
  refine vl_aload_n C0 dL_cargo_3 0 rfl ?_
  refine vl_iload_n C0 dL_cargo_4 1 rfl ?_
  refine vl_iload_n C0 dL_cargo_5 2 rfl ?_
  refine vl_iload_n C0 dL_cargo_6 3 rfl ?_
  refine vl_xcalli C0 (vl_goVX C0 (As := [.int a, .int b, .int t]) (na := 3) (b := ad 0 0) (st := [.int 0, .ref o]) (ci := 3) gL_cargo_X3_cargo rfl rfl rfl (by decide +kernel) ⟨Nat.le_of_ble_eq_true rfl, Nat.le_of_ble_eq_true rfl⟩ rfl (rc_rec (cR0 hok) rfl) dL_cargo_7 (Nat.le_of_ble_eq_true rfl) ⟨Nat.le_of_ble_eq_true rfl, Nat.le_of_ble_eq_true rfl⟩ rfl rfl) (c_X3_cargo hl0 hok h19 h9 h8 hln hw ht hcode hcg hrt a b t (mm := mm)) (k2 := 3) (n2 := 18) (Nat.le_of_ble_eq_true rfl) (Nat.le_of_ble_eq_true rfl) (fun E9 hE9 => ?_) (fun r9 w9 hp9 => ?_)
  · obtain ⟨hEc, hE9⟩ := hE9
    have hps : ∀ z ∈ ([] : List ExceptionTableEntry), covers z (7) = false ∨ (z.catchType ≠ 0 ∧ ∃ nm : String, Cond.classLink yL_cargo.cls z.catchType nm ∈ wsL_cargo ∧ (E9, nm) ∈ vl_nc) := by
      intro z hz
      simp at hz
    refine vl_catch C0 (name := "java/lang/IndexOutOfBoundsException") [] (⟨0, 12, 15, 21⟩ : ExceptionTableEntry) [] (htb.trans rfl) hps (by decide) (by decide) (by decide +kernel) hEc (by rw [hEc]; decide) (fun qx => ?_)
    refine vl_astore (lv' := [(0, .ref (ad 0 0)), (1, .int a), (2, .int b), (3, .int t), (4, .ref o), (5, .ref qx)]) C0 dL_cargo_15 [1, 2, 3, 4, 5, 0] (by decide) rfl ?_
    refine vl_iconst (v := 1) C0 dL_cargo_17 (by decide) ?_
    exact vl_iretX C0 hA.symm hr (Or.inr (⟨rfl, hE9, rfl⟩)) (Nat.le_of_ble_eq_true rfl) (Nat.le_of_ble_eq_true rfl) dL_cargo_18
  · obtain ⟨g1, rfl, d2, rfl, g2⟩ := hp9
    refine vl_i2l C0 dL_cargo_10 rfl ?_
    refine vl_last C0 (q0 := (cw cy ad nl ns par Rl d2).length + 0) (w2 := cw cy ad nl ns par Rl d2 ++ ((o, .inl (cy 4, 1, .inr (.inl (vp_updL f (0 : Int32).toNatClampNeg ((cgV ns nl par mm a b t).toInt64))))) :: Z)) (wy_at rfl) (vp_in_iff.mpr (by decide)) wy_set dL_cargo_11 ?_
    refine vl_goto (tgt := 19) C0 dL_cargo_12 (by decide) ?_
    refine vl_iconst (v := 0) C0 dL_cargo_19 (by decide) ?_
    exact vl_iretX C0 hA.symm hr (Or.inl ⟨rfl, g1, d2, rfl, g2⟩) (Nat.le_of_ble_eq_true rfl) (Nat.le_of_ble_eq_true rfl) dL_cargo_20
set_option maxHeartbeats 4000000 in
set_option maxRecDepth 100000 in
theorem c_L_failures {l : Launch} {D : va_G} {cy : Nat → ClassId} {ad : Nat → Nat → Nat} {nl ns : Nat} {par : Nat → Option Nat} {Rl : List (Nat × Nat)} {d : Nat → Nat → Nat → Int32} {mm : Nat → Nat → Int32} {o : Nat} {f : Nat → Int64} {Z : va_W} (hl0 : l.stackTraces = false) (hok : cw_ok nl ns Rl) (h19 : 1 ≤ nl) (h9 : nl ≤ 9) (h8 : ns ≤ 8) (hln : rLn nl mm d) (hw : rWd ns mm d) (ht : mTree nl par mm) (hcode : ∀ j t, j < nl → t < 30 → codeOK ns (ordX (mm 11) par t (some j))) (hcg : ∀ q, q < ns → 0 ≤ mm 3 q) (hrt : ∀ b, b < 3 → 0 ≤ mm 4 b) (a : Int32): vl_Xi l D cy yL_failures wsL_failures { frames := 8, cells := 1, slots := 6, locals := 144 } 1 6 (cw cy ad nl ns par Rl d ++ ((o, .inl (cy 4, 1, .inr (.inl f))) :: Z)) [.ref (ad 0 0), .int a, .ref o] (fun r w' => (r = 0 ∧ inB a 0 (nI nl - 1) = true ∧  ∃ d', w' = cw cy ad nl ns par Rl d' ++ ((o, .inl (cy 4, 1, .inr (.inl (vp_updL f (0 : Int32).toNatClampNeg ((faV ns nl par mm a).toInt64))))) :: Z) ∧ dFr d d') ∨ (r = 1 ∧ (inB a 0 (nI nl - 1) = false) ∧ w' = cw cy ad nl ns par Rl d ++ ((o, .inl (cy 4, 1, .inr (.inl f))) :: Z))) (fun _ => False) := by
  refine vl_openXiH hl0 (by decide) rfl (Nat.le_of_ble_eq_true rfl) ?_
  intro p e s m args below meth c C0 hr htb
  generalize hA : va_A (cw cy ad nl ns par Rl d ++ ((o, .inl (cy 4, 1, .inr (.inl f))) :: Z)) s.heap.size = A at C0 ⊢
  refine vl_lv (lv2 := [(0, .ref (ad 0 0)), (1, .int a), (2, .ref o)]) [0, 1, 2] rfl ?_
  refine vl_aload_n C0 dL_failures_0 2 rfl ?_
  refine vl_iconst (v := 0) C0 dL_failures_1 (by decide) ?_
  refine vl_aload_n C0 dL_failures_2 0 rfl ?_
  refine vl_iload_n C0 dL_failures_3 1 rfl ?_
  refine vl_xcalli C0 (vl_goVX C0 (As := [.int a]) (na := 1) (b := ad 0 0) (st := [.int 0, .ref o]) (ci := 3) gL_failures_X3_failures rfl rfl rfl (by decide +kernel) ⟨Nat.le_of_ble_eq_true rfl, Nat.le_of_ble_eq_true rfl⟩ rfl (rc_rec (cR0 hok) rfl) dL_failures_4 (Nat.le_of_ble_eq_true rfl) ⟨Nat.le_of_ble_eq_true rfl, Nat.le_of_ble_eq_true rfl⟩ rfl rfl) (c_X3_failures hl0 hok h19 h9 h8 hln hw ht hcode hcg hrt a (mm := mm)) (k2 := 1) (n2 := 6) (Nat.le_of_ble_eq_true rfl) (Nat.le_of_ble_eq_true rfl) (fun E9 hE9 => ?_) (fun r9 w9 hp9 => ?_)
  · obtain ⟨hEc, hE9⟩ := hE9
    have hps : ∀ z ∈ ([] : List ExceptionTableEntry), covers z (4) = false ∨ (z.catchType ≠ 0 ∧ ∃ nm : String, Cond.classLink yL_failures.cls z.catchType nm ∈ wsL_failures ∧ (E9, nm) ∈ vl_nc) := by
      intro z hz
      simp at hz
    refine vl_catch C0 (name := "java/lang/IndexOutOfBoundsException") [] (⟨0, 9, 12, 21⟩ : ExceptionTableEntry) [] (htb.trans rfl) hps (by decide) (by decide) (by decide +kernel) hEc (by rw [hEc]; decide) (fun qx => ?_)
    refine vl_astore_n (lv' := [(0, .ref (ad 0 0)), (1, .int a), (2, .ref o), (3, .ref qx)]) C0 dL_failures_12 [1, 2, 3, 0] (by decide) rfl ?_
    refine vl_iconst (v := 1) C0 dL_failures_13 (by decide) ?_
    exact vl_iretX C0 hA.symm hr (Or.inr (⟨rfl, hE9, rfl⟩)) (Nat.le_of_ble_eq_true rfl) (Nat.le_of_ble_eq_true rfl) dL_failures_14
  · obtain ⟨g1, rfl, d2, rfl, g2⟩ := hp9
    refine vl_i2l C0 dL_failures_7 rfl ?_
    refine vl_last C0 (q0 := (cw cy ad nl ns par Rl d2).length + 0) (w2 := cw cy ad nl ns par Rl d2 ++ ((o, .inl (cy 4, 1, .inr (.inl (vp_updL f (0 : Int32).toNatClampNeg ((faV ns nl par mm a).toInt64))))) :: Z)) (wy_at rfl) (vp_in_iff.mpr (by decide)) wy_set dL_failures_8 ?_
    refine vl_goto (tgt := 15) C0 dL_failures_9 (by decide) ?_
    refine vl_iconst (v := 0) C0 dL_failures_15 (by decide) ?_
    exact vl_iretX C0 hA.symm hr (Or.inl ⟨rfl, g1, d2, rfl, g2⟩) (Nat.le_of_ble_eq_true rfl) (Nat.le_of_ble_eq_true rfl) dL_failures_16
set_option maxHeartbeats 4000000 in
set_option maxRecDepth 100000 in
theorem c_L_look {l : Launch} {D : va_G} {cy : Nat → ClassId} {ad : Nat → Nat → Nat} {nl ns : Nat} {par : Nat → Option Nat} {Rl : List (Nat × Nat)} {d : Nat → Nat → Nat → Int32} {mm : Nat → Nat → Int32} {o : Nat} {f : Nat → Int64} {Z : va_W} (hl0 : l.stackTraces = false) (hok : cw_ok nl ns Rl) (h19 : 1 ≤ nl) (h9 : nl ≤ 9) (h8 : ns ≤ 8) (hln : rLn nl mm d) (hw : rWd ns mm d) (ht : mTree nl par mm) (hcode : ∀ j t, j < nl → t < 30 → codeOK ns (ordX (mm 11) par t (some j))) (hcg : ∀ q, q < ns → 0 ≤ mm 3 q) (hrt : ∀ b, b < 3 → 0 ≤ mm 4 b) (a t : Int32): vl_Xi l D cy yL_look wsL_look { frames := 8, cells := 2, slots := 12, locals := 167 } 2 12 (cw cy ad nl ns par Rl d ++ ((o, .inl (cy 4, 1, .inr (.inl f))) :: Z)) [.ref (ad 0 0), .int a, .int t, .ref o] (fun r w' => (r = 0 ∧ (inB a 0 (nI nl - 1) && inB t 0 29) = true ∧  ∃ (ja jt : Nat) (d' : Nat → Nat → Nat → Int32), a = nI ja ∧ t = nI jt ∧ ja < nl ∧ w' = cw cy ad nl ns par Rl d' ++ ((o, .inl (cy 4, 1, .inr (.inl (vp_updL f (0 : Int32).toNatClampNeg ((lkV ns nl par mm a t).toInt64))))) :: Z) ∧ dFr (up3 d 5 ja 5 (if mm 10 ja < nI jt then nI jt else mm 10 ja)) d') ∨ (r = 1 ∧ ((inB a 0 (nI nl - 1) && inB t 0 29) = false) ∧ w' = cw cy ad nl ns par Rl d ++ ((o, .inl (cy 4, 1, .inr (.inl f))) :: Z))) (fun _ => False) := by
  refine vl_openXiH hl0 (by decide) rfl (Nat.le_of_ble_eq_true rfl) ?_
  intro p e s m args below meth c C0 hr htb
  generalize hA : va_A (cw cy ad nl ns par Rl d ++ ((o, .inl (cy 4, 1, .inr (.inl f))) :: Z)) s.heap.size = A at C0 ⊢
  refine vl_lv (lv2 := [(0, .ref (ad 0 0)), (1, .int a), (2, .int t), (3, .ref o)]) [0, 1, 2, 3] rfl ?_
  refine vl_aload_n C0 dL_look_0 3 rfl ?_
  refine vl_iconst (v := 0) C0 dL_look_1 (by decide) ?_
  refine vl_aload_n C0 dL_look_2 0 rfl ?_
  refine vl_iload_n C0 dL_look_3 1 rfl ?_
  refine vl_iload_n C0 dL_look_4 2 rfl ?_
  refine vl_xcalli C0 (vl_goVX C0 (As := [.int a, .int t]) (na := 2) (b := ad 0 0) (st := [.int 0, .ref o]) (ci := 3) gL_look_X3_look rfl rfl rfl (by decide +kernel) ⟨Nat.le_of_ble_eq_true rfl, Nat.le_of_ble_eq_true rfl⟩ rfl (rc_rec (cR0 hok) rfl) dL_look_5 (Nat.le_of_ble_eq_true rfl) ⟨Nat.le_of_ble_eq_true rfl, Nat.le_of_ble_eq_true rfl⟩ rfl rfl) (c_X3_look hl0 hok h19 h9 h8 hln hw ht hcode hcg hrt a t (mm := mm)) (k2 := 2) (n2 := 12) (Nat.le_of_ble_eq_true rfl) (Nat.le_of_ble_eq_true rfl) (fun E9 hE9 => ?_) (fun r9 w9 hp9 => ?_)
  · obtain ⟨hEc, hE9⟩ := hE9
    have hps : ∀ z ∈ ([] : List ExceptionTableEntry), covers z (5) = false ∨ (z.catchType ≠ 0 ∧ ∃ nm : String, Cond.classLink yL_look.cls z.catchType nm ∈ wsL_look ∧ (E9, nm) ∈ vl_nc) := by
      intro z hz
      simp at hz
    refine vl_catch C0 (name := "java/lang/IndexOutOfBoundsException") [] (⟨0, 10, 13, 21⟩ : ExceptionTableEntry) [] (htb.trans rfl) hps (by decide) (by decide) (by decide +kernel) hEc (by rw [hEc]; decide) (fun qx => ?_)
    refine vl_astore (lv' := [(0, .ref (ad 0 0)), (1, .int a), (2, .int t), (3, .ref o), (4, .ref qx)]) C0 dL_look_13 [1, 2, 3, 4, 0] (by decide) rfl ?_
    refine vl_iconst (v := 1) C0 dL_look_15 (by decide) ?_
    exact vl_iretX C0 hA.symm hr (Or.inr (⟨rfl, hE9, rfl⟩)) (Nat.le_of_ble_eq_true rfl) (Nat.le_of_ble_eq_true rfl) dL_look_16
  · obtain ⟨g1, rfl, ja, jt, d2, g2, g3, g4, rfl, g5⟩ := hp9
    refine vl_i2l C0 dL_look_8 rfl ?_
    refine vl_last C0 (q0 := (cw cy ad nl ns par Rl d2).length + 0) (w2 := cw cy ad nl ns par Rl d2 ++ ((o, .inl (cy 4, 1, .inr (.inl (vp_updL f (0 : Int32).toNatClampNeg ((lkV ns nl par mm a t).toInt64))))) :: Z)) (wy_at rfl) (vp_in_iff.mpr (by decide)) wy_set dL_look_9 ?_
    refine vl_goto (tgt := 17) C0 dL_look_10 (by decide) ?_
    refine vl_iconst (v := 0) C0 dL_look_17 (by decide) ?_
    exact vl_iretX C0 hA.symm hr (Or.inl ⟨rfl, g1, ja, jt, d2, g2, g3, g4, rfl, g5⟩) (Nat.le_of_ble_eq_true rfl) (Nat.le_of_ble_eq_true rfl) dL_look_18
set_option maxHeartbeats 4000000 in
set_option maxRecDepth 100000 in
theorem c_L_seen {l : Launch} {D : va_G} {cy : Nat → ClassId} {ad : Nat → Nat → Nat} {nl ns : Nat} {par : Nat → Option Nat} {Rl : List (Nat × Nat)} {d : Nat → Nat → Nat → Int32} {mm : Nat → Nat → Int32} {o : Nat} {f : Nat → Int64} {Z : va_W} (hl0 : l.stackTraces = false) (hok : cw_ok nl ns Rl) (h19 : 1 ≤ nl) (h9 : nl ≤ 9) (hln : rLn nl mm d) (a : Int32): vl_Xi l D cy yL_seen wsL_seen { frames := 8, cells := 1, slots := 6, locals := 133 } 1 6 (cw cy ad nl ns par Rl d ++ ((o, .inl (cy 4, 1, .inr (.inl f))) :: Z)) [.ref (ad 0 0), .int a, .ref o] (fun r w' => (r = 0 ∧ inB a 0 (nI nl - 1) = true ∧  w' = cw cy ad nl ns par Rl d ++ ((o, .inl (cy 4, 1, .inr (.inl (vp_updL f (0 : Int32).toNatClampNeg ((mm 10 a.toNatClampNeg).toInt64))))) :: Z)) ∨ (r = 1 ∧ (inB a 0 (nI nl - 1) = false) ∧ w' = cw cy ad nl ns par Rl d ++ ((o, .inl (cy 4, 1, .inr (.inl f))) :: Z))) (fun _ => False) := by
  refine vl_openXiH hl0 (by decide) rfl (Nat.le_of_ble_eq_true rfl) ?_
  intro p e s m args below meth c C0 hr htb
  generalize hA : va_A (cw cy ad nl ns par Rl d ++ ((o, .inl (cy 4, 1, .inr (.inl f))) :: Z)) s.heap.size = A at C0 ⊢
  refine vl_lv (lv2 := [(0, .ref (ad 0 0)), (1, .int a), (2, .ref o)]) [0, 1, 2] rfl ?_
  refine vl_aload_n C0 dL_seen_0 2 rfl ?_
  refine vl_iconst (v := 0) C0 dL_seen_1 (by decide) ?_
  refine vl_aload_n C0 dL_seen_2 0 rfl ?_
  refine vl_iload_n C0 dL_seen_3 1 rfl ?_
  refine vl_xcalli C0 (vl_goVX C0 (As := [.int a]) (na := 1) (b := ad 0 0) (st := [.int 0, .ref o]) (ci := 3) gL_seen_X3_seen rfl rfl rfl (by decide +kernel) ⟨Nat.le_of_ble_eq_true rfl, Nat.le_of_ble_eq_true rfl⟩ rfl (rc_rec (cR0 hok) rfl) dL_seen_4 (Nat.le_of_ble_eq_true rfl) ⟨Nat.le_of_ble_eq_true rfl, Nat.le_of_ble_eq_true rfl⟩ rfl rfl) (c_X3_seen hl0 hok h19 h9 hln a (mm := mm)) (k2 := 1) (n2 := 6) (Nat.le_of_ble_eq_true rfl) (Nat.le_of_ble_eq_true rfl) (fun E9 hE9 => ?_) (fun r9 w9 hp9 => ?_)
  · obtain ⟨hEc, hE9⟩ := hE9
    have hps : ∀ z ∈ ([] : List ExceptionTableEntry), covers z (4) = false ∨ (z.catchType ≠ 0 ∧ ∃ nm : String, Cond.classLink yL_seen.cls z.catchType nm ∈ wsL_seen ∧ (E9, nm) ∈ vl_nc) := by
      intro z hz
      simp at hz
    refine vl_catch C0 (name := "java/lang/IndexOutOfBoundsException") [] (⟨0, 9, 12, 21⟩ : ExceptionTableEntry) [] (htb.trans rfl) hps (by decide) (by decide) (by decide +kernel) hEc (by rw [hEc]; decide) (fun qx => ?_)
    refine vl_astore_n (lv' := [(0, .ref (ad 0 0)), (1, .int a), (2, .ref o), (3, .ref qx)]) C0 dL_seen_12 [1, 2, 3, 0] (by decide) rfl ?_
    refine vl_iconst (v := 1) C0 dL_seen_13 (by decide) ?_
    exact vl_iretX C0 hA.symm hr (Or.inr (⟨rfl, hE9, rfl⟩)) (Nat.le_of_ble_eq_true rfl) (Nat.le_of_ble_eq_true rfl) dL_seen_14
  · obtain ⟨g1, rfl, rfl⟩ := hp9
    refine vl_i2l C0 dL_seen_7 rfl ?_
    refine vl_last C0 (q0 := (cw cy ad nl ns par Rl d).length + 0) (w2 := cw cy ad nl ns par Rl d ++ ((o, .inl (cy 4, 1, .inr (.inl (vp_updL f (0 : Int32).toNatClampNeg ((mm 10 a.toNatClampNeg).toInt64))))) :: Z)) (wy_at rfl) (vp_in_iff.mpr (by decide)) wy_set dL_seen_8 ?_
    refine vl_goto (tgt := 15) C0 dL_seen_9 (by decide) ?_
    refine vl_iconst (v := 0) C0 dL_seen_15 (by decide) ?_
    exact vl_iretX C0 hA.symm hr (Or.inl ⟨rfl, g1, rfl⟩) (Nat.le_of_ble_eq_true rfl) (Nat.le_of_ble_eq_true rfl) dL_seen_16
set_option maxHeartbeats 4000000 in
set_option maxRecDepth 100000 in
theorem c_L_ahead {l : Launch} {D : va_G} {cy : Nat → ClassId} {ad : Nat → Nat → Nat} {nl ns : Nat} {par : Nat → Option Nat} {Rl : List (Nat × Nat)} {d : Nat → Nat → Nat → Int32} {mm : Nat → Nat → Int32} {o : Nat} {f : Nat → Int64} {Z : va_W} (hl0 : l.stackTraces = false) (hok : cw_ok nl ns Rl) (h19 : 1 ≤ nl) (h9 : nl ≤ 9) (hln : rLn nl mm d) (a : Int32): vl_Xi l D cy yL_ahead wsL_ahead { frames := 8, cells := 1, slots := 6, locals := 133 } 1 6 (cw cy ad nl ns par Rl d ++ ((o, .inl (cy 4, 1, .inr (.inl f))) :: Z)) [.ref (ad 0 0), .int a, .ref o] (fun r w' => (r = 0 ∧ inB a 0 (nI nl - 1) = true ∧  w' = cw cy ad nl ns par Rl d ++ ((o, .inl (cy 4, 1, .inr (.inl (vp_updL f (0 : Int32).toNatClampNeg ((aheadI mm a.toNatClampNeg).toInt64))))) :: Z)) ∨ (r = 1 ∧ (inB a 0 (nI nl - 1) = false) ∧ w' = cw cy ad nl ns par Rl d ++ ((o, .inl (cy 4, 1, .inr (.inl f))) :: Z))) (fun _ => False) := by
  refine vl_openXiH hl0 (by decide) rfl (Nat.le_of_ble_eq_true rfl) ?_
  intro p e s m args below meth c C0 hr htb
  generalize hA : va_A (cw cy ad nl ns par Rl d ++ ((o, .inl (cy 4, 1, .inr (.inl f))) :: Z)) s.heap.size = A at C0 ⊢
  refine vl_lv (lv2 := [(0, .ref (ad 0 0)), (1, .int a), (2, .ref o)]) [0, 1, 2] rfl ?_
  refine vl_aload_n C0 dL_ahead_0 2 rfl ?_
  refine vl_iconst (v := 0) C0 dL_ahead_1 (by decide) ?_
  refine vl_aload_n C0 dL_ahead_2 0 rfl ?_
  refine vl_iload_n C0 dL_ahead_3 1 rfl ?_
  refine vl_xcalli C0 (vl_goVX C0 (As := [.int a]) (na := 1) (b := ad 0 0) (st := [.int 0, .ref o]) (ci := 3) gL_ahead_X3_ahead rfl rfl rfl (by decide +kernel) ⟨Nat.le_of_ble_eq_true rfl, Nat.le_of_ble_eq_true rfl⟩ rfl (rc_rec (cR0 hok) rfl) dL_ahead_4 (Nat.le_of_ble_eq_true rfl) ⟨Nat.le_of_ble_eq_true rfl, Nat.le_of_ble_eq_true rfl⟩ rfl rfl) (c_X3_ahead hl0 hok h19 h9 hln a (mm := mm)) (k2 := 1) (n2 := 6) (Nat.le_of_ble_eq_true rfl) (Nat.le_of_ble_eq_true rfl) (fun E9 hE9 => ?_) (fun r9 w9 hp9 => ?_)
  · obtain ⟨hEc, hE9⟩ := hE9
    have hps : ∀ z ∈ ([] : List ExceptionTableEntry), covers z (4) = false ∨ (z.catchType ≠ 0 ∧ ∃ nm : String, Cond.classLink yL_ahead.cls z.catchType nm ∈ wsL_ahead ∧ (E9, nm) ∈ vl_nc) := by
      intro z hz
      simp at hz
    refine vl_catch C0 (name := "java/lang/IndexOutOfBoundsException") [] (⟨0, 9, 12, 21⟩ : ExceptionTableEntry) [] (htb.trans rfl) hps (by decide) (by decide) (by decide +kernel) hEc (by rw [hEc]; decide) (fun qx => ?_)
    refine vl_astore_n (lv' := [(0, .ref (ad 0 0)), (1, .int a), (2, .ref o), (3, .ref qx)]) C0 dL_ahead_12 [1, 2, 3, 0] (by decide) rfl ?_
    refine vl_iconst (v := 1) C0 dL_ahead_13 (by decide) ?_
    exact vl_iretX C0 hA.symm hr (Or.inr (⟨rfl, hE9, rfl⟩)) (Nat.le_of_ble_eq_true rfl) (Nat.le_of_ble_eq_true rfl) dL_ahead_14
  · obtain ⟨g1, rfl, rfl⟩ := hp9
    refine vl_i2l C0 dL_ahead_7 rfl ?_
    refine vl_last C0 (q0 := (cw cy ad nl ns par Rl d).length + 0) (w2 := cw cy ad nl ns par Rl d ++ ((o, .inl (cy 4, 1, .inr (.inl (vp_updL f (0 : Int32).toNatClampNeg ((aheadI mm a.toNatClampNeg).toInt64))))) :: Z)) (wy_at rfl) (vp_in_iff.mpr (by decide)) wy_set dL_ahead_8 ?_
    refine vl_goto (tgt := 15) C0 dL_ahead_9 (by decide) ?_
    refine vl_iconst (v := 0) C0 dL_ahead_15 (by decide) ?_
    exact vl_iretX C0 hA.symm hr (Or.inl ⟨rfl, g1, rfl⟩) (Nat.le_of_ble_eq_true rfl) (Nat.le_of_ble_eq_true rfl) dL_ahead_16
set_option maxHeartbeats 4000000 in
set_option maxRecDepth 100000 in
theorem c_L_mark {l : Launch} {D : va_G} {cy : Nat → ClassId} {ad : Nat → Nat → Nat} {nl ns : Nat} {par : Nat → Option Nat} {Rl : List (Nat × Nat)} {d : Nat → Nat → Nat → Int32} {mm : Nat → Nat → Int32} {o : Nat} {f : Nat → Int64} {Z : va_W} (hl0 : l.stackTraces = false) (hok : cw_ok nl ns Rl) (h19 : 1 ≤ nl) (h9 : nl ≤ 9) (h8 : ns ≤ 8) (hln : rLn nl mm d) (hw : rWd ns mm d) (ht : mTree nl par mm) (hcode : ∀ j t, j < nl → t < 30 → codeOK ns (ordX (mm 11) par t (some j))) (hcg : ∀ q, q < ns → 0 ≤ mm 3 q) (hrt : ∀ b, b < 3 → 0 ≤ mm 4 b) (h0a : aheadI mm 0 = 0) (a : Int32): vl_Xi l D cy yL_mark wsL_mark { frames := 8, cells := 1, slots := 6, locals := 189 } 1 6 (cw cy ad nl ns par Rl d ++ ((o, .inl (cy 4, 1, .inr (.inl f))) :: Z)) [.ref (ad 0 0), .int a, .ref o] (fun r w' => (r = 0 ∧ inB a 0 (nI nl - 1) = true ∧  ∃ d', w' = cw cy ad nl ns par Rl d' ++ ((o, .inl (cy 4, 1, .inr (.inl (vp_updL f (0 : Int32).toNatClampNeg ((maV ns nl par mm a).toInt64))))) :: Z) ∧ dFr d d') ∨ (r = 1 ∧ (inB a 0 (nI nl - 1) = false) ∧ w' = cw cy ad nl ns par Rl d ++ ((o, .inl (cy 4, 1, .inr (.inl f))) :: Z))) (fun _ => False) := by
  refine vl_openXiH hl0 (by decide) rfl (Nat.le_of_ble_eq_true rfl) ?_
  intro p e s m args below meth c C0 hr htb
  generalize hA : va_A (cw cy ad nl ns par Rl d ++ ((o, .inl (cy 4, 1, .inr (.inl f))) :: Z)) s.heap.size = A at C0 ⊢
  refine vl_lv (lv2 := [(0, .ref (ad 0 0)), (1, .int a), (2, .ref o)]) [0, 1, 2] rfl ?_
  refine vl_aload_n C0 dL_mark_0 2 rfl ?_
  refine vl_iconst (v := 0) C0 dL_mark_1 (by decide) ?_
  refine vl_aload_n C0 dL_mark_2 0 rfl ?_
  refine vl_iload_n C0 dL_mark_3 1 rfl ?_
  refine vl_xcalli C0 (vl_goVX C0 (As := [.int a]) (na := 1) (b := ad 0 0) (st := [.int 0, .ref o]) (ci := 3) gL_mark_X3_mark rfl rfl rfl (by decide +kernel) ⟨Nat.le_of_ble_eq_true rfl, Nat.le_of_ble_eq_true rfl⟩ rfl (rc_rec (cR0 hok) rfl) dL_mark_4 (Nat.le_of_ble_eq_true rfl) ⟨Nat.le_of_ble_eq_true rfl, Nat.le_of_ble_eq_true rfl⟩ rfl rfl) (c_X3_mark hl0 hok h19 h9 h8 hln hw ht hcode hcg hrt h0a a (mm := mm)) (k2 := 1) (n2 := 6) (Nat.le_of_ble_eq_true rfl) (Nat.le_of_ble_eq_true rfl) (fun E9 hE9 => ?_) (fun r9 w9 hp9 => ?_)
  · obtain ⟨hEc, hE9⟩ := hE9
    have hps : ∀ z ∈ ([] : List ExceptionTableEntry), covers z (4) = false ∨ (z.catchType ≠ 0 ∧ ∃ nm : String, Cond.classLink yL_mark.cls z.catchType nm ∈ wsL_mark ∧ (E9, nm) ∈ vl_nc) := by
      intro z hz
      simp at hz
    refine vl_catch C0 (name := "java/lang/IndexOutOfBoundsException") [] (⟨0, 9, 12, 21⟩ : ExceptionTableEntry) [] (htb.trans rfl) hps (by decide) (by decide) (by decide +kernel) hEc (by rw [hEc]; decide) (fun qx => ?_)
    refine vl_astore_n (lv' := [(0, .ref (ad 0 0)), (1, .int a), (2, .ref o), (3, .ref qx)]) C0 dL_mark_12 [1, 2, 3, 0] (by decide) rfl ?_
    refine vl_iconst (v := 1) C0 dL_mark_13 (by decide) ?_
    exact vl_iretX C0 hA.symm hr (Or.inr (⟨rfl, hE9, rfl⟩)) (Nat.le_of_ble_eq_true rfl) (Nat.le_of_ble_eq_true rfl) dL_mark_14
  · obtain ⟨g1, rfl, d2, rfl, g2⟩ := hp9
    refine vl_i2l C0 dL_mark_7 rfl ?_
    refine vl_last C0 (q0 := (cw cy ad nl ns par Rl d2).length + 0) (w2 := cw cy ad nl ns par Rl d2 ++ ((o, .inl (cy 4, 1, .inr (.inl (vp_updL f (0 : Int32).toNatClampNeg ((maV ns nl par mm a).toInt64))))) :: Z)) (wy_at rfl) (vp_in_iff.mpr (by decide)) wy_set dL_mark_8 ?_
    refine vl_goto (tgt := 15) C0 dL_mark_9 (by decide) ?_
    refine vl_iconst (v := 0) C0 dL_mark_15 (by decide) ?_
    exact vl_iretX C0 hA.symm hr (Or.inl ⟨rfl, g1, d2, rfl, g2⟩) (Nat.le_of_ble_eq_true rfl) (Nat.le_of_ble_eq_true rfl) dL_mark_16
set_option maxHeartbeats 4000000 in
set_option maxRecDepth 100000 in
theorem c_L_addShip {l : Launch} {D : va_G} {cy : Nat → ClassId} {ad : Nat → Nat → Nat} {nl ns : Nat} {par : Nat → Option Nat} {Rl : List (Nat × Nat)} {d : Nat → Nat → Nat → Int32} {o : Nat} {f : Nat → Int64} {Z : va_W} (hl0 : l.stackTraces = false) (hok : cw_ok nl ns Rl) (h8 : ns ≤ 8) (hw1 : d 1 0 1 = nI ns) (a b c0 : Int32): vl_Xi l D cy yL_addShip wsL_addShip { frames := 7, cells := 1, slots := 6, locals := 113 } 1 6 (cw cy ad nl ns par Rl d ++ ((o, .inl (cy 4, 1, .inr (.inl f))) :: Z)) [.ref (ad 0 0), .int a, .int b, .int c0, .ref o] (fun r w' => (r = 0 ∧ (inB a 0 29 && inB b 0 2 && inB c0 1 100) = true ∧ ¬ ns = 8 ∧ ∃ q : Nat, w' = cw cy (adS ad ns q) nl (ns + 1) par Rl (up3 d 1 0 1 (nI ns + 1)) ++ ((o, .inl (cy 4, 1, .inr (.inl (vp_updL f (0 : Int32).toNatClampNeg ((nI ns).toInt64))))) :: (Z ++ [(q, .inr (2, [.int a, .int b, .int c0, .int (-2), .int c0]))]))) ∨ (r = 1 ∧ ((inB a 0 29 && inB b 0 2 && inB c0 1 100) = false) ∧ w' = cw cy ad nl ns par Rl d ++ ((o, .inl (cy 4, 1, .inr (.inl f))) :: Z)) ∨ (r = 2 ∧ ((inB a 0 29 && inB b 0 2 && inB c0 1 100) = true ∧ ns = 8) ∧ w' = cw cy ad nl ns par Rl d ++ ((o, .inl (cy 4, 1, .inr (.inl f))) :: Z))) (fun _ => False) := by
  refine vl_openXiH hl0 (by decide) rfl (Nat.le_of_ble_eq_true rfl) ?_
  intro p e s m args below meth c C0 hr htb
  generalize hA : va_A (cw cy ad nl ns par Rl d ++ ((o, .inl (cy 4, 1, .inr (.inl f))) :: Z)) s.heap.size = A at C0 ⊢
  refine vl_lv (lv2 := [(0, .ref (ad 0 0)), (1, .int a), (2, .int b), (3, .int c0), (4, .ref o)]) [0, 1, 2, 3, 4] rfl ?_
  refine vl_aload C0 dL_addShip_0 4 rfl ?_
  refine vl_iconst (v := 0) C0 dL_addShip_2 (by decide) ?_
  refine vl_aload_n C0 dL_addShip_3 0 rfl ?_
  refine vl_iload_n C0 dL_addShip_4 1 rfl ?_
  refine vl_iload_n C0 dL_addShip_5 2 rfl ?_
  refine vl_iload_n C0 dL_addShip_6 3 rfl ?_
  refine vl_xcalli C0 (vl_goVX C0 (As := [.int a, .int b, .int c0]) (na := 3) (b := ad 0 0) (st := [.int 0, .ref o]) (ci := 3) gL_addShip_X3_addShip rfl rfl rfl (by decide +kernel) ⟨Nat.le_of_ble_eq_true rfl, Nat.le_of_ble_eq_true rfl⟩ rfl (rc_rec (cR0 hok) rfl) dL_addShip_7 (Nat.le_of_ble_eq_true rfl) ⟨Nat.le_of_ble_eq_true rfl, Nat.le_of_ble_eq_true rfl⟩ rfl rfl) (c_X3_addShip hl0 hok h8 hw1 a b c0) (k2 := 1) (n2 := 6) (Nat.le_of_ble_eq_true rfl) (Nat.le_of_ble_eq_true rfl) (fun E9 hE9 => ?_) (fun r9 w9 hp9 => ?_)
  · rcases hE9 with ⟨hEc, hE9⟩ | ⟨hEc, hE9⟩
    · skip
      have hps : ∀ z ∈ ([] : List ExceptionTableEntry), covers z (7) = false ∨ (z.catchType ≠ 0 ∧ ∃ nm : String, Cond.classLink yL_addShip.cls z.catchType nm ∈ wsL_addShip ∧ (E9, nm) ∈ vl_nc) := by
        intro z hz
        simp at hz
      refine vl_catch C0 (name := "java/lang/IllegalArgumentException") [] (⟨0, 12, 15, 13⟩ : ExceptionTableEntry) [(⟨0, 12, 19, 15⟩ : ExceptionTableEntry)] (htb.trans rfl) hps (by decide) (by decide) (by decide +kernel) hEc (by rw [hEc]; decide) (fun qx => ?_)
      refine vl_astore (lv' := [(0, .ref (ad 0 0)), (1, .int a), (2, .int b), (3, .int c0), (4, .ref o), (5, .ref qx)]) C0 dL_addShip_15 [1, 2, 3, 4, 5, 0] (by decide) rfl ?_
      refine vl_iconst (v := 1) C0 dL_addShip_17 (by decide) ?_
      exact vl_iretX C0 hA.symm hr (Or.inr (Or.inl ⟨rfl, hE9, rfl⟩)) (Nat.le_of_ble_eq_true rfl) (Nat.le_of_ble_eq_true rfl) dL_addShip_18
    · skip
      have hps : ∀ z ∈ ([(⟨0, 12, 15, 13⟩ : ExceptionTableEntry)] : List ExceptionTableEntry), covers z (7) = false ∨ (z.catchType ≠ 0 ∧ ∃ nm : String, Cond.classLink yL_addShip.cls z.catchType nm ∈ wsL_addShip ∧ (E9, nm) ∈ vl_nc) := by
        intro z hz
        simp only [List.mem_cons, List.mem_nil_iff, or_false] at hz
        subst hz
        exact Or.inr ⟨by decide, "java/lang/IllegalArgumentException", (show Cond.classLink RL 13 "java/lang/IllegalArgumentException" ∈ _ by decide +kernel), by rw [hEc]; decide⟩
      refine vl_catch C0 (name := "java/lang/IllegalStateException") [(⟨0, 12, 15, 13⟩ : ExceptionTableEntry)] (⟨0, 12, 19, 15⟩ : ExceptionTableEntry) [] (htb.trans rfl) hps (by decide) (by decide) (by decide +kernel) hEc (by rw [hEc]; decide) (fun qx => ?_)
      refine vl_astore (lv' := [(0, .ref (ad 0 0)), (1, .int a), (2, .int b), (3, .int c0), (4, .ref o), (5, .ref qx)]) C0 dL_addShip_19 [1, 2, 3, 4, 5, 0] (by decide) rfl ?_
      refine vl_iconst (v := 2) C0 dL_addShip_21 (by decide) ?_
      exact vl_iretX C0 hA.symm hr (Or.inr (Or.inr (⟨rfl, hE9, rfl⟩))) (Nat.le_of_ble_eq_true rfl) (Nat.le_of_ble_eq_true rfl) dL_addShip_22
  · obtain ⟨g1, g2, rfl, q, rfl⟩ := hp9
    refine vl_w (w2 := cw cy (adS ad ns q) nl (ns + 1) par Rl (up3 d 1 0 1 (nI ns + 1)) ++ ((o, .inl (cy 4, 1, .inr (.inl f))) :: (Z ++ [(q, .inr (2, [.int a, .int b, .int c0, .int (-2), .int c0]))]))) rfl ?_
    refine vl_i2l C0 dL_addShip_10 rfl ?_
    refine vl_last C0 (q0 := (cw cy (adS ad ns q) nl (ns + 1) par Rl (up3 d 1 0 1 (nI ns + 1))).length + 0) (w2 := cw cy (adS ad ns q) nl (ns + 1) par Rl (up3 d 1 0 1 (nI ns + 1)) ++ ((o, .inl (cy 4, 1, .inr (.inl (vp_updL f (0 : Int32).toNatClampNeg ((nI ns).toInt64))))) :: (Z ++ [(q, .inr (2, [.int a, .int b, .int c0, .int (-2), .int c0]))]))) (wy_at rfl) (vp_in_iff.mpr (by decide)) wy_set dL_addShip_11 ?_
    refine vl_goto (tgt := 23) C0 dL_addShip_12 (by decide) ?_
    refine vl_iconst (v := 0) C0 dL_addShip_23 (by decide) ?_
    exact vl_iretX C0 hA.symm hr (Or.inl ⟨rfl, g1, g2, q, rfl⟩) (Nat.le_of_ble_eq_true rfl) (Nat.le_of_ble_eq_true rfl) dL_addShip_24
set_option maxHeartbeats 4000000 in
set_option maxRecDepth 100000 in
theorem c_L_fork {l : Launch} {D : va_G} {cy : Nat → ClassId} {ad : Nat → Nat → Nat} {nl ns : Nat} {par : Nat → Option Nat} {Rl : List (Nat × Nat)} {d : Nat → Nat → Nat → Int32} {o : Nat} {f : Nat → Int64} {Z : va_W} (hl0 : l.stackTraces = false) (hok : cw_ok nl ns Rl) (h19 : 1 ≤ nl) (h9 : nl ≤ 9) (hfk : d 0 0 3 = nI (nl - 1)) (htp : ∀ i p, par i = some p → p < i) (a t : Int32): vl_Xi l D cy yL_fork wsL_fork { frames := 8, cells := 4, slots := 48, locals := 135 } 4 48 (cw cy ad nl ns par Rl d ++ ((o, .inl (cy 4, 1, .inr (.inl f))) :: Z)) [.ref (ad 0 0), .int a, .int t, .ref o] (fun r w' => (r = 0 ∧ (inB a 0 (nI nl - 1) && inB t 0 29) = true ∧ ¬ nl = 9 ∧ ∃ ja jt q47 q7 : Nat, a = nI ja ∧ t = nI jt ∧ ja < nl ∧ jt < 30 ∧ w' = cw cy (adL ad nl q47 q7) (nl + 1) ns (parL par nl ja) Rl (up3 d 0 0 3 (nI nl)) ++ ((o, .inl (cy 4, 1, .inr (.inl (vp_updL f (0 : Int32).toNatClampNeg ((nI nl).toInt64))))) :: (Z ++ [(q47, .inr (1, [.ref (ad 5 ja), .int (nI jt), .ref q7, .int 0, .int 0, .int (d 5 ja 5)])), (q7, .inl (cy 0, 30, .inl (fun _ => 0)))]))) ∨ (r = 1 ∧ ((inB a 0 (nI nl - 1) && inB t 0 29) = false) ∧ w' = cw cy ad nl ns par Rl d ++ ((o, .inl (cy 4, 1, .inr (.inl f))) :: Z)) ∨ (r = 2 ∧ ((inB a 0 (nI nl - 1) && inB t 0 29) = true ∧ nl = 9) ∧ w' = cw cy ad nl ns par Rl d ++ ((o, .inl (cy 4, 1, .inr (.inl f))) :: Z))) (fun _ => False) := by
  refine vl_openXiH hl0 (by decide) rfl (Nat.le_of_ble_eq_true rfl) ?_
  intro p e s m args below meth c C0 hr htb
  generalize hA : va_A (cw cy ad nl ns par Rl d ++ ((o, .inl (cy 4, 1, .inr (.inl f))) :: Z)) s.heap.size = A at C0 ⊢
  refine vl_lv (lv2 := [(0, .ref (ad 0 0)), (1, .int a), (2, .int t), (3, .ref o)]) [0, 1, 2, 3] rfl ?_
  refine vl_aload_n C0 dL_fork_0 3 rfl ?_
  refine vl_iconst (v := 0) C0 dL_fork_1 (by decide) ?_
  refine vl_aload_n C0 dL_fork_2 0 rfl ?_
  refine vl_iload_n C0 dL_fork_3 1 rfl ?_
  refine vl_iload_n C0 dL_fork_4 2 rfl ?_
  refine vl_xcalli C0 (vl_goVX C0 (As := [.int a, .int t]) (na := 2) (b := ad 0 0) (st := [.int 0, .ref o]) (ci := 3) gL_fork_X3_fork rfl rfl rfl (by decide +kernel) ⟨Nat.le_of_ble_eq_true rfl, Nat.le_of_ble_eq_true rfl⟩ rfl (rc_rec (cR0 hok) rfl) dL_fork_5 (Nat.le_of_ble_eq_true rfl) ⟨Nat.le_of_ble_eq_true rfl, Nat.le_of_ble_eq_true rfl⟩ rfl rfl) (c_X3_fork hl0 hok h19 h9 hfk htp a t) (k2 := 4) (n2 := 48) (Nat.le_of_ble_eq_true rfl) (Nat.le_of_ble_eq_true rfl) (fun E9 hE9 => ?_) (fun r9 w9 hp9 => ?_)
  · rcases hE9 with ⟨hEc, hE9⟩ | ⟨hEc, hE9⟩
    · skip
      have hps : ∀ z ∈ ([] : List ExceptionTableEntry), covers z (5) = false ∨ (z.catchType ≠ 0 ∧ ∃ nm : String, Cond.classLink yL_fork.cls z.catchType nm ∈ wsL_fork ∧ (E9, nm) ∈ vl_nc) := by
        intro z hz
        simp at hz
      refine vl_catch C0 (name := "java/lang/IndexOutOfBoundsException") [] (⟨0, 10, 13, 21⟩ : ExceptionTableEntry) [(⟨0, 10, 17, 15⟩ : ExceptionTableEntry)] (htb.trans rfl) hps (by decide) (by decide) (by decide +kernel) hEc (by rw [hEc]; decide) (fun qx => ?_)
      refine vl_astore (lv' := [(0, .ref (ad 0 0)), (1, .int a), (2, .int t), (3, .ref o), (4, .ref qx)]) C0 dL_fork_13 [1, 2, 3, 4, 0] (by decide) rfl ?_
      refine vl_iconst (v := 1) C0 dL_fork_15 (by decide) ?_
      exact vl_iretX C0 hA.symm hr (Or.inr (Or.inl ⟨rfl, hE9, rfl⟩)) (Nat.le_of_ble_eq_true rfl) (Nat.le_of_ble_eq_true rfl) dL_fork_16
    · skip
      have hps : ∀ z ∈ ([(⟨0, 10, 13, 21⟩ : ExceptionTableEntry)] : List ExceptionTableEntry), covers z (5) = false ∨ (z.catchType ≠ 0 ∧ ∃ nm : String, Cond.classLink yL_fork.cls z.catchType nm ∈ wsL_fork ∧ (E9, nm) ∈ vl_nc) := by
        intro z hz
        simp only [List.mem_cons, List.mem_nil_iff, or_false] at hz
        subst hz
        exact Or.inr ⟨by decide, "java/lang/IndexOutOfBoundsException", (show Cond.classLink RL 21 "java/lang/IndexOutOfBoundsException" ∈ _ by decide +kernel), by rw [hEc]; decide⟩
      refine vl_catch C0 (name := "java/lang/IllegalStateException") [(⟨0, 10, 13, 21⟩ : ExceptionTableEntry)] (⟨0, 10, 17, 15⟩ : ExceptionTableEntry) [] (htb.trans rfl) hps (by decide) (by decide) (by decide +kernel) hEc (by rw [hEc]; decide) (fun qx => ?_)
      refine vl_astore (lv' := [(0, .ref (ad 0 0)), (1, .int a), (2, .int t), (3, .ref o), (4, .ref qx)]) C0 dL_fork_17 [1, 2, 3, 4, 0] (by decide) rfl ?_
      refine vl_iconst (v := 2) C0 dL_fork_19 (by decide) ?_
      exact vl_iretX C0 hA.symm hr (Or.inr (Or.inr (⟨rfl, hE9, rfl⟩))) (Nat.le_of_ble_eq_true rfl) (Nat.le_of_ble_eq_true rfl) dL_fork_20
  · obtain ⟨g1, g2, rfl, ja, jt, q47, q7, g3, g4, g5, g6, rfl⟩ := hp9
    refine vl_w (w2 := cw cy (adL ad nl q47 q7) (nl + 1) ns (parL par nl ja) Rl (up3 d 0 0 3 (nI nl)) ++ ((o, .inl (cy 4, 1, .inr (.inl f))) :: (Z ++ [(q47, .inr (1, [.ref (ad 5 ja), .int (nI jt), .ref q7, .int 0, .int 0, .int (d 5 ja 5)])), (q7, .inl (cy 0, 30, .inl (fun _ => 0)))]))) rfl ?_
    refine vl_i2l C0 dL_fork_8 rfl ?_
    refine vl_last C0 (q0 := (cw cy (adL ad nl q47 q7) (nl + 1) ns (parL par nl ja) Rl (up3 d 0 0 3 (nI nl))).length + 0) (w2 := cw cy (adL ad nl q47 q7) (nl + 1) ns (parL par nl ja) Rl (up3 d 0 0 3 (nI nl)) ++ ((o, .inl (cy 4, 1, .inr (.inl (vp_updL f (0 : Int32).toNatClampNeg ((nI nl).toInt64))))) :: (Z ++ [(q47, .inr (1, [.ref (ad 5 ja), .int (nI jt), .ref q7, .int 0, .int 0, .int (d 5 ja 5)])), (q7, .inl (cy 0, 30, .inl (fun _ => 0)))]))) (wy_at rfl) (vp_in_iff.mpr (by decide)) wy_set dL_fork_9 ?_
    refine vl_goto (tgt := 21) C0 dL_fork_10 (by decide) ?_
    refine vl_iconst (v := 0) C0 dL_fork_21 (by decide) ?_
    exact vl_iretX C0 hA.symm hr (Or.inl ⟨rfl, g1, g2, ja, jt, q47, q7, g3, g4, g5, g6, rfl⟩) (Nat.le_of_ble_eq_true rfl) (Nat.le_of_ble_eq_true rfl) dL_fork_22
end VL9
