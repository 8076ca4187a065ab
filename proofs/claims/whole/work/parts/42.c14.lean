section VC14
set_option maxHeartbeats 4000000 in
set_option maxRecDepth 100000 in
theorem c_X0_admit {l : Launch} {D : va_G} {cy : Nat → ClassId} {ad : Nat → Nat → Nat} {nl ns : Nat} {par : Nat → Option Nat} {Rl : List (Nat × Nat)} {d : Nat → Nat → Nat → Int32} {X : va_W} (hl0 : l.stackTraces = false) (hok : cw_ok nl ns Rl) (h8 : ns ≤ 8) (q : Nat) (hn8 : ns < 8) (hw1 : d 1 0 1 = nI ns) (hq : ∃ (qk : Nat) (vs : List Value), X[qk]? = some (q, .inr (2, vs))) : vl_Ki l D cy yX0_admit wsX0_admit { frames := 0, cells := 0, slots := 0, locals := 0 } 0 0 (cw cy ad nl ns par Rl d ++ X) [.ref (ad 1 0), .ref q] (fun r w' => r = nI ns ∧ w' = cw cy (adS ad ns q) nl (ns + 1) par Rl (up3 d 1 0 1 (nI ns + 1)) ++ X) := by
  refine vl_openi hl0 (by decide) rfl (Nat.le_of_ble_eq_true rfl) rfl ?_
  intro p e s m args below meth c C0 hr hnm
  generalize hA : va_A (cw cy ad nl ns par Rl d ++ X) s.heap.size = A at C0 ⊢
  refine vl_lv (lv2 := [(0, .ref (ad 1 0)), (1, .ref q)]) [0, 1] rfl ?_
  have hinX0 : ∀ x ∈ u_ws RX0 TX0 7, x ∈ wsX0_admit := by decide +kernel
  refine vl_aload_n C0 dX0_admit_0 0 rfl ?_
  refine rc_get C0 (C := RX0) (T := TX0) (N := 7) (ci := 0) hinX0 (cR1 hok) rfl rfl 1 (by decide) (by decide +kernel) (v := .int (nI ns)) (congrArg (fun z => some (Value.int z)) (hw1)) dX0_admit_1 ?_
  refine vl_istore_n (lv' := [(0, .ref (ad 1 0)), (1, .ref q), (2, .int (nI ns))]) C0 dX0_admit_4 [1, 2, 0] (by decide) rfl ?_
  refine vl_iload_n C0 dX0_admit_5 2 rfl ?_
  refine vl_aload_n C0 dX0_admit_6 0 rfl ?_
  refine rc_get C0 (C := RX0) (T := TX0) (N := 7) (ci := 0) hinX0 (cR1 hok) rfl rfl 0 (by decide) (by decide +kernel) (v := .ref (ad 3 0)) (rfl) dX0_admit_7 ?_
  refine rc_alen C0 3 (cR3 hok) rfl rfl (v := 8) rfl dX0_admit_10 ?_
  refine vl_icmp_ge (tgt := 31) C0 dX0_admit_11 (by decide) (fun (h11 : (8 : Int32) ≤ (nI ns : Int32)) => absurd h11 (nI_ge (show ns < 8 by omega) (by decide))) (fun (h11 : ¬ (8 : Int32) ≤ (nI ns : Int32)) => ?_)
  refine vl_aload_n C0 dX0_admit_14 0 rfl ?_
  refine rc_get C0 (C := RX0) (T := TX0) (N := 7) (ci := 0) hinX0 (cR1 hok) rfl rfl 0 (by decide) (by decide +kernel) (v := .ref (ad 3 0)) (rfl) dX0_admit_15 ?_
  refine vl_iload_n C0 dX0_admit_18 2 rfl ?_
  refine vl_aload_n C0 dX0_admit_19 1 rfl ?_
  obtain ⟨qk, vs, hq⟩ := hq
  obtain ⟨q0, hs1, hs2⟩ := cw_S (cy := cy) (ad := ad) (nl := nl) (q := q) (par := par) (d := d) (X := X) hok
  refine vl_astS C0 (w2 := cw cy (adS ad ns q) nl (ns + 1) par Rl d ++ X) hs1 (wy_at hq) (vp_in_nI (show ns < 8 by omega) (by decide)) (by rw [nI_clamp (show ns < 2 ^ 31 by omega)]; exact hs2) dX0_admit_20 ?_
  refine vl_lv (lv2 := [(0, .ref (adS ad ns q 1 0)), (1, .ref q), (2, .int (nI ns))]) [0, 1, 2] rfl ?_
  refine vl_aload_n C0 dX0_admit_21 0 rfl ?_
  refine vl_dup C0 dX0_admit_22 rfl ?_
  refine rc_get C0 (C := RX0) (T := TX0) (N := 7) (ci := 0) hinX0 (cR1 hok) rfl rfl 1 (by decide) (by decide +kernel) (v := .int (nI ns)) (congrArg (fun z => some (Value.int z)) (hw1)) dX0_admit_23 ?_
  refine vl_iconst (v := 1) C0 dX0_admit_26 (by decide) ?_
  refine vl_iadd C0 dX0_admit_27 ?_
  refine rc_put C0 (C := RX0) (T := TX0) (N := 7) (ci := 0) hinX0 tyX0 tyX0_ok nmX0 hok.1 (cR1 hok) rfl rfl 1 (by decide) (by decide +kernel) rfl rfl (Nat.le_of_ble_eq_true rfl) rfl dX0_admit_28 ?_
  refine vl_iload_n C0 dX0_admit_31 2 rfl ?_
  exact vl_iret C0 hA.symm hr ⟨rfl, rfl⟩ (Nat.le_of_ble_eq_true rfl) (Nat.le_of_ble_eq_true rfl) dX0_admit_32
theorem inB_1 {v : Int32} : inB v 1 100 = true ↔ ¬ v < 1 ∧ v ≤ 100 := by
  simp only [inB, Bool.and_eq_true, decide_eq_true_eq, Int32.not_lt]
theorem inB_02 {v : Int32} : inB v 0 2 = true ↔ ¬ v < 0 ∧ v ≤ 2 := by
  simp only [inB, Bool.and_eq_true, decide_eq_true_eq, Int32.not_lt]
set_option maxHeartbeats 4000000 in
set_option maxRecDepth 100000 in
theorem c_X3_addShip {l : Launch} {D : va_G} {cy : Nat → ClassId} {ad : Nat → Nat → Nat} {nl ns : Nat} {par : Nat → Option Nat} {Rl : List (Nat × Nat)} {d : Nat → Nat → Nat → Int32} {X : va_W} (hl0 : l.stackTraces = false) (hok : cw_ok nl ns Rl) (h8 : ns ≤ 8) (hw1 : d 1 0 1 = nI ns) (a b c0 : Int32) : vl_Xi l D cy yX3_addShip wsX3_addShip { frames := 6, cells := 1, slots := 6, locals := 90 } 1 6 (cw cy ad nl ns par Rl d ++ X) [.ref (ad 0 0), .int a, .int b, .int c0] (fun r w' => (inB a 0 29 && inB b 0 2 && inB c0 1 100) = true ∧ ¬ ns = 8 ∧ r = nI ns ∧ ∃ q : Nat, w' = cw cy (adS ad ns q) nl (ns + 1) par Rl (up3 d 1 0 1 (nI ns + 1)) ++ (X ++ [(q, .inr (2, [.int a, .int b, .int c0, .int (-2), .int c0]))])) (fun E => (E = "java/lang/IllegalArgumentException" ∧ (inB a 0 29 && inB b 0 2 && inB c0 1 100) = false) ∨ (E = "java/lang/IllegalStateException" ∧ (inB a 0 29 && inB b 0 2 && inB c0 1 100) = true ∧ ns = 8)) := by
  refine vl_openXi hl0 (by decide) rfl (Nat.le_of_ble_eq_true rfl) rfl ?_
  intro p e s m args below meth c C0 hr hnm hex
  generalize hA : va_A (cw cy ad nl ns par Rl d ++ X) s.heap.size = A at C0 ⊢
  refine vl_lv (lv2 := [(0, .ref (ad 0 0)), (1, .int a), (2, .int b), (3, .int c0)]) [0, 1, 2, 3] rfl ?_
  have hinX3 : ∀ x ∈ u_ws RX3 TX3 4, x ∈ wsX3_addShip := by decide +kernel
  have hinX0 : ∀ x ∈ u_ws RX0 TX0 7, x ∈ wsX3_addShip := by decide +kernel
  have hinX2 : ∀ x ∈ u_ws RX2 TX2 5, x ∈ wsX3_addShip := by decide +kernel
  refine vl_iload_n C0 dX3_addShip_0 1 rfl ?_
  refine vl_calli C0 (vl_goS C0 (As := [.int a]) (na := 1) (st := []) gX3_addShip_X3_isTurn rfl rfl rfl (by decide +kernel) ⟨Nat.le_of_ble_eq_true rfl, Nat.le_of_ble_eq_true rfl⟩ dX3_addShip_1 (Nat.le_of_ble_eq_true rfl) ⟨Nat.le_of_ble_eq_true rfl, Nat.le_of_ble_eq_true rfl⟩ rfl rfl) (c_X3_isTurn hl0 a) (k2 := 0) (n2 := 0) (Nat.le_of_ble_eq_true rfl) (Nat.le_of_ble_eq_true rfl) (fun r9 w9 hp9 => ?_)
  obtain ⟨rfl, rfl⟩ := hp9
  refine vl_if_ne (tgt := 17) C0 dX3_addShip_4 (by decide) (fun (h4 : ¬ (bI (inB a 0 29) : Int32) = (0 : Int32)) => ?_) (fun (h4 : (bI (inB a 0 29) : Int32) = (0 : Int32)) => ?_)
  · have g4 := bI_n.mp h4
    refine vl_iload_n C0 dX3_addShip_17 2 rfl ?_
    refine vl_if_lt (tgt := 26) C0 dX3_addShip_18 (by decide) (fun (h18 : (b : Int32) < (0 : Int32)) => ?_) (fun (h18 : ¬ (b : Int32) < (0 : Int32)) => ?_)
    · exact vl_throw (ic := 41) (is := 44) (text := "draught is out of range") (names := ["java/lang/RuntimeException", "java/lang/Exception"]) C0 hA.symm rfl (by decide +kernel) (by decide +kernel) (by decide +kernel) (by decide +kernel) (by decide +kernel) (by decide +kernel) (by decide +kernel) (by decide +kernel) hex dX3_addShip_26 dX3_addShip_29 dX3_addShip_30 dX3_addShip_32 dX3_addShip_35 (Nat.le_of_ble_eq_true rfl) (Nat.le_of_ble_eq_true rfl) (Nat.le_of_ble_eq_true rfl) (Nat.le_of_ble_eq_true rfl) (Nat.le_of_ble_eq_true rfl) (Nat.le_of_ble_eq_true rfl) (Or.inl ⟨rfl, Bool.eq_false_iff.mpr (fun q => (inB_02.mp (Bool.and_eq_true_iff.mp (Bool.and_eq_true_iff.mp q).1).2).1 h18)⟩)
    · refine vl_iload_n C0 dX3_addShip_21 2 rfl ?_
      refine vl_iconst (v := 2) C0 dX3_addShip_22 (by decide) ?_
      refine vl_icmp_le (tgt := 36) C0 dX3_addShip_23 (by decide) (fun (h23 : (b : Int32) ≤ (2 : Int32)) => ?_) (fun (h23 : ¬ (b : Int32) ≤ (2 : Int32)) => ?_)
      · refine vl_iload_n C0 dX3_addShip_36 3 rfl ?_
        refine vl_iconst (v := 1) C0 dX3_addShip_37 (by decide) ?_
        refine vl_icmp_lt (tgt := 47) C0 dX3_addShip_38 (by decide) (fun (h38 : (c0 : Int32) < (1 : Int32)) => ?_) (fun (h38 : ¬ (c0 : Int32) < (1 : Int32)) => ?_)
        · exact vl_throw (ic := 41) (is := 46) (text := "cargo is out of range") (names := ["java/lang/RuntimeException", "java/lang/Exception"]) C0 hA.symm rfl (by decide +kernel) (by decide +kernel) (by decide +kernel) (by decide +kernel) (by decide +kernel) (by decide +kernel) (by decide +kernel) (by decide +kernel) hex dX3_addShip_47 dX3_addShip_50 dX3_addShip_51 dX3_addShip_53 dX3_addShip_56 (Nat.le_of_ble_eq_true rfl) (Nat.le_of_ble_eq_true rfl) (Nat.le_of_ble_eq_true rfl) (Nat.le_of_ble_eq_true rfl) (Nat.le_of_ble_eq_true rfl) (Nat.le_of_ble_eq_true rfl) (Or.inl ⟨rfl, Bool.eq_false_iff.mpr (fun q => (inB_1.mp (Bool.and_eq_true_iff.mp q).2).1 h38)⟩)
        · refine vl_iload_n C0 dX3_addShip_41 3 rfl ?_
          refine vl_bipush (v := 100) C0 dX3_addShip_42 (by decide) ?_
          refine vl_icmp_le (tgt := 57) C0 dX3_addShip_44 (by decide) (fun (h44 : (c0 : Int32) ≤ (100 : Int32)) => ?_) (fun (h44 : ¬ (c0 : Int32) ≤ (100 : Int32)) => ?_)
          · refine vl_aload_n C0 dX3_addShip_57 0 rfl ?_
            refine rc_get C0 (C := RX3) (T := TX3) (N := 4) (ci := 3) hinX3 (cR0 hok) rfl rfl 0 (by decide) (by decide +kernel) (v := .ref (ad 1 0)) (rfl) dX3_addShip_58 ?_
            refine rc_getN C0 (C := RX0) (T := TX0) (N := 7) (ci := 0) hinX0 (cR1 hok) rfl rfl 1 (by decide) (by decide +kernel) (v := .int (nI ns)) (congrArg (fun z => some (Value.int z)) (hw1)) dX3_addShip_61 ?_
            refine vl_bipush (v := 8) C0 dX3_addShip_64 (by decide) ?_
            refine vl_icmp_lt (tgt := 79) C0 dX3_addShip_66 (by decide) (fun (h66 : (nI ns : Int32) < (8 : Int32)) => ?_) (fun (h66 : ¬ (nI ns : Int32) < (8 : Int32)) => ?_)
            · have hn8 : ns < 8 := by have z : ¬ 8 ≤ ns := fun q => absurd h66 (nI_nlt q (by omega)); omega
              refine vl_aload_n C0 dX3_addShip_79 0 rfl ?_
              refine rc_get C0 (C := RX3) (T := TX3) (N := 4) (ci := 3) hinX3 (cR0 hok) rfl rfl 0 (by decide) (by decide +kernel) (v := .ref (ad 1 0)) (rfl) dX3_addShip_80 ?_
              refine vl_new C0 (C := RX2) (T := TX2) (N := 5) (ci := 2) (fs := [.int 0, .int 0, .int 0, .int 0, .int 0]) hinX2 tyX2 tyX2_ok (by decide +kernel) (by decide +kernel) (by decide +kernel) rfl (by decide +kernel) (Nat.le_of_ble_eq_true rfl) (Nat.le_of_ble_eq_true rfl) dX3_addShip_83 (fun q83 => ?_)
              refine vl_wid (k2 := 1) (n2 := 5) (Nat.le_of_ble_eq_true rfl) (Nat.le_of_ble_eq_true rfl) ?_
              refine vl_dup C0 dX3_addShip_86 rfl ?_
              refine vl_iload_n C0 dX3_addShip_87 1 rfl ?_
              refine vl_iload_n C0 dX3_addShip_88 2 rfl ?_
              refine vl_iload_n C0 dX3_addShip_89 3 rfl ?_
              refine vl_callv C0 (vl_goIN C0 (As := [.int a, .int b, .int c0]) (na := 3) (b := q83) (st := [.ref q83, .ref (ad 1 0)]) gX3_addShip_X2_init_n58 rfl rfl rfl (by decide +kernel) (by decide +kernel) (by decide +kernel) rfl (by decide +kernel) ⟨Nat.le_of_ble_eq_true rfl, Nat.le_of_ble_eq_true rfl⟩ dX3_addShip_90 (Nat.le_of_ble_eq_true rfl) ⟨Nat.le_of_ble_eq_true rfl, Nat.le_of_ble_eq_true rfl⟩ rfl rfl) (c_X2_init (Y := cw cy ad nl ns par Rl d ++ X) hl0 q83 a b c0) (k2 := 1) (n2 := 5) (Nat.le_of_ble_eq_true rfl) (Nat.le_of_ble_eq_true rfl) (fun w9 hp9 => ?_)
              subst hp9
              refine vl_w (w2 := cw cy ad nl ns par Rl d ++ (X ++ [(q83, .inr (2, [.int a, .int b, .int c0, .int (-2), .int c0]))])) (List.append_assoc _ _ _) ?_
              refine vl_calli C0 (vl_goVN C0 (As := [.ref q83]) (na := 1) (b := ad 1 0) (st := []) (ci := 0) gX3_addShip_X0_admit_n61 rfl rfl rfl (by decide +kernel) (by decide +kernel) (by decide +kernel) (by decide +kernel) (by decide +kernel) ⟨Nat.le_of_ble_eq_true rfl, Nat.le_of_ble_eq_true rfl⟩ rfl (rc_rec (cR1 hok) rfl) dX3_addShip_93 (Nat.le_of_ble_eq_true rfl) ⟨Nat.le_of_ble_eq_true rfl, Nat.le_of_ble_eq_true rfl⟩ rfl rfl) (c_X0_admit hl0 hok h8 q83 (by omega) hw1 ⟨X.length + 0, _, wy_at rfl⟩) (k2 := 1) (n2 := 5) (Nat.le_of_ble_eq_true rfl) (Nat.le_of_ble_eq_true rfl) (fun r9 w9 hp9 => ?_)
              obtain ⟨rfl, rfl⟩ := hp9
              exact vl_iretX C0 hA.symm hr ⟨(Bool.and_eq_true_iff.mpr ⟨Bool.and_eq_true_iff.mpr ⟨g4, inB_02.mpr ⟨h18, h23⟩⟩, inB_1.mpr ⟨h38, h44⟩⟩), (by have z : ns < 8 := hn8; omega), rfl, q83, rfl⟩ (Nat.le_of_ble_eq_true rfl) (Nat.le_of_ble_eq_true rfl) dX3_addShip_96
            · exact vl_throw (ic := 55) (is := 53) (text := "there are 8 ships") (names := ["java/lang/RuntimeException", "java/lang/Exception"]) C0 hA.symm rfl (by decide +kernel) (by decide +kernel) (by decide +kernel) (by decide +kernel) (by decide +kernel) (by decide +kernel) (by decide +kernel) (by decide +kernel) hex dX3_addShip_69 dX3_addShip_72 dX3_addShip_73 dX3_addShip_75 dX3_addShip_78 (Nat.le_of_ble_eq_true rfl) (Nat.le_of_ble_eq_true rfl) (Nat.le_of_ble_eq_true rfl) (Nat.le_of_ble_eq_true rfl) (Nat.le_of_ble_eq_true rfl) (Nat.le_of_ble_eq_true rfl) (Or.inr ⟨rfl, (Bool.and_eq_true_iff.mpr ⟨Bool.and_eq_true_iff.mpr ⟨g4, inB_02.mpr ⟨h18, h23⟩⟩, inB_1.mpr ⟨h38, h44⟩⟩), (by have z := h66; have z2 : ¬ ns < 8 := fun q => z (nI_lt q (by decide)); omega)⟩)
          · exact vl_throw (ic := 41) (is := 46) (text := "cargo is out of range") (names := ["java/lang/RuntimeException", "java/lang/Exception"]) C0 hA.symm rfl (by decide +kernel) (by decide +kernel) (by decide +kernel) (by decide +kernel) (by decide +kernel) (by decide +kernel) (by decide +kernel) (by decide +kernel) hex dX3_addShip_47 dX3_addShip_50 dX3_addShip_51 dX3_addShip_53 dX3_addShip_56 (Nat.le_of_ble_eq_true rfl) (Nat.le_of_ble_eq_true rfl) (Nat.le_of_ble_eq_true rfl) (Nat.le_of_ble_eq_true rfl) (Nat.le_of_ble_eq_true rfl) (Nat.le_of_ble_eq_true rfl) (Or.inl ⟨rfl, Bool.eq_false_iff.mpr (fun q => h44 (inB_1.mp (Bool.and_eq_true_iff.mp q).2).2)⟩)
      · exact vl_throw (ic := 41) (is := 44) (text := "draught is out of range") (names := ["java/lang/RuntimeException", "java/lang/Exception"]) C0 hA.symm rfl (by decide +kernel) (by decide +kernel) (by decide +kernel) (by decide +kernel) (by decide +kernel) (by decide +kernel) (by decide +kernel) (by decide +kernel) hex dX3_addShip_26 dX3_addShip_29 dX3_addShip_30 dX3_addShip_32 dX3_addShip_35 (Nat.le_of_ble_eq_true rfl) (Nat.le_of_ble_eq_true rfl) (Nat.le_of_ble_eq_true rfl) (Nat.le_of_ble_eq_true rfl) (Nat.le_of_ble_eq_true rfl) (Nat.le_of_ble_eq_true rfl) (Or.inl ⟨rfl, Bool.eq_false_iff.mpr (fun q => h23 (inB_02.mp (Bool.and_eq_true_iff.mp (Bool.and_eq_true_iff.mp q).1).2).2)⟩)
  · have g4 := bI_0.mp h4
    exact vl_throw (ic := 41) (is := 39) (text := "comes is out of range") (names := ["java/lang/RuntimeException", "java/lang/Exception"]) C0 hA.symm rfl (by decide +kernel) (by decide +kernel) (by decide +kernel) (by decide +kernel) (by decide +kernel) (by decide +kernel) (by decide +kernel) (by decide +kernel) hex dX3_addShip_7 dX3_addShip_10 dX3_addShip_11 dX3_addShip_13 dX3_addShip_16 (Nat.le_of_ble_eq_true rfl) (Nat.le_of_ble_eq_true rfl) (Nat.le_of_ble_eq_true rfl) (Nat.le_of_ble_eq_true rfl) (Nat.le_of_ble_eq_true rfl) (Nat.le_of_ble_eq_true rfl) (Or.inl ⟨rfl, Bool.eq_false_iff.mpr (fun q => absurd (Bool.and_eq_true_iff.mp (Bool.and_eq_true_iff.mp q).1).1 (by rw [g4]; decide))⟩)
end VC14
