section VC10
theorem inB_k2 {v : Int32} : inB v 0 2 = true ↔ v = 0 ∨ v = 1 ∨ v = 2 := by
  constructor
  · intro h
    obtain ⟨j, hj, rfl⟩ := inB_k h (by decide) (n := 3) (by decide)
    rcases (show j = 0 ∨ j = 1 ∨ j = 2 by omega) with rfl | rfl | rfl
    · exact Or.inl rfl
    · exact Or.inr (Or.inl rfl)
    · exact Or.inr (Or.inr rfl)
  · rintro (rfl | rfl | rfl) <;> decide
set_option maxHeartbeats 4000000 in
set_option maxRecDepth 100000 in
theorem c_X3_order {l : Launch} {D : va_G} {cy : Nat → ClassId} {ad : Nat → Nat → Nat} {nl ns : Nat} {par : Nat → Option Nat} {Rl : List (Nat × Nat)} {d : Nat → Nat → Nat → Int32} {X : va_W} {mm : Nat → Nat → Int32} (hl0 : l.stackTraces = false) (hok : cw_ok nl ns Rl) (h19 : 1 ≤ nl) (h9 : nl ≤ 9) (h8 : ns ≤ 8) (hln : rLn nl mm d) (a t k z b : Int32) : vl_Xi l D cy yX3_order wsX3_order { frames := 7, cells := 5, slots := 30, locals := 112 } 5 30 (cw cy ad nl ns par Rl d ++ X) [.ref (ad 0 0), .int a, .int t, .int k, .int z, .int b] (fun r w' => (inB a 0 (nI nl - 1) && inB t 0 29 && inB z 0 (nI ns - 1) && inB b 0 2) = true ∧ inB k 0 2 = true ∧ ¬ t < mm 9 a.toNatClampNeg ∧ r = bI (ahC par d a.toNatClampNeg t.toNatClampNeg) ∧ w' = cw cy ad nl ns par Rl (givD d a.toNatClampNeg t.toNatClampNeg (codeI k z b) (ahC par d a.toNatClampNeg t.toNatClampNeg)) ++ X) (fun E => (E = "java/lang/IndexOutOfBoundsException" ∧ (inB a 0 (nI nl - 1) && inB t 0 29 && inB z 0 (nI ns - 1) && inB b 0 2) = false) ∨ (E = "java/lang/IllegalArgumentException" ∧ (inB a 0 (nI nl - 1) && inB t 0 29 && inB z 0 (nI ns - 1) && inB b 0 2) = true ∧ inB k 0 2 = false) ∨ (E = "java/lang/IllegalStateException" ∧ (inB a 0 (nI nl - 1) && inB t 0 29 && inB z 0 (nI ns - 1) && inB b 0 2) = true ∧ inB k 0 2 = true ∧ t < mm 9 a.toNatClampNeg)) := by
  refine vl_openXi hl0 (by decide) rfl (Nat.le_of_ble_eq_true rfl) rfl ?_
  intro p e s m args below meth c C0 hr hnm hex
  generalize hA : va_A (cw cy ad nl ns par Rl d ++ X) s.heap.size = A at C0 ⊢
  refine vl_lv (lv2 := [(0, .ref (ad 0 0)), (1, .int a), (2, .int t), (3, .int k), (4, .int z), (5, .int b)]) [0, 1, 2, 3, 4, 5] rfl ?_
  have hinX1 : ∀ x ∈ u_ws RX1 TX1 6, x ∈ wsX3_order := by decide +kernel
  refine vl_aload_n C0 dX3_order_0 0 rfl ?_
  refine vl_iload_n C0 dX3_order_1 1 rfl ?_
  refine vl_xcallq C0 (vl_goVX C0 (As := [.int a]) (na := 1) (b := ad 0 0) (st := []) (ci := 3) gX3_order_X3_lineNumbered rfl rfl rfl (by decide +kernel) ⟨Nat.le_of_ble_eq_true rfl, Nat.le_of_ble_eq_true rfl⟩ rfl (rc_rec (cR0 hok) rfl) dX3_order_2 (Nat.le_of_ble_eq_true rfl) ⟨Nat.le_of_ble_eq_true rfl, Nat.le_of_ble_eq_true rfl⟩ rfl rfl) (c_X3_lineNumbered hl0 hok h19 h9 a) (k2 := 1) (n2 := 6) (Nat.le_of_ble_eq_true rfl) (Nat.le_of_ble_eq_true rfl) (fun E9 hE9 => vl_out C0 hA.symm hex (Nat.le_of_ble_eq_true rfl) (Nat.le_of_ble_eq_true rfl) (Or.inl ⟨hE9.1, by rw [hE9.2]; rfl⟩)) (fun r9 w9 hp9 => ?_)
  obtain ⟨ja, hja, eja, rfl, rfl⟩ := hp9
  subst eja
  refine vl_st (st2 := [.ref (ad 5 ja)]) rfl ?_
  refine vl_astore (lv' := [(0, .ref (ad 0 0)), (1, .int (nI ja)), (2, .int t), (3, .int k), (4, .int z), (5, .int b), (6, .ref (ad 5 ja))]) C0 dX3_order_5 [1, 2, 3, 4, 5, 6, 0] (by decide) rfl ?_
  refine vl_iload_n C0 dX3_order_7 2 rfl ?_
  refine vl_xcallv C0 (vl_goSX C0 (As := [.int t]) (na := 1) (st := []) gX3_order_X3_checkTurn rfl rfl rfl (by decide +kernel) ⟨Nat.le_of_ble_eq_true rfl, Nat.le_of_ble_eq_true rfl⟩ dX3_order_8 (Nat.le_of_ble_eq_true rfl) ⟨Nat.le_of_ble_eq_true rfl, Nat.le_of_ble_eq_true rfl⟩ rfl rfl) (c_X3_checkTurn hl0 t) (k2 := 2) (n2 := 12) (Nat.le_of_ble_eq_true rfl) (Nat.le_of_ble_eq_true rfl) (fun E9 hE9 => vl_out C0 hA.symm hex (Nat.le_of_ble_eq_true rfl) (Nat.le_of_ble_eq_true rfl) (Or.inl ⟨hE9.1, by rw [hE9.2]; simp⟩)) (fun w9 hp9 => ?_)
  obtain ⟨gt, rfl⟩ := hp9
  obtain ⟨jt, hjt, ejt⟩ := inB_k gt (by decide) (n := 30) (by decide)
  subst ejt
  refine vl_aload_n C0 dX3_order_11 0 rfl ?_
  refine vl_iload C0 dX3_order_12 4 rfl ?_
  refine vl_xcallq C0 (vl_goVX C0 (As := [.int z]) (na := 1) (b := ad 0 0) (st := []) (ci := 3) gX3_order_X3_shipNumbered rfl rfl rfl (by decide +kernel) ⟨Nat.le_of_ble_eq_true rfl, Nat.le_of_ble_eq_true rfl⟩ rfl (rc_rec (cR0 hok) rfl) dX3_order_14 (Nat.le_of_ble_eq_true rfl) ⟨Nat.le_of_ble_eq_true rfl, Nat.le_of_ble_eq_true rfl⟩ rfl rfl) (c_X3_shipNumbered hl0 hok h8 z) (k2 := 3) (n2 := 18) (Nat.le_of_ble_eq_true rfl) (Nat.le_of_ble_eq_true rfl) (fun E9 hE9 => vl_out C0 hA.symm hex (Nat.le_of_ble_eq_true rfl) (Nat.le_of_ble_eq_true rfl) (Or.inl ⟨hE9.1, by rw [hE9.2]; simp⟩)) (fun r9 w9 hp9 => ?_)
  obtain ⟨jz, hjz, ejz, rfl, rfl⟩ := hp9
  subst ejz
  refine vl_st (st2 := [.ref (ad 7 jz)]) rfl ?_
  refine vl_pop C0 dX3_order_17 rfl ?_
  refine vl_iload C0 dX3_order_18 5 rfl ?_
  refine vl_xcallv C0 (vl_goSX C0 (As := [.int b]) (na := 1) (st := []) gX3_order_X3_checkBerth rfl rfl rfl (by decide +kernel) ⟨Nat.le_of_ble_eq_true rfl, Nat.le_of_ble_eq_true rfl⟩ dX3_order_20 (Nat.le_of_ble_eq_true rfl) ⟨Nat.le_of_ble_eq_true rfl, Nat.le_of_ble_eq_true rfl⟩ rfl rfl) (c_X3_checkBerth hl0 b) (k2 := 4) (n2 := 24) (Nat.le_of_ble_eq_true rfl) (Nat.le_of_ble_eq_true rfl) (fun E9 hE9 => vl_out C0 hA.symm hex (Nat.le_of_ble_eq_true rfl) (Nat.le_of_ble_eq_true rfl) (Or.inl ⟨hE9.1, by rw [hE9.2]; simp⟩)) (fun w9 hp9 => ?_)
  obtain ⟨gb, rfl⟩ := hp9
  refine vl_iload_n C0 dX3_order_23 3 rfl ?_
  refine vl_if_eq (tgt := 47) C0 dX3_order_24 (by decide) (fun (h24 : (k : Int32) = (0 : Int32)) => ?_) (fun (h24 : ¬ (k : Int32) = (0 : Int32)) => ?_)
  · refine vl_iload_n C0 dX3_order_47 2 rfl ?_
    refine vl_aload C0 dX3_order_48 6 rfl ?_
    refine rc_getN C0 (C := RX1) (T := TX1) (N := 6) (ci := 1) hinX1 (cR5 hok (by omega)) rfl rfl 1 (by decide) (by decide +kernel) (v := .int (mm 9 ja)) (congrArg (fun z => some (Value.int z)) (hln ja hja).1) dX3_order_50 ?_
    refine vl_icmp_ge (tgt := 66) C0 dX3_order_53 (by decide) (fun (h53 : (mm 9 ja : Int32) ≤ (nI jt : Int32)) => ?_) (fun (h53 : ¬ (mm 9 ja : Int32) ≤ (nI jt : Int32)) => ?_)
    · refine vl_aload C0 dX3_order_66 6 rfl ?_
      refine vl_iload_n C0 dX3_order_68 2 rfl ?_
      refine vl_iload_n C0 dX3_order_69 3 rfl ?_
      refine vl_iload C0 dX3_order_70 4 rfl ?_
      refine vl_iload C0 dX3_order_72 5 rfl ?_
      refine vl_calli C0 (vl_goS C0 (As := [.int k, .int (nI jz), .int b]) (na := 3) (st := [.int (nI jt), .ref (ad 5 ja)]) gX3_order_X3_codeOf rfl rfl rfl (by decide +kernel) ⟨Nat.le_of_ble_eq_true rfl, Nat.le_of_ble_eq_true rfl⟩ dX3_order_74 (Nat.le_of_ble_eq_true rfl) ⟨Nat.le_of_ble_eq_true rfl, Nat.le_of_ble_eq_true rfl⟩ rfl rfl) (c_X3_codeOf hl0 k (nI jz) b) (k2 := 4) (n2 := 24) (Nat.le_of_ble_eq_true rfl) (Nat.le_of_ble_eq_true rfl) (fun r9 w9 hp9 => ?_)
      obtain ⟨rfl, rfl⟩ := hp9
      refine vl_calli C0 (vl_goVN C0 (As := [.int (nI jt), .int (codeI k (nI jz) b)]) (na := 2) (b := ad 5 ja) (st := []) (ci := 1) gX3_order_X1_give_n109 rfl rfl rfl (by decide +kernel) (by decide +kernel) (by decide +kernel) (by decide +kernel) (by decide +kernel) ⟨Nat.le_of_ble_eq_true rfl, Nat.le_of_ble_eq_true rfl⟩ rfl (rc_rec (cR5 hok (by omega)) rfl) dX3_order_77 (Nat.le_of_ble_eq_true rfl) ⟨Nat.le_of_ble_eq_true rfl, Nat.le_of_ble_eq_true rfl⟩ rfl rfl) (c_X1_give hl0 hok ja jt (codeI k (nI jz) b) (hja) (hjt)) (k2 := 4) (n2 := 24) (Nat.le_of_ble_eq_true rfl) (Nat.le_of_ble_eq_true rfl) (fun r9 w9 hp9 => ?_)
      obtain ⟨rfl, rfl⟩ := hp9
      exact vl_zretX C0 hA.symm hr (nb_bI _) (have hm : (inB (nI ja) 0 (nI nl - 1) && inB (nI jt) 0 29 && inB (nI jz) 0 (nI ns - 1) && inB b 0 2) = true := (by rw [inB_of hja (show nl < 2 ^ 31 by omega), show inB (nI jt) 0 29 = true from (inB_of (n := 30) hjt (by decide)), inB_of hjz (show ns < 2 ^ 31 by omega), gb]; rfl); ⟨hm, inB_k2.mpr (Or.inl h24), by rw [nI_clamp (show ja < 2 ^ 31 by omega)]; exact Int32.not_lt.mpr h53, by rw [nI_clamp (show ja < 2 ^ 31 by omega), nI_clamp (show jt < 2 ^ 31 by omega)], by rw [nI_clamp (show ja < 2 ^ 31 by omega), nI_clamp (show jt < 2 ^ 31 by omega)]⟩) (Nat.le_of_ble_eq_true rfl) (Nat.le_of_ble_eq_true rfl) dX3_order_80
    · exact vl_throw (ic := 55) (is := 103) (text := "the turn is earlier than that of the fork") (names := ["java/lang/RuntimeException", "java/lang/Exception"]) C0 hA.symm rfl (by decide +kernel) (by decide +kernel) (by decide +kernel) (by decide +kernel) (by decide +kernel) (by decide +kernel) (by decide +kernel) (by decide +kernel) hex dX3_order_56 dX3_order_59 dX3_order_60 dX3_order_62 dX3_order_65 (Nat.le_of_ble_eq_true rfl) (Nat.le_of_ble_eq_true rfl) (Nat.le_of_ble_eq_true rfl) (Nat.le_of_ble_eq_true rfl) (Nat.le_of_ble_eq_true rfl) (Nat.le_of_ble_eq_true rfl) (Or.inr (Or.inr ⟨rfl, (by rw [inB_of hja (show nl < 2 ^ 31 by omega), show inB (nI jt) 0 29 = true from (inB_of (n := 30) hjt (by decide)), inB_of hjz (show ns < 2 ^ 31 by omega), gb]; rfl), inB_k2.mpr (Or.inl h24), by rw [nI_clamp (show ja < 2 ^ 31 by omega)]; exact Int32.not_le.mp h53⟩))
  · refine vl_iload_n C0 dX3_order_27 3 rfl ?_
    refine vl_iconst (v := 1) C0 dX3_order_28 (by decide) ?_
    refine vl_icmp_eq (tgt := 47) C0 dX3_order_29 (by decide) (fun (h29 : (k : Int32) = (1 : Int32)) => ?_) (fun (h29 : ¬ (k : Int32) = (1 : Int32)) => ?_)
    · refine vl_iload_n C0 dX3_order_47 2 rfl ?_
      refine vl_aload C0 dX3_order_48 6 rfl ?_
      refine rc_getN C0 (C := RX1) (T := TX1) (N := 6) (ci := 1) hinX1 (cR5 hok (by omega)) rfl rfl 1 (by decide) (by decide +kernel) (v := .int (mm 9 ja)) (congrArg (fun z => some (Value.int z)) (hln ja hja).1) dX3_order_50 ?_
      refine vl_icmp_ge (tgt := 66) C0 dX3_order_53 (by decide) (fun (h53 : (mm 9 ja : Int32) ≤ (nI jt : Int32)) => ?_) (fun (h53 : ¬ (mm 9 ja : Int32) ≤ (nI jt : Int32)) => ?_)
      · refine vl_aload C0 dX3_order_66 6 rfl ?_
        refine vl_iload_n C0 dX3_order_68 2 rfl ?_
        refine vl_iload_n C0 dX3_order_69 3 rfl ?_
        refine vl_iload C0 dX3_order_70 4 rfl ?_
        refine vl_iload C0 dX3_order_72 5 rfl ?_
        refine vl_calli C0 (vl_goS C0 (As := [.int k, .int (nI jz), .int b]) (na := 3) (st := [.int (nI jt), .ref (ad 5 ja)]) gX3_order_X3_codeOf rfl rfl rfl (by decide +kernel) ⟨Nat.le_of_ble_eq_true rfl, Nat.le_of_ble_eq_true rfl⟩ dX3_order_74 (Nat.le_of_ble_eq_true rfl) ⟨Nat.le_of_ble_eq_true rfl, Nat.le_of_ble_eq_true rfl⟩ rfl rfl) (c_X3_codeOf hl0 k (nI jz) b) (k2 := 4) (n2 := 24) (Nat.le_of_ble_eq_true rfl) (Nat.le_of_ble_eq_true rfl) (fun r9 w9 hp9 => ?_)
        obtain ⟨rfl, rfl⟩ := hp9
        refine vl_calli C0 (vl_goVN C0 (As := [.int (nI jt), .int (codeI k (nI jz) b)]) (na := 2) (b := ad 5 ja) (st := []) (ci := 1) gX3_order_X1_give_n109 rfl rfl rfl (by decide +kernel) (by decide +kernel) (by decide +kernel) (by decide +kernel) (by decide +kernel) ⟨Nat.le_of_ble_eq_true rfl, Nat.le_of_ble_eq_true rfl⟩ rfl (rc_rec (cR5 hok (by omega)) rfl) dX3_order_77 (Nat.le_of_ble_eq_true rfl) ⟨Nat.le_of_ble_eq_true rfl, Nat.le_of_ble_eq_true rfl⟩ rfl rfl) (c_X1_give hl0 hok ja jt (codeI k (nI jz) b) (hja) (hjt)) (k2 := 4) (n2 := 24) (Nat.le_of_ble_eq_true rfl) (Nat.le_of_ble_eq_true rfl) (fun r9 w9 hp9 => ?_)
        obtain ⟨rfl, rfl⟩ := hp9
        exact vl_zretX C0 hA.symm hr (nb_bI _) (have hm : (inB (nI ja) 0 (nI nl - 1) && inB (nI jt) 0 29 && inB (nI jz) 0 (nI ns - 1) && inB b 0 2) = true := (by rw [inB_of hja (show nl < 2 ^ 31 by omega), show inB (nI jt) 0 29 = true from (inB_of (n := 30) hjt (by decide)), inB_of hjz (show ns < 2 ^ 31 by omega), gb]; rfl); ⟨hm, inB_k2.mpr (Or.inr (Or.inl h29)), by rw [nI_clamp (show ja < 2 ^ 31 by omega)]; exact Int32.not_lt.mpr h53, by rw [nI_clamp (show ja < 2 ^ 31 by omega), nI_clamp (show jt < 2 ^ 31 by omega)], by rw [nI_clamp (show ja < 2 ^ 31 by omega), nI_clamp (show jt < 2 ^ 31 by omega)]⟩) (Nat.le_of_ble_eq_true rfl) (Nat.le_of_ble_eq_true rfl) dX3_order_80
      · exact vl_throw (ic := 55) (is := 103) (text := "the turn is earlier than that of the fork") (names := ["java/lang/RuntimeException", "java/lang/Exception"]) C0 hA.symm rfl (by decide +kernel) (by decide +kernel) (by decide +kernel) (by decide +kernel) (by decide +kernel) (by decide +kernel) (by decide +kernel) (by decide +kernel) hex dX3_order_56 dX3_order_59 dX3_order_60 dX3_order_62 dX3_order_65 (Nat.le_of_ble_eq_true rfl) (Nat.le_of_ble_eq_true rfl) (Nat.le_of_ble_eq_true rfl) (Nat.le_of_ble_eq_true rfl) (Nat.le_of_ble_eq_true rfl) (Nat.le_of_ble_eq_true rfl) (Or.inr (Or.inr ⟨rfl, (by rw [inB_of hja (show nl < 2 ^ 31 by omega), show inB (nI jt) 0 29 = true from (inB_of (n := 30) hjt (by decide)), inB_of hjz (show ns < 2 ^ 31 by omega), gb]; rfl), inB_k2.mpr (Or.inr (Or.inl h29)), by rw [nI_clamp (show ja < 2 ^ 31 by omega)]; exact Int32.not_le.mp h53⟩))
    · refine vl_iload_n C0 dX3_order_32 3 rfl ?_
      refine vl_iconst (v := 2) C0 dX3_order_33 (by decide) ?_
      refine vl_icmp_eq (tgt := 47) C0 dX3_order_34 (by decide) (fun (h34 : (k : Int32) = (2 : Int32)) => ?_) (fun (h34 : ¬ (k : Int32) = (2 : Int32)) => ?_)
      · refine vl_iload_n C0 dX3_order_47 2 rfl ?_
        refine vl_aload C0 dX3_order_48 6 rfl ?_
        refine rc_getN C0 (C := RX1) (T := TX1) (N := 6) (ci := 1) hinX1 (cR5 hok (by omega)) rfl rfl 1 (by decide) (by decide +kernel) (v := .int (mm 9 ja)) (congrArg (fun z => some (Value.int z)) (hln ja hja).1) dX3_order_50 ?_
        refine vl_icmp_ge (tgt := 66) C0 dX3_order_53 (by decide) (fun (h53 : (mm 9 ja : Int32) ≤ (nI jt : Int32)) => ?_) (fun (h53 : ¬ (mm 9 ja : Int32) ≤ (nI jt : Int32)) => ?_)
        · refine vl_aload C0 dX3_order_66 6 rfl ?_
          refine vl_iload_n C0 dX3_order_68 2 rfl ?_
          refine vl_iload_n C0 dX3_order_69 3 rfl ?_
          refine vl_iload C0 dX3_order_70 4 rfl ?_
          refine vl_iload C0 dX3_order_72 5 rfl ?_
          refine vl_calli C0 (vl_goS C0 (As := [.int k, .int (nI jz), .int b]) (na := 3) (st := [.int (nI jt), .ref (ad 5 ja)]) gX3_order_X3_codeOf rfl rfl rfl (by decide +kernel) ⟨Nat.le_of_ble_eq_true rfl, Nat.le_of_ble_eq_true rfl⟩ dX3_order_74 (Nat.le_of_ble_eq_true rfl) ⟨Nat.le_of_ble_eq_true rfl, Nat.le_of_ble_eq_true rfl⟩ rfl rfl) (c_X3_codeOf hl0 k (nI jz) b) (k2 := 4) (n2 := 24) (Nat.le_of_ble_eq_true rfl) (Nat.le_of_ble_eq_true rfl) (fun r9 w9 hp9 => ?_)
          obtain ⟨rfl, rfl⟩ := hp9
          refine vl_calli C0 (vl_goVN C0 (As := [.int (nI jt), .int (codeI k (nI jz) b)]) (na := 2) (b := ad 5 ja) (st := []) (ci := 1) gX3_order_X1_give_n109 rfl rfl rfl (by decide +kernel) (by decide +kernel) (by decide +kernel) (by decide +kernel) (by decide +kernel) ⟨Nat.le_of_ble_eq_true rfl, Nat.le_of_ble_eq_true rfl⟩ rfl (rc_rec (cR5 hok (by omega)) rfl) dX3_order_77 (Nat.le_of_ble_eq_true rfl) ⟨Nat.le_of_ble_eq_true rfl, Nat.le_of_ble_eq_true rfl⟩ rfl rfl) (c_X1_give hl0 hok ja jt (codeI k (nI jz) b) (hja) (hjt)) (k2 := 4) (n2 := 24) (Nat.le_of_ble_eq_true rfl) (Nat.le_of_ble_eq_true rfl) (fun r9 w9 hp9 => ?_)
          obtain ⟨rfl, rfl⟩ := hp9
          exact vl_zretX C0 hA.symm hr (nb_bI _) (have hm : (inB (nI ja) 0 (nI nl - 1) && inB (nI jt) 0 29 && inB (nI jz) 0 (nI ns - 1) && inB b 0 2) = true := (by rw [inB_of hja (show nl < 2 ^ 31 by omega), show inB (nI jt) 0 29 = true from (inB_of (n := 30) hjt (by decide)), inB_of hjz (show ns < 2 ^ 31 by omega), gb]; rfl); ⟨hm, inB_k2.mpr (Or.inr (Or.inr h34)), by rw [nI_clamp (show ja < 2 ^ 31 by omega)]; exact Int32.not_lt.mpr h53, by rw [nI_clamp (show ja < 2 ^ 31 by omega), nI_clamp (show jt < 2 ^ 31 by omega)], by rw [nI_clamp (show ja < 2 ^ 31 by omega), nI_clamp (show jt < 2 ^ 31 by omega)]⟩) (Nat.le_of_ble_eq_true rfl) (Nat.le_of_ble_eq_true rfl) dX3_order_80
        · exact vl_throw (ic := 55) (is := 103) (text := "the turn is earlier than that of the fork") (names := ["java/lang/RuntimeException", "java/lang/Exception"]) C0 hA.symm rfl (by decide +kernel) (by decide +kernel) (by decide +kernel) (by decide +kernel) (by decide +kernel) (by decide +kernel) (by decide +kernel) (by decide +kernel) hex dX3_order_56 dX3_order_59 dX3_order_60 dX3_order_62 dX3_order_65 (Nat.le_of_ble_eq_true rfl) (Nat.le_of_ble_eq_true rfl) (Nat.le_of_ble_eq_true rfl) (Nat.le_of_ble_eq_true rfl) (Nat.le_of_ble_eq_true rfl) (Nat.le_of_ble_eq_true rfl) (Or.inr (Or.inr ⟨rfl, (by rw [inB_of hja (show nl < 2 ^ 31 by omega), show inB (nI jt) 0 29 = true from (inB_of (n := 30) hjt (by decide)), inB_of hjz (show ns < 2 ^ 31 by omega), gb]; rfl), inB_k2.mpr (Or.inr (Or.inr h34)), by rw [nI_clamp (show ja < 2 ^ 31 by omega)]; exact Int32.not_le.mp h53⟩))
      · exact vl_throw (ic := 41) (is := 98) (text := "kind is out of range") (names := ["java/lang/RuntimeException", "java/lang/Exception"]) C0 hA.symm rfl (by decide +kernel) (by decide +kernel) (by decide +kernel) (by decide +kernel) (by decide +kernel) (by decide +kernel) (by decide +kernel) (by decide +kernel) hex dX3_order_37 dX3_order_40 dX3_order_41 dX3_order_43 dX3_order_46 (Nat.le_of_ble_eq_true rfl) (Nat.le_of_ble_eq_true rfl) (Nat.le_of_ble_eq_true rfl) (Nat.le_of_ble_eq_true rfl) (Nat.le_of_ble_eq_true rfl) (Nat.le_of_ble_eq_true rfl) (Or.inr (Or.inl ⟨rfl, (by rw [inB_of hja (show nl < 2 ^ 31 by omega), show inB (nI jt) 0 29 = true from (inB_of (n := 30) hjt (by decide)), inB_of hjz (show ns < 2 ^ 31 by omega), gb]; rfl), Bool.eq_false_iff.mpr (fun q => by rcases inB_k2.mp q with e | e | e; exact h24 e; exact h29 e; exact h34 e)⟩))
set_option maxHeartbeats 4000000 in
set_option maxRecDepth 100000 in
theorem c_X3_differences {l : Launch} {D : va_G} {cy : Nat → ClassId} {ad : Nat → Nat → Nat} {nl ns : Nat} {par : Nat → Option Nat} {Rl : List (Nat × Nat)} {d : Nat → Nat → Nat → Int32} {X : va_W} {mm : Nat → Nat → Int32} (hl0 : l.stackTraces = false) (hok : cw_ok nl ns Rl) (h19 : 1 ≤ nl) (h9 : nl ≤ 9) (hln : rLn nl mm d) (ht : mTree nl par mm) (a b : Int32) : vl_Xi l D cy yX3_differences wsX3_differences { frames := 7, cells := 2, slots := 12, locals := 112 } 2 12 (cw cy ad nl ns par Rl d ++ X) [.ref (ad 0 0), .int a, .int b] (fun r w' => (inB a 0 (nI nl - 1) && inB b 0 (nI nl - 1)) = true ∧ r = bset (difP (mm 11) par a.toNatClampNeg b.toNatClampNeg) 30 ∧ w' = cw cy ad nl ns par Rl d ++ X) (fun E => E = "java/lang/IndexOutOfBoundsException" ∧ (inB a 0 (nI nl - 1) && inB b 0 (nI nl - 1)) = false) := by
  refine vl_openXi hl0 (by decide) rfl (Nat.le_of_ble_eq_true rfl) rfl ?_
  intro p e s m args below meth c C0 hr hnm hex
  generalize hA : va_A (cw cy ad nl ns par Rl d ++ X) s.heap.size = A at C0 ⊢
  refine vl_lv (lv2 := [(0, .ref (ad 0 0)), (1, .int a), (2, .int b)]) [0, 1, 2] rfl ?_
  refine vl_aload_n C0 dX3_differences_0 0 rfl ?_
  refine vl_iload_n C0 dX3_differences_1 1 rfl ?_
  refine vl_xcallq C0 (vl_goVX C0 (As := [.int a]) (na := 1) (b := ad 0 0) (st := []) (ci := 3) gX3_differences_X3_lineNumbered rfl rfl rfl (by decide +kernel) ⟨Nat.le_of_ble_eq_true rfl, Nat.le_of_ble_eq_true rfl⟩ rfl (rc_rec (cR0 hok) rfl) dX3_differences_2 (Nat.le_of_ble_eq_true rfl) ⟨Nat.le_of_ble_eq_true rfl, Nat.le_of_ble_eq_true rfl⟩ rfl rfl) (c_X3_lineNumbered hl0 hok h19 h9 a) (k2 := 1) (n2 := 6) (Nat.le_of_ble_eq_true rfl) (Nat.le_of_ble_eq_true rfl) (fun E9 hE9 => vl_out C0 hA.symm hex (Nat.le_of_ble_eq_true rfl) (Nat.le_of_ble_eq_true rfl) ⟨hE9.1, by rw [hE9.2]; rfl⟩) (fun r9 w9 hp9 => ?_)
  obtain ⟨ja, hja, eja, rfl, rfl⟩ := hp9
  subst eja
  refine vl_st (st2 := [.ref (ad 5 ja)]) rfl ?_
  refine vl_astore_n (lv' := [(0, .ref (ad 0 0)), (1, .int (nI ja)), (2, .int b), (3, .ref (ad 5 ja))]) C0 dX3_differences_5 [1, 2, 3, 0] (by decide) rfl ?_
  refine vl_aload_n C0 dX3_differences_6 0 rfl ?_
  refine vl_iload_n C0 dX3_differences_7 2 rfl ?_
  refine vl_xcallq C0 (vl_goVX C0 (As := [.int b]) (na := 1) (b := ad 0 0) (st := []) (ci := 3) gX3_differences_X3_lineNumbered rfl rfl rfl (by decide +kernel) ⟨Nat.le_of_ble_eq_true rfl, Nat.le_of_ble_eq_true rfl⟩ rfl (rc_rec (cR0 hok) rfl) dX3_differences_8 (Nat.le_of_ble_eq_true rfl) ⟨Nat.le_of_ble_eq_true rfl, Nat.le_of_ble_eq_true rfl⟩ rfl rfl) (c_X3_lineNumbered hl0 hok h19 h9 b) (k2 := 2) (n2 := 12) (Nat.le_of_ble_eq_true rfl) (Nat.le_of_ble_eq_true rfl) (fun E9 hE9 => vl_out C0 hA.symm hex (Nat.le_of_ble_eq_true rfl) (Nat.le_of_ble_eq_true rfl) ⟨hE9.1, by rw [hE9.2, Bool.and_false]⟩) (fun r9 w9 hp9 => ?_)
  obtain ⟨jb, hjb, ejb, rfl, rfl⟩ := hp9
  subst ejb
  refine vl_st (st2 := [.ref (ad 5 jb)]) rfl ?_
  refine vl_astore (lv' := [(0, .ref (ad 0 0)), (1, .int (nI ja)), (2, .int (nI jb)), (3, .ref (ad 5 ja)), (4, .ref (ad 5 jb))]) C0 dX3_differences_11 [1, 2, 3, 4, 0] (by decide) rfl ?_
  refine vl_iconst (v := 0) C0 dX3_differences_13 (by decide) ?_
  refine vl_istore (lv' := [(0, .ref (ad 0 0)), (1, .int (nI ja)), (2, .int (nI jb)), (3, .ref (ad 5 ja)), (4, .ref (ad 5 jb)), (5, .int 0)]) C0 dX3_differences_14 [1, 2, 3, 4, 5, 0] (by decide) rfl ?_
  refine vl_iconst (v := 0) C0 dX3_differences_16 (by decide) ?_
  refine vl_istore (lv' := [(0, .ref (ad 0 0)), (1, .int (nI ja)), (2, .int (nI jb)), (3, .ref (ad 5 ja)), (4, .ref (ad 5 jb)), (5, .int 0), (6, .int 0)]) C0 dX3_differences_17 [1, 2, 3, 4, 5, 6, 0] (by decide) rfl ?_
  refine vl_loop (σ := Nat) (fun _ => cw cy ad nl ns par Rl d ++ X) (fun k => [(0, .ref (ad 0 0)), (1, .int (nI ja)), (2, .int (nI jb)), (3, .ref (ad 5 ja)), (4, .ref (ad 5 jb)), (5, .int (bset (difP (mm 11) par ja jb) k)), (6, .int (nI k))]) (fun k => k ≤ 30) (fun k => 30 - k) ?_ 0 (by decide)
  intro k hk ih
  refine vl_lv (lv2 := [(0, .ref (ad 0 0)), (1, .int (nI ja)), (2, .int (nI jb)), (3, .ref (ad 5 ja)), (4, .ref (ad 5 jb)), (5, .int (bset (difP (mm 11) par ja jb) k)), (6, .int (nI k))]) [0, 1, 2, 3, 4, 5, 6] rfl ?_
  refine vl_iload C0 dX3_differences_19 6 rfl ?_
  refine vl_bipush (v := 30) C0 dX3_differences_21 (by decide) ?_
  refine vl_icmp_ge (tgt := 57) C0 dX3_differences_23 (by decide) (fun (h23 : (30 : Int32) ≤ (nI k : Int32)) => ?_) (fun (h23 : ¬ (30 : Int32) ≤ (nI k : Int32)) => ?_)
  · have hk30 : k = 30 := by have z : ¬ k < 30 := fun q => absurd h23 (nI_ge q (by decide)); omega
    refine vl_iload C0 dX3_differences_57 5 rfl ?_
    exact vl_iretX C0 hA.symm hr ⟨by rw [inB_of hja (show nl < 2 ^ 31 by omega), inB_of hjb (show nl < 2 ^ 31 by omega)]; rfl, by rw [nI_clamp (show ja < 2 ^ 31 by omega), nI_clamp (show jb < 2 ^ 31 by omega), hk30], rfl⟩ (Nat.le_of_ble_eq_true rfl) (Nat.le_of_ble_eq_true rfl) dX3_differences_59
  · have hk30 : k < 30 := by have z : ¬ k = 30 := fun q => h23 (by rw [q]; exact nI_le (Nat.le_refl _) (by decide)); omega
    refine vl_aload_n C0 dX3_differences_26 3 rfl ?_
    refine vl_iload C0 dX3_differences_27 6 rfl ?_
    refine vl_calli C0 (vl_goVN C0 (As := [.int (nI k)]) (na := 1) (b := ad 5 ja) (st := []) (ci := 1) gX3_differences_X1_orderFor_n116 rfl rfl rfl (by decide +kernel) (by decide +kernel) (by decide +kernel) (by decide +kernel) (by decide +kernel) ⟨Nat.le_of_ble_eq_true rfl, Nat.le_of_ble_eq_true rfl⟩ rfl (rc_rec (cR5 hok (by omega)) rfl) dX3_differences_29 (Nat.le_of_ble_eq_true rfl) ⟨Nat.le_of_ble_eq_true rfl, Nat.le_of_ble_eq_true rfl⟩ rfl rfl) (c_X1_orderFor hl0 hok ja k (mm := mm) hln ht h9 (hja) (hk30)) (k2 := 2) (n2 := 12) (Nat.le_of_ble_eq_true rfl) (Nat.le_of_ble_eq_true rfl) (fun r9 w9 hp9 => ?_)
    obtain ⟨rfl, rfl⟩ := hp9
    refine vl_aload C0 dX3_differences_32 4 rfl ?_
    refine vl_iload C0 dX3_differences_34 6 rfl ?_
    refine vl_calli C0 (vl_goVN C0 (As := [.int (nI k)]) (na := 1) (b := ad 5 jb) (st := [.int (ordX (mm 11) par k (some ja))]) (ci := 1) gX3_differences_X1_orderFor_n116 rfl rfl rfl (by decide +kernel) (by decide +kernel) (by decide +kernel) (by decide +kernel) (by decide +kernel) ⟨Nat.le_of_ble_eq_true rfl, Nat.le_of_ble_eq_true rfl⟩ rfl (rc_rec (cR5 hok (by omega)) rfl) dX3_differences_36 (Nat.le_of_ble_eq_true rfl) ⟨Nat.le_of_ble_eq_true rfl, Nat.le_of_ble_eq_true rfl⟩ rfl rfl) (c_X1_orderFor hl0 hok jb k (mm := mm) hln ht h9 (hjb) (hk30)) (k2 := 2) (n2 := 12) (Nat.le_of_ble_eq_true rfl) (Nat.le_of_ble_eq_true rfl) (fun r9 w9 hp9 => ?_)
    obtain ⟨rfl, rfl⟩ := hp9
    refine vl_icmp_eq (tgt := 51) C0 dX3_differences_39 (by decide) (fun (h39 : (ordX (mm 11) par k (some ja) : Int32) = (ordX (mm 11) par k (some jb) : Int32)) => ?_) (fun (h39 : ¬ (ordX (mm 11) par k (some ja) : Int32) = (ordX (mm 11) par k (some jb) : Int32)) => ?_)
    · have hb9 : bset (difP (mm 11) par ja jb) k = bset (difP (mm 11) par ja jb) (k + 1) := by rw [← bset_f (P := difP (mm 11) par ja jb) (k := k) (by simp [difP, h39])]; simp
      rw [hb9]
      refine vl_iinc (v := nI (k + 1)) (lv' := [(0, .ref (ad 0 0)), (1, .int (nI ja)), (2, .int (nI jb)), (3, .ref (ad 5 ja)), (4, .ref (ad 5 jb)), (5, .int (bset (difP (mm 11) par ja jb) (k + 1))), (6, .int (nI (k + 1)))]) C0 dX3_differences_51 6 rfl (nI_1 k) [1, 2, 3, 4, 5, 6, 0] (by decide) rfl ?_
      refine vl_goto (tgt := 19) C0 dX3_differences_54 (by decide) ?_
      exact ih (k + 1) (by omega) (by omega)
    · refine vl_iload C0 dX3_differences_42 5 rfl ?_
      refine vl_iconst (v := 1) C0 dX3_differences_44 (by decide) ?_
      refine vl_iload C0 dX3_differences_45 6 rfl ?_
      refine vl_ishl C0 dX3_differences_47 ?_
      refine vl_ior C0 dX3_differences_48 ?_
      rw [bset_t (P := difP (mm 11) par ja jb) (k := k) (by simp [difP, h39])]
      refine vl_istore (lv' := [(0, .ref (ad 0 0)), (1, .int (nI ja)), (2, .int (nI jb)), (3, .ref (ad 5 ja)), (4, .ref (ad 5 jb)), (5, .int (bset (difP (mm 11) par ja jb) (k + 1))), (6, .int (nI k))]) C0 dX3_differences_49 [1, 2, 3, 4, 5, 0, 6] (by decide) rfl ?_
      refine vl_iinc (v := nI (k + 1)) (lv' := [(0, .ref (ad 0 0)), (1, .int (nI ja)), (2, .int (nI jb)), (3, .ref (ad 5 ja)), (4, .ref (ad 5 jb)), (5, .int (bset (difP (mm 11) par ja jb) (k + 1))), (6, .int (nI (k + 1)))]) C0 dX3_differences_51 6 rfl (nI_1 k) [1, 2, 3, 4, 5, 6, 0] (by decide) rfl ?_
      refine vl_goto (tgt := 19) C0 dX3_differences_54 (by decide) ?_
      exact ih (k + 1) (by omega) (by omega)
set_option maxHeartbeats 4000000 in
set_option maxRecDepth 100000 in
theorem c_X3_best {l : Launch} {D : va_G} {cy : Nat → ClassId} {ad : Nat → Nat → Nat} {nl ns : Nat} {par : Nat → Option Nat} {Rl : List (Nat × Nat)} {d : Nat → Nat → Nat → Int32} {X : va_W} {mm : Nat → Nat → Int32} (hl0 : l.stackTraces = false) (hok : cw_ok nl ns Rl) (h19 : 1 ≤ nl) (h9 : nl ≤ 9) (h8 : ns ≤ 8) (hln : rLn nl mm d) (hw : rWd ns mm d) (ht : mTree nl par mm) (hcode : ∀ j t, j < nl → t < 30 → codeOK ns (ordX (mm 11) par t (some j))) (hcg : ∀ q, q < ns → 0 ≤ mm 3 q) (hrt : ∀ b, b < 3 → 0 ≤ mm 4 b) (h0a : aheadI mm 0 = 0) : vl_Ki l D cy yX3_best wsX3_best { frames := 7, cells := 0, slots := 0, locals := 167 } 0 0 (cw cy ad nl ns par Rl d ++ X) [.ref (ad 0 0)] (fun r w' => r = (bstF (mkV ns par mm) (nl - 1)).1 ∧ ∃ d', w' = cw cy ad nl ns par Rl d' ++ X ∧ dFr d d') := by
  refine vl_openi hl0 (by decide) rfl (Nat.le_of_ble_eq_true rfl) rfl ?_
  intro p e s m args below meth c C0 hr hnm
  generalize hA : va_A (cw cy ad nl ns par Rl d ++ X) s.heap.size = A at C0 ⊢
  refine vl_lv (lv2 := [(0, .ref (ad 0 0))]) [0] rfl ?_
  have hinX3 : ∀ x ∈ u_ws RX3 TX3 4, x ∈ wsX3_best := by decide +kernel
  refine vl_aload_n C0 dX3_best_0 0 rfl ?_
  refine vl_aload_n C0 dX3_best_1 0 rfl ?_
  refine rc_get C0 (C := RX3) (T := TX3) (N := 4) (ci := 3) hinX3 (cR0 hok) rfl rfl 1 (by decide) (by decide +kernel) (v := .ref (ad 5 0)) (rfl) dX3_best_2 ?_
  refine vl_bipush (v := 29) C0 dX3_best_5 (by decide) ?_
  refine vl_calli C0 (vl_goV C0 (As := [.ref (ad 5 0), .int 29]) (na := 2) (b := ad 0 0) (st := []) (ci := 3) gX3_best_X3_earningOf rfl rfl rfl (by decide +kernel) ⟨Nat.le_of_ble_eq_true rfl, Nat.le_of_ble_eq_true rfl⟩ rfl (rc_rec (cR0 hok) rfl) dX3_best_7 (Nat.le_of_ble_eq_true rfl) ⟨Nat.le_of_ble_eq_true rfl, Nat.le_of_ble_eq_true rfl⟩ rfl rfl) (c_X3_earningOf hl0 hok h19 h9 h8 (mm := mm) hln hw ht hcode hcg hrt 0 29 (h19) (by omega)) (k2 := 0) (n2 := 0) (Nat.le_of_ble_eq_true rfl) (Nat.le_of_ble_eq_true rfl) (fun r9 w9 hp9 => ?_)
  obtain ⟨d1, rfl, hf1, rfl⟩ := hp9
  refine vl_istore_n (lv' := [(0, .ref (ad 0 0)), (1, .int ((plyM ns par mm 0 (29 + 1)).2.2.1))]) C0 dX3_best_10 [1, 0] (by decide) rfl ?_
  refine vl_iconst (v := -1) C0 dX3_best_11 (by decide) ?_
  refine vl_istore_n (lv' := [(0, .ref (ad 0 0)), (1, .int ((plyM ns par mm 0 (29 + 1)).2.2.1)), (2, .int ((-1)))]) C0 dX3_best_12 [1, 2, 0] (by decide) rfl ?_
  refine vl_iconst (v := -1) C0 dX3_best_13 (by decide) ?_
  refine vl_istore_n (lv' := [(0, .ref (ad 0 0)), (1, .int ((plyM ns par mm 0 (29 + 1)).2.2.1)), (2, .int ((-1))), (3, .int ((-1)))]) C0 dX3_best_14 [1, 2, 3, 0] (by decide) rfl ?_
  refine vl_iconst (v := 1) C0 dX3_best_15 (by decide) ?_
  refine vl_istore (lv' := [(0, .ref (ad 0 0)), (1, .int ((plyM ns par mm 0 (29 + 1)).2.2.1)), (2, .int ((-1))), (3, .int ((-1))), (4, .int 1)]) C0 dX3_best_16 [1, 2, 3, 4, 0] (by decide) rfl ?_
  refine vl_loop (σ := Nat × (Nat → Nat → Nat → Int32)) (fun x => cw cy ad nl ns par Rl x.2 ++ X) (fun x => [(0, .ref (ad 0 0)), (1, .int ((plyM ns par mm 0 (29 + 1)).2.2.1)), (2, .int ((bstF (mkV ns par mm) (min x.1 (nl - 1))).1)), (3, .int ((bstF (mkV ns par mm) (min x.1 (nl - 1))).2)), (4, .int (nI (x.1 + 1)))]) (fun x => x.1 ≤ 8 ∧ dFr d x.2) (fun x => 8 - x.1) ?_ (0, d1) ⟨by omega, hf1⟩
  clear hf1
  rintro ⟨k, d1⟩ hI ihk
  refine vl_w (w2 := cw cy ad nl ns par Rl d1 ++ X) rfl ?_
  refine vl_lv (lv2 := [(0, .ref (ad 0 0)), (1, .int ((plyM ns par mm 0 (29 + 1)).2.2.1)), (2, .int ((bstF (mkV ns par mm) (min k (nl - 1))).1)), (3, .int ((bstF (mkV ns par mm) (min k (nl - 1))).2)), (4, .int (nI (k + 1)))]) [0, 1, 2, 3, 4] rfl ?_
  have hI : k ≤ 8 ∧ dFr d d1 := hI
  refine vl_iload C0 dX3_best_18 4 rfl ?_
  refine vl_aload_n C0 dX3_best_20 0 rfl ?_
  refine rc_get C0 (C := RX3) (T := TX3) (N := 4) (ci := 3) hinX3 (cR0 hok) rfl rfl 2 (by decide) (by decide +kernel) (v := .ref (ad 2 0)) (rfl) dX3_best_21 ?_
  refine rc_alen C0 2 (cR2 hok) rfl rfl (v := 9) rfl dX3_best_24 ?_
  refine vl_icmp_ge (tgt := 73) C0 dX3_best_25 (by decide) (fun (h25 : (9 : Int32) ≤ (nI (k + 1) : Int32)) => ?_) (fun (h25 : ¬ (9 : Int32) ≤ (nI (k + 1) : Int32)) => ?_)
  · have hkn : k = 8 := by have z : ¬ k + 1 < 9 := fun q => absurd h25 (nI_ge q (by decide)); have := hI.1; omega
    refine vl_iload_n C0 dX3_best_73 2 rfl ?_
    exact vl_iret C0 hA.symm hr ⟨by rw [hkn, show min 8 (nl - 1) = nl - 1 by omega], d1, rfl, hI.2⟩ (Nat.le_of_ble_eq_true rfl) (Nat.le_of_ble_eq_true rfl) dX3_best_74
  · have hk8 : k < 8 := by have z : ¬ k = 8 := fun q => h25 (by rw [q]; exact nI_le (Nat.le_refl _) (by decide)); have := hI.1; omega
    refine vl_aload_n C0 dX3_best_28 0 rfl ?_
    refine rc_get C0 (C := RX3) (T := TX3) (N := 4) (ci := 3) hinX3 (cR0 hok) rfl rfl 2 (by decide) (by decide +kernel) (v := .ref (ad 2 0)) (rfl) dX3_best_29 ?_
    refine vl_iload C0 dX3_best_32 4 rfl ?_
    by_cases hks : k + 1 < nl
    · skip
      refine rc_aldL C0 (cR2 hok) (vp_in_nI (show k + 1 < 9 by omega) (by decide)) (kn := (k + 1)) (nI_clamp (by omega)) (v := .ref (ad 5 (k + 1))) (by rw [if_pos hks]; rfl) dX3_best_34 ?_
      refine vl_astore (lv' := [(0, .ref (ad 0 0)), (1, .int ((plyM ns par mm 0 (29 + 1)).2.2.1)), (2, .int ((bstF (mkV ns par mm) (min k (nl - 1))).1)), (3, .int ((bstF (mkV ns par mm) (min k (nl - 1))).2)), (4, .int (nI (k + 1))), (5, .ref (ad 5 (k + 1)))]) C0 dX3_best_35 [1, 2, 3, 4, 5, 0] (by decide) rfl ?_
      refine vl_aload C0 dX3_best_37 5 rfl ?_
      refine vl_ifnonnull (tgt := 46) C0 dX3_best_39 (by decide) ?_
      refine vl_aload_n C0 dX3_best_46 0 rfl ?_
      refine vl_aload C0 dX3_best_47 5 rfl ?_
      refine vl_iload_n C0 dX3_best_49 1 rfl ?_
      refine vl_calli C0 (vl_goV C0 (As := [.ref (ad 5 (k + 1)), .int ((plyM ns par mm 0 (29 + 1)).2.2.1)]) (na := 2) (b := ad 0 0) (st := []) (ci := 3) gX3_best_X3_markAgainst rfl rfl rfl (by decide +kernel) ⟨Nat.le_of_ble_eq_true rfl, Nat.le_of_ble_eq_true rfl⟩ rfl (rc_rec (cR0 hok) rfl) dX3_best_50 (Nat.le_of_ble_eq_true rfl) ⟨Nat.le_of_ble_eq_true rfl, Nat.le_of_ble_eq_true rfl⟩ rfl rfl) (c_X3_markAgainst hl0 hok h19 h9 h8 (mm := mm) (rLn_f hln hI.2) (rWd_f hw hI.2) ht hcode hcg hrt (k + 1) ((plyM ns par mm 0 (29 + 1)).2.2.1) (hks)) (k2 := 0) (n2 := 0) (Nat.le_of_ble_eq_true rfl) (Nat.le_of_ble_eq_true rfl) (fun r9 w9 hp9 => ?_)
      obtain ⟨d2, rfl, hf2, rfl⟩ := hp9
      rw [mkA_V h0a]
      refine vl_istore (lv' := [(0, .ref (ad 0 0)), (1, .int ((plyM ns par mm 0 (29 + 1)).2.2.1)), (2, .int ((bstF (mkV ns par mm) (min k (nl - 1))).1)), (3, .int ((bstF (mkV ns par mm) (min k (nl - 1))).2)), (4, .int (nI (k + 1))), (5, .ref (ad 5 (k + 1))), (6, .int (mkV ns par mm (k + 1)))]) C0 dX3_best_53 [1, 2, 3, 4, 5, 6, 0] (by decide) rfl ?_
      refine vl_iload C0 dX3_best_55 6 rfl ?_
      refine vl_iload_n C0 dX3_best_57 3 rfl ?_
      refine vl_icmp_le (tgt := 67) C0 dX3_best_58 (by decide) (fun (h58 : (mkV ns par mm (k + 1) : Int32) ≤ ((bstF (mkV ns par mm) (min k (nl - 1))).2 : Int32)) => ?_) (fun (h58 : ¬ (mkV ns par mm (k + 1) : Int32) ≤ ((bstF (mkV ns par mm) (min k (nl - 1))).2 : Int32)) => ?_)
      · refine vl_iinc (v := nI (k + 1 + 1)) (lv' := [(0, .ref (ad 0 0)), (1, .int ((plyM ns par mm 0 (29 + 1)).2.2.1)), (2, .int ((bstF (mkV ns par mm) (min k (nl - 1))).1)), (3, .int ((bstF (mkV ns par mm) (min k (nl - 1))).2)), (4, .int (nI (k + 1 + 1))), (5, .ref (ad 5 (k + 1))), (6, .int (mkV ns par mm (k + 1)))]) C0 dX3_best_67 4 rfl (nI_1 (k + 1)) [1, 2, 3, 4, 0, 5, 6] (by decide) rfl ?_
        refine vl_goto (tgt := 18) C0 dX3_best_70 (by decide) ?_
        have hb : bstF (mkV ns par mm) (min (k + 1) (nl - 1)) = bstF (mkV ns par mm) (min k (nl - 1)) := by rw [show min (k + 1) (nl - 1) = min k (nl - 1) + 1 by omega, bstF, show min k (nl - 1) + 1 = k + 1 by omega]; exact if_neg (Int32.not_lt.mpr h58)
        have q9 := ihk (k + 1, d2) ⟨by omega, hI.2.tr hf2⟩ (by show 8 - (k + 1) < 8 - k; omega)
        dsimp only at q9
        rw [hb] at q9
        exact vl_lv (lv2 := [(0, .ref (ad 0 0)), (1, .int ((plyM ns par mm 0 (29 + 1)).2.2.1)), (2, .int ((bstF (mkV ns par mm) (min k (nl - 1))).1)), (3, .int ((bstF (mkV ns par mm) (min k (nl - 1))).2)), (4, .int (nI (k + 1 + 1)))]) [0, 1, 2, 3, 4] rfl q9
      · refine vl_iload C0 dX3_best_61 4 rfl ?_
        refine vl_istore_n (lv' := [(0, .ref (ad 0 0)), (1, .int ((plyM ns par mm 0 (29 + 1)).2.2.1)), (2, .int (nI (k + 1))), (3, .int ((bstF (mkV ns par mm) (min k (nl - 1))).2)), (4, .int (nI (k + 1))), (5, .ref (ad 5 (k + 1))), (6, .int (mkV ns par mm (k + 1)))]) C0 dX3_best_63 [1, 2, 0, 3, 4, 5, 6] (by decide) rfl ?_
        refine vl_iload C0 dX3_best_64 6 rfl ?_
        refine vl_istore_n (lv' := [(0, .ref (ad 0 0)), (1, .int ((plyM ns par mm 0 (29 + 1)).2.2.1)), (2, .int (nI (k + 1))), (3, .int (mkV ns par mm (k + 1))), (4, .int (nI (k + 1))), (5, .ref (ad 5 (k + 1))), (6, .int (mkV ns par mm (k + 1)))]) C0 dX3_best_66 [1, 2, 3, 0, 4, 5, 6] (by decide) rfl ?_
        refine vl_iinc (v := nI (k + 1 + 1)) (lv' := [(0, .ref (ad 0 0)), (1, .int ((plyM ns par mm 0 (29 + 1)).2.2.1)), (2, .int (nI (k + 1))), (3, .int (mkV ns par mm (k + 1))), (4, .int (nI (k + 1 + 1))), (5, .ref (ad 5 (k + 1))), (6, .int (mkV ns par mm (k + 1)))]) C0 dX3_best_67 4 rfl (nI_1 (k + 1)) [1, 2, 3, 4, 0, 5, 6] (by decide) rfl ?_
        refine vl_goto (tgt := 18) C0 dX3_best_70 (by decide) ?_
        have hb : bstF (mkV ns par mm) (min (k + 1) (nl - 1)) = (nI (k + 1), mkV ns par mm (k + 1)) := by rw [show min (k + 1) (nl - 1) = min k (nl - 1) + 1 by omega, bstF, show min k (nl - 1) + 1 = k + 1 by omega]; exact if_pos (Int32.not_le.mp h58)
        have q9 := ihk (k + 1, d2) ⟨by omega, hI.2.tr hf2⟩ (by show 8 - (k + 1) < 8 - k; omega)
        dsimp only at q9
        rw [hb] at q9
        exact vl_lv (lv2 := [(0, .ref (ad 0 0)), (1, .int ((plyM ns par mm 0 (29 + 1)).2.2.1)), (2, .int (nI (k + 1))), (3, .int (mkV ns par mm (k + 1))), (4, .int (nI (k + 1 + 1)))]) [0, 1, 2, 3, 4] rfl q9
    · skip
      refine rc_aldL C0 (cR2 hok) (vp_in_nI (show k + 1 < 9 by omega) (by decide)) (kn := (k + 1)) (nI_clamp (by omega)) (v := .null) (by rw [if_neg hks]; rfl) dX3_best_34 ?_
      refine vl_astoreN (lv' := [(0, .ref (ad 0 0)), (1, .int ((plyM ns par mm 0 (29 + 1)).2.2.1)), (2, .int ((bstF (mkV ns par mm) (min k (nl - 1))).1)), (3, .int ((bstF (mkV ns par mm) (min k (nl - 1))).2)), (4, .int (nI (k + 1))), (5, .null)]) C0 dX3_best_35 [1, 2, 3, 4, 5, 0] (by decide) rfl ?_
      refine vl_aloadN C0 dX3_best_37 5 rfl ?_
      refine vl_ifnonnullN C0 dX3_best_39 ?_
      refine vl_iconst (v := -1) C0 dX3_best_42 (by decide) ?_
      refine vl_goto (tgt := 53) C0 dX3_best_43 (by decide) ?_
      refine vl_istore (lv' := [(0, .ref (ad 0 0)), (1, .int ((plyM ns par mm 0 (29 + 1)).2.2.1)), (2, .int ((bstF (mkV ns par mm) (min k (nl - 1))).1)), (3, .int ((bstF (mkV ns par mm) (min k (nl - 1))).2)), (4, .int (nI (k + 1))), (5, .null), (6, .int ((-1)))]) C0 dX3_best_53 [1, 2, 3, 4, 5, 6, 0] (by decide) rfl ?_
      refine vl_iload C0 dX3_best_55 6 rfl ?_
      refine vl_iload_n C0 dX3_best_57 3 rfl ?_
      refine vl_icmp_le (tgt := 67) C0 dX3_best_58 (by decide) (fun (h58 : ((-1) : Int32) ≤ ((bstF (mkV ns par mm) (min k (nl - 1))).2 : Int32)) => ?_) (fun (h58 : ¬ ((-1) : Int32) ≤ ((bstF (mkV ns par mm) (min k (nl - 1))).2 : Int32)) => absurd (Int32.not_lt.mp (bstF_ge (mkV ns par mm) (min k (nl - 1)))) h58)
      refine vl_iinc (v := nI (k + 1 + 1)) (lv' := [(0, .ref (ad 0 0)), (1, .int ((plyM ns par mm 0 (29 + 1)).2.2.1)), (2, .int ((bstF (mkV ns par mm) (min k (nl - 1))).1)), (3, .int ((bstF (mkV ns par mm) (min k (nl - 1))).2)), (4, .int (nI (k + 1 + 1))), (5, .null), (6, .int ((-1)))]) C0 dX3_best_67 4 rfl (nI_1 (k + 1)) [1, 2, 3, 4, 0, 5, 6] (by decide) rfl ?_
      refine vl_goto (tgt := 18) C0 dX3_best_70 (by decide) ?_
      have hb : min (k + 1) (nl - 1) = min k (nl - 1) := by omega
      have q9 := ihk (k + 1, d1) ⟨by omega, hI.2⟩ (by show 8 - (k + 1) < 8 - k; omega)
      dsimp only at q9
      rw [hb] at q9
      exact vl_lv (lv2 := [(0, .ref (ad 0 0)), (1, .int ((plyM ns par mm 0 (29 + 1)).2.2.1)), (2, .int ((bstF (mkV ns par mm) (min k (nl - 1))).1)), (3, .int ((bstF (mkV ns par mm) (min k (nl - 1))).2)), (4, .int (nI (k + 1 + 1)))]) [0, 1, 2, 3, 4] rfl q9
end VC10
