section VM4
set_option maxHeartbeats 4000000 in
set_option maxRecDepth 100000 in
theorem c_X4_order {l : Launch} {D : va_G} {cy : Nat → ClassId} {ad : Nat → Nat} {mm : Nat → Nat → Int32} {X : va_W} {nl ns : Nat} (hl0 : l.stackTraces = false) (a t k z b : Int32) (e0 : mm 0 0 = nI ns) (h8 : ns ≤ 8) (e7 : mm 0 7 = nI nl) (h1 : 1 ≤ nl) (h9 : nl ≤ 9) : vl_Ki l D cy yX4_order wsX4_order { frames := 2, cells := 0, slots := 0, locals := 43 } 0 0 (mw cy ad mm ++ X) [.ref (ad 0), .int a, .int t, .int k, .int z, .int b] (fun r w' => r = (sp_order nl ns mm a t k z b).1 ∧ w' = mw cy ad (sp_order nl ns mm a t k z b).2 ++ X) := by
  refine vl_openi hl0 (by decide) rfl (Nat.le_of_ble_eq_true rfl) rfl ?_
  intro p e s m args below meth c C0 hr hnm
  generalize hA : va_A (mw cy ad mm ++ X) s.heap.size = A at C0 ⊢
  refine vl_lv (lv2 := [(0, .ref (ad 0)), (1, .int a), (2, .int t), (3, .int k), (4, .int z), (5, .int b)]) [0, 1, 2, 3, 4, 5] rfl ?_
  have hin : ∀ x ∈ u_ws RX4 TX4 18, x ∈ wsX4_order := by decide +kernel
  refine vl_aload_n C0 dX4_order_0 0 rfl ?_
  refine vl_iload_n C0 dX4_order_1 1 rfl ?_
  refine vl_calli C0 (vl_goV C0 (As := [.int a]) (na := 1) (b := ad 0) (st := []) (ci := 4) gX4_order_X4_isLine rfl rfl rfl (by decide +kernel) ⟨Nat.le_of_ble_eq_true rfl, Nat.le_of_ble_eq_true rfl⟩ rfl ⟨0, _, rfl⟩ dX4_order_2 (Nat.le_of_ble_eq_true rfl) ⟨Nat.le_of_ble_eq_true rfl, Nat.le_of_ble_eq_true rfl⟩ rfl rfl) (c_X4_isLine hl0 a) (k2 := 0) (n2 := 0) (Nat.le_of_ble_eq_true rfl) (Nat.le_of_ble_eq_true rfl) (fun r9 w9 hp9 => ?_)
  obtain ⟨rfl, rfl⟩ := hp9
  rw [e7]
  refine vl_if_eq (tgt := 36) C0 dX4_order_5 (by decide) (fun (h5 : (bI (inB a 0 (nI nl - 1)) : Int32) = (0 : Int32)) => ?_) (fun (h5 : ¬ (bI (inB a 0 (nI nl - 1)) : Int32) = (0 : Int32)) => ?_)
  · have g5 := bI_0.mp h5
    refine vl_iconst (v := 0) C0 dX4_order_36 (by decide) ?_
    refine vl_istore (lv' := [(0, .ref (ad 0)), (1, .int a), (2, .int t), (3, .int k), (4, .int z), (5, .int b), (6, .int 0)]) C0 dX4_order_37 [1, 2, 3, 4, 5, 6, 0] (by decide) rfl ?_
    refine vl_aload_n C0 dX4_order_39 0 rfl ?_
    refine vl_iload C0 dX4_order_40 6 rfl ?_
    refine vl_if_ne (tgt := 49) C0 dX4_order_42 (by decide) (fun (h42 : ¬ (0 : Int32) = (0 : Int32)) => absurd h42 (by decide)) (fun (h42 : (0 : Int32) = (0 : Int32)) => ?_)
    refine vl_iconst (v := 1) C0 dX4_order_45 (by decide) ?_
    refine vl_goto (tgt := 77) C0 dX4_order_46 (by decide) ?_
    refine vl_calli C0 (vl_goV C0 (As := [.int 1]) (na := 1) (b := ad 0) (st := []) (ci := 4) gX4_order_X4_fails rfl rfl rfl (by decide +kernel) ⟨Nat.le_of_ble_eq_true rfl, Nat.le_of_ble_eq_true rfl⟩ rfl ⟨0, _, rfl⟩ dX4_order_77 (Nat.le_of_ble_eq_true rfl) ⟨Nat.le_of_ble_eq_true rfl, Nat.le_of_ble_eq_true rfl⟩ rfl rfl) (c_X4_fails hl0 1) (k2 := 0) (n2 := 0) (Nat.le_of_ble_eq_true rfl) (Nat.le_of_ble_eq_true rfl) (fun r9 w9 hp9 => ?_)
    obtain ⟨hr9, rfl⟩ := hp9
    have hr9 : r9 = 1 := hr9.trans (by decide)
    subst hr9
    refine vl_if_eq (tgt := 85) C0 dX4_order_80 (by decide) (fun (h80 : (1 : Int32) = (0 : Int32)) => absurd h80 (by decide)) (fun (h80 : ¬ (1 : Int32) = (0 : Int32)) => ?_)
    refine vl_iconst (v := 0) C0 dX4_order_83 (by decide) ?_
    exact vl_zret C0 hA.symm hr rfl ⟨by (simp [sp_order, codeI, aheadB, bI, ← Int32.not_le, up2_o, g5]), by (simp [sp_order, codeI, aheadB, bI, ← Int32.not_le, up2_o, g5])⟩ (Nat.le_of_ble_eq_true rfl) (Nat.le_of_ble_eq_true rfl) dX4_order_84
  · have g5 := bI_n.mp h5
    refine vl_iload_n C0 dX4_order_8 2 rfl ?_
    refine vl_calli C0 (vl_goS C0 (As := [.int t]) (na := 1) (st := []) gX4_order_X4_isTurn rfl rfl rfl (by decide +kernel) ⟨Nat.le_of_ble_eq_true rfl, Nat.le_of_ble_eq_true rfl⟩ dX4_order_9 (Nat.le_of_ble_eq_true rfl) ⟨Nat.le_of_ble_eq_true rfl, Nat.le_of_ble_eq_true rfl⟩ rfl rfl) (c_X4_isTurn hl0 t) (k2 := 0) (n2 := 0) (Nat.le_of_ble_eq_true rfl) (Nat.le_of_ble_eq_true rfl) (fun r9 w9 hp9 => ?_)
    obtain ⟨rfl, rfl⟩ := hp9
    refine vl_if_eq (tgt := 36) C0 dX4_order_12 (by decide) (fun (h12 : (bI (inB t 0 29) : Int32) = (0 : Int32)) => ?_) (fun (h12 : ¬ (bI (inB t 0 29) : Int32) = (0 : Int32)) => ?_)
    · have g12 := bI_0.mp h12
      refine vl_iconst (v := 0) C0 dX4_order_36 (by decide) ?_
      refine vl_istore (lv' := [(0, .ref (ad 0)), (1, .int a), (2, .int t), (3, .int k), (4, .int z), (5, .int b), (6, .int 0)]) C0 dX4_order_37 [1, 2, 3, 4, 5, 6, 0] (by decide) rfl ?_
      refine vl_aload_n C0 dX4_order_39 0 rfl ?_
      refine vl_iload C0 dX4_order_40 6 rfl ?_
      refine vl_if_ne (tgt := 49) C0 dX4_order_42 (by decide) (fun (h42 : ¬ (0 : Int32) = (0 : Int32)) => absurd h42 (by decide)) (fun (h42 : (0 : Int32) = (0 : Int32)) => ?_)
      refine vl_iconst (v := 1) C0 dX4_order_45 (by decide) ?_
      refine vl_goto (tgt := 77) C0 dX4_order_46 (by decide) ?_
      refine vl_calli C0 (vl_goV C0 (As := [.int 1]) (na := 1) (b := ad 0) (st := []) (ci := 4) gX4_order_X4_fails rfl rfl rfl (by decide +kernel) ⟨Nat.le_of_ble_eq_true rfl, Nat.le_of_ble_eq_true rfl⟩ rfl ⟨0, _, rfl⟩ dX4_order_77 (Nat.le_of_ble_eq_true rfl) ⟨Nat.le_of_ble_eq_true rfl, Nat.le_of_ble_eq_true rfl⟩ rfl rfl) (c_X4_fails hl0 1) (k2 := 0) (n2 := 0) (Nat.le_of_ble_eq_true rfl) (Nat.le_of_ble_eq_true rfl) (fun r9 w9 hp9 => ?_)
      obtain ⟨hr9, rfl⟩ := hp9
      have hr9 : r9 = 1 := hr9.trans (by decide)
      subst hr9
      refine vl_if_eq (tgt := 85) C0 dX4_order_80 (by decide) (fun (h80 : (1 : Int32) = (0 : Int32)) => absurd h80 (by decide)) (fun (h80 : ¬ (1 : Int32) = (0 : Int32)) => ?_)
      refine vl_iconst (v := 0) C0 dX4_order_83 (by decide) ?_
      exact vl_zret C0 hA.symm hr rfl ⟨by (simp [sp_order, codeI, aheadB, bI, ← Int32.not_le, up2_o, g5, g12]), by (simp [sp_order, codeI, aheadB, bI, ← Int32.not_le, up2_o, g5, g12])⟩ (Nat.le_of_ble_eq_true rfl) (Nat.le_of_ble_eq_true rfl) dX4_order_84
    · have g12 := bI_n.mp h12
      refine vl_aload_n C0 dX4_order_15 0 rfl ?_
      refine vl_iload C0 dX4_order_16 4 rfl ?_
      refine vl_calli C0 (vl_goV C0 (As := [.int z]) (na := 1) (b := ad 0) (st := []) (ci := 4) gX4_order_X4_isShip rfl rfl rfl (by decide +kernel) ⟨Nat.le_of_ble_eq_true rfl, Nat.le_of_ble_eq_true rfl⟩ rfl ⟨0, _, rfl⟩ dX4_order_18 (Nat.le_of_ble_eq_true rfl) ⟨Nat.le_of_ble_eq_true rfl, Nat.le_of_ble_eq_true rfl⟩ rfl rfl) (c_X4_isShip hl0 z) (k2 := 0) (n2 := 0) (Nat.le_of_ble_eq_true rfl) (Nat.le_of_ble_eq_true rfl) (fun r9 w9 hp9 => ?_)
      obtain ⟨rfl, rfl⟩ := hp9
      rw [e0]
      refine vl_if_eq (tgt := 36) C0 dX4_order_21 (by decide) (fun (h21 : (bI (inB z 0 (nI ns - 1)) : Int32) = (0 : Int32)) => ?_) (fun (h21 : ¬ (bI (inB z 0 (nI ns - 1)) : Int32) = (0 : Int32)) => ?_)
      · have g21 := bI_0.mp h21
        refine vl_iconst (v := 0) C0 dX4_order_36 (by decide) ?_
        refine vl_istore (lv' := [(0, .ref (ad 0)), (1, .int a), (2, .int t), (3, .int k), (4, .int z), (5, .int b), (6, .int 0)]) C0 dX4_order_37 [1, 2, 3, 4, 5, 6, 0] (by decide) rfl ?_
        refine vl_aload_n C0 dX4_order_39 0 rfl ?_
        refine vl_iload C0 dX4_order_40 6 rfl ?_
        refine vl_if_ne (tgt := 49) C0 dX4_order_42 (by decide) (fun (h42 : ¬ (0 : Int32) = (0 : Int32)) => absurd h42 (by decide)) (fun (h42 : (0 : Int32) = (0 : Int32)) => ?_)
        refine vl_iconst (v := 1) C0 dX4_order_45 (by decide) ?_
        refine vl_goto (tgt := 77) C0 dX4_order_46 (by decide) ?_
        refine vl_calli C0 (vl_goV C0 (As := [.int 1]) (na := 1) (b := ad 0) (st := []) (ci := 4) gX4_order_X4_fails rfl rfl rfl (by decide +kernel) ⟨Nat.le_of_ble_eq_true rfl, Nat.le_of_ble_eq_true rfl⟩ rfl ⟨0, _, rfl⟩ dX4_order_77 (Nat.le_of_ble_eq_true rfl) ⟨Nat.le_of_ble_eq_true rfl, Nat.le_of_ble_eq_true rfl⟩ rfl rfl) (c_X4_fails hl0 1) (k2 := 0) (n2 := 0) (Nat.le_of_ble_eq_true rfl) (Nat.le_of_ble_eq_true rfl) (fun r9 w9 hp9 => ?_)
        obtain ⟨hr9, rfl⟩ := hp9
        have hr9 : r9 = 1 := hr9.trans (by decide)
        subst hr9
        refine vl_if_eq (tgt := 85) C0 dX4_order_80 (by decide) (fun (h80 : (1 : Int32) = (0 : Int32)) => absurd h80 (by decide)) (fun (h80 : ¬ (1 : Int32) = (0 : Int32)) => ?_)
        refine vl_iconst (v := 0) C0 dX4_order_83 (by decide) ?_
        exact vl_zret C0 hA.symm hr rfl ⟨by (simp [sp_order, codeI, aheadB, bI, ← Int32.not_le, up2_o, g5, g12, g21]), by (simp [sp_order, codeI, aheadB, bI, ← Int32.not_le, up2_o, g5, g12, g21])⟩ (Nat.le_of_ble_eq_true rfl) (Nat.le_of_ble_eq_true rfl) dX4_order_84
      · have g21 := bI_n.mp h21
        refine vl_iload C0 dX4_order_24 5 rfl ?_
        refine vl_calli C0 (vl_goS C0 (As := [.int b]) (na := 1) (st := []) gX4_order_X4_isBerth rfl rfl rfl (by decide +kernel) ⟨Nat.le_of_ble_eq_true rfl, Nat.le_of_ble_eq_true rfl⟩ dX4_order_26 (Nat.le_of_ble_eq_true rfl) ⟨Nat.le_of_ble_eq_true rfl, Nat.le_of_ble_eq_true rfl⟩ rfl rfl) (c_X4_isBerth hl0 b) (k2 := 0) (n2 := 0) (Nat.le_of_ble_eq_true rfl) (Nat.le_of_ble_eq_true rfl) (fun r9 w9 hp9 => ?_)
        obtain ⟨rfl, rfl⟩ := hp9
        refine vl_if_eq (tgt := 36) C0 dX4_order_29 (by decide) (fun (h29 : (bI (inB b 0 2) : Int32) = (0 : Int32)) => ?_) (fun (h29 : ¬ (bI (inB b 0 2) : Int32) = (0 : Int32)) => ?_)
        · have g29 := bI_0.mp h29
          refine vl_iconst (v := 0) C0 dX4_order_36 (by decide) ?_
          refine vl_istore (lv' := [(0, .ref (ad 0)), (1, .int a), (2, .int t), (3, .int k), (4, .int z), (5, .int b), (6, .int 0)]) C0 dX4_order_37 [1, 2, 3, 4, 5, 6, 0] (by decide) rfl ?_
          refine vl_aload_n C0 dX4_order_39 0 rfl ?_
          refine vl_iload C0 dX4_order_40 6 rfl ?_
          refine vl_if_ne (tgt := 49) C0 dX4_order_42 (by decide) (fun (h42 : ¬ (0 : Int32) = (0 : Int32)) => absurd h42 (by decide)) (fun (h42 : (0 : Int32) = (0 : Int32)) => ?_)
          refine vl_iconst (v := 1) C0 dX4_order_45 (by decide) ?_
          refine vl_goto (tgt := 77) C0 dX4_order_46 (by decide) ?_
          refine vl_calli C0 (vl_goV C0 (As := [.int 1]) (na := 1) (b := ad 0) (st := []) (ci := 4) gX4_order_X4_fails rfl rfl rfl (by decide +kernel) ⟨Nat.le_of_ble_eq_true rfl, Nat.le_of_ble_eq_true rfl⟩ rfl ⟨0, _, rfl⟩ dX4_order_77 (Nat.le_of_ble_eq_true rfl) ⟨Nat.le_of_ble_eq_true rfl, Nat.le_of_ble_eq_true rfl⟩ rfl rfl) (c_X4_fails hl0 1) (k2 := 0) (n2 := 0) (Nat.le_of_ble_eq_true rfl) (Nat.le_of_ble_eq_true rfl) (fun r9 w9 hp9 => ?_)
          obtain ⟨hr9, rfl⟩ := hp9
          have hr9 : r9 = 1 := hr9.trans (by decide)
          subst hr9
          refine vl_if_eq (tgt := 85) C0 dX4_order_80 (by decide) (fun (h80 : (1 : Int32) = (0 : Int32)) => absurd h80 (by decide)) (fun (h80 : ¬ (1 : Int32) = (0 : Int32)) => ?_)
          refine vl_iconst (v := 0) C0 dX4_order_83 (by decide) ?_
          exact vl_zret C0 hA.symm hr rfl ⟨by (simp [sp_order, codeI, aheadB, bI, ← Int32.not_le, up2_o, g5, g12, g21, g29]), by (simp [sp_order, codeI, aheadB, bI, ← Int32.not_le, up2_o, g5, g12, g21, g29])⟩ (Nat.le_of_ble_eq_true rfl) (Nat.le_of_ble_eq_true rfl) dX4_order_84
        · have g29 := bI_n.mp h29
          refine vl_iconst (v := 1) C0 dX4_order_32 (by decide) ?_
          refine vl_goto (tgt := 37) C0 dX4_order_33 (by decide) ?_
          refine vl_istore (lv' := [(0, .ref (ad 0)), (1, .int a), (2, .int t), (3, .int k), (4, .int z), (5, .int b), (6, .int 1)]) C0 dX4_order_37 [1, 2, 3, 4, 5, 6, 0] (by decide) rfl ?_
          refine vl_aload_n C0 dX4_order_39 0 rfl ?_
          refine vl_iload C0 dX4_order_40 6 rfl ?_
          refine vl_if_ne (tgt := 49) C0 dX4_order_42 (by decide) (fun (h42 : ¬ (1 : Int32) = (0 : Int32)) => ?_) (fun (h42 : (1 : Int32) = (0 : Int32)) => absurd h42 (by decide))
          refine vl_iload_n C0 dX4_order_49 3 rfl ?_
          refine vl_iconst (v := 0) C0 dX4_order_50 (by decide) ?_
          refine vl_iconst (v := 2) C0 dX4_order_51 (by decide) ?_
          refine vl_calli C0 (vl_goS C0 (As := [.int k, .int 0, .int 2]) (na := 3) (st := [.ref (ad 0)]) gX4_order_X4_isIn rfl rfl rfl (by decide +kernel) ⟨Nat.le_of_ble_eq_true rfl, Nat.le_of_ble_eq_true rfl⟩ dX4_order_52 (Nat.le_of_ble_eq_true rfl) ⟨Nat.le_of_ble_eq_true rfl, Nat.le_of_ble_eq_true rfl⟩ rfl rfl) (c_X4_isIn hl0 k 0 2) (k2 := 0) (n2 := 0) (Nat.le_of_ble_eq_true rfl) (Nat.le_of_ble_eq_true rfl) (fun r9 w9 hp9 => ?_)
          obtain ⟨rfl, rfl⟩ := hp9
          refine vl_if_ne (tgt := 62) C0 dX4_order_55 (by decide) (fun (h55 : ¬ (bI (inB k 0 2) : Int32) = (0 : Int32)) => ?_) (fun (h55 : (bI (inB k 0 2) : Int32) = (0 : Int32)) => ?_)
          · have g55 := bI_n.mp h55
            refine vl_iload_n C0 dX4_order_62 2 rfl ?_
            refine vl_aload_n C0 dX4_order_63 0 rfl ?_
            refine rm_get C0 hin 9 (by decide) (by decide +kernel) rfl dX4_order_64 ?_
            refine vl_iload_n C0 dX4_order_67 1 rfl ?_
            refine rm_iald C0 9 6 9 rfl (inB_n h1 h9 (by decide) g5) (kn := (a).toNatClampNeg) (rfl) (v := mm 9 ((a).toNatClampNeg)) (rfl) dX4_order_68 ?_
            refine vl_icmp_ge (tgt := 76) C0 dX4_order_69 (by decide) (fun (h69 : (mm 9 ((a).toNatClampNeg) : Int32) ≤ (t : Int32)) => ?_) (fun (h69 : ¬ (mm 9 ((a).toNatClampNeg) : Int32) ≤ (t : Int32)) => ?_)
            · refine vl_iconst (v := 0) C0 dX4_order_76 (by decide) ?_
              refine vl_calli C0 (vl_goV C0 (As := [.int 0]) (na := 1) (b := ad 0) (st := []) (ci := 4) gX4_order_X4_fails rfl rfl rfl (by decide +kernel) ⟨Nat.le_of_ble_eq_true rfl, Nat.le_of_ble_eq_true rfl⟩ rfl ⟨0, _, rfl⟩ dX4_order_77 (Nat.le_of_ble_eq_true rfl) ⟨Nat.le_of_ble_eq_true rfl, Nat.le_of_ble_eq_true rfl⟩ rfl rfl) (c_X4_fails hl0 0) (k2 := 0) (n2 := 0) (Nat.le_of_ble_eq_true rfl) (Nat.le_of_ble_eq_true rfl) (fun r9 w9 hp9 => ?_)
              obtain ⟨hr9, rfl⟩ := hp9
              have hr9 : r9 = 0 := hr9.trans (by decide)
              subst hr9
              refine vl_if_eq (tgt := 85) C0 dX4_order_80 (by decide) (fun (h80 : (0 : Int32) = (0 : Int32)) => ?_) (fun (h80 : ¬ (0 : Int32) = (0 : Int32)) => absurd h80 (by decide))
              refine vl_bipush (v := 30) C0 dX4_order_85 (by decide) ?_
              refine vl_iload_n C0 dX4_order_87 1 rfl ?_
              refine vl_imul C0 dX4_order_88 ?_
              refine vl_iload_n C0 dX4_order_89 2 rfl ?_
              refine vl_iadd C0 dX4_order_90 ?_
              refine vl_istore (lv' := [(0, .ref (ad 0)), (1, .int a), (2, .int t), (3, .int k), (4, .int z), (5, .int b), (6, .int 1), (7, .int (((30) * (a)) + (t)))]) C0 dX4_order_91 [1, 2, 3, 4, 5, 6, 7, 0] (by decide) rfl ?_
              refine vl_aload_n C0 dX4_order_93 0 rfl ?_
              refine rm_get C0 hin 11 (by decide) (by decide +kernel) rfl dX4_order_94 ?_
              refine vl_iload C0 dX4_order_97 7 rfl ?_
              refine vl_iload_n C0 dX4_order_99 3 rfl ?_
              refine vl_if_ne (tgt := 107) C0 dX4_order_100 (by decide) (fun (h100 : ¬ (k : Int32) = (0 : Int32)) => ?_) (fun (h100 : (k : Int32) = (0 : Int32)) => ?_)
              · refine vl_bipush (v := 100) C0 dX4_order_107 (by decide) ?_
                refine vl_iload_n C0 dX4_order_109 3 rfl ?_
                refine vl_imul C0 dX4_order_110 ?_
                refine vl_bipush (v := 10) C0 dX4_order_111 (by decide) ?_
                refine vl_iload C0 dX4_order_113 4 rfl ?_
                refine vl_imul C0 dX4_order_115 ?_
                refine vl_iadd C0 dX4_order_116 ?_
                refine vl_iload_n C0 dX4_order_117 3 rfl ?_
                refine vl_iconst (v := 1) C0 dX4_order_118 (by decide) ?_
                refine vl_icmp_ne (tgt := 127) C0 dX4_order_119 (by decide) (fun (h119 : ¬ (k : Int32) = (1 : Int32)) => ?_) (fun (h119 : (k : Int32) = (1 : Int32)) => ?_)
                · refine vl_iconst (v := 0) C0 dX4_order_127 (by decide) ?_
                  refine vl_iadd C0 dX4_order_128 ?_
                  refine rm_iast C0 11 8 270 rfl (mw_st11 _ _) (inB_pl h1 h9 g5 g12) (kn := (((30) * (a)) + (t)).toNatClampNeg) (rfl) dX4_order_129 ?_
                  refine vl_aload_n C0 dX4_order_130 0 rfl ?_
                  refine rm_get C0 hin 12 (by decide) (by decide +kernel) rfl dX4_order_131 ?_
                  refine vl_iload C0 dX4_order_134 7 rfl ?_
                  refine vl_iload_n C0 dX4_order_136 1 rfl ?_
                  refine vl_if_le (tgt := 154) C0 dX4_order_137 (by decide) (fun (h137 : (a : Int32) ≤ (0 : Int32)) => ?_) (fun (h137 : ¬ (a : Int32) ≤ (0 : Int32)) => ?_)
                  · refine vl_iconst (v := 0) C0 dX4_order_154 (by decide) ?_
                    refine rm_zast C0 (inB_pl h1 h9 g5 g12) (kn := (((30) * (a)) + (t)).toNatClampNeg) (rfl) dX4_order_155 ?_
                    refine vl_aload_n C0 dX4_order_156 0 rfl ?_
                    refine rm_get C0 hin 12 (by decide) (by decide +kernel) rfl dX4_order_157 ?_
                    refine vl_iload C0 dX4_order_160 7 rfl ?_
                    refine rm_zald C0 (inB_pl h1 h9 g5 g12) (kn := (((30) * (a)) + (t)).toNatClampNeg) (rfl) dX4_order_162 ?_
                    rw [up2_same, vnb0]
                    exact vl_zret C0 hA.symm hr rfl ⟨by (simp [sp_order, codeI, aheadB, bI, ← Int32.not_le, up2_o, g5, g12, g21, g29, g55, h69, h100, h119, h137]), by (simp [sp_order, codeI, aheadB, bI, ← Int32.not_le, up2_o, g5, g12, g21, g29, g55, h69, h100, h119, h137])⟩ (Nat.le_of_ble_eq_true rfl) (Nat.le_of_ble_eq_true rfl) dX4_order_163
                  · refine vl_aload_n C0 dX4_order_140 0 rfl ?_
                    refine rm_get C0 hin 10 (by decide) (by decide +kernel) rfl dX4_order_141 ?_
                    refine vl_iload_n C0 dX4_order_144 1 rfl ?_
                    refine rm_iald C0 10 7 9 rfl (inB_n h1 h9 (by decide) g5) (kn := (a).toNatClampNeg) (rfl) (v := mm 10 ((a).toNatClampNeg)) (rfl) dX4_order_145 ?_
                    refine vl_iload_n C0 dX4_order_146 2 rfl ?_
                    refine vl_icmp_le (tgt := 154) C0 dX4_order_147 (by decide) (fun (h147 : (mm 10 ((a).toNatClampNeg) : Int32) ≤ (t : Int32)) => ?_) (fun (h147 : ¬ (mm 10 ((a).toNatClampNeg) : Int32) ≤ (t : Int32)) => ?_)
                    · refine vl_iconst (v := 0) C0 dX4_order_154 (by decide) ?_
                      refine rm_zast C0 (inB_pl h1 h9 g5 g12) (kn := (((30) * (a)) + (t)).toNatClampNeg) (rfl) dX4_order_155 ?_
                      refine vl_aload_n C0 dX4_order_156 0 rfl ?_
                      refine rm_get C0 hin 12 (by decide) (by decide +kernel) rfl dX4_order_157 ?_
                      refine vl_iload C0 dX4_order_160 7 rfl ?_
                      refine rm_zald C0 (inB_pl h1 h9 g5 g12) (kn := (((30) * (a)) + (t)).toNatClampNeg) (rfl) dX4_order_162 ?_
                      rw [up2_same, vnb0]
                      exact vl_zret C0 hA.symm hr rfl ⟨by (simp [sp_order, codeI, aheadB, bI, ← Int32.not_le, up2_o, g5, g12, g21, g29, g55, h69, h100, h119, h137, h147]), by (simp [sp_order, codeI, aheadB, bI, ← Int32.not_le, up2_o, g5, g12, g21, g29, g55, h69, h100, h119, h137, h147])⟩ (Nat.le_of_ble_eq_true rfl) (Nat.le_of_ble_eq_true rfl) dX4_order_163
                    · refine vl_iconst (v := 1) C0 dX4_order_150 (by decide) ?_
                      refine vl_goto (tgt := 155) C0 dX4_order_151 (by decide) ?_
                      refine rm_zast C0 (inB_pl h1 h9 g5 g12) (kn := (((30) * (a)) + (t)).toNatClampNeg) (rfl) dX4_order_155 ?_
                      refine vl_aload_n C0 dX4_order_156 0 rfl ?_
                      refine rm_get C0 hin 12 (by decide) (by decide +kernel) rfl dX4_order_157 ?_
                      refine vl_iload C0 dX4_order_160 7 rfl ?_
                      refine rm_zald C0 (inB_pl h1 h9 g5 g12) (kn := (((30) * (a)) + (t)).toNatClampNeg) (rfl) dX4_order_162 ?_
                      rw [up2_same, vnb1]
                      exact vl_zret C0 hA.symm hr rfl ⟨by (simp [sp_order, codeI, aheadB, bI, ← Int32.not_le, up2_o, g5, g12, g21, g29, g55, h69, h100, h119, h137, h147]), by (simp [sp_order, codeI, aheadB, bI, ← Int32.not_le, up2_o, g5, g12, g21, g29, g55, h69, h100, h119, h137, h147])⟩ (Nat.le_of_ble_eq_true rfl) (Nat.le_of_ble_eq_true rfl) dX4_order_163
                · refine vl_iload C0 dX4_order_122 5 rfl ?_
                  refine vl_goto (tgt := 128) C0 dX4_order_124 (by decide) ?_
                  refine vl_iadd C0 dX4_order_128 ?_
                  refine rm_iast C0 11 8 270 rfl (mw_st11 _ _) (inB_pl h1 h9 g5 g12) (kn := (((30) * (a)) + (t)).toNatClampNeg) (rfl) dX4_order_129 ?_
                  refine vl_aload_n C0 dX4_order_130 0 rfl ?_
                  refine rm_get C0 hin 12 (by decide) (by decide +kernel) rfl dX4_order_131 ?_
                  refine vl_iload C0 dX4_order_134 7 rfl ?_
                  refine vl_iload_n C0 dX4_order_136 1 rfl ?_
                  refine vl_if_le (tgt := 154) C0 dX4_order_137 (by decide) (fun (h137 : (a : Int32) ≤ (0 : Int32)) => ?_) (fun (h137 : ¬ (a : Int32) ≤ (0 : Int32)) => ?_)
                  · refine vl_iconst (v := 0) C0 dX4_order_154 (by decide) ?_
                    refine rm_zast C0 (inB_pl h1 h9 g5 g12) (kn := (((30) * (a)) + (t)).toNatClampNeg) (rfl) dX4_order_155 ?_
                    refine vl_aload_n C0 dX4_order_156 0 rfl ?_
                    refine rm_get C0 hin 12 (by decide) (by decide +kernel) rfl dX4_order_157 ?_
                    refine vl_iload C0 dX4_order_160 7 rfl ?_
                    refine rm_zald C0 (inB_pl h1 h9 g5 g12) (kn := (((30) * (a)) + (t)).toNatClampNeg) (rfl) dX4_order_162 ?_
                    rw [up2_same, vnb0]
                    exact vl_zret C0 hA.symm hr rfl ⟨by (subst h119; simp [sp_order, codeI, aheadB, bI, ← Int32.not_le, up2_o, g5, g12, g21, g29, g55, h69, h100, h137]), by (subst h119; simp [sp_order, codeI, aheadB, bI, ← Int32.not_le, up2_o, g5, g12, g21, g29, g55, h69, h100, h137])⟩ (Nat.le_of_ble_eq_true rfl) (Nat.le_of_ble_eq_true rfl) dX4_order_163
                  · refine vl_aload_n C0 dX4_order_140 0 rfl ?_
                    refine rm_get C0 hin 10 (by decide) (by decide +kernel) rfl dX4_order_141 ?_
                    refine vl_iload_n C0 dX4_order_144 1 rfl ?_
                    refine rm_iald C0 10 7 9 rfl (inB_n h1 h9 (by decide) g5) (kn := (a).toNatClampNeg) (rfl) (v := mm 10 ((a).toNatClampNeg)) (rfl) dX4_order_145 ?_
                    refine vl_iload_n C0 dX4_order_146 2 rfl ?_
                    refine vl_icmp_le (tgt := 154) C0 dX4_order_147 (by decide) (fun (h147 : (mm 10 ((a).toNatClampNeg) : Int32) ≤ (t : Int32)) => ?_) (fun (h147 : ¬ (mm 10 ((a).toNatClampNeg) : Int32) ≤ (t : Int32)) => ?_)
                    · refine vl_iconst (v := 0) C0 dX4_order_154 (by decide) ?_
                      refine rm_zast C0 (inB_pl h1 h9 g5 g12) (kn := (((30) * (a)) + (t)).toNatClampNeg) (rfl) dX4_order_155 ?_
                      refine vl_aload_n C0 dX4_order_156 0 rfl ?_
                      refine rm_get C0 hin 12 (by decide) (by decide +kernel) rfl dX4_order_157 ?_
                      refine vl_iload C0 dX4_order_160 7 rfl ?_
                      refine rm_zald C0 (inB_pl h1 h9 g5 g12) (kn := (((30) * (a)) + (t)).toNatClampNeg) (rfl) dX4_order_162 ?_
                      rw [up2_same, vnb0]
                      exact vl_zret C0 hA.symm hr rfl ⟨by (subst h119; simp [sp_order, codeI, aheadB, bI, ← Int32.not_le, up2_o, g5, g12, g21, g29, g55, h69, h100, h137, h147]), by (subst h119; simp [sp_order, codeI, aheadB, bI, ← Int32.not_le, up2_o, g5, g12, g21, g29, g55, h69, h100, h137, h147])⟩ (Nat.le_of_ble_eq_true rfl) (Nat.le_of_ble_eq_true rfl) dX4_order_163
                    · refine vl_iconst (v := 1) C0 dX4_order_150 (by decide) ?_
                      refine vl_goto (tgt := 155) C0 dX4_order_151 (by decide) ?_
                      refine rm_zast C0 (inB_pl h1 h9 g5 g12) (kn := (((30) * (a)) + (t)).toNatClampNeg) (rfl) dX4_order_155 ?_
                      refine vl_aload_n C0 dX4_order_156 0 rfl ?_
                      refine rm_get C0 hin 12 (by decide) (by decide +kernel) rfl dX4_order_157 ?_
                      refine vl_iload C0 dX4_order_160 7 rfl ?_
                      refine rm_zald C0 (inB_pl h1 h9 g5 g12) (kn := (((30) * (a)) + (t)).toNatClampNeg) (rfl) dX4_order_162 ?_
                      rw [up2_same, vnb1]
                      exact vl_zret C0 hA.symm hr rfl ⟨by (subst h119; simp [sp_order, codeI, aheadB, bI, ← Int32.not_le, up2_o, g5, g12, g21, g29, g55, h69, h100, h137, h147]), by (subst h119; simp [sp_order, codeI, aheadB, bI, ← Int32.not_le, up2_o, g5, g12, g21, g29, g55, h69, h100, h137, h147])⟩ (Nat.le_of_ble_eq_true rfl) (Nat.le_of_ble_eq_true rfl) dX4_order_163
              · refine vl_iconst (v := 0) C0 dX4_order_103 (by decide) ?_
                refine vl_goto (tgt := 129) C0 dX4_order_104 (by decide) ?_
                refine rm_iast C0 11 8 270 rfl (mw_st11 _ _) (inB_pl h1 h9 g5 g12) (kn := (((30) * (a)) + (t)).toNatClampNeg) (rfl) dX4_order_129 ?_
                refine vl_aload_n C0 dX4_order_130 0 rfl ?_
                refine rm_get C0 hin 12 (by decide) (by decide +kernel) rfl dX4_order_131 ?_
                refine vl_iload C0 dX4_order_134 7 rfl ?_
                refine vl_iload_n C0 dX4_order_136 1 rfl ?_
                refine vl_if_le (tgt := 154) C0 dX4_order_137 (by decide) (fun (h137 : (a : Int32) ≤ (0 : Int32)) => ?_) (fun (h137 : ¬ (a : Int32) ≤ (0 : Int32)) => ?_)
                · refine vl_iconst (v := 0) C0 dX4_order_154 (by decide) ?_
                  refine rm_zast C0 (inB_pl h1 h9 g5 g12) (kn := (((30) * (a)) + (t)).toNatClampNeg) (rfl) dX4_order_155 ?_
                  refine vl_aload_n C0 dX4_order_156 0 rfl ?_
                  refine rm_get C0 hin 12 (by decide) (by decide +kernel) rfl dX4_order_157 ?_
                  refine vl_iload C0 dX4_order_160 7 rfl ?_
                  refine rm_zald C0 (inB_pl h1 h9 g5 g12) (kn := (((30) * (a)) + (t)).toNatClampNeg) (rfl) dX4_order_162 ?_
                  rw [up2_same, vnb0]
                  exact vl_zret C0 hA.symm hr rfl ⟨by (subst h100; simp [sp_order, codeI, aheadB, bI, ← Int32.not_le, up2_o, g5, g12, g21, g29, g55, h69, h137]), by (subst h100; simp [sp_order, codeI, aheadB, bI, ← Int32.not_le, up2_o, g5, g12, g21, g29, g55, h69, h137])⟩ (Nat.le_of_ble_eq_true rfl) (Nat.le_of_ble_eq_true rfl) dX4_order_163
                · refine vl_aload_n C0 dX4_order_140 0 rfl ?_
                  refine rm_get C0 hin 10 (by decide) (by decide +kernel) rfl dX4_order_141 ?_
                  refine vl_iload_n C0 dX4_order_144 1 rfl ?_
                  refine rm_iald C0 10 7 9 rfl (inB_n h1 h9 (by decide) g5) (kn := (a).toNatClampNeg) (rfl) (v := mm 10 ((a).toNatClampNeg)) (rfl) dX4_order_145 ?_
                  refine vl_iload_n C0 dX4_order_146 2 rfl ?_
                  refine vl_icmp_le (tgt := 154) C0 dX4_order_147 (by decide) (fun (h147 : (mm 10 ((a).toNatClampNeg) : Int32) ≤ (t : Int32)) => ?_) (fun (h147 : ¬ (mm 10 ((a).toNatClampNeg) : Int32) ≤ (t : Int32)) => ?_)
                  · refine vl_iconst (v := 0) C0 dX4_order_154 (by decide) ?_
                    refine rm_zast C0 (inB_pl h1 h9 g5 g12) (kn := (((30) * (a)) + (t)).toNatClampNeg) (rfl) dX4_order_155 ?_
                    refine vl_aload_n C0 dX4_order_156 0 rfl ?_
                    refine rm_get C0 hin 12 (by decide) (by decide +kernel) rfl dX4_order_157 ?_
                    refine vl_iload C0 dX4_order_160 7 rfl ?_
                    refine rm_zald C0 (inB_pl h1 h9 g5 g12) (kn := (((30) * (a)) + (t)).toNatClampNeg) (rfl) dX4_order_162 ?_
                    rw [up2_same, vnb0]
                    exact vl_zret C0 hA.symm hr rfl ⟨by (subst h100; simp [sp_order, codeI, aheadB, bI, ← Int32.not_le, up2_o, g5, g12, g21, g29, g55, h69, h137, h147]), by (subst h100; simp [sp_order, codeI, aheadB, bI, ← Int32.not_le, up2_o, g5, g12, g21, g29, g55, h69, h137, h147])⟩ (Nat.le_of_ble_eq_true rfl) (Nat.le_of_ble_eq_true rfl) dX4_order_163
                  · refine vl_iconst (v := 1) C0 dX4_order_150 (by decide) ?_
                    refine vl_goto (tgt := 155) C0 dX4_order_151 (by decide) ?_
                    refine rm_zast C0 (inB_pl h1 h9 g5 g12) (kn := (((30) * (a)) + (t)).toNatClampNeg) (rfl) dX4_order_155 ?_
                    refine vl_aload_n C0 dX4_order_156 0 rfl ?_
                    refine rm_get C0 hin 12 (by decide) (by decide +kernel) rfl dX4_order_157 ?_
                    refine vl_iload C0 dX4_order_160 7 rfl ?_
                    refine rm_zald C0 (inB_pl h1 h9 g5 g12) (kn := (((30) * (a)) + (t)).toNatClampNeg) (rfl) dX4_order_162 ?_
                    rw [up2_same, vnb1]
                    exact vl_zret C0 hA.symm hr rfl ⟨by (subst h100; simp [sp_order, codeI, aheadB, bI, ← Int32.not_le, up2_o, g5, g12, g21, g29, g55, h69, h137, h147]), by (subst h100; simp [sp_order, codeI, aheadB, bI, ← Int32.not_le, up2_o, g5, g12, g21, g29, g55, h69, h137, h147])⟩ (Nat.le_of_ble_eq_true rfl) (Nat.le_of_ble_eq_true rfl) dX4_order_163
            · refine vl_iconst (v := 3) C0 dX4_order_72 (by decide) ?_
              refine vl_goto (tgt := 77) C0 dX4_order_73 (by decide) ?_
              refine vl_calli C0 (vl_goV C0 (As := [.int 3]) (na := 1) (b := ad 0) (st := []) (ci := 4) gX4_order_X4_fails rfl rfl rfl (by decide +kernel) ⟨Nat.le_of_ble_eq_true rfl, Nat.le_of_ble_eq_true rfl⟩ rfl ⟨0, _, rfl⟩ dX4_order_77 (Nat.le_of_ble_eq_true rfl) ⟨Nat.le_of_ble_eq_true rfl, Nat.le_of_ble_eq_true rfl⟩ rfl rfl) (c_X4_fails hl0 3) (k2 := 0) (n2 := 0) (Nat.le_of_ble_eq_true rfl) (Nat.le_of_ble_eq_true rfl) (fun r9 w9 hp9 => ?_)
              obtain ⟨hr9, rfl⟩ := hp9
              have hr9 : r9 = 1 := hr9.trans (by decide)
              subst hr9
              refine vl_if_eq (tgt := 85) C0 dX4_order_80 (by decide) (fun (h80 : (1 : Int32) = (0 : Int32)) => absurd h80 (by decide)) (fun (h80 : ¬ (1 : Int32) = (0 : Int32)) => ?_)
              refine vl_iconst (v := 0) C0 dX4_order_83 (by decide) ?_
              exact vl_zret C0 hA.symm hr rfl ⟨by (simp [sp_order, codeI, aheadB, bI, ← Int32.not_le, up2_o, g5, g12, g21, g29, g55, h69]), by (simp [sp_order, codeI, aheadB, bI, ← Int32.not_le, up2_o, g5, g12, g21, g29, g55, h69])⟩ (Nat.le_of_ble_eq_true rfl) (Nat.le_of_ble_eq_true rfl) dX4_order_84
          · have g55 := bI_0.mp h55
            refine vl_iconst (v := 2) C0 dX4_order_58 (by decide) ?_
            refine vl_goto (tgt := 77) C0 dX4_order_59 (by decide) ?_
            refine vl_calli C0 (vl_goV C0 (As := [.int 2]) (na := 1) (b := ad 0) (st := []) (ci := 4) gX4_order_X4_fails rfl rfl rfl (by decide +kernel) ⟨Nat.le_of_ble_eq_true rfl, Nat.le_of_ble_eq_true rfl⟩ rfl ⟨0, _, rfl⟩ dX4_order_77 (Nat.le_of_ble_eq_true rfl) ⟨Nat.le_of_ble_eq_true rfl, Nat.le_of_ble_eq_true rfl⟩ rfl rfl) (c_X4_fails hl0 2) (k2 := 0) (n2 := 0) (Nat.le_of_ble_eq_true rfl) (Nat.le_of_ble_eq_true rfl) (fun r9 w9 hp9 => ?_)
            obtain ⟨hr9, rfl⟩ := hp9
            have hr9 : r9 = 1 := hr9.trans (by decide)
            subst hr9
            refine vl_if_eq (tgt := 85) C0 dX4_order_80 (by decide) (fun (h80 : (1 : Int32) = (0 : Int32)) => absurd h80 (by decide)) (fun (h80 : ¬ (1 : Int32) = (0 : Int32)) => ?_)
            refine vl_iconst (v := 0) C0 dX4_order_83 (by decide) ?_
            exact vl_zret C0 hA.symm hr rfl ⟨by (simp [sp_order, codeI, aheadB, bI, ← Int32.not_le, up2_o, g5, g12, g21, g29, g55]), by (simp [sp_order, codeI, aheadB, bI, ← Int32.not_le, up2_o, g5, g12, g21, g29, g55])⟩ (Nat.le_of_ble_eq_true rfl) (Nat.le_of_ble_eq_true rfl) dX4_order_84
end VM4
