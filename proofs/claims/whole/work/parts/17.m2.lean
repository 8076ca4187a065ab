section VM2
set_option maxHeartbeats 4000000 in
set_option maxRecDepth 100000 in
theorem c_X4_addShip {l : Launch} {D : va_G} {cy : Nat → ClassId} {ad : Nat → Nat} {mm : Nat → Nat → Int32} {X : va_W} {ns : Nat} (hl0 : l.stackTraces = false) (a b c0 : Int32) (e0 : mm 0 0 = nI ns) (h8 : ns ≤ 8) : vl_Ki l D cy yX4_addShip wsX4_addShip { frames := 2, cells := 0, slots := 0, locals := 42 } 0 0 (mw cy ad mm ++ X) [.ref (ad 0), .int a, .int b, .int c0] (fun r w' => r = (sp_addShip ns mm a b c0).1 ∧ w' = mw cy ad (sp_addShip ns mm a b c0).2 ++ X) := by
  refine vl_openi hl0 (by decide) rfl (Nat.le_of_ble_eq_true rfl) rfl ?_
  intro p e s m args below meth c C0 hr hnm
  generalize hA : va_A (mw cy ad mm ++ X) s.heap.size = A at C0 ⊢
  refine vl_lv (lv2 := [(0, .ref (ad 0)), (1, .int a), (2, .int b), (3, .int c0)]) [0, 1, 2, 3] rfl ?_
  have hin : ∀ x ∈ u_ws RX4 TX4 18, x ∈ wsX4_addShip := by decide +kernel
  refine vl_iload_n C0 dX4_addShip_0 1 rfl ?_
  refine vl_calli C0 (vl_goS C0 (As := [.int a]) (na := 1) (st := []) gX4_addShip_X4_isTurn rfl rfl rfl (by decide +kernel) ⟨Nat.le_of_ble_eq_true rfl, Nat.le_of_ble_eq_true rfl⟩ dX4_addShip_1 (Nat.le_of_ble_eq_true rfl) ⟨Nat.le_of_ble_eq_true rfl, Nat.le_of_ble_eq_true rfl⟩ rfl rfl) (c_X4_isTurn hl0 a) (k2 := 0) (n2 := 0) (Nat.le_of_ble_eq_true rfl) (Nat.le_of_ble_eq_true rfl) (fun r9 w9 hp9 => ?_)
  obtain ⟨rfl, rfl⟩ := hp9
  refine vl_if_eq (tgt := 30) C0 dX4_addShip_4 (by decide) (fun (h4 : (bI (inB a 0 29) : Int32) = (0 : Int32)) => ?_) (fun (h4 : ¬ (bI (inB a 0 29) : Int32) = (0 : Int32)) => ?_)
  · have g4 := bI_0.mp h4
    refine vl_iconst (v := 0) C0 dX4_addShip_30 (by decide) ?_
    refine vl_istore (lv' := [(0, .ref (ad 0)), (1, .int a), (2, .int b), (3, .int c0), (4, .int 0)]) C0 dX4_addShip_31 [1, 2, 3, 4, 0] (by decide) rfl ?_
    refine vl_aload_n C0 dX4_addShip_33 0 rfl ?_
    refine vl_iload C0 dX4_addShip_34 4 rfl ?_
    refine vl_if_ne (tgt := 43) C0 dX4_addShip_36 (by decide) (fun (h36 : ¬ (0 : Int32) = (0 : Int32)) => absurd h36 (by decide)) (fun (h36 : (0 : Int32) = (0 : Int32)) => ?_)
    refine vl_iconst (v := 1) C0 dX4_addShip_39 (by decide) ?_
    refine vl_goto (tgt := 57) C0 dX4_addShip_40 (by decide) ?_
    refine vl_calli C0 (vl_goV C0 (As := [.int 1]) (na := 1) (b := ad 0) (st := []) (ci := 4) gX4_addShip_X4_fails rfl rfl rfl (by decide +kernel) ⟨Nat.le_of_ble_eq_true rfl, Nat.le_of_ble_eq_true rfl⟩ rfl ⟨0, _, rfl⟩ dX4_addShip_57 (Nat.le_of_ble_eq_true rfl) ⟨Nat.le_of_ble_eq_true rfl, Nat.le_of_ble_eq_true rfl⟩ rfl rfl) (c_X4_fails hl0 1) (k2 := 0) (n2 := 0) (Nat.le_of_ble_eq_true rfl) (Nat.le_of_ble_eq_true rfl) (fun r9 w9 hp9 => ?_)
    obtain ⟨hr9, rfl⟩ := hp9
    have hr9 : r9 = 1 := hr9.trans (by decide)
    subst hr9
    refine vl_if_eq (tgt := 65) C0 dX4_addShip_60 (by decide) (fun (h60 : (1 : Int32) = (0 : Int32)) => absurd h60 (by decide)) (fun (h60 : ¬ (1 : Int32) = (0 : Int32)) => ?_)
    refine vl_iconst (v := 0) C0 dX4_addShip_63 (by decide) ?_
    exact vl_iret C0 hA.symm hr ⟨by (first | (have z9 : ns = 8 := (nI_eq (by omega) (by decide)).mp h49; simp [sp_addShip, g4, z9]) | (have z9 : ¬ ns = 8 := fun q => h49 (by rw [q]; rfl); simp [sp_addShip, g4, z9, Int32.add_sub_cancel]) | simp [sp_addShip, g4]), by (first | (have z9 : ns = 8 := (nI_eq (by omega) (by decide)).mp h49; simp [sp_addShip, g4, z9]) | (have z9 : ¬ ns = 8 := fun q => h49 (by rw [q]; rfl); simp [sp_addShip, g4, z9, Int32.add_sub_cancel]) | simp [sp_addShip, g4])⟩ (Nat.le_of_ble_eq_true rfl) (Nat.le_of_ble_eq_true rfl) dX4_addShip_64
  · have g4 := bI_n.mp h4
    refine vl_iload_n C0 dX4_addShip_7 2 rfl ?_
    refine vl_iconst (v := 0) C0 dX4_addShip_8 (by decide) ?_
    refine vl_iconst (v := 2) C0 dX4_addShip_9 (by decide) ?_
    refine vl_calli C0 (vl_goS C0 (As := [.int b, .int 0, .int 2]) (na := 3) (st := []) gX4_addShip_X4_isIn rfl rfl rfl (by decide +kernel) ⟨Nat.le_of_ble_eq_true rfl, Nat.le_of_ble_eq_true rfl⟩ dX4_addShip_10 (Nat.le_of_ble_eq_true rfl) ⟨Nat.le_of_ble_eq_true rfl, Nat.le_of_ble_eq_true rfl⟩ rfl rfl) (c_X4_isIn hl0 b 0 2) (k2 := 0) (n2 := 0) (Nat.le_of_ble_eq_true rfl) (Nat.le_of_ble_eq_true rfl) (fun r9 w9 hp9 => ?_)
    obtain ⟨rfl, rfl⟩ := hp9
    refine vl_if_eq (tgt := 30) C0 dX4_addShip_13 (by decide) (fun (h13 : (bI (inB b 0 2) : Int32) = (0 : Int32)) => ?_) (fun (h13 : ¬ (bI (inB b 0 2) : Int32) = (0 : Int32)) => ?_)
    · have g13 := bI_0.mp h13
      refine vl_iconst (v := 0) C0 dX4_addShip_30 (by decide) ?_
      refine vl_istore (lv' := [(0, .ref (ad 0)), (1, .int a), (2, .int b), (3, .int c0), (4, .int 0)]) C0 dX4_addShip_31 [1, 2, 3, 4, 0] (by decide) rfl ?_
      refine vl_aload_n C0 dX4_addShip_33 0 rfl ?_
      refine vl_iload C0 dX4_addShip_34 4 rfl ?_
      refine vl_if_ne (tgt := 43) C0 dX4_addShip_36 (by decide) (fun (h36 : ¬ (0 : Int32) = (0 : Int32)) => absurd h36 (by decide)) (fun (h36 : (0 : Int32) = (0 : Int32)) => ?_)
      refine vl_iconst (v := 1) C0 dX4_addShip_39 (by decide) ?_
      refine vl_goto (tgt := 57) C0 dX4_addShip_40 (by decide) ?_
      refine vl_calli C0 (vl_goV C0 (As := [.int 1]) (na := 1) (b := ad 0) (st := []) (ci := 4) gX4_addShip_X4_fails rfl rfl rfl (by decide +kernel) ⟨Nat.le_of_ble_eq_true rfl, Nat.le_of_ble_eq_true rfl⟩ rfl ⟨0, _, rfl⟩ dX4_addShip_57 (Nat.le_of_ble_eq_true rfl) ⟨Nat.le_of_ble_eq_true rfl, Nat.le_of_ble_eq_true rfl⟩ rfl rfl) (c_X4_fails hl0 1) (k2 := 0) (n2 := 0) (Nat.le_of_ble_eq_true rfl) (Nat.le_of_ble_eq_true rfl) (fun r9 w9 hp9 => ?_)
      obtain ⟨hr9, rfl⟩ := hp9
      have hr9 : r9 = 1 := hr9.trans (by decide)
      subst hr9
      refine vl_if_eq (tgt := 65) C0 dX4_addShip_60 (by decide) (fun (h60 : (1 : Int32) = (0 : Int32)) => absurd h60 (by decide)) (fun (h60 : ¬ (1 : Int32) = (0 : Int32)) => ?_)
      refine vl_iconst (v := 0) C0 dX4_addShip_63 (by decide) ?_
      exact vl_iret C0 hA.symm hr ⟨by (first | (have z9 : ns = 8 := (nI_eq (by omega) (by decide)).mp h49; simp [sp_addShip, g4, g13, z9]) | (have z9 : ¬ ns = 8 := fun q => h49 (by rw [q]; rfl); simp [sp_addShip, g4, g13, z9, Int32.add_sub_cancel]) | simp [sp_addShip, g4, g13]), by (first | (have z9 : ns = 8 := (nI_eq (by omega) (by decide)).mp h49; simp [sp_addShip, g4, g13, z9]) | (have z9 : ¬ ns = 8 := fun q => h49 (by rw [q]; rfl); simp [sp_addShip, g4, g13, z9, Int32.add_sub_cancel]) | simp [sp_addShip, g4, g13])⟩ (Nat.le_of_ble_eq_true rfl) (Nat.le_of_ble_eq_true rfl) dX4_addShip_64
    · have g13 := bI_n.mp h13
      refine vl_iload_n C0 dX4_addShip_16 3 rfl ?_
      refine vl_iconst (v := 1) C0 dX4_addShip_17 (by decide) ?_
      refine vl_bipush (v := 100) C0 dX4_addShip_18 (by decide) ?_
      refine vl_calli C0 (vl_goS C0 (As := [.int c0, .int 1, .int 100]) (na := 3) (st := []) gX4_addShip_X4_isIn rfl rfl rfl (by decide +kernel) ⟨Nat.le_of_ble_eq_true rfl, Nat.le_of_ble_eq_true rfl⟩ dX4_addShip_20 (Nat.le_of_ble_eq_true rfl) ⟨Nat.le_of_ble_eq_true rfl, Nat.le_of_ble_eq_true rfl⟩ rfl rfl) (c_X4_isIn hl0 c0 1 100) (k2 := 0) (n2 := 0) (Nat.le_of_ble_eq_true rfl) (Nat.le_of_ble_eq_true rfl) (fun r9 w9 hp9 => ?_)
      obtain ⟨rfl, rfl⟩ := hp9
      refine vl_if_eq (tgt := 30) C0 dX4_addShip_23 (by decide) (fun (h23 : (bI (inB c0 1 100) : Int32) = (0 : Int32)) => ?_) (fun (h23 : ¬ (bI (inB c0 1 100) : Int32) = (0 : Int32)) => ?_)
      · have g23 := bI_0.mp h23
        refine vl_iconst (v := 0) C0 dX4_addShip_30 (by decide) ?_
        refine vl_istore (lv' := [(0, .ref (ad 0)), (1, .int a), (2, .int b), (3, .int c0), (4, .int 0)]) C0 dX4_addShip_31 [1, 2, 3, 4, 0] (by decide) rfl ?_
        refine vl_aload_n C0 dX4_addShip_33 0 rfl ?_
        refine vl_iload C0 dX4_addShip_34 4 rfl ?_
        refine vl_if_ne (tgt := 43) C0 dX4_addShip_36 (by decide) (fun (h36 : ¬ (0 : Int32) = (0 : Int32)) => absurd h36 (by decide)) (fun (h36 : (0 : Int32) = (0 : Int32)) => ?_)
        refine vl_iconst (v := 1) C0 dX4_addShip_39 (by decide) ?_
        refine vl_goto (tgt := 57) C0 dX4_addShip_40 (by decide) ?_
        refine vl_calli C0 (vl_goV C0 (As := [.int 1]) (na := 1) (b := ad 0) (st := []) (ci := 4) gX4_addShip_X4_fails rfl rfl rfl (by decide +kernel) ⟨Nat.le_of_ble_eq_true rfl, Nat.le_of_ble_eq_true rfl⟩ rfl ⟨0, _, rfl⟩ dX4_addShip_57 (Nat.le_of_ble_eq_true rfl) ⟨Nat.le_of_ble_eq_true rfl, Nat.le_of_ble_eq_true rfl⟩ rfl rfl) (c_X4_fails hl0 1) (k2 := 0) (n2 := 0) (Nat.le_of_ble_eq_true rfl) (Nat.le_of_ble_eq_true rfl) (fun r9 w9 hp9 => ?_)
        obtain ⟨hr9, rfl⟩ := hp9
        have hr9 : r9 = 1 := hr9.trans (by decide)
        subst hr9
        refine vl_if_eq (tgt := 65) C0 dX4_addShip_60 (by decide) (fun (h60 : (1 : Int32) = (0 : Int32)) => absurd h60 (by decide)) (fun (h60 : ¬ (1 : Int32) = (0 : Int32)) => ?_)
        refine vl_iconst (v := 0) C0 dX4_addShip_63 (by decide) ?_
        exact vl_iret C0 hA.symm hr ⟨by (first | (have z9 : ns = 8 := (nI_eq (by omega) (by decide)).mp h49; simp [sp_addShip, g4, g13, g23, z9]) | (have z9 : ¬ ns = 8 := fun q => h49 (by rw [q]; rfl); simp [sp_addShip, g4, g13, g23, z9, Int32.add_sub_cancel]) | simp [sp_addShip, g4, g13, g23]), by (first | (have z9 : ns = 8 := (nI_eq (by omega) (by decide)).mp h49; simp [sp_addShip, g4, g13, g23, z9]) | (have z9 : ¬ ns = 8 := fun q => h49 (by rw [q]; rfl); simp [sp_addShip, g4, g13, g23, z9, Int32.add_sub_cancel]) | simp [sp_addShip, g4, g13, g23])⟩ (Nat.le_of_ble_eq_true rfl) (Nat.le_of_ble_eq_true rfl) dX4_addShip_64
      · have g23 := bI_n.mp h23
        refine vl_iconst (v := 1) C0 dX4_addShip_26 (by decide) ?_
        refine vl_goto (tgt := 31) C0 dX4_addShip_27 (by decide) ?_
        refine vl_istore (lv' := [(0, .ref (ad 0)), (1, .int a), (2, .int b), (3, .int c0), (4, .int 1)]) C0 dX4_addShip_31 [1, 2, 3, 4, 0] (by decide) rfl ?_
        refine vl_aload_n C0 dX4_addShip_33 0 rfl ?_
        refine vl_iload C0 dX4_addShip_34 4 rfl ?_
        refine vl_if_ne (tgt := 43) C0 dX4_addShip_36 (by decide) (fun (h36 : ¬ (1 : Int32) = (0 : Int32)) => ?_) (fun (h36 : (1 : Int32) = (0 : Int32)) => absurd h36 (by decide))
        refine vl_aload_n C0 dX4_addShip_43 0 rfl ?_
        refine rm_get C0 hin 0 (by decide) (by decide +kernel) (v := .int (nI ns)) (congrArg (fun z => some (Value.int z)) e0) dX4_addShip_44 ?_
        refine vl_bipush (v := 8) C0 dX4_addShip_47 (by decide) ?_
        refine vl_icmp_ne (tgt := 56) C0 dX4_addShip_49 (by decide) (fun (h49 : ¬ (nI ns : Int32) = (8 : Int32)) => ?_) (fun (h49 : (nI ns : Int32) = (8 : Int32)) => ?_)
        · refine vl_iconst (v := 0) C0 dX4_addShip_56 (by decide) ?_
          refine vl_calli C0 (vl_goV C0 (As := [.int 0]) (na := 1) (b := ad 0) (st := []) (ci := 4) gX4_addShip_X4_fails rfl rfl rfl (by decide +kernel) ⟨Nat.le_of_ble_eq_true rfl, Nat.le_of_ble_eq_true rfl⟩ rfl ⟨0, _, rfl⟩ dX4_addShip_57 (Nat.le_of_ble_eq_true rfl) ⟨Nat.le_of_ble_eq_true rfl, Nat.le_of_ble_eq_true rfl⟩ rfl rfl) (c_X4_fails hl0 0) (k2 := 0) (n2 := 0) (Nat.le_of_ble_eq_true rfl) (Nat.le_of_ble_eq_true rfl) (fun r9 w9 hp9 => ?_)
          obtain ⟨hr9, rfl⟩ := hp9
          have hr9 : r9 = 0 := hr9.trans (by decide)
          subst hr9
          refine vl_if_eq (tgt := 65) C0 dX4_addShip_60 (by decide) (fun (h60 : (0 : Int32) = (0 : Int32)) => ?_) (fun (h60 : ¬ (0 : Int32) = (0 : Int32)) => absurd h60 (by decide))
          refine vl_aload_n C0 dX4_addShip_65 0 rfl ?_
          refine rm_get C0 hin 1 (by decide) (by decide +kernel) rfl dX4_addShip_66 ?_
          refine vl_aload_n C0 dX4_addShip_69 0 rfl ?_
          refine rm_get C0 hin 0 (by decide) (by decide +kernel) (v := .int (nI ns)) (congrArg (fun z => some (Value.int z)) e0) dX4_addShip_70 ?_
          refine vl_iload_n C0 dX4_addShip_73 1 rfl ?_
          refine rm_iast C0 1 1 8 rfl (mw_st1 _ _) (vp_in_nI (show ns < 8 by have z : ¬ ns = 8 := fun q => h49 (by rw [q]; rfl); omega) (by decide)) (kn := ns) (nI_clamp (by omega)) dX4_addShip_74 ?_
          refine vl_aload_n C0 dX4_addShip_75 0 rfl ?_
          refine rm_get C0 hin 2 (by decide) (by decide +kernel) rfl dX4_addShip_76 ?_
          refine vl_aload_n C0 dX4_addShip_79 0 rfl ?_
          refine rm_get C0 hin 0 (by decide) (by decide +kernel) (v := .int (nI ns)) (congrArg (fun z => some (Value.int z)) e0) dX4_addShip_80 ?_
          refine vl_iload_n C0 dX4_addShip_83 2 rfl ?_
          refine rm_iast C0 2 2 8 rfl (mw_st2 _ _) (vp_in_nI (show ns < 8 by have z : ¬ ns = 8 := fun q => h49 (by rw [q]; rfl); omega) (by decide)) (kn := ns) (nI_clamp (by omega)) dX4_addShip_84 ?_
          refine vl_aload_n C0 dX4_addShip_85 0 rfl ?_
          refine rm_get C0 hin 3 (by decide) (by decide +kernel) rfl dX4_addShip_86 ?_
          refine vl_aload_n C0 dX4_addShip_89 0 rfl ?_
          refine rm_get C0 hin 0 (by decide) (by decide +kernel) (v := .int (nI ns)) (congrArg (fun z => some (Value.int z)) e0) dX4_addShip_90 ?_
          refine vl_iload_n C0 dX4_addShip_93 3 rfl ?_
          refine rm_iast C0 3 3 8 rfl (mw_st3 _ _) (vp_in_nI (show ns < 8 by have z : ¬ ns = 8 := fun q => h49 (by rw [q]; rfl); omega) (by decide)) (kn := ns) (nI_clamp (by omega)) dX4_addShip_94 ?_
          refine vl_aload_n C0 dX4_addShip_95 0 rfl ?_
          refine vl_dup C0 dX4_addShip_96 rfl ?_
          refine rm_get C0 hin 0 (by decide) (by decide +kernel) (v := .int (nI ns)) (congrArg (fun z => some (Value.int z)) e0) dX4_addShip_97 ?_
          refine vl_iconst (v := 1) C0 dX4_addShip_100 (by decide) ?_
          refine vl_iadd C0 dX4_addShip_101 ?_
          refine rm_put C0 hin 0 (by decide) (by decide +kernel) rfl rfl (mw_put0 _) dX4_addShip_102 ?_
          refine vl_aload_n C0 dX4_addShip_105 0 rfl ?_
          refine rm_get C0 hin 0 (by decide) (by decide +kernel) (v := .int ((nI ns) + (1))) (rfl) dX4_addShip_106 ?_
          refine vl_iconst (v := 1) C0 dX4_addShip_109 (by decide) ?_
          refine vl_isub C0 dX4_addShip_110 ?_
          exact vl_iret C0 hA.symm hr ⟨by (first | (have z9 : ns = 8 := (nI_eq (by omega) (by decide)).mp h49; simp [sp_addShip, g4, g13, g23, z9]) | (have z9 : ¬ ns = 8 := fun q => h49 (by rw [q]; rfl); simp [sp_addShip, g4, g13, g23, z9, Int32.add_sub_cancel]) | simp [sp_addShip, g4, g13, g23]), by (first | (have z9 : ns = 8 := (nI_eq (by omega) (by decide)).mp h49; simp [sp_addShip, g4, g13, g23, z9]) | (have z9 : ¬ ns = 8 := fun q => h49 (by rw [q]; rfl); simp [sp_addShip, g4, g13, g23, z9, Int32.add_sub_cancel]) | simp [sp_addShip, g4, g13, g23])⟩ (Nat.le_of_ble_eq_true rfl) (Nat.le_of_ble_eq_true rfl) dX4_addShip_111
        · refine vl_iconst (v := 2) C0 dX4_addShip_52 (by decide) ?_
          refine vl_goto (tgt := 57) C0 dX4_addShip_53 (by decide) ?_
          refine vl_calli C0 (vl_goV C0 (As := [.int 2]) (na := 1) (b := ad 0) (st := []) (ci := 4) gX4_addShip_X4_fails rfl rfl rfl (by decide +kernel) ⟨Nat.le_of_ble_eq_true rfl, Nat.le_of_ble_eq_true rfl⟩ rfl ⟨0, _, rfl⟩ dX4_addShip_57 (Nat.le_of_ble_eq_true rfl) ⟨Nat.le_of_ble_eq_true rfl, Nat.le_of_ble_eq_true rfl⟩ rfl rfl) (c_X4_fails hl0 2) (k2 := 0) (n2 := 0) (Nat.le_of_ble_eq_true rfl) (Nat.le_of_ble_eq_true rfl) (fun r9 w9 hp9 => ?_)
          obtain ⟨hr9, rfl⟩ := hp9
          have hr9 : r9 = 1 := hr9.trans (by decide)
          subst hr9
          refine vl_if_eq (tgt := 65) C0 dX4_addShip_60 (by decide) (fun (h60 : (1 : Int32) = (0 : Int32)) => absurd h60 (by decide)) (fun (h60 : ¬ (1 : Int32) = (0 : Int32)) => ?_)
          refine vl_iconst (v := 0) C0 dX4_addShip_63 (by decide) ?_
          exact vl_iret C0 hA.symm hr ⟨by (first | (have z9 : ns = 8 := (nI_eq (by omega) (by decide)).mp h49; simp [sp_addShip, g4, g13, g23, z9]) | (have z9 : ¬ ns = 8 := fun q => h49 (by rw [q]; rfl); simp [sp_addShip, g4, g13, g23, z9, Int32.add_sub_cancel]) | simp [sp_addShip, g4, g13, g23]), by (first | (have z9 : ns = 8 := (nI_eq (by omega) (by decide)).mp h49; simp [sp_addShip, g4, g13, g23, z9]) | (have z9 : ¬ ns = 8 := fun q => h49 (by rw [q]; rfl); simp [sp_addShip, g4, g13, g23, z9, Int32.add_sub_cancel]) | simp [sp_addShip, g4, g13, g23])⟩ (Nat.le_of_ble_eq_true rfl) (Nat.le_of_ble_eq_true rfl) dX4_addShip_64
set_option maxHeartbeats 4000000 in
set_option maxRecDepth 100000 in
theorem c_X4_setRate {l : Launch} {D : va_G} {cy : Nat → ClassId} {ad : Nat → Nat} {mm : Nat → Nat → Int32} {X : va_W} (hl0 : l.stackTraces = false) (b t : Int32)  : vl_Ki l D cy yX4_setRate wsX4_setRate { frames := 2, cells := 0, slots := 0, locals := 42 } 0 0 (mw cy ad mm ++ X) [.ref (ad 0), .int b, .int t] (fun r w' => r = (sp_setRate mm b t).1 ∧ w' = mw cy ad (sp_setRate mm b t).2 ++ X) := by
  refine vl_openi hl0 (by decide) rfl (Nat.le_of_ble_eq_true rfl) rfl ?_
  intro p e s m args below meth c C0 hr hnm
  generalize hA : va_A (mw cy ad mm ++ X) s.heap.size = A at C0 ⊢
  refine vl_lv (lv2 := [(0, .ref (ad 0)), (1, .int b), (2, .int t)]) [0, 1, 2] rfl ?_
  have hin : ∀ x ∈ u_ws RX4 TX4 18, x ∈ wsX4_setRate := by decide +kernel
  refine vl_iload_n C0 dX4_setRate_0 1 rfl ?_
  refine vl_calli C0 (vl_goS C0 (As := [.int b]) (na := 1) (st := []) gX4_setRate_X4_isBerth rfl rfl rfl (by decide +kernel) ⟨Nat.le_of_ble_eq_true rfl, Nat.le_of_ble_eq_true rfl⟩ dX4_setRate_1 (Nat.le_of_ble_eq_true rfl) ⟨Nat.le_of_ble_eq_true rfl, Nat.le_of_ble_eq_true rfl⟩ rfl rfl) (c_X4_isBerth hl0 b) (k2 := 0) (n2 := 0) (Nat.le_of_ble_eq_true rfl) (Nat.le_of_ble_eq_true rfl) (fun r9 w9 hp9 => ?_)
  obtain ⟨rfl, rfl⟩ := hp9
  refine vl_istore_n (lv' := [(0, .ref (ad 0)), (1, .int b), (2, .int t), (3, .int (bI (inB b 0 2)))]) C0 dX4_setRate_4 [1, 2, 3, 0] (by decide) rfl ?_
  refine vl_aload_n C0 dX4_setRate_5 0 rfl ?_
  refine vl_iload_n C0 dX4_setRate_6 3 rfl ?_
  refine vl_if_ne (tgt := 14) C0 dX4_setRate_7 (by decide) (fun (h7 : ¬ (bI (inB b 0 2) : Int32) = (0 : Int32)) => ?_) (fun (h7 : (bI (inB b 0 2) : Int32) = (0 : Int32)) => ?_)
  · have g7 := bI_n.mp h7
    refine vl_iload_n C0 dX4_setRate_14 2 rfl ?_
    refine vl_iconst (v := 0) C0 dX4_setRate_15 (by decide) ?_
    refine vl_bipush (v := 20) C0 dX4_setRate_16 (by decide) ?_
    refine vl_calli C0 (vl_goS C0 (As := [.int t, .int 0, .int 20]) (na := 3) (st := [.ref (ad 0)]) gX4_setRate_X4_isIn rfl rfl rfl (by decide +kernel) ⟨Nat.le_of_ble_eq_true rfl, Nat.le_of_ble_eq_true rfl⟩ dX4_setRate_18 (Nat.le_of_ble_eq_true rfl) ⟨Nat.le_of_ble_eq_true rfl, Nat.le_of_ble_eq_true rfl⟩ rfl rfl) (c_X4_isIn hl0 t 0 20) (k2 := 0) (n2 := 0) (Nat.le_of_ble_eq_true rfl) (Nat.le_of_ble_eq_true rfl) (fun r9 w9 hp9 => ?_)
    obtain ⟨rfl, rfl⟩ := hp9
    refine vl_if_eq (tgt := 28) C0 dX4_setRate_21 (by decide) (fun (h21 : (bI (inB t 0 20) : Int32) = (0 : Int32)) => ?_) (fun (h21 : ¬ (bI (inB t 0 20) : Int32) = (0 : Int32)) => ?_)
    · have g21 := bI_0.mp h21
      refine vl_iconst (v := 2) C0 dX4_setRate_28 (by decide) ?_
      refine vl_calli C0 (vl_goV C0 (As := [.int 2]) (na := 1) (b := ad 0) (st := []) (ci := 4) gX4_setRate_X4_fails rfl rfl rfl (by decide +kernel) ⟨Nat.le_of_ble_eq_true rfl, Nat.le_of_ble_eq_true rfl⟩ rfl ⟨0, _, rfl⟩ dX4_setRate_29 (Nat.le_of_ble_eq_true rfl) ⟨Nat.le_of_ble_eq_true rfl, Nat.le_of_ble_eq_true rfl⟩ rfl rfl) (c_X4_fails hl0 2) (k2 := 0) (n2 := 0) (Nat.le_of_ble_eq_true rfl) (Nat.le_of_ble_eq_true rfl) (fun r9 w9 hp9 => ?_)
      obtain ⟨hr9, rfl⟩ := hp9
      have hr9 : r9 = 1 := hr9.trans (by decide)
      subst hr9
      refine vl_if_eq (tgt := 37) C0 dX4_setRate_32 (by decide) (fun (h32 : (1 : Int32) = (0 : Int32)) => absurd h32 (by decide)) (fun (h32 : ¬ (1 : Int32) = (0 : Int32)) => ?_)
      refine vl_iconst (v := 0) C0 dX4_setRate_35 (by decide) ?_
      exact vl_iret C0 hA.symm hr ⟨by simp [sp_setRate, g7, g21], by simp [sp_setRate, g7, g21]⟩ (Nat.le_of_ble_eq_true rfl) (Nat.le_of_ble_eq_true rfl) dX4_setRate_36
    · have g21 := bI_n.mp h21
      refine vl_iconst (v := 0) C0 dX4_setRate_24 (by decide) ?_
      refine vl_goto (tgt := 29) C0 dX4_setRate_25 (by decide) ?_
      refine vl_calli C0 (vl_goV C0 (As := [.int 0]) (na := 1) (b := ad 0) (st := []) (ci := 4) gX4_setRate_X4_fails rfl rfl rfl (by decide +kernel) ⟨Nat.le_of_ble_eq_true rfl, Nat.le_of_ble_eq_true rfl⟩ rfl ⟨0, _, rfl⟩ dX4_setRate_29 (Nat.le_of_ble_eq_true rfl) ⟨Nat.le_of_ble_eq_true rfl, Nat.le_of_ble_eq_true rfl⟩ rfl rfl) (c_X4_fails hl0 0) (k2 := 0) (n2 := 0) (Nat.le_of_ble_eq_true rfl) (Nat.le_of_ble_eq_true rfl) (fun r9 w9 hp9 => ?_)
      obtain ⟨hr9, rfl⟩ := hp9
      have hr9 : r9 = 0 := hr9.trans (by decide)
      subst hr9
      refine vl_if_eq (tgt := 37) C0 dX4_setRate_32 (by decide) (fun (h32 : (0 : Int32) = (0 : Int32)) => ?_) (fun (h32 : ¬ (0 : Int32) = (0 : Int32)) => absurd h32 (by decide))
      refine vl_aload_n C0 dX4_setRate_37 0 rfl ?_
      refine rm_get C0 hin 4 (by decide) (by decide +kernel) rfl dX4_setRate_38 ?_
      refine vl_iload_n C0 dX4_setRate_41 1 rfl ?_
      refine rm_iald C0 4 4 3 rfl (inB_vp g7 (by decide)) (kn := (b).toNatClampNeg) (rfl) (v := mm 4 ((b).toNatClampNeg)) (rfl) dX4_setRate_42 ?_
      refine vl_istore (lv' := [(0, .ref (ad 0)), (1, .int b), (2, .int t), (3, .int (bI (inB b 0 2))), (4, .int (mm 4 ((b).toNatClampNeg)))]) C0 dX4_setRate_43 [1, 2, 3, 4, 0] (by decide) rfl ?_
      refine vl_aload_n C0 dX4_setRate_45 0 rfl ?_
      refine rm_get C0 hin 4 (by decide) (by decide +kernel) rfl dX4_setRate_46 ?_
      refine vl_iload_n C0 dX4_setRate_49 1 rfl ?_
      refine vl_iload_n C0 dX4_setRate_50 2 rfl ?_
      refine rm_iast C0 4 4 3 rfl (mw_st4 _ _) (inB_vp g7 (by decide)) (kn := (b).toNatClampNeg) (rfl) dX4_setRate_51 ?_
      refine vl_iload C0 dX4_setRate_52 4 rfl ?_
      exact vl_iret C0 hA.symm hr ⟨by simp [sp_setRate, g7, g21], by simp [sp_setRate, g7, g21]⟩ (Nat.le_of_ble_eq_true rfl) (Nat.le_of_ble_eq_true rfl) dX4_setRate_54
  · have g7 := bI_0.mp h7
    refine vl_iconst (v := 1) C0 dX4_setRate_10 (by decide) ?_
    refine vl_goto (tgt := 29) C0 dX4_setRate_11 (by decide) ?_
    refine vl_calli C0 (vl_goV C0 (As := [.int 1]) (na := 1) (b := ad 0) (st := []) (ci := 4) gX4_setRate_X4_fails rfl rfl rfl (by decide +kernel) ⟨Nat.le_of_ble_eq_true rfl, Nat.le_of_ble_eq_true rfl⟩ rfl ⟨0, _, rfl⟩ dX4_setRate_29 (Nat.le_of_ble_eq_true rfl) ⟨Nat.le_of_ble_eq_true rfl, Nat.le_of_ble_eq_true rfl⟩ rfl rfl) (c_X4_fails hl0 1) (k2 := 0) (n2 := 0) (Nat.le_of_ble_eq_true rfl) (Nat.le_of_ble_eq_true rfl) (fun r9 w9 hp9 => ?_)
    obtain ⟨hr9, rfl⟩ := hp9
    have hr9 : r9 = 1 := hr9.trans (by decide)
    subst hr9
    refine vl_if_eq (tgt := 37) C0 dX4_setRate_32 (by decide) (fun (h32 : (1 : Int32) = (0 : Int32)) => absurd h32 (by decide)) (fun (h32 : ¬ (1 : Int32) = (0 : Int32)) => ?_)
    refine vl_iconst (v := 0) C0 dX4_setRate_35 (by decide) ?_
    exact vl_iret C0 hA.symm hr ⟨by simp [sp_setRate, g7], by simp [sp_setRate, g7]⟩ (Nat.le_of_ble_eq_true rfl) (Nat.le_of_ble_eq_true rfl) dX4_setRate_36
end VM2
