section VM3
theorem inB_n {n N : Nat} {v : Int32} (h1 : 1 ≤ n) (hn : n ≤ N) (hN : N < 2 ^ 31) (h : inB v 0 (nI n - 1) = true) : vp_in v N := by
  obtain ⟨j, hj, rfl⟩ := inB_nI h1 (by omega) h
  exact vp_in_nI (by omega) hN
theorem inB_pl {n : Nat} {a t : Int32} (h1 : 1 ≤ n) (hn : n ≤ 9) (h : inB a 0 (nI n - 1) = true) (ht : inB t 0 29 = true) : vp_in (30 * a + t) 270 := by
  obtain ⟨j, hj, rfl⟩ := inB_nI h1 (by omega) h
  obtain ⟨k, hk, rfl⟩ := inB_k ht (by decide) (n := 30) (by decide)
  rw [nI_pl]
  exact vp_in_nI (by omega) (by decide)
set_option maxHeartbeats 4000000 in
set_option maxRecDepth 100000 in
theorem c_X4_setRules {l : Launch} {D : va_G} {cy : Nat → ClassId} {ad : Nat → Nat} {mm : Nat → Nat → Int32} {X : va_W} (hl0 : l.stackTraces = false) (a b : Int32)  : vl_Kv l D cy yX4_setRules wsX4_setRules { frames := 1, cells := 0, slots := 0, locals := 22 } 0 0 (mw cy ad mm ++ X) [.ref (ad 0), .int a, .int b] (fun w' => w' = mw cy ad (sp_setRules mm a b) ++ X) := by
  refine vl_openv hl0 (by decide) rfl (Nat.le_of_ble_eq_true rfl) rfl ?_
  intro p e s m args below meth c C0 hr hnm
  generalize hA : va_A (mw cy ad mm ++ X) s.heap.size = A at C0 ⊢
  refine vl_lv (lv2 := [(0, .ref (ad 0)), (1, .int a), (2, .int b)]) [0, 1, 2] rfl ?_
  have hin : ∀ x ∈ u_ws RX4 TX4 18, x ∈ wsX4_setRules := by decide +kernel
  refine vl_aload_n C0 dX4_setRules_0 0 rfl ?_
  refine vl_iload_n C0 dX4_setRules_1 1 rfl ?_
  refine vl_iconst (v := 0) C0 dX4_setRules_2 (by decide) ?_
  refine vl_bipush (v := 100) C0 dX4_setRules_3 (by decide) ?_
  refine vl_calli C0 (vl_goS C0 (As := [.int a, .int 0, .int 100]) (na := 3) (st := [.ref (ad 0)]) gX4_setRules_X4_isIn rfl rfl rfl (by decide +kernel) ⟨Nat.le_of_ble_eq_true rfl, Nat.le_of_ble_eq_true rfl⟩ dX4_setRules_5 (Nat.le_of_ble_eq_true rfl) ⟨Nat.le_of_ble_eq_true rfl, Nat.le_of_ble_eq_true rfl⟩ rfl rfl) (c_X4_isIn hl0 a 0 100) (k2 := 0) (n2 := 0) (Nat.le_of_ble_eq_true rfl) (Nat.le_of_ble_eq_true rfl) (fun r9 w9 hp9 => ?_)
  obtain ⟨rfl, rfl⟩ := hp9
  refine vl_if_eq (tgt := 25) C0 dX4_setRules_8 (by decide) (fun (h8 : (bI (inB a 0 100) : Int32) = (0 : Int32)) => ?_) (fun (h8 : ¬ (bI (inB a 0 100) : Int32) = (0 : Int32)) => ?_)
  · have g8 := bI_0.mp h8
    refine vl_iconst (v := 1) C0 dX4_setRules_25 (by decide) ?_
    refine vl_calli C0 (vl_goV C0 (As := [.int 1]) (na := 1) (b := ad 0) (st := []) (ci := 4) gX4_setRules_X4_fails rfl rfl rfl (by decide +kernel) ⟨Nat.le_of_ble_eq_true rfl, Nat.le_of_ble_eq_true rfl⟩ rfl ⟨0, _, rfl⟩ dX4_setRules_26 (Nat.le_of_ble_eq_true rfl) ⟨Nat.le_of_ble_eq_true rfl, Nat.le_of_ble_eq_true rfl⟩ rfl rfl) (c_X4_fails hl0 1) (k2 := 0) (n2 := 0) (Nat.le_of_ble_eq_true rfl) (Nat.le_of_ble_eq_true rfl) (fun r9 w9 hp9 => ?_)
    obtain ⟨hr9, rfl⟩ := hp9
    have hr9 : r9 = 1 := hr9.trans (by decide)
    subst hr9
    refine vl_if_ne (tgt := 42) C0 dX4_setRules_29 (by decide) (fun (h29 : ¬ (1 : Int32) = (0 : Int32)) => ?_) (fun (h29 : (1 : Int32) = (0 : Int32)) => absurd h29 (by decide))
    exact vl_vret C0 hA.symm hr (by simp [sp_setRules, g8]) (Nat.le_of_ble_eq_true rfl) (Nat.le_of_ble_eq_true rfl) dX4_setRules_42
  · have g8 := bI_n.mp h8
    refine vl_iload_n C0 dX4_setRules_11 2 rfl ?_
    refine vl_iconst (v := 0) C0 dX4_setRules_12 (by decide) ?_
    refine vl_bipush (v := 100) C0 dX4_setRules_13 (by decide) ?_
    refine vl_calli C0 (vl_goS C0 (As := [.int b, .int 0, .int 100]) (na := 3) (st := [.ref (ad 0)]) gX4_setRules_X4_isIn rfl rfl rfl (by decide +kernel) ⟨Nat.le_of_ble_eq_true rfl, Nat.le_of_ble_eq_true rfl⟩ dX4_setRules_15 (Nat.le_of_ble_eq_true rfl) ⟨Nat.le_of_ble_eq_true rfl, Nat.le_of_ble_eq_true rfl⟩ rfl rfl) (c_X4_isIn hl0 b 0 100) (k2 := 0) (n2 := 0) (Nat.le_of_ble_eq_true rfl) (Nat.le_of_ble_eq_true rfl) (fun r9 w9 hp9 => ?_)
    obtain ⟨rfl, rfl⟩ := hp9
    refine vl_if_eq (tgt := 25) C0 dX4_setRules_18 (by decide) (fun (h18 : (bI (inB b 0 100) : Int32) = (0 : Int32)) => ?_) (fun (h18 : ¬ (bI (inB b 0 100) : Int32) = (0 : Int32)) => ?_)
    · have g18 := bI_0.mp h18
      refine vl_iconst (v := 1) C0 dX4_setRules_25 (by decide) ?_
      refine vl_calli C0 (vl_goV C0 (As := [.int 1]) (na := 1) (b := ad 0) (st := []) (ci := 4) gX4_setRules_X4_fails rfl rfl rfl (by decide +kernel) ⟨Nat.le_of_ble_eq_true rfl, Nat.le_of_ble_eq_true rfl⟩ rfl ⟨0, _, rfl⟩ dX4_setRules_26 (Nat.le_of_ble_eq_true rfl) ⟨Nat.le_of_ble_eq_true rfl, Nat.le_of_ble_eq_true rfl⟩ rfl rfl) (c_X4_fails hl0 1) (k2 := 0) (n2 := 0) (Nat.le_of_ble_eq_true rfl) (Nat.le_of_ble_eq_true rfl) (fun r9 w9 hp9 => ?_)
      obtain ⟨hr9, rfl⟩ := hp9
      have hr9 : r9 = 1 := hr9.trans (by decide)
      subst hr9
      refine vl_if_ne (tgt := 42) C0 dX4_setRules_29 (by decide) (fun (h29 : ¬ (1 : Int32) = (0 : Int32)) => ?_) (fun (h29 : (1 : Int32) = (0 : Int32)) => absurd h29 (by decide))
      exact vl_vret C0 hA.symm hr (by simp [sp_setRules, g8, g18]) (Nat.le_of_ble_eq_true rfl) (Nat.le_of_ble_eq_true rfl) dX4_setRules_42
    · have g18 := bI_n.mp h18
      refine vl_iconst (v := 0) C0 dX4_setRules_21 (by decide) ?_
      refine vl_goto (tgt := 26) C0 dX4_setRules_22 (by decide) ?_
      refine vl_calli C0 (vl_goV C0 (As := [.int 0]) (na := 1) (b := ad 0) (st := []) (ci := 4) gX4_setRules_X4_fails rfl rfl rfl (by decide +kernel) ⟨Nat.le_of_ble_eq_true rfl, Nat.le_of_ble_eq_true rfl⟩ rfl ⟨0, _, rfl⟩ dX4_setRules_26 (Nat.le_of_ble_eq_true rfl) ⟨Nat.le_of_ble_eq_true rfl, Nat.le_of_ble_eq_true rfl⟩ rfl rfl) (c_X4_fails hl0 0) (k2 := 0) (n2 := 0) (Nat.le_of_ble_eq_true rfl) (Nat.le_of_ble_eq_true rfl) (fun r9 w9 hp9 => ?_)
      obtain ⟨hr9, rfl⟩ := hp9
      have hr9 : r9 = 0 := hr9.trans (by decide)
      subst hr9
      refine vl_if_ne (tgt := 42) C0 dX4_setRules_29 (by decide) (fun (h29 : ¬ (0 : Int32) = (0 : Int32)) => absurd h29 (by decide)) (fun (h29 : (0 : Int32) = (0 : Int32)) => ?_)
      refine vl_aload_n C0 dX4_setRules_32 0 rfl ?_
      refine vl_iload_n C0 dX4_setRules_33 1 rfl ?_
      refine rm_put C0 hin 5 (by decide) (by decide +kernel) rfl rfl (mw_put5 _) dX4_setRules_34 ?_
      refine vl_aload_n C0 dX4_setRules_37 0 rfl ?_
      refine vl_iload_n C0 dX4_setRules_38 2 rfl ?_
      refine rm_put C0 hin 6 (by decide) (by decide +kernel) rfl rfl (mw_put6 _) dX4_setRules_39 ?_
      exact vl_vret C0 hA.symm hr (by simp [sp_setRules, g8, g18]) (Nat.le_of_ble_eq_true rfl) (Nat.le_of_ble_eq_true rfl) dX4_setRules_42
set_option maxHeartbeats 4000000 in
set_option maxRecDepth 100000 in
theorem c_X4_fork {l : Launch} {D : va_G} {cy : Nat → ClassId} {ad : Nat → Nat} {mm : Nat → Nat → Int32} {X : va_W} {nl : Nat} (hl0 : l.stackTraces = false) (a t : Int32) (e7 : mm 0 7 = nI nl) (h1 : 1 ≤ nl) (h9 : nl ≤ 9) : vl_Ki l D cy yX4_fork wsX4_fork { frames := 2, cells := 0, slots := 0, locals := 43 } 0 0 (mw cy ad mm ++ X) [.ref (ad 0), .int a, .int t] (fun r w' => r = (sp_fork nl mm a t).1 ∧ w' = mw cy ad (sp_fork nl mm a t).2 ++ X) := by
  refine vl_openi hl0 (by decide) rfl (Nat.le_of_ble_eq_true rfl) rfl ?_
  intro p e s m args below meth c C0 hr hnm
  generalize hA : va_A (mw cy ad mm ++ X) s.heap.size = A at C0 ⊢
  refine vl_lv (lv2 := [(0, .ref (ad 0)), (1, .int a), (2, .int t)]) [0, 1, 2] rfl ?_
  have hin : ∀ x ∈ u_ws RX4 TX4 18, x ∈ wsX4_fork := by decide +kernel
  refine vl_aload_n C0 dX4_fork_0 0 rfl ?_
  refine vl_iload_n C0 dX4_fork_1 1 rfl ?_
  refine vl_calli C0 (vl_goV C0 (As := [.int a]) (na := 1) (b := ad 0) (st := []) (ci := 4) gX4_fork_X4_isLine rfl rfl rfl (by decide +kernel) ⟨Nat.le_of_ble_eq_true rfl, Nat.le_of_ble_eq_true rfl⟩ rfl ⟨0, _, rfl⟩ dX4_fork_2 (Nat.le_of_ble_eq_true rfl) ⟨Nat.le_of_ble_eq_true rfl, Nat.le_of_ble_eq_true rfl⟩ rfl rfl) (c_X4_isLine hl0 a) (k2 := 0) (n2 := 0) (Nat.le_of_ble_eq_true rfl) (Nat.le_of_ble_eq_true rfl) (fun r9 w9 hp9 => ?_)
  obtain ⟨rfl, rfl⟩ := hp9
  rw [e7]
  refine vl_if_eq (tgt := 19) C0 dX4_fork_5 (by decide) (fun (h5 : (bI (inB a 0 (nI nl - 1)) : Int32) = (0 : Int32)) => ?_) (fun (h5 : ¬ (bI (inB a 0 (nI nl - 1)) : Int32) = (0 : Int32)) => ?_)
  · have g5 := bI_0.mp h5
    refine vl_iconst (v := 0) C0 dX4_fork_19 (by decide) ?_
    refine vl_istore_n (lv' := [(0, .ref (ad 0)), (1, .int a), (2, .int t), (3, .int 0)]) C0 dX4_fork_20 [1, 2, 3, 0] (by decide) rfl ?_
    refine vl_aload_n C0 dX4_fork_21 0 rfl ?_
    refine vl_iload_n C0 dX4_fork_22 3 rfl ?_
    refine vl_if_ne (tgt := 30) C0 dX4_fork_23 (by decide) (fun (h23 : ¬ (0 : Int32) = (0 : Int32)) => absurd h23 (by decide)) (fun (h23 : (0 : Int32) = (0 : Int32)) => ?_)
    refine vl_iconst (v := 1) C0 dX4_fork_26 (by decide) ?_
    refine vl_goto (tgt := 44) C0 dX4_fork_27 (by decide) ?_
    refine vl_calli C0 (vl_goV C0 (As := [.int 1]) (na := 1) (b := ad 0) (st := []) (ci := 4) gX4_fork_X4_fails rfl rfl rfl (by decide +kernel) ⟨Nat.le_of_ble_eq_true rfl, Nat.le_of_ble_eq_true rfl⟩ rfl ⟨0, _, rfl⟩ dX4_fork_44 (Nat.le_of_ble_eq_true rfl) ⟨Nat.le_of_ble_eq_true rfl, Nat.le_of_ble_eq_true rfl⟩ rfl rfl) (c_X4_fails hl0 1) (k2 := 0) (n2 := 0) (Nat.le_of_ble_eq_true rfl) (Nat.le_of_ble_eq_true rfl) (fun r9 w9 hp9 => ?_)
    obtain ⟨hr9, rfl⟩ := hp9
    have hr9 : r9 = 1 := hr9.trans (by decide)
    subst hr9
    refine vl_if_eq (tgt := 52) C0 dX4_fork_47 (by decide) (fun (h47 : (1 : Int32) = (0 : Int32)) => absurd h47 (by decide)) (fun (h47 : ¬ (1 : Int32) = (0 : Int32)) => ?_)
    refine vl_iconst (v := 0) C0 dX4_fork_50 (by decide) ?_
    exact vl_iret C0 hA.symm hr ⟨by (first | (have z9 : nl = 9 := (nI_eq (by omega) (by decide)).mp h36; subst z9; simp [sp_fork, g5]) | (have z9 : ¬ nl = 9 := fun q => h36 (by rw [q]; rfl); simp [sp_fork, g5, z9, Int32.add_sub_cancel, up2_o]) | simp [sp_fork, g5]), by (first | (have z9 : nl = 9 := (nI_eq (by omega) (by decide)).mp h36; subst z9; simp [sp_fork, g5]) | (have z9 : ¬ nl = 9 := fun q => h36 (by rw [q]; rfl); simp [sp_fork, g5, z9, Int32.add_sub_cancel, up2_o]) | simp [sp_fork, g5])⟩ (Nat.le_of_ble_eq_true rfl) (Nat.le_of_ble_eq_true rfl) dX4_fork_51
  · have g5 := bI_n.mp h5
    refine vl_iload_n C0 dX4_fork_8 2 rfl ?_
    refine vl_calli C0 (vl_goS C0 (As := [.int t]) (na := 1) (st := []) gX4_fork_X4_isTurn rfl rfl rfl (by decide +kernel) ⟨Nat.le_of_ble_eq_true rfl, Nat.le_of_ble_eq_true rfl⟩ dX4_fork_9 (Nat.le_of_ble_eq_true rfl) ⟨Nat.le_of_ble_eq_true rfl, Nat.le_of_ble_eq_true rfl⟩ rfl rfl) (c_X4_isTurn hl0 t) (k2 := 0) (n2 := 0) (Nat.le_of_ble_eq_true rfl) (Nat.le_of_ble_eq_true rfl) (fun r9 w9 hp9 => ?_)
    obtain ⟨rfl, rfl⟩ := hp9
    refine vl_if_eq (tgt := 19) C0 dX4_fork_12 (by decide) (fun (h12 : (bI (inB t 0 29) : Int32) = (0 : Int32)) => ?_) (fun (h12 : ¬ (bI (inB t 0 29) : Int32) = (0 : Int32)) => ?_)
    · have g12 := bI_0.mp h12
      refine vl_iconst (v := 0) C0 dX4_fork_19 (by decide) ?_
      refine vl_istore_n (lv' := [(0, .ref (ad 0)), (1, .int a), (2, .int t), (3, .int 0)]) C0 dX4_fork_20 [1, 2, 3, 0] (by decide) rfl ?_
      refine vl_aload_n C0 dX4_fork_21 0 rfl ?_
      refine vl_iload_n C0 dX4_fork_22 3 rfl ?_
      refine vl_if_ne (tgt := 30) C0 dX4_fork_23 (by decide) (fun (h23 : ¬ (0 : Int32) = (0 : Int32)) => absurd h23 (by decide)) (fun (h23 : (0 : Int32) = (0 : Int32)) => ?_)
      refine vl_iconst (v := 1) C0 dX4_fork_26 (by decide) ?_
      refine vl_goto (tgt := 44) C0 dX4_fork_27 (by decide) ?_
      refine vl_calli C0 (vl_goV C0 (As := [.int 1]) (na := 1) (b := ad 0) (st := []) (ci := 4) gX4_fork_X4_fails rfl rfl rfl (by decide +kernel) ⟨Nat.le_of_ble_eq_true rfl, Nat.le_of_ble_eq_true rfl⟩ rfl ⟨0, _, rfl⟩ dX4_fork_44 (Nat.le_of_ble_eq_true rfl) ⟨Nat.le_of_ble_eq_true rfl, Nat.le_of_ble_eq_true rfl⟩ rfl rfl) (c_X4_fails hl0 1) (k2 := 0) (n2 := 0) (Nat.le_of_ble_eq_true rfl) (Nat.le_of_ble_eq_true rfl) (fun r9 w9 hp9 => ?_)
      obtain ⟨hr9, rfl⟩ := hp9
      have hr9 : r9 = 1 := hr9.trans (by decide)
      subst hr9
      refine vl_if_eq (tgt := 52) C0 dX4_fork_47 (by decide) (fun (h47 : (1 : Int32) = (0 : Int32)) => absurd h47 (by decide)) (fun (h47 : ¬ (1 : Int32) = (0 : Int32)) => ?_)
      refine vl_iconst (v := 0) C0 dX4_fork_50 (by decide) ?_
      exact vl_iret C0 hA.symm hr ⟨by (first | (have z9 : nl = 9 := (nI_eq (by omega) (by decide)).mp h36; subst z9; simp [sp_fork, g5, g12]) | (have z9 : ¬ nl = 9 := fun q => h36 (by rw [q]; rfl); simp [sp_fork, g5, g12, z9, Int32.add_sub_cancel, up2_o]) | simp [sp_fork, g5, g12]), by (first | (have z9 : nl = 9 := (nI_eq (by omega) (by decide)).mp h36; subst z9; simp [sp_fork, g5, g12]) | (have z9 : ¬ nl = 9 := fun q => h36 (by rw [q]; rfl); simp [sp_fork, g5, g12, z9, Int32.add_sub_cancel, up2_o]) | simp [sp_fork, g5, g12])⟩ (Nat.le_of_ble_eq_true rfl) (Nat.le_of_ble_eq_true rfl) dX4_fork_51
    · have g12 := bI_n.mp h12
      refine vl_iconst (v := 1) C0 dX4_fork_15 (by decide) ?_
      refine vl_goto (tgt := 20) C0 dX4_fork_16 (by decide) ?_
      refine vl_istore_n (lv' := [(0, .ref (ad 0)), (1, .int a), (2, .int t), (3, .int 1)]) C0 dX4_fork_20 [1, 2, 3, 0] (by decide) rfl ?_
      refine vl_aload_n C0 dX4_fork_21 0 rfl ?_
      refine vl_iload_n C0 dX4_fork_22 3 rfl ?_
      refine vl_if_ne (tgt := 30) C0 dX4_fork_23 (by decide) (fun (h23 : ¬ (1 : Int32) = (0 : Int32)) => ?_) (fun (h23 : (1 : Int32) = (0 : Int32)) => absurd h23 (by decide))
      refine vl_aload_n C0 dX4_fork_30 0 rfl ?_
      refine rm_get C0 hin 7 (by decide) (by decide +kernel) (v := .int (nI nl)) (congrArg (fun z => some (Value.int z)) e7) dX4_fork_31 ?_
      refine vl_bipush (v := 9) C0 dX4_fork_34 (by decide) ?_
      refine vl_icmp_ne (tgt := 43) C0 dX4_fork_36 (by decide) (fun (h36 : ¬ (nI nl : Int32) = (9 : Int32)) => ?_) (fun (h36 : (nI nl : Int32) = (9 : Int32)) => ?_)
      · refine vl_iconst (v := 0) C0 dX4_fork_43 (by decide) ?_
        refine vl_calli C0 (vl_goV C0 (As := [.int 0]) (na := 1) (b := ad 0) (st := []) (ci := 4) gX4_fork_X4_fails rfl rfl rfl (by decide +kernel) ⟨Nat.le_of_ble_eq_true rfl, Nat.le_of_ble_eq_true rfl⟩ rfl ⟨0, _, rfl⟩ dX4_fork_44 (Nat.le_of_ble_eq_true rfl) ⟨Nat.le_of_ble_eq_true rfl, Nat.le_of_ble_eq_true rfl⟩ rfl rfl) (c_X4_fails hl0 0) (k2 := 0) (n2 := 0) (Nat.le_of_ble_eq_true rfl) (Nat.le_of_ble_eq_true rfl) (fun r9 w9 hp9 => ?_)
        obtain ⟨hr9, rfl⟩ := hp9
        have hr9 : r9 = 0 := hr9.trans (by decide)
        subst hr9
        refine vl_if_eq (tgt := 52) C0 dX4_fork_47 (by decide) (fun (h47 : (0 : Int32) = (0 : Int32)) => ?_) (fun (h47 : ¬ (0 : Int32) = (0 : Int32)) => absurd h47 (by decide))
        refine vl_aload_n C0 dX4_fork_52 0 rfl ?_
        refine rm_get C0 hin 8 (by decide) (by decide +kernel) rfl dX4_fork_53 ?_
        refine vl_aload_n C0 dX4_fork_56 0 rfl ?_
        refine rm_get C0 hin 7 (by decide) (by decide +kernel) (v := .int (nI nl)) (congrArg (fun z => some (Value.int z)) e7) dX4_fork_57 ?_
        refine vl_iload_n C0 dX4_fork_60 1 rfl ?_
        refine rm_iast C0 8 5 9 rfl (mw_st8 _ _) (vp_in_nI (show nl < 9 by have z : ¬ nl = 9 := fun q => h36 (by rw [q]; rfl); omega) (by decide)) (kn := nl) (nI_clamp (by omega)) dX4_fork_61 ?_
        refine vl_aload_n C0 dX4_fork_62 0 rfl ?_
        refine rm_get C0 hin 9 (by decide) (by decide +kernel) rfl dX4_fork_63 ?_
        refine vl_aload_n C0 dX4_fork_66 0 rfl ?_
        refine rm_get C0 hin 7 (by decide) (by decide +kernel) (v := .int (nI nl)) (congrArg (fun z => some (Value.int z)) e7) dX4_fork_67 ?_
        refine vl_iload_n C0 dX4_fork_70 2 rfl ?_
        refine rm_iast C0 9 6 9 rfl (mw_st9 _ _) (vp_in_nI (show nl < 9 by have z : ¬ nl = 9 := fun q => h36 (by rw [q]; rfl); omega) (by decide)) (kn := nl) (nI_clamp (by omega)) dX4_fork_71 ?_
        refine vl_aload_n C0 dX4_fork_72 0 rfl ?_
        refine rm_get C0 hin 10 (by decide) (by decide +kernel) rfl dX4_fork_73 ?_
        refine vl_aload_n C0 dX4_fork_76 0 rfl ?_
        refine rm_get C0 hin 7 (by decide) (by decide +kernel) (v := .int (nI nl)) (congrArg (fun z => some (Value.int z)) e7) dX4_fork_77 ?_
        refine vl_aload_n C0 dX4_fork_80 0 rfl ?_
        refine rm_get C0 hin 10 (by decide) (by decide +kernel) rfl dX4_fork_81 ?_
        refine vl_iload_n C0 dX4_fork_84 1 rfl ?_
        refine rm_iald C0 10 7 9 rfl (inB_n h1 h9 (by decide) g5) (kn := (a).toNatClampNeg) (rfl) (v := mm 10 ((a).toNatClampNeg)) (rfl) dX4_fork_85 ?_
        refine rm_iast C0 10 7 9 rfl (mw_st10 _ _) (vp_in_nI (show nl < 9 by have z : ¬ nl = 9 := fun q => h36 (by rw [q]; rfl); omega) (by decide)) (kn := nl) (nI_clamp (by omega)) dX4_fork_86 ?_
        refine vl_aload_n C0 dX4_fork_87 0 rfl ?_
        refine vl_dup C0 dX4_fork_88 rfl ?_
        refine rm_get C0 hin 7 (by decide) (by decide +kernel) (v := .int (nI nl)) (congrArg (fun z => some (Value.int z)) e7) dX4_fork_89 ?_
        refine vl_iconst (v := 1) C0 dX4_fork_92 (by decide) ?_
        refine vl_iadd C0 dX4_fork_93 ?_
        refine rm_put C0 hin 7 (by decide) (by decide +kernel) rfl rfl (mw_put7 _) dX4_fork_94 ?_
        refine vl_aload_n C0 dX4_fork_97 0 rfl ?_
        refine rm_get C0 hin 7 (by decide) (by decide +kernel) (v := .int ((nI nl) + (1))) (rfl) dX4_fork_98 ?_
        refine vl_iconst (v := 1) C0 dX4_fork_101 (by decide) ?_
        refine vl_isub C0 dX4_fork_102 ?_
        exact vl_iret C0 hA.symm hr ⟨by (first | (have z9 : nl = 9 := (nI_eq (by omega) (by decide)).mp h36; subst z9; simp [sp_fork, g5, g12]) | (have z9 : ¬ nl = 9 := fun q => h36 (by rw [q]; rfl); simp [sp_fork, g5, g12, z9, Int32.add_sub_cancel, up2_o]) | simp [sp_fork, g5, g12]), by (first | (have z9 : nl = 9 := (nI_eq (by omega) (by decide)).mp h36; subst z9; simp [sp_fork, g5, g12]) | (have z9 : ¬ nl = 9 := fun q => h36 (by rw [q]; rfl); simp [sp_fork, g5, g12, z9, Int32.add_sub_cancel, up2_o]) | simp [sp_fork, g5, g12])⟩ (Nat.le_of_ble_eq_true rfl) (Nat.le_of_ble_eq_true rfl) dX4_fork_103
      · refine vl_iconst (v := 2) C0 dX4_fork_39 (by decide) ?_
        refine vl_goto (tgt := 44) C0 dX4_fork_40 (by decide) ?_
        refine vl_calli C0 (vl_goV C0 (As := [.int 2]) (na := 1) (b := ad 0) (st := []) (ci := 4) gX4_fork_X4_fails rfl rfl rfl (by decide +kernel) ⟨Nat.le_of_ble_eq_true rfl, Nat.le_of_ble_eq_true rfl⟩ rfl ⟨0, _, rfl⟩ dX4_fork_44 (Nat.le_of_ble_eq_true rfl) ⟨Nat.le_of_ble_eq_true rfl, Nat.le_of_ble_eq_true rfl⟩ rfl rfl) (c_X4_fails hl0 2) (k2 := 0) (n2 := 0) (Nat.le_of_ble_eq_true rfl) (Nat.le_of_ble_eq_true rfl) (fun r9 w9 hp9 => ?_)
        obtain ⟨hr9, rfl⟩ := hp9
        have hr9 : r9 = 1 := hr9.trans (by decide)
        subst hr9
        refine vl_if_eq (tgt := 52) C0 dX4_fork_47 (by decide) (fun (h47 : (1 : Int32) = (0 : Int32)) => absurd h47 (by decide)) (fun (h47 : ¬ (1 : Int32) = (0 : Int32)) => ?_)
        refine vl_iconst (v := 0) C0 dX4_fork_50 (by decide) ?_
        exact vl_iret C0 hA.symm hr ⟨by (first | (have z9 : nl = 9 := (nI_eq (by omega) (by decide)).mp h36; subst z9; simp [sp_fork, g5, g12]) | (have z9 : ¬ nl = 9 := fun q => h36 (by rw [q]; rfl); simp [sp_fork, g5, g12, z9, Int32.add_sub_cancel, up2_o]) | simp [sp_fork, g5, g12]), by (first | (have z9 : nl = 9 := (nI_eq (by omega) (by decide)).mp h36; subst z9; simp [sp_fork, g5, g12]) | (have z9 : ¬ nl = 9 := fun q => h36 (by rw [q]; rfl); simp [sp_fork, g5, g12, z9, Int32.add_sub_cancel, up2_o]) | simp [sp_fork, g5, g12])⟩ (Nat.le_of_ble_eq_true rfl) (Nat.le_of_ble_eq_true rfl) dX4_fork_51
set_option maxHeartbeats 4000000 in
set_option maxRecDepth 100000 in
theorem c_X4_hasOwn {l : Launch} {D : va_G} {cy : Nat → ClassId} {ad : Nat → Nat} {mm : Nat → Nat → Int32} {X : va_W} (hl0 : l.stackTraces = false) (a t : Int32) (hp : vp_in (30 * a + t) 270) : vl_Ki l D cy yX4_hasOwn wsX4_hasOwn { frames := 0, cells := 0, slots := 0, locals := 0 } 0 0 (mw cy ad mm ++ X) [.ref (ad 0), .int a, .int t] (fun r w' => r = bI (ownB mm a t) ∧ w' = mw cy ad mm ++ X) := by
  refine vl_openi hl0 (by decide) rfl (Nat.le_of_ble_eq_true rfl) rfl ?_
  intro p e s m args below meth c C0 hr hnm
  generalize hA : va_A (mw cy ad mm ++ X) s.heap.size = A at C0 ⊢
  refine vl_lv (lv2 := [(0, .ref (ad 0)), (1, .int a), (2, .int t)]) [0, 1, 2] rfl ?_
  have hin : ∀ x ∈ u_ws RX4 TX4 18, x ∈ wsX4_hasOwn := by decide +kernel
  refine vl_aload_n C0 dX4_hasOwn_0 0 rfl ?_
  refine rm_get C0 hin 11 (by decide) (by decide +kernel) rfl dX4_hasOwn_1 ?_
  refine vl_bipush (v := 30) C0 dX4_hasOwn_4 (by decide) ?_
  refine vl_iload_n C0 dX4_hasOwn_6 1 rfl ?_
  refine vl_imul C0 dX4_hasOwn_7 ?_
  refine vl_iload_n C0 dX4_hasOwn_8 2 rfl ?_
  refine vl_iadd C0 dX4_hasOwn_9 ?_
  refine rm_iald C0 11 8 270 rfl (hp) (kn := (((30) * (a)) + (t)).toNatClampNeg) (rfl) (v := mm 11 ((((30) * (a)) + (t)).toNatClampNeg)) (rfl) dX4_hasOwn_10 ?_
  refine vl_iconst (v := -1) C0 dX4_hasOwn_11 (by decide) ?_
  refine vl_icmp_eq (tgt := 19) C0 dX4_hasOwn_12 (by decide) (fun (h12 : (mm 11 ((((30) * (a)) + (t)).toNatClampNeg) : Int32) = ((-1) : Int32)) => ?_) (fun (h12 : ¬ (mm 11 ((((30) * (a)) + (t)).toNatClampNeg) : Int32) = ((-1) : Int32)) => ?_)
  · refine vl_iconst (v := 0) C0 dX4_hasOwn_19 (by decide) ?_
    exact vl_zret C0 hA.symm hr rfl ⟨by simp [bI, ownB, h12], rfl⟩ (Nat.le_of_ble_eq_true rfl) (Nat.le_of_ble_eq_true rfl) dX4_hasOwn_20
  · refine vl_iconst (v := 1) C0 dX4_hasOwn_15 (by decide) ?_
    refine vl_goto (tgt := 20) C0 dX4_hasOwn_16 (by decide) ?_
    exact vl_zret C0 hA.symm hr rfl ⟨by simp [bI, ownB, h12], rfl⟩ (Nat.le_of_ble_eq_true rfl) (Nat.le_of_ble_eq_true rfl) dX4_hasOwn_20
set_option maxHeartbeats 4000000 in
set_option maxRecDepth 100000 in
theorem c_X4_removes {l : Launch} {D : va_G} {cy : Nat → ClassId} {ad : Nat → Nat} {mm : Nat → Nat → Int32} {X : va_W} (hl0 : l.stackTraces = false) (a t : Int32) (hp : vp_in (30 * a + t) 270) : vl_Ki l D cy yX4_removes wsX4_removes { frames := 0, cells := 0, slots := 0, locals := 0 } 0 0 (mw cy ad mm ++ X) [.ref (ad 0), .int a, .int t] (fun r w' => r = 1 ∧ w' = mw cy ad (up2 (up2 mm 11 (30 * a + t).toNatClampNeg (-1)) 12 (30 * a + t).toNatClampNeg 0) ++ X) := by
  refine vl_openi hl0 (by decide) rfl (Nat.le_of_ble_eq_true rfl) rfl ?_
  intro p e s m args below meth c C0 hr hnm
  generalize hA : va_A (mw cy ad mm ++ X) s.heap.size = A at C0 ⊢
  refine vl_lv (lv2 := [(0, .ref (ad 0)), (1, .int a), (2, .int t)]) [0, 1, 2] rfl ?_
  have hin : ∀ x ∈ u_ws RX4 TX4 18, x ∈ wsX4_removes := by decide +kernel
  refine vl_aload_n C0 dX4_removes_0 0 rfl ?_
  refine rm_get C0 hin 11 (by decide) (by decide +kernel) rfl dX4_removes_1 ?_
  refine vl_bipush (v := 30) C0 dX4_removes_4 (by decide) ?_
  refine vl_iload_n C0 dX4_removes_6 1 rfl ?_
  refine vl_imul C0 dX4_removes_7 ?_
  refine vl_iload_n C0 dX4_removes_8 2 rfl ?_
  refine vl_iadd C0 dX4_removes_9 ?_
  refine vl_iconst (v := -1) C0 dX4_removes_10 (by decide) ?_
  refine rm_iast C0 11 8 270 rfl (mw_st11 _ _) (hp) (kn := (((30) * (a)) + (t)).toNatClampNeg) (rfl) dX4_removes_11 ?_
  refine vl_aload_n C0 dX4_removes_12 0 rfl ?_
  refine rm_get C0 hin 12 (by decide) (by decide +kernel) rfl dX4_removes_13 ?_
  refine vl_bipush (v := 30) C0 dX4_removes_16 (by decide) ?_
  refine vl_iload_n C0 dX4_removes_18 1 rfl ?_
  refine vl_imul C0 dX4_removes_19 ?_
  refine vl_iload_n C0 dX4_removes_20 2 rfl ?_
  refine vl_iadd C0 dX4_removes_21 ?_
  refine vl_iconst (v := 0) C0 dX4_removes_22 (by decide) ?_
  refine rm_zast C0 (hp) (kn := (((30) * (a)) + (t)).toNatClampNeg) (rfl) dX4_removes_23 ?_
  refine vl_iconst (v := 1) C0 dX4_removes_24 (by decide) ?_
  exact vl_zret C0 hA.symm hr rfl ⟨rfl, rfl⟩ (Nat.le_of_ble_eq_true rfl) (Nat.le_of_ble_eq_true rfl) dX4_removes_25
end VM3
