section VM8
theorem code_sh {n : Nat} {c : Int32} (hn : n ≤ 8) (h : codeOK n c) (h0 : ¬ c / 100 = 0) : ∃ s : Nat, s < n ∧ shI c = nI s := by
  rcases code_sp hn h with ⟨h1, -⟩ | ⟨s, b, hs, hb, h1, h2, h3, h4⟩ | ⟨s, hs, h1, h2, h3, h4⟩
  · exact absurd h1 h0
  · exact ⟨s, hs, h2⟩
  · exact ⟨s, hs, h2⟩
set_option maxHeartbeats 4000000 in
set_option maxRecDepth 100000 in
theorem c_X4_can {l : Launch} {D : va_G} {cy : Nat → ClassId} {ad : Nat → Nat} {mm : Nat → Nat → Int32} {X : va_W} {ns : Nat} (hl0 : l.stackTraces = false) (k9 : Int32) (s9 : Nat) (b : Int32) (t : Nat) (e0 : mm 0 0 = nI ns) (h8 : ns ≤ 8) (hs : s9 < ns) : vl_Ki l D cy yX4_can wsX4_can { frames := 0, cells := 0, slots := 0, locals := 0 } 0 0 (mw cy ad mm ++ X) [.ref (ad 0), .int k9, .int (nI s9), .int b, .int (nI t)] (fun r w' => r = bI (canB ns (mm 2) (mm 13) (mm 14) k9 s9 b t) ∧ w' = mw cy ad mm ++ X) := by
  refine vl_openi hl0 (by decide) rfl (Nat.le_of_ble_eq_true rfl) rfl ?_
  intro p e s m args below meth c C0 hr hnm
  generalize hA : va_A (mw cy ad mm ++ X) s.heap.size = A at C0 ⊢
  refine vl_lv (lv2 := [(0, .ref (ad 0)), (1, .int k9), (2, .int (nI s9)), (3, .int b), (4, .int (nI t))]) [0, 1, 2, 3, 4] rfl ?_
  have hin : ∀ x ∈ u_ws RX4 TX4 18, x ∈ wsX4_can := by decide +kernel
  refine vl_join (w2 := mw cy ad mm ++ X) (k2 := 0) (n2 := 0) (lv2 := [(0, .ref (ad 0)), (1, .int k9), (2, .int (nI s9)), (3, .int b), (4, .int (nI t))]) 16 (st2 := [.int (tideI t)]) ?_ (fun hj => ?_)
  · skip
    refine vl_istore (lv' := [(0, .ref (ad 0)), (1, .int k9), (2, .int (nI s9)), (3, .int b), (4, .int (nI t)), (5, .int (tideI t))]) C0 dX4_can_16 [1, 2, 3, 4, 5, 0] (by decide) rfl ?_
    refine vl_iload C0 dX4_can_18 5 rfl ?_
    refine vl_aload_n C0 dX4_can_20 0 rfl ?_
    refine rm_get C0 hin 2 (by decide) (by decide +kernel) rfl dX4_can_21 ?_
    refine vl_iload_n C0 dX4_can_24 2 rfl ?_
    refine rm_iald C0 2 2 8 rfl (vp_in_nI (show s9 < 8 by omega) (by decide)) (kn := s9) (nI_clamp (by omega)) (v := mm 2 s9) (rfl) dX4_can_25 ?_
    refine vl_icmp_ge (tgt := 31) C0 dX4_can_26 (by decide) (fun (h26 : (mm 2 s9 : Int32) ≤ (tideI t : Int32)) => ?_) (fun (h26 : ¬ (mm 2 s9 : Int32) ≤ (tideI t : Int32)) => ?_)
    · refine vl_iload_n C0 dX4_can_31 1 rfl ?_
      refine vl_iconst (v := 2) C0 dX4_can_32 (by decide) ?_
      refine vl_icmp_ne (tgt := 60) C0 dX4_can_33 (by decide) (fun (h33 : ¬ (k9 : Int32) = (2 : Int32)) => ?_) (fun (h33 : (k9 : Int32) = (2 : Int32)) => ?_)
      · refine vl_join (w2 := mw cy ad mm ++ X) (k2 := 0) (n2 := 0) (lv2 := [(0, .ref (ad 0)), (1, .int k9), (2, .int (nI s9)), (3, .int b), (4, .int (nI t)), (5, .int (tideI t))]) 75 (st2 := [.int (bI (decide (mm 13 s9 = -1)))]) ?_ (fun hj => ?_)
        · skip
          refine vl_istore (lv' := [(0, .ref (ad 0)), (1, .int k9), (2, .int (nI s9)), (3, .int b), (4, .int (nI t)), (5, .int (tideI t)), (6, .int (bI (decide (mm 13 s9 = -1))))]) C0 dX4_can_75 [1, 2, 3, 4, 5, 6, 0] (by decide) rfl ?_
          refine vl_iconst (v := 0) C0 dX4_can_77 (by decide) ?_
          refine vl_istore (lv' := [(0, .ref (ad 0)), (1, .int k9), (2, .int (nI s9)), (3, .int b), (4, .int (nI t)), (5, .int (tideI t)), (6, .int (bI (decide (mm 13 s9 = -1)))), (7, .int 0)]) C0 dX4_can_78 [1, 2, 3, 4, 5, 6, 7, 0] (by decide) rfl ?_
          refine vl_loop (σ := Nat) (fun _ => mw cy ad mm ++ X) (fun k => [(0, .ref (ad 0)), (1, .int k9), (2, .int (nI s9)), (3, .int b), (4, .int (nI t)), (5, .int (tideI t)), (6, .int (bI (freeB (mm 13) b k && decide (mm 13 s9 = -1)))), (7, .int (nI k))]) (fun k => k ≤ ns) (fun k => ns - k) ?_ 0 (by omega)
          intro k hk ih
          refine vl_lv (lv2 := [(0, .ref (ad 0)), (1, .int k9), (2, .int (nI s9)), (3, .int b), (4, .int (nI t)), (5, .int (tideI t)), (6, .int (bI (freeB (mm 13) b k && decide (mm 13 s9 = -1)))), (7, .int (nI k))]) [0, 1, 2, 3, 4, 5, 6, 7] rfl ?_
          refine vl_iload C0 dX4_can_80 7 rfl ?_
          refine vl_aload_n C0 dX4_can_82 0 rfl ?_
          refine rm_get C0 hin 0 (by decide) (by decide +kernel) (v := .int (nI ns)) (congrArg (fun z => some (Value.int z)) e0) dX4_can_83 ?_
          refine vl_icmp_ge (tgt := 118) C0 dX4_can_86 (by decide) (fun (h86 : (nI ns : Int32) ≤ (nI k : Int32)) => ?_) (fun (h86 : ¬ (nI ns : Int32) ≤ (nI k : Int32)) => ?_)
          · have hkn : k = ns := by have z : ¬ k < ns := fun q => absurd h86 (nI_ge q (by omega)); omega
            refine vl_iload C0 dX4_can_118 6 rfl ?_
            exact vl_zret C0 hA.symm hr (nb_bI _) ⟨by subst hkn; simp [canB, bI, ← Int32.not_le, Bool.and_comm, h26, h33], rfl⟩ (Nat.le_of_ble_eq_true rfl) (Nat.le_of_ble_eq_true rfl) dX4_can_120
          · have hkn : k < ns := by have z : ¬ k = ns := fun q => h86 (by rw [q]; exact nI_le (Nat.le_refl _) (by omega)); omega
            refine vl_iload C0 dX4_can_89 6 rfl ?_
            refine vl_if_eq (tgt := 109) C0 dX4_can_91 (by decide) (fun (h91 : (bI (freeB (mm 13) b k && decide (mm 13 s9 = -1)) : Int32) = (0 : Int32)) => ?_) (fun (h91 : ¬ (bI (freeB (mm 13) b k && decide (mm 13 s9 = -1)) : Int32) = (0 : Int32)) => ?_)
            · have g91 := bI_0.mp h91
              refine vl_iconst (v := 0) C0 dX4_can_109 (by decide) ?_
              refine vl_st (st2 := [.int (bI (freeB (mm 13) b (k + 1) && decide (mm 13 s9 = -1)))]) (by have q := g91; simp [bI, freeB, g91]; (try simp_all)) ?_
              refine vl_istore (lv' := [(0, .ref (ad 0)), (1, .int k9), (2, .int (nI s9)), (3, .int b), (4, .int (nI t)), (5, .int (tideI t)), (6, .int (bI (freeB (mm 13) b (k + 1) && decide (mm 13 s9 = -1)))), (7, .int (nI k))]) C0 dX4_can_110 [1, 2, 3, 4, 5, 6, 0, 7] (by decide) rfl ?_
              refine vl_iinc (v := nI (k + 1)) (lv' := [(0, .ref (ad 0)), (1, .int k9), (2, .int (nI s9)), (3, .int b), (4, .int (nI t)), (5, .int (tideI t)), (6, .int (bI (freeB (mm 13) b (k + 1) && decide (mm 13 s9 = -1)))), (7, .int (nI (k + 1)))]) C0 dX4_can_112 7 rfl (nI_1 k) [1, 2, 3, 4, 5, 6, 7, 0] (by decide) rfl ?_
              refine vl_goto (tgt := 80) C0 dX4_can_115 (by decide) ?_
              exact ih (k + 1) (by omega) (by omega)
            · have g91 := bI_n.mp h91
              refine vl_aload_n C0 dX4_can_94 0 rfl ?_
              refine rm_get C0 hin 13 (by decide) (by decide +kernel) rfl dX4_can_95 ?_
              refine vl_iload C0 dX4_can_98 7 rfl ?_
              refine rm_iald C0 13 10 8 rfl (vp_in_nI (show k < 8 by omega) (by decide)) (kn := k) (nI_clamp (by omega)) (v := mm 13 k) (rfl) dX4_can_100 ?_
              refine vl_iload_n C0 dX4_can_101 3 rfl ?_
              refine vl_icmp_eq (tgt := 109) C0 dX4_can_102 (by decide) (fun (h102 : (mm 13 k : Int32) = (b : Int32)) => ?_) (fun (h102 : ¬ (mm 13 k : Int32) = (b : Int32)) => ?_)
              · refine vl_iconst (v := 0) C0 dX4_can_109 (by decide) ?_
                refine vl_st (st2 := [.int (bI (freeB (mm 13) b (k + 1) && decide (mm 13 s9 = -1)))]) (by have q := g91; simp [bI, freeB, g91, h102]; (try simp_all)) ?_
                refine vl_istore (lv' := [(0, .ref (ad 0)), (1, .int k9), (2, .int (nI s9)), (3, .int b), (4, .int (nI t)), (5, .int (tideI t)), (6, .int (bI (freeB (mm 13) b (k + 1) && decide (mm 13 s9 = -1)))), (7, .int (nI k))]) C0 dX4_can_110 [1, 2, 3, 4, 5, 6, 0, 7] (by decide) rfl ?_
                refine vl_iinc (v := nI (k + 1)) (lv' := [(0, .ref (ad 0)), (1, .int k9), (2, .int (nI s9)), (3, .int b), (4, .int (nI t)), (5, .int (tideI t)), (6, .int (bI (freeB (mm 13) b (k + 1) && decide (mm 13 s9 = -1)))), (7, .int (nI (k + 1)))]) C0 dX4_can_112 7 rfl (nI_1 k) [1, 2, 3, 4, 5, 6, 7, 0] (by decide) rfl ?_
                refine vl_goto (tgt := 80) C0 dX4_can_115 (by decide) ?_
                exact ih (k + 1) (by omega) (by omega)
              · refine vl_iconst (v := 1) C0 dX4_can_105 (by decide) ?_
                refine vl_goto (tgt := 110) C0 dX4_can_106 (by decide) ?_
                refine vl_st (st2 := [.int (bI (freeB (mm 13) b (k + 1) && decide (mm 13 s9 = -1)))]) (by have q := g91; simp [bI, freeB, g91, h102]; (try simp_all)) ?_
                refine vl_istore (lv' := [(0, .ref (ad 0)), (1, .int k9), (2, .int (nI s9)), (3, .int b), (4, .int (nI t)), (5, .int (tideI t)), (6, .int (bI (freeB (mm 13) b (k + 1) && decide (mm 13 s9 = -1)))), (7, .int (nI k))]) C0 dX4_can_110 [1, 2, 3, 4, 5, 6, 0, 7] (by decide) rfl ?_
                refine vl_iinc (v := nI (k + 1)) (lv' := [(0, .ref (ad 0)), (1, .int k9), (2, .int (nI s9)), (3, .int b), (4, .int (nI t)), (5, .int (tideI t)), (6, .int (bI (freeB (mm 13) b (k + 1) && decide (mm 13 s9 = -1)))), (7, .int (nI (k + 1)))]) C0 dX4_can_112 7 rfl (nI_1 k) [1, 2, 3, 4, 5, 6, 7, 0] (by decide) rfl ?_
                refine vl_goto (tgt := 80) C0 dX4_can_115 (by decide) ?_
                exact ih (k + 1) (by omega) (by omega)
        · skip
          refine vl_aload_n C0 dX4_can_60 0 rfl ?_
          refine rm_get C0 hin 13 (by decide) (by decide +kernel) rfl dX4_can_61 ?_
          refine vl_iload_n C0 dX4_can_64 2 rfl ?_
          refine rm_iald C0 13 10 8 rfl (vp_in_nI (show s9 < 8 by omega) (by decide)) (kn := s9) (nI_clamp (by omega)) (v := mm 13 s9) (rfl) dX4_can_65 ?_
          refine vl_iconst (v := -1) C0 dX4_can_66 (by decide) ?_
          refine vl_icmp_ne (tgt := 74) C0 dX4_can_67 (by decide) (fun (h67 : ¬ (mm 13 s9 : Int32) = ((-1) : Int32)) => ?_) (fun (h67 : (mm 13 s9 : Int32) = ((-1) : Int32)) => ?_)
          · refine vl_iconst (v := 0) C0 dX4_can_74 (by decide) ?_
            exact vl_st (by simp [bI, h67]) hj
          · refine vl_iconst (v := 1) C0 dX4_can_70 (by decide) ?_
            refine vl_goto (tgt := 75) C0 dX4_can_71 (by decide) ?_
            exact vl_st (by simp [bI, h67]) hj
      · refine vl_aload_n C0 dX4_can_36 0 rfl ?_
        refine rm_get C0 hin 13 (by decide) (by decide +kernel) rfl dX4_can_37 ?_
        refine vl_iload_n C0 dX4_can_40 2 rfl ?_
        refine rm_iald C0 13 10 8 rfl (vp_in_nI (show s9 < 8 by omega) (by decide)) (kn := s9) (nI_clamp (by omega)) (v := mm 13 s9) (rfl) dX4_can_41 ?_
        refine vl_if_lt (tgt := 58) C0 dX4_can_42 (by decide) (fun (h42 : (mm 13 s9 : Int32) < (0 : Int32)) => ?_) (fun (h42 : ¬ (mm 13 s9 : Int32) < (0 : Int32)) => ?_)
        · have z42 : ¬ 0 ≤ mm 13 s9 := Int32.not_le.mpr h42
          refine vl_iconst (v := 0) C0 dX4_can_58 (by decide) ?_
          exact vl_zret C0 hA.symm hr rfl ⟨by simp [canB, bI, ← Int32.not_le, h26, h33, h42, z42], rfl⟩ (Nat.le_of_ble_eq_true rfl) (Nat.le_of_ble_eq_true rfl) dX4_can_59
        · have z42 : 0 ≤ mm 13 s9 := Int32.not_lt.mp h42
          refine vl_aload_n C0 dX4_can_45 0 rfl ?_
          refine rm_get C0 hin 14 (by decide) (by decide +kernel) rfl dX4_can_46 ?_
          refine vl_iload_n C0 dX4_can_49 2 rfl ?_
          refine rm_iald C0 14 11 8 rfl (vp_in_nI (show s9 < 8 by omega) (by decide)) (kn := s9) (nI_clamp (by omega)) (v := mm 14 s9) (rfl) dX4_can_50 ?_
          refine vl_if_ne (tgt := 58) C0 dX4_can_51 (by decide) (fun (h51 : ¬ (mm 14 s9 : Int32) = (0 : Int32)) => ?_) (fun (h51 : (mm 14 s9 : Int32) = (0 : Int32)) => ?_)
          · refine vl_iconst (v := 0) C0 dX4_can_58 (by decide) ?_
            exact vl_zret C0 hA.symm hr rfl ⟨by simp [canB, bI, ← Int32.not_le, h26, h33, h42, z42, h51], rfl⟩ (Nat.le_of_ble_eq_true rfl) (Nat.le_of_ble_eq_true rfl) dX4_can_59
          · refine vl_iconst (v := 1) C0 dX4_can_54 (by decide) ?_
            refine vl_goto (tgt := 59) C0 dX4_can_55 (by decide) ?_
            exact vl_zret C0 hA.symm hr rfl ⟨by simp [canB, bI, ← Int32.not_le, h26, h33, h42, z42, h51], rfl⟩ (Nat.le_of_ble_eq_true rfl) (Nat.le_of_ble_eq_true rfl) dX4_can_59
    · refine vl_iconst (v := 0) C0 dX4_can_29 (by decide) ?_
      exact vl_zret C0 hA.symm hr rfl ⟨by simp [canB, bI, ← Int32.not_le, h26], rfl⟩ (Nat.le_of_ble_eq_true rfl) (Nat.le_of_ble_eq_true rfl) dX4_can_30
  · skip
    refine vl_iload C0 dX4_can_0 4 rfl ?_
    refine vl_iconst (v := 4) C0 dX4_can_2 (by decide) ?_
    refine vl_irem C0 dX4_can_3 (by decide) ?_
    refine vl_iconst (v := 3) C0 dX4_can_4 (by decide) ?_
    refine vl_icmp_ne (tgt := 12) C0 dX4_can_5 (by decide) (fun (h5 : ¬ ((nI t) - (nI t) / (4) * (4) : Int32) = (3 : Int32)) => ?_) (fun (h5 : ((nI t) - (nI t) / (4) * (4) : Int32) = (3 : Int32)) => ?_)
    · refine vl_iload C0 dX4_can_12 4 rfl ?_
      refine vl_iconst (v := 4) C0 dX4_can_14 (by decide) ?_
      refine vl_irem C0 dX4_can_15 (by decide) ?_
      exact vl_st (by simp [tideI, h5]) hj
    · refine vl_iconst (v := 1) C0 dX4_can_8 (by decide) ?_
      refine vl_goto (tgt := 16) C0 dX4_can_9 (by decide) ?_
      exact vl_st (by simp [tideI, h5]) hj
set_option maxHeartbeats 4000000 in
set_option maxRecDepth 100000 in
theorem c_X4_does {l : Launch} {D : va_G} {cy : Nat → ClassId} {ad : Nat → Nat} {mm : Nat → Nat → Int32} {X : va_W} {ns : Nat} (hl0 : l.stackTraces = false) (c0 : Int32) (t : Nat) (e0 : mm 0 0 = nI ns) (h8 : ns ≤ 8) (hc : codeOK ns c0) : vl_Kv l D cy yX4_does wsX4_does { frames := 1, cells := 0, slots := 0, locals := 27 } 0 0 (mw cy ad mm ++ X) [.ref (ad 0), .int c0, .int (nI t)] (fun w' => w' = mw cy ad (doesM ns mm c0 t) ++ X) := by
  refine vl_openv hl0 (by decide) rfl (Nat.le_of_ble_eq_true rfl) rfl ?_
  intro p e s m args below meth c C0 hr hnm
  generalize hA : va_A (mw cy ad mm ++ X) s.heap.size = A at C0 ⊢
  refine vl_lv (lv2 := [(0, .ref (ad 0)), (1, .int c0), (2, .int (nI t))]) [0, 1, 2] rfl ?_
  have hin : ∀ x ∈ u_ws RX4 TX4 18, x ∈ wsX4_does := by decide +kernel
  refine vl_iload_n C0 dX4_does_0 1 rfl ?_
  refine vl_bipush (v := 100) C0 dX4_does_1 (by decide) ?_
  refine vl_idiv C0 dX4_does_3 (by decide) ?_
  refine vl_istore_n (lv' := [(0, .ref (ad 0)), (1, .int c0), (2, .int (nI t)), (3, .int ((c0) / (100)))]) C0 dX4_does_4 [1, 2, 3, 0] (by decide) rfl ?_
  refine vl_iload_n C0 dX4_does_5 1 rfl ?_
  refine vl_bipush (v := 10) C0 dX4_does_6 (by decide) ?_
  refine vl_idiv C0 dX4_does_8 (by decide) ?_
  refine vl_bipush (v := 10) C0 dX4_does_9 (by decide) ?_
  refine vl_irem C0 dX4_does_11 (by decide) ?_
  refine vl_st (st2 := [.int (shI c0)]) rfl ?_
  refine vl_istore (lv' := [(0, .ref (ad 0)), (1, .int c0), (2, .int (nI t)), (3, .int ((c0) / (100))), (4, .int (shI c0))]) C0 dX4_does_12 [1, 2, 3, 4, 0] (by decide) rfl ?_
  refine vl_iload_n C0 dX4_does_14 3 rfl ?_
  refine vl_if_ne (tgt := 19) C0 dX4_does_15 (by decide) (fun (h15 : ¬ ((c0) / (100) : Int32) = (0 : Int32)) => ?_) (fun (h15 : ((c0) / (100) : Int32) = (0 : Int32)) => ?_)
  · obtain ⟨s1, hs1, hsh⟩ := code_sh h8 hc h15
    rw [hsh]
    refine vl_aload_n C0 dX4_does_19 0 rfl ?_
    refine vl_iload_n C0 dX4_does_20 3 rfl ?_
    refine vl_iload C0 dX4_does_21 4 rfl ?_
    refine vl_iload_n C0 dX4_does_23 1 rfl ?_
    refine vl_bipush (v := 10) C0 dX4_does_24 (by decide) ?_
    refine vl_irem C0 dX4_does_26 (by decide) ?_
    refine vl_st (st2 := [.int (beI c0), .int (nI s1), .int ((c0) / (100)), .ref (ad 0)]) rfl ?_
    refine vl_iload_n C0 dX4_does_27 2 rfl ?_
    refine vl_calli C0 (vl_goV C0 (As := [.int ((c0) / (100)), .int (nI s1), .int (beI c0), .int (nI t)]) (na := 4) (b := ad 0) (st := []) (ci := 4) gX4_does_X4_can rfl rfl rfl (by decide +kernel) ⟨Nat.le_of_ble_eq_true rfl, Nat.le_of_ble_eq_true rfl⟩ rfl ⟨0, _, rfl⟩ dX4_does_28 (Nat.le_of_ble_eq_true rfl) ⟨Nat.le_of_ble_eq_true rfl, Nat.le_of_ble_eq_true rfl⟩ rfl rfl) (c_X4_can hl0 ((c0) / (100)) s1 (beI c0) t (ns := ns) e0 h8 hs1) (k2 := 0) (n2 := 0) (Nat.le_of_ble_eq_true rfl) (Nat.le_of_ble_eq_true rfl) (fun r9 w9 hp9 => ?_)
    obtain ⟨rfl, rfl⟩ := hp9
    refine vl_if_ne (tgt := 47) C0 dX4_does_31 (by decide) (fun (h31 : ¬ (bI (canB ns (mm 2) (mm 13) (mm 14) ((c0) / (100)) s1 (beI c0) t) : Int32) = (0 : Int32)) => ?_) (fun (h31 : (bI (canB ns (mm 2) (mm 13) (mm 14) ((c0) / (100)) s1 (beI c0) t) : Int32) = (0 : Int32)) => ?_)
    · have g31 := bI_n.mp h31
      refine vl_aload_n C0 dX4_does_47 0 rfl ?_
      refine rm_get C0 hin 13 (by decide) (by decide +kernel) rfl dX4_does_48 ?_
      refine vl_iload C0 dX4_does_51 4 rfl ?_
      refine vl_iload_n C0 dX4_does_53 3 rfl ?_
      refine vl_iconst (v := 1) C0 dX4_does_54 (by decide) ?_
      refine vl_icmp_ne (tgt := 65) C0 dX4_does_55 (by decide) (fun (h55 : ¬ ((c0) / (100) : Int32) = (1 : Int32)) => ?_) (fun (h55 : ((c0) / (100) : Int32) = (1 : Int32)) => ?_)
      · refine vl_bipush (v := -3) C0 dX4_does_65 (by decide) ?_
        refine rm_iast C0 13 10 8 rfl (mw_st13 _ _) (vp_in_nI (show s1 < 8 by omega) (by decide)) (kn := s1) (nI_clamp (by omega)) dX4_does_67 ?_
        exact vl_vret C0 hA.symm hr (by simp [doesM, h15, g31, hsh, nI_clamp (show s1 < 2 ^ 31 by omega)] <;> simp [h55]) (Nat.le_of_ble_eq_true rfl) (Nat.le_of_ble_eq_true rfl) dX4_does_68
      · refine vl_iload_n C0 dX4_does_58 1 rfl ?_
        refine vl_bipush (v := 10) C0 dX4_does_59 (by decide) ?_
        refine vl_irem C0 dX4_does_61 (by decide) ?_
        refine vl_st (st2 := [.int (beI c0), .int (nI s1), .ref (ad 13)]) rfl ?_
        refine vl_goto (tgt := 67) C0 dX4_does_62 (by decide) ?_
        refine rm_iast C0 13 10 8 rfl (mw_st13 _ _) (vp_in_nI (show s1 < 8 by omega) (by decide)) (kn := s1) (nI_clamp (by omega)) dX4_does_67 ?_
        exact vl_vret C0 hA.symm hr (by simp [doesM, h15, g31, hsh, nI_clamp (show s1 < 2 ^ 31 by omega)] <;> simp [h55]) (Nat.le_of_ble_eq_true rfl) (Nat.le_of_ble_eq_true rfl) dX4_does_68
    · have g31 := bI_0.mp h31
      refine vl_aload_n C0 dX4_does_34 0 rfl ?_
      refine vl_dup C0 dX4_does_35 rfl ?_
      refine rm_get C0 hin 16 (by decide) (by decide +kernel) (v := .int (mm 0 16)) (rfl) dX4_does_36 ?_
      refine vl_iconst (v := 1) C0 dX4_does_39 (by decide) ?_
      refine vl_iload_n C0 dX4_does_40 2 rfl ?_
      refine vl_ishl C0 dX4_does_41 ?_
      refine vl_ior C0 dX4_does_42 ?_
      refine rm_put C0 hin 16 (by decide) (by decide +kernel) rfl rfl (mw_put16 _) dX4_does_43 ?_
      exact vl_vret C0 hA.symm hr (by simp [doesM, h15, g31, hsh, nI_clamp (show s1 < 2 ^ 31 by omega)]) (Nat.le_of_ble_eq_true rfl) (Nat.le_of_ble_eq_true rfl) dX4_does_46
  · exact vl_vret C0 hA.symm hr (by simp [doesM, h15]) (Nat.le_of_ble_eq_true rfl) (Nat.le_of_ble_eq_true rfl) dX4_does_18
end VM8
