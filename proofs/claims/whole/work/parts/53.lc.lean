set_option maxHeartbeats 4000000 in
set_option maxRecDepth 100000 in
theorem law_where {p : Program} {l : Launch} {e : Env} {s : State} {m : MethodId} {b : Nat} {below : List Frame} {meth : Method} {c : Code} {D : va_G} {cy : Nat → ClassId} {am : Nat → Nat} {o a0 L : Nat} {xs : Nat → Int32} {k n i : Nat} (K : lwC p l e s m b below meth c D cy L xs) (hi : i + 6 ≤ L) (hk : k + 5 ≤ 601024) (hn : n + 48 ≤ 7293034) (kk : lwL p l e s m b below meth c D cy am o a0 (k + 5) (n + 48) i 1171) : lwL p l e s m b below meth c D cy am o a0 k n i 706 := by
  obtain ⟨hl0, C0, hX, hbl, hL⟩ := K
  intro ad nl ns par Rl d mm f ha hJ hok
  subst ha
  have hbA : ¬ (fun q : Nat => s.heap.size ≤ q) b := Nat.not_le.mpr hbl
  obtain ⟨⟨e0, h8, e7, h1, h9⟩, htr, -, -, -, hcg, hrt⟩ := id hJ.1
  have hcode := hJ.1.code
  have h0a := hJ.1.ah0
  obtain ⟨hln, hwd, hfk⟩ := id hJ.2
  refine vl_aload_n C0 dL_law_706 1 rfl ?_
  refine vl_aload_n C0 dL_law_707 0 rfl ?_
  refine vl_iload C0 dL_law_708 4 rfl ?_
  refine vl_iconst (v := 1) C0 dL_law_710 (by decide) ?_
  refine vl_iadd C0 dL_law_711 ?_
  refine vl_sx C0 hX hbl hbA hL (j := i + 1) (nI_add i 1) (by omega) dL_law_712 ?_
  refine vl_aload_n C0 dL_law_713 0 rfl ?_
  refine vl_iload C0 dL_law_714 4 rfl ?_
  refine vl_iconst (v := 2) C0 dL_law_716 (by decide) ?_
  refine vl_iadd C0 dL_law_717 ?_
  refine vl_sx C0 hX hbl hbA hL (j := i + 2) (nI_add i 2) (by omega) dL_law_718 ?_
  refine vl_aload_n C0 dL_law_719 0 rfl ?_
  refine vl_iload C0 dL_law_720 4 rfl ?_
  refine vl_iconst (v := 3) C0 dL_law_722 (by decide) ?_
  refine vl_iadd C0 dL_law_723 ?_
  refine vl_sx C0 hX hbl hbA hL (j := i + 3) (nI_add i 3) (by omega) dL_law_724 ?_
  refine vl_aload_n C0 dL_law_725 3 rfl ?_
  refine vl_xcalli C0 (vl_goSXH C0 (As := [.ref (ad 0 0), .int (xs (i + 1)), .int (xs (i + 2)), .int (xs (i + 3)), .ref o]) (na := 5) (st := []) gL_law_L_where rfl rfl rfl (by decide +kernel) ⟨Nat.le_of_ble_eq_true rfl, Nat.le_of_ble_eq_true rfl⟩ dL_law_726 (Nat.le_of_ble_eq_true rfl) ⟨show k + 3 ≤ 601024 by omega, show n + 18 ≤ 7293034 by omega⟩ rfl rfl) (c_L_where hl0 hok h1 h9 h8 hln hwd htr hcode hcg hrt (xs (i + 1)) (xs (i + 2)) (xs (i + 3)) (mm := mm)) (k2 := k + 5) (n2 := n + 48) (show k + 3 ≤ k + 5 by omega) (show n + 18 ≤ n + 48 by omega) (fun E9 hE9 => False.elim hE9) (fun r9 w9 hp9 => ?_)
  rcases hp9 with ⟨rfl, g1, d2, rfl, g2⟩ | ⟨rfl, g1, rfl⟩
  · skip
    refine vl_istore (lv' := [(0, .ref b), (1, .ref (ad 0 0)), (2, .ref (am 0)), (3, .ref o), (4, .int (nI i)), (5, .int 0)]) C0 dL_law_729 [1, 2, 3, 4, 5, 0] (by decide) rfl ?_
    refine vl_aload_n C0 dL_law_731 2 rfl ?_
    refine vl_aload_n C0 dL_law_732 0 rfl ?_
    refine vl_iload C0 dL_law_733 4 rfl ?_
    refine vl_iconst (v := 1) C0 dL_law_735 (by decide) ?_
    refine vl_iadd C0 dL_law_736 ?_
    refine vl_sx C0 hX hbl hbA hL (j := i + 1) (nI_add i 1) (by omega) dL_law_737 ?_
    refine vl_aload_n C0 dL_law_738 0 rfl ?_
    refine vl_iload C0 dL_law_739 4 rfl ?_
    refine vl_iconst (v := 2) C0 dL_law_741 (by decide) ?_
    refine vl_iadd C0 dL_law_742 ?_
    refine vl_sx C0 hX hbl hbA hL (j := i + 2) (nI_add i 2) (by omega) dL_law_743 ?_
    refine vl_aload_n C0 dL_law_744 0 rfl ?_
    refine vl_iload C0 dL_law_745 4 rfl ?_
    refine vl_iconst (v := 3) C0 dL_law_747 (by decide) ?_
    refine vl_iadd C0 dL_law_748 ?_
    refine vl_sx C0 hX hbl hbA hL (j := i + 3) (nI_add i 3) (by omega) dL_law_749 ?_
    refine vl_perm (pm_in (A := cw cy ad nl ns par Rl d2) (o := (o, .inl (cy 4, 1, .inr (.inl (vp_updL f (0 : Int32).toNatClampNeg ((whV ns nl par mm (xs (i + 1)) (xs (i + 2)) (xs (i + 3))).toInt64)))))) (M := mw cy am mm)) ?_
    refine vl_calli C0 (vl_goV C0 (As := [.int (xs (i + 1)), .int (xs (i + 2)), .int (xs (i + 3))]) (na := 3) (b := am 0) (st := []) (ci := 4) gL_law_X4_where rfl rfl rfl (by decide +kernel) ⟨Nat.le_of_ble_eq_true rfl, Nat.le_of_ble_eq_true rfl⟩ rfl ⟨0, _, rfl⟩ dL_law_750 (Nat.le_of_ble_eq_true rfl) ⟨show k + 5 + 0 ≤ 601024 by omega, show n + 48 + 0 ≤ 7293034 by omega⟩ rfl rfl) (c_X4_where hl0 (xs (i + 1)) (xs (i + 2)) (xs (i + 3)) e0 h8 e7 h1 h9 htr hcode (mm := mm)) (k2 := k + 5) (n2 := n + 48) (Nat.le_refl _) (Nat.le_refl _) (fun r9 w9 hp9 => ?_)
    obtain ⟨m2, rfl, hkp, hth, hr9⟩ := hp9
    have hq := hJ.k hkp g2
    have hth : m2 0 17 = 0 := by rw [hth, g1]; rfl
    subst hr9
    refine vl_istore (lv' := [(0, .ref b), (1, .ref (ad 0 0)), (2, .ref (am 0)), (3, .ref o), (4, .int (nI i)), (5, .int 0), (6, .int (whV ns nl par mm (xs (i + 1)) (xs (i + 2)) (xs (i + 3))))]) C0 dL_law_753 [1, 2, 3, 4, 5, 6, 0] (by decide) rfl ?_
    refine vl_aload_n C0 dL_law_755 2 rfl ?_
    refine vl_calli C0 (vl_goV C0 (As := []) (na := 0) (b := am 0) (st := []) (ci := 4) gL_law_X4_thrown rfl rfl rfl (by decide +kernel) ⟨Nat.le_of_ble_eq_true rfl, Nat.le_of_ble_eq_true rfl⟩ rfl ⟨0, _, rfl⟩ dL_law_756 (Nat.le_of_ble_eq_true rfl) ⟨show k + 5 + 0 ≤ 601024 by omega, show n + 48 + 0 ≤ 7293034 by omega⟩ rfl rfl) (c_X4_thrown hl0 (mm := m2)) (k2 := k + 5) (n2 := n + 48) (Nat.le_refl _) (Nat.le_refl _) (fun t9 w9 hp9 => ?_)
    obtain ⟨ht9, rfl⟩ := hp9
    have ht9 := ht9.trans hth
    subst ht9
    refine vl_perm (pm_out (A := cw cy ad nl ns par Rl d2) (o := (o, .inl (cy 4, 1, .inr (.inl (vp_updL f (0 : Int32).toNatClampNeg ((whV ns nl par mm (xs (i + 1)) (xs (i + 2)) (xs (i + 3))).toInt64)))))) (M := mw cy am m2)) ?_
    refine vl_iload C0 dL_law_759 5 rfl ?_
    refine vl_icmp_eq (tgt := 766) C0 dL_law_761 (by decide) (fun (h761 : (0 : Int32) = (0 : Int32)) => ?_) (fun (h761 : ¬ (0 : Int32) = (0 : Int32)) => absurd h761 (by decide))
    refine vl_iload C0 dL_law_766 5 rfl ?_
    refine vl_if_ne (tgt := 783) C0 dL_law_768 (by decide) (fun (h768 : ¬ (0 : Int32) = (0 : Int32)) => absurd h768 (by decide)) (fun (h768 : (0 : Int32) = (0 : Int32)) => ?_)
    refine vl_aload_n C0 dL_law_771 3 rfl ?_
    refine vl_iconst (v := 0) C0 dL_law_772 (by decide) ?_
    refine vl_lald C0 (f := (vp_updL f (0 : Int32).toNatClampNeg ((whV ns nl par mm (xs (i + 1)) (xs (i + 2)) (xs (i + 3))).toInt64))) (i := 0) ⟨_, wy_at (j := 0) rfl⟩ (vp_in_iff.mpr (by decide)) dL_law_773 ?_
    refine vl_st (st2 := [.long ((whV ns nl par mm (xs (i + 1)) (xs (i + 2)) (xs (i + 3))).toInt64)]) (by rw [updL_s]) ?_
    refine vl_iload C0 dL_law_774 6 rfl ?_
    refine vl_i2l C0 dL_law_776 rfl ?_
    refine vl_lcmp C0 dL_law_777 ?_
    refine vl_if_eq (tgt := 783) C0 dL_law_778 (by decide) (fun (h778 : (lg_cmp ((whV ns nl par mm (xs (i + 1)) (xs (i + 2)) (xs (i + 3))).toInt64) ((whV ns nl par mm (xs (i + 1)) (xs (i + 2)) (xs (i + 3))).toInt64) : Int32) = (0 : Int32)) => ?_) (fun (h778 : ¬ (lg_cmp ((whV ns nl par mm (xs (i + 1)) (xs (i + 2)) (xs (i + 3))).toInt64) ((whV ns nl par mm (xs (i + 1)) (xs (i + 2)) (xs (i + 3))).toInt64) : Int32) = (0 : Int32)) => absurd (lgc0 rfl) h778)
    refine vl_goto (tgt := 1171) C0 dL_law_783 (by decide) ?_
    refine vl_lv (lv2 := [(0, .ref b), (1, .ref (ad 0 0)), (2, .ref (am 0)), (3, .ref o), (4, .int (nI i))]) [0, 1, 2, 3, 4] rfl ?_
    exact kk ad nl ns par Rl d2 m2 (vp_updL f (0 : Int32).toNatClampNeg ((whV ns nl par mm (xs (i + 1)) (xs (i + 2)) (xs (i + 3))).toInt64)) rfl hq hok
  · skip
    refine vl_istore (lv' := [(0, .ref b), (1, .ref (ad 0 0)), (2, .ref (am 0)), (3, .ref o), (4, .int (nI i)), (5, .int 1)]) C0 dL_law_729 [1, 2, 3, 4, 5, 0] (by decide) rfl ?_
    refine vl_aload_n C0 dL_law_731 2 rfl ?_
    refine vl_aload_n C0 dL_law_732 0 rfl ?_
    refine vl_iload C0 dL_law_733 4 rfl ?_
    refine vl_iconst (v := 1) C0 dL_law_735 (by decide) ?_
    refine vl_iadd C0 dL_law_736 ?_
    refine vl_sx C0 hX hbl hbA hL (j := i + 1) (nI_add i 1) (by omega) dL_law_737 ?_
    refine vl_aload_n C0 dL_law_738 0 rfl ?_
    refine vl_iload C0 dL_law_739 4 rfl ?_
    refine vl_iconst (v := 2) C0 dL_law_741 (by decide) ?_
    refine vl_iadd C0 dL_law_742 ?_
    refine vl_sx C0 hX hbl hbA hL (j := i + 2) (nI_add i 2) (by omega) dL_law_743 ?_
    refine vl_aload_n C0 dL_law_744 0 rfl ?_
    refine vl_iload C0 dL_law_745 4 rfl ?_
    refine vl_iconst (v := 3) C0 dL_law_747 (by decide) ?_
    refine vl_iadd C0 dL_law_748 ?_
    refine vl_sx C0 hX hbl hbA hL (j := i + 3) (nI_add i 3) (by omega) dL_law_749 ?_
    refine vl_perm (pm_in (A := cw cy ad nl ns par Rl d) (o := (o, .inl (cy 4, 1, .inr (.inl f)))) (M := mw cy am mm)) ?_
    refine vl_calli C0 (vl_goV C0 (As := [.int (xs (i + 1)), .int (xs (i + 2)), .int (xs (i + 3))]) (na := 3) (b := am 0) (st := []) (ci := 4) gL_law_X4_where rfl rfl rfl (by decide +kernel) ⟨Nat.le_of_ble_eq_true rfl, Nat.le_of_ble_eq_true rfl⟩ rfl ⟨0, _, rfl⟩ dL_law_750 (Nat.le_of_ble_eq_true rfl) ⟨show k + 5 + 0 ≤ 601024 by omega, show n + 48 + 0 ≤ 7293034 by omega⟩ rfl rfl) (c_X4_where hl0 (xs (i + 1)) (xs (i + 2)) (xs (i + 3)) e0 h8 e7 h1 h9 htr hcode (mm := mm)) (k2 := k + 5) (n2 := n + 48) (Nat.le_refl _) (Nat.le_refl _) (fun r9 w9 hp9 => ?_)
    obtain ⟨m2, rfl, hkp, hth, hr9⟩ := hp9
    have hq := hJ.k hkp dFr.rf
    have hth : m2 0 17 = 1 := by rw [hth, g1]; rfl
    clear hr9
    refine vl_istore (lv' := [(0, .ref b), (1, .ref (ad 0 0)), (2, .ref (am 0)), (3, .ref o), (4, .int (nI i)), (5, .int 1), (6, .int r9)]) C0 dL_law_753 [1, 2, 3, 4, 5, 6, 0] (by decide) rfl ?_
    refine vl_aload_n C0 dL_law_755 2 rfl ?_
    refine vl_calli C0 (vl_goV C0 (As := []) (na := 0) (b := am 0) (st := []) (ci := 4) gL_law_X4_thrown rfl rfl rfl (by decide +kernel) ⟨Nat.le_of_ble_eq_true rfl, Nat.le_of_ble_eq_true rfl⟩ rfl ⟨0, _, rfl⟩ dL_law_756 (Nat.le_of_ble_eq_true rfl) ⟨show k + 5 + 0 ≤ 601024 by omega, show n + 48 + 0 ≤ 7293034 by omega⟩ rfl rfl) (c_X4_thrown hl0 (mm := m2)) (k2 := k + 5) (n2 := n + 48) (Nat.le_refl _) (Nat.le_refl _) (fun t9 w9 hp9 => ?_)
    obtain ⟨ht9, rfl⟩ := hp9
    have ht9 := ht9.trans hth
    subst ht9
    refine vl_perm (pm_out (A := cw cy ad nl ns par Rl d) (o := (o, .inl (cy 4, 1, .inr (.inl f)))) (M := mw cy am m2)) ?_
    refine vl_iload C0 dL_law_759 5 rfl ?_
    refine vl_icmp_eq (tgt := 766) C0 dL_law_761 (by decide) (fun (h761 : (1 : Int32) = (1 : Int32)) => ?_) (fun (h761 : ¬ (1 : Int32) = (1 : Int32)) => absurd h761 (by decide))
    refine vl_iload C0 dL_law_766 5 rfl ?_
    refine vl_if_ne (tgt := 783) C0 dL_law_768 (by decide) (fun (h768 : ¬ (1 : Int32) = (0 : Int32)) => ?_) (fun (h768 : (1 : Int32) = (0 : Int32)) => absurd h768 (by decide))
    refine vl_goto (tgt := 1171) C0 dL_law_783 (by decide) ?_
    refine vl_lv (lv2 := [(0, .ref b), (1, .ref (ad 0 0)), (2, .ref (am 0)), (3, .ref o), (4, .int (nI i))]) [0, 1, 2, 3, 4] rfl ?_
    exact kk ad nl ns par Rl d m2 f rfl hq hok
set_option maxHeartbeats 4000000 in
set_option maxRecDepth 100000 in
theorem law_cargo {p : Program} {l : Launch} {e : Env} {s : State} {m : MethodId} {b : Nat} {below : List Frame} {meth : Method} {c : Code} {D : va_G} {cy : Nat → ClassId} {am : Nat → Nat} {o a0 L : Nat} {xs : Nat → Int32} {k n i : Nat} (K : lwC p l e s m b below meth c D cy L xs) (hi : i + 6 ≤ L) (hk : k + 5 ≤ 601024) (hn : n + 48 ≤ 7293034) (kk : lwL p l e s m b below meth c D cy am o a0 (k + 5) (n + 48) i 1171) : lwL p l e s m b below meth c D cy am o a0 k n i 786 := by
  obtain ⟨hl0, C0, hX, hbl, hL⟩ := K
  intro ad nl ns par Rl d mm f ha hJ hok
  subst ha
  have hbA : ¬ (fun q : Nat => s.heap.size ≤ q) b := Nat.not_le.mpr hbl
  obtain ⟨⟨e0, h8, e7, h1, h9⟩, htr, -, -, -, hcg, hrt⟩ := id hJ.1
  have hcode := hJ.1.code
  have h0a := hJ.1.ah0
  obtain ⟨hln, hwd, hfk⟩ := id hJ.2
  refine vl_aload_n C0 dL_law_786 1 rfl ?_
  refine vl_aload_n C0 dL_law_787 0 rfl ?_
  refine vl_iload C0 dL_law_788 4 rfl ?_
  refine vl_iconst (v := 1) C0 dL_law_790 (by decide) ?_
  refine vl_iadd C0 dL_law_791 ?_
  refine vl_sx C0 hX hbl hbA hL (j := i + 1) (nI_add i 1) (by omega) dL_law_792 ?_
  refine vl_aload_n C0 dL_law_793 0 rfl ?_
  refine vl_iload C0 dL_law_794 4 rfl ?_
  refine vl_iconst (v := 2) C0 dL_law_796 (by decide) ?_
  refine vl_iadd C0 dL_law_797 ?_
  refine vl_sx C0 hX hbl hbA hL (j := i + 2) (nI_add i 2) (by omega) dL_law_798 ?_
  refine vl_aload_n C0 dL_law_799 0 rfl ?_
  refine vl_iload C0 dL_law_800 4 rfl ?_
  refine vl_iconst (v := 3) C0 dL_law_802 (by decide) ?_
  refine vl_iadd C0 dL_law_803 ?_
  refine vl_sx C0 hX hbl hbA hL (j := i + 3) (nI_add i 3) (by omega) dL_law_804 ?_
  refine vl_aload_n C0 dL_law_805 3 rfl ?_
  refine vl_xcalli C0 (vl_goSXH C0 (As := [.ref (ad 0 0), .int (xs (i + 1)), .int (xs (i + 2)), .int (xs (i + 3)), .ref o]) (na := 5) (st := []) gL_law_L_cargo rfl rfl rfl (by decide +kernel) ⟨Nat.le_of_ble_eq_true rfl, Nat.le_of_ble_eq_true rfl⟩ dL_law_806 (Nat.le_of_ble_eq_true rfl) ⟨show k + 3 ≤ 601024 by omega, show n + 18 ≤ 7293034 by omega⟩ rfl rfl) (c_L_cargo hl0 hok h1 h9 h8 hln hwd htr hcode hcg hrt (xs (i + 1)) (xs (i + 2)) (xs (i + 3)) (mm := mm)) (k2 := k + 5) (n2 := n + 48) (show k + 3 ≤ k + 5 by omega) (show n + 18 ≤ n + 48 by omega) (fun E9 hE9 => False.elim hE9) (fun r9 w9 hp9 => ?_)
  rcases hp9 with ⟨rfl, g1, d2, rfl, g2⟩ | ⟨rfl, g1, rfl⟩
  · skip
    refine vl_istore (lv' := [(0, .ref b), (1, .ref (ad 0 0)), (2, .ref (am 0)), (3, .ref o), (4, .int (nI i)), (5, .int 0)]) C0 dL_law_809 [1, 2, 3, 4, 5, 0] (by decide) rfl ?_
    refine vl_aload_n C0 dL_law_811 2 rfl ?_
    refine vl_aload_n C0 dL_law_812 0 rfl ?_
    refine vl_iload C0 dL_law_813 4 rfl ?_
    refine vl_iconst (v := 1) C0 dL_law_815 (by decide) ?_
    refine vl_iadd C0 dL_law_816 ?_
    refine vl_sx C0 hX hbl hbA hL (j := i + 1) (nI_add i 1) (by omega) dL_law_817 ?_
    refine vl_aload_n C0 dL_law_818 0 rfl ?_
    refine vl_iload C0 dL_law_819 4 rfl ?_
    refine vl_iconst (v := 2) C0 dL_law_821 (by decide) ?_
    refine vl_iadd C0 dL_law_822 ?_
    refine vl_sx C0 hX hbl hbA hL (j := i + 2) (nI_add i 2) (by omega) dL_law_823 ?_
    refine vl_aload_n C0 dL_law_824 0 rfl ?_
    refine vl_iload C0 dL_law_825 4 rfl ?_
    refine vl_iconst (v := 3) C0 dL_law_827 (by decide) ?_
    refine vl_iadd C0 dL_law_828 ?_
    refine vl_sx C0 hX hbl hbA hL (j := i + 3) (nI_add i 3) (by omega) dL_law_829 ?_
    refine vl_perm (pm_in (A := cw cy ad nl ns par Rl d2) (o := (o, .inl (cy 4, 1, .inr (.inl (vp_updL f (0 : Int32).toNatClampNeg ((cgV ns nl par mm (xs (i + 1)) (xs (i + 2)) (xs (i + 3))).toInt64)))))) (M := mw cy am mm)) ?_
    refine vl_calli C0 (vl_goV C0 (As := [.int (xs (i + 1)), .int (xs (i + 2)), .int (xs (i + 3))]) (na := 3) (b := am 0) (st := []) (ci := 4) gL_law_X4_cargo rfl rfl rfl (by decide +kernel) ⟨Nat.le_of_ble_eq_true rfl, Nat.le_of_ble_eq_true rfl⟩ rfl ⟨0, _, rfl⟩ dL_law_830 (Nat.le_of_ble_eq_true rfl) ⟨show k + 5 + 0 ≤ 601024 by omega, show n + 48 + 0 ≤ 7293034 by omega⟩ rfl rfl) (c_X4_cargo hl0 (xs (i + 1)) (xs (i + 2)) (xs (i + 3)) e0 h8 e7 h1 h9 htr hcode (mm := mm)) (k2 := k + 5) (n2 := n + 48) (Nat.le_refl _) (Nat.le_refl _) (fun r9 w9 hp9 => ?_)
    obtain ⟨m2, rfl, hkp, hth, hr9⟩ := hp9
    have hq := hJ.k hkp g2
    have hth : m2 0 17 = 0 := by rw [hth, g1]; rfl
    subst hr9
    refine vl_istore (lv' := [(0, .ref b), (1, .ref (ad 0 0)), (2, .ref (am 0)), (3, .ref o), (4, .int (nI i)), (5, .int 0), (6, .int (cgV ns nl par mm (xs (i + 1)) (xs (i + 2)) (xs (i + 3))))]) C0 dL_law_833 [1, 2, 3, 4, 5, 6, 0] (by decide) rfl ?_
    refine vl_aload_n C0 dL_law_835 2 rfl ?_
    refine vl_calli C0 (vl_goV C0 (As := []) (na := 0) (b := am 0) (st := []) (ci := 4) gL_law_X4_thrown rfl rfl rfl (by decide +kernel) ⟨Nat.le_of_ble_eq_true rfl, Nat.le_of_ble_eq_true rfl⟩ rfl ⟨0, _, rfl⟩ dL_law_836 (Nat.le_of_ble_eq_true rfl) ⟨show k + 5 + 0 ≤ 601024 by omega, show n + 48 + 0 ≤ 7293034 by omega⟩ rfl rfl) (c_X4_thrown hl0 (mm := m2)) (k2 := k + 5) (n2 := n + 48) (Nat.le_refl _) (Nat.le_refl _) (fun t9 w9 hp9 => ?_)
    obtain ⟨ht9, rfl⟩ := hp9
    have ht9 := ht9.trans hth
    subst ht9
    refine vl_perm (pm_out (A := cw cy ad nl ns par Rl d2) (o := (o, .inl (cy 4, 1, .inr (.inl (vp_updL f (0 : Int32).toNatClampNeg ((cgV ns nl par mm (xs (i + 1)) (xs (i + 2)) (xs (i + 3))).toInt64)))))) (M := mw cy am m2)) ?_
    refine vl_iload C0 dL_law_839 5 rfl ?_
    refine vl_icmp_eq (tgt := 846) C0 dL_law_841 (by decide) (fun (h841 : (0 : Int32) = (0 : Int32)) => ?_) (fun (h841 : ¬ (0 : Int32) = (0 : Int32)) => absurd h841 (by decide))
    refine vl_iload C0 dL_law_846 5 rfl ?_
    refine vl_if_ne (tgt := 863) C0 dL_law_848 (by decide) (fun (h848 : ¬ (0 : Int32) = (0 : Int32)) => absurd h848 (by decide)) (fun (h848 : (0 : Int32) = (0 : Int32)) => ?_)
    refine vl_aload_n C0 dL_law_851 3 rfl ?_
    refine vl_iconst (v := 0) C0 dL_law_852 (by decide) ?_
    refine vl_lald C0 (f := (vp_updL f (0 : Int32).toNatClampNeg ((cgV ns nl par mm (xs (i + 1)) (xs (i + 2)) (xs (i + 3))).toInt64))) (i := 0) ⟨_, wy_at (j := 0) rfl⟩ (vp_in_iff.mpr (by decide)) dL_law_853 ?_
    refine vl_st (st2 := [.long ((cgV ns nl par mm (xs (i + 1)) (xs (i + 2)) (xs (i + 3))).toInt64)]) (by rw [updL_s]) ?_
    refine vl_iload C0 dL_law_854 6 rfl ?_
    refine vl_i2l C0 dL_law_856 rfl ?_
    refine vl_lcmp C0 dL_law_857 ?_
    refine vl_if_eq (tgt := 863) C0 dL_law_858 (by decide) (fun (h858 : (lg_cmp ((cgV ns nl par mm (xs (i + 1)) (xs (i + 2)) (xs (i + 3))).toInt64) ((cgV ns nl par mm (xs (i + 1)) (xs (i + 2)) (xs (i + 3))).toInt64) : Int32) = (0 : Int32)) => ?_) (fun (h858 : ¬ (lg_cmp ((cgV ns nl par mm (xs (i + 1)) (xs (i + 2)) (xs (i + 3))).toInt64) ((cgV ns nl par mm (xs (i + 1)) (xs (i + 2)) (xs (i + 3))).toInt64) : Int32) = (0 : Int32)) => absurd (lgc0 rfl) h858)
    refine vl_goto (tgt := 1171) C0 dL_law_863 (by decide) ?_
    refine vl_lv (lv2 := [(0, .ref b), (1, .ref (ad 0 0)), (2, .ref (am 0)), (3, .ref o), (4, .int (nI i))]) [0, 1, 2, 3, 4] rfl ?_
    exact kk ad nl ns par Rl d2 m2 (vp_updL f (0 : Int32).toNatClampNeg ((cgV ns nl par mm (xs (i + 1)) (xs (i + 2)) (xs (i + 3))).toInt64)) rfl hq hok
  · skip
    refine vl_istore (lv' := [(0, .ref b), (1, .ref (ad 0 0)), (2, .ref (am 0)), (3, .ref o), (4, .int (nI i)), (5, .int 1)]) C0 dL_law_809 [1, 2, 3, 4, 5, 0] (by decide) rfl ?_
    refine vl_aload_n C0 dL_law_811 2 rfl ?_
    refine vl_aload_n C0 dL_law_812 0 rfl ?_
    refine vl_iload C0 dL_law_813 4 rfl ?_
    refine vl_iconst (v := 1) C0 dL_law_815 (by decide) ?_
    refine vl_iadd C0 dL_law_816 ?_
    refine vl_sx C0 hX hbl hbA hL (j := i + 1) (nI_add i 1) (by omega) dL_law_817 ?_
    refine vl_aload_n C0 dL_law_818 0 rfl ?_
    refine vl_iload C0 dL_law_819 4 rfl ?_
    refine vl_iconst (v := 2) C0 dL_law_821 (by decide) ?_
    refine vl_iadd C0 dL_law_822 ?_
    refine vl_sx C0 hX hbl hbA hL (j := i + 2) (nI_add i 2) (by omega) dL_law_823 ?_
    refine vl_aload_n C0 dL_law_824 0 rfl ?_
    refine vl_iload C0 dL_law_825 4 rfl ?_
    refine vl_iconst (v := 3) C0 dL_law_827 (by decide) ?_
    refine vl_iadd C0 dL_law_828 ?_
    refine vl_sx C0 hX hbl hbA hL (j := i + 3) (nI_add i 3) (by omega) dL_law_829 ?_
    refine vl_perm (pm_in (A := cw cy ad nl ns par Rl d) (o := (o, .inl (cy 4, 1, .inr (.inl f)))) (M := mw cy am mm)) ?_
    refine vl_calli C0 (vl_goV C0 (As := [.int (xs (i + 1)), .int (xs (i + 2)), .int (xs (i + 3))]) (na := 3) (b := am 0) (st := []) (ci := 4) gL_law_X4_cargo rfl rfl rfl (by decide +kernel) ⟨Nat.le_of_ble_eq_true rfl, Nat.le_of_ble_eq_true rfl⟩ rfl ⟨0, _, rfl⟩ dL_law_830 (Nat.le_of_ble_eq_true rfl) ⟨show k + 5 + 0 ≤ 601024 by omega, show n + 48 + 0 ≤ 7293034 by omega⟩ rfl rfl) (c_X4_cargo hl0 (xs (i + 1)) (xs (i + 2)) (xs (i + 3)) e0 h8 e7 h1 h9 htr hcode (mm := mm)) (k2 := k + 5) (n2 := n + 48) (Nat.le_refl _) (Nat.le_refl _) (fun r9 w9 hp9 => ?_)
    obtain ⟨m2, rfl, hkp, hth, hr9⟩ := hp9
    have hq := hJ.k hkp dFr.rf
    have hth : m2 0 17 = 1 := by rw [hth, g1]; rfl
    clear hr9
    refine vl_istore (lv' := [(0, .ref b), (1, .ref (ad 0 0)), (2, .ref (am 0)), (3, .ref o), (4, .int (nI i)), (5, .int 1), (6, .int r9)]) C0 dL_law_833 [1, 2, 3, 4, 5, 6, 0] (by decide) rfl ?_
    refine vl_aload_n C0 dL_law_835 2 rfl ?_
    refine vl_calli C0 (vl_goV C0 (As := []) (na := 0) (b := am 0) (st := []) (ci := 4) gL_law_X4_thrown rfl rfl rfl (by decide +kernel) ⟨Nat.le_of_ble_eq_true rfl, Nat.le_of_ble_eq_true rfl⟩ rfl ⟨0, _, rfl⟩ dL_law_836 (Nat.le_of_ble_eq_true rfl) ⟨show k + 5 + 0 ≤ 601024 by omega, show n + 48 + 0 ≤ 7293034 by omega⟩ rfl rfl) (c_X4_thrown hl0 (mm := m2)) (k2 := k + 5) (n2 := n + 48) (Nat.le_refl _) (Nat.le_refl _) (fun t9 w9 hp9 => ?_)
    obtain ⟨ht9, rfl⟩ := hp9
    have ht9 := ht9.trans hth
    subst ht9
    refine vl_perm (pm_out (A := cw cy ad nl ns par Rl d) (o := (o, .inl (cy 4, 1, .inr (.inl f)))) (M := mw cy am m2)) ?_
    refine vl_iload C0 dL_law_839 5 rfl ?_
    refine vl_icmp_eq (tgt := 846) C0 dL_law_841 (by decide) (fun (h841 : (1 : Int32) = (1 : Int32)) => ?_) (fun (h841 : ¬ (1 : Int32) = (1 : Int32)) => absurd h841 (by decide))
    refine vl_iload C0 dL_law_846 5 rfl ?_
    refine vl_if_ne (tgt := 863) C0 dL_law_848 (by decide) (fun (h848 : ¬ (1 : Int32) = (0 : Int32)) => ?_) (fun (h848 : (1 : Int32) = (0 : Int32)) => absurd h848 (by decide))
    refine vl_goto (tgt := 1171) C0 dL_law_863 (by decide) ?_
    refine vl_lv (lv2 := [(0, .ref b), (1, .ref (ad 0 0)), (2, .ref (am 0)), (3, .ref o), (4, .int (nI i))]) [0, 1, 2, 3, 4] rfl ?_
    exact kk ad nl ns par Rl d m2 f rfl hq hok
set_option maxHeartbeats 4000000 in
set_option maxRecDepth 100000 in
theorem law_failures {p : Program} {l : Launch} {e : Env} {s : State} {m : MethodId} {b : Nat} {below : List Frame} {meth : Method} {c : Code} {D : va_G} {cy : Nat → ClassId} {am : Nat → Nat} {o a0 L : Nat} {xs : Nat → Int32} {k n i : Nat} (K : lwC p l e s m b below meth c D cy L xs) (hi : i + 6 ≤ L) (hk : k + 5 ≤ 601024) (hn : n + 48 ≤ 7293034) (kk : lwL p l e s m b below meth c D cy am o a0 (k + 5) (n + 48) i 1171) : lwL p l e s m b below meth c D cy am o a0 k n i 866 := by
  obtain ⟨hl0, C0, hX, hbl, hL⟩ := K
  intro ad nl ns par Rl d mm f ha hJ hok
  subst ha
  have hbA : ¬ (fun q : Nat => s.heap.size ≤ q) b := Nat.not_le.mpr hbl
  obtain ⟨⟨e0, h8, e7, h1, h9⟩, htr, -, -, -, hcg, hrt⟩ := id hJ.1
  have hcode := hJ.1.code
  have h0a := hJ.1.ah0
  obtain ⟨hln, hwd, hfk⟩ := id hJ.2
  refine vl_aload_n C0 dL_law_866 1 rfl ?_
  refine vl_aload_n C0 dL_law_867 0 rfl ?_
  refine vl_iload C0 dL_law_868 4 rfl ?_
  refine vl_iconst (v := 1) C0 dL_law_870 (by decide) ?_
  refine vl_iadd C0 dL_law_871 ?_
  refine vl_sx C0 hX hbl hbA hL (j := i + 1) (nI_add i 1) (by omega) dL_law_872 ?_
  refine vl_aload_n C0 dL_law_873 3 rfl ?_
  refine vl_xcalli C0 (vl_goSXH C0 (As := [.ref (ad 0 0), .int (xs (i + 1)), .ref o]) (na := 3) (st := []) gL_law_L_failures rfl rfl rfl (by decide +kernel) ⟨Nat.le_of_ble_eq_true rfl, Nat.le_of_ble_eq_true rfl⟩ dL_law_874 (Nat.le_of_ble_eq_true rfl) ⟨show k + 1 ≤ 601024 by omega, show n + 6 ≤ 7293034 by omega⟩ rfl rfl) (c_L_failures hl0 hok h1 h9 h8 hln hwd htr hcode hcg hrt (xs (i + 1)) (mm := mm)) (k2 := k + 5) (n2 := n + 48) (show k + 1 ≤ k + 5 by omega) (show n + 6 ≤ n + 48 by omega) (fun E9 hE9 => False.elim hE9) (fun r9 w9 hp9 => ?_)
  rcases hp9 with ⟨rfl, g1, d2, rfl, g2⟩ | ⟨rfl, g1, rfl⟩
  · skip
    refine vl_istore (lv' := [(0, .ref b), (1, .ref (ad 0 0)), (2, .ref (am 0)), (3, .ref o), (4, .int (nI i)), (5, .int 0)]) C0 dL_law_877 [1, 2, 3, 4, 5, 0] (by decide) rfl ?_
    refine vl_aload_n C0 dL_law_879 2 rfl ?_
    refine vl_aload_n C0 dL_law_880 0 rfl ?_
    refine vl_iload C0 dL_law_881 4 rfl ?_
    refine vl_iconst (v := 1) C0 dL_law_883 (by decide) ?_
    refine vl_iadd C0 dL_law_884 ?_
    refine vl_sx C0 hX hbl hbA hL (j := i + 1) (nI_add i 1) (by omega) dL_law_885 ?_
    refine vl_perm (pm_in (A := cw cy ad nl ns par Rl d2) (o := (o, .inl (cy 4, 1, .inr (.inl (vp_updL f (0 : Int32).toNatClampNeg ((faV ns nl par mm (xs (i + 1))).toInt64)))))) (M := mw cy am mm)) ?_
    refine vl_calli C0 (vl_goV C0 (As := [.int (xs (i + 1))]) (na := 1) (b := am 0) (st := []) (ci := 4) gL_law_X4_failures rfl rfl rfl (by decide +kernel) ⟨Nat.le_of_ble_eq_true rfl, Nat.le_of_ble_eq_true rfl⟩ rfl ⟨0, _, rfl⟩ dL_law_886 (Nat.le_of_ble_eq_true rfl) ⟨show k + 5 + 0 ≤ 601024 by omega, show n + 48 + 0 ≤ 7293034 by omega⟩ rfl rfl) (c_X4_failures hl0 (xs (i + 1)) e0 h8 e7 h1 h9 htr hcode (mm := mm)) (k2 := k + 5) (n2 := n + 48) (Nat.le_refl _) (Nat.le_refl _) (fun r9 w9 hp9 => ?_)
    obtain ⟨m2, rfl, hkp, hth, hr9⟩ := hp9
    have hq := hJ.k hkp g2
    have hth : m2 0 17 = 0 := by rw [hth, g1]; rfl
    subst hr9
    refine vl_istore (lv' := [(0, .ref b), (1, .ref (ad 0 0)), (2, .ref (am 0)), (3, .ref o), (4, .int (nI i)), (5, .int 0), (6, .int (faV ns nl par mm (xs (i + 1))))]) C0 dL_law_889 [1, 2, 3, 4, 5, 6, 0] (by decide) rfl ?_
    refine vl_aload_n C0 dL_law_891 2 rfl ?_
    refine vl_calli C0 (vl_goV C0 (As := []) (na := 0) (b := am 0) (st := []) (ci := 4) gL_law_X4_thrown rfl rfl rfl (by decide +kernel) ⟨Nat.le_of_ble_eq_true rfl, Nat.le_of_ble_eq_true rfl⟩ rfl ⟨0, _, rfl⟩ dL_law_892 (Nat.le_of_ble_eq_true rfl) ⟨show k + 5 + 0 ≤ 601024 by omega, show n + 48 + 0 ≤ 7293034 by omega⟩ rfl rfl) (c_X4_thrown hl0 (mm := m2)) (k2 := k + 5) (n2 := n + 48) (Nat.le_refl _) (Nat.le_refl _) (fun t9 w9 hp9 => ?_)
    obtain ⟨ht9, rfl⟩ := hp9
    have ht9 := ht9.trans hth
    subst ht9
    refine vl_perm (pm_out (A := cw cy ad nl ns par Rl d2) (o := (o, .inl (cy 4, 1, .inr (.inl (vp_updL f (0 : Int32).toNatClampNeg ((faV ns nl par mm (xs (i + 1))).toInt64)))))) (M := mw cy am m2)) ?_
    refine vl_iload C0 dL_law_895 5 rfl ?_
    refine vl_icmp_eq (tgt := 902) C0 dL_law_897 (by decide) (fun (h897 : (0 : Int32) = (0 : Int32)) => ?_) (fun (h897 : ¬ (0 : Int32) = (0 : Int32)) => absurd h897 (by decide))
    refine vl_iload C0 dL_law_902 5 rfl ?_
    refine vl_if_ne (tgt := 919) C0 dL_law_904 (by decide) (fun (h904 : ¬ (0 : Int32) = (0 : Int32)) => absurd h904 (by decide)) (fun (h904 : (0 : Int32) = (0 : Int32)) => ?_)
    refine vl_aload_n C0 dL_law_907 3 rfl ?_
    refine vl_iconst (v := 0) C0 dL_law_908 (by decide) ?_
    refine vl_lald C0 (f := (vp_updL f (0 : Int32).toNatClampNeg ((faV ns nl par mm (xs (i + 1))).toInt64))) (i := 0) ⟨_, wy_at (j := 0) rfl⟩ (vp_in_iff.mpr (by decide)) dL_law_909 ?_
    refine vl_st (st2 := [.long ((faV ns nl par mm (xs (i + 1))).toInt64)]) (by rw [updL_s]) ?_
    refine vl_iload C0 dL_law_910 6 rfl ?_
    refine vl_i2l C0 dL_law_912 rfl ?_
    refine vl_lcmp C0 dL_law_913 ?_
    refine vl_if_eq (tgt := 919) C0 dL_law_914 (by decide) (fun (h914 : (lg_cmp ((faV ns nl par mm (xs (i + 1))).toInt64) ((faV ns nl par mm (xs (i + 1))).toInt64) : Int32) = (0 : Int32)) => ?_) (fun (h914 : ¬ (lg_cmp ((faV ns nl par mm (xs (i + 1))).toInt64) ((faV ns nl par mm (xs (i + 1))).toInt64) : Int32) = (0 : Int32)) => absurd (lgc0 rfl) h914)
    refine vl_goto (tgt := 1171) C0 dL_law_919 (by decide) ?_
    refine vl_lv (lv2 := [(0, .ref b), (1, .ref (ad 0 0)), (2, .ref (am 0)), (3, .ref o), (4, .int (nI i))]) [0, 1, 2, 3, 4] rfl ?_
    exact kk ad nl ns par Rl d2 m2 (vp_updL f (0 : Int32).toNatClampNeg ((faV ns nl par mm (xs (i + 1))).toInt64)) rfl hq hok
  · skip
    refine vl_istore (lv' := [(0, .ref b), (1, .ref (ad 0 0)), (2, .ref (am 0)), (3, .ref o), (4, .int (nI i)), (5, .int 1)]) C0 dL_law_877 [1, 2, 3, 4, 5, 0] (by decide) rfl ?_
    refine vl_aload_n C0 dL_law_879 2 rfl ?_
    refine vl_aload_n C0 dL_law_880 0 rfl ?_
    refine vl_iload C0 dL_law_881 4 rfl ?_
    refine vl_iconst (v := 1) C0 dL_law_883 (by decide) ?_
    refine vl_iadd C0 dL_law_884 ?_
    refine vl_sx C0 hX hbl hbA hL (j := i + 1) (nI_add i 1) (by omega) dL_law_885 ?_
    refine vl_perm (pm_in (A := cw cy ad nl ns par Rl d) (o := (o, .inl (cy 4, 1, .inr (.inl f)))) (M := mw cy am mm)) ?_
    refine vl_calli C0 (vl_goV C0 (As := [.int (xs (i + 1))]) (na := 1) (b := am 0) (st := []) (ci := 4) gL_law_X4_failures rfl rfl rfl (by decide +kernel) ⟨Nat.le_of_ble_eq_true rfl, Nat.le_of_ble_eq_true rfl⟩ rfl ⟨0, _, rfl⟩ dL_law_886 (Nat.le_of_ble_eq_true rfl) ⟨show k + 5 + 0 ≤ 601024 by omega, show n + 48 + 0 ≤ 7293034 by omega⟩ rfl rfl) (c_X4_failures hl0 (xs (i + 1)) e0 h8 e7 h1 h9 htr hcode (mm := mm)) (k2 := k + 5) (n2 := n + 48) (Nat.le_refl _) (Nat.le_refl _) (fun r9 w9 hp9 => ?_)
    obtain ⟨m2, rfl, hkp, hth, hr9⟩ := hp9
    have hq := hJ.k hkp dFr.rf
    have hth : m2 0 17 = 1 := by rw [hth, g1]; rfl
    clear hr9
    refine vl_istore (lv' := [(0, .ref b), (1, .ref (ad 0 0)), (2, .ref (am 0)), (3, .ref o), (4, .int (nI i)), (5, .int 1), (6, .int r9)]) C0 dL_law_889 [1, 2, 3, 4, 5, 6, 0] (by decide) rfl ?_
    refine vl_aload_n C0 dL_law_891 2 rfl ?_
    refine vl_calli C0 (vl_goV C0 (As := []) (na := 0) (b := am 0) (st := []) (ci := 4) gL_law_X4_thrown rfl rfl rfl (by decide +kernel) ⟨Nat.le_of_ble_eq_true rfl, Nat.le_of_ble_eq_true rfl⟩ rfl ⟨0, _, rfl⟩ dL_law_892 (Nat.le_of_ble_eq_true rfl) ⟨show k + 5 + 0 ≤ 601024 by omega, show n + 48 + 0 ≤ 7293034 by omega⟩ rfl rfl) (c_X4_thrown hl0 (mm := m2)) (k2 := k + 5) (n2 := n + 48) (Nat.le_refl _) (Nat.le_refl _) (fun t9 w9 hp9 => ?_)
    obtain ⟨ht9, rfl⟩ := hp9
    have ht9 := ht9.trans hth
    subst ht9
    refine vl_perm (pm_out (A := cw cy ad nl ns par Rl d) (o := (o, .inl (cy 4, 1, .inr (.inl f)))) (M := mw cy am m2)) ?_
    refine vl_iload C0 dL_law_895 5 rfl ?_
    refine vl_icmp_eq (tgt := 902) C0 dL_law_897 (by decide) (fun (h897 : (1 : Int32) = (1 : Int32)) => ?_) (fun (h897 : ¬ (1 : Int32) = (1 : Int32)) => absurd h897 (by decide))
    refine vl_iload C0 dL_law_902 5 rfl ?_
    refine vl_if_ne (tgt := 919) C0 dL_law_904 (by decide) (fun (h904 : ¬ (1 : Int32) = (0 : Int32)) => ?_) (fun (h904 : (1 : Int32) = (0 : Int32)) => absurd h904 (by decide))
    refine vl_goto (tgt := 1171) C0 dL_law_919 (by decide) ?_
    refine vl_lv (lv2 := [(0, .ref b), (1, .ref (ad 0 0)), (2, .ref (am 0)), (3, .ref o), (4, .int (nI i))]) [0, 1, 2, 3, 4] rfl ?_
    exact kk ad nl ns par Rl d m2 f rfl hq hok
set_option maxHeartbeats 4000000 in
set_option maxRecDepth 100000 in
theorem law_look {p : Program} {l : Launch} {e : Env} {s : State} {m : MethodId} {b : Nat} {below : List Frame} {meth : Method} {c : Code} {D : va_G} {cy : Nat → ClassId} {am : Nat → Nat} {o a0 L : Nat} {xs : Nat → Int32} {k n i : Nat} (K : lwC p l e s m b below meth c D cy L xs) (hi : i + 6 ≤ L) (hk : k + 5 ≤ 601024) (hn : n + 48 ≤ 7293034) (kk : lwL p l e s m b below meth c D cy am o a0 (k + 5) (n + 48) i 1171) : lwL p l e s m b below meth c D cy am o a0 k n i 922 := by
  obtain ⟨hl0, C0, hX, hbl, hL⟩ := K
  intro ad nl ns par Rl d mm f ha hJ hok
  subst ha
  have hbA : ¬ (fun q : Nat => s.heap.size ≤ q) b := Nat.not_le.mpr hbl
  obtain ⟨⟨e0, h8, e7, h1, h9⟩, htr, -, -, -, hcg, hrt⟩ := id hJ.1
  have hcode := hJ.1.code
  have h0a := hJ.1.ah0
  obtain ⟨hln, hwd, hfk⟩ := id hJ.2
  refine vl_aload_n C0 dL_law_922 1 rfl ?_
  refine vl_aload_n C0 dL_law_923 0 rfl ?_
  refine vl_iload C0 dL_law_924 4 rfl ?_
  refine vl_iconst (v := 1) C0 dL_law_926 (by decide) ?_
  refine vl_iadd C0 dL_law_927 ?_
  refine vl_sx C0 hX hbl hbA hL (j := i + 1) (nI_add i 1) (by omega) dL_law_928 ?_
  refine vl_aload_n C0 dL_law_929 0 rfl ?_
  refine vl_iload C0 dL_law_930 4 rfl ?_
  refine vl_iconst (v := 2) C0 dL_law_932 (by decide) ?_
  refine vl_iadd C0 dL_law_933 ?_
  refine vl_sx C0 hX hbl hbA hL (j := i + 2) (nI_add i 2) (by omega) dL_law_934 ?_
  refine vl_aload_n C0 dL_law_935 3 rfl ?_
  refine vl_xcalli C0 (vl_goSXH C0 (As := [.ref (ad 0 0), .int (xs (i + 1)), .int (xs (i + 2)), .ref o]) (na := 4) (st := []) gL_law_L_look rfl rfl rfl (by decide +kernel) ⟨Nat.le_of_ble_eq_true rfl, Nat.le_of_ble_eq_true rfl⟩ dL_law_936 (Nat.le_of_ble_eq_true rfl) ⟨show k + 2 ≤ 601024 by omega, show n + 12 ≤ 7293034 by omega⟩ rfl rfl) (c_L_look hl0 hok h1 h9 h8 hln hwd htr hcode hcg hrt (xs (i + 1)) (xs (i + 2)) (mm := mm)) (k2 := k + 5) (n2 := n + 48) (show k + 2 ≤ k + 5 by omega) (show n + 12 ≤ n + 48 by omega) (fun E9 hE9 => False.elim hE9) (fun r9 w9 hp9 => ?_)
  rcases hp9 with ⟨rfl, g1, ja, jt, d2, g2, g3, g4, rfl, g5⟩ | ⟨rfl, g1, rfl⟩
  · skip
    refine vl_istore (lv' := [(0, .ref b), (1, .ref (ad 0 0)), (2, .ref (am 0)), (3, .ref o), (4, .int (nI i)), (5, .int 0)]) C0 dL_law_939 [1, 2, 3, 4, 5, 0] (by decide) rfl ?_
    refine vl_aload_n C0 dL_law_941 2 rfl ?_
    refine vl_aload_n C0 dL_law_942 0 rfl ?_
    refine vl_iload C0 dL_law_943 4 rfl ?_
    refine vl_iconst (v := 1) C0 dL_law_945 (by decide) ?_
    refine vl_iadd C0 dL_law_946 ?_
    refine vl_sx C0 hX hbl hbA hL (j := i + 1) (nI_add i 1) (by omega) dL_law_947 ?_
    refine vl_aload_n C0 dL_law_948 0 rfl ?_
    refine vl_iload C0 dL_law_949 4 rfl ?_
    refine vl_iconst (v := 2) C0 dL_law_951 (by decide) ?_
    refine vl_iadd C0 dL_law_952 ?_
    refine vl_sx C0 hX hbl hbA hL (j := i + 2) (nI_add i 2) (by omega) dL_law_953 ?_
    refine vl_perm (pm_in (A := cw cy ad nl ns par Rl d2) (o := (o, .inl (cy 4, 1, .inr (.inl (vp_updL f (0 : Int32).toNatClampNeg ((lkV ns nl par mm (xs (i + 1)) (xs (i + 2))).toInt64)))))) (M := mw cy am mm)) ?_
    refine vl_calli C0 (vl_goV C0 (As := [.int (xs (i + 1)), .int (xs (i + 2))]) (na := 2) (b := am 0) (st := []) (ci := 4) gL_law_X4_look rfl rfl rfl (by decide +kernel) ⟨Nat.le_of_ble_eq_true rfl, Nat.le_of_ble_eq_true rfl⟩ rfl ⟨0, _, rfl⟩ dL_law_954 (Nat.le_of_ble_eq_true rfl) ⟨show k + 5 + 0 ≤ 601024 by omega, show n + 48 + 0 ≤ 7293034 by omega⟩ rfl rfl) (c_X4_look hl0 (xs (i + 1)) (xs (i + 2)) e0 h8 e7 h1 h9 htr hcode (mm := mm)) (k2 := k + 5) (n2 := n + 48) (Nat.le_refl _) (Nat.le_refl _) (fun r9 w9 hp9 => ?_)
    obtain ⟨m2, rfl, hkp, hth, hr9⟩ := hp9
    have hq := n_look hJ g1 g2 g3 g4 g5 hkp
    have hth : m2 0 17 = 0 := by rw [hth, g1]; rfl
    subst hr9
    refine vl_istore (lv' := [(0, .ref b), (1, .ref (ad 0 0)), (2, .ref (am 0)), (3, .ref o), (4, .int (nI i)), (5, .int 0), (6, .int (lkV ns nl par mm (xs (i + 1)) (xs (i + 2))))]) C0 dL_law_957 [1, 2, 3, 4, 5, 6, 0] (by decide) rfl ?_
    refine vl_aload_n C0 dL_law_959 2 rfl ?_
    refine vl_calli C0 (vl_goV C0 (As := []) (na := 0) (b := am 0) (st := []) (ci := 4) gL_law_X4_thrown rfl rfl rfl (by decide +kernel) ⟨Nat.le_of_ble_eq_true rfl, Nat.le_of_ble_eq_true rfl⟩ rfl ⟨0, _, rfl⟩ dL_law_960 (Nat.le_of_ble_eq_true rfl) ⟨show k + 5 + 0 ≤ 601024 by omega, show n + 48 + 0 ≤ 7293034 by omega⟩ rfl rfl) (c_X4_thrown hl0 (mm := m2)) (k2 := k + 5) (n2 := n + 48) (Nat.le_refl _) (Nat.le_refl _) (fun t9 w9 hp9 => ?_)
    obtain ⟨ht9, rfl⟩ := hp9
    have ht9 := ht9.trans hth
    subst ht9
    refine vl_perm (pm_out (A := cw cy ad nl ns par Rl d2) (o := (o, .inl (cy 4, 1, .inr (.inl (vp_updL f (0 : Int32).toNatClampNeg ((lkV ns nl par mm (xs (i + 1)) (xs (i + 2))).toInt64)))))) (M := mw cy am m2)) ?_
    refine vl_iload C0 dL_law_963 5 rfl ?_
    refine vl_icmp_eq (tgt := 970) C0 dL_law_965 (by decide) (fun (h965 : (0 : Int32) = (0 : Int32)) => ?_) (fun (h965 : ¬ (0 : Int32) = (0 : Int32)) => absurd h965 (by decide))
    refine vl_iload C0 dL_law_970 5 rfl ?_
    refine vl_if_ne (tgt := 987) C0 dL_law_972 (by decide) (fun (h972 : ¬ (0 : Int32) = (0 : Int32)) => absurd h972 (by decide)) (fun (h972 : (0 : Int32) = (0 : Int32)) => ?_)
    refine vl_aload_n C0 dL_law_975 3 rfl ?_
    refine vl_iconst (v := 0) C0 dL_law_976 (by decide) ?_
    refine vl_lald C0 (f := (vp_updL f (0 : Int32).toNatClampNeg ((lkV ns nl par mm (xs (i + 1)) (xs (i + 2))).toInt64))) (i := 0) ⟨_, wy_at (j := 0) rfl⟩ (vp_in_iff.mpr (by decide)) dL_law_977 ?_
    refine vl_st (st2 := [.long ((lkV ns nl par mm (xs (i + 1)) (xs (i + 2))).toInt64)]) (by rw [updL_s]) ?_
    refine vl_iload C0 dL_law_978 6 rfl ?_
    refine vl_i2l C0 dL_law_980 rfl ?_
    refine vl_lcmp C0 dL_law_981 ?_
    refine vl_if_eq (tgt := 987) C0 dL_law_982 (by decide) (fun (h982 : (lg_cmp ((lkV ns nl par mm (xs (i + 1)) (xs (i + 2))).toInt64) ((lkV ns nl par mm (xs (i + 1)) (xs (i + 2))).toInt64) : Int32) = (0 : Int32)) => ?_) (fun (h982 : ¬ (lg_cmp ((lkV ns nl par mm (xs (i + 1)) (xs (i + 2))).toInt64) ((lkV ns nl par mm (xs (i + 1)) (xs (i + 2))).toInt64) : Int32) = (0 : Int32)) => absurd (lgc0 rfl) h982)
    refine vl_goto (tgt := 1171) C0 dL_law_987 (by decide) ?_
    refine vl_lv (lv2 := [(0, .ref b), (1, .ref (ad 0 0)), (2, .ref (am 0)), (3, .ref o), (4, .int (nI i))]) [0, 1, 2, 3, 4] rfl ?_
    exact kk ad nl ns par Rl d2 m2 (vp_updL f (0 : Int32).toNatClampNeg ((lkV ns nl par mm (xs (i + 1)) (xs (i + 2))).toInt64)) rfl hq hok
  · skip
    refine vl_istore (lv' := [(0, .ref b), (1, .ref (ad 0 0)), (2, .ref (am 0)), (3, .ref o), (4, .int (nI i)), (5, .int 1)]) C0 dL_law_939 [1, 2, 3, 4, 5, 0] (by decide) rfl ?_
    refine vl_aload_n C0 dL_law_941 2 rfl ?_
    refine vl_aload_n C0 dL_law_942 0 rfl ?_
    refine vl_iload C0 dL_law_943 4 rfl ?_
    refine vl_iconst (v := 1) C0 dL_law_945 (by decide) ?_
    refine vl_iadd C0 dL_law_946 ?_
    refine vl_sx C0 hX hbl hbA hL (j := i + 1) (nI_add i 1) (by omega) dL_law_947 ?_
    refine vl_aload_n C0 dL_law_948 0 rfl ?_
    refine vl_iload C0 dL_law_949 4 rfl ?_
    refine vl_iconst (v := 2) C0 dL_law_951 (by decide) ?_
    refine vl_iadd C0 dL_law_952 ?_
    refine vl_sx C0 hX hbl hbA hL (j := i + 2) (nI_add i 2) (by omega) dL_law_953 ?_
    refine vl_perm (pm_in (A := cw cy ad nl ns par Rl d) (o := (o, .inl (cy 4, 1, .inr (.inl f)))) (M := mw cy am mm)) ?_
    refine vl_calli C0 (vl_goV C0 (As := [.int (xs (i + 1)), .int (xs (i + 2))]) (na := 2) (b := am 0) (st := []) (ci := 4) gL_law_X4_look rfl rfl rfl (by decide +kernel) ⟨Nat.le_of_ble_eq_true rfl, Nat.le_of_ble_eq_true rfl⟩ rfl ⟨0, _, rfl⟩ dL_law_954 (Nat.le_of_ble_eq_true rfl) ⟨show k + 5 + 0 ≤ 601024 by omega, show n + 48 + 0 ≤ 7293034 by omega⟩ rfl rfl) (c_X4_look hl0 (xs (i + 1)) (xs (i + 2)) e0 h8 e7 h1 h9 htr hcode (mm := mm)) (k2 := k + 5) (n2 := n + 48) (Nat.le_refl _) (Nat.le_refl _) (fun r9 w9 hp9 => ?_)
    obtain ⟨m2, rfl, hkp, hth, hr9⟩ := hp9
    rw [lkM_f g1] at hkp
    have hq := hJ.k hkp dFr.rf
    have hth : m2 0 17 = 1 := by rw [hth, g1]; rfl
    clear hr9
    refine vl_istore (lv' := [(0, .ref b), (1, .ref (ad 0 0)), (2, .ref (am 0)), (3, .ref o), (4, .int (nI i)), (5, .int 1), (6, .int r9)]) C0 dL_law_957 [1, 2, 3, 4, 5, 6, 0] (by decide) rfl ?_
    refine vl_aload_n C0 dL_law_959 2 rfl ?_
    refine vl_calli C0 (vl_goV C0 (As := []) (na := 0) (b := am 0) (st := []) (ci := 4) gL_law_X4_thrown rfl rfl rfl (by decide +kernel) ⟨Nat.le_of_ble_eq_true rfl, Nat.le_of_ble_eq_true rfl⟩ rfl ⟨0, _, rfl⟩ dL_law_960 (Nat.le_of_ble_eq_true rfl) ⟨show k + 5 + 0 ≤ 601024 by omega, show n + 48 + 0 ≤ 7293034 by omega⟩ rfl rfl) (c_X4_thrown hl0 (mm := m2)) (k2 := k + 5) (n2 := n + 48) (Nat.le_refl _) (Nat.le_refl _) (fun t9 w9 hp9 => ?_)
    obtain ⟨ht9, rfl⟩ := hp9
    have ht9 := ht9.trans hth
    subst ht9
    refine vl_perm (pm_out (A := cw cy ad nl ns par Rl d) (o := (o, .inl (cy 4, 1, .inr (.inl f)))) (M := mw cy am m2)) ?_
    refine vl_iload C0 dL_law_963 5 rfl ?_
    refine vl_icmp_eq (tgt := 970) C0 dL_law_965 (by decide) (fun (h965 : (1 : Int32) = (1 : Int32)) => ?_) (fun (h965 : ¬ (1 : Int32) = (1 : Int32)) => absurd h965 (by decide))
    refine vl_iload C0 dL_law_970 5 rfl ?_
    refine vl_if_ne (tgt := 987) C0 dL_law_972 (by decide) (fun (h972 : ¬ (1 : Int32) = (0 : Int32)) => ?_) (fun (h972 : (1 : Int32) = (0 : Int32)) => absurd h972 (by decide))
    refine vl_goto (tgt := 1171) C0 dL_law_987 (by decide) ?_
    refine vl_lv (lv2 := [(0, .ref b), (1, .ref (ad 0 0)), (2, .ref (am 0)), (3, .ref o), (4, .int (nI i))]) [0, 1, 2, 3, 4] rfl ?_
    exact kk ad nl ns par Rl d m2 f rfl hq hok
set_option maxHeartbeats 4000000 in
set_option maxRecDepth 100000 in
theorem law_seen {p : Program} {l : Launch} {e : Env} {s : State} {m : MethodId} {b : Nat} {below : List Frame} {meth : Method} {c : Code} {D : va_G} {cy : Nat → ClassId} {am : Nat → Nat} {o a0 L : Nat} {xs : Nat → Int32} {k n i : Nat} (K : lwC p l e s m b below meth c D cy L xs) (hi : i + 6 ≤ L) (hk : k + 5 ≤ 601024) (hn : n + 48 ≤ 7293034) (kk : lwL p l e s m b below meth c D cy am o a0 (k + 5) (n + 48) i 1171) : lwL p l e s m b below meth c D cy am o a0 k n i 990 := by
  obtain ⟨hl0, C0, hX, hbl, hL⟩ := K
  intro ad nl ns par Rl d mm f ha hJ hok
  subst ha
  have hbA : ¬ (fun q : Nat => s.heap.size ≤ q) b := Nat.not_le.mpr hbl
  obtain ⟨⟨e0, h8, e7, h1, h9⟩, htr, -, -, -, hcg, hrt⟩ := id hJ.1
  have hcode := hJ.1.code
  have h0a := hJ.1.ah0
  obtain ⟨hln, hwd, hfk⟩ := id hJ.2
  refine vl_aload_n C0 dL_law_990 1 rfl ?_
  refine vl_aload_n C0 dL_law_991 0 rfl ?_
  refine vl_iload C0 dL_law_992 4 rfl ?_
  refine vl_iconst (v := 1) C0 dL_law_994 (by decide) ?_
  refine vl_iadd C0 dL_law_995 ?_
  refine vl_sx C0 hX hbl hbA hL (j := i + 1) (nI_add i 1) (by omega) dL_law_996 ?_
  refine vl_aload_n C0 dL_law_997 3 rfl ?_
  refine vl_xcalli C0 (vl_goSXH C0 (As := [.ref (ad 0 0), .int (xs (i + 1)), .ref o]) (na := 3) (st := []) gL_law_L_seen rfl rfl rfl (by decide +kernel) ⟨Nat.le_of_ble_eq_true rfl, Nat.le_of_ble_eq_true rfl⟩ dL_law_998 (Nat.le_of_ble_eq_true rfl) ⟨show k + 1 ≤ 601024 by omega, show n + 6 ≤ 7293034 by omega⟩ rfl rfl) (c_L_seen hl0 hok h1 h9 hln (xs (i + 1)) (mm := mm)) (k2 := k + 5) (n2 := n + 48) (show k + 1 ≤ k + 5 by omega) (show n + 6 ≤ n + 48 by omega) (fun E9 hE9 => False.elim hE9) (fun r9 w9 hp9 => ?_)
  rcases hp9 with ⟨rfl, g1, rfl⟩ | ⟨rfl, g1, rfl⟩
  · skip
    refine vl_istore (lv' := [(0, .ref b), (1, .ref (ad 0 0)), (2, .ref (am 0)), (3, .ref o), (4, .int (nI i)), (5, .int 0)]) C0 dL_law_1001 [1, 2, 3, 4, 5, 0] (by decide) rfl ?_
    refine vl_aload_n C0 dL_law_1003 2 rfl ?_
    refine vl_aload_n C0 dL_law_1004 0 rfl ?_
    refine vl_iload C0 dL_law_1005 4 rfl ?_
    refine vl_iconst (v := 1) C0 dL_law_1007 (by decide) ?_
    refine vl_iadd C0 dL_law_1008 ?_
    refine vl_sx C0 hX hbl hbA hL (j := i + 1) (nI_add i 1) (by omega) dL_law_1009 ?_
    refine vl_perm (pm_in (A := cw cy ad nl ns par Rl d) (o := (o, .inl (cy 4, 1, .inr (.inl (vp_updL f (0 : Int32).toNatClampNeg ((mm 10 (xs (i + 1)).toNatClampNeg).toInt64)))))) (M := mw cy am mm)) ?_
    refine vl_calli C0 (vl_goV C0 (As := [.int (xs (i + 1))]) (na := 1) (b := am 0) (st := []) (ci := 4) gL_law_X4_seen rfl rfl rfl (by decide +kernel) ⟨Nat.le_of_ble_eq_true rfl, Nat.le_of_ble_eq_true rfl⟩ rfl ⟨0, _, rfl⟩ dL_law_1010 (Nat.le_of_ble_eq_true rfl) ⟨show k + 5 + 0 ≤ 601024 by omega, show n + 48 + 0 ≤ 7293034 by omega⟩ rfl rfl) (c_X4_seen hl0 (xs (i + 1)) e7 h1 h9 (mm := mm)) (k2 := k + 5) (n2 := n + 48) (Nat.le_refl _) (Nat.le_refl _) (fun r9 w9 hp9 => ?_)
    obtain ⟨hr9, rfl⟩ := hp9
    have hq := n_seen hJ g1
    have hr9 := hr9.trans hq.2.1
    subst hr9
    refine vl_istore (lv' := [(0, .ref b), (1, .ref (ad 0 0)), (2, .ref (am 0)), (3, .ref o), (4, .int (nI i)), (5, .int 0), (6, .int (mm 10 (xs (i + 1)).toNatClampNeg))]) C0 dL_law_1013 [1, 2, 3, 4, 5, 6, 0] (by decide) rfl ?_
    refine vl_aload_n C0 dL_law_1015 2 rfl ?_
    refine vl_calli C0 (vl_goV C0 (As := []) (na := 0) (b := am 0) (st := []) (ci := 4) gL_law_X4_thrown rfl rfl rfl (by decide +kernel) ⟨Nat.le_of_ble_eq_true rfl, Nat.le_of_ble_eq_true rfl⟩ rfl ⟨0, _, rfl⟩ dL_law_1016 (Nat.le_of_ble_eq_true rfl) ⟨show k + 5 + 0 ≤ 601024 by omega, show n + 48 + 0 ≤ 7293034 by omega⟩ rfl rfl) (c_X4_thrown hl0 (mm := (sp_seen nl mm (xs (i + 1))).2)) (k2 := k + 5) (n2 := n + 48) (Nat.le_refl _) (Nat.le_refl _) (fun t9 w9 hp9 => ?_)
    obtain ⟨ht9, rfl⟩ := hp9
    have ht9 := ht9.trans hq.2.2
    subst ht9
    refine vl_perm (pm_out (A := cw cy ad nl ns par Rl d) (o := (o, .inl (cy 4, 1, .inr (.inl (vp_updL f (0 : Int32).toNatClampNeg ((mm 10 (xs (i + 1)).toNatClampNeg).toInt64)))))) (M := mw cy am (sp_seen nl mm (xs (i + 1))).2)) ?_
    refine vl_iload C0 dL_law_1019 5 rfl ?_
    refine vl_icmp_eq (tgt := 1026) C0 dL_law_1021 (by decide) (fun (h1021 : (0 : Int32) = (0 : Int32)) => ?_) (fun (h1021 : ¬ (0 : Int32) = (0 : Int32)) => absurd h1021 (by decide))
    refine vl_iload C0 dL_law_1026 5 rfl ?_
    refine vl_if_ne (tgt := 1043) C0 dL_law_1028 (by decide) (fun (h1028 : ¬ (0 : Int32) = (0 : Int32)) => absurd h1028 (by decide)) (fun (h1028 : (0 : Int32) = (0 : Int32)) => ?_)
    refine vl_aload_n C0 dL_law_1031 3 rfl ?_
    refine vl_iconst (v := 0) C0 dL_law_1032 (by decide) ?_
    refine vl_lald C0 (f := (vp_updL f (0 : Int32).toNatClampNeg ((mm 10 (xs (i + 1)).toNatClampNeg).toInt64))) (i := 0) ⟨_, wy_at (j := 0) rfl⟩ (vp_in_iff.mpr (by decide)) dL_law_1033 ?_
    refine vl_st (st2 := [.long ((mm 10 (xs (i + 1)).toNatClampNeg).toInt64)]) (by rw [updL_s]) ?_
    refine vl_iload C0 dL_law_1034 6 rfl ?_
    refine vl_i2l C0 dL_law_1036 rfl ?_
    refine vl_lcmp C0 dL_law_1037 ?_
    refine vl_if_eq (tgt := 1043) C0 dL_law_1038 (by decide) (fun (h1038 : (lg_cmp ((mm 10 (xs (i + 1)).toNatClampNeg).toInt64) ((mm 10 (xs (i + 1)).toNatClampNeg).toInt64) : Int32) = (0 : Int32)) => ?_) (fun (h1038 : ¬ (lg_cmp ((mm 10 (xs (i + 1)).toNatClampNeg).toInt64) ((mm 10 (xs (i + 1)).toNatClampNeg).toInt64) : Int32) = (0 : Int32)) => absurd (lgc0 rfl) h1038)
    refine vl_goto (tgt := 1171) C0 dL_law_1043 (by decide) ?_
    refine vl_lv (lv2 := [(0, .ref b), (1, .ref (ad 0 0)), (2, .ref (am 0)), (3, .ref o), (4, .int (nI i))]) [0, 1, 2, 3, 4] rfl ?_
    exact kk ad nl ns par Rl d (sp_seen nl mm (xs (i + 1))).2 (vp_updL f (0 : Int32).toNatClampNeg ((mm 10 (xs (i + 1)).toNatClampNeg).toInt64)) rfl hq.1 hok
  · skip
    refine vl_istore (lv' := [(0, .ref b), (1, .ref (ad 0 0)), (2, .ref (am 0)), (3, .ref o), (4, .int (nI i)), (5, .int 1)]) C0 dL_law_1001 [1, 2, 3, 4, 5, 0] (by decide) rfl ?_
    refine vl_aload_n C0 dL_law_1003 2 rfl ?_
    refine vl_aload_n C0 dL_law_1004 0 rfl ?_
    refine vl_iload C0 dL_law_1005 4 rfl ?_
    refine vl_iconst (v := 1) C0 dL_law_1007 (by decide) ?_
    refine vl_iadd C0 dL_law_1008 ?_
    refine vl_sx C0 hX hbl hbA hL (j := i + 1) (nI_add i 1) (by omega) dL_law_1009 ?_
    refine vl_perm (pm_in (A := cw cy ad nl ns par Rl d) (o := (o, .inl (cy 4, 1, .inr (.inl f)))) (M := mw cy am mm)) ?_
    refine vl_calli C0 (vl_goV C0 (As := [.int (xs (i + 1))]) (na := 1) (b := am 0) (st := []) (ci := 4) gL_law_X4_seen rfl rfl rfl (by decide +kernel) ⟨Nat.le_of_ble_eq_true rfl, Nat.le_of_ble_eq_true rfl⟩ rfl ⟨0, _, rfl⟩ dL_law_1010 (Nat.le_of_ble_eq_true rfl) ⟨show k + 5 + 0 ≤ 601024 by omega, show n + 48 + 0 ≤ 7293034 by omega⟩ rfl rfl) (c_X4_seen hl0 (xs (i + 1)) e7 h1 h9 (mm := mm)) (k2 := k + 5) (n2 := n + 48) (Nat.le_refl _) (Nat.le_refl _) (fun r9 w9 hp9 => ?_)
    obtain ⟨hr9, rfl⟩ := hp9
    have hq : JJ ns nl par (sp_seen nl mm (xs (i + 1))).2 d ∧ (sp_seen nl mm (xs (i + 1))).2 0 17 = 1 := hJ.t (e_seen_1 g1)
    clear hr9
    refine vl_istore (lv' := [(0, .ref b), (1, .ref (ad 0 0)), (2, .ref (am 0)), (3, .ref o), (4, .int (nI i)), (5, .int 1), (6, .int r9)]) C0 dL_law_1013 [1, 2, 3, 4, 5, 6, 0] (by decide) rfl ?_
    refine vl_aload_n C0 dL_law_1015 2 rfl ?_
    refine vl_calli C0 (vl_goV C0 (As := []) (na := 0) (b := am 0) (st := []) (ci := 4) gL_law_X4_thrown rfl rfl rfl (by decide +kernel) ⟨Nat.le_of_ble_eq_true rfl, Nat.le_of_ble_eq_true rfl⟩ rfl ⟨0, _, rfl⟩ dL_law_1016 (Nat.le_of_ble_eq_true rfl) ⟨show k + 5 + 0 ≤ 601024 by omega, show n + 48 + 0 ≤ 7293034 by omega⟩ rfl rfl) (c_X4_thrown hl0 (mm := (sp_seen nl mm (xs (i + 1))).2)) (k2 := k + 5) (n2 := n + 48) (Nat.le_refl _) (Nat.le_refl _) (fun t9 w9 hp9 => ?_)
    obtain ⟨ht9, rfl⟩ := hp9
    have ht9 := ht9.trans hq.2
    subst ht9
    refine vl_perm (pm_out (A := cw cy ad nl ns par Rl d) (o := (o, .inl (cy 4, 1, .inr (.inl f)))) (M := mw cy am (sp_seen nl mm (xs (i + 1))).2)) ?_
    refine vl_iload C0 dL_law_1019 5 rfl ?_
    refine vl_icmp_eq (tgt := 1026) C0 dL_law_1021 (by decide) (fun (h1021 : (1 : Int32) = (1 : Int32)) => ?_) (fun (h1021 : ¬ (1 : Int32) = (1 : Int32)) => absurd h1021 (by decide))
    refine vl_iload C0 dL_law_1026 5 rfl ?_
    refine vl_if_ne (tgt := 1043) C0 dL_law_1028 (by decide) (fun (h1028 : ¬ (1 : Int32) = (0 : Int32)) => ?_) (fun (h1028 : (1 : Int32) = (0 : Int32)) => absurd h1028 (by decide))
    refine vl_goto (tgt := 1171) C0 dL_law_1043 (by decide) ?_
    refine vl_lv (lv2 := [(0, .ref b), (1, .ref (ad 0 0)), (2, .ref (am 0)), (3, .ref o), (4, .int (nI i))]) [0, 1, 2, 3, 4] rfl ?_
    exact kk ad nl ns par Rl d (sp_seen nl mm (xs (i + 1))).2 f rfl hq.1 hok
set_option maxHeartbeats 4000000 in
set_option maxRecDepth 100000 in
theorem law_ahead {p : Program} {l : Launch} {e : Env} {s : State} {m : MethodId} {b : Nat} {below : List Frame} {meth : Method} {c : Code} {D : va_G} {cy : Nat → ClassId} {am : Nat → Nat} {o a0 L : Nat} {xs : Nat → Int32} {k n i : Nat} (K : lwC p l e s m b below meth c D cy L xs) (hi : i + 6 ≤ L) (hk : k + 5 ≤ 601024) (hn : n + 48 ≤ 7293034) (kk : lwL p l e s m b below meth c D cy am o a0 (k + 5) (n + 48) i 1171) : lwL p l e s m b below meth c D cy am o a0 k n i 1046 := by
  obtain ⟨hl0, C0, hX, hbl, hL⟩ := K
  intro ad nl ns par Rl d mm f ha hJ hok
  subst ha
  have hbA : ¬ (fun q : Nat => s.heap.size ≤ q) b := Nat.not_le.mpr hbl
  obtain ⟨⟨e0, h8, e7, h1, h9⟩, htr, -, -, -, hcg, hrt⟩ := id hJ.1
  have hcode := hJ.1.code
  have h0a := hJ.1.ah0
  obtain ⟨hln, hwd, hfk⟩ := id hJ.2
  refine vl_aload_n C0 dL_law_1046 1 rfl ?_
  refine vl_aload_n C0 dL_law_1047 0 rfl ?_
  refine vl_iload C0 dL_law_1048 4 rfl ?_
  refine vl_iconst (v := 1) C0 dL_law_1050 (by decide) ?_
  refine vl_iadd C0 dL_law_1051 ?_
  refine vl_sx C0 hX hbl hbA hL (j := i + 1) (nI_add i 1) (by omega) dL_law_1052 ?_
  refine vl_aload_n C0 dL_law_1053 3 rfl ?_
  refine vl_xcalli C0 (vl_goSXH C0 (As := [.ref (ad 0 0), .int (xs (i + 1)), .ref o]) (na := 3) (st := []) gL_law_L_ahead rfl rfl rfl (by decide +kernel) ⟨Nat.le_of_ble_eq_true rfl, Nat.le_of_ble_eq_true rfl⟩ dL_law_1054 (Nat.le_of_ble_eq_true rfl) ⟨show k + 1 ≤ 601024 by omega, show n + 6 ≤ 7293034 by omega⟩ rfl rfl) (c_L_ahead hl0 hok h1 h9 hln (xs (i + 1)) (mm := mm)) (k2 := k + 5) (n2 := n + 48) (show k + 1 ≤ k + 5 by omega) (show n + 6 ≤ n + 48 by omega) (fun E9 hE9 => False.elim hE9) (fun r9 w9 hp9 => ?_)
  rcases hp9 with ⟨rfl, g1, rfl⟩ | ⟨rfl, g1, rfl⟩
  · skip
    refine vl_istore (lv' := [(0, .ref b), (1, .ref (ad 0 0)), (2, .ref (am 0)), (3, .ref o), (4, .int (nI i)), (5, .int 0)]) C0 dL_law_1057 [1, 2, 3, 4, 5, 0] (by decide) rfl ?_
    refine vl_aload_n C0 dL_law_1059 2 rfl ?_
    refine vl_aload_n C0 dL_law_1060 0 rfl ?_
    refine vl_iload C0 dL_law_1061 4 rfl ?_
    refine vl_iconst (v := 1) C0 dL_law_1063 (by decide) ?_
    refine vl_iadd C0 dL_law_1064 ?_
    refine vl_sx C0 hX hbl hbA hL (j := i + 1) (nI_add i 1) (by omega) dL_law_1065 ?_
    refine vl_perm (pm_in (A := cw cy ad nl ns par Rl d) (o := (o, .inl (cy 4, 1, .inr (.inl (vp_updL f (0 : Int32).toNatClampNeg ((aheadI mm (xs (i + 1)).toNatClampNeg).toInt64)))))) (M := mw cy am mm)) ?_
    refine vl_calli C0 (vl_goV C0 (As := [.int (xs (i + 1))]) (na := 1) (b := am 0) (st := []) (ci := 4) gL_law_X4_ahead rfl rfl rfl (by decide +kernel) ⟨Nat.le_of_ble_eq_true rfl, Nat.le_of_ble_eq_true rfl⟩ rfl ⟨0, _, rfl⟩ dL_law_1066 (Nat.le_of_ble_eq_true rfl) ⟨show k + 5 + 0 ≤ 601024 by omega, show n + 48 + 0 ≤ 7293034 by omega⟩ rfl rfl) (c_X4_ahead hl0 (xs (i + 1)) e7 h1 h9 (mm := mm)) (k2 := k + 5) (n2 := n + 48) (Nat.le_refl _) (Nat.le_refl _) (fun r9 w9 hp9 => ?_)
    obtain ⟨hr9, rfl⟩ := hp9
    have hq := n_ahead hJ g1
    have hr9 := hr9.trans hq.2.1
    subst hr9
    refine vl_istore (lv' := [(0, .ref b), (1, .ref (ad 0 0)), (2, .ref (am 0)), (3, .ref o), (4, .int (nI i)), (5, .int 0), (6, .int (aheadI mm (xs (i + 1)).toNatClampNeg))]) C0 dL_law_1069 [1, 2, 3, 4, 5, 6, 0] (by decide) rfl ?_
    refine vl_aload_n C0 dL_law_1071 2 rfl ?_
    refine vl_calli C0 (vl_goV C0 (As := []) (na := 0) (b := am 0) (st := []) (ci := 4) gL_law_X4_thrown rfl rfl rfl (by decide +kernel) ⟨Nat.le_of_ble_eq_true rfl, Nat.le_of_ble_eq_true rfl⟩ rfl ⟨0, _, rfl⟩ dL_law_1072 (Nat.le_of_ble_eq_true rfl) ⟨show k + 5 + 0 ≤ 601024 by omega, show n + 48 + 0 ≤ 7293034 by omega⟩ rfl rfl) (c_X4_thrown hl0 (mm := (sp_ahead nl mm (xs (i + 1))).2)) (k2 := k + 5) (n2 := n + 48) (Nat.le_refl _) (Nat.le_refl _) (fun t9 w9 hp9 => ?_)
    obtain ⟨ht9, rfl⟩ := hp9
    have ht9 := ht9.trans hq.2.2
    subst ht9
    refine vl_perm (pm_out (A := cw cy ad nl ns par Rl d) (o := (o, .inl (cy 4, 1, .inr (.inl (vp_updL f (0 : Int32).toNatClampNeg ((aheadI mm (xs (i + 1)).toNatClampNeg).toInt64)))))) (M := mw cy am (sp_ahead nl mm (xs (i + 1))).2)) ?_
    refine vl_iload C0 dL_law_1075 5 rfl ?_
    refine vl_icmp_eq (tgt := 1082) C0 dL_law_1077 (by decide) (fun (h1077 : (0 : Int32) = (0 : Int32)) => ?_) (fun (h1077 : ¬ (0 : Int32) = (0 : Int32)) => absurd h1077 (by decide))
    refine vl_iload C0 dL_law_1082 5 rfl ?_
    refine vl_if_ne (tgt := 1099) C0 dL_law_1084 (by decide) (fun (h1084 : ¬ (0 : Int32) = (0 : Int32)) => absurd h1084 (by decide)) (fun (h1084 : (0 : Int32) = (0 : Int32)) => ?_)
    refine vl_aload_n C0 dL_law_1087 3 rfl ?_
    refine vl_iconst (v := 0) C0 dL_law_1088 (by decide) ?_
    refine vl_lald C0 (f := (vp_updL f (0 : Int32).toNatClampNeg ((aheadI mm (xs (i + 1)).toNatClampNeg).toInt64))) (i := 0) ⟨_, wy_at (j := 0) rfl⟩ (vp_in_iff.mpr (by decide)) dL_law_1089 ?_
    refine vl_st (st2 := [.long ((aheadI mm (xs (i + 1)).toNatClampNeg).toInt64)]) (by rw [updL_s]) ?_
    refine vl_iload C0 dL_law_1090 6 rfl ?_
    refine vl_i2l C0 dL_law_1092 rfl ?_
    refine vl_lcmp C0 dL_law_1093 ?_
    refine vl_if_eq (tgt := 1099) C0 dL_law_1094 (by decide) (fun (h1094 : (lg_cmp ((aheadI mm (xs (i + 1)).toNatClampNeg).toInt64) ((aheadI mm (xs (i + 1)).toNatClampNeg).toInt64) : Int32) = (0 : Int32)) => ?_) (fun (h1094 : ¬ (lg_cmp ((aheadI mm (xs (i + 1)).toNatClampNeg).toInt64) ((aheadI mm (xs (i + 1)).toNatClampNeg).toInt64) : Int32) = (0 : Int32)) => absurd (lgc0 rfl) h1094)
    refine vl_goto (tgt := 1171) C0 dL_law_1099 (by decide) ?_
    refine vl_lv (lv2 := [(0, .ref b), (1, .ref (ad 0 0)), (2, .ref (am 0)), (3, .ref o), (4, .int (nI i))]) [0, 1, 2, 3, 4] rfl ?_
    exact kk ad nl ns par Rl d (sp_ahead nl mm (xs (i + 1))).2 (vp_updL f (0 : Int32).toNatClampNeg ((aheadI mm (xs (i + 1)).toNatClampNeg).toInt64)) rfl hq.1 hok
  · skip
    refine vl_istore (lv' := [(0, .ref b), (1, .ref (ad 0 0)), (2, .ref (am 0)), (3, .ref o), (4, .int (nI i)), (5, .int 1)]) C0 dL_law_1057 [1, 2, 3, 4, 5, 0] (by decide) rfl ?_
    refine vl_aload_n C0 dL_law_1059 2 rfl ?_
    refine vl_aload_n C0 dL_law_1060 0 rfl ?_
    refine vl_iload C0 dL_law_1061 4 rfl ?_
    refine vl_iconst (v := 1) C0 dL_law_1063 (by decide) ?_
    refine vl_iadd C0 dL_law_1064 ?_
    refine vl_sx C0 hX hbl hbA hL (j := i + 1) (nI_add i 1) (by omega) dL_law_1065 ?_
    refine vl_perm (pm_in (A := cw cy ad nl ns par Rl d) (o := (o, .inl (cy 4, 1, .inr (.inl f)))) (M := mw cy am mm)) ?_
    refine vl_calli C0 (vl_goV C0 (As := [.int (xs (i + 1))]) (na := 1) (b := am 0) (st := []) (ci := 4) gL_law_X4_ahead rfl rfl rfl (by decide +kernel) ⟨Nat.le_of_ble_eq_true rfl, Nat.le_of_ble_eq_true rfl⟩ rfl ⟨0, _, rfl⟩ dL_law_1066 (Nat.le_of_ble_eq_true rfl) ⟨show k + 5 + 0 ≤ 601024 by omega, show n + 48 + 0 ≤ 7293034 by omega⟩ rfl rfl) (c_X4_ahead hl0 (xs (i + 1)) e7 h1 h9 (mm := mm)) (k2 := k + 5) (n2 := n + 48) (Nat.le_refl _) (Nat.le_refl _) (fun r9 w9 hp9 => ?_)
    obtain ⟨hr9, rfl⟩ := hp9
    have hq : JJ ns nl par (sp_ahead nl mm (xs (i + 1))).2 d ∧ (sp_ahead nl mm (xs (i + 1))).2 0 17 = 1 := hJ.t (e_ahead_1 g1)
    clear hr9
    refine vl_istore (lv' := [(0, .ref b), (1, .ref (ad 0 0)), (2, .ref (am 0)), (3, .ref o), (4, .int (nI i)), (5, .int 1), (6, .int r9)]) C0 dL_law_1069 [1, 2, 3, 4, 5, 6, 0] (by decide) rfl ?_
    refine vl_aload_n C0 dL_law_1071 2 rfl ?_
    refine vl_calli C0 (vl_goV C0 (As := []) (na := 0) (b := am 0) (st := []) (ci := 4) gL_law_X4_thrown rfl rfl rfl (by decide +kernel) ⟨Nat.le_of_ble_eq_true rfl, Nat.le_of_ble_eq_true rfl⟩ rfl ⟨0, _, rfl⟩ dL_law_1072 (Nat.le_of_ble_eq_true rfl) ⟨show k + 5 + 0 ≤ 601024 by omega, show n + 48 + 0 ≤ 7293034 by omega⟩ rfl rfl) (c_X4_thrown hl0 (mm := (sp_ahead nl mm (xs (i + 1))).2)) (k2 := k + 5) (n2 := n + 48) (Nat.le_refl _) (Nat.le_refl _) (fun t9 w9 hp9 => ?_)
    obtain ⟨ht9, rfl⟩ := hp9
    have ht9 := ht9.trans hq.2
    subst ht9
    refine vl_perm (pm_out (A := cw cy ad nl ns par Rl d) (o := (o, .inl (cy 4, 1, .inr (.inl f)))) (M := mw cy am (sp_ahead nl mm (xs (i + 1))).2)) ?_
    refine vl_iload C0 dL_law_1075 5 rfl ?_
    refine vl_icmp_eq (tgt := 1082) C0 dL_law_1077 (by decide) (fun (h1077 : (1 : Int32) = (1 : Int32)) => ?_) (fun (h1077 : ¬ (1 : Int32) = (1 : Int32)) => absurd h1077 (by decide))
    refine vl_iload C0 dL_law_1082 5 rfl ?_
    refine vl_if_ne (tgt := 1099) C0 dL_law_1084 (by decide) (fun (h1084 : ¬ (1 : Int32) = (0 : Int32)) => ?_) (fun (h1084 : (1 : Int32) = (0 : Int32)) => absurd h1084 (by decide))
    refine vl_goto (tgt := 1171) C0 dL_law_1099 (by decide) ?_
    refine vl_lv (lv2 := [(0, .ref b), (1, .ref (ad 0 0)), (2, .ref (am 0)), (3, .ref o), (4, .int (nI i))]) [0, 1, 2, 3, 4] rfl ?_
    exact kk ad nl ns par Rl d (sp_ahead nl mm (xs (i + 1))).2 f rfl hq.1 hok
set_option maxHeartbeats 4000000 in
set_option maxRecDepth 100000 in
theorem law_mark {p : Program} {l : Launch} {e : Env} {s : State} {m : MethodId} {b : Nat} {below : List Frame} {meth : Method} {c : Code} {D : va_G} {cy : Nat → ClassId} {am : Nat → Nat} {o a0 L : Nat} {xs : Nat → Int32} {k n i : Nat} (K : lwC p l e s m b below meth c D cy L xs) (hi : i + 6 ≤ L) (hk : k + 5 ≤ 601024) (hn : n + 48 ≤ 7293034) (kk : lwL p l e s m b below meth c D cy am o a0 (k + 5) (n + 48) i 1171) : lwL p l e s m b below meth c D cy am o a0 k n i 1102 := by
  obtain ⟨hl0, C0, hX, hbl, hL⟩ := K
  intro ad nl ns par Rl d mm f ha hJ hok
  subst ha
  have hbA : ¬ (fun q : Nat => s.heap.size ≤ q) b := Nat.not_le.mpr hbl
  obtain ⟨⟨e0, h8, e7, h1, h9⟩, htr, -, -, -, hcg, hrt⟩ := id hJ.1
  have hcode := hJ.1.code
  have h0a := hJ.1.ah0
  obtain ⟨hln, hwd, hfk⟩ := id hJ.2
  refine vl_aload_n C0 dL_law_1102 1 rfl ?_
  refine vl_aload_n C0 dL_law_1103 0 rfl ?_
  refine vl_iload C0 dL_law_1104 4 rfl ?_
  refine vl_iconst (v := 1) C0 dL_law_1106 (by decide) ?_
  refine vl_iadd C0 dL_law_1107 ?_
  refine vl_sx C0 hX hbl hbA hL (j := i + 1) (nI_add i 1) (by omega) dL_law_1108 ?_
  refine vl_aload_n C0 dL_law_1109 3 rfl ?_
  refine vl_xcalli C0 (vl_goSXH C0 (As := [.ref (ad 0 0), .int (xs (i + 1)), .ref o]) (na := 3) (st := []) gL_law_L_mark rfl rfl rfl (by decide +kernel) ⟨Nat.le_of_ble_eq_true rfl, Nat.le_of_ble_eq_true rfl⟩ dL_law_1110 (Nat.le_of_ble_eq_true rfl) ⟨show k + 1 ≤ 601024 by omega, show n + 6 ≤ 7293034 by omega⟩ rfl rfl) (c_L_mark hl0 hok h1 h9 h8 hln hwd htr hcode hcg hrt h0a (xs (i + 1)) (mm := mm)) (k2 := k + 5) (n2 := n + 48) (show k + 1 ≤ k + 5 by omega) (show n + 6 ≤ n + 48 by omega) (fun E9 hE9 => False.elim hE9) (fun r9 w9 hp9 => ?_)
  rcases hp9 with ⟨rfl, g1, d2, rfl, g2⟩ | ⟨rfl, g1, rfl⟩
  · skip
    refine vl_istore (lv' := [(0, .ref b), (1, .ref (ad 0 0)), (2, .ref (am 0)), (3, .ref o), (4, .int (nI i)), (5, .int 0)]) C0 dL_law_1113 [1, 2, 3, 4, 5, 0] (by decide) rfl ?_
    refine vl_aload_n C0 dL_law_1115 2 rfl ?_
    refine vl_aload_n C0 dL_law_1116 0 rfl ?_
    refine vl_iload C0 dL_law_1117 4 rfl ?_
    refine vl_iconst (v := 1) C0 dL_law_1119 (by decide) ?_
    refine vl_iadd C0 dL_law_1120 ?_
    refine vl_sx C0 hX hbl hbA hL (j := i + 1) (nI_add i 1) (by omega) dL_law_1121 ?_
    refine vl_perm (pm_in (A := cw cy ad nl ns par Rl d2) (o := (o, .inl (cy 4, 1, .inr (.inl (vp_updL f (0 : Int32).toNatClampNeg ((maV ns nl par mm (xs (i + 1))).toInt64)))))) (M := mw cy am mm)) ?_
    refine vl_calli C0 (vl_goV C0 (As := [.int (xs (i + 1))]) (na := 1) (b := am 0) (st := []) (ci := 4) gL_law_X4_mark rfl rfl rfl (by decide +kernel) ⟨Nat.le_of_ble_eq_true rfl, Nat.le_of_ble_eq_true rfl⟩ rfl ⟨0, _, rfl⟩ dL_law_1122 (Nat.le_of_ble_eq_true rfl) ⟨show k + 5 + 0 ≤ 601024 by omega, show n + 48 + 0 ≤ 7293034 by omega⟩ rfl rfl) (c_X4_mark hl0 (xs (i + 1)) e0 h8 e7 h1 h9 htr hcode (mm := mm)) (k2 := k + 5) (n2 := n + 48) (Nat.le_refl _) (Nat.le_refl _) (fun r9 w9 hp9 => ?_)
    obtain ⟨m2, rfl, hkp, hth, hr9⟩ := hp9
    have hq := hJ.k hkp g2
    have hth : m2 0 17 = 0 := by rw [hth, g1]; rfl
    subst hr9
    refine vl_istore (lv' := [(0, .ref b), (1, .ref (ad 0 0)), (2, .ref (am 0)), (3, .ref o), (4, .int (nI i)), (5, .int 0), (6, .int (maV ns nl par mm (xs (i + 1))))]) C0 dL_law_1125 [1, 2, 3, 4, 5, 6, 0] (by decide) rfl ?_
    refine vl_aload_n C0 dL_law_1127 2 rfl ?_
    refine vl_calli C0 (vl_goV C0 (As := []) (na := 0) (b := am 0) (st := []) (ci := 4) gL_law_X4_thrown rfl rfl rfl (by decide +kernel) ⟨Nat.le_of_ble_eq_true rfl, Nat.le_of_ble_eq_true rfl⟩ rfl ⟨0, _, rfl⟩ dL_law_1128 (Nat.le_of_ble_eq_true rfl) ⟨show k + 5 + 0 ≤ 601024 by omega, show n + 48 + 0 ≤ 7293034 by omega⟩ rfl rfl) (c_X4_thrown hl0 (mm := m2)) (k2 := k + 5) (n2 := n + 48) (Nat.le_refl _) (Nat.le_refl _) (fun t9 w9 hp9 => ?_)
    obtain ⟨ht9, rfl⟩ := hp9
    have ht9 := ht9.trans hth
    subst ht9
    refine vl_perm (pm_out (A := cw cy ad nl ns par Rl d2) (o := (o, .inl (cy 4, 1, .inr (.inl (vp_updL f (0 : Int32).toNatClampNeg ((maV ns nl par mm (xs (i + 1))).toInt64)))))) (M := mw cy am m2)) ?_
    refine vl_iload C0 dL_law_1131 5 rfl ?_
    refine vl_icmp_eq (tgt := 1138) C0 dL_law_1133 (by decide) (fun (h1133 : (0 : Int32) = (0 : Int32)) => ?_) (fun (h1133 : ¬ (0 : Int32) = (0 : Int32)) => absurd h1133 (by decide))
    refine vl_iload C0 dL_law_1138 5 rfl ?_
    refine vl_if_ne (tgt := 1155) C0 dL_law_1140 (by decide) (fun (h1140 : ¬ (0 : Int32) = (0 : Int32)) => absurd h1140 (by decide)) (fun (h1140 : (0 : Int32) = (0 : Int32)) => ?_)
    refine vl_aload_n C0 dL_law_1143 3 rfl ?_
    refine vl_iconst (v := 0) C0 dL_law_1144 (by decide) ?_
    refine vl_lald C0 (f := (vp_updL f (0 : Int32).toNatClampNeg ((maV ns nl par mm (xs (i + 1))).toInt64))) (i := 0) ⟨_, wy_at (j := 0) rfl⟩ (vp_in_iff.mpr (by decide)) dL_law_1145 ?_
    refine vl_st (st2 := [.long ((maV ns nl par mm (xs (i + 1))).toInt64)]) (by rw [updL_s]) ?_
    refine vl_iload C0 dL_law_1146 6 rfl ?_
    refine vl_i2l C0 dL_law_1148 rfl ?_
    refine vl_lcmp C0 dL_law_1149 ?_
    refine vl_if_eq (tgt := 1155) C0 dL_law_1150 (by decide) (fun (h1150 : (lg_cmp ((maV ns nl par mm (xs (i + 1))).toInt64) ((maV ns nl par mm (xs (i + 1))).toInt64) : Int32) = (0 : Int32)) => ?_) (fun (h1150 : ¬ (lg_cmp ((maV ns nl par mm (xs (i + 1))).toInt64) ((maV ns nl par mm (xs (i + 1))).toInt64) : Int32) = (0 : Int32)) => absurd (lgc0 rfl) h1150)
    refine vl_goto (tgt := 1171) C0 dL_law_1155 (by decide) ?_
    refine vl_lv (lv2 := [(0, .ref b), (1, .ref (ad 0 0)), (2, .ref (am 0)), (3, .ref o), (4, .int (nI i))]) [0, 1, 2, 3, 4] rfl ?_
    exact kk ad nl ns par Rl d2 m2 (vp_updL f (0 : Int32).toNatClampNeg ((maV ns nl par mm (xs (i + 1))).toInt64)) rfl hq hok
  · skip
    refine vl_istore (lv' := [(0, .ref b), (1, .ref (ad 0 0)), (2, .ref (am 0)), (3, .ref o), (4, .int (nI i)), (5, .int 1)]) C0 dL_law_1113 [1, 2, 3, 4, 5, 0] (by decide) rfl ?_
    refine vl_aload_n C0 dL_law_1115 2 rfl ?_
    refine vl_aload_n C0 dL_law_1116 0 rfl ?_
    refine vl_iload C0 dL_law_1117 4 rfl ?_
    refine vl_iconst (v := 1) C0 dL_law_1119 (by decide) ?_
    refine vl_iadd C0 dL_law_1120 ?_
    refine vl_sx C0 hX hbl hbA hL (j := i + 1) (nI_add i 1) (by omega) dL_law_1121 ?_
    refine vl_perm (pm_in (A := cw cy ad nl ns par Rl d) (o := (o, .inl (cy 4, 1, .inr (.inl f)))) (M := mw cy am mm)) ?_
    refine vl_calli C0 (vl_goV C0 (As := [.int (xs (i + 1))]) (na := 1) (b := am 0) (st := []) (ci := 4) gL_law_X4_mark rfl rfl rfl (by decide +kernel) ⟨Nat.le_of_ble_eq_true rfl, Nat.le_of_ble_eq_true rfl⟩ rfl ⟨0, _, rfl⟩ dL_law_1122 (Nat.le_of_ble_eq_true rfl) ⟨show k + 5 + 0 ≤ 601024 by omega, show n + 48 + 0 ≤ 7293034 by omega⟩ rfl rfl) (c_X4_mark hl0 (xs (i + 1)) e0 h8 e7 h1 h9 htr hcode (mm := mm)) (k2 := k + 5) (n2 := n + 48) (Nat.le_refl _) (Nat.le_refl _) (fun r9 w9 hp9 => ?_)
    obtain ⟨m2, rfl, hkp, hth, hr9⟩ := hp9
    have hq := hJ.k hkp dFr.rf
    have hth : m2 0 17 = 1 := by rw [hth, g1]; rfl
    clear hr9
    refine vl_istore (lv' := [(0, .ref b), (1, .ref (ad 0 0)), (2, .ref (am 0)), (3, .ref o), (4, .int (nI i)), (5, .int 1), (6, .int r9)]) C0 dL_law_1125 [1, 2, 3, 4, 5, 6, 0] (by decide) rfl ?_
    refine vl_aload_n C0 dL_law_1127 2 rfl ?_
    refine vl_calli C0 (vl_goV C0 (As := []) (na := 0) (b := am 0) (st := []) (ci := 4) gL_law_X4_thrown rfl rfl rfl (by decide +kernel) ⟨Nat.le_of_ble_eq_true rfl, Nat.le_of_ble_eq_true rfl⟩ rfl ⟨0, _, rfl⟩ dL_law_1128 (Nat.le_of_ble_eq_true rfl) ⟨show k + 5 + 0 ≤ 601024 by omega, show n + 48 + 0 ≤ 7293034 by omega⟩ rfl rfl) (c_X4_thrown hl0 (mm := m2)) (k2 := k + 5) (n2 := n + 48) (Nat.le_refl _) (Nat.le_refl _) (fun t9 w9 hp9 => ?_)
    obtain ⟨ht9, rfl⟩ := hp9
    have ht9 := ht9.trans hth
    subst ht9
    refine vl_perm (pm_out (A := cw cy ad nl ns par Rl d) (o := (o, .inl (cy 4, 1, .inr (.inl f)))) (M := mw cy am m2)) ?_
    refine vl_iload C0 dL_law_1131 5 rfl ?_
    refine vl_icmp_eq (tgt := 1138) C0 dL_law_1133 (by decide) (fun (h1133 : (1 : Int32) = (1 : Int32)) => ?_) (fun (h1133 : ¬ (1 : Int32) = (1 : Int32)) => absurd h1133 (by decide))
    refine vl_iload C0 dL_law_1138 5 rfl ?_
    refine vl_if_ne (tgt := 1155) C0 dL_law_1140 (by decide) (fun (h1140 : ¬ (1 : Int32) = (0 : Int32)) => ?_) (fun (h1140 : (1 : Int32) = (0 : Int32)) => absurd h1140 (by decide))
    refine vl_goto (tgt := 1171) C0 dL_law_1155 (by decide) ?_
    refine vl_lv (lv2 := [(0, .ref b), (1, .ref (ad 0 0)), (2, .ref (am 0)), (3, .ref o), (4, .int (nI i))]) [0, 1, 2, 3, 4] rfl ?_
    exact kk ad nl ns par Rl d m2 f rfl hq hok
set_option maxHeartbeats 4000000 in
set_option maxRecDepth 100000 in
theorem law_best {p : Program} {l : Launch} {e : Env} {s : State} {m : MethodId} {b : Nat} {below : List Frame} {meth : Method} {c : Code} {D : va_G} {cy : Nat → ClassId} {am : Nat → Nat} {o a0 L : Nat} {xs : Nat → Int32} {k n i : Nat} (K : lwC p l e s m b below meth c D cy L xs) (hi : i + 6 ≤ L) (hk : k + 5 ≤ 601024) (hn : n + 48 ≤ 7293034) (kk : lwL p l e s m b below meth c D cy am o a0 (k + 5) (n + 48) i 1171) : lwL p l e s m b below meth c D cy am o a0 k n i 1158 := by
  obtain ⟨hl0, C0, hX, hbl, hL⟩ := K
  intro ad nl ns par Rl d mm f ha hJ hok
  subst ha
  have hbA : ¬ (fun q : Nat => s.heap.size ≤ q) b := Nat.not_le.mpr hbl
  obtain ⟨⟨e0, h8, e7, h1, h9⟩, htr, -, -, -, hcg, hrt⟩ := id hJ.1
  have hcode := hJ.1.code
  have h0a := hJ.1.ah0
  obtain ⟨hln, hwd, hfk⟩ := id hJ.2
  refine vl_aload_n C0 dL_law_1158 1 rfl ?_
  refine vl_calli C0 (vl_goV C0 (As := []) (na := 0) (b := ad 0 0) (st := []) (ci := 3) gL_law_X3_best rfl rfl rfl (by decide +kernel) ⟨Nat.le_of_ble_eq_true rfl, Nat.le_of_ble_eq_true rfl⟩ rfl (rc_rec (cR0 hok) rfl) dL_law_1159 (Nat.le_of_ble_eq_true rfl) ⟨show k + 0 ≤ 601024 by omega, show n + 0 ≤ 7293034 by omega⟩ rfl rfl) (c_X3_best hl0 hok h1 h9 h8 hln hwd htr hcode hcg hrt h0a (mm := mm)) (k2 := k + 5) (n2 := n + 48) (show k + 0 ≤ k + 5 by omega) (show n + 0 ≤ n + 48 by omega) (fun r9 w9 hp9 => ?_)
  obtain ⟨rfl, d2, rfl, g2⟩ := hp9
  refine vl_aload_n C0 dL_law_1162 2 rfl ?_
  refine vl_perm (pm_in (A := cw cy ad nl ns par Rl d2) (o := (o, .inl (cy 4, 1, .inr (.inl f)))) (M := mw cy am mm)) ?_
  refine vl_calli C0 (vl_goV C0 (As := []) (na := 0) (b := am 0) (st := [.int ((bstF (mkV ns par mm) (nl - 1)).1)]) (ci := 4) gL_law_X4_best rfl rfl rfl (by decide +kernel) ⟨Nat.le_of_ble_eq_true rfl, Nat.le_of_ble_eq_true rfl⟩ rfl ⟨0, _, rfl⟩ dL_law_1163 (Nat.le_of_ble_eq_true rfl) ⟨show k + 5 + 0 ≤ 601024 by omega, show n + 48 + 0 ≤ 7293034 by omega⟩ rfl rfl) (c_X4_best hl0 e0 h8 e7 h1 h9 htr hcode (mm := mm)) (k2 := k + 5) (n2 := n + 48) (Nat.le_refl _) (Nat.le_refl _) (fun r9 w9 hp9 => ?_)
  obtain ⟨m2, rfl, hkp, rfl⟩ := hp9
  have hq := hJ.k hkp g2
  refine vl_perm (pm_out (A := cw cy ad nl ns par Rl d2) (o := (o, .inl (cy 4, 1, .inr (.inl f)))) (M := mw cy am m2)) ?_
  refine vl_icmp_eq (tgt := 1171) C0 dL_law_1166 (by decide) (fun (h1166 : ((bstF (mkV ns par mm) (nl - 1)).1 : Int32) = ((bstF (mkV ns par mm) (nl - 1)).1 : Int32)) => ?_) (fun (h1166 : ¬ ((bstF (mkV ns par mm) (nl - 1)).1 : Int32) = ((bstF (mkV ns par mm) (nl - 1)).1 : Int32)) => absurd (rfl) h1166)
  refine vl_lv (lv2 := [(0, .ref b), (1, .ref (ad 0 0)), (2, .ref (am 0)), (3, .ref o), (4, .int (nI i))]) [0, 1, 2, 3, 4] rfl ?_
  exact kk ad nl ns par Rl d2 m2 f rfl hq hok
