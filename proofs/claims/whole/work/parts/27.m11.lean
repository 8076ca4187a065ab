section VM11
theorem mKp.lk {m : Nat → Nat → Int32} (c : Int32) (j : Nat) (v : Int32) : mKp (up2 m 10 j v) (up2 (up2 m 0 17 c) 10 j v) := by
  refine ⟨fun a h0 _ _ => ?_, fun i _ _ h => ?_⟩
  · by_cases h : a = 10
    · subst h; simp [up2]
    · simp [up2, h, h0]
  · simp [up2, upd, h]
theorem plyM_10 {n : Nat} {par : Nat → Option Nat} {m : Nat → Nat → Int32} (i : Nat) (v : Int32) (j T : Nat) : plyM n par (up2 m 10 i v) j T = plyM n par m j T := rfl
set_option maxHeartbeats 4000000 in
set_option maxRecDepth 100000 in
theorem c_X4_look {l : Launch} {D : va_G} {cy : Nat → ClassId} {ad : Nat → Nat} {mm : Nat → Nat → Int32} {X : va_W} {ns nl : Nat} {par : Nat → Option Nat} (hl0 : l.stackTraces = false) (a t : Int32) (e0 : mm 0 0 = nI ns) (h8 : ns ≤ 8) (e7 : mm 0 7 = nI nl) (h1 : 1 ≤ nl) (h9 : nl ≤ 9) (ht : mTree nl par mm) (hcode : ∀ j t, j < nl → t < 30 → codeOK ns (ordX (mm 11) par t (some j))) : vl_Ki l D cy yX4_look wsX4_look { frames := 3, cells := 0, slots := 0, locals := 76 } 0 0 (mw cy ad mm ++ X) [.ref (ad 0), .int a, .int t] (fun r w' => ∃ m', w' = mw cy ad m' ++ X ∧ mKp (lkM nl mm a t) m' ∧ m' 0 17 = bI (!(inB a 0 (nI nl - 1) && inB t 0 29)) ∧ r = lkV ns nl par mm a t) := by
  refine vl_openi hl0 (by decide) rfl (Nat.le_of_ble_eq_true rfl) rfl ?_
  intro p e s m args below meth c C0 hr hnm
  generalize hA : va_A (mw cy ad mm ++ X) s.heap.size = A at C0 ⊢
  refine vl_lv (lv2 := [(0, .ref (ad 0)), (1, .int a), (2, .int t)]) [0, 1, 2] rfl ?_
  have hin : ∀ x ∈ u_ws RX4 TX4 18, x ∈ wsX4_look := by decide +kernel
  refine vl_aload_n C0 dX4_look_0 0 rfl ?_
  refine vl_aload_n C0 dX4_look_1 0 rfl ?_
  refine vl_iload_n C0 dX4_look_2 1 rfl ?_
  refine vl_calli C0 (vl_goV C0 (As := [.int a]) (na := 1) (b := ad 0) (st := [.ref (ad 0)]) (ci := 4) gX4_look_X4_isLine rfl rfl rfl (by decide +kernel) ⟨Nat.le_of_ble_eq_true rfl, Nat.le_of_ble_eq_true rfl⟩ rfl ⟨0, _, rfl⟩ dX4_look_3 (Nat.le_of_ble_eq_true rfl) ⟨Nat.le_of_ble_eq_true rfl, Nat.le_of_ble_eq_true rfl⟩ rfl rfl) (c_X4_isLine hl0 a) (k2 := 0) (n2 := 0) (Nat.le_of_ble_eq_true rfl) (Nat.le_of_ble_eq_true rfl) (fun r9 w9 hp9 => ?_)
  obtain ⟨rfl, rfl⟩ := hp9
  rw [e7]
  refine vl_if_eq (tgt := 20) C0 dX4_look_6 (by decide) (fun (h6 : (bI (inB a 0 (nI nl - 1)) : Int32) = (0 : Int32)) => ?_) (fun (h6 : ¬ (bI (inB a 0 (nI nl - 1)) : Int32) = (0 : Int32)) => ?_)
  · have g6 := bI_0.mp h6
    refine vl_iconst (v := 1) C0 dX4_look_20 (by decide) ?_
    refine vl_calli C0 (vl_goV C0 (As := [.int 1]) (na := 1) (b := ad 0) (st := []) (ci := 4) gX4_look_X4_fails rfl rfl rfl (by decide +kernel) ⟨Nat.le_of_ble_eq_true rfl, Nat.le_of_ble_eq_true rfl⟩ rfl ⟨0, _, rfl⟩ dX4_look_21 (Nat.le_of_ble_eq_true rfl) ⟨Nat.le_of_ble_eq_true rfl, Nat.le_of_ble_eq_true rfl⟩ rfl rfl) (c_X4_fails hl0 1) (k2 := 0) (n2 := 0) (Nat.le_of_ble_eq_true rfl) (Nat.le_of_ble_eq_true rfl) (fun r9 w9 hp9 => ?_)
    obtain ⟨hr9, rfl⟩ := hp9
    have hr9 : r9 = 1 := hr9.trans (by decide)
    subst hr9
    refine vl_if_eq (tgt := 29) C0 dX4_look_24 (by decide) (fun (h24 : (1 : Int32) = (0 : Int32)) => absurd h24 (by decide)) (fun (h24 : ¬ (1 : Int32) = (0 : Int32)) => ?_)
    refine vl_iconst (v := 0) C0 dX4_look_27 (by decide) ?_
    exact vl_iret C0 hA.symm hr ⟨_, rfl, by simp [lkM, g6]; exact mKp.t _, by simp [up2_same, g6]; rfl, by simp [lkV, g6]⟩ (Nat.le_of_ble_eq_true rfl) (Nat.le_of_ble_eq_true rfl) dX4_look_28
  · have g6 := bI_n.mp h6
    refine vl_iload_n C0 dX4_look_9 2 rfl ?_
    refine vl_calli C0 (vl_goS C0 (As := [.int t]) (na := 1) (st := [.ref (ad 0)]) gX4_look_X4_isTurn rfl rfl rfl (by decide +kernel) ⟨Nat.le_of_ble_eq_true rfl, Nat.le_of_ble_eq_true rfl⟩ dX4_look_10 (Nat.le_of_ble_eq_true rfl) ⟨Nat.le_of_ble_eq_true rfl, Nat.le_of_ble_eq_true rfl⟩ rfl rfl) (c_X4_isTurn hl0 t) (k2 := 0) (n2 := 0) (Nat.le_of_ble_eq_true rfl) (Nat.le_of_ble_eq_true rfl) (fun r9 w9 hp9 => ?_)
    obtain ⟨rfl, rfl⟩ := hp9
    refine vl_if_eq (tgt := 20) C0 dX4_look_13 (by decide) (fun (h13 : (bI (inB t 0 29) : Int32) = (0 : Int32)) => ?_) (fun (h13 : ¬ (bI (inB t 0 29) : Int32) = (0 : Int32)) => ?_)
    · have g13 := bI_0.mp h13
      refine vl_iconst (v := 1) C0 dX4_look_20 (by decide) ?_
      refine vl_calli C0 (vl_goV C0 (As := [.int 1]) (na := 1) (b := ad 0) (st := []) (ci := 4) gX4_look_X4_fails rfl rfl rfl (by decide +kernel) ⟨Nat.le_of_ble_eq_true rfl, Nat.le_of_ble_eq_true rfl⟩ rfl ⟨0, _, rfl⟩ dX4_look_21 (Nat.le_of_ble_eq_true rfl) ⟨Nat.le_of_ble_eq_true rfl, Nat.le_of_ble_eq_true rfl⟩ rfl rfl) (c_X4_fails hl0 1) (k2 := 0) (n2 := 0) (Nat.le_of_ble_eq_true rfl) (Nat.le_of_ble_eq_true rfl) (fun r9 w9 hp9 => ?_)
      obtain ⟨hr9, rfl⟩ := hp9
      have hr9 : r9 = 1 := hr9.trans (by decide)
      subst hr9
      refine vl_if_eq (tgt := 29) C0 dX4_look_24 (by decide) (fun (h24 : (1 : Int32) = (0 : Int32)) => absurd h24 (by decide)) (fun (h24 : ¬ (1 : Int32) = (0 : Int32)) => ?_)
      refine vl_iconst (v := 0) C0 dX4_look_27 (by decide) ?_
      exact vl_iret C0 hA.symm hr ⟨_, rfl, by simp [lkM, g6, g13]; exact mKp.t _, by simp [up2_same, g6, g13]; rfl, by simp [lkV, g6, g13]⟩ (Nat.le_of_ble_eq_true rfl) (Nat.le_of_ble_eq_true rfl) dX4_look_28
    · have g13 := bI_n.mp h13
      obtain ⟨ja, hja, rfl⟩ := inB_nI h1 (by omega) g6
      obtain ⟨jt, hjt, rfl⟩ := inB_k g13 (by decide) (n := 30) (by decide)
      refine vl_iconst (v := 0) C0 dX4_look_16 (by decide) ?_
      refine vl_goto (tgt := 21) C0 dX4_look_17 (by decide) ?_
      refine vl_calli C0 (vl_goV C0 (As := [.int 0]) (na := 1) (b := ad 0) (st := []) (ci := 4) gX4_look_X4_fails rfl rfl rfl (by decide +kernel) ⟨Nat.le_of_ble_eq_true rfl, Nat.le_of_ble_eq_true rfl⟩ rfl ⟨0, _, rfl⟩ dX4_look_21 (Nat.le_of_ble_eq_true rfl) ⟨Nat.le_of_ble_eq_true rfl, Nat.le_of_ble_eq_true rfl⟩ rfl rfl) (c_X4_fails hl0 0) (k2 := 0) (n2 := 0) (Nat.le_of_ble_eq_true rfl) (Nat.le_of_ble_eq_true rfl) (fun r9 w9 hp9 => ?_)
      obtain ⟨hr9, rfl⟩ := hp9
      have hr9 : r9 = 0 := hr9.trans (by decide)
      subst hr9
      refine vl_if_eq (tgt := 29) C0 dX4_look_24 (by decide) (fun (h24 : (0 : Int32) = (0 : Int32)) => ?_) (fun (h24 : ¬ (0 : Int32) = (0 : Int32)) => absurd h24 (by decide))
      refine vl_aload_n C0 dX4_look_29 0 rfl ?_
      refine rm_get C0 hin 10 (by decide) (by decide +kernel) rfl dX4_look_30 ?_
      refine vl_iload_n C0 dX4_look_33 1 rfl ?_
      refine vl_iload_n C0 dX4_look_34 2 rfl ?_
      refine vl_aload_n C0 dX4_look_35 0 rfl ?_
      refine rm_get C0 hin 10 (by decide) (by decide +kernel) rfl dX4_look_36 ?_
      refine vl_iload_n C0 dX4_look_39 1 rfl ?_
      refine rm_iald C0 10 7 9 rfl (vp_in_nI (show ja < 9 by omega) (by decide)) (kn := ja) (nI_clamp (by omega)) (v := mm 10 ja) (rfl) dX4_look_40 ?_
      refine vl_icmp_le (tgt := 48) C0 dX4_look_41 (by decide) (fun (h41 : (nI jt : Int32) ≤ (mm 10 ja : Int32)) => ?_) (fun (h41 : ¬ (nI jt : Int32) ≤ (mm 10 ja : Int32)) => ?_)
      · refine vl_aload_n C0 dX4_look_48 0 rfl ?_
        refine rm_get C0 hin 10 (by decide) (by decide +kernel) rfl dX4_look_49 ?_
        refine vl_iload_n C0 dX4_look_52 1 rfl ?_
        refine rm_iald C0 10 7 9 rfl (vp_in_nI (show ja < 9 by omega) (by decide)) (kn := ja) (nI_clamp (by omega)) (v := mm 10 ja) (rfl) dX4_look_53 ?_
        refine rm_iast C0 10 7 9 rfl (mw_st10 _ _) (vp_in_nI (show ja < 9 by omega) (by decide)) (kn := ja) (nI_clamp (by omega)) dX4_look_54 ?_
        refine vl_aload_n C0 dX4_look_55 0 rfl ?_
        refine vl_iload_n C0 dX4_look_56 1 rfl ?_
        refine vl_iload_n C0 dX4_look_57 2 rfl ?_
        refine vl_callv C0 (vl_goV C0 (As := [.int (nI ja), .int (nI jt)]) (na := 2) (b := ad 0) (st := []) (ci := 4) gX4_look_X4_plays rfl rfl rfl (by decide +kernel) ⟨Nat.le_of_ble_eq_true rfl, Nat.le_of_ble_eq_true rfl⟩ rfl ⟨0, _, rfl⟩ dX4_look_58 (Nat.le_of_ble_eq_true rfl) ⟨Nat.le_of_ble_eq_true rfl, Nat.le_of_ble_eq_true rfl⟩ rfl rfl) (c_X4_plays hl0 ja jt (ns := ns) (nl := nl) (par := par) e0 h8 ht h9 (hja) (hjt) (fun t9 h9t => hcode ja t9 hja h9t)) (k2 := 0) (n2 := 0) (Nat.le_of_ble_eq_true rfl) (Nat.le_of_ble_eq_true rfl) (fun w9 hp9 => ?_)
        obtain ⟨m1, rfl, hf1, hq1⟩ := hp9
        refine vl_aload_n C0 dX4_look_61 0 rfl ?_
        refine rm_get C0 hin 15 (by decide) (by decide +kernel) (v := .int ((plyM ns par mm ja (jt + 1)).2.2.1)) (congrArg (fun z => some (Value.int z)) hq1.2.2.1) dX4_look_62 ?_
        exact vl_iret C0 hA.symm hr ⟨_, rfl, by rw [lkM, if_neg (by rw [g6, g13]; decide), nI_clamp (show ja < 2 ^ 31 by omega), if_neg (Int32.not_lt.mpr h41)]; exact (mKp.lk 0 ja _).tr hf1.kp, (hf1.2 17 (by decide) (by decide)).trans (by rw [g6, g13]; rfl), by rw [lkV, if_neg (by rw [g6, g13]; decide), nI_clamp (show ja < 2 ^ 31 by omega), nI_clamp (show jt < 2 ^ 31 by omega)]⟩ (Nat.le_of_ble_eq_true rfl) (Nat.le_of_ble_eq_true rfl) dX4_look_65
      · refine vl_iload_n C0 dX4_look_44 2 rfl ?_
        refine vl_goto (tgt := 54) C0 dX4_look_45 (by decide) ?_
        refine rm_iast C0 10 7 9 rfl (mw_st10 _ _) (vp_in_nI (show ja < 9 by omega) (by decide)) (kn := ja) (nI_clamp (by omega)) dX4_look_54 ?_
        refine vl_aload_n C0 dX4_look_55 0 rfl ?_
        refine vl_iload_n C0 dX4_look_56 1 rfl ?_
        refine vl_iload_n C0 dX4_look_57 2 rfl ?_
        refine vl_callv C0 (vl_goV C0 (As := [.int (nI ja), .int (nI jt)]) (na := 2) (b := ad 0) (st := []) (ci := 4) gX4_look_X4_plays rfl rfl rfl (by decide +kernel) ⟨Nat.le_of_ble_eq_true rfl, Nat.le_of_ble_eq_true rfl⟩ rfl ⟨0, _, rfl⟩ dX4_look_58 (Nat.le_of_ble_eq_true rfl) ⟨Nat.le_of_ble_eq_true rfl, Nat.le_of_ble_eq_true rfl⟩ rfl rfl) (c_X4_plays hl0 ja jt (ns := ns) (nl := nl) (par := par) e0 h8 ht h9 (hja) (hjt) (fun t9 h9t => hcode ja t9 hja h9t)) (k2 := 0) (n2 := 0) (Nat.le_of_ble_eq_true rfl) (Nat.le_of_ble_eq_true rfl) (fun w9 hp9 => ?_)
        obtain ⟨m1, rfl, hf1, hq1⟩ := hp9
        refine vl_aload_n C0 dX4_look_61 0 rfl ?_
        refine rm_get C0 hin 15 (by decide) (by decide +kernel) (v := .int ((plyM ns par mm ja (jt + 1)).2.2.1)) (congrArg (fun z => some (Value.int z)) hq1.2.2.1) dX4_look_62 ?_
        exact vl_iret C0 hA.symm hr ⟨_, rfl, by rw [lkM, if_neg (by rw [g6, g13]; decide), nI_clamp (show ja < 2 ^ 31 by omega), if_pos (Int32.not_le.mp h41)]; exact (mKp.lk 0 ja _).tr hf1.kp, (hf1.2 17 (by decide) (by decide)).trans (by rw [g6, g13]; rfl), by rw [lkV, if_neg (by rw [g6, g13]; decide), nI_clamp (show ja < 2 ^ 31 by omega), nI_clamp (show jt < 2 ^ 31 by omega)]⟩ (Nat.le_of_ble_eq_true rfl) (Nat.le_of_ble_eq_true rfl) dX4_look_65
set_option maxHeartbeats 4000000 in
set_option maxRecDepth 100000 in
theorem c_X4_markOf {l : Launch} {D : va_G} {cy : Nat → ClassId} {ad : Nat → Nat} {mm : Nat → Nat → Int32} {X : va_W} {ns nl : Nat} {par : Nat → Option Nat} (hl0 : l.stackTraces = false) (j : Nat) (e0 : mm 0 0 = nI ns) (h8 : ns ≤ 8) (e7 : mm 0 7 = nI nl) (h1 : 1 ≤ nl) (h9 : nl ≤ 9) (ht : mTree nl par mm) (hcode : ∀ j t, j < nl → t < 30 → codeOK ns (ordX (mm 11) par t (some j))) (hj : j < nl) : vl_Ki l D cy yX4_markOf wsX4_markOf { frames := 3, cells := 0, slots := 0, locals := 76 } 0 0 (mw cy ad mm ++ X) [.ref (ad 0), .int (nI j)] (fun r w' => ∃ m', w' = mw cy ad m' ++ X ∧ mFr mm m' ∧ r = mkV ns par mm j) := by
  refine vl_openi hl0 (by decide) rfl (Nat.le_of_ble_eq_true rfl) rfl ?_
  intro p e s m args below meth c C0 hr hnm
  generalize hA : va_A (mw cy ad mm ++ X) s.heap.size = A at C0 ⊢
  refine vl_lv (lv2 := [(0, .ref (ad 0)), (1, .int (nI j))]) [0, 1] rfl ?_
  have hin : ∀ x ∈ u_ws RX4 TX4 18, x ∈ wsX4_markOf := by decide +kernel
  refine vl_iload_n C0 dX4_markOf_0 1 rfl ?_
  refine vl_if_ne (tgt := 7) C0 dX4_markOf_1 (by decide) (fun (h1z : ¬ (nI j : Int32) = (0 : Int32)) => ?_) (fun (h1z : (nI j : Int32) = (0 : Int32)) => ?_)
  · have hj0 : ¬ j = 0 := fun q => h1z (by rw [q]; rfl)
    refine vl_aload_n C0 dX4_markOf_7 0 rfl ?_
    refine vl_iconst (v := 0) C0 dX4_markOf_8 (by decide) ?_
    refine vl_bipush (v := 29) C0 dX4_markOf_9 (by decide) ?_
    refine vl_callv C0 (vl_goV C0 (As := [.int 0, .int 29]) (na := 2) (b := ad 0) (st := []) (ci := 4) gX4_markOf_X4_plays rfl rfl rfl (by decide +kernel) ⟨Nat.le_of_ble_eq_true rfl, Nat.le_of_ble_eq_true rfl⟩ rfl ⟨0, _, rfl⟩ dX4_markOf_11 (Nat.le_of_ble_eq_true rfl) ⟨Nat.le_of_ble_eq_true rfl, Nat.le_of_ble_eq_true rfl⟩ rfl rfl) (c_X4_plays hl0 0 29 (ns := ns) (nl := nl) (par := par) e0 h8 ht h9 (h1) (by decide) (fun t9 h9t => hcode 0 t9 h1 h9t)) (k2 := 0) (n2 := 0) (Nat.le_of_ble_eq_true rfl) (Nat.le_of_ble_eq_true rfl) (fun w9 hp9 => ?_)
    obtain ⟨m1, rfl, hf1, hq1⟩ := hp9
    have e01 : m1 0 0 = nI ns := (hf1.2 0 (by decide) (by decide)).trans e0
    have ht1 := mTree_f ht hf1
    have hcode1 : ∀ t, t < 30 → codeOK ns (ordX (m1 11) par t (some j)) := fun t ht9 => by rw [hf1.1 11 (by decide) (by decide) (by decide)]; exact hcode j t hj ht9
    refine vl_aload_n C0 dX4_markOf_14 0 rfl ?_
    refine rm_get C0 hin 15 (by decide) (by decide +kernel) (v := .int ((plyM ns par mm 0 30).2.2.1)) (congrArg (fun z => some (Value.int z)) hq1.2.2.1) dX4_markOf_15 ?_
    refine vl_istore_n (lv' := [(0, .ref (ad 0)), (1, .int (nI j)), (2, .int ((plyM ns par mm 0 30).2.2.1))]) C0 dX4_markOf_18 [1, 2, 0] (by decide) rfl ?_
    refine vl_aload_n C0 dX4_markOf_19 0 rfl ?_
    refine vl_iload_n C0 dX4_markOf_20 1 rfl ?_
    refine vl_bipush (v := 29) C0 dX4_markOf_21 (by decide) ?_
    refine vl_callv C0 (vl_goV C0 (As := [.int (nI j), .int 29]) (na := 2) (b := ad 0) (st := []) (ci := 4) gX4_markOf_X4_plays rfl rfl rfl (by decide +kernel) ⟨Nat.le_of_ble_eq_true rfl, Nat.le_of_ble_eq_true rfl⟩ rfl ⟨0, _, rfl⟩ dX4_markOf_23 (Nat.le_of_ble_eq_true rfl) ⟨Nat.le_of_ble_eq_true rfl, Nat.le_of_ble_eq_true rfl⟩ rfl rfl) (c_X4_plays hl0 j 29 (ns := ns) (nl := nl) (par := par) e01 h8 ht1 h9 (hj) (by decide) (hcode1)) (k2 := 0) (n2 := 0) (Nat.le_of_ble_eq_true rfl) (Nat.le_of_ble_eq_true rfl) (fun w9 hp9 => ?_)
    obtain ⟨m2, rfl, hf2, hq2⟩ := hp9
    have hq2e : m2 0 15 = (plyM ns par mm j 30).2.2.1 := by rw [← plyM_k hf1.kp]; exact hq2.2.2.1
    have hf2b := hf1.tr hf2
    refine vl_bipush (v := 50) C0 dX4_markOf_26 (by decide) ?_
    refine vl_aload_n C0 dX4_markOf_28 0 rfl ?_
    refine rm_get C0 hin 15 (by decide) (by decide +kernel) (v := .int ((plyM ns par mm j 30).2.2.1)) (congrArg (fun z => some (Value.int z)) hq2e) dX4_markOf_29 ?_
    refine vl_iadd C0 dX4_markOf_32 ?_
    refine vl_iload_n C0 dX4_markOf_33 2 rfl ?_
    refine vl_isub C0 dX4_markOf_34 ?_
    refine vl_istore_n (lv' := [(0, .ref (ad 0)), (1, .int (nI j)), (2, .int ((plyM ns par mm 0 30).2.2.1)), (3, .int (((50) + ((plyM ns par mm j 30).2.2.1)) - ((plyM ns par mm 0 30).2.2.1)))]) C0 dX4_markOf_35 [1, 2, 3, 0] (by decide) rfl ?_
    refine vl_aload_n C0 dX4_markOf_36 0 rfl ?_
    refine vl_iload_n C0 dX4_markOf_37 1 rfl ?_
    refine vl_calli C0 (vl_goV C0 (As := [.int (nI j)]) (na := 1) (b := ad 0) (st := []) (ci := 4) gX4_markOf_X4_aheadOf rfl rfl rfl (by decide +kernel) ⟨Nat.le_of_ble_eq_true rfl, Nat.le_of_ble_eq_true rfl⟩ rfl ⟨0, _, rfl⟩ dX4_markOf_38 (Nat.le_of_ble_eq_true rfl) ⟨Nat.le_of_ble_eq_true rfl, Nat.le_of_ble_eq_true rfl⟩ rfl rfl) (c_X4_aheadOf hl0 j (by omega)) (k2 := 0) (n2 := 0) (Nat.le_of_ble_eq_true rfl) (Nat.le_of_ble_eq_true rfl) (fun r9 w9 hp9 => ?_)
    obtain ⟨rfl, rfl⟩ := hp9
    rw [aheadI_k hf2b.kp]
    refine vl_if_ne (tgt := 48) C0 dX4_markOf_41 (by decide) (fun (h41 : ¬ (aheadI mm j : Int32) = (0 : Int32)) => ?_) (fun (h41 : (aheadI mm j : Int32) = (0 : Int32)) => ?_)
    · refine vl_iconst (v := 0) C0 dX4_markOf_48 (by decide) ?_
      refine vl_goto (tgt := 64) C0 dX4_markOf_49 (by decide) ?_
      exact vl_iret C0 hA.symm hr ⟨m2, rfl, hf2b, by simp [mkV, hj0, ← Int32.not_le, h1, h41]⟩ (Nat.le_of_ble_eq_true rfl) (Nat.le_of_ble_eq_true rfl) dX4_markOf_64
    · refine vl_iload_n C0 dX4_markOf_44 3 rfl ?_
      refine vl_if_ge (tgt := 52) C0 dX4_markOf_45 (by decide) (fun (h45 : (0 : Int32) ≤ (((50) + ((plyM ns par mm j 30).2.2.1)) - ((plyM ns par mm 0 30).2.2.1) : Int32)) => ?_) (fun (h45 : ¬ (0 : Int32) ≤ (((50) + ((plyM ns par mm j 30).2.2.1)) - ((plyM ns par mm 0 30).2.2.1) : Int32)) => ?_)
      · refine vl_iload_n C0 dX4_markOf_52 3 rfl ?_
        refine vl_bipush (v := 100) C0 dX4_markOf_53 (by decide) ?_
        refine vl_icmp_le (tgt := 63) C0 dX4_markOf_55 (by decide) (fun (h55 : (((50) + ((plyM ns par mm j 30).2.2.1)) - ((plyM ns par mm 0 30).2.2.1) : Int32) ≤ (100 : Int32)) => ?_) (fun (h55 : ¬ (((50) + ((plyM ns par mm j 30).2.2.1)) - ((plyM ns par mm 0 30).2.2.1) : Int32) ≤ (100 : Int32)) => ?_)
        · refine vl_iload_n C0 dX4_markOf_63 3 rfl ?_
          exact vl_iret C0 hA.symm hr ⟨m2, rfl, hf2b, by simp [mkV, hj0, ← Int32.not_le, h1, h41, h45, h55]⟩ (Nat.le_of_ble_eq_true rfl) (Nat.le_of_ble_eq_true rfl) dX4_markOf_64
        · refine vl_bipush (v := 100) C0 dX4_markOf_58 (by decide) ?_
          refine vl_goto (tgt := 64) C0 dX4_markOf_60 (by decide) ?_
          exact vl_iret C0 hA.symm hr ⟨m2, rfl, hf2b, by simp [mkV, hj0, ← Int32.not_le, h1, h41, h45, h55]⟩ (Nat.le_of_ble_eq_true rfl) (Nat.le_of_ble_eq_true rfl) dX4_markOf_64
      · refine vl_iconst (v := 0) C0 dX4_markOf_48 (by decide) ?_
        refine vl_goto (tgt := 64) C0 dX4_markOf_49 (by decide) ?_
        exact vl_iret C0 hA.symm hr ⟨m2, rfl, hf2b, by simp [mkV, hj0, ← Int32.not_le, h1, h41, h45]⟩ (Nat.le_of_ble_eq_true rfl) (Nat.le_of_ble_eq_true rfl) dX4_markOf_64
  · have hj0 : j = 0 := (nI_eq (by omega) (by decide)).mp h1z
    refine vl_bipush (v := 50) C0 dX4_markOf_4 (by decide) ?_
    exact vl_iret C0 hA.symm hr ⟨_, rfl, mFr.rf, by rw [mkV, if_pos hj0]⟩ (Nat.le_of_ble_eq_true rfl) (Nat.le_of_ble_eq_true rfl) dX4_markOf_6
set_option maxHeartbeats 4000000 in
set_option maxRecDepth 100000 in
theorem c_X4_mark {l : Launch} {D : va_G} {cy : Nat → ClassId} {ad : Nat → Nat} {mm : Nat → Nat → Int32} {X : va_W} {ns nl : Nat} {par : Nat → Option Nat} (hl0 : l.stackTraces = false) (a : Int32) (e0 : mm 0 0 = nI ns) (h8 : ns ≤ 8) (e7 : mm 0 7 = nI nl) (h1 : 1 ≤ nl) (h9 : nl ≤ 9) (ht : mTree nl par mm) (hcode : ∀ j t, j < nl → t < 30 → codeOK ns (ordX (mm 11) par t (some j))) : vl_Ki l D cy yX4_mark wsX4_mark { frames := 4, cells := 0, slots := 0, locals := 99 } 0 0 (mw cy ad mm ++ X) [.ref (ad 0), .int a] (fun r w' => ∃ m', w' = mw cy ad m' ++ X ∧ mKp mm m' ∧ m' 0 17 = bI (!inB a 0 (nI nl - 1)) ∧ r = maV ns nl par mm a) := by
  refine vl_openi hl0 (by decide) rfl (Nat.le_of_ble_eq_true rfl) rfl ?_
  intro p e s m args below meth c C0 hr hnm
  generalize hA : va_A (mw cy ad mm ++ X) s.heap.size = A at C0 ⊢
  refine vl_lv (lv2 := [(0, .ref (ad 0)), (1, .int a)]) [0, 1] rfl ?_
  have hin : ∀ x ∈ u_ws RX4 TX4 18, x ∈ wsX4_mark := by decide +kernel
  refine vl_aload_n C0 dX4_mark_0 0 rfl ?_
  refine vl_aload_n C0 dX4_mark_1 0 rfl ?_
  refine vl_iload_n C0 dX4_mark_2 1 rfl ?_
  refine vl_calli C0 (vl_goV C0 (As := [.int a]) (na := 1) (b := ad 0) (st := [.ref (ad 0)]) (ci := 4) gX4_mark_X4_isLine rfl rfl rfl (by decide +kernel) ⟨Nat.le_of_ble_eq_true rfl, Nat.le_of_ble_eq_true rfl⟩ rfl ⟨0, _, rfl⟩ dX4_mark_3 (Nat.le_of_ble_eq_true rfl) ⟨Nat.le_of_ble_eq_true rfl, Nat.le_of_ble_eq_true rfl⟩ rfl rfl) (c_X4_isLine hl0 a) (k2 := 0) (n2 := 0) (Nat.le_of_ble_eq_true rfl) (Nat.le_of_ble_eq_true rfl) (fun r9 w9 hp9 => ?_)
  obtain ⟨rfl, rfl⟩ := hp9
  rw [e7]
  refine vl_if_eq (tgt := 13) C0 dX4_mark_6 (by decide) (fun (h6 : (bI (inB a 0 (nI nl - 1)) : Int32) = (0 : Int32)) => ?_) (fun (h6 : ¬ (bI (inB a 0 (nI nl - 1)) : Int32) = (0 : Int32)) => ?_)
  · have g6 := bI_0.mp h6
    refine vl_iconst (v := 1) C0 dX4_mark_13 (by decide) ?_
    refine vl_calli C0 (vl_goV C0 (As := [.int 1]) (na := 1) (b := ad 0) (st := []) (ci := 4) gX4_mark_X4_fails rfl rfl rfl (by decide +kernel) ⟨Nat.le_of_ble_eq_true rfl, Nat.le_of_ble_eq_true rfl⟩ rfl ⟨0, _, rfl⟩ dX4_mark_14 (Nat.le_of_ble_eq_true rfl) ⟨Nat.le_of_ble_eq_true rfl, Nat.le_of_ble_eq_true rfl⟩ rfl rfl) (c_X4_fails hl0 1) (k2 := 0) (n2 := 0) (Nat.le_of_ble_eq_true rfl) (Nat.le_of_ble_eq_true rfl) (fun r9 w9 hp9 => ?_)
    obtain ⟨hr9, rfl⟩ := hp9
    have hr9 : r9 = 1 := hr9.trans (by decide)
    subst hr9
    refine vl_if_eq (tgt := 24) C0 dX4_mark_17 (by decide) (fun (h17 : (1 : Int32) = (0 : Int32)) => absurd h17 (by decide)) (fun (h17 : ¬ (1 : Int32) = (0 : Int32)) => ?_)
    refine vl_iconst (v := 0) C0 dX4_mark_20 (by decide) ?_
    refine vl_goto (tgt := 29) C0 dX4_mark_21 (by decide) ?_
    exact vl_iret C0 hA.symm hr ⟨_, rfl, mKp.t _, by simp [up2_same, g6]; rfl, by simp [maV, g6]⟩ (Nat.le_of_ble_eq_true rfl) (Nat.le_of_ble_eq_true rfl) dX4_mark_29
  · have g6 := bI_n.mp h6
    obtain ⟨ja, hja, rfl⟩ := inB_nI h1 (by omega) g6
    refine vl_iconst (v := 0) C0 dX4_mark_9 (by decide) ?_
    refine vl_goto (tgt := 14) C0 dX4_mark_10 (by decide) ?_
    refine vl_calli C0 (vl_goV C0 (As := [.int 0]) (na := 1) (b := ad 0) (st := []) (ci := 4) gX4_mark_X4_fails rfl rfl rfl (by decide +kernel) ⟨Nat.le_of_ble_eq_true rfl, Nat.le_of_ble_eq_true rfl⟩ rfl ⟨0, _, rfl⟩ dX4_mark_14 (Nat.le_of_ble_eq_true rfl) ⟨Nat.le_of_ble_eq_true rfl, Nat.le_of_ble_eq_true rfl⟩ rfl rfl) (c_X4_fails hl0 0) (k2 := 0) (n2 := 0) (Nat.le_of_ble_eq_true rfl) (Nat.le_of_ble_eq_true rfl) (fun r9 w9 hp9 => ?_)
    obtain ⟨hr9, rfl⟩ := hp9
    have hr9 : r9 = 0 := hr9.trans (by decide)
    subst hr9
    refine vl_if_eq (tgt := 24) C0 dX4_mark_17 (by decide) (fun (h17 : (0 : Int32) = (0 : Int32)) => ?_) (fun (h17 : ¬ (0 : Int32) = (0 : Int32)) => absurd h17 (by decide))
    refine vl_aload_n C0 dX4_mark_24 0 rfl ?_
    refine vl_iload_n C0 dX4_mark_25 1 rfl ?_
    refine vl_calli C0 (vl_goV C0 (As := [.int (nI ja)]) (na := 1) (b := ad 0) (st := []) (ci := 4) gX4_mark_X4_markOf rfl rfl rfl (by decide +kernel) ⟨Nat.le_of_ble_eq_true rfl, Nat.le_of_ble_eq_true rfl⟩ rfl ⟨0, _, rfl⟩ dX4_mark_26 (Nat.le_of_ble_eq_true rfl) ⟨Nat.le_of_ble_eq_true rfl, Nat.le_of_ble_eq_true rfl⟩ rfl rfl) (c_X4_markOf hl0 ja (ns := ns) (nl := nl) (par := par) e0 h8 e7 h1 h9 ht hcode (hja)) (k2 := 0) (n2 := 0) (Nat.le_of_ble_eq_true rfl) (Nat.le_of_ble_eq_true rfl) (fun r9 w9 hp9 => ?_)
    obtain ⟨m1, rfl, hf1, rfl⟩ := hp9
    exact vl_iret C0 hA.symm hr ⟨_, rfl, (mKp.t _).tr hf1.kp, (hf1.2 17 (by decide) (by decide)).trans (by simp [up2_same, g6]; rfl), by rw [maV, if_neg (by rw [g6]; decide), nI_clamp (show ja < 2 ^ 31 by omega)]; rfl⟩ (Nat.le_of_ble_eq_true rfl) (Nat.le_of_ble_eq_true rfl) dX4_mark_29
set_option maxHeartbeats 4000000 in
set_option maxRecDepth 100000 in
theorem c_X4_best {l : Launch} {D : va_G} {cy : Nat → ClassId} {ad : Nat → Nat} {mm : Nat → Nat → Int32} {X : va_W} {ns nl : Nat} {par : Nat → Option Nat} (hl0 : l.stackTraces = false) (e0 : mm 0 0 = nI ns) (h8 : ns ≤ 8) (e7 : mm 0 7 = nI nl) (h1 : 1 ≤ nl) (h9 : nl ≤ 9) (ht : mTree nl par mm) (hcode : ∀ j t, j < nl → t < 30 → codeOK ns (ordX (mm 11) par t (some j))) : vl_Ki l D cy yX4_best wsX4_best { frames := 4, cells := 0, slots := 0, locals := 99 } 0 0 (mw cy ad mm ++ X) [.ref (ad 0)] (fun r w' => ∃ m', w' = mw cy ad m' ++ X ∧ mKp mm m' ∧ r = (bstF (mkV ns par mm) (nl - 1)).1) := by
  refine vl_openi hl0 (by decide) rfl (Nat.le_of_ble_eq_true rfl) rfl ?_
  intro p e s m args below meth c C0 hr hnm
  generalize hA : va_A (mw cy ad mm ++ X) s.heap.size = A at C0 ⊢
  refine vl_lv (lv2 := [(0, .ref (ad 0))]) [0] rfl ?_
  have hin : ∀ x ∈ u_ws RX4 TX4 18, x ∈ wsX4_best := by decide +kernel
  refine vl_aload_n C0 dX4_best_0 0 rfl ?_
  refine vl_iconst (v := 0) C0 dX4_best_1 (by decide) ?_
  refine rm_put C0 hin 17 (by decide) (by decide +kernel) rfl rfl (mw_put17 _) dX4_best_2 ?_
  refine vl_iconst (v := -1) C0 dX4_best_5 (by decide) ?_
  refine vl_istore_n (lv' := [(0, .ref (ad 0)), (1, .int ((-1)))]) C0 dX4_best_6 [1, 0] (by decide) rfl ?_
  refine vl_iconst (v := -1) C0 dX4_best_7 (by decide) ?_
  refine vl_istore_n (lv' := [(0, .ref (ad 0)), (1, .int ((-1))), (2, .int ((-1)))]) C0 dX4_best_8 [1, 2, 0] (by decide) rfl ?_
  refine vl_iconst (v := 1) C0 dX4_best_9 (by decide) ?_
  refine vl_istore_n (lv' := [(0, .ref (ad 0)), (1, .int ((-1))), (2, .int ((-1))), (3, .int 1)]) C0 dX4_best_10 [1, 2, 3, 0] (by decide) rfl ?_
  refine vl_loop (σ := Nat × (Nat → Nat → Int32)) (fun x => mw cy ad x.2 ++ X) (fun x => [(0, .ref (ad 0)), (1, .int ((bstF (mkV ns par mm) x.1).1)), (2, .int ((bstF (mkV ns par mm) x.1).2)), (3, .int (nI (x.1 + 1)))]) (fun x => x.1 + 1 ≤ nl ∧ mKp mm x.2) (fun x => nl - x.1) ?_ (0, up2 mm 0 17 0) ⟨h1, mKp.t _⟩
  rintro ⟨k, m1⟩ hI ihk
  refine vl_w (w2 := mw cy ad m1 ++ X) rfl ?_
  refine vl_lv (lv2 := [(0, .ref (ad 0)), (1, .int ((bstF (mkV ns par mm) k).1)), (2, .int ((bstF (mkV ns par mm) k).2)), (3, .int (nI (k + 1)))]) [0, 1, 2, 3] rfl ?_
  have hI : k + 1 ≤ nl ∧ mKp mm m1 := hI
  have e01 : m1 0 0 = nI ns := (hI.2.2 0 (by decide) (by decide) (by decide)).trans e0
  have e71 : m1 0 7 = nI nl := (hI.2.2 7 (by decide) (by decide) (by decide)).trans e7
  have ht1 := mTree_k ht hI.2
  have hcode1 : ∀ j t, j < nl → t < 30 → codeOK ns (ordX (m1 11) par t (some j)) := fun j t hj9 ht9 => by rw [hI.2.1 11 (by decide) (by decide) (by decide)]; exact hcode j t hj9 ht9
  refine vl_iload_n C0 dX4_best_11 3 rfl ?_
  refine vl_aload_n C0 dX4_best_12 0 rfl ?_
  refine rm_get C0 hin 7 (by decide) (by decide +kernel) (v := .int (nI nl)) (congrArg (fun z => some (Value.int z)) e71) dX4_best_13 ?_
  refine vl_icmp_ge (tgt := 57) C0 dX4_best_16 (by decide) (fun (h16 : (nI nl : Int32) ≤ (nI (k + 1) : Int32)) => ?_) (fun (h16 : ¬ (nI nl : Int32) ≤ (nI (k + 1) : Int32)) => ?_)
  · have hkn : k + 1 = nl := by have z : ¬ k + 1 < nl := fun q => absurd h16 (nI_ge q (by omega)); have := hI.1; omega
    refine vl_iload_n C0 dX4_best_57 1 rfl ?_
    exact vl_iret C0 hA.symm hr ⟨m1, rfl, hI.2, by rw [← hkn]; rfl⟩ (Nat.le_of_ble_eq_true rfl) (Nat.le_of_ble_eq_true rfl) dX4_best_58
  · have hkn : k + 1 < nl := by have z : ¬ k + 1 = nl := fun q => h16 (by rw [q]; exact nI_le (Nat.le_refl _) (by omega)); have := hI.1; omega
    refine vl_aload_n C0 dX4_best_19 0 rfl ?_
    refine vl_iload_n C0 dX4_best_20 3 rfl ?_
    refine vl_calli C0 (vl_goV C0 (As := [.int (nI (k + 1))]) (na := 1) (b := ad 0) (st := []) (ci := 4) gX4_best_X4_markOf rfl rfl rfl (by decide +kernel) ⟨Nat.le_of_ble_eq_true rfl, Nat.le_of_ble_eq_true rfl⟩ rfl ⟨0, _, rfl⟩ dX4_best_21 (Nat.le_of_ble_eq_true rfl) ⟨Nat.le_of_ble_eq_true rfl, Nat.le_of_ble_eq_true rfl⟩ rfl rfl) (c_X4_markOf hl0 (k + 1) (ns := ns) (nl := nl) (par := par) e01 h8 e71 h1 h9 ht1 hcode1 (hkn)) (k2 := 0) (n2 := 0) (Nat.le_of_ble_eq_true rfl) (Nat.le_of_ble_eq_true rfl) (fun r9 w9 hp9 => ?_)
    obtain ⟨m2, rfl, hf2, rfl⟩ := hp9
    rw [mkV_k hI.2]
    refine vl_istore (lv' := [(0, .ref (ad 0)), (1, .int ((bstF (mkV ns par mm) k).1)), (2, .int ((bstF (mkV ns par mm) k).2)), (3, .int (nI (k + 1))), (4, .int (mkV ns par mm (k + 1)))]) C0 dX4_best_24 [1, 2, 3, 4, 0] (by decide) rfl ?_
    refine vl_iload C0 dX4_best_26 4 rfl ?_
    refine vl_iload_n C0 dX4_best_28 2 rfl ?_
    refine vl_icmp_le (tgt := 36) C0 dX4_best_29 (by decide) (fun (h29 : (mkV ns par mm (k + 1) : Int32) ≤ ((bstF (mkV ns par mm) k).2 : Int32)) => ?_) (fun (h29 : ¬ (mkV ns par mm (k + 1) : Int32) ≤ ((bstF (mkV ns par mm) k).2 : Int32)) => ?_)
    · refine vl_iload_n C0 dX4_best_36 1 rfl ?_
      refine vl_istore_n (lv' := [(0, .ref (ad 0)), (1, .int ((bstF (mkV ns par mm) k).1)), (2, .int ((bstF (mkV ns par mm) k).2)), (3, .int (nI (k + 1))), (4, .int (mkV ns par mm (k + 1)))]) C0 dX4_best_37 [1, 0, 2, 3, 4] (by decide) rfl ?_
      refine vl_iload C0 dX4_best_38 4 rfl ?_
      refine vl_iload_n C0 dX4_best_40 2 rfl ?_
      refine vl_icmp_le (tgt := 49) C0 dX4_best_41 (by decide) (fun (h41 : (mkV ns par mm (k + 1) : Int32) ≤ ((bstF (mkV ns par mm) k).2 : Int32)) => ?_) (fun (h41 : ¬ (mkV ns par mm (k + 1) : Int32) ≤ ((bstF (mkV ns par mm) k).2 : Int32)) => absurd (h29) h41)
      refine vl_iload_n C0 dX4_best_49 2 rfl ?_
      refine vl_istore_n (lv' := [(0, .ref (ad 0)), (1, .int ((bstF (mkV ns par mm) k).1)), (2, .int ((bstF (mkV ns par mm) k).2)), (3, .int (nI (k + 1))), (4, .int (mkV ns par mm (k + 1)))]) C0 dX4_best_50 [1, 2, 0, 3, 4] (by decide) rfl ?_
      refine vl_iinc (v := nI (k + 1 + 1)) (lv' := [(0, .ref (ad 0)), (1, .int ((bstF (mkV ns par mm) k).1)), (2, .int ((bstF (mkV ns par mm) k).2)), (3, .int (nI (k + 1 + 1))), (4, .int (mkV ns par mm (k + 1)))]) C0 dX4_best_51 3 rfl (nI_1 (k + 1)) [1, 2, 3, 0, 4] (by decide) rfl ?_
      refine vl_goto (tgt := 11) C0 dX4_best_54 (by decide) ?_
      have hb : bstF (mkV ns par mm) (k + 1) = bstF (mkV ns par mm) k := by rw [bstF]; exact if_neg (Int32.not_lt.mpr h29)
      have q9 := ihk (k + 1, m2) ⟨by omega, hI.2.tr hf2.kp⟩ (by show nl - (k + 1) < nl - k; omega)
      dsimp only at q9
      rw [hb] at q9
      exact vl_lv (lv2 := [(0, .ref (ad 0)), (1, .int ((bstF (mkV ns par mm) k).1)), (2, .int ((bstF (mkV ns par mm) k).2)), (3, .int (nI (k + 1 + 1)))]) [0, 1, 2, 3] rfl q9
    · refine vl_iload_n C0 dX4_best_32 3 rfl ?_
      refine vl_goto (tgt := 37) C0 dX4_best_33 (by decide) ?_
      refine vl_istore_n (lv' := [(0, .ref (ad 0)), (1, .int (nI (k + 1))), (2, .int ((bstF (mkV ns par mm) k).2)), (3, .int (nI (k + 1))), (4, .int (mkV ns par mm (k + 1)))]) C0 dX4_best_37 [1, 0, 2, 3, 4] (by decide) rfl ?_
      refine vl_iload C0 dX4_best_38 4 rfl ?_
      refine vl_iload_n C0 dX4_best_40 2 rfl ?_
      refine vl_icmp_le (tgt := 49) C0 dX4_best_41 (by decide) (fun (h41 : (mkV ns par mm (k + 1) : Int32) ≤ ((bstF (mkV ns par mm) k).2 : Int32)) => absurd h41 (h29)) (fun (h41 : ¬ (mkV ns par mm (k + 1) : Int32) ≤ ((bstF (mkV ns par mm) k).2 : Int32)) => ?_)
      refine vl_iload C0 dX4_best_44 4 rfl ?_
      refine vl_goto (tgt := 50) C0 dX4_best_46 (by decide) ?_
      refine vl_istore_n (lv' := [(0, .ref (ad 0)), (1, .int (nI (k + 1))), (2, .int (mkV ns par mm (k + 1))), (3, .int (nI (k + 1))), (4, .int (mkV ns par mm (k + 1)))]) C0 dX4_best_50 [1, 2, 0, 3, 4] (by decide) rfl ?_
      refine vl_iinc (v := nI (k + 1 + 1)) (lv' := [(0, .ref (ad 0)), (1, .int (nI (k + 1))), (2, .int (mkV ns par mm (k + 1))), (3, .int (nI (k + 1 + 1))), (4, .int (mkV ns par mm (k + 1)))]) C0 dX4_best_51 3 rfl (nI_1 (k + 1)) [1, 2, 3, 0, 4] (by decide) rfl ?_
      refine vl_goto (tgt := 11) C0 dX4_best_54 (by decide) ?_
      have hb : bstF (mkV ns par mm) (k + 1) = (nI (k + 1), mkV ns par mm (k + 1)) := by rw [bstF]; exact if_pos (Int32.not_le.mp h29)
      have q9 := ihk (k + 1, m2) ⟨by omega, hI.2.tr hf2.kp⟩ (by show nl - (k + 1) < nl - k; omega)
      dsimp only at q9
      rw [hb] at q9
      exact vl_lv (lv2 := [(0, .ref (ad 0)), (1, .int (nI (k + 1))), (2, .int (mkV ns par mm (k + 1))), (3, .int (nI (k + 1 + 1)))]) [0, 1, 2, 3] rfl q9
end VM11
