section VM5
def misB (nl ns : Nat) (a b t : Int32) : Bool := !(inB a 0 (nI nl - 1) && inB b 0 (nI ns - 1) && inB t 0 29)
def sp_seen (nl : Nat) (m : Nat → Nat → Int32) (a : Int32) : Int32 × (Nat → Nat → Int32) := if inB a 0 (nI nl - 1) = false then (0, up2 m 0 17 1) else (m 10 a.toNatClampNeg, up2 m 0 17 0)
set_option maxHeartbeats 4000000 in
set_option maxRecDepth 100000 in
theorem c_X4_takeAway {l : Launch} {D : va_G} {cy : Nat → ClassId} {ad : Nat → Nat} {mm : Nat → Nat → Int32} {X : va_W} {nl : Nat} (hl0 : l.stackTraces = false) (a t : Int32) (e7 : mm 0 7 = nI nl) (h1 : 1 ≤ nl) (h9 : nl ≤ 9) : vl_Ki l D cy yX4_takeAway wsX4_takeAway { frames := 2, cells := 0, slots := 0, locals := 43 } 0 0 (mw cy ad mm ++ X) [.ref (ad 0), .int a, .int t] (fun r w' => r = (sp_takeAway nl mm a t).1 ∧ w' = mw cy ad (sp_takeAway nl mm a t).2 ++ X) := by
  refine vl_openi hl0 (by decide) rfl (Nat.le_of_ble_eq_true rfl) rfl ?_
  intro p e s m args below meth c C0 hr hnm
  generalize hA : va_A (mw cy ad mm ++ X) s.heap.size = A at C0 ⊢
  refine vl_lv (lv2 := [(0, .ref (ad 0)), (1, .int a), (2, .int t)]) [0, 1, 2] rfl ?_
  have hin : ∀ x ∈ u_ws RX4 TX4 18, x ∈ wsX4_takeAway := by decide +kernel
  refine vl_aload_n C0 dX4_takeAway_0 0 rfl ?_
  refine vl_aload_n C0 dX4_takeAway_1 0 rfl ?_
  refine vl_iload_n C0 dX4_takeAway_2 1 rfl ?_
  refine vl_calli C0 (vl_goV C0 (As := [.int a]) (na := 1) (b := ad 0) (st := [.ref (ad 0)]) (ci := 4) gX4_takeAway_X4_isLine rfl rfl rfl (by decide +kernel) ⟨Nat.le_of_ble_eq_true rfl, Nat.le_of_ble_eq_true rfl⟩ rfl ⟨0, _, rfl⟩ dX4_takeAway_3 (Nat.le_of_ble_eq_true rfl) ⟨Nat.le_of_ble_eq_true rfl, Nat.le_of_ble_eq_true rfl⟩ rfl rfl) (c_X4_isLine hl0 a) (k2 := 0) (n2 := 0) (Nat.le_of_ble_eq_true rfl) (Nat.le_of_ble_eq_true rfl) (fun r9 w9 hp9 => ?_)
  obtain ⟨rfl, rfl⟩ := hp9
  rw [e7]
  refine vl_if_eq (tgt := 20) C0 dX4_takeAway_6 (by decide) (fun (h6 : (bI (inB a 0 (nI nl - 1)) : Int32) = (0 : Int32)) => ?_) (fun (h6 : ¬ (bI (inB a 0 (nI nl - 1)) : Int32) = (0 : Int32)) => ?_)
  · have g6 := bI_0.mp h6
    refine vl_iconst (v := 1) C0 dX4_takeAway_20 (by decide) ?_
    refine vl_calli C0 (vl_goV C0 (As := [.int 1]) (na := 1) (b := ad 0) (st := []) (ci := 4) gX4_takeAway_X4_fails rfl rfl rfl (by decide +kernel) ⟨Nat.le_of_ble_eq_true rfl, Nat.le_of_ble_eq_true rfl⟩ rfl ⟨0, _, rfl⟩ dX4_takeAway_21 (Nat.le_of_ble_eq_true rfl) ⟨Nat.le_of_ble_eq_true rfl, Nat.le_of_ble_eq_true rfl⟩ rfl rfl) (c_X4_fails hl0 1) (k2 := 0) (n2 := 0) (Nat.le_of_ble_eq_true rfl) (Nat.le_of_ble_eq_true rfl) (fun r9 w9 hp9 => ?_)
    obtain ⟨hr9, rfl⟩ := hp9
    have hr9 : r9 = 1 := hr9.trans (by decide)
    subst hr9
    refine vl_if_eq (tgt := 29) C0 dX4_takeAway_24 (by decide) (fun (h24 : (1 : Int32) = (0 : Int32)) => absurd h24 (by decide)) (fun (h24 : ¬ (1 : Int32) = (0 : Int32)) => ?_)
    refine vl_iconst (v := 0) C0 dX4_takeAway_27 (by decide) ?_
    exact vl_zret C0 hA.symm hr rfl ⟨by (simp [sp_takeAway, bI, g6]), by (simp [sp_takeAway, bI, g6])⟩ (Nat.le_of_ble_eq_true rfl) (Nat.le_of_ble_eq_true rfl) dX4_takeAway_28
  · have g6 := bI_n.mp h6
    refine vl_iload_n C0 dX4_takeAway_9 2 rfl ?_
    refine vl_calli C0 (vl_goS C0 (As := [.int t]) (na := 1) (st := [.ref (ad 0)]) gX4_takeAway_X4_isTurn rfl rfl rfl (by decide +kernel) ⟨Nat.le_of_ble_eq_true rfl, Nat.le_of_ble_eq_true rfl⟩ dX4_takeAway_10 (Nat.le_of_ble_eq_true rfl) ⟨Nat.le_of_ble_eq_true rfl, Nat.le_of_ble_eq_true rfl⟩ rfl rfl) (c_X4_isTurn hl0 t) (k2 := 0) (n2 := 0) (Nat.le_of_ble_eq_true rfl) (Nat.le_of_ble_eq_true rfl) (fun r9 w9 hp9 => ?_)
    obtain ⟨rfl, rfl⟩ := hp9
    refine vl_if_eq (tgt := 20) C0 dX4_takeAway_13 (by decide) (fun (h13 : (bI (inB t 0 29) : Int32) = (0 : Int32)) => ?_) (fun (h13 : ¬ (bI (inB t 0 29) : Int32) = (0 : Int32)) => ?_)
    · have g13 := bI_0.mp h13
      refine vl_iconst (v := 1) C0 dX4_takeAway_20 (by decide) ?_
      refine vl_calli C0 (vl_goV C0 (As := [.int 1]) (na := 1) (b := ad 0) (st := []) (ci := 4) gX4_takeAway_X4_fails rfl rfl rfl (by decide +kernel) ⟨Nat.le_of_ble_eq_true rfl, Nat.le_of_ble_eq_true rfl⟩ rfl ⟨0, _, rfl⟩ dX4_takeAway_21 (Nat.le_of_ble_eq_true rfl) ⟨Nat.le_of_ble_eq_true rfl, Nat.le_of_ble_eq_true rfl⟩ rfl rfl) (c_X4_fails hl0 1) (k2 := 0) (n2 := 0) (Nat.le_of_ble_eq_true rfl) (Nat.le_of_ble_eq_true rfl) (fun r9 w9 hp9 => ?_)
      obtain ⟨hr9, rfl⟩ := hp9
      have hr9 : r9 = 1 := hr9.trans (by decide)
      subst hr9
      refine vl_if_eq (tgt := 29) C0 dX4_takeAway_24 (by decide) (fun (h24 : (1 : Int32) = (0 : Int32)) => absurd h24 (by decide)) (fun (h24 : ¬ (1 : Int32) = (0 : Int32)) => ?_)
      refine vl_iconst (v := 0) C0 dX4_takeAway_27 (by decide) ?_
      exact vl_zret C0 hA.symm hr rfl ⟨by (simp [sp_takeAway, bI, g6, g13]), by (simp [sp_takeAway, bI, g6, g13])⟩ (Nat.le_of_ble_eq_true rfl) (Nat.le_of_ble_eq_true rfl) dX4_takeAway_28
    · have g13 := bI_n.mp h13
      refine vl_iconst (v := 0) C0 dX4_takeAway_16 (by decide) ?_
      refine vl_goto (tgt := 21) C0 dX4_takeAway_17 (by decide) ?_
      refine vl_calli C0 (vl_goV C0 (As := [.int 0]) (na := 1) (b := ad 0) (st := []) (ci := 4) gX4_takeAway_X4_fails rfl rfl rfl (by decide +kernel) ⟨Nat.le_of_ble_eq_true rfl, Nat.le_of_ble_eq_true rfl⟩ rfl ⟨0, _, rfl⟩ dX4_takeAway_21 (Nat.le_of_ble_eq_true rfl) ⟨Nat.le_of_ble_eq_true rfl, Nat.le_of_ble_eq_true rfl⟩ rfl rfl) (c_X4_fails hl0 0) (k2 := 0) (n2 := 0) (Nat.le_of_ble_eq_true rfl) (Nat.le_of_ble_eq_true rfl) (fun r9 w9 hp9 => ?_)
      obtain ⟨hr9, rfl⟩ := hp9
      have hr9 : r9 = 0 := hr9.trans (by decide)
      subst hr9
      refine vl_if_eq (tgt := 29) C0 dX4_takeAway_24 (by decide) (fun (h24 : (0 : Int32) = (0 : Int32)) => ?_) (fun (h24 : ¬ (0 : Int32) = (0 : Int32)) => absurd h24 (by decide))
      refine vl_aload_n C0 dX4_takeAway_29 0 rfl ?_
      refine vl_iload_n C0 dX4_takeAway_30 1 rfl ?_
      refine vl_iload_n C0 dX4_takeAway_31 2 rfl ?_
      refine vl_calli C0 (vl_goV C0 (As := [.int a, .int t]) (na := 2) (b := ad 0) (st := []) (ci := 4) gX4_takeAway_X4_hasOwn rfl rfl rfl (by decide +kernel) ⟨Nat.le_of_ble_eq_true rfl, Nat.le_of_ble_eq_true rfl⟩ rfl ⟨0, _, rfl⟩ dX4_takeAway_32 (Nat.le_of_ble_eq_true rfl) ⟨Nat.le_of_ble_eq_true rfl, Nat.le_of_ble_eq_true rfl⟩ rfl rfl) (c_X4_hasOwn hl0 a t (inB_pl h1 h9 g6 g13)) (k2 := 0) (n2 := 0) (Nat.le_of_ble_eq_true rfl) (Nat.le_of_ble_eq_true rfl) (fun r9 w9 hp9 => ?_)
      obtain ⟨rfl, rfl⟩ := hp9
      refine vl_if_eq (tgt := 51) C0 dX4_takeAway_35 (by decide) (fun (h35 : (bI (ownB mm a t) : Int32) = (0 : Int32)) => ?_) (fun (h35 : ¬ (bI (ownB mm a t) : Int32) = (0 : Int32)) => ?_)
      · have g35 := bI_0.mp h35
        refine vl_iconst (v := 0) C0 dX4_takeAway_51 (by decide) ?_
        exact vl_zret C0 hA.symm hr rfl ⟨by (simp [sp_takeAway, bI, g6, g13, g35]), by (simp [sp_takeAway, bI, g6, g13, g35])⟩ (Nat.le_of_ble_eq_true rfl) (Nat.le_of_ble_eq_true rfl) dX4_takeAway_52
      · have g35 := bI_n.mp h35
        refine vl_aload_n C0 dX4_takeAway_38 0 rfl ?_
        refine vl_iload_n C0 dX4_takeAway_39 1 rfl ?_
        refine vl_iload_n C0 dX4_takeAway_40 2 rfl ?_
        refine vl_calli C0 (vl_goV C0 (As := [.int a, .int t]) (na := 2) (b := ad 0) (st := []) (ci := 4) gX4_takeAway_X4_removes rfl rfl rfl (by decide +kernel) ⟨Nat.le_of_ble_eq_true rfl, Nat.le_of_ble_eq_true rfl⟩ rfl ⟨0, _, rfl⟩ dX4_takeAway_41 (Nat.le_of_ble_eq_true rfl) ⟨Nat.le_of_ble_eq_true rfl, Nat.le_of_ble_eq_true rfl⟩ rfl rfl) (c_X4_removes hl0 a t (inB_pl h1 h9 g6 g13)) (k2 := 0) (n2 := 0) (Nat.le_of_ble_eq_true rfl) (Nat.le_of_ble_eq_true rfl) (fun r9 w9 hp9 => ?_)
        obtain ⟨rfl, rfl⟩ := hp9
        refine vl_if_eq (tgt := 51) C0 dX4_takeAway_44 (by decide) (fun (h44 : (1 : Int32) = (0 : Int32)) => absurd h44 (by decide)) (fun (h44 : ¬ (1 : Int32) = (0 : Int32)) => ?_)
        refine vl_iconst (v := 1) C0 dX4_takeAway_47 (by decide) ?_
        refine vl_goto (tgt := 52) C0 dX4_takeAway_48 (by decide) ?_
        exact vl_zret C0 hA.symm hr rfl ⟨by (simp [sp_takeAway, bI, g6, g13, g35]), by (simp [sp_takeAway, bI, g6, g13, g35])⟩ (Nat.le_of_ble_eq_true rfl) (Nat.le_of_ble_eq_true rfl) dX4_takeAway_52
set_option maxHeartbeats 4000000 in
set_option maxRecDepth 100000 in
theorem c_X4_misses {l : Launch} {D : va_G} {cy : Nat → ClassId} {ad : Nat → Nat} {mm : Nat → Nat → Int32} {X : va_W} {nl ns : Nat} (hl0 : l.stackTraces = false) (a b t : Int32) (e0 : mm 0 0 = nI ns) (h8 : ns ≤ 8) (e7 : mm 0 7 = nI nl) (h1 : 1 ≤ nl) (h9 : nl ≤ 9) : vl_Ki l D cy yX4_misses wsX4_misses { frames := 2, cells := 0, slots := 0, locals := 43 } 0 0 (mw cy ad mm ++ X) [.ref (ad 0), .int a, .int b, .int t] (fun r w' => r = bI (misB nl ns a b t) ∧ w' = mw cy ad (up2 mm 0 17 (bI (misB nl ns a b t))) ++ X) := by
  refine vl_openi hl0 (by decide) rfl (Nat.le_of_ble_eq_true rfl) rfl ?_
  intro p e s m args below meth c C0 hr hnm
  generalize hA : va_A (mw cy ad mm ++ X) s.heap.size = A at C0 ⊢
  refine vl_lv (lv2 := [(0, .ref (ad 0)), (1, .int a), (2, .int b), (3, .int t)]) [0, 1, 2, 3] rfl ?_
  have hin : ∀ x ∈ u_ws RX4 TX4 18, x ∈ wsX4_misses := by decide +kernel
  refine vl_aload_n C0 dX4_misses_0 0 rfl ?_
  refine vl_aload_n C0 dX4_misses_1 0 rfl ?_
  refine vl_iload_n C0 dX4_misses_2 1 rfl ?_
  refine vl_calli C0 (vl_goV C0 (As := [.int a]) (na := 1) (b := ad 0) (st := [.ref (ad 0)]) (ci := 4) gX4_misses_X4_isLine rfl rfl rfl (by decide +kernel) ⟨Nat.le_of_ble_eq_true rfl, Nat.le_of_ble_eq_true rfl⟩ rfl ⟨0, _, rfl⟩ dX4_misses_3 (Nat.le_of_ble_eq_true rfl) ⟨Nat.le_of_ble_eq_true rfl, Nat.le_of_ble_eq_true rfl⟩ rfl rfl) (c_X4_isLine hl0 a) (k2 := 0) (n2 := 0) (Nat.le_of_ble_eq_true rfl) (Nat.le_of_ble_eq_true rfl) (fun r9 w9 hp9 => ?_)
  obtain ⟨rfl, rfl⟩ := hp9
  rw [e7]
  refine vl_if_eq (tgt := 28) C0 dX4_misses_6 (by decide) (fun (h6 : (bI (inB a 0 (nI nl - 1)) : Int32) = (0 : Int32)) => ?_) (fun (h6 : ¬ (bI (inB a 0 (nI nl - 1)) : Int32) = (0 : Int32)) => ?_)
  · have g6 := bI_0.mp h6
    refine vl_iconst (v := 1) C0 dX4_misses_28 (by decide) ?_
    refine vl_calli C0 (vl_goV C0 (As := [.int 1]) (na := 1) (b := ad 0) (st := []) (ci := 4) gX4_misses_X4_fails rfl rfl rfl (by decide +kernel) ⟨Nat.le_of_ble_eq_true rfl, Nat.le_of_ble_eq_true rfl⟩ rfl ⟨0, _, rfl⟩ dX4_misses_29 (Nat.le_of_ble_eq_true rfl) ⟨Nat.le_of_ble_eq_true rfl, Nat.le_of_ble_eq_true rfl⟩ rfl rfl) (c_X4_fails hl0 1) (k2 := 0) (n2 := 0) (Nat.le_of_ble_eq_true rfl) (Nat.le_of_ble_eq_true rfl) (fun r9 w9 hp9 => ?_)
    obtain ⟨hr9, rfl⟩ := hp9
    have hr9 : r9 = 1 := hr9.trans (by decide)
    subst hr9
    exact vl_zret C0 hA.symm hr rfl ⟨by simp [misB, bI, g6], by simp [misB, bI, g6]⟩ (Nat.le_of_ble_eq_true rfl) (Nat.le_of_ble_eq_true rfl) dX4_misses_32
  · have g6 := bI_n.mp h6
    refine vl_aload_n C0 dX4_misses_9 0 rfl ?_
    refine vl_iload_n C0 dX4_misses_10 2 rfl ?_
    refine vl_calli C0 (vl_goV C0 (As := [.int b]) (na := 1) (b := ad 0) (st := [.ref (ad 0)]) (ci := 4) gX4_misses_X4_isShip rfl rfl rfl (by decide +kernel) ⟨Nat.le_of_ble_eq_true rfl, Nat.le_of_ble_eq_true rfl⟩ rfl ⟨0, _, rfl⟩ dX4_misses_11 (Nat.le_of_ble_eq_true rfl) ⟨Nat.le_of_ble_eq_true rfl, Nat.le_of_ble_eq_true rfl⟩ rfl rfl) (c_X4_isShip hl0 b) (k2 := 0) (n2 := 0) (Nat.le_of_ble_eq_true rfl) (Nat.le_of_ble_eq_true rfl) (fun r9 w9 hp9 => ?_)
    obtain ⟨rfl, rfl⟩ := hp9
    rw [e0]
    refine vl_if_eq (tgt := 28) C0 dX4_misses_14 (by decide) (fun (h14 : (bI (inB b 0 (nI ns - 1)) : Int32) = (0 : Int32)) => ?_) (fun (h14 : ¬ (bI (inB b 0 (nI ns - 1)) : Int32) = (0 : Int32)) => ?_)
    · have g14 := bI_0.mp h14
      refine vl_iconst (v := 1) C0 dX4_misses_28 (by decide) ?_
      refine vl_calli C0 (vl_goV C0 (As := [.int 1]) (na := 1) (b := ad 0) (st := []) (ci := 4) gX4_misses_X4_fails rfl rfl rfl (by decide +kernel) ⟨Nat.le_of_ble_eq_true rfl, Nat.le_of_ble_eq_true rfl⟩ rfl ⟨0, _, rfl⟩ dX4_misses_29 (Nat.le_of_ble_eq_true rfl) ⟨Nat.le_of_ble_eq_true rfl, Nat.le_of_ble_eq_true rfl⟩ rfl rfl) (c_X4_fails hl0 1) (k2 := 0) (n2 := 0) (Nat.le_of_ble_eq_true rfl) (Nat.le_of_ble_eq_true rfl) (fun r9 w9 hp9 => ?_)
      obtain ⟨hr9, rfl⟩ := hp9
      have hr9 : r9 = 1 := hr9.trans (by decide)
      subst hr9
      exact vl_zret C0 hA.symm hr rfl ⟨by simp [misB, bI, g6, g14], by simp [misB, bI, g6, g14]⟩ (Nat.le_of_ble_eq_true rfl) (Nat.le_of_ble_eq_true rfl) dX4_misses_32
    · have g14 := bI_n.mp h14
      refine vl_iload_n C0 dX4_misses_17 3 rfl ?_
      refine vl_calli C0 (vl_goS C0 (As := [.int t]) (na := 1) (st := [.ref (ad 0)]) gX4_misses_X4_isTurn rfl rfl rfl (by decide +kernel) ⟨Nat.le_of_ble_eq_true rfl, Nat.le_of_ble_eq_true rfl⟩ dX4_misses_18 (Nat.le_of_ble_eq_true rfl) ⟨Nat.le_of_ble_eq_true rfl, Nat.le_of_ble_eq_true rfl⟩ rfl rfl) (c_X4_isTurn hl0 t) (k2 := 0) (n2 := 0) (Nat.le_of_ble_eq_true rfl) (Nat.le_of_ble_eq_true rfl) (fun r9 w9 hp9 => ?_)
      obtain ⟨rfl, rfl⟩ := hp9
      refine vl_if_eq (tgt := 28) C0 dX4_misses_21 (by decide) (fun (h21 : (bI (inB t 0 29) : Int32) = (0 : Int32)) => ?_) (fun (h21 : ¬ (bI (inB t 0 29) : Int32) = (0 : Int32)) => ?_)
      · have g21 := bI_0.mp h21
        refine vl_iconst (v := 1) C0 dX4_misses_28 (by decide) ?_
        refine vl_calli C0 (vl_goV C0 (As := [.int 1]) (na := 1) (b := ad 0) (st := []) (ci := 4) gX4_misses_X4_fails rfl rfl rfl (by decide +kernel) ⟨Nat.le_of_ble_eq_true rfl, Nat.le_of_ble_eq_true rfl⟩ rfl ⟨0, _, rfl⟩ dX4_misses_29 (Nat.le_of_ble_eq_true rfl) ⟨Nat.le_of_ble_eq_true rfl, Nat.le_of_ble_eq_true rfl⟩ rfl rfl) (c_X4_fails hl0 1) (k2 := 0) (n2 := 0) (Nat.le_of_ble_eq_true rfl) (Nat.le_of_ble_eq_true rfl) (fun r9 w9 hp9 => ?_)
        obtain ⟨hr9, rfl⟩ := hp9
        have hr9 : r9 = 1 := hr9.trans (by decide)
        subst hr9
        exact vl_zret C0 hA.symm hr rfl ⟨by simp [misB, bI, g6, g14, g21], by simp [misB, bI, g6, g14, g21]⟩ (Nat.le_of_ble_eq_true rfl) (Nat.le_of_ble_eq_true rfl) dX4_misses_32
      · have g21 := bI_n.mp h21
        refine vl_iconst (v := 0) C0 dX4_misses_24 (by decide) ?_
        refine vl_goto (tgt := 29) C0 dX4_misses_25 (by decide) ?_
        refine vl_calli C0 (vl_goV C0 (As := [.int 0]) (na := 1) (b := ad 0) (st := []) (ci := 4) gX4_misses_X4_fails rfl rfl rfl (by decide +kernel) ⟨Nat.le_of_ble_eq_true rfl, Nat.le_of_ble_eq_true rfl⟩ rfl ⟨0, _, rfl⟩ dX4_misses_29 (Nat.le_of_ble_eq_true rfl) ⟨Nat.le_of_ble_eq_true rfl, Nat.le_of_ble_eq_true rfl⟩ rfl rfl) (c_X4_fails hl0 0) (k2 := 0) (n2 := 0) (Nat.le_of_ble_eq_true rfl) (Nat.le_of_ble_eq_true rfl) (fun r9 w9 hp9 => ?_)
        obtain ⟨hr9, rfl⟩ := hp9
        have hr9 : r9 = 0 := hr9.trans (by decide)
        subst hr9
        exact vl_zret C0 hA.symm hr rfl ⟨by simp [misB, bI, g6, g14, g21], by simp [misB, bI, g6, g14, g21]⟩ (Nat.le_of_ble_eq_true rfl) (Nat.le_of_ble_eq_true rfl) dX4_misses_32
set_option maxHeartbeats 4000000 in
set_option maxRecDepth 100000 in
theorem c_X4_seen {l : Launch} {D : va_G} {cy : Nat → ClassId} {ad : Nat → Nat} {mm : Nat → Nat → Int32} {X : va_W} {nl : Nat} (hl0 : l.stackTraces = false) (a : Int32) (e7 : mm 0 7 = nI nl) (h1 : 1 ≤ nl) (h9 : nl ≤ 9) : vl_Ki l D cy yX4_seen wsX4_seen { frames := 2, cells := 0, slots := 0, locals := 43 } 0 0 (mw cy ad mm ++ X) [.ref (ad 0), .int a] (fun r w' => r = (sp_seen nl mm a).1 ∧ w' = mw cy ad (sp_seen nl mm a).2 ++ X) := by
  refine vl_openi hl0 (by decide) rfl (Nat.le_of_ble_eq_true rfl) rfl ?_
  intro p e s m args below meth c C0 hr hnm
  generalize hA : va_A (mw cy ad mm ++ X) s.heap.size = A at C0 ⊢
  refine vl_lv (lv2 := [(0, .ref (ad 0)), (1, .int a)]) [0, 1] rfl ?_
  have hin : ∀ x ∈ u_ws RX4 TX4 18, x ∈ wsX4_seen := by decide +kernel
  refine vl_aload_n C0 dX4_seen_0 0 rfl ?_
  refine vl_aload_n C0 dX4_seen_1 0 rfl ?_
  refine vl_iload_n C0 dX4_seen_2 1 rfl ?_
  refine vl_calli C0 (vl_goV C0 (As := [.int a]) (na := 1) (b := ad 0) (st := [.ref (ad 0)]) (ci := 4) gX4_seen_X4_isLine rfl rfl rfl (by decide +kernel) ⟨Nat.le_of_ble_eq_true rfl, Nat.le_of_ble_eq_true rfl⟩ rfl ⟨0, _, rfl⟩ dX4_seen_3 (Nat.le_of_ble_eq_true rfl) ⟨Nat.le_of_ble_eq_true rfl, Nat.le_of_ble_eq_true rfl⟩ rfl rfl) (c_X4_isLine hl0 a) (k2 := 0) (n2 := 0) (Nat.le_of_ble_eq_true rfl) (Nat.le_of_ble_eq_true rfl) (fun r9 w9 hp9 => ?_)
  obtain ⟨rfl, rfl⟩ := hp9
  rw [e7]
  refine vl_if_eq (tgt := 13) C0 dX4_seen_6 (by decide) (fun (h6 : (bI (inB a 0 (nI nl - 1)) : Int32) = (0 : Int32)) => ?_) (fun (h6 : ¬ (bI (inB a 0 (nI nl - 1)) : Int32) = (0 : Int32)) => ?_)
  · have g6 := bI_0.mp h6
    refine vl_iconst (v := 1) C0 dX4_seen_13 (by decide) ?_
    refine vl_calli C0 (vl_goV C0 (As := [.int 1]) (na := 1) (b := ad 0) (st := []) (ci := 4) gX4_seen_X4_fails rfl rfl rfl (by decide +kernel) ⟨Nat.le_of_ble_eq_true rfl, Nat.le_of_ble_eq_true rfl⟩ rfl ⟨0, _, rfl⟩ dX4_seen_14 (Nat.le_of_ble_eq_true rfl) ⟨Nat.le_of_ble_eq_true rfl, Nat.le_of_ble_eq_true rfl⟩ rfl rfl) (c_X4_fails hl0 1) (k2 := 0) (n2 := 0) (Nat.le_of_ble_eq_true rfl) (Nat.le_of_ble_eq_true rfl) (fun r9 w9 hp9 => ?_)
    obtain ⟨hr9, rfl⟩ := hp9
    have hr9 : r9 = 1 := hr9.trans (by decide)
    subst hr9
    refine vl_if_eq (tgt := 24) C0 dX4_seen_17 (by decide) (fun (h17 : (1 : Int32) = (0 : Int32)) => absurd h17 (by decide)) (fun (h17 : ¬ (1 : Int32) = (0 : Int32)) => ?_)
    refine vl_iconst (v := 0) C0 dX4_seen_20 (by decide) ?_
    refine vl_goto (tgt := 30) C0 dX4_seen_21 (by decide) ?_
    exact vl_iret C0 hA.symm hr ⟨by simp [sp_seen, bI, up2_o, g6], by simp [sp_seen, bI, up2_o, g6]⟩ (Nat.le_of_ble_eq_true rfl) (Nat.le_of_ble_eq_true rfl) dX4_seen_30
  · have g6 := bI_n.mp h6
    refine vl_iconst (v := 0) C0 dX4_seen_9 (by decide) ?_
    refine vl_goto (tgt := 14) C0 dX4_seen_10 (by decide) ?_
    refine vl_calli C0 (vl_goV C0 (As := [.int 0]) (na := 1) (b := ad 0) (st := []) (ci := 4) gX4_seen_X4_fails rfl rfl rfl (by decide +kernel) ⟨Nat.le_of_ble_eq_true rfl, Nat.le_of_ble_eq_true rfl⟩ rfl ⟨0, _, rfl⟩ dX4_seen_14 (Nat.le_of_ble_eq_true rfl) ⟨Nat.le_of_ble_eq_true rfl, Nat.le_of_ble_eq_true rfl⟩ rfl rfl) (c_X4_fails hl0 0) (k2 := 0) (n2 := 0) (Nat.le_of_ble_eq_true rfl) (Nat.le_of_ble_eq_true rfl) (fun r9 w9 hp9 => ?_)
    obtain ⟨hr9, rfl⟩ := hp9
    have hr9 : r9 = 0 := hr9.trans (by decide)
    subst hr9
    refine vl_if_eq (tgt := 24) C0 dX4_seen_17 (by decide) (fun (h17 : (0 : Int32) = (0 : Int32)) => ?_) (fun (h17 : ¬ (0 : Int32) = (0 : Int32)) => absurd h17 (by decide))
    refine vl_aload_n C0 dX4_seen_24 0 rfl ?_
    refine rm_get C0 hin 10 (by decide) (by decide +kernel) rfl dX4_seen_25 ?_
    refine vl_iload_n C0 dX4_seen_28 1 rfl ?_
    refine rm_iald C0 10 7 9 rfl (inB_n h1 h9 (by decide) g6) (kn := (a).toNatClampNeg) (rfl) (v := mm 10 ((a).toNatClampNeg)) (rfl) dX4_seen_29 ?_
    exact vl_iret C0 hA.symm hr ⟨by simp [sp_seen, bI, up2_o, g6], by simp [sp_seen, bI, up2_o, g6]⟩ (Nat.le_of_ble_eq_true rfl) (Nat.le_of_ble_eq_true rfl) dX4_seen_30
end VM5
