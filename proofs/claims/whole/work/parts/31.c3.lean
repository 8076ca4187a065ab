section VC3
theorem pl_b {x : Int32} (h : placeOK x) : inB x 0 2 = true ↔ 0 ≤ x := by
  rcases h with rfl | rfl | rfl | rfl | rfl | rfl <;> decide
theorem pl_n {x : Int32} (h : placeOK x) : inB x 0 2 = false ↔ ¬ 0 ≤ x := by
  rcases h with rfl | rfl | rfl | rfl | rfl | rfl <;> decide
def whD (d : Nat → Nat → Nat → Int32) : Nat → Int32 := fun q => d 7 q 3
def lfD (d : Nat → Nat → Nat → Int32) : Nat → Int32 := fun q => d 7 q 4
def drD (d : Nat → Nat → Nat → Int32) : Nat → Int32 := fun q => d 7 q 1
def geI (d : Nat → Nat → Nat → Int32) (j : Nat) : Int32 := if 0 ≤ d 7 j 3 then d 1 0 3 * manyI (d 4 0) (whD d) (lfD d) j else if d 7 j 3 = -1 then -(d 1 0 4) else 0
def geD (d : Nat → Nat → Nat → Int32) (j : Nat) : Nat → Nat → Nat → Int32 := if 0 ≤ d 7 j 3 then up3 d 7 j 4 (d 7 j 4 - manyI (d 4 0) (whD d) (lfD d) j) else d
theorem leave_q {x y : Int32} (h : placeOK x) (hy : 0 ≤ y) : (inB x 0 2 && !decide (0 < y)) = (decide (0 ≤ x) && decide (y = 0)) := by
  have h1 : (inB x 0 2) = decide (0 ≤ x) := by
    by_cases h0 : 0 ≤ x
    · rw [(pl_b h).mpr h0]; simp [h0]
    · rw [(pl_n h).mpr h0]; simp [h0]
  have h2 : (!decide (0 < y)) = decide (y = 0) := by
    by_cases h0 : y = 0
    · subst h0; decide
    · have h3 : 0 < y := by
        rw [Int32.lt_iff_toInt_lt]
        rw [Int32.le_iff_toInt_le] at hy
        have e0 : (0 : Int32).toInt = 0 := by decide
        have : ¬ y.toInt = 0 := fun q => h0 (Int32.toInt_inj.mp (by rw [q, e0]))
        omega
      simp [h0, h3]
  rw [h1, h2]
theorem canB_0 {n : Nat} {d : Nat → Nat → Nat → Int32} {k : Int32} {s : Nat} {b : Int32} {t : Nat} (h : ¬ d 7 s 1 ≤ tideI t) : canB n (drD d) (whD d) (lfD d) k s b t = false := by
  unfold canB
  rw [if_pos (show tideI t < drD d s from Int32.not_le.mp h)]
theorem canB_1 {n : Nat} {d : Nat → Nat → Nat → Int32} {k : Int32} {s : Nat} {b : Int32} {t : Nat} (h : d 7 s 1 ≤ tideI t) (hk : k = 1) : canB n (drD d) (whD d) (lfD d) k s b t = (decide (d 7 s 3 = -1) && freeB (fun q => d 7 q 3) b n) := by
  unfold canB
  rw [if_neg (show ¬ tideI t < drD d s from Int32.not_lt.mpr h), if_neg (by rw [hk]; decide)]
  rfl
theorem canB_2 {n : Nat} {d : Nat → Nat → Nat → Int32} {k : Int32} {s : Nat} {b : Int32} {t : Nat} (h : d 7 s 1 ≤ tideI t) (hk : k = 2) (hp : placeOK (d 7 s 3)) (hl : 0 ≤ d 7 s 4) : canB n (drD d) (whD d) (lfD d) k s b t = (inB (d 7 s 3) 0 2 && !decide (0 < d 7 s 4)) := by
  unfold canB
  rw [if_neg (show ¬ tideI t < drD d s from Int32.not_lt.mpr h), if_pos hk, leave_q hp hl]
  rfl
theorem code_sh9 {n : Nat} {c : Int32} (hn : n ≤ 8) (h : codeOK n c) (h0 : ¬ c = 0) : ∃ s : Nat, s < n ∧ shI c = nI s := by
  rcases code_sp hn h with ⟨-, h1⟩ | ⟨s, b, hs, hb, h1, h2, h3, h4⟩ | ⟨s, hs, h1, h2, h3, h4⟩
  · exact absurd h1 h0
  · exact ⟨s, hs, h2⟩
  · exact ⟨s, hs, h2⟩
theorem code_2 {n : Nat} {c : Int32} (hn : n ≤ 8) (h : codeOK n c) (h0 : ¬ c = 0) (h1 : ¬ c / 100 = 1) : c / 100 = 2 := by
  rcases code_sp hn h with ⟨-, h2⟩ | ⟨s, b, hs, hb, h2, -⟩ | ⟨s, hs, h2, -⟩
  · exact absurd h2 h0
  · exact absurd h2 h1
  · exact h2
theorem code_0 {n : Nat} {c : Int32} (hn : n ≤ 8) (h : codeOK n c) (h0 : ¬ c = 0) : ¬ c / 100 = 0 := by
  rcases code_sp hn h with ⟨-, h2⟩ | ⟨s, b, hs, hb, h2, -⟩ | ⟨s, hs, h2, -⟩
  · exact absurd h2 h0
  · rw [h2]; decide
  · rw [h2]; decide
theorem up3_row (d : Nat → Nat → Nat → Int32) (a i k : Nat) (v : Int32) : (fun q => up3 d a i k v a q k) = upd (fun q => d a q k) i v := by
  funext q
  by_cases h : q = i
  · subst h; simp [up3, upd]
  · simp [up3, upd, h]
theorem up3_row2 (d : Nat → Nat → Nat → Int32) (a i : Nat) {k k' : Nat} (v : Int32) (h : k' ≠ k) : (fun q => up3 d a i k v a q k') = fun q => d a q k' := by
  funext q
  exact up3_k d v h
set_option maxHeartbeats 4000000 in
set_option maxRecDepth 100000 in
theorem c_X0_earningInTurn {l : Launch} {D : va_G} {cy : Nat → ClassId} {ad : Nat → Nat → Nat} {nl ns : Nat} {par : Nat → Option Nat} {Rl : List (Nat × Nat)} {d : Nat → Nat → Nat → Int32} {X : va_W} (hl0 : l.stackTraces = false) (hok : cw_ok nl ns Rl) (j : Nat) (hj : j < ns) (hpl : placeOK (d 7 j 3)) : vl_Ki l D cy yX0_earningInTurn wsX0_earningInTurn { frames := 2, cells := 0, slots := 0, locals := 43 } 0 0 (cw cy ad nl ns par Rl d ++ X) [.ref (ad 1 0), .ref (ad 7 j)] (fun r w' => r = geI d j ∧ w' = cw cy ad nl ns par Rl (geD d j) ++ X) := by
  refine vl_openi hl0 (by decide) rfl (Nat.le_of_ble_eq_true rfl) rfl ?_
  intro p e s m args below meth c C0 hr hnm
  generalize hA : va_A (cw cy ad nl ns par Rl d ++ X) s.heap.size = A at C0 ⊢
  refine vl_lv (lv2 := [(0, .ref (ad 1 0)), (1, .ref (ad 7 j))]) [0, 1] rfl ?_
  have hinX0 : ∀ x ∈ u_ws RX0 TX0 7, x ∈ wsX0_earningInTurn := by decide +kernel
  have hinX2 : ∀ x ∈ u_ws RX2 TX2 5, x ∈ wsX0_earningInTurn := by decide +kernel
  refine vl_aload_n C0 dX0_earningInTurn_0 1 rfl ?_
  refine rc_getN C0 (C := RX2) (T := TX2) (N := 5) (ci := 2) hinX2 (cR7 hok (by omega)) rfl rfl 3 (by decide) (by decide +kernel) (v := .int (d 7 j 3)) (rfl) dX0_earningInTurn_1 ?_
  refine vl_calli C0 (vl_goSN C0 (As := [.int (d 7 j 3)]) (na := 1) (st := []) gX0_earningInTurn_X3_isBerth_n86 rfl rfl rfl (by decide +kernel) (by decide +kernel) (by decide +kernel) (by decide +kernel) ⟨Nat.le_of_ble_eq_true rfl, Nat.le_of_ble_eq_true rfl⟩ dX0_earningInTurn_4 (Nat.le_of_ble_eq_true rfl) ⟨Nat.le_of_ble_eq_true rfl, Nat.le_of_ble_eq_true rfl⟩ rfl rfl) (c_X3_isBerth hl0 (d 7 j 3)) (k2 := 0) (n2 := 0) (Nat.le_of_ble_eq_true rfl) (Nat.le_of_ble_eq_true rfl) (fun r9 w9 hp9 => ?_)
  obtain ⟨rfl, rfl⟩ := hp9
  refine vl_if_eq (tgt := 29) C0 dX0_earningInTurn_7 (by decide) (fun (h7 : (bI (inB (d 7 j 3) 0 2) : Int32) = (0 : Int32)) => ?_) (fun (h7 : ¬ (bI (inB (d 7 j 3) 0 2) : Int32) = (0 : Int32)) => ?_)
  · have g7 := bI_0.mp h7
    refine vl_aload_n C0 dX0_earningInTurn_29 1 rfl ?_
    refine rc_getN C0 (C := RX2) (T := TX2) (N := 5) (ci := 2) hinX2 (cR7 hok (by omega)) rfl rfl 3 (by decide) (by decide +kernel) (v := .int (d 7 j 3)) (rfl) dX0_earningInTurn_30 ?_
    refine vl_iconst (v := -1) C0 dX0_earningInTurn_33 (by decide) ?_
    refine vl_icmp_ne (tgt := 45) C0 dX0_earningInTurn_34 (by decide) (fun (h34 : ¬ (d 7 j 3 : Int32) = ((-1) : Int32)) => ?_) (fun (h34 : (d 7 j 3 : Int32) = ((-1) : Int32)) => ?_)
    · refine vl_iconst (v := 0) C0 dX0_earningInTurn_45 (by decide) ?_
      exact vl_iret C0 hA.symm hr ⟨by have z0 := (pl_n hpl).mp g7; rw [geI, if_neg z0, if_neg h34], by have z0 := (pl_n hpl).mp g7; rw [geD, if_neg z0]⟩ (Nat.le_of_ble_eq_true rfl) (Nat.le_of_ble_eq_true rfl) dX0_earningInTurn_46
    · refine vl_aload_n C0 dX0_earningInTurn_37 0 rfl ?_
      refine rc_get C0 (C := RX0) (T := TX0) (N := 7) (ci := 0) hinX0 (cR1 hok) rfl rfl 4 (by decide) (by decide +kernel) (v := .int (d 1 0 4)) (rfl) dX0_earningInTurn_38 ?_
      refine vl_ineg C0 dX0_earningInTurn_41 ?_
      refine vl_goto (tgt := 46) C0 dX0_earningInTurn_42 (by decide) ?_
      exact vl_iret C0 hA.symm hr ⟨by have z0 := (pl_n hpl).mp g7; rw [geI, if_neg z0, if_pos h34], by have z0 := (pl_n hpl).mp g7; rw [geD, if_neg z0]⟩ (Nat.le_of_ble_eq_true rfl) (Nat.le_of_ble_eq_true rfl) dX0_earningInTurn_46
  · have g7 := bI_n.mp h7
    refine vl_aload_n C0 dX0_earningInTurn_10 0 rfl ?_
    refine rc_get C0 (C := RX0) (T := TX0) (N := 7) (ci := 0) hinX0 (cR1 hok) rfl rfl 3 (by decide) (by decide +kernel) (v := .int (d 1 0 3)) (rfl) dX0_earningInTurn_11 ?_
    refine vl_aload_n C0 dX0_earningInTurn_14 1 rfl ?_
    refine vl_aload_n C0 dX0_earningInTurn_15 0 rfl ?_
    refine rc_get C0 (C := RX0) (T := TX0) (N := 7) (ci := 0) hinX0 (cR1 hok) rfl rfl 2 (by decide) (by decide +kernel) (v := .ref (ad 4 0)) (rfl) dX0_earningInTurn_16 ?_
    refine vl_aload_n C0 dX0_earningInTurn_19 1 rfl ?_
    refine rc_getN C0 (C := RX2) (T := TX2) (N := 5) (ci := 2) hinX2 (cR7 hok (by omega)) rfl rfl 3 (by decide) (by decide +kernel) (v := .int (d 7 j 3)) (rfl) dX0_earningInTurn_20 ?_
    refine rc_iald C0 (cR4 hok) rfl (place_in hpl ((pl_b hpl).mp g7)) (kn := (d 7 j 3).toNatClampNeg) (rfl) (v := d 4 0 ((d 7 j 3).toNatClampNeg)) (rfl) dX0_earningInTurn_23 ?_
    refine vl_calli C0 (vl_goVN C0 (As := [.int (d 4 0 ((d 7 j 3).toNatClampNeg))]) (na := 1) (b := ad 7 j) (st := [.int (d 1 0 3)]) (ci := 2) gX0_earningInTurn_X2_unload_n92 rfl rfl rfl (by decide +kernel) (by decide +kernel) (by decide +kernel) (by decide +kernel) (by decide +kernel) ⟨Nat.le_of_ble_eq_true rfl, Nat.le_of_ble_eq_true rfl⟩ rfl (rc_rec (cR7 hok (by omega)) rfl) dX0_earningInTurn_24 (Nat.le_of_ble_eq_true rfl) ⟨Nat.le_of_ble_eq_true rfl, Nat.le_of_ble_eq_true rfl⟩ rfl rfl) (c_X2_unload hl0 hok j (hj) (d 4 0 ((d 7 j 3).toNatClampNeg))) (k2 := 0) (n2 := 0) (Nat.le_of_ble_eq_true rfl) (Nat.le_of_ble_eq_true rfl) (fun r9 w9 hp9 => ?_)
    obtain ⟨rfl, rfl⟩ := hp9
    refine vl_imul C0 dX0_earningInTurn_27 ?_
    exact vl_iret C0 hA.symm hr ⟨by rw [geI, if_pos ((pl_b hpl).mp g7)]; rfl, by rw [geD, if_pos ((pl_b hpl).mp g7)]; rfl⟩ (Nat.le_of_ble_eq_true rfl) (Nat.le_of_ble_eq_true rfl) dX0_earningInTurn_28
set_option maxHeartbeats 4000000 in
set_option maxRecDepth 100000 in
theorem c_X0_carryOut {l : Launch} {D : va_G} {cy : Nat → ClassId} {ad : Nat → Nat → Nat} {nl ns : Nat} {par : Nat → Option Nat} {Rl : List (Nat × Nat)} {d : Nat → Nat → Nat → Int32} {X : va_W} (hl0 : l.stackTraces = false) (hok : cw_ok nl ns Rl) (h8 : ns ≤ 8) (c0 : Int32) (t : Nat) (hc : codeOK ns c0) (hc0 : ¬ c0 = 0) (hpl : ∀ q, q < ns → placeOK (d 7 q 3)) (hlf : ∀ q, q < ns → 0 ≤ d 7 q 4) : vl_Ki l D cy yX0_carryOut wsX0_carryOut { frames := 2, cells := 0, slots := 0, locals := 47 } 0 0 (cw cy ad nl ns par Rl d ++ X) [.ref (ad 1 0), .int c0, .int (tideI t)] (fun r w' => ∃ s1 : Nat, s1 < ns ∧ shI c0 = nI s1 ∧ r = bI (canB ns (drD d) (whD d) (lfD d) (c0 / 100) s1 (beI c0) t) ∧ w' = cw cy ad nl ns par Rl (if canB ns (drD d) (whD d) (lfD d) (c0 / 100) s1 (beI c0) t = true then up3 d 7 s1 3 (if c0 / 100 = 1 then beI c0 else -3) else d) ++ X) := by
  refine vl_openi hl0 (by decide) rfl (Nat.le_of_ble_eq_true rfl) rfl ?_
  intro p e s m args below meth c C0 hr hnm
  generalize hA : va_A (cw cy ad nl ns par Rl d ++ X) s.heap.size = A at C0 ⊢
  refine vl_lv (lv2 := [(0, .ref (ad 1 0)), (1, .int c0), (2, .int (tideI t))]) [0, 1, 2] rfl ?_
  have hinX2 : ∀ x ∈ u_ws RX2 TX2 5, x ∈ wsX0_carryOut := by decide +kernel
  refine vl_aload_n C0 dX0_carryOut_0 0 rfl ?_
  refine vl_iload_n C0 dX0_carryOut_1 1 rfl ?_
  refine vl_bipush (v := 10) C0 dX0_carryOut_2 (by decide) ?_
  refine vl_idiv C0 dX0_carryOut_4 (by decide) ?_
  refine vl_bipush (v := 10) C0 dX0_carryOut_5 (by decide) ?_
  refine vl_irem C0 dX0_carryOut_7 (by decide) ?_
  obtain ⟨s1, hs1, hsh⟩ := code_sh9 h8 hc hc0
  refine vl_st (st2 := [.int (nI s1), .ref (ad 1 0)]) (by rw [← hsh]; rfl) ?_
  refine vl_callq C0 (vl_goV C0 (As := [.int (nI s1)]) (na := 1) (b := ad 1 0) (st := []) (ci := 0) gX0_carryOut_X0_shipOrNull rfl rfl rfl (by decide +kernel) ⟨Nat.le_of_ble_eq_true rfl, Nat.le_of_ble_eq_true rfl⟩ rfl (rc_rec (cR1 hok) rfl) dX0_carryOut_8 (Nat.le_of_ble_eq_true rfl) ⟨Nat.le_of_ble_eq_true rfl, Nat.le_of_ble_eq_true rfl⟩ rfl rfl) (c_X0_shipOrNull hl0 hok h8 (nI s1)) (k2 := 0) (n2 := 0) (Nat.le_of_ble_eq_true rfl) (Nat.le_of_ble_eq_true rfl) (fun r9 w9 hp9 => ?_)
  obtain ⟨hr9, rfl⟩ := hp9
  have hr9 : r9 = some (ad 7 s1) := by rw [hr9, if_pos (inB_of hs1 (by omega)), nI_clamp (by omega)]
  subst hr9
  refine vl_st (st2 := [.ref (ad 7 s1)]) rfl ?_
  refine vl_astore_n (lv' := [(0, .ref (ad 1 0)), (1, .int c0), (2, .int (tideI t)), (3, .ref (ad 7 s1))]) C0 dX0_carryOut_11 [1, 2, 3, 0] (by decide) rfl ?_
  refine vl_aload_n C0 dX0_carryOut_12 3 rfl ?_
  refine vl_ifnull C0 dX0_carryOut_13 ?_
  refine vl_iload_n C0 dX0_carryOut_16 2 rfl ?_
  refine vl_aload_n C0 dX0_carryOut_17 3 rfl ?_
  refine rc_getN C0 (C := RX2) (T := TX2) (N := 5) (ci := 2) hinX2 (cR7 hok (by omega)) rfl rfl 1 (by decide) (by decide +kernel) (v := .int (d 7 s1 1)) (rfl) dX0_carryOut_18 ?_
  refine vl_icmp_ge (tgt := 26) C0 dX0_carryOut_21 (by decide) (fun (h21 : (d 7 s1 1 : Int32) ≤ (tideI t : Int32)) => ?_) (fun (h21 : ¬ (d 7 s1 1 : Int32) ≤ (tideI t : Int32)) => ?_)
  · refine vl_iload_n C0 dX0_carryOut_26 1 rfl ?_
    refine vl_bipush (v := 100) C0 dX0_carryOut_27 (by decide) ?_
    refine vl_idiv C0 dX0_carryOut_29 (by decide) ?_
    refine vl_iconst (v := 1) C0 dX0_carryOut_30 (by decide) ?_
    refine vl_icmp_ne (tgt := 46) C0 dX0_carryOut_31 (by decide) (fun (h31 : ¬ ((c0) / (100) : Int32) = (1 : Int32)) => ?_) (fun (h31 : ((c0) / (100) : Int32) = (1 : Int32)) => ?_)
    · refine vl_aload_n C0 dX0_carryOut_46 0 rfl ?_
      refine vl_aload_n C0 dX0_carryOut_47 3 rfl ?_
      refine vl_calli C0 (vl_goV C0 (As := [.ref (ad 7 s1)]) (na := 1) (b := ad 1 0) (st := []) (ci := 0) gX0_carryOut_X0_letLeave rfl rfl rfl (by decide +kernel) ⟨Nat.le_of_ble_eq_true rfl, Nat.le_of_ble_eq_true rfl⟩ rfl (rc_rec (cR1 hok) rfl) dX0_carryOut_48 (Nat.le_of_ble_eq_true rfl) ⟨Nat.le_of_ble_eq_true rfl, Nat.le_of_ble_eq_true rfl⟩ rfl rfl) (c_X0_letLeave hl0 hok s1 (hs1)) (k2 := 0) (n2 := 0) (Nat.le_of_ble_eq_true rfl) (Nat.le_of_ble_eq_true rfl) (fun r9 w9 hp9 => ?_)
      obtain ⟨rfl, rfl⟩ := hp9
      exact vl_zret C0 hA.symm hr (nb_bI _) ⟨s1, hs1, hsh, by rw [canB_2 h21 (code_2 h8 hc hc0 h31) (hpl s1 hs1) (hlf s1 hs1)], by rw [canB_2 h21 (code_2 h8 hc hc0 h31) (hpl s1 hs1) (hlf s1 hs1), if_neg h31]⟩ (Nat.le_of_ble_eq_true rfl) (Nat.le_of_ble_eq_true rfl) dX0_carryOut_51
    · refine vl_aload_n C0 dX0_carryOut_34 0 rfl ?_
      refine vl_aload_n C0 dX0_carryOut_35 3 rfl ?_
      refine vl_iload_n C0 dX0_carryOut_36 1 rfl ?_
      refine vl_bipush (v := 10) C0 dX0_carryOut_37 (by decide) ?_
      refine vl_irem C0 dX0_carryOut_39 (by decide) ?_
      refine vl_st (st2 := [.int (beI c0), .ref (ad 7 s1), .ref (ad 1 0)]) rfl ?_
      refine vl_calli C0 (vl_goV C0 (As := [.ref (ad 7 s1), .int (beI c0)]) (na := 2) (b := ad 1 0) (st := []) (ci := 0) gX0_carryOut_X0_putToBerth rfl rfl rfl (by decide +kernel) ⟨Nat.le_of_ble_eq_true rfl, Nat.le_of_ble_eq_true rfl⟩ rfl (rc_rec (cR1 hok) rfl) dX0_carryOut_40 (Nat.le_of_ble_eq_true rfl) ⟨Nat.le_of_ble_eq_true rfl, Nat.le_of_ble_eq_true rfl⟩ rfl rfl) (c_X0_putToBerth hl0 hok h8 s1 (hs1) (beI c0)) (k2 := 0) (n2 := 0) (Nat.le_of_ble_eq_true rfl) (Nat.le_of_ble_eq_true rfl) (fun r9 w9 hp9 => ?_)
      obtain ⟨rfl, rfl⟩ := hp9
      refine vl_goto (tgt := 51) C0 dX0_carryOut_43 (by decide) ?_
      exact vl_zret C0 hA.symm hr (nb_bI _) ⟨s1, hs1, hsh, by rw [canB_1 h21 h31], by rw [canB_1 h21 h31, if_pos h31]⟩ (Nat.le_of_ble_eq_true rfl) (Nat.le_of_ble_eq_true rfl) dX0_carryOut_51
  · refine vl_iconst (v := 0) C0 dX0_carryOut_24 (by decide) ?_
    exact vl_zret C0 hA.symm hr rfl ⟨s1, hs1, hsh, by rw [canB_0 h21]; rfl, by rw [canB_0 h21]; rfl⟩ (Nat.le_of_ble_eq_true rfl) (Nat.le_of_ble_eq_true rfl) dX0_carryOut_25
end VC3
