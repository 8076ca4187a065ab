section VC2
theorem vp_in_8 {v : Int32} (h1 : ¬ v < 0) (h2 : ¬ 8 ≤ v) : vp_in v 8 := by
  rw [Int32.lt_iff_toInt_lt] at h1
  rw [Int32.le_iff_toInt_le] at h2
  have e0 : (0 : Int32).toInt = 0 := by decide
  have e8 : (8 : Int32).toInt = 8 := by decide
  exact vp_in_iff.mpr (by omega)
theorem vp_in_9 {v : Int32} (h1 : ¬ v < 0) (h2 : ¬ 9 ≤ v) : vp_in v 9 := by
  rw [Int32.lt_iff_toInt_lt] at h1
  rw [Int32.le_iff_toInt_le] at h2
  have e0 : (0 : Int32).toInt = 0 := by decide
  have e8 : (9 : Int32).toInt = 9 := by decide
  exact vp_in_iff.mpr (by omega)
theorem own_t {nl : Nat} {mm : Nat → Nat → Int32} {d : Nat → Nat → Nat → Int32} {q t : Nat} (h : rLn nl mm d) (hq : q < nl) (ht : t < 30) (hd : decide (¬ d 5 q 3 &&& 1 <<< (nI t &&& 31) = 0) = true) : ¬ mm 11 (30 * q + t) = -1 := by
  rw [(h q hq).2.1, decide_eq_true_eq, bset_has ht] at hd
  simpa [ownP] using hd
theorem own_f {nl : Nat} {mm : Nat → Nat → Int32} {d : Nat → Nat → Nat → Int32} {q t : Nat} (h : rLn nl mm d) (hq : q < nl) (ht : t < 30) (hd : decide (¬ d 5 q 3 &&& 1 <<< (nI t &&& 31) = 0) = false) : mm 11 (30 * q + t) = -1 := by
  rw [(h q hq).2.1, decide_eq_false_iff_not, bset_has ht] at hd
  simpa [ownP] using hd
def givD (d : Nat → Nat → Nat → Int32) (j t : Nat) (c : Int32) (ah : Bool) : Nat → Nat → Nat → Int32 := up3 (up3 (if ah = true then up3 d 5 j 4 (d 5 j 4 ||| 1 <<< (nI t &&& 31)) else d) 5 j 3 (d 5 j 3 ||| 1 <<< (nI t &&& 31))) 6 j t c
def ahC (par : Nat → Option Nat) (d : Nat → Nat → Nat → Int32) (j t : Nat) : Bool := decide (¬ par j = none) && decide (nI t < d 5 j 5)
def drpD (d : Nat → Nat → Nat → Int32) (j t : Nat) : Nat → Nat → Nat → Int32 := up3 (up3 d 5 j 3 (d 5 j 3 &&& (1 <<< (nI t &&& 31) ^^^ -1))) 5 j 4 (d 5 j 4 &&& (1 <<< (nI t &&& 31) ^^^ -1))
set_option maxHeartbeats 4000000 in
set_option maxRecDepth 100000 in
theorem c_X1_orderFor {l : Launch} {D : va_G} {cy : Nat → ClassId} {ad : Nat → Nat → Nat} {nl ns : Nat} {par : Nat → Option Nat} {Rl : List (Nat × Nat)} {d : Nat → Nat → Nat → Int32} {X : va_W} {mm : Nat → Nat → Int32} (hl0 : l.stackTraces = false) (hok : cw_ok nl ns Rl) (j t : Nat) (hln : rLn nl mm d) (ht : mTree nl par mm) (h9 : nl ≤ 9) (hj : j < nl) (h3 : t < 30) : vl_Ki l D cy yX1_orderFor wsX1_orderFor { frames := 1, cells := 0, slots := 0, locals := 21 } 0 0 (cw cy ad nl ns par Rl d ++ X) [.ref (ad 5 j), .int (nI t)] (fun r w' => r = ordX (mm 11) par t (some j) ∧ w' = cw cy ad nl ns par Rl d ++ X) := by
  refine vl_openi hl0 (by decide) rfl (Nat.le_of_ble_eq_true rfl) rfl ?_
  intro p e s m args below meth c C0 hr hnm
  generalize hA : va_A (cw cy ad nl ns par Rl d ++ X) s.heap.size = A at C0 ⊢
  refine vl_lv (lv2 := [(0, .ref (ad 5 j)), (1, .int (nI t))]) [0, 1] rfl ?_
  have hinX1 : ∀ x ∈ u_ws RX1 TX1 6, x ∈ wsX1_orderFor := by decide +kernel
  refine vl_aload_n C0 dX1_orderFor_0 0 rfl ?_
  refine vl_astore_n (lv' := [(0, .ref (ad 5 j)), (1, .int (nI t)), (2, .ref (ad 5 j))]) C0 dX1_orderFor_1 [1, 2, 0] (by decide) rfl ?_
  refine vl_loop (σ := Option Nat) (fun _ => cw cy ad nl ns par Rl d ++ X) (fun x => [(0, .ref (ad 5 j)), (1, .int (nI t)), (2, va_rf (x.map (ad 5)))]) (fun x => (∀ q, x = some q → q < nl) ∧ ordX (mm 11) par t x = ordX (mm 11) par t (some j)) muO ?_ (some j) ⟨fun q hq => by cases hq; exact hj, rfl⟩
  intro x hx ih
  rcases x with _ | q
  · refine vl_lv (lv2 := [(0, .ref (ad 5 j)), (1, .int (nI t)), (2, .null)]) [0, 1, 2] rfl ?_
    refine vl_aload_nN C0 dX1_orderFor_2 2 rfl ?_
    refine vl_ifnullN (tgt := 29) C0 dX1_orderFor_3 (by decide) ?_
    refine vl_iconst (v := 0) C0 dX1_orderFor_29 (by decide) ?_
    exact vl_iret C0 hA.symm hr ⟨hx.2, rfl⟩ (Nat.le_of_ble_eq_true rfl) (Nat.le_of_ble_eq_true rfl) dX1_orderFor_30
  · refine vl_lv (lv2 := [(0, .ref (ad 5 j)), (1, .int (nI t)), (2, .ref (ad 5 q))]) [0, 1, 2] rfl ?_
    have hq : q < nl := hx.1 q rfl
    refine vl_aload_n C0 dX1_orderFor_2 2 rfl ?_
    refine vl_ifnull C0 dX1_orderFor_3 ?_
    refine vl_aload_n C0 dX1_orderFor_6 2 rfl ?_
    refine vl_iload_n C0 dX1_orderFor_7 1 rfl ?_
    refine vl_calli C0 (vl_goV C0 (As := [.int (nI t)]) (na := 1) (b := ad 5 q) (st := []) (ci := 1) gX1_orderFor_X1_hasOwn rfl rfl rfl (by decide +kernel) ⟨Nat.le_of_ble_eq_true rfl, Nat.le_of_ble_eq_true rfl⟩ rfl (rc_rec (cR5 hok (by omega)) rfl) dX1_orderFor_8 (Nat.le_of_ble_eq_true rfl) ⟨Nat.le_of_ble_eq_true rfl, Nat.le_of_ble_eq_true rfl⟩ rfl rfl) (c_X1_hasOwn hl0 hok q (hq) (nI t)) (k2 := 0) (n2 := 0) (Nat.le_of_ble_eq_true rfl) (Nat.le_of_ble_eq_true rfl) (fun r9 w9 hp9 => ?_)
    obtain ⟨rfl, rfl⟩ := hp9
    refine vl_if_eq (tgt := 21) C0 dX1_orderFor_11 (by decide) (fun (h11 : (bI (decide (¬ d 5 q 3 &&& 1 <<< (nI t &&& 31) = 0)) : Int32) = (0 : Int32)) => ?_) (fun (h11 : ¬ (bI (decide (¬ d 5 q 3 &&& 1 <<< (nI t &&& 31) = 0)) : Int32) = (0 : Int32)) => ?_)
    · have g11 := bI_0.mp h11
      rcases hpq : par q with _ | r
      · skip
        refine vl_aload_n C0 dX1_orderFor_21 2 rfl ?_
        refine rc_get C0 (C := RX1) (T := TX1) (N := 6) (ci := 1) hinX1 (cR5 hok (by omega)) rfl rfl 0 (by decide) (by decide +kernel) (v := .null) (by rw [hpq]; rfl) dX1_orderFor_22 ?_
        refine vl_astore_nN (lv' := [(0, .ref (ad 5 j)), (1, .int (nI t)), (2, .null)]) C0 dX1_orderFor_25 [1, 2, 0] (by decide) rfl ?_
        refine vl_goto (tgt := 2) C0 dX1_orderFor_26 (by decide) ?_
        exact ih none ⟨fun z hz => (by cases hz), by rw [← hpq, ← hx.2]; exact (ordX_up ht.1 (by omega) (own_f hln hq h3 g11)).symm⟩ (by rw [← hpq]; exact muO_lt ht.1 q)
      · skip
        refine vl_aload_n C0 dX1_orderFor_21 2 rfl ?_
        refine rc_get C0 (C := RX1) (T := TX1) (N := 6) (ci := 1) hinX1 (cR5 hok (by omega)) rfl rfl 0 (by decide) (by decide +kernel) (v := .ref (ad 5 r)) (by rw [hpq]; rfl) dX1_orderFor_22 ?_
        refine vl_astore_n (lv' := [(0, .ref (ad 5 j)), (1, .int (nI t)), (2, .ref (ad 5 r))]) C0 dX1_orderFor_25 [1, 2, 0] (by decide) rfl ?_
        refine vl_goto (tgt := 2) C0 dX1_orderFor_26 (by decide) ?_
        exact ih (some r) ⟨fun z hz => (by cases hz; have := ht.1 q r hpq; omega), by rw [← hpq, ← hx.2]; exact (ordX_up ht.1 (by omega) (own_f hln hq h3 g11)).symm⟩ (by rw [← hpq]; exact muO_lt ht.1 q)
    · have g11 := bI_n.mp h11
      refine vl_aload_n C0 dX1_orderFor_14 2 rfl ?_
      refine rc_get C0 (C := RX1) (T := TX1) (N := 6) (ci := 1) hinX1 (cR5 hok (by omega)) rfl rfl 2 (by decide) (by decide +kernel) (v := .ref (ad 6 q)) (rfl) dX1_orderFor_15 ?_
      refine vl_iload_n C0 dX1_orderFor_18 1 rfl ?_
      refine rc_iald C0 (cR6 hok (by omega)) rfl (vp_in_nI h3 (by decide)) (kn := t) (nI_clamp (by omega)) (v := mm 11 (30 * q + t)) ((hln q hq).2.2.2.2 t h3 (own_t hln hq h3 g11)) dX1_orderFor_19 ?_
      exact vl_iret C0 hA.symm hr ⟨by rw [← hx.2]; exact (ordX_own (own_t hln hq h3 g11)).symm, rfl⟩ (Nat.le_of_ble_eq_true rfl) (Nat.le_of_ble_eq_true rfl) dX1_orderFor_20
set_option maxHeartbeats 4000000 in
set_option maxRecDepth 100000 in
theorem c_X1_give {l : Launch} {D : va_G} {cy : Nat → ClassId} {ad : Nat → Nat → Nat} {nl ns : Nat} {par : Nat → Option Nat} {Rl : List (Nat × Nat)} {d : Nat → Nat → Nat → Int32} {X : va_W} (hl0 : l.stackTraces = false) (hok : cw_ok nl ns Rl) (j t : Nat) (cd : Int32) (hj : j < nl) (h3 : t < 30) : vl_Ki l D cy yX1_give wsX1_give { frames := 0, cells := 0, slots := 0, locals := 0 } 0 0 (cw cy ad nl ns par Rl d ++ X) [.ref (ad 5 j), .int (nI t), .int cd] (fun r w' => r = bI (ahC par d j t) ∧ w' = cw cy ad nl ns par Rl (givD d j t cd (ahC par d j t)) ++ X) := by
  refine vl_openi hl0 (by decide) rfl (Nat.le_of_ble_eq_true rfl) rfl ?_
  intro p e s m args below meth c C0 hr hnm
  generalize hA : va_A (cw cy ad nl ns par Rl d ++ X) s.heap.size = A at C0 ⊢
  refine vl_lv (lv2 := [(0, .ref (ad 5 j)), (1, .int (nI t)), (2, .int cd)]) [0, 1, 2] rfl ?_
  have hinX1 : ∀ x ∈ u_ws RX1 TX1 6, x ∈ wsX1_give := by decide +kernel
  rcases hpj : par j with _ | q
  · skip
    refine vl_aload_n C0 dX1_give_0 0 rfl ?_
    refine rc_get C0 (C := RX1) (T := TX1) (N := 6) (ci := 1) hinX1 (cR5 hok (by omega)) rfl rfl 0 (by decide) (by decide +kernel) (v := .null) (by rw [hpj]; rfl) dX1_give_1 ?_
    refine vl_ifnullN (tgt := 19) C0 dX1_give_4 (by decide) ?_
    refine vl_iconst (v := 0) C0 dX1_give_19 (by decide) ?_
    refine vl_istore_n (lv' := [(0, .ref (ad 5 j)), (1, .int (nI t)), (2, .int cd), (3, .int 0)]) C0 dX1_give_20 [1, 2, 3, 0] (by decide) rfl ?_
    refine vl_iload_n C0 dX1_give_21 3 rfl ?_
    refine vl_if_eq (tgt := 37) C0 dX1_give_22 (by decide) (fun (h22 : (0 : Int32) = (0 : Int32)) => ?_) (fun (h22 : ¬ (0 : Int32) = (0 : Int32)) => absurd h22 (by decide))
    refine vl_aload_n C0 dX1_give_37 0 rfl ?_
    refine vl_dup C0 dX1_give_38 rfl ?_
    refine rc_get C0 (C := RX1) (T := TX1) (N := 6) (ci := 1) hinX1 (cR5 hok (by omega)) rfl rfl 3 (by decide) (by decide +kernel) (v := .int (d 5 j 3)) (rfl) dX1_give_39 ?_
    refine vl_iconst (v := 1) C0 dX1_give_42 (by decide) ?_
    refine vl_iload_n C0 dX1_give_43 1 rfl ?_
    refine vl_ishl C0 dX1_give_44 ?_
    refine vl_ior C0 dX1_give_45 ?_
    refine rc_put C0 (C := RX1) (T := TX1) (N := 6) (ci := 1) hinX1 tyX1 tyX1_ok nmX1 hok.1 (cR5 hok (by omega)) rfl rfl 3 (by decide) (by decide +kernel) rfl rfl (Nat.le_of_ble_eq_true rfl) rfl dX1_give_46 ?_
    refine vl_aload_n C0 dX1_give_49 0 rfl ?_
    refine rc_get C0 (C := RX1) (T := TX1) (N := 6) (ci := 1) hinX1 (cR5 hok (by omega)) rfl rfl 2 (by decide) (by decide +kernel) (v := .ref (ad 6 j)) (rfl) dX1_give_50 ?_
    refine vl_iload_n C0 dX1_give_53 1 rfl ?_
    refine vl_iload_n C0 dX1_give_54 2 rfl ?_
    refine rc_iast C0 hok.1 (cR6 hok (by omega)) (fun _ => rfl) (vp_in_nI h3 (by decide)) (kn := t) (nI_clamp (by omega)) dX1_give_55 ?_
    refine vl_iload_n C0 dX1_give_56 3 rfl ?_
    exact vl_zret C0 hA.symm hr rfl ⟨by simp [ahC, givD, bI, ← Int32.not_le, hpj], by simp [ahC, givD, bI, ← Int32.not_le, hpj]⟩ (Nat.le_of_ble_eq_true rfl) (Nat.le_of_ble_eq_true rfl) dX1_give_57
  · skip
    refine vl_aload_n C0 dX1_give_0 0 rfl ?_
    refine rc_get C0 (C := RX1) (T := TX1) (N := 6) (ci := 1) hinX1 (cR5 hok (by omega)) rfl rfl 0 (by decide) (by decide +kernel) (v := .ref (ad 5 q)) (by rw [hpj]; rfl) dX1_give_1 ?_
    refine vl_ifnull C0 dX1_give_4 ?_
    refine vl_aload_n C0 dX1_give_7 0 rfl ?_
    refine rc_get C0 (C := RX1) (T := TX1) (N := 6) (ci := 1) hinX1 (cR5 hok (by omega)) rfl rfl 5 (by decide) (by decide +kernel) (v := .int (d 5 j 5)) (rfl) dX1_give_8 ?_
    refine vl_iload_n C0 dX1_give_11 1 rfl ?_
    refine vl_icmp_le (tgt := 19) C0 dX1_give_12 (by decide) (fun (h12 : (d 5 j 5 : Int32) ≤ (nI t : Int32)) => ?_) (fun (h12 : ¬ (d 5 j 5 : Int32) ≤ (nI t : Int32)) => ?_)
    · refine vl_iconst (v := 0) C0 dX1_give_19 (by decide) ?_
      refine vl_istore_n (lv' := [(0, .ref (ad 5 j)), (1, .int (nI t)), (2, .int cd), (3, .int 0)]) C0 dX1_give_20 [1, 2, 3, 0] (by decide) rfl ?_
      refine vl_iload_n C0 dX1_give_21 3 rfl ?_
      refine vl_if_eq (tgt := 37) C0 dX1_give_22 (by decide) (fun (h22 : (0 : Int32) = (0 : Int32)) => ?_) (fun (h22 : ¬ (0 : Int32) = (0 : Int32)) => absurd h22 (by decide))
      refine vl_aload_n C0 dX1_give_37 0 rfl ?_
      refine vl_dup C0 dX1_give_38 rfl ?_
      refine rc_get C0 (C := RX1) (T := TX1) (N := 6) (ci := 1) hinX1 (cR5 hok (by omega)) rfl rfl 3 (by decide) (by decide +kernel) (v := .int (d 5 j 3)) (rfl) dX1_give_39 ?_
      refine vl_iconst (v := 1) C0 dX1_give_42 (by decide) ?_
      refine vl_iload_n C0 dX1_give_43 1 rfl ?_
      refine vl_ishl C0 dX1_give_44 ?_
      refine vl_ior C0 dX1_give_45 ?_
      refine rc_put C0 (C := RX1) (T := TX1) (N := 6) (ci := 1) hinX1 tyX1 tyX1_ok nmX1 hok.1 (cR5 hok (by omega)) rfl rfl 3 (by decide) (by decide +kernel) rfl rfl (Nat.le_of_ble_eq_true rfl) rfl dX1_give_46 ?_
      refine vl_aload_n C0 dX1_give_49 0 rfl ?_
      refine rc_get C0 (C := RX1) (T := TX1) (N := 6) (ci := 1) hinX1 (cR5 hok (by omega)) rfl rfl 2 (by decide) (by decide +kernel) (v := .ref (ad 6 j)) (rfl) dX1_give_50 ?_
      refine vl_iload_n C0 dX1_give_53 1 rfl ?_
      refine vl_iload_n C0 dX1_give_54 2 rfl ?_
      refine rc_iast C0 hok.1 (cR6 hok (by omega)) (fun _ => rfl) (vp_in_nI h3 (by decide)) (kn := t) (nI_clamp (by omega)) dX1_give_55 ?_
      refine vl_iload_n C0 dX1_give_56 3 rfl ?_
      exact vl_zret C0 hA.symm hr rfl ⟨by simp [ahC, givD, bI, ← Int32.not_le, hpj, h12], by simp [ahC, givD, bI, ← Int32.not_le, hpj, h12]⟩ (Nat.le_of_ble_eq_true rfl) (Nat.le_of_ble_eq_true rfl) dX1_give_57
    · refine vl_iconst (v := 1) C0 dX1_give_15 (by decide) ?_
      refine vl_goto (tgt := 20) C0 dX1_give_16 (by decide) ?_
      refine vl_istore_n (lv' := [(0, .ref (ad 5 j)), (1, .int (nI t)), (2, .int cd), (3, .int 1)]) C0 dX1_give_20 [1, 2, 3, 0] (by decide) rfl ?_
      refine vl_iload_n C0 dX1_give_21 3 rfl ?_
      refine vl_if_eq (tgt := 37) C0 dX1_give_22 (by decide) (fun (h22 : (1 : Int32) = (0 : Int32)) => absurd h22 (by decide)) (fun (h22 : ¬ (1 : Int32) = (0 : Int32)) => ?_)
      refine vl_aload_n C0 dX1_give_25 0 rfl ?_
      refine vl_dup C0 dX1_give_26 rfl ?_
      refine rc_get C0 (C := RX1) (T := TX1) (N := 6) (ci := 1) hinX1 (cR5 hok (by omega)) rfl rfl 4 (by decide) (by decide +kernel) (v := .int (d 5 j 4)) (rfl) dX1_give_27 ?_
      refine vl_iconst (v := 1) C0 dX1_give_30 (by decide) ?_
      refine vl_iload_n C0 dX1_give_31 1 rfl ?_
      refine vl_ishl C0 dX1_give_32 ?_
      refine vl_ior C0 dX1_give_33 ?_
      refine rc_put C0 (C := RX1) (T := TX1) (N := 6) (ci := 1) hinX1 tyX1 tyX1_ok nmX1 hok.1 (cR5 hok (by omega)) rfl rfl 4 (by decide) (by decide +kernel) rfl rfl (Nat.le_of_ble_eq_true rfl) rfl dX1_give_34 ?_
      refine vl_aload_n C0 dX1_give_37 0 rfl ?_
      refine vl_dup C0 dX1_give_38 rfl ?_
      refine rc_get C0 (C := RX1) (T := TX1) (N := 6) (ci := 1) hinX1 (cR5 hok (by omega)) rfl rfl 3 (by decide) (by decide +kernel) (v := .int (d 5 j 3)) (congrArg (fun z => some (Value.int z)) (by simp [up3, upd])) dX1_give_39 ?_
      refine vl_iconst (v := 1) C0 dX1_give_42 (by decide) ?_
      refine vl_iload_n C0 dX1_give_43 1 rfl ?_
      refine vl_ishl C0 dX1_give_44 ?_
      refine vl_ior C0 dX1_give_45 ?_
      refine rc_put C0 (C := RX1) (T := TX1) (N := 6) (ci := 1) hinX1 tyX1 tyX1_ok nmX1 hok.1 (cR5 hok (by omega)) rfl rfl 3 (by decide) (by decide +kernel) rfl rfl (Nat.le_of_ble_eq_true rfl) rfl dX1_give_46 ?_
      refine vl_aload_n C0 dX1_give_49 0 rfl ?_
      refine rc_get C0 (C := RX1) (T := TX1) (N := 6) (ci := 1) hinX1 (cR5 hok (by omega)) rfl rfl 2 (by decide) (by decide +kernel) (v := .ref (ad 6 j)) (rfl) dX1_give_50 ?_
      refine vl_iload_n C0 dX1_give_53 1 rfl ?_
      refine vl_iload_n C0 dX1_give_54 2 rfl ?_
      refine rc_iast C0 hok.1 (cR6 hok (by omega)) (fun _ => rfl) (vp_in_nI h3 (by decide)) (kn := t) (nI_clamp (by omega)) dX1_give_55 ?_
      refine vl_iload_n C0 dX1_give_56 3 rfl ?_
      exact vl_zret C0 hA.symm hr rfl ⟨by simp [ahC, givD, bI, ← Int32.not_le, hpj, h12], by simp [ahC, givD, bI, ← Int32.not_le, hpj, h12]⟩ (Nat.le_of_ble_eq_true rfl) (Nat.le_of_ble_eq_true rfl) dX1_give_57
set_option maxHeartbeats 4000000 in
set_option maxRecDepth 100000 in
theorem c_X1_drop {l : Launch} {D : va_G} {cy : Nat → ClassId} {ad : Nat → Nat → Nat} {nl ns : Nat} {par : Nat → Option Nat} {Rl : List (Nat × Nat)} {d : Nat → Nat → Nat → Int32} {X : va_W} (hl0 : l.stackTraces = false) (hok : cw_ok nl ns Rl) (j t : Nat) (hj : j < nl) : vl_Ki l D cy yX1_drop wsX1_drop { frames := 1, cells := 0, slots := 0, locals := 21 } 0 0 (cw cy ad nl ns par Rl d ++ X) [.ref (ad 5 j), .int (nI t)] (fun r w' => r = bI (decide (¬ d 5 j 3 &&& 1 <<< (nI t &&& 31) = 0)) ∧ w' = cw cy ad nl ns par Rl (drpD d j t) ++ X) := by
  refine vl_openi hl0 (by decide) rfl (Nat.le_of_ble_eq_true rfl) rfl ?_
  intro p e s m args below meth c C0 hr hnm
  generalize hA : va_A (cw cy ad nl ns par Rl d ++ X) s.heap.size = A at C0 ⊢
  refine vl_lv (lv2 := [(0, .ref (ad 5 j)), (1, .int (nI t))]) [0, 1] rfl ?_
  have hinX1 : ∀ x ∈ u_ws RX1 TX1 6, x ∈ wsX1_drop := by decide +kernel
  refine vl_aload_n C0 dX1_drop_0 0 rfl ?_
  refine vl_iload_n C0 dX1_drop_1 1 rfl ?_
  refine vl_calli C0 (vl_goV C0 (As := [.int (nI t)]) (na := 1) (b := ad 5 j) (st := []) (ci := 1) gX1_drop_X1_hasOwn rfl rfl rfl (by decide +kernel) ⟨Nat.le_of_ble_eq_true rfl, Nat.le_of_ble_eq_true rfl⟩ rfl (rc_rec (cR5 hok (by omega)) rfl) dX1_drop_2 (Nat.le_of_ble_eq_true rfl) ⟨Nat.le_of_ble_eq_true rfl, Nat.le_of_ble_eq_true rfl⟩ rfl rfl) (c_X1_hasOwn hl0 hok j (hj) (nI t)) (k2 := 0) (n2 := 0) (Nat.le_of_ble_eq_true rfl) (Nat.le_of_ble_eq_true rfl) (fun r9 w9 hp9 => ?_)
  obtain ⟨rfl, rfl⟩ := hp9
  refine vl_istore_n (lv' := [(0, .ref (ad 5 j)), (1, .int (nI t)), (2, .int (bI (decide (¬ d 5 j 3 &&& 1 <<< (nI t &&& 31) = 0))))]) C0 dX1_drop_5 [1, 2, 0] (by decide) rfl ?_
  refine vl_aload_n C0 dX1_drop_6 0 rfl ?_
  refine vl_dup C0 dX1_drop_7 rfl ?_
  refine rc_get C0 (C := RX1) (T := TX1) (N := 6) (ci := 1) hinX1 (cR5 hok (by omega)) rfl rfl 3 (by decide) (by decide +kernel) (v := .int (d 5 j 3)) (rfl) dX1_drop_8 ?_
  refine vl_iconst (v := 1) C0 dX1_drop_11 (by decide) ?_
  refine vl_iload_n C0 dX1_drop_12 1 rfl ?_
  refine vl_ishl C0 dX1_drop_13 ?_
  refine vl_iconst (v := -1) C0 dX1_drop_14 (by decide) ?_
  refine vl_ixor C0 dX1_drop_15 ?_
  refine vl_iand C0 dX1_drop_16 ?_
  refine rc_put C0 (C := RX1) (T := TX1) (N := 6) (ci := 1) hinX1 tyX1 tyX1_ok nmX1 hok.1 (cR5 hok (by omega)) rfl rfl 3 (by decide) (by decide +kernel) rfl rfl (Nat.le_of_ble_eq_true rfl) rfl dX1_drop_17 ?_
  refine vl_aload_n C0 dX1_drop_20 0 rfl ?_
  refine vl_dup C0 dX1_drop_21 rfl ?_
  refine rc_get C0 (C := RX1) (T := TX1) (N := 6) (ci := 1) hinX1 (cR5 hok (by omega)) rfl rfl 4 (by decide) (by decide +kernel) (v := .int (d 5 j 4)) (congrArg (fun z => some (Value.int z)) (by simp [up3, upd])) dX1_drop_22 ?_
  refine vl_iconst (v := 1) C0 dX1_drop_25 (by decide) ?_
  refine vl_iload_n C0 dX1_drop_26 1 rfl ?_
  refine vl_ishl C0 dX1_drop_27 ?_
  refine vl_iconst (v := -1) C0 dX1_drop_28 (by decide) ?_
  refine vl_ixor C0 dX1_drop_29 ?_
  refine vl_iand C0 dX1_drop_30 ?_
  refine rc_put C0 (C := RX1) (T := TX1) (N := 6) (ci := 1) hinX1 tyX1 tyX1_ok nmX1 hok.1 (cR5 hok (by omega)) rfl rfl 4 (by decide) (by decide +kernel) rfl rfl (Nat.le_of_ble_eq_true rfl) rfl dX1_drop_31 ?_
  refine vl_iload_n C0 dX1_drop_34 2 rfl ?_
  exact vl_zret C0 hA.symm hr (nb_bI _) ⟨rfl, rfl⟩ (Nat.le_of_ble_eq_true rfl) (Nat.le_of_ble_eq_true rfl) dX1_drop_35
set_option maxHeartbeats 4000000 in
set_option maxRecDepth 100000 in
theorem c_X0_shipOrNull {l : Launch} {D : va_G} {cy : Nat → ClassId} {ad : Nat → Nat → Nat} {nl ns : Nat} {par : Nat → Option Nat} {Rl : List (Nat × Nat)} {d : Nat → Nat → Nat → Int32} {X : va_W} (hl0 : l.stackTraces = false) (hok : cw_ok nl ns Rl) (h8 : ns ≤ 8) (k9 : Int32) : vl_Kq l D cy yX0_shipOrNull wsX0_shipOrNull { frames := 0, cells := 0, slots := 0, locals := 0 } 0 0 (cw cy ad nl ns par Rl d ++ X) [.ref (ad 1 0), .int k9] (fun r w' => r = (if inB k9 0 (nI ns - 1) = true then some (ad 7 k9.toNatClampNeg) else none) ∧ w' = cw cy ad nl ns par Rl d ++ X) := by
  refine vl_openq hl0 (by decide) rfl (Nat.le_of_ble_eq_true rfl) rfl ?_
  intro p e s m args below meth c C0 hr hnm
  generalize hA : va_A (cw cy ad nl ns par Rl d ++ X) s.heap.size = A at C0 ⊢
  refine vl_lv (lv2 := [(0, .ref (ad 1 0)), (1, .int k9)]) [0, 1] rfl ?_
  have hinX0 : ∀ x ∈ u_ws RX0 TX0 7, x ∈ wsX0_shipOrNull := by decide +kernel
  refine vl_iload_n C0 dX0_shipOrNull_0 1 rfl ?_
  refine vl_if_lt (tgt := 22) C0 dX0_shipOrNull_1 (by decide) (fun (h1 : (k9 : Int32) < (0 : Int32)) => ?_) (fun (h1 : ¬ (k9 : Int32) < (0 : Int32)) => ?_)
  · refine vl_null C0 dX0_shipOrNull_22 ?_
    exact vl_aret C0 hA.symm (r := none) hr ⟨by rw [if_neg (fun q => Int32.not_le.mpr h1 (inB_t q).1)], rfl⟩ (Nat.le_of_ble_eq_true rfl) (Nat.le_of_ble_eq_true rfl) dX0_shipOrNull_23
  · refine vl_iload_n C0 dX0_shipOrNull_4 1 rfl ?_
    refine vl_aload_n C0 dX0_shipOrNull_5 0 rfl ?_
    refine rc_get C0 (C := RX0) (T := TX0) (N := 7) (ci := 0) hinX0 (cR1 hok) rfl rfl 0 (by decide) (by decide +kernel) (v := .ref (ad 3 0)) (rfl) dX0_shipOrNull_6 ?_
    refine rc_alen C0 3 (cR3 hok) rfl rfl (v := 8) rfl dX0_shipOrNull_9 ?_
    refine vl_icmp_ge (tgt := 22) C0 dX0_shipOrNull_10 (by decide) (fun (h10 : (8 : Int32) ≤ (k9 : Int32)) => ?_) (fun (h10 : ¬ (8 : Int32) ≤ (k9 : Int32)) => ?_)
    · refine vl_null C0 dX0_shipOrNull_22 ?_
      exact vl_aret C0 hA.symm (r := none) hr ⟨by rw [if_neg (fun q => by obtain ⟨j, hj, e⟩ := inB_nS h8 q; subst e; exact nI_ge (show j < 8 by omega) (by decide) h10)], rfl⟩ (Nat.le_of_ble_eq_true rfl) (Nat.le_of_ble_eq_true rfl) dX0_shipOrNull_23
    · refine vl_aload_n C0 dX0_shipOrNull_13 0 rfl ?_
      refine rc_get C0 (C := RX0) (T := TX0) (N := 7) (ci := 0) hinX0 (cR1 hok) rfl rfl 0 (by decide) (by decide +kernel) (v := .ref (ad 3 0)) (rfl) dX0_shipOrNull_14 ?_
      refine vl_iload_n C0 dX0_shipOrNull_17 1 rfl ?_
      obtain ⟨k, hk8, hk9⟩ : ∃ k : Nat, k < 8 ∧ k9 = nI k := vp_in_of (vp_in_8 h1 h10) (by decide)
      subst hk9
      by_cases hks : k < ns
      · skip
        refine rc_aldS C0 (cR3 hok) (vp_in_nI hk8 (by decide)) (kn := k) (nI_clamp (by omega)) (v := .ref (ad 7 k)) (by rw [if_pos hks]; rfl) dX0_shipOrNull_18 ?_
        refine vl_goto (tgt := 23) C0 dX0_shipOrNull_19 (by decide) ?_
        exact vl_aret C0 hA.symm (r := some (ad 7 k)) hr ⟨by rw [if_pos (inB_of hks (by omega)), nI_clamp (by omega)], rfl⟩ (Nat.le_of_ble_eq_true rfl) (Nat.le_of_ble_eq_true rfl) dX0_shipOrNull_23
      · skip
        refine rc_aldS C0 (cR3 hok) (vp_in_nI hk8 (by decide)) (kn := k) (nI_clamp (by omega)) (v := .null) (by rw [if_neg hks]; rfl) dX0_shipOrNull_18 ?_
        refine vl_goto (tgt := 23) C0 dX0_shipOrNull_19 (by decide) ?_
        exact vl_aret C0 hA.symm (r := none) hr ⟨by rw [if_neg (fun q => hks (by obtain ⟨j, hj, e⟩ := inB_nS h8 q; rw [(nI_eq (by omega) (by omega)).mp e]; exact hj))], rfl⟩ (Nat.le_of_ble_eq_true rfl) (Nat.le_of_ble_eq_true rfl) dX0_shipOrNull_23
theorem free_all {wh : Nat → Int32} {b : Int32} : ∀ n : Nat, (∀ i, i < n → ¬ wh i = b) → freeB wh b n = true := by
  intro n
  induction n with
  | zero => intro _; rfl
  | succ n ih => intro h; rw [freeB, ih fun i hi => h i (by omega)]; simp [h n (Nat.lt_succ_self n)]
theorem free_not {wh : Nat → Int32} {b : Int32} {k : Nat} (h : wh k = b) : ∀ n : Nat, k < n → freeB wh b n = false := by
  intro n
  induction n with
  | zero => intro hk; exact absurd hk (Nat.not_lt_zero _)
  | succ n ih =>
    intro hk
    rw [freeB]
    by_cases hkn : k = n
    · subst hkn; simp [h]
    · rw [ih (by omega)]; rfl
set_option maxHeartbeats 4000000 in
set_option maxRecDepth 100000 in
theorem c_X0_isTaken {l : Launch} {D : va_G} {cy : Nat → ClassId} {ad : Nat → Nat → Nat} {nl ns : Nat} {par : Nat → Option Nat} {Rl : List (Nat × Nat)} {d : Nat → Nat → Nat → Int32} {X : va_W} (hl0 : l.stackTraces = false) (hok : cw_ok nl ns Rl) (h8 : ns ≤ 8) (b : Int32) : vl_Ki l D cy yX0_isTaken wsX0_isTaken { frames := 0, cells := 0, slots := 0, locals := 0 } 0 0 (cw cy ad nl ns par Rl d ++ X) [.ref (ad 1 0), .int b] (fun r w' => r = bI (!freeB (fun q => d 7 q 3) b ns) ∧ w' = cw cy ad nl ns par Rl d ++ X) := by
  refine vl_openi hl0 (by decide) rfl (Nat.le_of_ble_eq_true rfl) rfl ?_
  intro p e s m args below meth c C0 hr hnm
  generalize hA : va_A (cw cy ad nl ns par Rl d ++ X) s.heap.size = A at C0 ⊢
  refine vl_lv (lv2 := [(0, .ref (ad 1 0)), (1, .int b)]) [0, 1] rfl ?_
  have hinX0 : ∀ x ∈ u_ws RX0 TX0 7, x ∈ wsX0_isTaken := by decide +kernel
  have hinX2 : ∀ x ∈ u_ws RX2 TX2 5, x ∈ wsX0_isTaken := by decide +kernel
  refine vl_aload_n C0 dX0_isTaken_0 0 rfl ?_
  refine rc_get C0 (C := RX0) (T := TX0) (N := 7) (ci := 0) hinX0 (cR1 hok) rfl rfl 0 (by decide) (by decide +kernel) (v := .ref (ad 3 0)) (rfl) dX0_isTaken_1 ?_
  refine vl_astore_n (lv' := [(0, .ref (ad 1 0)), (1, .int b), (2, .ref (ad 3 0))]) C0 dX0_isTaken_4 [1, 2, 0] (by decide) rfl ?_
  refine vl_aload_n C0 dX0_isTaken_5 2 rfl ?_
  refine rc_alen C0 3 (cR3 hok) rfl rfl (v := 8) rfl dX0_isTaken_6 ?_
  refine vl_istore_n (lv' := [(0, .ref (ad 1 0)), (1, .int b), (2, .ref (ad 3 0)), (3, .int 8)]) C0 dX0_isTaken_7 [1, 2, 3, 0] (by decide) rfl ?_
  refine vl_iconst (v := 0) C0 dX0_isTaken_8 (by decide) ?_
  refine vl_istore (lv' := [(0, .ref (ad 1 0)), (1, .int b), (2, .ref (ad 3 0)), (3, .int 8), (4, .int 0)]) C0 dX0_isTaken_9 [1, 2, 3, 4, 0] (by decide) rfl ?_
  refine vl_loop (σ := Nat) (fun _ => cw cy ad nl ns par Rl d ++ X) (fun k => [(0, .ref (ad 1 0)), (1, .int b), (2, .ref (ad 3 0)), (3, .int 8), (4, .int (nI k))]) (fun k => k ≤ 8 ∧ ∀ i9, i9 < k → i9 < ns → ¬ d 7 i9 3 = b) (fun k => 8 - k) ?_ 0 ⟨by omega, fun i9 hi9 => absurd hi9 (Nat.not_lt_zero _)⟩
  intro k hI ih
  refine vl_iload C0 dX0_isTaken_11 4 rfl ?_
  refine vl_iload_n C0 dX0_isTaken_13 3 rfl ?_
  refine vl_icmp_ge (tgt := 45) C0 dX0_isTaken_14 (by decide) (fun (h14 : (8 : Int32) ≤ (nI k : Int32)) => ?_) (fun (h14 : ¬ (8 : Int32) ≤ (nI k : Int32)) => ?_)
  · have hkn : k = 8 := by have z : ¬ k < 8 := fun q => absurd h14 (nI_ge q (by decide)); have := hI.1; omega
    refine vl_iconst (v := 0) C0 dX0_isTaken_45 (by decide) ?_
    exact vl_zret C0 hA.symm hr rfl ⟨by rw [free_all (wh := fun q => d 7 q 3) ns (fun i9 hi9 => hI.2 i9 (by omega) hi9)]; rfl, rfl⟩ (Nat.le_of_ble_eq_true rfl) (Nat.le_of_ble_eq_true rfl) dX0_isTaken_46
  · have hk8 : k < 8 := by have z : ¬ k = 8 := fun q => h14 (by rw [q]; exact nI_le (Nat.le_refl _) (by decide)); have := hI.1; omega
    refine vl_aload_n C0 dX0_isTaken_17 2 rfl ?_
    refine vl_iload C0 dX0_isTaken_18 4 rfl ?_
    by_cases hks : k < ns
    · skip
      refine rc_aldS C0 (cR3 hok) (vp_in_nI hk8 (by decide)) (kn := k) (nI_clamp (by omega)) (v := .ref (ad 7 k)) (by rw [if_pos hks]; rfl) dX0_isTaken_20 ?_
      refine vl_astore (lv' := [(0, .ref (ad 1 0)), (1, .int b), (2, .ref (ad 3 0)), (3, .int 8), (4, .int (nI k)), (5, .ref (ad 7 k))]) C0 dX0_isTaken_21 [1, 2, 3, 4, 5, 0] (by decide) rfl ?_
      refine vl_aload C0 dX0_isTaken_23 5 rfl ?_
      refine vl_ifnull C0 dX0_isTaken_25 ?_
      refine vl_aload C0 dX0_isTaken_28 5 rfl ?_
      refine rc_getN C0 (C := RX2) (T := TX2) (N := 5) (ci := 2) hinX2 (cR7 hok (by omega)) rfl rfl 3 (by decide) (by decide +kernel) (v := .int (d 7 k 3)) (rfl) dX0_isTaken_30 ?_
      refine vl_iload_n C0 dX0_isTaken_33 1 rfl ?_
      refine vl_icmp_ne (tgt := 39) C0 dX0_isTaken_34 (by decide) (fun (h34 : ¬ (d 7 k 3 : Int32) = (b : Int32)) => ?_) (fun (h34 : (d 7 k 3 : Int32) = (b : Int32)) => ?_)
      · refine vl_iinc (v := nI (k + 1)) (lv' := [(0, .ref (ad 1 0)), (1, .int b), (2, .ref (ad 3 0)), (3, .int 8), (4, .int (nI (k + 1))), (5, .ref (ad 7 k))]) C0 dX0_isTaken_39 4 rfl (nI_1 k) [1, 2, 3, 4, 0, 5] (by decide) rfl ?_
        refine vl_goto (tgt := 11) C0 dX0_isTaken_42 (by decide) ?_
        exact vl_lv (lv2 := [(0, .ref (ad 1 0)), (1, .int b), (2, .ref (ad 3 0)), (3, .int 8), (4, .int (nI (k + 1)))]) [0, 1, 2, 3, 4] rfl (ih (k + 1) ⟨by omega, fun i9 hi9 hn => (Nat.lt_succ_iff_lt_or_eq.mp hi9).elim (fun z => hI.2 i9 z hn) (fun z => by rw [z]; exact h34)⟩ (by show 8 - (k + 1) < 8 - k; omega))
      · refine vl_iconst (v := 1) C0 dX0_isTaken_37 (by decide) ?_
        exact vl_zret C0 hA.symm hr rfl ⟨by rw [free_not (wh := fun q => d 7 q 3) (k := k) h34 ns hks]; rfl, rfl⟩ (Nat.le_of_ble_eq_true rfl) (Nat.le_of_ble_eq_true rfl) dX0_isTaken_38
    · skip
      refine rc_aldS C0 (cR3 hok) (vp_in_nI hk8 (by decide)) (kn := k) (nI_clamp (by omega)) (v := .null) (by rw [if_neg hks]; rfl) dX0_isTaken_20 ?_
      refine vl_astoreN (lv' := [(0, .ref (ad 1 0)), (1, .int b), (2, .ref (ad 3 0)), (3, .int 8), (4, .int (nI k)), (5, .null)]) C0 dX0_isTaken_21 [1, 2, 3, 4, 5, 0] (by decide) rfl ?_
      refine vl_aloadN C0 dX0_isTaken_23 5 rfl ?_
      refine vl_ifnullN (tgt := 39) C0 dX0_isTaken_25 (by decide) ?_
      refine vl_iinc (v := nI (k + 1)) (lv' := [(0, .ref (ad 1 0)), (1, .int b), (2, .ref (ad 3 0)), (3, .int 8), (4, .int (nI (k + 1))), (5, .null)]) C0 dX0_isTaken_39 4 rfl (nI_1 k) [1, 2, 3, 4, 0, 5] (by decide) rfl ?_
      refine vl_goto (tgt := 11) C0 dX0_isTaken_42 (by decide) ?_
      exact vl_lv (lv2 := [(0, .ref (ad 1 0)), (1, .int b), (2, .ref (ad 3 0)), (3, .int 8), (4, .int (nI (k + 1)))]) [0, 1, 2, 3, 4] rfl (ih (k + 1) ⟨by omega, fun i9 hi9 hn => hI.2 i9 (by omega) hn⟩ (by show 8 - (k + 1) < 8 - k; omega))
set_option maxHeartbeats 4000000 in
set_option maxRecDepth 100000 in
theorem c_X0_putToBerth {l : Launch} {D : va_G} {cy : Nat → ClassId} {ad : Nat → Nat → Nat} {nl ns : Nat} {par : Nat → Option Nat} {Rl : List (Nat × Nat)} {d : Nat → Nat → Nat → Int32} {X : va_W} (hl0 : l.stackTraces = false) (hok : cw_ok nl ns Rl) (h8 : ns ≤ 8) (j : Nat) (hj : j < ns) (b : Int32) : vl_Ki l D cy yX0_putToBerth wsX0_putToBerth { frames := 1, cells := 0, slots := 0, locals := 25 } 0 0 (cw cy ad nl ns par Rl d ++ X) [.ref (ad 1 0), .ref (ad 7 j), .int b] (fun r w' => r = bI (decide (d 7 j 3 = -1) && freeB (fun q => d 7 q 3) b ns) ∧ w' = cw cy ad nl ns par Rl (if (decide (d 7 j 3 = -1) && freeB (fun q => d 7 q 3) b ns) = true then up3 d 7 j 3 b else d) ++ X) := by
  refine vl_openi hl0 (by decide) rfl (Nat.le_of_ble_eq_true rfl) rfl ?_
  intro p e s m args below meth c C0 hr hnm
  generalize hA : va_A (cw cy ad nl ns par Rl d ++ X) s.heap.size = A at C0 ⊢
  refine vl_lv (lv2 := [(0, .ref (ad 1 0)), (1, .ref (ad 7 j)), (2, .int b)]) [0, 1, 2] rfl ?_
  have hinX0 : ∀ x ∈ u_ws RX0 TX0 7, x ∈ wsX0_putToBerth := by decide +kernel
  have hinX2 : ∀ x ∈ u_ws RX2 TX2 5, x ∈ wsX0_putToBerth := by decide +kernel
  refine vl_aload_n C0 dX0_putToBerth_0 1 rfl ?_
  refine rc_getN C0 (C := RX2) (T := TX2) (N := 5) (ci := 2) hinX2 (cR7 hok (by omega)) rfl rfl 3 (by decide) (by decide +kernel) (v := .int (d 7 j 3)) (rfl) dX0_putToBerth_1 ?_
  refine vl_iconst (v := -1) C0 dX0_putToBerth_4 (by decide) ?_
  refine vl_icmp_ne (tgt := 16) C0 dX0_putToBerth_5 (by decide) (fun (h5 : ¬ (d 7 j 3 : Int32) = ((-1) : Int32)) => ?_) (fun (h5 : (d 7 j 3 : Int32) = ((-1) : Int32)) => ?_)
  · refine vl_iconst (v := 0) C0 dX0_putToBerth_16 (by decide) ?_
    exact vl_zret C0 hA.symm hr rfl ⟨by simp [bI, h5], by simp [bI, h5]⟩ (Nat.le_of_ble_eq_true rfl) (Nat.le_of_ble_eq_true rfl) dX0_putToBerth_17
  · refine vl_aload_n C0 dX0_putToBerth_8 0 rfl ?_
    refine vl_iload_n C0 dX0_putToBerth_9 2 rfl ?_
    refine vl_calli C0 (vl_goV C0 (As := [.int b]) (na := 1) (b := ad 1 0) (st := []) (ci := 0) gX0_putToBerth_X0_isTaken rfl rfl rfl (by decide +kernel) ⟨Nat.le_of_ble_eq_true rfl, Nat.le_of_ble_eq_true rfl⟩ rfl (rc_rec (cR1 hok) rfl) dX0_putToBerth_10 (Nat.le_of_ble_eq_true rfl) ⟨Nat.le_of_ble_eq_true rfl, Nat.le_of_ble_eq_true rfl⟩ rfl rfl) (c_X0_isTaken hl0 hok h8 b) (k2 := 0) (n2 := 0) (Nat.le_of_ble_eq_true rfl) (Nat.le_of_ble_eq_true rfl) (fun r9 w9 hp9 => ?_)
    obtain ⟨rfl, rfl⟩ := hp9
    refine vl_if_eq (tgt := 18) C0 dX0_putToBerth_13 (by decide) (fun (h13 : (bI (!freeB (fun q => d 7 q 3) b ns) : Int32) = (0 : Int32)) => ?_) (fun (h13 : ¬ (bI (!freeB (fun q => d 7 q 3) b ns) : Int32) = (0 : Int32)) => ?_)
    · have g13 := bI_0.mp h13
      refine vl_aload_n C0 dX0_putToBerth_18 1 rfl ?_
      refine vl_iload_n C0 dX0_putToBerth_19 2 rfl ?_
      refine rc_putN C0 (C := RX2) (T := TX2) (N := 5) (ci := 2) hinX2 tyX2 tyX2_ok nmX2 hok.1 (cR7 hok (by omega)) rfl rfl 3 (by decide) (by decide +kernel) rfl rfl (Nat.le_of_ble_eq_true rfl) rfl dX0_putToBerth_20 ?_
      refine vl_iconst (v := 1) C0 dX0_putToBerth_23 (by decide) ?_
      exact vl_zret C0 hA.symm hr rfl ⟨by simp only [Bool.not_eq_true', Bool.not_eq_false'] at g13; simp [bI, h5, g13], by simp only [Bool.not_eq_true', Bool.not_eq_false'] at g13; simp [bI, h5, g13]⟩ (Nat.le_of_ble_eq_true rfl) (Nat.le_of_ble_eq_true rfl) dX0_putToBerth_24
    · have g13 := bI_n.mp h13
      refine vl_iconst (v := 0) C0 dX0_putToBerth_16 (by decide) ?_
      exact vl_zret C0 hA.symm hr rfl ⟨by simp only [Bool.not_eq_true', Bool.not_eq_false'] at g13; simp [bI, h5, g13], by simp only [Bool.not_eq_true', Bool.not_eq_false'] at g13; simp [bI, h5, g13]⟩ (Nat.le_of_ble_eq_true rfl) (Nat.le_of_ble_eq_true rfl) dX0_putToBerth_17
set_option maxHeartbeats 4000000 in
set_option maxRecDepth 100000 in
theorem c_X0_letLeave {l : Launch} {D : va_G} {cy : Nat → ClassId} {ad : Nat → Nat → Nat} {nl ns : Nat} {par : Nat → Option Nat} {Rl : List (Nat × Nat)} {d : Nat → Nat → Nat → Int32} {X : va_W} (hl0 : l.stackTraces = false) (hok : cw_ok nl ns Rl) (j : Nat) (hj : j < ns) : vl_Ki l D cy yX0_letLeave wsX0_letLeave { frames := 1, cells := 0, slots := 0, locals := 20 } 0 0 (cw cy ad nl ns par Rl d ++ X) [.ref (ad 1 0), .ref (ad 7 j)] (fun r w' => r = bI (inB (d 7 j 3) 0 2 && !decide (0 < d 7 j 4)) ∧ w' = cw cy ad nl ns par Rl (if (inB (d 7 j 3) 0 2 && !decide (0 < d 7 j 4)) = true then up3 d 7 j 3 (-3) else d) ++ X) := by
  refine vl_openi hl0 (by decide) rfl (Nat.le_of_ble_eq_true rfl) rfl ?_
  intro p e s m args below meth c C0 hr hnm
  generalize hA : va_A (cw cy ad nl ns par Rl d ++ X) s.heap.size = A at C0 ⊢
  refine vl_lv (lv2 := [(0, .ref (ad 1 0)), (1, .ref (ad 7 j))]) [0, 1] rfl ?_
  have hinX2 : ∀ x ∈ u_ws RX2 TX2 5, x ∈ wsX0_letLeave := by decide +kernel
  refine vl_aload_n C0 dX0_letLeave_0 1 rfl ?_
  refine rc_getN C0 (C := RX2) (T := TX2) (N := 5) (ci := 2) hinX2 (cR7 hok (by omega)) rfl rfl 3 (by decide) (by decide +kernel) (v := .int (d 7 j 3)) (rfl) dX0_letLeave_1 ?_
  refine vl_calli C0 (vl_goSN C0 (As := [.int (d 7 j 3)]) (na := 1) (st := []) gX0_letLeave_X3_isBerth_n86 rfl rfl rfl (by decide +kernel) (by decide +kernel) (by decide +kernel) (by decide +kernel) ⟨Nat.le_of_ble_eq_true rfl, Nat.le_of_ble_eq_true rfl⟩ dX0_letLeave_4 (Nat.le_of_ble_eq_true rfl) ⟨Nat.le_of_ble_eq_true rfl, Nat.le_of_ble_eq_true rfl⟩ rfl rfl) (c_X3_isBerth hl0 (d 7 j 3)) (k2 := 0) (n2 := 0) (Nat.le_of_ble_eq_true rfl) (Nat.le_of_ble_eq_true rfl) (fun r9 w9 hp9 => ?_)
  obtain ⟨rfl, rfl⟩ := hp9
  refine vl_if_eq (tgt := 17) C0 dX0_letLeave_7 (by decide) (fun (h7 : (bI (inB (d 7 j 3) 0 2) : Int32) = (0 : Int32)) => ?_) (fun (h7 : ¬ (bI (inB (d 7 j 3) 0 2) : Int32) = (0 : Int32)) => ?_)
  · have g7 := bI_0.mp h7
    refine vl_iconst (v := 0) C0 dX0_letLeave_17 (by decide) ?_
    exact vl_zret C0 hA.symm hr rfl ⟨by simp [bI, ← Int32.not_le, g7], by simp [bI, ← Int32.not_le, g7]⟩ (Nat.le_of_ble_eq_true rfl) (Nat.le_of_ble_eq_true rfl) dX0_letLeave_18
  · have g7 := bI_n.mp h7
    refine vl_aload_n C0 dX0_letLeave_10 1 rfl ?_
    refine rc_getN C0 (C := RX2) (T := TX2) (N := 5) (ci := 2) hinX2 (cR7 hok (by omega)) rfl rfl 4 (by decide) (by decide +kernel) (v := .int (d 7 j 4)) (rfl) dX0_letLeave_11 ?_
    refine vl_if_le (tgt := 19) C0 dX0_letLeave_14 (by decide) (fun (h14 : (d 7 j 4 : Int32) ≤ (0 : Int32)) => ?_) (fun (h14 : ¬ (d 7 j 4 : Int32) ≤ (0 : Int32)) => ?_)
    · refine vl_aload_n C0 dX0_letLeave_19 1 rfl ?_
      refine vl_bipush (v := -3) C0 dX0_letLeave_20 (by decide) ?_
      refine rc_putN C0 (C := RX2) (T := TX2) (N := 5) (ci := 2) hinX2 tyX2 tyX2_ok nmX2 hok.1 (cR7 hok (by omega)) rfl rfl 3 (by decide) (by decide +kernel) rfl rfl (Nat.le_of_ble_eq_true rfl) rfl dX0_letLeave_22 ?_
      refine vl_iconst (v := 1) C0 dX0_letLeave_25 (by decide) ?_
      exact vl_zret C0 hA.symm hr rfl ⟨by simp [bI, ← Int32.not_le, g7, h14], by simp [bI, ← Int32.not_le, g7, h14]⟩ (Nat.le_of_ble_eq_true rfl) (Nat.le_of_ble_eq_true rfl) dX0_letLeave_26
    · refine vl_iconst (v := 0) C0 dX0_letLeave_17 (by decide) ?_
      exact vl_zret C0 hA.symm hr rfl ⟨by simp [bI, ← Int32.not_le, g7, h14], by simp [bI, ← Int32.not_le, g7, h14]⟩ (Nat.le_of_ble_eq_true rfl) (Nat.le_of_ble_eq_true rfl) dX0_letLeave_18
end VC2
