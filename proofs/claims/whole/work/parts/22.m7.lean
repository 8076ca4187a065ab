section VM7
def muO (x : Option Nat) : Nat := match x with
  | none => 0
  | some q => q + 1
theorem muO_lt {par : Nat → Option Nat} (h : ∀ i p, par i = some p → p < i) (q : Nat) : muO (par q) < muO (some q) := by
  cases hp : par q with
  | none => simp [muO]
  | some r => have := h q r hp; simp [muO]; omega
theorem ownB_t {m : Nat → Nat → Int32} {q t : Nat} (hq : q < 9) (ht : t < 30) (h : ownB m (nI q) (nI t) = true) : ¬ m 11 (30 * q + t) = -1 := by
  rw [ownB, nI_pl, nI_clamp (by omega)] at h
  simpa using h
theorem ownB_f {m : Nat → Nat → Int32} {q t : Nat} (hq : q < 9) (ht : t < 30) (h : ownB m (nI q) (nI t) = false) : m 11 (30 * q + t) = -1 := by
  rw [ownB, nI_pl, nI_clamp (by omega)] at h
  simpa using h
def sp_orderOf (nl : Nat) (par : Nat → Option Nat) (m : Nat → Nat → Int32) (a t : Int32) : Int32 × (Nat → Nat → Int32) := if (inB a 0 (nI nl - 1) && inB t 0 29) = false then (0, up2 m 0 17 1) else (ordX (m 11) par t.toNatClampNeg (some a.toNatClampNeg), up2 m 0 17 0)
def difP (o : Nat → Int32) (par : Nat → Option Nat) (x y : Nat) : Nat → Bool := fun k => decide (¬ ordX o par k (some x) = ordX o par k (some y))
def sp_differences (nl : Nat) (par : Nat → Option Nat) (m : Nat → Nat → Int32) (a b : Int32) : Int32 × (Nat → Nat → Int32) := if (inB a 0 (nI nl - 1) && inB b 0 (nI nl - 1)) = false then (0, up2 m 0 17 1) else (bset (difP (m 11) par a.toNatClampNeg b.toNatClampNeg) 30, up2 m 0 17 0)
def sp_ahead (nl : Nat) (m : Nat → Nat → Int32) (a : Int32) : Int32 × (Nat → Nat → Int32) := if inB a 0 (nI nl - 1) = false then (0, up2 m 0 17 1) else (aheadI m a.toNatClampNeg, up2 m 0 17 0)
set_option maxHeartbeats 4000000 in
set_option maxRecDepth 100000 in
theorem c_X4_orderAt {l : Launch} {D : va_G} {cy : Nat → ClassId} {ad : Nat → Nat} {mm : Nat → Nat → Int32} {X : va_W} {nl : Nat} {par : Nat → Option Nat} (hl0 : l.stackTraces = false) (j t : Nat) (ht : mTree nl par mm) (h9 : nl ≤ 9) (hj : j < nl) (h3 : t < 30) : vl_Ki l D cy yX4_orderAt wsX4_orderAt { frames := 1, cells := 0, slots := 0, locals := 22 } 0 0 (mw cy ad mm ++ X) [.ref (ad 0), .int (nI j), .int (nI t)] (fun r w' => r = ordX (mm 11) par t (some j) ∧ w' = mw cy ad mm ++ X) := by
  refine vl_openi hl0 (by decide) rfl (Nat.le_of_ble_eq_true rfl) rfl ?_
  intro p e s m args below meth c C0 hr hnm
  generalize hA : va_A (mw cy ad mm ++ X) s.heap.size = A at C0 ⊢
  refine vl_lv (lv2 := [(0, .ref (ad 0)), (1, .int (nI j)), (2, .int (nI t))]) [0, 1, 2] rfl ?_
  have hin : ∀ x ∈ u_ws RX4 TX4 18, x ∈ wsX4_orderAt := by decide +kernel
  refine vl_iload_n C0 dX4_orderAt_0 1 rfl ?_
  refine vl_istore_n (lv' := [(0, .ref (ad 0)), (1, .int (nI j)), (2, .int (nI t)), (3, .int (nI j))]) C0 dX4_orderAt_1 [1, 2, 3, 0] (by decide) rfl ?_
  refine vl_loop (σ := Option Nat) (fun _ => mw cy ad mm ++ X) (fun x => [(0, .ref (ad 0)), (1, .int (nI j)), (2, .int (nI t)), (3, .int (vI x))]) (fun x => (∀ q, x = some q → q < nl) ∧ ordX (mm 11) par t x = ordX (mm 11) par t (some j)) muO ?_ (some j) ⟨fun q hq => by cases hq; exact hj, rfl⟩
  intro x hx ih
  rcases x with _ | q
  · refine vl_lv (lv2 := [(0, .ref (ad 0)), (1, .int (nI j)), (2, .int (nI t)), (3, .int ((-1)))]) [0, 1, 2, 3] rfl ?_
    refine vl_iload_n C0 dX4_orderAt_2 3 rfl ?_
    refine vl_iconst (v := -1) C0 dX4_orderAt_3 (by decide) ?_
    refine vl_icmp_eq (tgt := 26) C0 dX4_orderAt_4 (by decide) (fun (h4 : ((-1) : Int32) = ((-1) : Int32)) => ?_) (fun (h4 : ¬ ((-1) : Int32) = ((-1) : Int32)) => absurd h4 (by decide))
    refine vl_iload_n C0 dX4_orderAt_26 3 rfl ?_
    refine vl_iconst (v := -1) C0 dX4_orderAt_27 (by decide) ?_
    refine vl_icmp_ne (tgt := 35) C0 dX4_orderAt_28 (by decide) (fun (h28 : ¬ ((-1) : Int32) = ((-1) : Int32)) => absurd h28 (by decide)) (fun (h28 : ((-1) : Int32) = ((-1) : Int32)) => ?_)
    refine vl_iconst (v := 0) C0 dX4_orderAt_31 (by decide) ?_
    refine vl_goto (tgt := 46) C0 dX4_orderAt_32 (by decide) ?_
    exact vl_iret C0 hA.symm hr ⟨hx.2, rfl⟩ (Nat.le_of_ble_eq_true rfl) (Nat.le_of_ble_eq_true rfl) dX4_orderAt_46
  · refine vl_lv (lv2 := [(0, .ref (ad 0)), (1, .int (nI j)), (2, .int (nI t)), (3, .int (nI q))]) [0, 1, 2, 3] rfl ?_
    have hq : q < nl := hx.1 q rfl
    refine vl_iload_n C0 dX4_orderAt_2 3 rfl ?_
    refine vl_iconst (v := -1) C0 dX4_orderAt_3 (by decide) ?_
    refine vl_icmp_eq (tgt := 26) C0 dX4_orderAt_4 (by decide) (fun (h4 : (nI q : Int32) = ((-1) : Int32)) => absurd h4 (nI_m1 (by omega))) (fun (h4 : ¬ (nI q : Int32) = ((-1) : Int32)) => ?_)
    refine vl_aload_n C0 dX4_orderAt_7 0 rfl ?_
    refine vl_iload_n C0 dX4_orderAt_8 3 rfl ?_
    refine vl_iload_n C0 dX4_orderAt_9 2 rfl ?_
    refine vl_calli C0 (vl_goV C0 (As := [.int (nI q), .int (nI t)]) (na := 2) (b := ad 0) (st := []) (ci := 4) gX4_orderAt_X4_hasOwn rfl rfl rfl (by decide +kernel) ⟨Nat.le_of_ble_eq_true rfl, Nat.le_of_ble_eq_true rfl⟩ rfl ⟨0, _, rfl⟩ dX4_orderAt_10 (Nat.le_of_ble_eq_true rfl) ⟨Nat.le_of_ble_eq_true rfl, Nat.le_of_ble_eq_true rfl⟩ rfl rfl) (c_X4_hasOwn hl0 (nI q) (nI t) (by rw [nI_pl]; exact vp_in_nI (by omega) (by decide))) (k2 := 0) (n2 := 0) (Nat.le_of_ble_eq_true rfl) (Nat.le_of_ble_eq_true rfl) (fun r9 w9 hp9 => ?_)
    obtain ⟨rfl, rfl⟩ := hp9
    refine vl_if_ne (tgt := 26) C0 dX4_orderAt_13 (by decide) (fun (h13 : ¬ (bI (ownB mm (nI q) (nI t)) : Int32) = (0 : Int32)) => ?_) (fun (h13 : (bI (ownB mm (nI q) (nI t)) : Int32) = (0 : Int32)) => ?_)
    · have g13 := bI_n.mp h13
      refine vl_iload_n C0 dX4_orderAt_26 3 rfl ?_
      refine vl_iconst (v := -1) C0 dX4_orderAt_27 (by decide) ?_
      refine vl_icmp_ne (tgt := 35) C0 dX4_orderAt_28 (by decide) (fun (h28 : ¬ (nI q : Int32) = ((-1) : Int32)) => ?_) (fun (h28 : (nI q : Int32) = ((-1) : Int32)) => absurd h28 (nI_m1 (by omega)))
      refine vl_aload_n C0 dX4_orderAt_35 0 rfl ?_
      refine rm_get C0 hin 11 (by decide) (by decide +kernel) rfl dX4_orderAt_36 ?_
      refine vl_bipush (v := 30) C0 dX4_orderAt_39 (by decide) ?_
      refine vl_iload_n C0 dX4_orderAt_41 3 rfl ?_
      refine vl_imul C0 dX4_orderAt_42 ?_
      refine vl_iload_n C0 dX4_orderAt_43 2 rfl ?_
      refine vl_iadd C0 dX4_orderAt_44 ?_
      rw [nI_pl]
      refine rm_iald C0 11 8 270 rfl (vp_in_nI (by omega) (by decide)) (kn := (30 * q + t)) (nI_clamp (by omega)) (v := mm 11 (30 * q + t)) (rfl) dX4_orderAt_45 ?_
      exact vl_iret C0 hA.symm hr ⟨by rw [← hx.2]; exact (ordX_own (ownB_t (by omega) h3 g13)).symm, rfl⟩ (Nat.le_of_ble_eq_true rfl) (Nat.le_of_ble_eq_true rfl) dX4_orderAt_46
    · have g13 := bI_0.mp h13
      refine vl_aload_n C0 dX4_orderAt_16 0 rfl ?_
      refine rm_get C0 hin 8 (by decide) (by decide +kernel) rfl dX4_orderAt_17 ?_
      refine vl_iload_n C0 dX4_orderAt_20 3 rfl ?_
      refine rm_iald C0 8 5 9 rfl (vp_in_nI (by omega) (by decide)) (kn := q) (nI_clamp (by omega)) (v := mm 8 q) (rfl) dX4_orderAt_21 ?_
      rw [ht.2 q hq]
      refine vl_istore_n (lv' := [(0, .ref (ad 0)), (1, .int (nI j)), (2, .int (nI t)), (3, .int (vI (par q)))]) C0 dX4_orderAt_22 [1, 2, 3, 0] (by decide) rfl ?_
      refine vl_goto (tgt := 2) C0 dX4_orderAt_23 (by decide) ?_
      exact ih (par q) ⟨fun r hr => by have := ht.1 q r hr; omega, (ordX_up ht.1 (by omega) (ownB_f (by omega) h3 g13)).symm.trans hx.2⟩ (muO_lt ht.1 q)
set_option maxHeartbeats 4000000 in
set_option maxRecDepth 100000 in
theorem c_X4_orderOf {l : Launch} {D : va_G} {cy : Nat → ClassId} {ad : Nat → Nat} {mm : Nat → Nat → Int32} {X : va_W} {nl : Nat} {par : Nat → Option Nat} (hl0 : l.stackTraces = false) (a t : Int32) (e7 : mm 0 7 = nI nl) (h1 : 1 ≤ nl) (h9 : nl ≤ 9) (ht : mTree nl par mm) : vl_Ki l D cy yX4_orderOf wsX4_orderOf { frames := 2, cells := 0, slots := 0, locals := 45 } 0 0 (mw cy ad mm ++ X) [.ref (ad 0), .int a, .int t] (fun r w' => r = (sp_orderOf nl par mm a t).1 ∧ w' = mw cy ad (sp_orderOf nl par mm a t).2 ++ X) := by
  refine vl_openi hl0 (by decide) rfl (Nat.le_of_ble_eq_true rfl) rfl ?_
  intro p e s m args below meth c C0 hr hnm
  generalize hA : va_A (mw cy ad mm ++ X) s.heap.size = A at C0 ⊢
  refine vl_lv (lv2 := [(0, .ref (ad 0)), (1, .int a), (2, .int t)]) [0, 1, 2] rfl ?_
  have hin : ∀ x ∈ u_ws RX4 TX4 18, x ∈ wsX4_orderOf := by decide +kernel
  refine vl_aload_n C0 dX4_orderOf_0 0 rfl ?_
  refine vl_aload_n C0 dX4_orderOf_1 0 rfl ?_
  refine vl_iload_n C0 dX4_orderOf_2 1 rfl ?_
  refine vl_calli C0 (vl_goV C0 (As := [.int a]) (na := 1) (b := ad 0) (st := [.ref (ad 0)]) (ci := 4) gX4_orderOf_X4_isLine rfl rfl rfl (by decide +kernel) ⟨Nat.le_of_ble_eq_true rfl, Nat.le_of_ble_eq_true rfl⟩ rfl ⟨0, _, rfl⟩ dX4_orderOf_3 (Nat.le_of_ble_eq_true rfl) ⟨Nat.le_of_ble_eq_true rfl, Nat.le_of_ble_eq_true rfl⟩ rfl rfl) (c_X4_isLine hl0 a) (k2 := 0) (n2 := 0) (Nat.le_of_ble_eq_true rfl) (Nat.le_of_ble_eq_true rfl) (fun r9 w9 hp9 => ?_)
  obtain ⟨rfl, rfl⟩ := hp9
  rw [e7]
  refine vl_if_eq (tgt := 20) C0 dX4_orderOf_6 (by decide) (fun (h6 : (bI (inB a 0 (nI nl - 1)) : Int32) = (0 : Int32)) => ?_) (fun (h6 : ¬ (bI (inB a 0 (nI nl - 1)) : Int32) = (0 : Int32)) => ?_)
  · have g6 := bI_0.mp h6
    refine vl_iconst (v := 1) C0 dX4_orderOf_20 (by decide) ?_
    refine vl_calli C0 (vl_goV C0 (As := [.int 1]) (na := 1) (b := ad 0) (st := []) (ci := 4) gX4_orderOf_X4_fails rfl rfl rfl (by decide +kernel) ⟨Nat.le_of_ble_eq_true rfl, Nat.le_of_ble_eq_true rfl⟩ rfl ⟨0, _, rfl⟩ dX4_orderOf_21 (Nat.le_of_ble_eq_true rfl) ⟨Nat.le_of_ble_eq_true rfl, Nat.le_of_ble_eq_true rfl⟩ rfl rfl) (c_X4_fails hl0 1) (k2 := 0) (n2 := 0) (Nat.le_of_ble_eq_true rfl) (Nat.le_of_ble_eq_true rfl) (fun r9 w9 hp9 => ?_)
    obtain ⟨hr9, rfl⟩ := hp9
    have hr9 : r9 = 1 := hr9.trans (by decide)
    subst hr9
    refine vl_if_eq (tgt := 31) C0 dX4_orderOf_24 (by decide) (fun (h24 : (1 : Int32) = (0 : Int32)) => absurd h24 (by decide)) (fun (h24 : ¬ (1 : Int32) = (0 : Int32)) => ?_)
    refine vl_iconst (v := 0) C0 dX4_orderOf_27 (by decide) ?_
    refine vl_goto (tgt := 37) C0 dX4_orderOf_28 (by decide) ?_
    exact vl_iret C0 hA.symm hr ⟨by simp [sp_orderOf, bI, g6], by simp [sp_orderOf, bI, g6]⟩ (Nat.le_of_ble_eq_true rfl) (Nat.le_of_ble_eq_true rfl) dX4_orderOf_37
  · have g6 := bI_n.mp h6
    refine vl_iload_n C0 dX4_orderOf_9 2 rfl ?_
    refine vl_calli C0 (vl_goS C0 (As := [.int t]) (na := 1) (st := [.ref (ad 0)]) gX4_orderOf_X4_isTurn rfl rfl rfl (by decide +kernel) ⟨Nat.le_of_ble_eq_true rfl, Nat.le_of_ble_eq_true rfl⟩ dX4_orderOf_10 (Nat.le_of_ble_eq_true rfl) ⟨Nat.le_of_ble_eq_true rfl, Nat.le_of_ble_eq_true rfl⟩ rfl rfl) (c_X4_isTurn hl0 t) (k2 := 0) (n2 := 0) (Nat.le_of_ble_eq_true rfl) (Nat.le_of_ble_eq_true rfl) (fun r9 w9 hp9 => ?_)
    obtain ⟨rfl, rfl⟩ := hp9
    refine vl_if_eq (tgt := 20) C0 dX4_orderOf_13 (by decide) (fun (h13 : (bI (inB t 0 29) : Int32) = (0 : Int32)) => ?_) (fun (h13 : ¬ (bI (inB t 0 29) : Int32) = (0 : Int32)) => ?_)
    · have g13 := bI_0.mp h13
      refine vl_iconst (v := 1) C0 dX4_orderOf_20 (by decide) ?_
      refine vl_calli C0 (vl_goV C0 (As := [.int 1]) (na := 1) (b := ad 0) (st := []) (ci := 4) gX4_orderOf_X4_fails rfl rfl rfl (by decide +kernel) ⟨Nat.le_of_ble_eq_true rfl, Nat.le_of_ble_eq_true rfl⟩ rfl ⟨0, _, rfl⟩ dX4_orderOf_21 (Nat.le_of_ble_eq_true rfl) ⟨Nat.le_of_ble_eq_true rfl, Nat.le_of_ble_eq_true rfl⟩ rfl rfl) (c_X4_fails hl0 1) (k2 := 0) (n2 := 0) (Nat.le_of_ble_eq_true rfl) (Nat.le_of_ble_eq_true rfl) (fun r9 w9 hp9 => ?_)
      obtain ⟨hr9, rfl⟩ := hp9
      have hr9 : r9 = 1 := hr9.trans (by decide)
      subst hr9
      refine vl_if_eq (tgt := 31) C0 dX4_orderOf_24 (by decide) (fun (h24 : (1 : Int32) = (0 : Int32)) => absurd h24 (by decide)) (fun (h24 : ¬ (1 : Int32) = (0 : Int32)) => ?_)
      refine vl_iconst (v := 0) C0 dX4_orderOf_27 (by decide) ?_
      refine vl_goto (tgt := 37) C0 dX4_orderOf_28 (by decide) ?_
      exact vl_iret C0 hA.symm hr ⟨by simp [sp_orderOf, bI, g6, g13], by simp [sp_orderOf, bI, g6, g13]⟩ (Nat.le_of_ble_eq_true rfl) (Nat.le_of_ble_eq_true rfl) dX4_orderOf_37
    · have g13 := bI_n.mp h13
      obtain ⟨ja, hja, rfl⟩ := inB_nI h1 (by omega) g6
      obtain ⟨jt, hjt, rfl⟩ := inB_k g13 (by decide) (n := 30) (by decide)
      refine vl_iconst (v := 0) C0 dX4_orderOf_16 (by decide) ?_
      refine vl_goto (tgt := 21) C0 dX4_orderOf_17 (by decide) ?_
      refine vl_calli C0 (vl_goV C0 (As := [.int 0]) (na := 1) (b := ad 0) (st := []) (ci := 4) gX4_orderOf_X4_fails rfl rfl rfl (by decide +kernel) ⟨Nat.le_of_ble_eq_true rfl, Nat.le_of_ble_eq_true rfl⟩ rfl ⟨0, _, rfl⟩ dX4_orderOf_21 (Nat.le_of_ble_eq_true rfl) ⟨Nat.le_of_ble_eq_true rfl, Nat.le_of_ble_eq_true rfl⟩ rfl rfl) (c_X4_fails hl0 0) (k2 := 0) (n2 := 0) (Nat.le_of_ble_eq_true rfl) (Nat.le_of_ble_eq_true rfl) (fun r9 w9 hp9 => ?_)
      obtain ⟨hr9, rfl⟩ := hp9
      have hr9 : r9 = 0 := hr9.trans (by decide)
      subst hr9
      refine vl_if_eq (tgt := 31) C0 dX4_orderOf_24 (by decide) (fun (h24 : (0 : Int32) = (0 : Int32)) => ?_) (fun (h24 : ¬ (0 : Int32) = (0 : Int32)) => absurd h24 (by decide))
      refine vl_aload_n C0 dX4_orderOf_31 0 rfl ?_
      refine vl_iload_n C0 dX4_orderOf_32 1 rfl ?_
      refine vl_iload_n C0 dX4_orderOf_33 2 rfl ?_
      refine vl_calli C0 (vl_goV C0 (As := [.int (nI ja), .int (nI jt)]) (na := 2) (b := ad 0) (st := []) (ci := 4) gX4_orderOf_X4_orderAt rfl rfl rfl (by decide +kernel) ⟨Nat.le_of_ble_eq_true rfl, Nat.le_of_ble_eq_true rfl⟩ rfl ⟨0, _, rfl⟩ dX4_orderOf_34 (Nat.le_of_ble_eq_true rfl) ⟨Nat.le_of_ble_eq_true rfl, Nat.le_of_ble_eq_true rfl⟩ rfl rfl) (c_X4_orderAt hl0 ja jt (nl := nl) (par := par) ht h9 (hja) (hjt)) (k2 := 0) (n2 := 0) (Nat.le_of_ble_eq_true rfl) (Nat.le_of_ble_eq_true rfl) (fun r9 w9 hp9 => ?_)
      obtain ⟨rfl, rfl⟩ := hp9
      exact vl_iret C0 hA.symm hr ⟨by simp [sp_orderOf, bI, g6, g13, nI_clamp (show ja < 2 ^ 31 by omega), nI_clamp (show jt < 2 ^ 31 by omega)]; rfl, by simp [sp_orderOf, bI, g6, g13, nI_clamp (show ja < 2 ^ 31 by omega), nI_clamp (show jt < 2 ^ 31 by omega)]⟩ (Nat.le_of_ble_eq_true rfl) (Nat.le_of_ble_eq_true rfl) dX4_orderOf_37
set_option maxHeartbeats 4000000 in
set_option maxRecDepth 100000 in
theorem c_X4_ahead {l : Launch} {D : va_G} {cy : Nat → ClassId} {ad : Nat → Nat} {mm : Nat → Nat → Int32} {X : va_W} {nl : Nat} (hl0 : l.stackTraces = false) (a : Int32) (e7 : mm 0 7 = nI nl) (h1 : 1 ≤ nl) (h9 : nl ≤ 9) : vl_Ki l D cy yX4_ahead wsX4_ahead { frames := 2, cells := 0, slots := 0, locals := 43 } 0 0 (mw cy ad mm ++ X) [.ref (ad 0), .int a] (fun r w' => r = (sp_ahead nl mm a).1 ∧ w' = mw cy ad (sp_ahead nl mm a).2 ++ X) := by
  refine vl_openi hl0 (by decide) rfl (Nat.le_of_ble_eq_true rfl) rfl ?_
  intro p e s m args below meth c C0 hr hnm
  generalize hA : va_A (mw cy ad mm ++ X) s.heap.size = A at C0 ⊢
  refine vl_lv (lv2 := [(0, .ref (ad 0)), (1, .int a)]) [0, 1] rfl ?_
  have hin : ∀ x ∈ u_ws RX4 TX4 18, x ∈ wsX4_ahead := by decide +kernel
  refine vl_aload_n C0 dX4_ahead_0 0 rfl ?_
  refine vl_aload_n C0 dX4_ahead_1 0 rfl ?_
  refine vl_iload_n C0 dX4_ahead_2 1 rfl ?_
  refine vl_calli C0 (vl_goV C0 (As := [.int a]) (na := 1) (b := ad 0) (st := [.ref (ad 0)]) (ci := 4) gX4_ahead_X4_isLine rfl rfl rfl (by decide +kernel) ⟨Nat.le_of_ble_eq_true rfl, Nat.le_of_ble_eq_true rfl⟩ rfl ⟨0, _, rfl⟩ dX4_ahead_3 (Nat.le_of_ble_eq_true rfl) ⟨Nat.le_of_ble_eq_true rfl, Nat.le_of_ble_eq_true rfl⟩ rfl rfl) (c_X4_isLine hl0 a) (k2 := 0) (n2 := 0) (Nat.le_of_ble_eq_true rfl) (Nat.le_of_ble_eq_true rfl) (fun r9 w9 hp9 => ?_)
  obtain ⟨rfl, rfl⟩ := hp9
  rw [e7]
  refine vl_if_eq (tgt := 13) C0 dX4_ahead_6 (by decide) (fun (h6 : (bI (inB a 0 (nI nl - 1)) : Int32) = (0 : Int32)) => ?_) (fun (h6 : ¬ (bI (inB a 0 (nI nl - 1)) : Int32) = (0 : Int32)) => ?_)
  · have g6 := bI_0.mp h6
    refine vl_iconst (v := 1) C0 dX4_ahead_13 (by decide) ?_
    refine vl_calli C0 (vl_goV C0 (As := [.int 1]) (na := 1) (b := ad 0) (st := []) (ci := 4) gX4_ahead_X4_fails rfl rfl rfl (by decide +kernel) ⟨Nat.le_of_ble_eq_true rfl, Nat.le_of_ble_eq_true rfl⟩ rfl ⟨0, _, rfl⟩ dX4_ahead_14 (Nat.le_of_ble_eq_true rfl) ⟨Nat.le_of_ble_eq_true rfl, Nat.le_of_ble_eq_true rfl⟩ rfl rfl) (c_X4_fails hl0 1) (k2 := 0) (n2 := 0) (Nat.le_of_ble_eq_true rfl) (Nat.le_of_ble_eq_true rfl) (fun r9 w9 hp9 => ?_)
    obtain ⟨hr9, rfl⟩ := hp9
    have hr9 : r9 = 1 := hr9.trans (by decide)
    subst hr9
    refine vl_if_eq (tgt := 24) C0 dX4_ahead_17 (by decide) (fun (h17 : (1 : Int32) = (0 : Int32)) => absurd h17 (by decide)) (fun (h17 : ¬ (1 : Int32) = (0 : Int32)) => ?_)
    refine vl_iconst (v := 0) C0 dX4_ahead_20 (by decide) ?_
    refine vl_goto (tgt := 29) C0 dX4_ahead_21 (by decide) ?_
    exact vl_iret C0 hA.symm hr ⟨by simp [sp_ahead, bI, g6], by simp [sp_ahead, bI, g6]⟩ (Nat.le_of_ble_eq_true rfl) (Nat.le_of_ble_eq_true rfl) dX4_ahead_29
  · have g6 := bI_n.mp h6
    obtain ⟨ja, hja, rfl⟩ := inB_nI h1 (by omega) g6
    refine vl_iconst (v := 0) C0 dX4_ahead_9 (by decide) ?_
    refine vl_goto (tgt := 14) C0 dX4_ahead_10 (by decide) ?_
    refine vl_calli C0 (vl_goV C0 (As := [.int 0]) (na := 1) (b := ad 0) (st := []) (ci := 4) gX4_ahead_X4_fails rfl rfl rfl (by decide +kernel) ⟨Nat.le_of_ble_eq_true rfl, Nat.le_of_ble_eq_true rfl⟩ rfl ⟨0, _, rfl⟩ dX4_ahead_14 (Nat.le_of_ble_eq_true rfl) ⟨Nat.le_of_ble_eq_true rfl, Nat.le_of_ble_eq_true rfl⟩ rfl rfl) (c_X4_fails hl0 0) (k2 := 0) (n2 := 0) (Nat.le_of_ble_eq_true rfl) (Nat.le_of_ble_eq_true rfl) (fun r9 w9 hp9 => ?_)
    obtain ⟨hr9, rfl⟩ := hp9
    have hr9 : r9 = 0 := hr9.trans (by decide)
    subst hr9
    refine vl_if_eq (tgt := 24) C0 dX4_ahead_17 (by decide) (fun (h17 : (0 : Int32) = (0 : Int32)) => ?_) (fun (h17 : ¬ (0 : Int32) = (0 : Int32)) => absurd h17 (by decide))
    refine vl_aload_n C0 dX4_ahead_24 0 rfl ?_
    refine vl_iload_n C0 dX4_ahead_25 1 rfl ?_
    refine vl_calli C0 (vl_goV C0 (As := [.int (nI ja)]) (na := 1) (b := ad 0) (st := []) (ci := 4) gX4_ahead_X4_aheadOf rfl rfl rfl (by decide +kernel) ⟨Nat.le_of_ble_eq_true rfl, Nat.le_of_ble_eq_true rfl⟩ rfl ⟨0, _, rfl⟩ dX4_ahead_26 (Nat.le_of_ble_eq_true rfl) ⟨Nat.le_of_ble_eq_true rfl, Nat.le_of_ble_eq_true rfl⟩ rfl rfl) (c_X4_aheadOf hl0 ja (by omega)) (k2 := 0) (n2 := 0) (Nat.le_of_ble_eq_true rfl) (Nat.le_of_ble_eq_true rfl) (fun r9 w9 hp9 => ?_)
    obtain ⟨rfl, rfl⟩ := hp9
    exact vl_iret C0 hA.symm hr ⟨by simp [sp_ahead, bI, g6, nI_clamp (show ja < 2 ^ 31 by omega)]; rfl, by simp [sp_ahead, bI, g6, nI_clamp (show ja < 2 ^ 31 by omega)]⟩ (Nat.le_of_ble_eq_true rfl) (Nat.le_of_ble_eq_true rfl) dX4_ahead_29
set_option maxHeartbeats 4000000 in
set_option maxRecDepth 100000 in
theorem c_X4_differences {l : Launch} {D : va_G} {cy : Nat → ClassId} {ad : Nat → Nat} {mm : Nat → Nat → Int32} {X : va_W} {nl : Nat} {par : Nat → Option Nat} (hl0 : l.stackTraces = false) (a b : Int32) (e7 : mm 0 7 = nI nl) (h1 : 1 ≤ nl) (h9 : nl ≤ 9) (ht : mTree nl par mm) : vl_Ki l D cy yX4_differences wsX4_differences { frames := 2, cells := 0, slots := 0, locals := 45 } 0 0 (mw cy ad mm ++ X) [.ref (ad 0), .int a, .int b] (fun r w' => r = (sp_differences nl par mm a b).1 ∧ w' = mw cy ad (sp_differences nl par mm a b).2 ++ X) := by
  refine vl_openi hl0 (by decide) rfl (Nat.le_of_ble_eq_true rfl) rfl ?_
  intro p e s m args below meth c C0 hr hnm
  generalize hA : va_A (mw cy ad mm ++ X) s.heap.size = A at C0 ⊢
  refine vl_lv (lv2 := [(0, .ref (ad 0)), (1, .int a), (2, .int b)]) [0, 1, 2] rfl ?_
  have hin : ∀ x ∈ u_ws RX4 TX4 18, x ∈ wsX4_differences := by decide +kernel
  refine vl_aload_n C0 dX4_differences_0 0 rfl ?_
  refine vl_aload_n C0 dX4_differences_1 0 rfl ?_
  refine vl_iload_n C0 dX4_differences_2 1 rfl ?_
  refine vl_calli C0 (vl_goV C0 (As := [.int a]) (na := 1) (b := ad 0) (st := [.ref (ad 0)]) (ci := 4) gX4_differences_X4_isLine rfl rfl rfl (by decide +kernel) ⟨Nat.le_of_ble_eq_true rfl, Nat.le_of_ble_eq_true rfl⟩ rfl ⟨0, _, rfl⟩ dX4_differences_3 (Nat.le_of_ble_eq_true rfl) ⟨Nat.le_of_ble_eq_true rfl, Nat.le_of_ble_eq_true rfl⟩ rfl rfl) (c_X4_isLine hl0 a) (k2 := 0) (n2 := 0) (Nat.le_of_ble_eq_true rfl) (Nat.le_of_ble_eq_true rfl) (fun r9 w9 hp9 => ?_)
  obtain ⟨rfl, rfl⟩ := hp9
  rw [e7]
  refine vl_if_eq (tgt := 21) C0 dX4_differences_6 (by decide) (fun (h6 : (bI (inB a 0 (nI nl - 1)) : Int32) = (0 : Int32)) => ?_) (fun (h6 : ¬ (bI (inB a 0 (nI nl - 1)) : Int32) = (0 : Int32)) => ?_)
  · have g6 := bI_0.mp h6
    refine vl_iconst (v := 1) C0 dX4_differences_21 (by decide) ?_
    refine vl_calli C0 (vl_goV C0 (As := [.int 1]) (na := 1) (b := ad 0) (st := []) (ci := 4) gX4_differences_X4_fails rfl rfl rfl (by decide +kernel) ⟨Nat.le_of_ble_eq_true rfl, Nat.le_of_ble_eq_true rfl⟩ rfl ⟨0, _, rfl⟩ dX4_differences_22 (Nat.le_of_ble_eq_true rfl) ⟨Nat.le_of_ble_eq_true rfl, Nat.le_of_ble_eq_true rfl⟩ rfl rfl) (c_X4_fails hl0 1) (k2 := 0) (n2 := 0) (Nat.le_of_ble_eq_true rfl) (Nat.le_of_ble_eq_true rfl) (fun r9 w9 hp9 => ?_)
    obtain ⟨hr9, rfl⟩ := hp9
    have hr9 : r9 = 1 := hr9.trans (by decide)
    subst hr9
    refine vl_if_eq (tgt := 30) C0 dX4_differences_25 (by decide) (fun (h25 : (1 : Int32) = (0 : Int32)) => absurd h25 (by decide)) (fun (h25 : ¬ (1 : Int32) = (0 : Int32)) => ?_)
    refine vl_iconst (v := 0) C0 dX4_differences_28 (by decide) ?_
    exact vl_iret C0 hA.symm hr ⟨by simp [sp_differences, bI, g6], by simp [sp_differences, bI, g6]⟩ (Nat.le_of_ble_eq_true rfl) (Nat.le_of_ble_eq_true rfl) dX4_differences_29
  · have g6 := bI_n.mp h6
    refine vl_aload_n C0 dX4_differences_9 0 rfl ?_
    refine vl_iload_n C0 dX4_differences_10 2 rfl ?_
    refine vl_calli C0 (vl_goV C0 (As := [.int b]) (na := 1) (b := ad 0) (st := [.ref (ad 0)]) (ci := 4) gX4_differences_X4_isLine rfl rfl rfl (by decide +kernel) ⟨Nat.le_of_ble_eq_true rfl, Nat.le_of_ble_eq_true rfl⟩ rfl ⟨0, _, rfl⟩ dX4_differences_11 (Nat.le_of_ble_eq_true rfl) ⟨Nat.le_of_ble_eq_true rfl, Nat.le_of_ble_eq_true rfl⟩ rfl rfl) (c_X4_isLine hl0 b) (k2 := 0) (n2 := 0) (Nat.le_of_ble_eq_true rfl) (Nat.le_of_ble_eq_true rfl) (fun r9 w9 hp9 => ?_)
    obtain ⟨rfl, rfl⟩ := hp9
    rw [e7]
    refine vl_if_eq (tgt := 21) C0 dX4_differences_14 (by decide) (fun (h14 : (bI (inB b 0 (nI nl - 1)) : Int32) = (0 : Int32)) => ?_) (fun (h14 : ¬ (bI (inB b 0 (nI nl - 1)) : Int32) = (0 : Int32)) => ?_)
    · have g14 := bI_0.mp h14
      refine vl_iconst (v := 1) C0 dX4_differences_21 (by decide) ?_
      refine vl_calli C0 (vl_goV C0 (As := [.int 1]) (na := 1) (b := ad 0) (st := []) (ci := 4) gX4_differences_X4_fails rfl rfl rfl (by decide +kernel) ⟨Nat.le_of_ble_eq_true rfl, Nat.le_of_ble_eq_true rfl⟩ rfl ⟨0, _, rfl⟩ dX4_differences_22 (Nat.le_of_ble_eq_true rfl) ⟨Nat.le_of_ble_eq_true rfl, Nat.le_of_ble_eq_true rfl⟩ rfl rfl) (c_X4_fails hl0 1) (k2 := 0) (n2 := 0) (Nat.le_of_ble_eq_true rfl) (Nat.le_of_ble_eq_true rfl) (fun r9 w9 hp9 => ?_)
      obtain ⟨hr9, rfl⟩ := hp9
      have hr9 : r9 = 1 := hr9.trans (by decide)
      subst hr9
      refine vl_if_eq (tgt := 30) C0 dX4_differences_25 (by decide) (fun (h25 : (1 : Int32) = (0 : Int32)) => absurd h25 (by decide)) (fun (h25 : ¬ (1 : Int32) = (0 : Int32)) => ?_)
      refine vl_iconst (v := 0) C0 dX4_differences_28 (by decide) ?_
      exact vl_iret C0 hA.symm hr ⟨by simp [sp_differences, bI, g6, g14], by simp [sp_differences, bI, g6, g14]⟩ (Nat.le_of_ble_eq_true rfl) (Nat.le_of_ble_eq_true rfl) dX4_differences_29
    · have g14 := bI_n.mp h14
      obtain ⟨ja, hja, rfl⟩ := inB_nI h1 (by omega) g6
      obtain ⟨jb, hjb, rfl⟩ := inB_nI h1 (by omega) g14
      refine vl_iconst (v := 0) C0 dX4_differences_17 (by decide) ?_
      refine vl_goto (tgt := 22) C0 dX4_differences_18 (by decide) ?_
      refine vl_calli C0 (vl_goV C0 (As := [.int 0]) (na := 1) (b := ad 0) (st := []) (ci := 4) gX4_differences_X4_fails rfl rfl rfl (by decide +kernel) ⟨Nat.le_of_ble_eq_true rfl, Nat.le_of_ble_eq_true rfl⟩ rfl ⟨0, _, rfl⟩ dX4_differences_22 (Nat.le_of_ble_eq_true rfl) ⟨Nat.le_of_ble_eq_true rfl, Nat.le_of_ble_eq_true rfl⟩ rfl rfl) (c_X4_fails hl0 0) (k2 := 0) (n2 := 0) (Nat.le_of_ble_eq_true rfl) (Nat.le_of_ble_eq_true rfl) (fun r9 w9 hp9 => ?_)
      obtain ⟨hr9, rfl⟩ := hp9
      have hr9 : r9 = 0 := hr9.trans (by decide)
      subst hr9
      refine vl_if_eq (tgt := 30) C0 dX4_differences_25 (by decide) (fun (h25 : (0 : Int32) = (0 : Int32)) => ?_) (fun (h25 : ¬ (0 : Int32) = (0 : Int32)) => absurd h25 (by decide))
      refine vl_iconst (v := 0) C0 dX4_differences_30 (by decide) ?_
      refine vl_istore_n (lv' := [(0, .ref (ad 0)), (1, .int (nI ja)), (2, .int (nI jb)), (3, .int 0)]) C0 dX4_differences_31 [1, 2, 3, 0] (by decide) rfl ?_
      refine vl_iconst (v := 0) C0 dX4_differences_32 (by decide) ?_
      refine vl_istore (lv' := [(0, .ref (ad 0)), (1, .int (nI ja)), (2, .int (nI jb)), (3, .int 0), (4, .int 0)]) C0 dX4_differences_33 [1, 2, 3, 4, 0] (by decide) rfl ?_
      refine vl_loop (σ := Nat) (fun _ => mw cy ad (up2 mm 0 17 0) ++ X) (fun k => [(0, .ref (ad 0)), (1, .int (nI ja)), (2, .int (nI jb)), (3, .int (bset (difP (mm 11) par ja jb) k)), (4, .int (nI k))]) (fun k => k ≤ 30) (fun k => 30 - k) ?_ 0 (by decide)
      intro k hk ih
      refine vl_lv (lv2 := [(0, .ref (ad 0)), (1, .int (nI ja)), (2, .int (nI jb)), (3, .int (bset (difP (mm 11) par ja jb) k)), (4, .int (nI k))]) [0, 1, 2, 3, 4] rfl ?_
      refine vl_iload C0 dX4_differences_35 4 rfl ?_
      refine vl_bipush (v := 30) C0 dX4_differences_37 (by decide) ?_
      refine vl_icmp_ge (tgt := 76) C0 dX4_differences_39 (by decide) (fun (h39 : (30 : Int32) ≤ (nI k : Int32)) => ?_) (fun (h39 : ¬ (30 : Int32) ≤ (nI k : Int32)) => ?_)
      · have hk30 : k = 30 := by have z : ¬ k < 30 := fun q => absurd h39 (nI_ge q (by decide)); omega
        refine vl_iload_n C0 dX4_differences_76 3 rfl ?_
        exact vl_iret C0 hA.symm hr ⟨by subst hk30; simp [sp_differences, bI, g6, g14, nI_clamp (show ja < 2 ^ 31 by omega), nI_clamp (show jb < 2 ^ 31 by omega)], by subst hk30; simp [sp_differences, bI, g6, g14, nI_clamp (show ja < 2 ^ 31 by omega), nI_clamp (show jb < 2 ^ 31 by omega)]⟩ (Nat.le_of_ble_eq_true rfl) (Nat.le_of_ble_eq_true rfl) dX4_differences_77
      · have hk30 : k < 30 := by have z : ¬ k = 30 := fun q => h39 (by rw [q]; exact nI_le (Nat.le_refl _) (by decide)); omega
        refine vl_iload_n C0 dX4_differences_42 3 rfl ?_
        refine vl_aload_n C0 dX4_differences_43 0 rfl ?_
        refine vl_iload_n C0 dX4_differences_44 1 rfl ?_
        refine vl_iload C0 dX4_differences_45 4 rfl ?_
        refine vl_calli C0 (vl_goV C0 (As := [.int (nI ja), .int (nI k)]) (na := 2) (b := ad 0) (st := [.int (bset (difP (mm 11) par ja jb) k)]) (ci := 4) gX4_differences_X4_orderAt rfl rfl rfl (by decide +kernel) ⟨Nat.le_of_ble_eq_true rfl, Nat.le_of_ble_eq_true rfl⟩ rfl ⟨0, _, rfl⟩ dX4_differences_47 (Nat.le_of_ble_eq_true rfl) ⟨Nat.le_of_ble_eq_true rfl, Nat.le_of_ble_eq_true rfl⟩ rfl rfl) (c_X4_orderAt hl0 ja k (nl := nl) (par := par) ht h9 (hja) (hk30)) (k2 := 0) (n2 := 0) (Nat.le_of_ble_eq_true rfl) (Nat.le_of_ble_eq_true rfl) (fun r9 w9 hp9 => ?_)
        obtain ⟨rfl, rfl⟩ := hp9
        refine vl_aload_n C0 dX4_differences_50 0 rfl ?_
        refine vl_iload_n C0 dX4_differences_51 2 rfl ?_
        refine vl_iload C0 dX4_differences_52 4 rfl ?_
        refine vl_calli C0 (vl_goV C0 (As := [.int (nI jb), .int (nI k)]) (na := 2) (b := ad 0) (st := [.int (ordX (mm 11) par k (some ja)), .int (bset (difP (mm 11) par ja jb) k)]) (ci := 4) gX4_differences_X4_orderAt rfl rfl rfl (by decide +kernel) ⟨Nat.le_of_ble_eq_true rfl, Nat.le_of_ble_eq_true rfl⟩ rfl ⟨0, _, rfl⟩ dX4_differences_54 (Nat.le_of_ble_eq_true rfl) ⟨Nat.le_of_ble_eq_true rfl, Nat.le_of_ble_eq_true rfl⟩ rfl rfl) (c_X4_orderAt hl0 jb k (nl := nl) (par := par) ht h9 (hjb) (hk30)) (k2 := 0) (n2 := 0) (Nat.le_of_ble_eq_true rfl) (Nat.le_of_ble_eq_true rfl) (fun r9 w9 hp9 => ?_)
        obtain ⟨rfl, rfl⟩ := hp9
        refine vl_icmp_ne (tgt := 64) C0 dX4_differences_57 (by decide) (fun (h57 : ¬ (ordX (mm 11) par k (some ja) : Int32) = (ordX (mm 11) par k (some jb) : Int32)) => ?_) (fun (h57 : (ordX (mm 11) par k (some ja) : Int32) = (ordX (mm 11) par k (some jb) : Int32)) => ?_)
        · refine vl_iconst (v := 1) C0 dX4_differences_64 (by decide) ?_
          refine vl_iload C0 dX4_differences_65 4 rfl ?_
          refine vl_ishl C0 dX4_differences_67 ?_
          refine vl_ior C0 dX4_differences_68 ?_
          rw [bset_t (P := difP (mm 11) par ja jb) (k := k) (by simp [difP, h57])]
          refine vl_istore_n (lv' := [(0, .ref (ad 0)), (1, .int (nI ja)), (2, .int (nI jb)), (3, .int (bset (difP (mm 11) par ja jb) (k + 1))), (4, .int (nI k))]) C0 dX4_differences_69 [1, 2, 3, 0, 4] (by decide) rfl ?_
          refine vl_iinc (v := nI (k + 1)) (lv' := [(0, .ref (ad 0)), (1, .int (nI ja)), (2, .int (nI jb)), (3, .int (bset (difP (mm 11) par ja jb) (k + 1))), (4, .int (nI (k + 1)))]) C0 dX4_differences_70 4 rfl (nI_1 k) [1, 2, 3, 4, 0] (by decide) rfl ?_
          refine vl_goto (tgt := 35) C0 dX4_differences_73 (by decide) ?_
          exact ih (k + 1) (by omega) (by omega)
        · refine vl_iconst (v := 0) C0 dX4_differences_60 (by decide) ?_
          refine vl_goto (tgt := 68) C0 dX4_differences_61 (by decide) ?_
          refine vl_ior C0 dX4_differences_68 ?_
          rw [bset_f (P := difP (mm 11) par ja jb) (k := k) (by simp [difP, h57])]
          refine vl_istore_n (lv' := [(0, .ref (ad 0)), (1, .int (nI ja)), (2, .int (nI jb)), (3, .int (bset (difP (mm 11) par ja jb) (k + 1))), (4, .int (nI k))]) C0 dX4_differences_69 [1, 2, 3, 0, 4] (by decide) rfl ?_
          refine vl_iinc (v := nI (k + 1)) (lv' := [(0, .ref (ad 0)), (1, .int (nI ja)), (2, .int (nI jb)), (3, .int (bset (difP (mm 11) par ja jb) (k + 1))), (4, .int (nI (k + 1)))]) C0 dX4_differences_70 4 rfl (nI_1 k) [1, 2, 3, 4, 0] (by decide) rfl ?_
          refine vl_goto (tgt := 35) C0 dX4_differences_73 (by decide) ?_
          exact ih (k + 1) (by omega) (by omega)
end VM7
