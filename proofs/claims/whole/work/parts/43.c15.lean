section VC15
set_option maxHeartbeats 4000000 in
set_option maxRecDepth 100000 in
theorem c_X3_fork {l : Launch} {D : va_G} {cy : Nat → ClassId} {ad : Nat → Nat → Nat} {nl ns : Nat} {par : Nat → Option Nat} {Rl : List (Nat × Nat)} {d : Nat → Nat → Nat → Int32} {X : va_W} (hl0 : l.stackTraces = false) (hok : cw_ok nl ns Rl) (h19 : 1 ≤ nl) (h9 : nl ≤ 9) (hfk : d 0 0 3 = nI (nl - 1)) (htp : ∀ i p, par i = some p → p < i) (a t : Int32) : vl_Xi l D cy yX3_fork wsX3_fork { frames := 7, cells := 4, slots := 48, locals := 112 } 4 48 (cw cy ad nl ns par Rl d ++ X) [.ref (ad 0 0), .int a, .int t] (fun r w' => (inB a 0 (nI nl - 1) && inB t 0 29) = true ∧ ¬ nl = 9 ∧ r = nI nl ∧ ∃ ja jt q47 q7 : Nat, a = nI ja ∧ t = nI jt ∧ ja < nl ∧ jt < 30 ∧ w' = cw cy (adL ad nl q47 q7) (nl + 1) ns (parL par nl ja) Rl (up3 d 0 0 3 (nI nl)) ++ (X ++ [(q47, .inr (1, [.ref (ad 5 ja), .int (nI jt), .ref q7, .int 0, .int 0, .int (d 5 ja 5)])), (q7, .inl (cy 0, 30, .inl (fun _ => 0)))])) (fun E => (E = "java/lang/IndexOutOfBoundsException" ∧ (inB a 0 (nI nl - 1) && inB t 0 29) = false) ∨ (E = "java/lang/IllegalStateException" ∧ (inB a 0 (nI nl - 1) && inB t 0 29) = true ∧ nl = 9)) := by
  refine vl_openXi hl0 (by decide) rfl (Nat.le_of_ble_eq_true rfl) rfl ?_
  intro p e s m args below meth c C0 hr hnm hex
  generalize hA : va_A (cw cy ad nl ns par Rl d ++ X) s.heap.size = A at C0 ⊢
  refine vl_lv (lv2 := [(0, .ref (ad 0 0)), (1, .int a), (2, .int t)]) [0, 1, 2] rfl ?_
  have hinX3 : ∀ x ∈ u_ws RX3 TX3 4, x ∈ wsX3_fork := by decide +kernel
  have hinX1 : ∀ x ∈ u_ws RX1 TX1 6, x ∈ wsX3_fork := by decide +kernel
  refine vl_aload_n C0 dX3_fork_0 0 rfl ?_
  refine vl_iload_n C0 dX3_fork_1 1 rfl ?_
  refine vl_xcallq C0 (vl_goVX C0 (As := [.int a]) (na := 1) (b := ad 0 0) (st := []) (ci := 3) gX3_fork_X3_lineNumbered rfl rfl rfl (by decide +kernel) ⟨Nat.le_of_ble_eq_true rfl, Nat.le_of_ble_eq_true rfl⟩ rfl (rc_rec (cR0 hok) rfl) dX3_fork_2 (Nat.le_of_ble_eq_true rfl) ⟨Nat.le_of_ble_eq_true rfl, Nat.le_of_ble_eq_true rfl⟩ rfl rfl) (c_X3_lineNumbered hl0 hok h19 h9 a) (k2 := 1) (n2 := 6) (Nat.le_of_ble_eq_true rfl) (Nat.le_of_ble_eq_true rfl) (fun E9 hE9 => vl_out C0 hA.symm hex (Nat.le_of_ble_eq_true rfl) (Nat.le_of_ble_eq_true rfl) (Or.inl ⟨hE9.1, by rw [hE9.2]; rfl⟩)) (fun r9 w9 hp9 => ?_)
  obtain ⟨ja, hja, eja, rfl, rfl⟩ := hp9
  subst eja
  refine vl_st (st2 := [.ref (ad 5 ja)]) rfl ?_
  refine vl_astore_n (lv' := [(0, .ref (ad 0 0)), (1, .int (nI ja)), (2, .int t), (3, .ref (ad 5 ja))]) C0 dX3_fork_5 [1, 2, 3, 0] (by decide) rfl ?_
  refine vl_iload_n C0 dX3_fork_6 2 rfl ?_
  refine vl_xcallv C0 (vl_goSX C0 (As := [.int t]) (na := 1) (st := []) gX3_fork_X3_checkTurn rfl rfl rfl (by decide +kernel) ⟨Nat.le_of_ble_eq_true rfl, Nat.le_of_ble_eq_true rfl⟩ dX3_fork_7 (Nat.le_of_ble_eq_true rfl) ⟨Nat.le_of_ble_eq_true rfl, Nat.le_of_ble_eq_true rfl⟩ rfl rfl) (c_X3_checkTurn hl0 t) (k2 := 2) (n2 := 12) (Nat.le_of_ble_eq_true rfl) (Nat.le_of_ble_eq_true rfl) (fun E9 hE9 => vl_out C0 hA.symm hex (Nat.le_of_ble_eq_true rfl) (Nat.le_of_ble_eq_true rfl) (Or.inl ⟨hE9.1, by rw [hE9.2, Bool.and_false]⟩)) (fun w9 hp9 => ?_)
  obtain ⟨gt, rfl⟩ := hp9
  obtain ⟨jt, hjt, ejt⟩ := inB_k gt (by decide) (n := 30) (by decide)
  subst ejt
  refine vl_aload_n C0 dX3_fork_10 0 rfl ?_
  refine rc_get C0 (C := RX3) (T := TX3) (N := 4) (ci := 3) hinX3 (cR0 hok) rfl rfl 3 (by decide) (by decide +kernel) (v := .int (nI (nl - 1))) (congrArg (fun z => some (Value.int z)) (hfk)) dX3_fork_11 ?_
  refine vl_bipush (v := 8) C0 dX3_fork_14 (by decide) ?_
  refine vl_icmp_lt (tgt := 29) C0 dX3_fork_16 (by decide) (fun (h16 : (nI (nl - 1) : Int32) < (8 : Int32)) => ?_) (fun (h16 : ¬ (nI (nl - 1) : Int32) < (8 : Int32)) => ?_)
  · have hn9 : nl < 9 := by have z : ¬ 8 ≤ nl - 1 := fun q => absurd h16 (nI_nlt q (by omega)); omega
    refine vl_aload_n C0 dX3_fork_29 0 rfl ?_
    refine vl_dup C0 dX3_fork_30 rfl ?_
    refine rc_get C0 (C := RX3) (T := TX3) (N := 4) (ci := 3) hinX3 (cR0 hok) rfl rfl 3 (by decide) (by decide +kernel) (v := .int (nI (nl - 1))) (congrArg (fun z => some (Value.int z)) (hfk)) dX3_fork_31 ?_
    refine vl_iconst (v := 1) C0 dX3_fork_34 (by decide) ?_
    refine vl_iadd C0 dX3_fork_35 ?_
    rw [show nI (nl - 1) + 1 = nI nl by rw [nI_1, Nat.sub_add_cancel h19]]
    refine rc_put C0 (C := RX3) (T := TX3) (N := 4) (ci := 3) hinX3 tyX3 tyX3_ok nmX3 hok.1 (cR0 hok) rfl rfl 3 (by decide) (by decide +kernel) rfl rfl (Nat.le_of_ble_eq_true rfl) rfl dX3_fork_36 ?_
    refine vl_aload_n C0 dX3_fork_39 0 rfl ?_
    refine rc_get C0 (C := RX3) (T := TX3) (N := 4) (ci := 3) hinX3 (cR0 hok) rfl rfl 2 (by decide) (by decide +kernel) (v := .ref (ad 2 0)) (rfl) dX3_fork_40 ?_
    refine vl_aload_n C0 dX3_fork_43 0 rfl ?_
    refine rc_get C0 (C := RX3) (T := TX3) (N := 4) (ci := 3) hinX3 (cR0 hok) rfl rfl 3 (by decide) (by decide +kernel) (v := .int (nI nl)) (congrArg (fun z => some (Value.int z)) (by simp [up3, upd])) dX3_fork_44 ?_
    refine vl_new C0 (C := RX1) (T := TX1) (N := 6) (ci := 1) (fs := [.null, .int 0, .null, .int 0, .int 0, .int 0]) hinX1 tyX1 tyX1_ok (by decide +kernel) (by decide +kernel) (by decide +kernel) rfl (by decide +kernel) (Nat.le_of_ble_eq_true rfl) (Nat.le_of_ble_eq_true rfl) dX3_fork_47 (fun q47 => ?_)
    refine vl_wid (k2 := 3) (n2 := 18) (Nat.le_of_ble_eq_true rfl) (Nat.le_of_ble_eq_true rfl) ?_
    refine vl_dup C0 dX3_fork_50 rfl ?_
    refine vl_aload_n C0 dX3_fork_51 3 rfl ?_
    refine vl_iload_n C0 dX3_fork_52 2 rfl ?_
    refine vl_callv C0 (vl_goIN C0 (As := [.ref (ad 5 ja), .int (nI jt)]) (na := 2) (b := q47) (st := [.ref q47, .int (nI nl), .ref (ad 2 0)]) gX3_fork_X1_init_n18 rfl rfl rfl (by decide +kernel) (by decide +kernel) (by decide +kernel) rfl (by decide +kernel) ⟨Nat.le_of_ble_eq_true rfl, Nat.le_of_ble_eq_true rfl⟩ dX3_fork_53 (Nat.le_of_ble_eq_true rfl) ⟨Nat.le_of_ble_eq_true rfl, Nat.le_of_ble_eq_true rfl⟩ rfl rfl) (c_X1_init (Y := cw cy ad nl ns par Rl (up3 d 0 0 3 (nI nl)) ++ X) hl0 q47 (ad 5 ja) (nI jt) (d 5 ja 5) (by obtain ⟨q0, h⟩ := cw_at (cy := cy) (ad := ad) (nl := nl) (ns := ns) (par := par) (d := (up3 d 0 0 3 (nI nl))) (X := X) (cR5 hok hja); exact ⟨q0, _, _, _, _, _, h⟩)) (k2 := 4) (n2 := 48) (Nat.le_of_ble_eq_true rfl) (Nat.le_of_ble_eq_true rfl) (fun w9 hp9 => ?_)
    obtain ⟨q7, rfl⟩ := hp9
    refine vl_w (w2 := cw cy ad nl ns par Rl (up3 d 0 0 3 (nI nl)) ++ (X ++ [(q47, .inr (1, [.ref (ad 5 ja), .int (nI jt), .ref q7, .int 0, .int 0, .int (d 5 ja 5)])), (q7, .inl (cy 0, 30, .inl (fun _ => 0)))])) (List.append_assoc _ _ _) ?_
    obtain ⟨q0, hs1, hs2⟩ := cw_L (cy := cy) (ad := ad) (ns := ns) (q := q47) (q1 := q7) (j := ja) (d := (up3 d 0 0 3 (nI nl))) (X := X ++ [(q47, .inr (1, [.ref (ad 5 ja), .int (nI jt), .ref q7, .int 0, .int 0, .int (d 5 ja 5)])), (q7, .inl (cy 0, 30, .inl (fun _ => 0)))]) hok h19 htp
    refine vl_astL C0 (w2 := cw cy (adL ad nl q47 q7) (nl + 1) ns (parL par nl ja) Rl (up3 d 0 0 3 (nI nl)) ++ (X ++ [(q47, .inr (1, [.ref (ad 5 ja), .int (nI jt), .ref q7, .int 0, .int 0, .int (d 5 ja 5)])), (q7, .inl (cy 0, 30, .inl (fun _ => 0)))])) hs1 (wy_at (wy_at (j := 0) rfl)) (vp_in_nI hn9 (by decide)) (by rw [nI_clamp (show nl < 2 ^ 31 by omega)]; exact hs2) dX3_fork_56 ?_
    refine vl_lv (lv2 := [(0, .ref (adL ad nl q47 q7 0 0))]) [0] rfl ?_
    refine vl_aload_n C0 dX3_fork_57 0 rfl ?_
    refine rc_get C0 (C := RX3) (T := TX3) (N := 4) (ci := 3) hinX3 (cR0 hok) rfl rfl 3 (by decide) (by decide +kernel) (v := .int (nI nl)) (congrArg (fun z => some (Value.int z)) (by simp [up3, upd])) dX3_fork_58 ?_
    exact vl_iretX C0 hA.symm hr ⟨(by rw [inB_of hja (show nl < 2 ^ 31 by omega), show inB (nI jt) 0 29 = true from (inB_of (n := 30) hjt (by decide))]; rfl), (by omega), rfl, ja, jt, q47, q7, rfl, rfl, hja, hjt, rfl⟩ (Nat.le_of_ble_eq_true rfl) (Nat.le_of_ble_eq_true rfl) dX3_fork_61
  · exact vl_throw (ic := 55) (is := 92) (text := "there are 8 forks") (names := ["java/lang/RuntimeException", "java/lang/Exception"]) C0 hA.symm rfl (by decide +kernel) (by decide +kernel) (by decide +kernel) (by decide +kernel) (by decide +kernel) (by decide +kernel) (by decide +kernel) (by decide +kernel) hex dX3_fork_19 dX3_fork_22 dX3_fork_23 dX3_fork_25 dX3_fork_28 (Nat.le_of_ble_eq_true rfl) (Nat.le_of_ble_eq_true rfl) (Nat.le_of_ble_eq_true rfl) (Nat.le_of_ble_eq_true rfl) (Nat.le_of_ble_eq_true rfl) (Nat.le_of_ble_eq_true rfl) (Or.inr ⟨rfl, (by rw [inB_of hja (show nl < 2 ^ 31 by omega), show inB (nI jt) 0 29 = true from (inB_of (n := 30) hjt (by decide))]; rfl), (by have z2 : ¬ nl - 1 < 8 := fun q => h16 (nI_lt q (by decide)); omega)⟩)
def adN (h0 q5 q31 q7 q20 q16 q77 : Nat) : Nat → Nat → Nat := fun a _ => if a = 0 then h0 else if a = 1 then q5 else if a = 2 then q31 else if a = 3 then q7 else if a = 4 then q20 else if a = 5 then q16 else q77
def dN : Nat → Nat → Nat → Int32 := fun a _ => if a = 1 then (fun k => if k = 3 then 3 else if k = 4 then 1 else 0) else if a = 4 then upd (upd (upd (fun _ => 0) (0 : Int32).toNatClampNeg 4) (1 : Int32).toNatClampNeg 4) (2 : Int32).toNatClampNeg 4 else if a = 5 then (fun k => if k = 5 then -1 else 0) else fun _ => 0
def RN0 : List (Nat × Nat) := [(0, 0), (1, 0), (3, 0), (4, 0), (5, 0), (6, 0), (2, 0)]
theorem RN0_ok : cw_ok 1 0 RN0 := by
  refine ⟨by decide, fun a i => ?_⟩
  simp only [RN0, List.mem_cons, Prod.mk.injEq, List.mem_nil_iff, or_false]
  omega
theorem cw_new0 {cy : Nat → ClassId} (h0 q5 q31 q7 q20 q16 q77 : Nat) (f g : Nat → Option Nat) (hf : f = fun j => if j < 0 then some (adN h0 q5 q31 q7 q20 q16 q77 7 j) else none) (hg : g = fun j => if j < 1 then some (adN h0 q5 q31 q7 q20 q16 q77 5 j) else none) : ([(h0, .inr (3, [.ref q5, .ref q16, .ref q31, .int 0])), (q5, .inr (0, [.ref q7, .int 0, .ref q20, .int 3, .int 1, .int 0, .int 0])), (q7, .inl (cy 3, 8, .inr (.inr (.inr (.inr f))))), (q20, .inl (cy 0, 3, .inl (upd (upd (upd (fun _ => 0) (0 : Int32).toNatClampNeg 4) (1 : Int32).toNatClampNeg 4) (2 : Int32).toNatClampNeg 4))), (q16, .inr (1, [.null, .int 0, .ref q77, .int 0, .int 0, .int (-1)])), (q77, .inl (cy 0, 30, .inl (fun _ => 0))), (q31, .inl (cy 2, 9, .inr (.inr (.inr (.inr g)))))] : va_W) = cw cy (adN h0 q5 q31 q7 q20 q16 q77) 1 0 (fun _ => none) RN0 dN := by
  subst hf; subst hg
  rfl
theorem cw_new {cy : Nat → ClassId} (h0 q5 q31 q7 q20 q16 q77 : Nat) : ([(h0, .inr (3, [.ref q5, .ref q16, .ref q31, .int 0])), (q5, .inr (0, [.ref q7, .int 0, .ref q20, .int 3, .int 1, .int 0, .int 0])), (q7, .inl (cy 3, 8, .inr (.inr (.inr (.inr (fun _ => none)))))), (q20, .inl (cy 0, 3, .inl (upd (upd (upd (fun _ => 0) (0 : Int32).toNatClampNeg 4) (1 : Int32).toNatClampNeg 4) (2 : Int32).toNatClampNeg 4))), (q16, .inr (1, [.null, .int 0, .ref q77, .int 0, .int 0, .int (-1)])), (q77, .inl (cy 0, 30, .inl (fun _ => 0))), (q31, .inl (cy 2, 9, .inr (.inr (.inr (.inr (va_up (fun _ => none) (0 : Int32).toNatClampNeg (some q16)))))))] : va_W) = cw cy (adN h0 q5 q31 q7 q20 q16 q77) 1 0 (fun _ => none) RN0 dN := by
  have e1 : (fun j => if j < 0 then some (adN h0 q5 q31 q7 q20 q16 q77 7 j) else none) = (fun _ => none : Nat → Option Nat) := by funext j; simp
  have e2 : (fun j => if j < 1 then some (adN h0 q5 q31 q7 q20 q16 q77 5 j) else none) = va_up (fun _ => none) (0 : Int32).toNatClampNeg (some q16) := by
    funext j
    have e0 : (0 : Int32).toNatClampNeg = 0 := by decide
    rw [e0]
    by_cases h : j = 0
    · subst h; simp [va_up, adN]
    · have : ¬ j < 1 := by omega
      simp [va_up, h]
  exact cw_new0 h0 q5 q31 q7 q20 q16 q77 _ _ e1.symm e2.symm
set_option maxHeartbeats 4000000 in
set_option maxRecDepth 100000 in
theorem c_X3_init {l : Launch} {D : va_G} {cy : Nat → ClassId} {Y : va_W}  (hl0 : l.stackTraces = false) (h0 : Nat) : vl_Kv l D cy yX3_init wsX3_init { frames := 2, cells := 7, slots := 63, locals := 43 } 7 63 (Y ++ [(h0, .inr (3, [.null, .null, .null, .int 0]))]) [.ref h0] (fun w' => ∃ q5 q31 q7 q20 q16 q77 : Nat, w' = Y ++ cw cy (adN h0 q5 q31 q7 q20 q16 q77) 1 0 (fun _ => none) RN0 dN) := by
  refine vl_openv hl0 (by decide) rfl (Nat.le_of_ble_eq_true rfl) rfl ?_
  intro p e s m args below meth c C0 hr hnm
  generalize hA : va_A (Y ++ [(h0, .inr (3, [.null, .null, .null, .int 0]))]) s.heap.size = A at C0 ⊢
  refine vl_lv (lv2 := [(0, .ref h0)]) [0] rfl ?_
  have hinX3 : ∀ x ∈ u_ws RX3 TX3 4, x ∈ wsX3_init := by decide +kernel
  have hinX0 : ∀ x ∈ u_ws RX0 TX0 7, x ∈ wsX3_init := by decide +kernel
  have hinX1 : ∀ x ∈ u_ws RX1 TX1 6, x ∈ wsX3_init := by decide +kernel
  refine vl_aload_n C0 dX3_init_0 0 rfl ?_
  refine vl_objInit C0 (by decide +kernel) (by decide +kernel) (by decide +kernel) (Nat.le_of_ble_eq_true rfl) (Nat.le_of_ble_eq_true rfl) dX3_init_1 ?_
  refine vl_aload_n C0 dX3_init_4 0 rfl ?_
  refine vl_new C0 (C := RX0) (T := TX0) (N := 7) (ci := 0) (fs := [.null, .int 0, .null, .int 0, .int 0, .int 0, .int 0]) hinX0 tyX0 tyX0_ok (by decide +kernel) (by decide +kernel) (by decide +kernel) rfl (by decide +kernel) (Nat.le_of_ble_eq_true rfl) (Nat.le_of_ble_eq_true rfl) dX3_init_5 (fun q5 => ?_)
  refine vl_w (w2 := Y ++ [(h0, .inr (3, [.null, .null, .null, .int 0])), (q5, .inr (0, [.null, .int 0, .null, .int 0, .int 0, .int 0, .int 0]))]) (List.append_assoc _ _ _) ?_
  refine vl_wid (k2 := 1) (n2 := 7) (Nat.le_of_ble_eq_true rfl) (Nat.le_of_ble_eq_true rfl) ?_
  refine vl_dup C0 dX3_init_8 rfl ?_
  refine vl_w (w2 := (Y ++ [(h0, .inr (3, [.null, .null, .null, .int 0]))]) ++ [(q5, .inr (0, [.null, .int 0, .null, .int 0, .int 0, .int 0, .int 0]))]) (by simp) ?_
  refine vl_callv C0 (vl_goIN C0 (As := []) (na := 0) (b := q5) (st := [.ref q5, .ref h0]) gX3_init_X0_init_n11 rfl rfl rfl (by decide +kernel) (by decide +kernel) (by decide +kernel) rfl (by decide +kernel) ⟨Nat.le_of_ble_eq_true rfl, Nat.le_of_ble_eq_true rfl⟩ dX3_init_9 (Nat.le_of_ble_eq_true rfl) ⟨Nat.le_of_ble_eq_true rfl, Nat.le_of_ble_eq_true rfl⟩ rfl rfl) (c_X0_init (Y := (Y ++ [(h0, .inr (3, [.null, .null, .null, .int 0]))])) hl0 q5) (k2 := 3) (n2 := 18) (Nat.le_of_ble_eq_true rfl) (Nat.le_of_ble_eq_true rfl) (fun w9 hp9 => ?_)
  obtain ⟨q7, q20, rfl⟩ := hp9
  refine vl_w (w2 := Y ++ [(h0, .inr (3, [.null, .null, .null, .int 0])), (q5, .inr (0, [.ref q7, .int 0, .ref q20, .int 3, .int 1, .int 0, .int 0])), (q7, .inl (cy 3, 8, .inr (.inr (.inr (.inr (fun _ => none)))))), (q20, .inl (cy 0, 3, .inl (upd (upd (upd (fun _ => 0) (0 : Int32).toNatClampNeg 4) (1 : Int32).toNatClampNeg 4) (2 : Int32).toNatClampNeg 4)))]) (List.append_assoc _ _ _) ?_
  refine vl_putF C0 (C := RX3) (T := TX3) (N := 4) (ci := 3) (q0 := Y.length + 0) (fs := [.null, .null, .null, .int 0]) (v := .ref q5) (w2 := Y ++ [(h0, .inr (3, [.ref q5, .null, .null, .int 0])), (q5, .inr (0, [.ref q7, .int 0, .ref q20, .int 3, .int 1, .int 0, .int 0])), (q7, .inl (cy 3, 8, .inr (.inr (.inr (.inr (fun _ => none)))))), (q20, .inl (cy 0, 3, .inl (upd (upd (upd (fun _ => 0) (0 : Int32).toNatClampNeg 4) (1 : Int32).toNatClampNeg 4) (2 : Int32).toNatClampNeg 4)))]) hinX3 tyX3 tyX3_ok nmX3 (wy_at rfl) rfl 0 (by decide) (by decide +kernel) rfl hnm rfl rfl rfl rfl (Nat.le_of_ble_eq_true rfl) wy_set dX3_init_12 ?_
  refine vl_aload_n C0 dX3_init_15 0 rfl ?_
  refine vl_new C0 (C := RX1) (T := TX1) (N := 6) (ci := 1) (fs := [.null, .int 0, .null, .int 0, .int 0, .int 0]) hinX1 tyX1 tyX1_ok (by decide +kernel) (by decide +kernel) (by decide +kernel) rfl (by decide +kernel) (Nat.le_of_ble_eq_true rfl) (Nat.le_of_ble_eq_true rfl) dX3_init_16 (fun q16 => ?_)
  refine vl_w (w2 := Y ++ [(h0, .inr (3, [.ref q5, .null, .null, .int 0])), (q5, .inr (0, [.ref q7, .int 0, .ref q20, .int 3, .int 1, .int 0, .int 0])), (q7, .inl (cy 3, 8, .inr (.inr (.inr (.inr (fun _ => none)))))), (q20, .inl (cy 0, 3, .inl (upd (upd (upd (fun _ => 0) (0 : Int32).toNatClampNeg 4) (1 : Int32).toNatClampNeg 4) (2 : Int32).toNatClampNeg 4))), (q16, .inr (1, [.null, .int 0, .null, .int 0, .int 0, .int 0]))]) (List.append_assoc _ _ _) ?_
  refine vl_wid (k2 := 4) (n2 := 24) (Nat.le_of_ble_eq_true rfl) (Nat.le_of_ble_eq_true rfl) ?_
  refine vl_dup C0 dX3_init_19 rfl ?_
  refine vl_null C0 dX3_init_20 ?_
  refine vl_iconst (v := 0) C0 dX3_init_21 (by decide) ?_
  refine vl_w (w2 := (Y ++ [(h0, .inr (3, [.ref q5, .null, .null, .int 0])), (q5, .inr (0, [.ref q7, .int 0, .ref q20, .int 3, .int 1, .int 0, .int 0])), (q7, .inl (cy 3, 8, .inr (.inr (.inr (.inr (fun _ => none)))))), (q20, .inl (cy 0, 3, .inl (upd (upd (upd (fun _ => 0) (0 : Int32).toNatClampNeg 4) (1 : Int32).toNatClampNeg 4) (2 : Int32).toNatClampNeg 4)))]) ++ [(q16, .inr (1, [.null, .int 0, .null, .int 0, .int 0, .int 0]))]) (by simp) ?_
  refine vl_callv C0 (vl_goIN C0 (As := [.null, .int 0]) (na := 2) (b := q16) (st := [.ref q16, .ref h0]) gX3_init_X1_init_n18 rfl rfl rfl (by decide +kernel) (by decide +kernel) (by decide +kernel) rfl (by decide +kernel) ⟨Nat.le_of_ble_eq_true rfl, Nat.le_of_ble_eq_true rfl⟩ dX3_init_22 (Nat.le_of_ble_eq_true rfl) ⟨Nat.le_of_ble_eq_true rfl, Nat.le_of_ble_eq_true rfl⟩ rfl rfl) (c_X1_init0 (Y := (Y ++ [(h0, .inr (3, [.ref q5, .null, .null, .int 0])), (q5, .inr (0, [.ref q7, .int 0, .ref q20, .int 3, .int 1, .int 0, .int 0])), (q7, .inl (cy 3, 8, .inr (.inr (.inr (.inr (fun _ => none)))))), (q20, .inl (cy 0, 3, .inl (upd (upd (upd (fun _ => 0) (0 : Int32).toNatClampNeg 4) (1 : Int32).toNatClampNeg 4) (2 : Int32).toNatClampNeg 4)))])) hl0 q16 0) (k2 := 5) (n2 := 54) (Nat.le_of_ble_eq_true rfl) (Nat.le_of_ble_eq_true rfl) (fun w9 hp9 => ?_)
  obtain ⟨q77, rfl⟩ := hp9
  refine vl_w (w2 := Y ++ [(h0, .inr (3, [.ref q5, .null, .null, .int 0])), (q5, .inr (0, [.ref q7, .int 0, .ref q20, .int 3, .int 1, .int 0, .int 0])), (q7, .inl (cy 3, 8, .inr (.inr (.inr (.inr (fun _ => none)))))), (q20, .inl (cy 0, 3, .inl (upd (upd (upd (fun _ => 0) (0 : Int32).toNatClampNeg 4) (1 : Int32).toNatClampNeg 4) (2 : Int32).toNatClampNeg 4))), (q16, .inr (1, [.null, .int 0, .ref q77, .int 0, .int 0, .int ((-1))])), (q77, .inl (cy 0, 30, .inl (fun _ => 0)))]) (List.append_assoc _ _ _) ?_
  refine vl_putF C0 (C := RX3) (T := TX3) (N := 4) (ci := 3) (q0 := Y.length + 0) (fs := [.ref q5, .null, .null, .int 0]) (v := .ref q16) (w2 := Y ++ [(h0, .inr (3, [.ref q5, .ref q16, .null, .int 0])), (q5, .inr (0, [.ref q7, .int 0, .ref q20, .int 3, .int 1, .int 0, .int 0])), (q7, .inl (cy 3, 8, .inr (.inr (.inr (.inr (fun _ => none)))))), (q20, .inl (cy 0, 3, .inl (upd (upd (upd (fun _ => 0) (0 : Int32).toNatClampNeg 4) (1 : Int32).toNatClampNeg 4) (2 : Int32).toNatClampNeg 4))), (q16, .inr (1, [.null, .int 0, .ref q77, .int 0, .int 0, .int ((-1))])), (q77, .inl (cy 0, 30, .inl (fun _ => 0)))]) hinX3 tyX3 tyX3_ok nmX3 (wy_at rfl) rfl 1 (by decide) (by decide +kernel) rfl hnm rfl rfl rfl rfl (Nat.le_of_ble_eq_true rfl) wy_set dX3_init_25 ?_
  refine vl_aload_n C0 dX3_init_28 0 rfl ?_
  refine vl_bipush (v := 9) C0 dX3_init_29 (by decide) ?_
  refine vl_newL C0 (N := 9) (by decide +kernel) (by decide) (by decide) (by decide) (Nat.le_of_ble_eq_true rfl) (Nat.le_of_ble_eq_true rfl) dX3_init_31 (fun q31 => ?_)
  refine vl_w (w2 := Y ++ [(h0, .inr (3, [.ref q5, .ref q16, .null, .int 0])), (q5, .inr (0, [.ref q7, .int 0, .ref q20, .int 3, .int 1, .int 0, .int 0])), (q7, .inl (cy 3, 8, .inr (.inr (.inr (.inr (fun _ => none)))))), (q20, .inl (cy 0, 3, .inl (upd (upd (upd (fun _ => 0) (0 : Int32).toNatClampNeg 4) (1 : Int32).toNatClampNeg 4) (2 : Int32).toNatClampNeg 4))), (q16, .inr (1, [.null, .int 0, .ref q77, .int 0, .int 0, .int ((-1))])), (q77, .inl (cy 0, 30, .inl (fun _ => 0))), (q31, .inl (cy 2, 9, .inr (.inr (.inr (.inr (fun _ => none))))))]) (List.append_assoc _ _ _) ?_
  refine vl_wid (k2 := 6) (n2 := 63) (Nat.le_of_ble_eq_true rfl) (Nat.le_of_ble_eq_true rfl) ?_
  refine vl_putF C0 (C := RX3) (T := TX3) (N := 4) (ci := 3) (q0 := Y.length + 0) (fs := [.ref q5, .ref q16, .null, .int 0]) (v := .ref q31) (w2 := Y ++ [(h0, .inr (3, [.ref q5, .ref q16, .ref q31, .int 0])), (q5, .inr (0, [.ref q7, .int 0, .ref q20, .int 3, .int 1, .int 0, .int 0])), (q7, .inl (cy 3, 8, .inr (.inr (.inr (.inr (fun _ => none)))))), (q20, .inl (cy 0, 3, .inl (upd (upd (upd (fun _ => 0) (0 : Int32).toNatClampNeg 4) (1 : Int32).toNatClampNeg 4) (2 : Int32).toNatClampNeg 4))), (q16, .inr (1, [.null, .int 0, .ref q77, .int 0, .int 0, .int ((-1))])), (q77, .inl (cy 0, 30, .inl (fun _ => 0))), (q31, .inl (cy 2, 9, .inr (.inr (.inr (.inr (fun _ => none))))))]) hinX3 tyX3 tyX3_ok nmX3 (wy_at rfl) rfl 2 (by decide) (by decide +kernel) rfl hnm rfl rfl rfl rfl (Nat.le_of_ble_eq_true rfl) wy_set dX3_init_34 ?_
  refine vl_aload_n C0 dX3_init_37 0 rfl ?_
  refine vl_iconst (v := 0) C0 dX3_init_38 (by decide) ?_
  refine vl_put C0 (C := RX3) (T := TX3) (N := 4) (ci := 3) (q0 := Y.length + 0) (fs := [.ref q5, .ref q16, .ref q31, .int 0]) (v := .int 0) (w2 := Y ++ [(h0, .inr (3, [.ref q5, .ref q16, .ref q31, .int 0])), (q5, .inr (0, [.ref q7, .int 0, .ref q20, .int 3, .int 1, .int 0, .int 0])), (q7, .inl (cy 3, 8, .inr (.inr (.inr (.inr (fun _ => none)))))), (q20, .inl (cy 0, 3, .inl (upd (upd (upd (fun _ => 0) (0 : Int32).toNatClampNeg 4) (1 : Int32).toNatClampNeg 4) (2 : Int32).toNatClampNeg 4))), (q16, .inr (1, [.null, .int 0, .ref q77, .int 0, .int 0, .int ((-1))])), (q77, .inl (cy 0, 30, .inl (fun _ => 0))), (q31, .inl (cy 2, 9, .inr (.inr (.inr (.inr (fun _ => none))))))]) hinX3 tyX3 tyX3_ok nmX3 (wy_at rfl) rfl 3 (by decide) (by decide +kernel) rfl rfl rfl rfl (Nat.le_of_ble_eq_true rfl) wy_set dX3_init_39 ?_
  refine vl_aload_n C0 dX3_init_42 0 rfl ?_
  refine vl_get C0 (C := RX3) (T := TX3) (N := 4) (ci := 3) (fs := [.ref q5, .ref q16, .ref q31, .int 0]) hinX3 ⟨Y.length + 0, wy_at rfl⟩ rfl 2 (by decide) (by decide +kernel) (v := .ref q31) rfl dX3_init_43 ?_
  refine vl_iconst (v := 0) C0 dX3_init_46 (by decide) ?_
  refine vl_aload_n C0 dX3_init_47 0 rfl ?_
  refine vl_get C0 (C := RX3) (T := TX3) (N := 4) (ci := 3) (fs := [.ref q5, .ref q16, .ref q31, .int 0]) hinX3 ⟨Y.length + 0, wy_at rfl⟩ rfl 1 (by decide) (by decide +kernel) (v := .ref q16) rfl dX3_init_48 ?_
  refine vl_astL C0 (q0 := Y.length + 6) (qk := Y.length + 4) (w2 := Y ++ [(h0, .inr (3, [.ref q5, .ref q16, .ref q31, .int 0])), (q5, .inr (0, [.ref q7, .int 0, .ref q20, .int 3, .int 1, .int 0, .int 0])), (q7, .inl (cy 3, 8, .inr (.inr (.inr (.inr (fun _ => none)))))), (q20, .inl (cy 0, 3, .inl (upd (upd (upd (fun _ => 0) (0 : Int32).toNatClampNeg 4) (1 : Int32).toNatClampNeg 4) (2 : Int32).toNatClampNeg 4))), (q16, .inr (1, [.null, .int 0, .ref q77, .int 0, .int 0, .int ((-1))])), (q77, .inl (cy 0, 30, .inl (fun _ => 0))), (q31, .inl (cy 2, 9, .inr (.inr (.inr (.inr (va_up (fun _ => none) (0 : Int32).toNatClampNeg (some q16)))))))]) (wy_at rfl) (wy_at rfl) (vp_in_iff.mpr (by decide)) wy_set dX3_init_51 ?_
  exact vl_vret C0 hA.symm hr ⟨q5, q31, q7, q20, q16, q77, by rw [← cw_new]⟩ (Nat.le_of_ble_eq_true rfl) (Nat.le_of_ble_eq_true rfl) dX3_init_52
end VC15
