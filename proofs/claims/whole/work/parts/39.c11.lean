section VC11
theorem wy_at {Y L : va_W} {j : Nat} {c : Nat × va_E} (h : L[j]? = some c) : (Y ++ L)[Y.length + j]? = some c := by
  rw [List.getElem?_append_right (Nat.le_add_right _ _), Nat.add_sub_cancel_left]; exact h
theorem wy_set {Y L : va_W} {j : Nat} {c : Nat × va_E} : (Y ++ L).set (Y.length + j) c = Y ++ L.set j c := by
  rw [List.set_append_right _ _ (Nat.le_add_right _ _), Nat.add_sub_cancel_left]
theorem wy_in {Y L : va_W} {j : Nat} {c : Nat × va_E} (h : Y[j]? = some c) : (Y ++ L)[j]? = some c := by
  have hl : j < Y.length := (List.getElem?_eq_some_iff.mp h).1
  rw [List.getElem?_append_left hl]; exact h
theorem wd_nd {A : Nat → Prop} {w : va_W} : va_D A w ↔ (w.map Prod.fst).Nodup ∧ ∀ q ∈ w, A q.1 := by
  constructor
  · intro h
    refine ⟨List.pairwise_iff_getElem.mpr fun i j hi hj hij he => ?_, fun q hq => ?_⟩
    · have hi2 : i < w.length := by simpa using hi
      have hj2 : j < w.length := by simpa using hj
      have := h.1 i j w[i] w[j] (List.getElem?_eq_getElem hi2) (List.getElem?_eq_getElem hj2) (by simpa using he)
      omega
    · obtain ⟨k, hk, e⟩ := List.getElem_of_mem hq
      exact h.2 k q (by rw [List.getElem?_eq_getElem hk, e])
  · intro h
    refine ⟨fun i j p q hp hq e => ?_, fun k q hk => h.2 q (List.mem_of_getElem? hk)⟩
    obtain ⟨hi, e1⟩ := List.getElem?_eq_some_iff.mp hp
    obtain ⟨hj, e2⟩ := List.getElem?_eq_some_iff.mp hq
    have hn := List.pairwise_iff_getElem.mp h.1
    rcases Nat.lt_trichotomy i j with z | z | z
    · refine absurd ?_ (hn i j (by simpa using hi) (by simpa using hj) z)
      rw [List.getElem_map, List.getElem_map, e1, e2]; exact e
    · exact z
    · refine absurd ?_ (hn j i (by simpa using hj) (by simpa using hi) z)
      rw [List.getElem_map, List.getElem_map, e1, e2]; exact e.symm
theorem wp_P {D : va_G} {w w2 : va_W} {H : Heap} (h : w.Perm w2) (hP : va_P D vwCl w H) : va_P D vwCl w2 H := fun k q hk => by
  obtain ⟨i, hi, e⟩ := List.getElem_of_mem (h.mem_iff.mpr (List.mem_of_getElem? hk))
  exact hP i q (by rw [List.getElem?_eq_getElem hi, e])
theorem wp_D {A : Nat → Prop} {w w2 : va_W} (h : w.Perm w2) (hD : va_D A w) : va_D A w2 := by
  rw [wd_nd] at *
  exact ⟨(h.map Prod.fst).nodup_iff.mp hD.1, fun q hq => hD.2 q (h.mem_iff.mpr hq)⟩
theorem vl_perm {p : Program} {l : Launch} {e : Env} {R : Room} {s : State} {m : MethodId} {args : Array Value} {below : List Frame} {meth : Method} {c : Code} {Q : State → Prop} {D : va_G} {A : Nat → Prop} {nL : Nat} {w w2 : va_W} {k n : Nat} {lv : List (Nat × Value)} {pc : Nat} {st : List Value} (h : w.Perm w2) (kk : vl_V p l e R s m args below meth c Q D A nL w2 k n lv pc st) : vl_V p l e R s m args below meth c Q D A nL w k n lv pc st := fun H locs ls hP hD hS hl => kk H locs ls (wp_P h hP) (wp_D h hD) hS hl
set_option maxHeartbeats 4000000 in
set_option maxRecDepth 100000 in
theorem c_X2_init {l : Launch} {D : va_G} {cy : Nat → ClassId} {Y : va_W}  (hl0 : l.stackTraces = false) (h0 : Nat) (a b c0 : Int32) : vl_Kv l D cy yX2_init wsX2_init { frames := 1, cells := 0, slots := 0, locals := 21 } 0 0 (Y ++ [(h0, .inr (2, [.int 0, .int 0, .int 0, .int 0, .int 0]))]) [.ref h0, .int a, .int b, .int c0] (fun w' => w' = Y ++ [(h0, .inr (2, [.int a, .int b, .int c0, .int (-2), .int c0]))]) := by
  refine vl_openv hl0 (by decide) rfl (Nat.le_of_ble_eq_true rfl) rfl ?_
  intro p e s m args below meth c C0 hr hnm
  generalize hA : va_A (Y ++ [(h0, .inr (2, [.int 0, .int 0, .int 0, .int 0, .int 0]))]) s.heap.size = A at C0 ⊢
  refine vl_lv (lv2 := [(0, .ref h0), (1, .int a), (2, .int b), (3, .int c0)]) [0, 1, 2, 3] rfl ?_
  have hinX2 : ∀ x ∈ u_ws RX2 TX2 5, x ∈ wsX2_init := by decide +kernel
  refine vl_aload_n C0 dX2_init_0 0 rfl ?_
  refine vl_objInit C0 (by decide +kernel) (by decide +kernel) (by decide +kernel) (Nat.le_of_ble_eq_true rfl) (Nat.le_of_ble_eq_true rfl) dX2_init_1 ?_
  refine vl_aload_n C0 dX2_init_4 0 rfl ?_
  refine vl_bipush (v := -2) C0 dX2_init_5 (by decide) ?_
  refine vl_put C0 (C := RX2) (T := TX2) (N := 5) (ci := 2) (q0 := Y.length + 0) (fs := [.int 0, .int 0, .int 0, .int 0, .int 0]) (v := .int ((-2))) (w2 := Y ++ [(h0, .inr (2, [.int 0, .int 0, .int 0, .int ((-2)), .int 0]))]) hinX2 tyX2 tyX2_ok nmX2 (wy_at rfl) rfl 3 (by decide) (by decide +kernel) rfl rfl rfl rfl (Nat.le_of_ble_eq_true rfl) wy_set dX2_init_7 ?_
  refine vl_aload_n C0 dX2_init_10 0 rfl ?_
  refine vl_iload_n C0 dX2_init_11 1 rfl ?_
  refine vl_putF C0 (C := RX2) (T := TX2) (N := 5) (ci := 2) (q0 := Y.length + 0) (fs := [.int 0, .int 0, .int 0, .int ((-2)), .int 0]) (v := .int a) (w2 := Y ++ [(h0, .inr (2, [.int a, .int 0, .int 0, .int ((-2)), .int 0]))]) hinX2 tyX2 tyX2_ok nmX2 (wy_at rfl) rfl 0 (by decide) (by decide +kernel) rfl hnm rfl rfl rfl rfl (Nat.le_of_ble_eq_true rfl) wy_set dX2_init_12 ?_
  refine vl_aload_n C0 dX2_init_15 0 rfl ?_
  refine vl_iload_n C0 dX2_init_16 2 rfl ?_
  refine vl_putF C0 (C := RX2) (T := TX2) (N := 5) (ci := 2) (q0 := Y.length + 0) (fs := [.int a, .int 0, .int 0, .int ((-2)), .int 0]) (v := .int b) (w2 := Y ++ [(h0, .inr (2, [.int a, .int b, .int 0, .int ((-2)), .int 0]))]) hinX2 tyX2 tyX2_ok nmX2 (wy_at rfl) rfl 1 (by decide) (by decide +kernel) rfl hnm rfl rfl rfl rfl (Nat.le_of_ble_eq_true rfl) wy_set dX2_init_17 ?_
  refine vl_aload_n C0 dX2_init_20 0 rfl ?_
  refine vl_iload_n C0 dX2_init_21 3 rfl ?_
  refine vl_putF C0 (C := RX2) (T := TX2) (N := 5) (ci := 2) (q0 := Y.length + 0) (fs := [.int a, .int b, .int 0, .int ((-2)), .int 0]) (v := .int c0) (w2 := Y ++ [(h0, .inr (2, [.int a, .int b, .int c0, .int ((-2)), .int 0]))]) hinX2 tyX2 tyX2_ok nmX2 (wy_at rfl) rfl 2 (by decide) (by decide +kernel) rfl hnm rfl rfl rfl rfl (Nat.le_of_ble_eq_true rfl) wy_set dX2_init_22 ?_
  refine vl_aload_n C0 dX2_init_25 0 rfl ?_
  refine vl_iload_n C0 dX2_init_26 3 rfl ?_
  refine vl_put C0 (C := RX2) (T := TX2) (N := 5) (ci := 2) (q0 := Y.length + 0) (fs := [.int a, .int b, .int c0, .int ((-2)), .int 0]) (v := .int c0) (w2 := Y ++ [(h0, .inr (2, [.int a, .int b, .int c0, .int ((-2)), .int c0]))]) hinX2 tyX2 tyX2_ok nmX2 (wy_at rfl) rfl 4 (by decide) (by decide +kernel) rfl rfl rfl rfl (Nat.le_of_ble_eq_true rfl) wy_set dX2_init_27 ?_
  exact vl_vret C0 hA.symm hr rfl (Nat.le_of_ble_eq_true rfl) (Nat.le_of_ble_eq_true rfl) dX2_init_30
set_option maxHeartbeats 4000000 in
set_option maxRecDepth 100000 in
theorem c_X1_init0 {l : Launch} {D : va_G} {cy : Nat → ClassId} {Y : va_W}  (hl0 : l.stackTraces = false) (h0 : Nat) (t : Int32) : vl_Kv l D cy yX1_init wsX1_init { frames := 1, cells := 1, slots := 30, locals := 21 } 1 30 (Y ++ [(h0, .inr (1, [.null, .int 0, .null, .int 0, .int 0, .int 0]))]) [.ref h0, .null, .int t] (fun w' => ∃ q7 : Nat, w' = Y ++ [(h0, .inr (1, [.null, .int t, .ref q7, .int 0, .int 0, .int (-1)])), (q7, .inl (cy 0, 30, .inl (fun _ => 0)))]) := by
  refine vl_openv hl0 (by decide) rfl (Nat.le_of_ble_eq_true rfl) rfl ?_
  intro p e s m args below meth c C0 hr hnm
  generalize hA : va_A (Y ++ [(h0, .inr (1, [.null, .int 0, .null, .int 0, .int 0, .int 0]))]) s.heap.size = A at C0 ⊢
  refine vl_lv (lv2 := [(0, .ref h0), (1, .null), (2, .int t)]) [0, 1, 2] rfl ?_
  have hinX1 : ∀ x ∈ u_ws RX1 TX1 6, x ∈ wsX1_init := by decide +kernel
  refine vl_aload_n C0 dX1_init_0 0 rfl ?_
  refine vl_objInit C0 (by decide +kernel) (by decide +kernel) (by decide +kernel) (Nat.le_of_ble_eq_true rfl) (Nat.le_of_ble_eq_true rfl) dX1_init_1 ?_
  refine vl_aload_n C0 dX1_init_4 0 rfl ?_
  refine vl_bipush (v := 30) C0 dX1_init_5 (by decide) ?_
  refine vl_newI C0 (N := 30) (by decide +kernel) (by decide) (by decide) (by decide) (Nat.le_of_ble_eq_true rfl) (Nat.le_of_ble_eq_true rfl) dX1_init_7 (fun q7 => ?_)
  refine vl_w (w2 := Y ++ [(h0, .inr (1, [.null, .int 0, .null, .int 0, .int 0, .int 0])), (q7, .inl (cy 0, 30, .inl (fun _ => 0)))]) (List.append_assoc _ _ _) ?_
  refine vl_wid (k2 := 1) (n2 := 30) (Nat.le_of_ble_eq_true rfl) (Nat.le_of_ble_eq_true rfl) ?_
  refine vl_putF C0 (C := RX1) (T := TX1) (N := 6) (ci := 1) (q0 := Y.length + 0) (fs := [.null, .int 0, .null, .int 0, .int 0, .int 0]) (v := .ref q7) (w2 := Y ++ [(h0, .inr (1, [.null, .int 0, .ref q7, .int 0, .int 0, .int 0])), (q7, .inl (cy 0, 30, .inl (fun _ => 0)))]) hinX1 tyX1 tyX1_ok nmX1 (wy_at rfl) rfl 2 (by decide) (by decide +kernel) rfl hnm rfl rfl rfl rfl (Nat.le_of_ble_eq_true rfl) wy_set dX1_init_9 ?_
  refine vl_aload_n C0 dX1_init_12 0 rfl ?_
  refine vl_iconst (v := 0) C0 dX1_init_13 (by decide) ?_
  refine vl_put C0 (C := RX1) (T := TX1) (N := 6) (ci := 1) (q0 := Y.length + 0) (fs := [.null, .int 0, .ref q7, .int 0, .int 0, .int 0]) (v := .int 0) (w2 := Y ++ [(h0, .inr (1, [.null, .int 0, .ref q7, .int 0, .int 0, .int 0])), (q7, .inl (cy 0, 30, .inl (fun _ => 0)))]) hinX1 tyX1 tyX1_ok nmX1 (wy_at rfl) rfl 3 (by decide) (by decide +kernel) rfl rfl rfl rfl (Nat.le_of_ble_eq_true rfl) wy_set dX1_init_14 ?_
  refine vl_aload_n C0 dX1_init_17 0 rfl ?_
  refine vl_iconst (v := 0) C0 dX1_init_18 (by decide) ?_
  refine vl_put C0 (C := RX1) (T := TX1) (N := 6) (ci := 1) (q0 := Y.length + 0) (fs := [.null, .int 0, .ref q7, .int 0, .int 0, .int 0]) (v := .int 0) (w2 := Y ++ [(h0, .inr (1, [.null, .int 0, .ref q7, .int 0, .int 0, .int 0])), (q7, .inl (cy 0, 30, .inl (fun _ => 0)))]) hinX1 tyX1 tyX1_ok nmX1 (wy_at rfl) rfl 4 (by decide) (by decide +kernel) rfl rfl rfl rfl (Nat.le_of_ble_eq_true rfl) wy_set dX1_init_19 ?_
  refine vl_aload_n C0 dX1_init_22 0 rfl ?_
  refine vl_aload_nN C0 dX1_init_23 1 rfl ?_
  refine vl_putF C0 (C := RX1) (T := TX1) (N := 6) (ci := 1) (q0 := Y.length + 0) (fs := [.null, .int 0, .ref q7, .int 0, .int 0, .int 0]) (v := .null) (w2 := Y ++ [(h0, .inr (1, [.null, .int 0, .ref q7, .int 0, .int 0, .int 0])), (q7, .inl (cy 0, 30, .inl (fun _ => 0)))]) hinX1 tyX1 tyX1_ok nmX1 (wy_at rfl) rfl 0 (by decide) (by decide +kernel) rfl hnm rfl rfl rfl rfl (Nat.le_of_ble_eq_true rfl) wy_set dX1_init_24 ?_
  refine vl_aload_n C0 dX1_init_27 0 rfl ?_
  refine vl_iload_n C0 dX1_init_28 2 rfl ?_
  refine vl_putF C0 (C := RX1) (T := TX1) (N := 6) (ci := 1) (q0 := Y.length + 0) (fs := [.null, .int 0, .ref q7, .int 0, .int 0, .int 0]) (v := .int t) (w2 := Y ++ [(h0, .inr (1, [.null, .int t, .ref q7, .int 0, .int 0, .int 0])), (q7, .inl (cy 0, 30, .inl (fun _ => 0)))]) hinX1 tyX1 tyX1_ok nmX1 (wy_at rfl) rfl 1 (by decide) (by decide +kernel) rfl hnm rfl rfl rfl rfl (Nat.le_of_ble_eq_true rfl) wy_set dX1_init_29 ?_
  refine vl_aload_n C0 dX1_init_32 0 rfl ?_
  refine vl_aload_nN C0 dX1_init_33 1 rfl ?_
  refine vl_ifnonnullN C0 dX1_init_34 ?_
  refine vl_iconst (v := -1) C0 dX1_init_37 (by decide) ?_
  refine vl_goto (tgt := 45) C0 dX1_init_38 (by decide) ?_
  refine vl_put C0 (C := RX1) (T := TX1) (N := 6) (ci := 1) (q0 := Y.length + 0) (fs := [.null, .int t, .ref q7, .int 0, .int 0, .int 0]) (v := .int ((-1))) (w2 := Y ++ [(h0, .inr (1, [.null, .int t, .ref q7, .int 0, .int 0, .int ((-1))])), (q7, .inl (cy 0, 30, .inl (fun _ => 0)))]) hinX1 tyX1 tyX1_ok nmX1 (wy_at rfl) rfl 5 (by decide) (by decide +kernel) rfl rfl rfl rfl (Nat.le_of_ble_eq_true rfl) wy_set dX1_init_45 ?_
  exact vl_vret C0 hA.symm hr ⟨q7, rfl⟩ (Nat.le_of_ble_eq_true rfl) (Nat.le_of_ble_eq_true rfl) dX1_init_48
set_option maxHeartbeats 4000000 in
set_option maxRecDepth 100000 in
theorem c_X1_init {l : Launch} {D : va_G} {cy : Nat → ClassId} {Y : va_W}  (hl0 : l.stackTraces = false) (h0 b : Nat) (t sv : Int32) (hb : ∃ (q0 : Nat) (mo : Value) (f1 : Int32) (o3 : Value) (f3 f4 : Int32), Y[q0]? = some (b, .inr (1, [mo, .int f1, o3, .int f3, .int f4, .int sv]))) : vl_Kv l D cy yX1_init wsX1_init { frames := 1, cells := 1, slots := 30, locals := 21 } 1 30 (Y ++ [(h0, .inr (1, [.null, .int 0, .null, .int 0, .int 0, .int 0]))]) [.ref h0, .ref b, .int t] (fun w' => ∃ q7 : Nat, w' = Y ++ [(h0, .inr (1, [.ref b, .int t, .ref q7, .int 0, .int 0, .int sv])), (q7, .inl (cy 0, 30, .inl (fun _ => 0)))]) := by
  refine vl_openv hl0 (by decide) rfl (Nat.le_of_ble_eq_true rfl) rfl ?_
  intro p e s m args below meth c C0 hr hnm
  generalize hA : va_A (Y ++ [(h0, .inr (1, [.null, .int 0, .null, .int 0, .int 0, .int 0]))]) s.heap.size = A at C0 ⊢
  refine vl_lv (lv2 := [(0, .ref h0), (1, .ref b), (2, .int t)]) [0, 1, 2] rfl ?_
  have hinX1 : ∀ x ∈ u_ws RX1 TX1 6, x ∈ wsX1_init := by decide +kernel
  obtain ⟨q0, mo, f1, o3, f3, f4, hb⟩ := hb
  refine vl_aload_n C0 dX1_init_0 0 rfl ?_
  refine vl_objInit C0 (by decide +kernel) (by decide +kernel) (by decide +kernel) (Nat.le_of_ble_eq_true rfl) (Nat.le_of_ble_eq_true rfl) dX1_init_1 ?_
  refine vl_aload_n C0 dX1_init_4 0 rfl ?_
  refine vl_bipush (v := 30) C0 dX1_init_5 (by decide) ?_
  refine vl_newI C0 (N := 30) (by decide +kernel) (by decide) (by decide) (by decide) (Nat.le_of_ble_eq_true rfl) (Nat.le_of_ble_eq_true rfl) dX1_init_7 (fun q7 => ?_)
  refine vl_w (w2 := Y ++ [(h0, .inr (1, [.null, .int 0, .null, .int 0, .int 0, .int 0])), (q7, .inl (cy 0, 30, .inl (fun _ => 0)))]) (List.append_assoc _ _ _) ?_
  refine vl_wid (k2 := 1) (n2 := 30) (Nat.le_of_ble_eq_true rfl) (Nat.le_of_ble_eq_true rfl) ?_
  refine vl_putF C0 (C := RX1) (T := TX1) (N := 6) (ci := 1) (q0 := Y.length + 0) (fs := [.null, .int 0, .null, .int 0, .int 0, .int 0]) (v := .ref q7) (w2 := Y ++ [(h0, .inr (1, [.null, .int 0, .ref q7, .int 0, .int 0, .int 0])), (q7, .inl (cy 0, 30, .inl (fun _ => 0)))]) hinX1 tyX1 tyX1_ok nmX1 (wy_at rfl) rfl 2 (by decide) (by decide +kernel) rfl hnm rfl rfl rfl rfl (Nat.le_of_ble_eq_true rfl) wy_set dX1_init_9 ?_
  refine vl_aload_n C0 dX1_init_12 0 rfl ?_
  refine vl_iconst (v := 0) C0 dX1_init_13 (by decide) ?_
  refine vl_put C0 (C := RX1) (T := TX1) (N := 6) (ci := 1) (q0 := Y.length + 0) (fs := [.null, .int 0, .ref q7, .int 0, .int 0, .int 0]) (v := .int 0) (w2 := Y ++ [(h0, .inr (1, [.null, .int 0, .ref q7, .int 0, .int 0, .int 0])), (q7, .inl (cy 0, 30, .inl (fun _ => 0)))]) hinX1 tyX1 tyX1_ok nmX1 (wy_at rfl) rfl 3 (by decide) (by decide +kernel) rfl rfl rfl rfl (Nat.le_of_ble_eq_true rfl) wy_set dX1_init_14 ?_
  refine vl_aload_n C0 dX1_init_17 0 rfl ?_
  refine vl_iconst (v := 0) C0 dX1_init_18 (by decide) ?_
  refine vl_put C0 (C := RX1) (T := TX1) (N := 6) (ci := 1) (q0 := Y.length + 0) (fs := [.null, .int 0, .ref q7, .int 0, .int 0, .int 0]) (v := .int 0) (w2 := Y ++ [(h0, .inr (1, [.null, .int 0, .ref q7, .int 0, .int 0, .int 0])), (q7, .inl (cy 0, 30, .inl (fun _ => 0)))]) hinX1 tyX1 tyX1_ok nmX1 (wy_at rfl) rfl 4 (by decide) (by decide +kernel) rfl rfl rfl rfl (Nat.le_of_ble_eq_true rfl) wy_set dX1_init_19 ?_
  refine vl_aload_n C0 dX1_init_22 0 rfl ?_
  refine vl_aload_n C0 dX1_init_23 1 rfl ?_
  refine vl_putF C0 (C := RX1) (T := TX1) (N := 6) (ci := 1) (q0 := Y.length + 0) (fs := [.null, .int 0, .ref q7, .int 0, .int 0, .int 0]) (v := .ref b) (w2 := Y ++ [(h0, .inr (1, [.ref b, .int 0, .ref q7, .int 0, .int 0, .int 0])), (q7, .inl (cy 0, 30, .inl (fun _ => 0)))]) hinX1 tyX1 tyX1_ok nmX1 (wy_at rfl) rfl 0 (by decide) (by decide +kernel) rfl hnm rfl rfl rfl rfl (Nat.le_of_ble_eq_true rfl) wy_set dX1_init_24 ?_
  refine vl_aload_n C0 dX1_init_27 0 rfl ?_
  refine vl_iload_n C0 dX1_init_28 2 rfl ?_
  refine vl_putF C0 (C := RX1) (T := TX1) (N := 6) (ci := 1) (q0 := Y.length + 0) (fs := [.ref b, .int 0, .ref q7, .int 0, .int 0, .int 0]) (v := .int t) (w2 := Y ++ [(h0, .inr (1, [.ref b, .int t, .ref q7, .int 0, .int 0, .int 0])), (q7, .inl (cy 0, 30, .inl (fun _ => 0)))]) hinX1 tyX1 tyX1_ok nmX1 (wy_at rfl) rfl 1 (by decide) (by decide +kernel) rfl hnm rfl rfl rfl rfl (Nat.le_of_ble_eq_true rfl) wy_set dX1_init_29 ?_
  refine vl_aload_n C0 dX1_init_32 0 rfl ?_
  refine vl_aload_n C0 dX1_init_33 1 rfl ?_
  refine vl_ifnonnull (tgt := 41) C0 dX1_init_34 (by decide) ?_
  refine vl_aload_n C0 dX1_init_41 1 rfl ?_
  refine vl_get C0 (C := RX1) (T := TX1) (N := 6) (ci := 1) (fs := [mo, .int f1, o3, .int f3, .int f4, .int sv]) hinX1 ⟨q0, wy_in hb⟩ rfl 5 (by decide) (by decide +kernel) (v := .int sv) (rfl) dX1_init_42 ?_
  refine vl_put C0 (C := RX1) (T := TX1) (N := 6) (ci := 1) (q0 := Y.length + 0) (fs := [.ref b, .int t, .ref q7, .int 0, .int 0, .int 0]) (v := .int sv) (w2 := Y ++ [(h0, .inr (1, [.ref b, .int t, .ref q7, .int 0, .int 0, .int sv])), (q7, .inl (cy 0, 30, .inl (fun _ => 0)))]) hinX1 tyX1 tyX1_ok nmX1 (wy_at rfl) rfl 5 (by decide) (by decide +kernel) rfl rfl rfl rfl (Nat.le_of_ble_eq_true rfl) wy_set dX1_init_45 ?_
  exact vl_vret C0 hA.symm hr ⟨q7, rfl⟩ (Nat.le_of_ble_eq_true rfl) (Nat.le_of_ble_eq_true rfl) dX1_init_48
set_option maxHeartbeats 4000000 in
set_option maxRecDepth 100000 in
theorem c_X0_init {l : Launch} {D : va_G} {cy : Nat → ClassId} {Y : va_W}  (hl0 : l.stackTraces = false) (h0 : Nat) : vl_Kv l D cy yX0_init wsX0_init { frames := 1, cells := 2, slots := 11, locals := 21 } 2 11 (Y ++ [(h0, .inr (0, [.null, .int 0, .null, .int 0, .int 0, .int 0, .int 0]))]) [.ref h0] (fun w' => ∃ q7 q20 : Nat, w' = Y ++ [(h0, .inr (0, [.ref q7, .int 0, .ref q20, .int 3, .int 1, .int 0, .int 0])), (q7, .inl (cy 3, 8, .inr (.inr (.inr (.inr (fun _ => none)))))), (q20, .inl (cy 0, 3, .inl (upd (upd (upd (fun _ => 0) (0 : Int32).toNatClampNeg 4) (1 : Int32).toNatClampNeg 4) (2 : Int32).toNatClampNeg 4)))]) := by
  refine vl_openv hl0 (by decide) rfl (Nat.le_of_ble_eq_true rfl) rfl ?_
  intro p e s m args below meth c C0 hr hnm
  generalize hA : va_A (Y ++ [(h0, .inr (0, [.null, .int 0, .null, .int 0, .int 0, .int 0, .int 0]))]) s.heap.size = A at C0 ⊢
  refine vl_lv (lv2 := [(0, .ref h0)]) [0] rfl ?_
  have hinX0 : ∀ x ∈ u_ws RX0 TX0 7, x ∈ wsX0_init := by decide +kernel
  refine vl_aload_n C0 dX0_init_0 0 rfl ?_
  refine vl_objInit C0 (by decide +kernel) (by decide +kernel) (by decide +kernel) (Nat.le_of_ble_eq_true rfl) (Nat.le_of_ble_eq_true rfl) dX0_init_1 ?_
  refine vl_aload_n C0 dX0_init_4 0 rfl ?_
  refine vl_bipush (v := 8) C0 dX0_init_5 (by decide) ?_
  refine vl_newS C0 (N := 8) (by decide +kernel) (by decide) (by decide) (by decide) (Nat.le_of_ble_eq_true rfl) (Nat.le_of_ble_eq_true rfl) dX0_init_7 (fun q7 => ?_)
  refine vl_w (w2 := Y ++ [(h0, .inr (0, [.null, .int 0, .null, .int 0, .int 0, .int 0, .int 0])), (q7, .inl (cy 3, 8, .inr (.inr (.inr (.inr (fun _ => none))))))]) (List.append_assoc _ _ _) ?_
  refine vl_wid (k2 := 1) (n2 := 8) (Nat.le_of_ble_eq_true rfl) (Nat.le_of_ble_eq_true rfl) ?_
  refine vl_putF C0 (C := RX0) (T := TX0) (N := 7) (ci := 0) (q0 := Y.length + 0) (fs := [.null, .int 0, .null, .int 0, .int 0, .int 0, .int 0]) (v := .ref q7) (w2 := Y ++ [(h0, .inr (0, [.ref q7, .int 0, .null, .int 0, .int 0, .int 0, .int 0])), (q7, .inl (cy 3, 8, .inr (.inr (.inr (.inr (fun _ => none))))))]) hinX0 tyX0 tyX0_ok nmX0 (wy_at rfl) rfl 0 (by decide) (by decide +kernel) rfl hnm rfl rfl rfl rfl (Nat.le_of_ble_eq_true rfl) wy_set dX0_init_10 ?_
  refine vl_aload_n C0 dX0_init_13 0 rfl ?_
  refine vl_iconst (v := 0) C0 dX0_init_14 (by decide) ?_
  refine vl_put C0 (C := RX0) (T := TX0) (N := 7) (ci := 0) (q0 := Y.length + 0) (fs := [.ref q7, .int 0, .null, .int 0, .int 0, .int 0, .int 0]) (v := .int 0) (w2 := Y ++ [(h0, .inr (0, [.ref q7, .int 0, .null, .int 0, .int 0, .int 0, .int 0])), (q7, .inl (cy 3, 8, .inr (.inr (.inr (.inr (fun _ => none))))))]) hinX0 tyX0 tyX0_ok nmX0 (wy_at rfl) rfl 1 (by decide) (by decide +kernel) rfl rfl rfl rfl (Nat.le_of_ble_eq_true rfl) wy_set dX0_init_15 ?_
  refine vl_aload_n C0 dX0_init_18 0 rfl ?_
  refine vl_iconst (v := 3) C0 dX0_init_19 (by decide) ?_
  refine vl_newI C0 (N := 3) (by decide +kernel) (by decide) (by decide) (by decide) (Nat.le_of_ble_eq_true rfl) (Nat.le_of_ble_eq_true rfl) dX0_init_20 (fun q20 => ?_)
  refine vl_w (w2 := Y ++ [(h0, .inr (0, [.ref q7, .int 0, .null, .int 0, .int 0, .int 0, .int 0])), (q7, .inl (cy 3, 8, .inr (.inr (.inr (.inr (fun _ => none)))))), (q20, .inl (cy 0, 3, .inl (fun _ => 0)))]) (List.append_assoc _ _ _) ?_
  refine vl_wid (k2 := 2) (n2 := 11) (Nat.le_of_ble_eq_true rfl) (Nat.le_of_ble_eq_true rfl) ?_
  refine vl_dup C0 dX0_init_22 rfl ?_
  refine vl_iconst (v := 0) C0 dX0_init_23 (by decide) ?_
  refine vl_iconst (v := 4) C0 dX0_init_24 (by decide) ?_
  refine vl_iast C0 (q0 := Y.length + 2) (w2 := Y ++ [(h0, .inr (0, [.ref q7, .int 0, .null, .int 0, .int 0, .int 0, .int 0])), (q7, .inl (cy 3, 8, .inr (.inr (.inr (.inr (fun _ => none)))))), (q20, .inl (cy 0, 3, .inl (upd (fun _ => 0) (0 : Int32).toNatClampNeg 4)))]) (wy_at rfl) (vp_in_iff.mpr (by decide)) wy_set dX0_init_25 ?_
  refine vl_dup C0 dX0_init_26 rfl ?_
  refine vl_iconst (v := 1) C0 dX0_init_27 (by decide) ?_
  refine vl_iconst (v := 4) C0 dX0_init_28 (by decide) ?_
  refine vl_iast C0 (q0 := Y.length + 2) (w2 := Y ++ [(h0, .inr (0, [.ref q7, .int 0, .null, .int 0, .int 0, .int 0, .int 0])), (q7, .inl (cy 3, 8, .inr (.inr (.inr (.inr (fun _ => none)))))), (q20, .inl (cy 0, 3, .inl (upd (upd (fun _ => 0) (0 : Int32).toNatClampNeg 4) (1 : Int32).toNatClampNeg 4)))]) (wy_at rfl) (vp_in_iff.mpr (by decide)) wy_set dX0_init_29 ?_
  refine vl_dup C0 dX0_init_30 rfl ?_
  refine vl_iconst (v := 2) C0 dX0_init_31 (by decide) ?_
  refine vl_iconst (v := 4) C0 dX0_init_32 (by decide) ?_
  refine vl_iast C0 (q0 := Y.length + 2) (w2 := Y ++ [(h0, .inr (0, [.ref q7, .int 0, .null, .int 0, .int 0, .int 0, .int 0])), (q7, .inl (cy 3, 8, .inr (.inr (.inr (.inr (fun _ => none)))))), (q20, .inl (cy 0, 3, .inl (upd (upd (upd (fun _ => 0) (0 : Int32).toNatClampNeg 4) (1 : Int32).toNatClampNeg 4) (2 : Int32).toNatClampNeg 4)))]) (wy_at rfl) (vp_in_iff.mpr (by decide)) wy_set dX0_init_33 ?_
  refine vl_putF C0 (C := RX0) (T := TX0) (N := 7) (ci := 0) (q0 := Y.length + 0) (fs := [.ref q7, .int 0, .null, .int 0, .int 0, .int 0, .int 0]) (v := .ref q20) (w2 := Y ++ [(h0, .inr (0, [.ref q7, .int 0, .ref q20, .int 0, .int 0, .int 0, .int 0])), (q7, .inl (cy 3, 8, .inr (.inr (.inr (.inr (fun _ => none)))))), (q20, .inl (cy 0, 3, .inl (upd (upd (upd (fun _ => 0) (0 : Int32).toNatClampNeg 4) (1 : Int32).toNatClampNeg 4) (2 : Int32).toNatClampNeg 4)))]) hinX0 tyX0 tyX0_ok nmX0 (wy_at rfl) rfl 2 (by decide) (by decide +kernel) rfl hnm rfl rfl rfl rfl (Nat.le_of_ble_eq_true rfl) wy_set dX0_init_34 ?_
  refine vl_aload_n C0 dX0_init_37 0 rfl ?_
  refine vl_iconst (v := 3) C0 dX0_init_38 (by decide) ?_
  refine vl_put C0 (C := RX0) (T := TX0) (N := 7) (ci := 0) (q0 := Y.length + 0) (fs := [.ref q7, .int 0, .ref q20, .int 0, .int 0, .int 0, .int 0]) (v := .int 3) (w2 := Y ++ [(h0, .inr (0, [.ref q7, .int 0, .ref q20, .int 3, .int 0, .int 0, .int 0])), (q7, .inl (cy 3, 8, .inr (.inr (.inr (.inr (fun _ => none)))))), (q20, .inl (cy 0, 3, .inl (upd (upd (upd (fun _ => 0) (0 : Int32).toNatClampNeg 4) (1 : Int32).toNatClampNeg 4) (2 : Int32).toNatClampNeg 4)))]) hinX0 tyX0 tyX0_ok nmX0 (wy_at rfl) rfl 3 (by decide) (by decide +kernel) rfl rfl rfl rfl (Nat.le_of_ble_eq_true rfl) wy_set dX0_init_39 ?_
  refine vl_aload_n C0 dX0_init_42 0 rfl ?_
  refine vl_iconst (v := 1) C0 dX0_init_43 (by decide) ?_
  refine vl_put C0 (C := RX0) (T := TX0) (N := 7) (ci := 0) (q0 := Y.length + 0) (fs := [.ref q7, .int 0, .ref q20, .int 3, .int 0, .int 0, .int 0]) (v := .int 1) (w2 := Y ++ [(h0, .inr (0, [.ref q7, .int 0, .ref q20, .int 3, .int 1, .int 0, .int 0])), (q7, .inl (cy 3, 8, .inr (.inr (.inr (.inr (fun _ => none)))))), (q20, .inl (cy 0, 3, .inl (upd (upd (upd (fun _ => 0) (0 : Int32).toNatClampNeg 4) (1 : Int32).toNatClampNeg 4) (2 : Int32).toNatClampNeg 4)))]) hinX0 tyX0 tyX0_ok nmX0 (wy_at rfl) rfl 4 (by decide) (by decide +kernel) rfl rfl rfl rfl (Nat.le_of_ble_eq_true rfl) wy_set dX0_init_44 ?_
  refine vl_aload_n C0 dX0_init_47 0 rfl ?_
  refine vl_iconst (v := 0) C0 dX0_init_48 (by decide) ?_
  refine vl_put C0 (C := RX0) (T := TX0) (N := 7) (ci := 0) (q0 := Y.length + 0) (fs := [.ref q7, .int 0, .ref q20, .int 3, .int 1, .int 0, .int 0]) (v := .int 0) (w2 := Y ++ [(h0, .inr (0, [.ref q7, .int 0, .ref q20, .int 3, .int 1, .int 0, .int 0])), (q7, .inl (cy 3, 8, .inr (.inr (.inr (.inr (fun _ => none)))))), (q20, .inl (cy 0, 3, .inl (upd (upd (upd (fun _ => 0) (0 : Int32).toNatClampNeg 4) (1 : Int32).toNatClampNeg 4) (2 : Int32).toNatClampNeg 4)))]) hinX0 tyX0 tyX0_ok nmX0 (wy_at rfl) rfl 5 (by decide) (by decide +kernel) rfl rfl rfl rfl (Nat.le_of_ble_eq_true rfl) wy_set dX0_init_49 ?_
  refine vl_aload_n C0 dX0_init_52 0 rfl ?_
  refine vl_iconst (v := 0) C0 dX0_init_53 (by decide) ?_
  refine vl_put C0 (C := RX0) (T := TX0) (N := 7) (ci := 0) (q0 := Y.length + 0) (fs := [.ref q7, .int 0, .ref q20, .int 3, .int 1, .int 0, .int 0]) (v := .int 0) (w2 := Y ++ [(h0, .inr (0, [.ref q7, .int 0, .ref q20, .int 3, .int 1, .int 0, .int 0])), (q7, .inl (cy 3, 8, .inr (.inr (.inr (.inr (fun _ => none)))))), (q20, .inl (cy 0, 3, .inl (upd (upd (upd (fun _ => 0) (0 : Int32).toNatClampNeg 4) (1 : Int32).toNatClampNeg 4) (2 : Int32).toNatClampNeg 4)))]) hinX0 tyX0 tyX0_ok nmX0 (wy_at rfl) rfl 6 (by decide) (by decide +kernel) rfl rfl rfl rfl (Nat.le_of_ble_eq_true rfl) wy_set dX0_init_54 ?_
  exact vl_vret C0 hA.symm hr ⟨q7, q20, rfl⟩ (Nat.le_of_ble_eq_true rfl) (Nat.le_of_ble_eq_true rfl) dX0_init_57
end VC11
