section VC8
def mrkI (x : Int32) : Int32 := if 0 < (if x < 100 then x else 100) then (if x < 100 then x else 100) else 0
def mkA (ns : Nat) (par : Nat → Option Nat) (mm : Nat → Nat → Int32) (j : Nat) (e0 : Int32) : Int32 := if ¬ aheadI mm j = 0 then 0 else mrkI (50 + (plyM ns par mm j 30).2.2.1 - e0)
theorem mkA_0 {ns : Nat} {par : Nat → Option Nat} {mm : Nat → Nat → Int32} {j : Nat} {e0 : Int32} (h : aheadI mm j = 0) : mkA ns par mm j e0 = mrkI (50 + (plyM ns par mm j 30).2.2.1 - e0) := by
  unfold mkA
  rw [if_neg (by rw [h]; decide)]
theorem mrk_c (x : Int32) : mrkI x = if x < 0 then 0 else if 100 < x then 100 else x := by
  unfold mrkI
  have e0 : (0 : Int32).toInt = 0 := by decide
  have e1 : (100 : Int32).toInt = 100 := by decide
  by_cases h1 : x < 100
  · rw [if_pos h1]
    by_cases h2 : 0 < x
    · rw [if_pos h2, if_neg (by rw [Int32.lt_iff_toInt_lt] at *; omega), if_neg (by rw [Int32.lt_iff_toInt_lt] at *; omega)]
    · rw [if_neg h2]
      by_cases h3 : x < 0
      · rw [if_pos h3]
      · rw [if_neg h3, if_neg (by rw [Int32.lt_iff_toInt_lt] at *; omega)]
        apply Int32.toInt_inj.mp
        rw [Int32.lt_iff_toInt_lt] at *
        omega
  · rw [if_neg h1, if_pos (by decide), if_neg (by rw [Int32.lt_iff_toInt_lt] at *; omega)]
    by_cases h3 : 100 < x
    · rw [if_pos h3]
    · rw [if_neg h3]
      apply Int32.toInt_inj.mp
      rw [Int32.lt_iff_toInt_lt] at *
      omega
theorem mkA_V {ns : Nat} {par : Nat → Option Nat} {mm : Nat → Nat → Int32} (h0 : aheadI mm 0 = 0) (j : Nat) : mkA ns par mm j (plyM ns par mm 0 30).2.2.1 = mkV ns par mm j := by
  unfold mkA mkV
  by_cases hj : j = 0
  · subst hj
    rw [if_pos rfl, if_neg (by rw [h0]; decide)]
    have : (50 : Int32) + (plyM ns par mm 0 30).2.2.1 - (plyM ns par mm 0 30).2.2.1 = 50 := Int32.add_sub_cancel _ _
    rw [this]; decide
  · rw [if_neg hj]
    by_cases ha : aheadI mm j = 0
    · rw [if_neg (by rw [ha]; decide), if_neg (by rw [ha]; decide), mrk_c]
    · rw [if_pos ha, if_pos ha]
theorem bstF_ge (mk : Nat → Int32) : ∀ k, ¬ (bstF mk k).2 < -1 := by
  intro k
  induction k with
  | zero => show ¬ (-1 : Int32) < -1; decide
  | succ k ih =>
    rw [bstF]
    split
    · rename_i h
      show ¬ mk (k + 1) < -1
      rw [Int32.lt_iff_toInt_lt] at *
      omega
    · exact ih
theorem rLn_seen {nl : Nat} {mm : Nat → Nat → Int32} {d : Nat → Nat → Nat → Int32} (h : rLn nl mm d) (j : Nat) (v : Int32) : rLn nl (up2 mm 10 j v) (up3 d 5 j 5 v) := fun i hi => by
  obtain ⟨h1, h2, h3, h4, h5⟩ := h i hi
  refine ⟨?_, ?_, ?_, ?_, fun t ht ho => ?_⟩
  · rw [up3_k d v (by decide)]; exact h1
  · rw [up3_k d v (by decide)]; exact h2
  · rw [up3_k d v (by decide)]; exact h3
  · by_cases hij : i = j
    · subst hij; rw [up3_s, up2_same]
    · rw [up3_ne d 5 v (Or.inr hij), up2_i mm 10 v hij]; exact h4
  · rw [up3_ne d 5 v (Or.inl (by decide))]; exact h5 t ht ho
theorem rWd_seen {ns : Nat} {mm : Nat → Nat → Int32} {d : Nat → Nat → Nat → Int32} (h : rWd ns mm d) (j : Nat) (v : Int32) : rWd ns (up2 mm 10 j v) (up3 d 5 j 5 v) := by
  obtain ⟨h1, h2, h3, h4, h5⟩ := h
  exact ⟨by rw [up3_ne d 5 v (Or.inl (by decide))]; exact h1, by rw [up3_ne d 5 v (Or.inl (by decide))]; exact h2, by rw [up3_ne d 5 v (Or.inl (by decide))]; exact h3, fun b hb => by rw [up3_ne d 5 v (Or.inl (by decide))]; exact h4 b hb, fun i hi => by rw [up3_ne d 5 v (Or.inl (by decide))]; exact h5 i hi⟩
theorem misB_ok {nl ns ja jb jt : Nat} (h1 : 1 ≤ nl) (h9 : nl ≤ 9) (h8 : ns ≤ 8) (ha : ja < nl) (hb : jb < ns) (ht : jt < 30) : misB nl ns (nI ja) (nI jb) (nI jt) = false := by
  have e : inB (nI jt) 0 29 = true := inB_of (n := 30) ht (by decide)
  simp [misB, inB_of ha (show nl < 2 ^ 31 by omega), inB_of hb (show ns < 2 ^ 31 by omega), e]
set_option maxHeartbeats 4000000 in
set_option maxRecDepth 100000 in
theorem c_X3_earningOf {l : Launch} {D : va_G} {cy : Nat → ClassId} {ad : Nat → Nat → Nat} {nl ns : Nat} {par : Nat → Option Nat} {Rl : List (Nat × Nat)} {d : Nat → Nat → Nat → Int32} {X : va_W} {mm : Nat → Nat → Int32} (hl0 : l.stackTraces = false) (hok : cw_ok nl ns Rl) (h19 : 1 ≤ nl) (h9 : nl ≤ 9) (h8 : ns ≤ 8) (hln : rLn nl mm d) (hw : rWd ns mm d) (ht : mTree nl par mm) (hcode : ∀ j t, j < nl → t < 30 → codeOK ns (ordX (mm 11) par t (some j))) (hcg : ∀ q, q < ns → 0 ≤ mm 3 q) (hrt : ∀ b, b < 3 → 0 ≤ mm 4 b) (j T : Nat) (hj : j < nl) (hT3 : T < 30) : vl_Ki l D cy yX3_earningOf wsX3_earningOf { frames := 5, cells := 0, slots := 0, locals := 122 } 0 0 (cw cy ad nl ns par Rl d ++ X) [.ref (ad 0 0), .ref (ad 5 j), .int (nI T)] (fun r w' => ∃ d', w' = cw cy ad nl ns par Rl d' ++ X ∧ dFr d d' ∧ r = (plyM ns par mm j (T + 1)).2.2.1) := by
  refine vl_openi hl0 (by decide) rfl (Nat.le_of_ble_eq_true rfl) rfl ?_
  intro p e s m args below meth c C0 hr hnm
  generalize hA : va_A (cw cy ad nl ns par Rl d ++ X) s.heap.size = A at C0 ⊢
  refine vl_lv (lv2 := [(0, .ref (ad 0 0)), (1, .ref (ad 5 j)), (2, .int (nI T))]) [0, 1, 2] rfl ?_
  have hinX3 : ∀ x ∈ u_ws RX3 TX3 4, x ∈ wsX3_earningOf := by decide +kernel
  have hinX0 : ∀ x ∈ u_ws RX0 TX0 7, x ∈ wsX3_earningOf := by decide +kernel
  refine vl_aload_n C0 dX3_earningOf_0 0 rfl ?_
  refine rc_get C0 (C := RX3) (T := TX3) (N := 4) (ci := 3) hinX3 (cR0 hok) rfl rfl 0 (by decide) (by decide +kernel) (v := .ref (ad 1 0)) (rfl) dX3_earningOf_1 ?_
  refine vl_aload_n C0 dX3_earningOf_4 1 rfl ?_
  refine vl_iload_n C0 dX3_earningOf_5 2 rfl ?_
  refine vl_callv C0 (vl_goVN C0 (As := [.ref (ad 5 j), .int (nI T)]) (na := 2) (b := ad 1 0) (st := []) (ci := 0) gX3_earningOf_X0_play_n130 rfl rfl rfl (by decide +kernel) (by decide +kernel) (by decide +kernel) (by decide +kernel) (by decide +kernel) ⟨Nat.le_of_ble_eq_true rfl, Nat.le_of_ble_eq_true rfl⟩ rfl (rc_rec (cR1 hok) rfl) dX3_earningOf_6 (Nat.le_of_ble_eq_true rfl) ⟨Nat.le_of_ble_eq_true rfl, Nat.le_of_ble_eq_true rfl⟩ rfl rfl) (c_X0_play hl0 hok h8 j T (mm := mm) hln hw ht h9 hj (by omega) (fun t9 h9t => hcode j t9 hj h9t) hcg hrt) (k2 := 0) (n2 := 0) (Nat.le_of_ble_eq_true rfl) (Nat.le_of_ble_eq_true rfl) (fun w9 hp9 => ?_)
  obtain ⟨d1, rfl, hf1, hq1⟩ := hp9
  refine vl_aload_n C0 dX3_earningOf_9 0 rfl ?_
  refine rc_get C0 (C := RX3) (T := TX3) (N := 4) (ci := 3) hinX3 (cR0 hok) rfl rfl 0 (by decide) (by decide +kernel) (v := .ref (ad 1 0)) (rfl) dX3_earningOf_10 ?_
  refine rc_getN C0 (C := RX0) (T := TX0) (N := 7) (ci := 0) hinX0 (cR1 hok) rfl rfl 5 (by decide) (by decide +kernel) (v := .int ((plyM ns par mm j (T + 1)).2.2.1)) (congrArg (fun z => some (Value.int z)) hq1.2.2.1) dX3_earningOf_13 ?_
  exact vl_iret C0 hA.symm hr ⟨d1, rfl, hf1, rfl⟩ (Nat.le_of_ble_eq_true rfl) (Nat.le_of_ble_eq_true rfl) dX3_earningOf_16
set_option maxHeartbeats 4000000 in
set_option maxRecDepth 100000 in
theorem c_X3_markAgainst {l : Launch} {D : va_G} {cy : Nat → ClassId} {ad : Nat → Nat → Nat} {nl ns : Nat} {par : Nat → Option Nat} {Rl : List (Nat × Nat)} {d : Nat → Nat → Nat → Int32} {X : va_W} {mm : Nat → Nat → Int32} (hl0 : l.stackTraces = false) (hok : cw_ok nl ns Rl) (h19 : 1 ≤ nl) (h9 : nl ≤ 9) (h8 : ns ≤ 8) (hln : rLn nl mm d) (hw : rWd ns mm d) (ht : mTree nl par mm) (hcode : ∀ j t, j < nl → t < 30 → codeOK ns (ordX (mm 11) par t (some j))) (hcg : ∀ q, q < ns → 0 ≤ mm 3 q) (hrt : ∀ b, b < 3 → 0 ≤ mm 4 b) (j : Nat) (e0 : Int32) (hj : j < nl) : vl_Ki l D cy yX3_markAgainst wsX3_markAgainst { frames := 6, cells := 0, slots := 0, locals := 144 } 0 0 (cw cy ad nl ns par Rl d ++ X) [.ref (ad 0 0), .ref (ad 5 j), .int e0] (fun r w' => ∃ d', w' = cw cy ad nl ns par Rl d' ++ X ∧ dFr d d' ∧ r = mkA ns par mm j e0) := by
  refine vl_openi hl0 (by decide) rfl (Nat.le_of_ble_eq_true rfl) rfl ?_
  intro p e s m args below meth c C0 hr hnm
  generalize hA : va_A (cw cy ad nl ns par Rl d ++ X) s.heap.size = A at C0 ⊢
  refine vl_lv (lv2 := [(0, .ref (ad 0 0)), (1, .ref (ad 5 j)), (2, .int e0)]) [0, 1, 2] rfl ?_
  have hinX1 : ∀ x ∈ u_ws RX1 TX1 6, x ∈ wsX3_markAgainst := by decide +kernel
  refine vl_aload_n C0 dX3_markAgainst_0 1 rfl ?_
  refine rc_getN C0 (C := RX1) (T := TX1) (N := 6) (ci := 1) hinX1 (cR5 hok (by omega)) rfl rfl 4 (by decide) (by decide +kernel) (v := .int (aheadI mm j)) (congrArg (fun z => some (Value.int z)) (hln j hj).2.2.1) dX3_markAgainst_1 ?_
  refine vl_if_eq (tgt := 9) C0 dX3_markAgainst_4 (by decide) (fun (h4 : (aheadI mm j : Int32) = (0 : Int32)) => ?_) (fun (h4 : ¬ (aheadI mm j : Int32) = (0 : Int32)) => ?_)
  · refine vl_bipush (v := 50) C0 dX3_markAgainst_9 (by decide) ?_
    refine vl_aload_n C0 dX3_markAgainst_11 0 rfl ?_
    refine vl_aload_n C0 dX3_markAgainst_12 1 rfl ?_
    refine vl_bipush (v := 29) C0 dX3_markAgainst_13 (by decide) ?_
    refine vl_calli C0 (vl_goV C0 (As := [.ref (ad 5 j), .int 29]) (na := 2) (b := ad 0 0) (st := [.int 50]) (ci := 3) gX3_markAgainst_X3_earningOf rfl rfl rfl (by decide +kernel) ⟨Nat.le_of_ble_eq_true rfl, Nat.le_of_ble_eq_true rfl⟩ rfl (rc_rec (cR0 hok) rfl) dX3_markAgainst_15 (Nat.le_of_ble_eq_true rfl) ⟨Nat.le_of_ble_eq_true rfl, Nat.le_of_ble_eq_true rfl⟩ rfl rfl) (c_X3_earningOf hl0 hok h19 h9 h8 (mm := mm) hln hw ht hcode hcg hrt j 29 (hj) (by omega)) (k2 := 0) (n2 := 0) (Nat.le_of_ble_eq_true rfl) (Nat.le_of_ble_eq_true rfl) (fun r9 w9 hp9 => ?_)
    obtain ⟨d1, rfl, hf1, rfl⟩ := hp9
    refine vl_iadd C0 dX3_markAgainst_18 ?_
    refine vl_iload_n C0 dX3_markAgainst_19 2 rfl ?_
    refine vl_isub C0 dX3_markAgainst_20 ?_
    refine vl_istore_n (lv' := [(0, .ref (ad 0 0)), (1, .ref (ad 5 j)), (2, .int e0), (3, .int (((50) + ((plyM ns par mm j (29 + 1)).2.2.1)) - (e0)))]) C0 dX3_markAgainst_21 [1, 2, 3, 0] (by decide) rfl ?_
    refine vl_iconst (v := 0) C0 dX3_markAgainst_22 (by decide) ?_
    refine vl_bipush (v := 100) C0 dX3_markAgainst_23 (by decide) ?_
    refine vl_iload_n C0 dX3_markAgainst_25 3 rfl ?_
    refine vl_min C0 (by decide +kernel) (by decide +kernel) (by decide +kernel) (by decide +kernel) (Nat.le_of_ble_eq_true rfl) (Nat.le_of_ble_eq_true rfl) (Nat.le_of_ble_eq_true rfl) (Nat.le_of_ble_eq_true rfl) dX3_markAgainst_26 ?_
    refine vl_max C0 (by decide +kernel) (by decide +kernel) (by decide +kernel) (by decide +kernel) (Nat.le_of_ble_eq_true rfl) (Nat.le_of_ble_eq_true rfl) (Nat.le_of_ble_eq_true rfl) (Nat.le_of_ble_eq_true rfl) dX3_markAgainst_29 ?_
    exact vl_iret C0 hA.symm hr ⟨d1, rfl, hf1, (mkA_0 h4).symm⟩ (Nat.le_of_ble_eq_true rfl) (Nat.le_of_ble_eq_true rfl) dX3_markAgainst_32
  · refine vl_iconst (v := 0) C0 dX3_markAgainst_7 (by decide) ?_
    exact vl_iret C0 hA.symm hr ⟨d, rfl, dFr.rf, by rw [mkA, if_pos h4]⟩ (Nat.le_of_ble_eq_true rfl) (Nat.le_of_ble_eq_true rfl) dX3_markAgainst_8
set_option maxHeartbeats 4000000 in
set_option maxRecDepth 100000 in
theorem c_X3_shipBehind {l : Launch} {D : va_G} {cy : Nat → ClassId} {ad : Nat → Nat → Nat} {nl ns : Nat} {par : Nat → Option Nat} {Rl : List (Nat × Nat)} {d : Nat → Nat → Nat → Int32} {X : va_W} {mm : Nat → Nat → Int32} (hl0 : l.stackTraces = false) (hok : cw_ok nl ns Rl) (h19 : 1 ≤ nl) (h9 : nl ≤ 9) (h8 : ns ≤ 8) (hln : rLn nl mm d) (hw : rWd ns mm d) (ht : mTree nl par mm) (hcode : ∀ j t, j < nl → t < 30 → codeOK ns (ordX (mm 11) par t (some j))) (hcg : ∀ q, q < ns → 0 ≤ mm 3 q) (hrt : ∀ b, b < 3 → 0 ≤ mm 4 b) (a b t : Int32) : vl_Xq l D cy yX3_shipBehind wsX3_shipBehind { frames := 7, cells := 3, slots := 18, locals := 122 } 3 18 (cw cy ad nl ns par Rl d ++ X) [.ref (ad 0 0), .int a, .int b, .int t] (fun r w' => ∃ (ja jb jt : Nat) (d' : Nat → Nat → Nat → Int32), a = nI ja ∧ b = nI jb ∧ t = nI jt ∧ ja < nl ∧ jb < ns ∧ jt < 30 ∧ w' = cw cy ad nl ns par Rl d' ++ X ∧ dFr d d' ∧ cPl ns d' (plyM ns par mm ja (jt + 1)) ∧ r = some (ad 7 jb)) (fun E => E = "java/lang/IndexOutOfBoundsException" ∧ misB nl ns a b t = true) := by
  refine vl_openXq hl0 (by decide) rfl (Nat.le_of_ble_eq_true rfl) rfl ?_
  intro p e s m args below meth c C0 hr hnm hex
  generalize hA : va_A (cw cy ad nl ns par Rl d ++ X) s.heap.size = A at C0 ⊢
  refine vl_lv (lv2 := [(0, .ref (ad 0 0)), (1, .int a), (2, .int b), (3, .int t)]) [0, 1, 2, 3] rfl ?_
  have hinX3 : ∀ x ∈ u_ws RX3 TX3 4, x ∈ wsX3_shipBehind := by decide +kernel
  refine vl_aload_n C0 dX3_shipBehind_0 0 rfl ?_
  refine vl_iload_n C0 dX3_shipBehind_1 1 rfl ?_
  refine vl_xcallq C0 (vl_goVX C0 (As := [.int a]) (na := 1) (b := ad 0 0) (st := []) (ci := 3) gX3_shipBehind_X3_lineNumbered rfl rfl rfl (by decide +kernel) ⟨Nat.le_of_ble_eq_true rfl, Nat.le_of_ble_eq_true rfl⟩ rfl (rc_rec (cR0 hok) rfl) dX3_shipBehind_2 (Nat.le_of_ble_eq_true rfl) ⟨Nat.le_of_ble_eq_true rfl, Nat.le_of_ble_eq_true rfl⟩ rfl rfl) (c_X3_lineNumbered hl0 hok h19 h9 a) (k2 := 1) (n2 := 6) (Nat.le_of_ble_eq_true rfl) (Nat.le_of_ble_eq_true rfl) (fun E9 hE9 => vl_out C0 hA.symm hex (Nat.le_of_ble_eq_true rfl) (Nat.le_of_ble_eq_true rfl) ⟨hE9.1, by simp [misB, hE9.2]⟩) (fun r9 w9 hp9 => ?_)
  obtain ⟨ja, hja, eja, rfl, rfl⟩ := hp9
  subst eja
  refine vl_st (st2 := [.ref (ad 5 ja)]) rfl ?_
  refine vl_astore (lv' := [(0, .ref (ad 0 0)), (1, .int (nI ja)), (2, .int b), (3, .int t), (4, .ref (ad 5 ja))]) C0 dX3_shipBehind_5 [1, 2, 3, 4, 0] (by decide) rfl ?_
  refine vl_aload_n C0 dX3_shipBehind_7 0 rfl ?_
  refine vl_iload_n C0 dX3_shipBehind_8 2 rfl ?_
  refine vl_xcallq C0 (vl_goVX C0 (As := [.int b]) (na := 1) (b := ad 0 0) (st := []) (ci := 3) gX3_shipBehind_X3_shipNumbered rfl rfl rfl (by decide +kernel) ⟨Nat.le_of_ble_eq_true rfl, Nat.le_of_ble_eq_true rfl⟩ rfl (rc_rec (cR0 hok) rfl) dX3_shipBehind_9 (Nat.le_of_ble_eq_true rfl) ⟨Nat.le_of_ble_eq_true rfl, Nat.le_of_ble_eq_true rfl⟩ rfl rfl) (c_X3_shipNumbered hl0 hok h8 b) (k2 := 2) (n2 := 12) (Nat.le_of_ble_eq_true rfl) (Nat.le_of_ble_eq_true rfl) (fun E9 hE9 => vl_out C0 hA.symm hex (Nat.le_of_ble_eq_true rfl) (Nat.le_of_ble_eq_true rfl) ⟨hE9.1, by simp [misB, hE9.2]⟩) (fun r9 w9 hp9 => ?_)
  obtain ⟨jb, hjb, ejb, rfl, rfl⟩ := hp9
  subst ejb
  refine vl_st (st2 := [.ref (ad 7 jb)]) rfl ?_
  refine vl_astore (lv' := [(0, .ref (ad 0 0)), (1, .int (nI ja)), (2, .int (nI jb)), (3, .int t), (4, .ref (ad 5 ja)), (5, .ref (ad 7 jb))]) C0 dX3_shipBehind_12 [1, 2, 3, 4, 5, 0] (by decide) rfl ?_
  refine vl_iload_n C0 dX3_shipBehind_14 3 rfl ?_
  refine vl_xcallv C0 (vl_goSX C0 (As := [.int t]) (na := 1) (st := []) gX3_shipBehind_X3_checkTurn rfl rfl rfl (by decide +kernel) ⟨Nat.le_of_ble_eq_true rfl, Nat.le_of_ble_eq_true rfl⟩ dX3_shipBehind_15 (Nat.le_of_ble_eq_true rfl) ⟨Nat.le_of_ble_eq_true rfl, Nat.le_of_ble_eq_true rfl⟩ rfl rfl) (c_X3_checkTurn hl0 t) (k2 := 3) (n2 := 18) (Nat.le_of_ble_eq_true rfl) (Nat.le_of_ble_eq_true rfl) (fun E9 hE9 => vl_out C0 hA.symm hex (Nat.le_of_ble_eq_true rfl) (Nat.le_of_ble_eq_true rfl) ⟨hE9.1, by simp [misB, hE9.2]⟩) (fun w9 hp9 => ?_)
  obtain ⟨gt, rfl⟩ := hp9
  obtain ⟨jt, hjt, ejt⟩ := inB_k gt (by decide) (n := 30) (by decide)
  subst ejt
  refine vl_aload_n C0 dX3_shipBehind_18 0 rfl ?_
  refine rc_get C0 (C := RX3) (T := TX3) (N := 4) (ci := 3) hinX3 (cR0 hok) rfl rfl 0 (by decide) (by decide +kernel) (v := .ref (ad 1 0)) (rfl) dX3_shipBehind_19 ?_
  refine vl_aload C0 dX3_shipBehind_22 4 rfl ?_
  refine vl_iload_n C0 dX3_shipBehind_24 3 rfl ?_
  refine vl_callv C0 (vl_goVN C0 (As := [.ref (ad 5 ja), .int (nI jt)]) (na := 2) (b := ad 1 0) (st := []) (ci := 0) gX3_shipBehind_X0_play_n130 rfl rfl rfl (by decide +kernel) (by decide +kernel) (by decide +kernel) (by decide +kernel) (by decide +kernel) ⟨Nat.le_of_ble_eq_true rfl, Nat.le_of_ble_eq_true rfl⟩ rfl (rc_rec (cR1 hok) rfl) dX3_shipBehind_25 (Nat.le_of_ble_eq_true rfl) ⟨Nat.le_of_ble_eq_true rfl, Nat.le_of_ble_eq_true rfl⟩ rfl rfl) (c_X0_play hl0 hok h8 ja jt (mm := mm) hln hw ht h9 hja (by omega) (fun t9 h9t => hcode ja t9 hja h9t) hcg hrt) (k2 := 3) (n2 := 18) (Nat.le_of_ble_eq_true rfl) (Nat.le_of_ble_eq_true rfl) (fun w9 hp9 => ?_)
  obtain ⟨d1, rfl, hf1, hq1⟩ := hp9
  refine vl_aload C0 dX3_shipBehind_28 5 rfl ?_
  exact vl_aretX C0 hA.symm (r := some (ad 7 jb)) hr ⟨ja, jb, jt, d1, rfl, rfl, rfl, hja, hjb, hjt, rfl, hf1, hq1, rfl⟩ (Nat.le_of_ble_eq_true rfl) (Nat.le_of_ble_eq_true rfl) dX3_shipBehind_30
set_option maxHeartbeats 4000000 in
set_option maxRecDepth 100000 in
theorem c_X3_where {l : Launch} {D : va_G} {cy : Nat → ClassId} {ad : Nat → Nat → Nat} {nl ns : Nat} {par : Nat → Option Nat} {Rl : List (Nat × Nat)} {d : Nat → Nat → Nat → Int32} {X : va_W} {mm : Nat → Nat → Int32} (hl0 : l.stackTraces = false) (hok : cw_ok nl ns Rl) (h19 : 1 ≤ nl) (h9 : nl ≤ 9) (h8 : ns ≤ 8) (hln : rLn nl mm d) (hw : rWd ns mm d) (ht : mTree nl par mm) (hcode : ∀ j t, j < nl → t < 30 → codeOK ns (ordX (mm 11) par t (some j))) (hcg : ∀ q, q < ns → 0 ≤ mm 3 q) (hrt : ∀ b, b < 3 → 0 ≤ mm 4 b) (a b t : Int32) : vl_Xi l D cy yX3_where wsX3_where { frames := 8, cells := 3, slots := 18, locals := 147 } 3 18 (cw cy ad nl ns par Rl d ++ X) [.ref (ad 0 0), .int a, .int b, .int t] (fun r w' => misB nl ns a b t = false ∧ r = whV ns nl par mm a b t ∧ ∃ d', w' = cw cy ad nl ns par Rl d' ++ X ∧ dFr d d') (fun E => E = "java/lang/IndexOutOfBoundsException" ∧ misB nl ns a b t = true) := by
  refine vl_openXi hl0 (by decide) rfl (Nat.le_of_ble_eq_true rfl) rfl ?_
  intro p e s m args below meth c C0 hr hnm hex
  generalize hA : va_A (cw cy ad nl ns par Rl d ++ X) s.heap.size = A at C0 ⊢
  refine vl_lv (lv2 := [(0, .ref (ad 0 0)), (1, .int a), (2, .int b), (3, .int t)]) [0, 1, 2, 3] rfl ?_
  have hinX2 : ∀ x ∈ u_ws RX2 TX2 5, x ∈ wsX3_where := by decide +kernel
  refine vl_aload_n C0 dX3_where_0 0 rfl ?_
  refine vl_iload_n C0 dX3_where_1 1 rfl ?_
  refine vl_iload_n C0 dX3_where_2 2 rfl ?_
  refine vl_iload_n C0 dX3_where_3 3 rfl ?_
  refine vl_xcallq C0 (vl_goVX C0 (As := [.int a, .int b, .int t]) (na := 3) (b := ad 0 0) (st := []) (ci := 3) gX3_where_X3_shipBehind rfl rfl rfl (by decide +kernel) ⟨Nat.le_of_ble_eq_true rfl, Nat.le_of_ble_eq_true rfl⟩ rfl (rc_rec (cR0 hok) rfl) dX3_where_4 (Nat.le_of_ble_eq_true rfl) ⟨Nat.le_of_ble_eq_true rfl, Nat.le_of_ble_eq_true rfl⟩ rfl rfl) (c_X3_shipBehind hl0 hok h19 h9 h8 (mm := mm) hln hw ht hcode hcg hrt a b t) (k2 := 3) (n2 := 18) (Nat.le_of_ble_eq_true rfl) (Nat.le_of_ble_eq_true rfl) (fun E9 hE9 => vl_out C0 hA.symm hex (Nat.le_of_ble_eq_true rfl) (Nat.le_of_ble_eq_true rfl) hE9) (fun r9 w9 hp9 => ?_)
  obtain ⟨ja, jb, jt, d1, e1, e2, e3, hja, hjb, hjt, rfl, hf1, hq1, rfl⟩ := hp9
  subst e1; subst e2; subst e3
  refine vl_st (st2 := [.ref (ad 7 jb)]) rfl ?_
  refine rc_getN C0 (C := RX2) (T := TX2) (N := 5) (ci := 2) hinX2 (cR7 hok (by omega)) rfl rfl 3 (by decide) (by decide +kernel) (v := .int ((plyM ns par mm ja (jt + 1)).1 jb)) (congrArg (fun z => some (Value.int z)) (hq1.1 jb hjb)) dX3_where_7 ?_
  exact vl_iretX C0 hA.symm hr (have hm : misB nl ns (nI ja) (nI jb) (nI jt) = false := misB_ok h19 h9 h8 hja hjb hjt; ⟨hm, by rw [whV, if_neg (by rw [hm]; decide), nI_clamp (show ja < 2 ^ 31 by omega), nI_clamp (show jb < 2 ^ 31 by omega), nI_clamp (show jt < 2 ^ 31 by omega)], d1, rfl, hf1⟩) (Nat.le_of_ble_eq_true rfl) (Nat.le_of_ble_eq_true rfl) dX3_where_10
set_option maxHeartbeats 4000000 in
set_option maxRecDepth 100000 in
theorem c_X3_cargo {l : Launch} {D : va_G} {cy : Nat → ClassId} {ad : Nat → Nat → Nat} {nl ns : Nat} {par : Nat → Option Nat} {Rl : List (Nat × Nat)} {d : Nat → Nat → Nat → Int32} {X : va_W} {mm : Nat → Nat → Int32} (hl0 : l.stackTraces = false) (hok : cw_ok nl ns Rl) (h19 : 1 ≤ nl) (h9 : nl ≤ 9) (h8 : ns ≤ 8) (hln : rLn nl mm d) (hw : rWd ns mm d) (ht : mTree nl par mm) (hcode : ∀ j t, j < nl → t < 30 → codeOK ns (ordX (mm 11) par t (some j))) (hcg : ∀ q, q < ns → 0 ≤ mm 3 q) (hrt : ∀ b, b < 3 → 0 ≤ mm 4 b) (a b t : Int32) : vl_Xi l D cy yX3_cargo wsX3_cargo { frames := 8, cells := 3, slots := 18, locals := 147 } 3 18 (cw cy ad nl ns par Rl d ++ X) [.ref (ad 0 0), .int a, .int b, .int t] (fun r w' => misB nl ns a b t = false ∧ r = cgV ns nl par mm a b t ∧ ∃ d', w' = cw cy ad nl ns par Rl d' ++ X ∧ dFr d d') (fun E => E = "java/lang/IndexOutOfBoundsException" ∧ misB nl ns a b t = true) := by
  refine vl_openXi hl0 (by decide) rfl (Nat.le_of_ble_eq_true rfl) rfl ?_
  intro p e s m args below meth c C0 hr hnm hex
  generalize hA : va_A (cw cy ad nl ns par Rl d ++ X) s.heap.size = A at C0 ⊢
  refine vl_lv (lv2 := [(0, .ref (ad 0 0)), (1, .int a), (2, .int b), (3, .int t)]) [0, 1, 2, 3] rfl ?_
  have hinX2 : ∀ x ∈ u_ws RX2 TX2 5, x ∈ wsX3_cargo := by decide +kernel
  refine vl_aload_n C0 dX3_cargo_0 0 rfl ?_
  refine vl_iload_n C0 dX3_cargo_1 1 rfl ?_
  refine vl_iload_n C0 dX3_cargo_2 2 rfl ?_
  refine vl_iload_n C0 dX3_cargo_3 3 rfl ?_
  refine vl_xcallq C0 (vl_goVX C0 (As := [.int a, .int b, .int t]) (na := 3) (b := ad 0 0) (st := []) (ci := 3) gX3_cargo_X3_shipBehind rfl rfl rfl (by decide +kernel) ⟨Nat.le_of_ble_eq_true rfl, Nat.le_of_ble_eq_true rfl⟩ rfl (rc_rec (cR0 hok) rfl) dX3_cargo_4 (Nat.le_of_ble_eq_true rfl) ⟨Nat.le_of_ble_eq_true rfl, Nat.le_of_ble_eq_true rfl⟩ rfl rfl) (c_X3_shipBehind hl0 hok h19 h9 h8 (mm := mm) hln hw ht hcode hcg hrt a b t) (k2 := 3) (n2 := 18) (Nat.le_of_ble_eq_true rfl) (Nat.le_of_ble_eq_true rfl) (fun E9 hE9 => vl_out C0 hA.symm hex (Nat.le_of_ble_eq_true rfl) (Nat.le_of_ble_eq_true rfl) hE9) (fun r9 w9 hp9 => ?_)
  obtain ⟨ja, jb, jt, d1, e1, e2, e3, hja, hjb, hjt, rfl, hf1, hq1, rfl⟩ := hp9
  subst e1; subst e2; subst e3
  refine vl_st (st2 := [.ref (ad 7 jb)]) rfl ?_
  refine rc_getN C0 (C := RX2) (T := TX2) (N := 5) (ci := 2) hinX2 (cR7 hok (by omega)) rfl rfl 4 (by decide) (by decide +kernel) (v := .int ((plyM ns par mm ja (jt + 1)).2.1 jb)) (congrArg (fun z => some (Value.int z)) (hq1.2.1 jb hjb)) dX3_cargo_7 ?_
  exact vl_iretX C0 hA.symm hr (have hm : misB nl ns (nI ja) (nI jb) (nI jt) = false := misB_ok h19 h9 h8 hja hjb hjt; ⟨hm, by rw [cgV, if_neg (by rw [hm]; decide), nI_clamp (show ja < 2 ^ 31 by omega), nI_clamp (show jb < 2 ^ 31 by omega), nI_clamp (show jt < 2 ^ 31 by omega)], d1, rfl, hf1⟩) (Nat.le_of_ble_eq_true rfl) (Nat.le_of_ble_eq_true rfl) dX3_cargo_10
end VC8
