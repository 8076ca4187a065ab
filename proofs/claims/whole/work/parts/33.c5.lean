section VC5
set_option maxHeartbeats 4000000 in
set_option maxRecDepth 100000 in
theorem c_X0_passTurn {l : Launch} {D : va_G} {cy : Nat → ClassId} {ad : Nat → Nat → Nat} {nl ns : Nat} {par : Nat → Option Nat} {Rl : List (Nat × Nat)} {d : Nat → Nat → Nat → Int32} {X : va_W} {mm : Nat → Nat → Int32} (hl0 : l.stackTraces = false) (hok : cw_ok nl ns Rl) (h8 : ns ≤ 8) (t : Nat) (c0 : Int32) {S : plS} (ht : t < 30) (hw : rWd ns mm d) (hP : cPl ns d S) (hpl : ∀ q, placeOK (S.1 q)) (hlf : ∀ q, q < ns → 0 ≤ S.2.1 q) (hc : codeOK ns c0) : vl_Kv l D cy yX0_passTurn wsX0_passTurn { frames := 3, cells := 0, slots := 0, locals := 70 } 0 0 (cw cy ad nl ns par Rl d ++ X) [.ref (ad 1 0), .int (nI t), .int c0] (fun w' => ∃ d', w' = cw cy ad nl ns par Rl d' ++ X ∧ dFr d d' ∧ cPl ns d' (turnS ns (mm 1) (mm 2) (mm 4) (mm 0 5) (mm 0 6) c0 t S)) := by
  refine vl_openv hl0 (by decide) rfl (Nat.le_of_ble_eq_true rfl) rfl ?_
  intro p e s m args below meth c C0 hr hnm
  generalize hA : va_A (cw cy ad nl ns par Rl d ++ X) s.heap.size = A at C0 ⊢
  refine vl_lv (lv2 := [(0, .ref (ad 1 0)), (1, .int (nI t)), (2, .int c0)]) [0, 1, 2] rfl ?_
  have hinX0 : ∀ x ∈ u_ws RX0 TX0 7, x ∈ wsX0_passTurn := by decide +kernel
  have hinX2 : ∀ x ∈ u_ws RX2 TX2 5, x ∈ wsX0_passTurn := by decide +kernel
  refine vl_aload_n C0 dX0_passTurn_0 0 rfl ?_
  refine rc_get C0 (C := RX0) (T := TX0) (N := 7) (ci := 0) hinX0 (cR1 hok) rfl rfl 0 (by decide) (by decide +kernel) (v := .ref (ad 3 0)) (rfl) dX0_passTurn_1 ?_
  refine vl_astore_n (lv' := [(0, .ref (ad 1 0)), (1, .int (nI t)), (2, .int c0), (3, .ref (ad 3 0))]) C0 dX0_passTurn_4 [1, 2, 3, 0] (by decide) rfl ?_
  refine vl_aload_n C0 dX0_passTurn_5 3 rfl ?_
  refine rc_alen C0 3 (cR3 hok) rfl rfl (v := 8) rfl dX0_passTurn_6 ?_
  refine vl_istore (lv' := [(0, .ref (ad 1 0)), (1, .int (nI t)), (2, .int c0), (3, .ref (ad 3 0)), (4, .int 8)]) C0 dX0_passTurn_7 [1, 2, 3, 4, 0] (by decide) rfl ?_
  refine vl_iconst (v := 0) C0 dX0_passTurn_9 (by decide) ?_
  refine vl_istore (lv' := [(0, .ref (ad 1 0)), (1, .int (nI t)), (2, .int c0), (3, .ref (ad 3 0)), (4, .int 8), (5, .int 0)]) C0 dX0_passTurn_10 [1, 2, 3, 4, 5, 0] (by decide) rfl ?_
  refine vl_loop (σ := Nat × (Nat → Nat → Nat → Int32)) (fun x => cw cy ad nl ns par Rl x.2 ++ X) (fun x => [(0, .ref (ad 1 0)), (1, .int (nI t)), (2, .int c0), (3, .ref (ad 3 0)), (4, .int 8), (5, .int (nI (x.1)))]) (fun x => ic2 ns mm t S d x.1 x.2) (fun x => 8 - x.1) ?_ (0, d) (ic2_0 hP)
  rintro ⟨k, d1⟩ hI ihk
  refine vl_w (w2 := cw cy ad nl ns par Rl d1 ++ X) rfl ?_
  refine vl_lv (lv2 := [(0, .ref (ad 1 0)), (1, .int (nI t)), (2, .int c0), (3, .ref (ad 3 0)), (4, .int 8), (5, .int (nI k))]) [0, 1, 2, 3, 4, 5] rfl ?_
  have hI : ic2 ns mm t S d k d1 := hI
  refine vl_iload C0 dX0_passTurn_12 5 rfl ?_
  refine vl_iload C0 dX0_passTurn_14 4 rfl ?_
  refine vl_icmp_ge (tgt := 51) C0 dX0_passTurn_16 (by decide) (fun (h16 : (8 : Int32) ≤ (nI k : Int32)) => ?_) (fun (h16 : ¬ (8 : Int32) ≤ (nI k : Int32)) => ?_)
  · have hkn : k = 8 := by have z : ¬ k < 8 := fun q => absurd h16 (nI_ge q (by decide)); have := hI.1; omega
    rw [hkn] at hI
    have hP1 := ic2_e h8 hI
    have hf1 := hI.2.1
    have hdr1 : ∀ i, i < ns → d1 7 i 1 = mm 2 i := fun i hi => (hf1.2.2 i 1 (by decide) (by decide)).trans (hw.2.2.2.2 i hi).2.1
    have hpl1 : ∀ q, placeOK (comeA (mm 1) t S.1 q) := come_ok hpl
    refine vl_iload_n C0 dX0_passTurn_51 2 rfl ?_
    refine vl_if_eq (tgt := 79) C0 dX0_passTurn_52 (by decide) (fun (h52 : (c0 : Int32) = (0 : Int32)) => ?_) (fun (h52 : ¬ (c0 : Int32) = (0 : Int32)) => ?_)
    · have hP2 : cPl ns d1 (doesS ns (mm 2) c0 t (comeA (mm 1) t S.1, S.2)) := by rw [h52, does_0]; exact hP1
      have hf2 := hf1
      generalize hdd : d1 = d2 at hP2 hf2 ⊢
      have hok2 := does_ok (n := ns) (dr := mm 2) (t := t) (S := (comeA (mm 1) t S.1, S.2)) h8 hc hpl1
      generalize hS2 : doesS ns (mm 2) c0 t (comeA (mm 1) t S.1, S.2) = S2 at hP2 hok2
      refine vl_aload_n C0 dX0_passTurn_79 0 rfl ?_
      refine rc_get C0 (C := RX0) (T := TX0) (N := 7) (ci := 0) hinX0 (cR1 hok) rfl rfl 0 (by decide) (by decide +kernel) (v := .ref (ad 3 0)) (rfl) dX0_passTurn_80 ?_
      refine vl_astore_n (lv' := [(0, .ref (ad 1 0)), (1, .int (nI t)), (2, .int c0), (3, .ref (ad 3 0)), (4, .int 8), (5, .int (nI k))]) C0 dX0_passTurn_83 [1, 2, 3, 0, 4, 5] (by decide) rfl ?_
      refine vl_aload_n C0 dX0_passTurn_84 3 rfl ?_
      refine rc_alen C0 3 (cR3 hok) rfl rfl (v := 8) rfl dX0_passTurn_85 ?_
      refine vl_istore (lv' := [(0, .ref (ad 1 0)), (1, .int (nI t)), (2, .int c0), (3, .ref (ad 3 0)), (4, .int 8), (5, .int (nI k))]) C0 dX0_passTurn_86 [1, 2, 3, 4, 0, 5] (by decide) rfl ?_
      refine vl_iconst (v := 0) C0 dX0_passTurn_88 (by decide) ?_
      refine vl_istore (lv' := [(0, .ref (ad 1 0)), (1, .int (nI t)), (2, .int c0), (3, .ref (ad 3 0)), (4, .int 8), (5, .int 0)]) C0 dX0_passTurn_89 [1, 2, 3, 4, 5, 0] (by decide) rfl ?_
      refine vl_loop (σ := Nat × (Nat → Nat → Nat → Int32)) (fun x => cw cy ad nl ns par Rl x.2 ++ X) (fun x => [(0, .ref (ad 1 0)), (1, .int (nI t)), (2, .int c0), (3, .ref (ad 3 0)), (4, .int 8), (5, .int (nI (x.1)))]) (fun x => ic3 ns mm S2 d x.1 x.2) (fun x => 8 - x.1) ?_ (0, d2) (ic3_0 hf2 hP2)
      rintro ⟨k, d3⟩ hI ihk
      refine vl_w (w2 := cw cy ad nl ns par Rl d3 ++ X) rfl ?_
      refine vl_lv (lv2 := [(0, .ref (ad 1 0)), (1, .int (nI t)), (2, .int c0), (3, .ref (ad 3 0)), (4, .int 8), (5, .int (nI k))]) [0, 1, 2, 3, 4, 5] rfl ?_
      have hI : ic3 ns mm S2 d k d3 := hI
      refine vl_iload C0 dX0_passTurn_91 5 rfl ?_
      refine vl_iload C0 dX0_passTurn_93 4 rfl ?_
      refine vl_icmp_ge (tgt := 130) C0 dX0_passTurn_95 (by decide) (fun (h95 : (8 : Int32) ≤ (nI k : Int32)) => ?_) (fun (h95 : ¬ (8 : Int32) ≤ (nI k : Int32)) => ?_)
      · have hkn : k = 8 := by have z : ¬ k < 8 := fun q => absurd h95 (nI_ge q (by decide)); have := hI.1; omega
        rw [hkn] at hI
        subst hS2
        exact vl_vret C0 hA.symm hr ⟨d3, rfl, hI.2.1, ic3_e h8 hI⟩ (Nat.le_of_ble_eq_true rfl) (Nat.le_of_ble_eq_true rfl) dX0_passTurn_130
      · have hk8 : k < 8 := by have z : ¬ k = 8 := fun q => h95 (by rw [q]; exact nI_le (Nat.le_refl _) (by decide)); have := hI.1; omega
        refine vl_aload_n C0 dX0_passTurn_98 3 rfl ?_
        by_cases hks : k < ns
        · skip
          refine vl_iload C0 dX0_passTurn_99 5 rfl ?_
          refine rc_aldS C0 (cR3 hok) (vp_in_nI hk8 (by decide)) (kn := k) (nI_clamp (by omega)) (v := .ref (ad 7 k)) (by rw [if_pos hks]; rfl) dX0_passTurn_101 ?_
          refine vl_astore (lv' := [(0, .ref (ad 1 0)), (1, .int (nI t)), (2, .int c0), (3, .ref (ad 3 0)), (4, .int 8), (5, .int (nI k)), (6, .ref (ad 7 k))]) C0 dX0_passTurn_102 [1, 2, 3, 4, 5, 6, 0] (by decide) rfl ?_
          refine vl_aload C0 dX0_passTurn_104 6 rfl ?_
          refine vl_ifnull C0 dX0_passTurn_106 ?_
          refine vl_aload_n C0 dX0_passTurn_109 0 rfl ?_
          refine vl_dup C0 dX0_passTurn_110 rfl ?_
          refine rc_get C0 (C := RX0) (T := TX0) (N := 7) (ci := 0) hinX0 (cR1 hok) rfl rfl 5 (by decide) (by decide +kernel) (v := .int (d3 1 0 5)) (rfl) dX0_passTurn_111 ?_
          refine vl_aload_n C0 dX0_passTurn_114 0 rfl ?_
          refine vl_aload C0 dX0_passTurn_115 6 rfl ?_
          refine vl_calli C0 (vl_goV C0 (As := [.ref (ad 7 k)]) (na := 1) (b := ad 1 0) (st := [.int (d3 1 0 5), .ref (ad 1 0)]) (ci := 0) gX0_passTurn_X0_earningInTurn rfl rfl rfl (by decide +kernel) ⟨Nat.le_of_ble_eq_true rfl, Nat.le_of_ble_eq_true rfl⟩ rfl (rc_rec (cR1 hok) rfl) dX0_passTurn_117 (Nat.le_of_ble_eq_true rfl) ⟨Nat.le_of_ble_eq_true rfl, Nat.le_of_ble_eq_true rfl⟩ rfl rfl) (c_X0_earningInTurn hl0 hok k (hks) (by rw [show d3 7 k 3 = S2.1 k from hI.2.2.1 k hks]; exact hok2 k)) (k2 := 0) (n2 := 0) (Nat.le_of_ble_eq_true rfl) (Nat.le_of_ble_eq_true rfl) (fun r9 w9 hp9 => ?_)
          obtain ⟨rfl, rfl⟩ := hp9
          refine vl_iadd C0 dX0_passTurn_120 ?_
          refine rc_put C0 (C := RX0) (T := TX0) (N := 7) (ci := 0) hinX0 tyX0 tyX0_ok nmX0 hok.1 (cR1 hok) rfl rfl 5 (by decide) (by decide +kernel) rfl rfl (Nat.le_of_ble_eq_true rfl) rfl dX0_passTurn_121 ?_
          refine vl_iinc (v := nI (k + 1)) (lv' := [(0, .ref (ad 1 0)), (1, .int (nI t)), (2, .int c0), (3, .ref (ad 3 0)), (4, .int 8), (5, .int (nI (k + 1))), (6, .ref (ad 7 k))]) C0 dX0_passTurn_124 5 rfl (nI_1 k) [1, 2, 3, 4, 5, 0, 6] (by decide) rfl ?_
          refine vl_goto (tgt := 91) C0 dX0_passTurn_127 (by decide) ?_
          exact vl_lv (lv2 := [(0, .ref (ad 1 0)), (1, .int (nI t)), (2, .int c0), (3, .ref (ad 3 0)), (4, .int 8), (5, .int (nI (k + 1)))]) [0, 1, 2, 3, 4, 5] rfl (ihk (k + 1, (up3 (geD d3 k) 1 0 5 ((d3 1 0 5) + (geI d3 k)))) (ic3_s hI hk8 hks (hok2 k) (fun b hb => (congrFun (hI.2.1.1 4 0 (by decide) (by decide)) b).trans (hw.2.2.2.1 b hb)) ((hI.2.1.2.1 0 3 (by decide) (by decide)).trans hw.2.1) ((hI.2.1.2.1 0 4 (by decide) (by decide)).trans hw.2.2.1)) (by show 8 - (k + 1) < 8 - k; omega))
        · skip
          refine vl_iload C0 dX0_passTurn_99 5 rfl ?_
          refine rc_aldS C0 (cR3 hok) (vp_in_nI hk8 (by decide)) (kn := k) (nI_clamp (by omega)) (v := .null) (by rw [if_neg hks]; rfl) dX0_passTurn_101 ?_
          refine vl_astoreN (lv' := [(0, .ref (ad 1 0)), (1, .int (nI t)), (2, .int c0), (3, .ref (ad 3 0)), (4, .int 8), (5, .int (nI k)), (6, .null)]) C0 dX0_passTurn_102 [1, 2, 3, 4, 5, 6, 0] (by decide) rfl ?_
          refine vl_aloadN C0 dX0_passTurn_104 6 rfl ?_
          refine vl_ifnullN (tgt := 124) C0 dX0_passTurn_106 (by decide) ?_
          refine vl_iinc (v := nI (k + 1)) (lv' := [(0, .ref (ad 1 0)), (1, .int (nI t)), (2, .int c0), (3, .ref (ad 3 0)), (4, .int 8), (5, .int (nI (k + 1))), (6, .null)]) C0 dX0_passTurn_124 5 rfl (nI_1 k) [1, 2, 3, 4, 5, 0, 6] (by decide) rfl ?_
          refine vl_goto (tgt := 91) C0 dX0_passTurn_127 (by decide) ?_
          exact vl_lv (lv2 := [(0, .ref (ad 1 0)), (1, .int (nI t)), (2, .int c0), (3, .ref (ad 3 0)), (4, .int 8), (5, .int (nI (k + 1)))]) [0, 1, 2, 3, 4, 5] rfl (ihk (k + 1, d3) (ic3_n hI hk8 hks) (by show 8 - (k + 1) < 8 - k; omega))
    · refine vl_aload_n C0 dX0_passTurn_55 0 rfl ?_
      refine vl_iload_n C0 dX0_passTurn_56 2 rfl ?_
      refine vl_iload_n C0 dX0_passTurn_57 1 rfl ?_
      refine vl_calli C0 (vl_goS C0 (As := [.int (nI t)]) (na := 1) (st := [.int c0, .ref (ad 1 0)]) gX0_passTurn_X0_tideOf rfl rfl rfl (by decide +kernel) ⟨Nat.le_of_ble_eq_true rfl, Nat.le_of_ble_eq_true rfl⟩ dX0_passTurn_58 (Nat.le_of_ble_eq_true rfl) ⟨Nat.le_of_ble_eq_true rfl, Nat.le_of_ble_eq_true rfl⟩ rfl rfl) (c_X0_tideOf hl0 t (by omega)) (k2 := 0) (n2 := 0) (Nat.le_of_ble_eq_true rfl) (Nat.le_of_ble_eq_true rfl) (fun r9 w9 hp9 => ?_)
      obtain ⟨rfl, rfl⟩ := hp9
      refine vl_calli C0 (vl_goV C0 (As := [.int c0, .int (tideI t)]) (na := 2) (b := ad 1 0) (st := []) (ci := 0) gX0_passTurn_X0_carryOut rfl rfl rfl (by decide +kernel) ⟨Nat.le_of_ble_eq_true rfl, Nat.le_of_ble_eq_true rfl⟩ rfl (rc_rec (cR1 hok) rfl) dX0_passTurn_61 (Nat.le_of_ble_eq_true rfl) ⟨Nat.le_of_ble_eq_true rfl, Nat.le_of_ble_eq_true rfl⟩ rfl rfl) (c_X0_carryOut hl0 hok h8 c0 t hc h52 (fun q hq => by rw [show d1 7 q 3 = comeA (mm 1) t S.1 q from hP1.1 q hq]; exact hpl1 q) (fun q hq => by rw [show d1 7 q 4 = S.2.1 q from hP1.2.1 q hq]; exact hlf q hq)) (k2 := 0) (n2 := 0) (Nat.le_of_ble_eq_true rfl) (Nat.le_of_ble_eq_true rfl) (fun r9 w9 hp9 => ?_)
      obtain ⟨s1, hs1, hsh, rfl, rfl⟩ := hp9
      refine vl_if_ne (tgt := 79) C0 dX0_passTurn_64 (by decide) (fun (h64 : ¬ (bI (canB ns (drD d1) (whD d1) (lfD d1) (c0 / 100) s1 (beI c0) t) : Int32) = (0 : Int32)) => ?_) (fun (h64 : (bI (canB ns (drD d1) (whD d1) (lfD d1) (c0 / 100) s1 (beI c0) t) : Int32) = (0 : Int32)) => ?_)
      · have g64 := bI_n.mp h64
        rw [if_pos g64]
        have hP2 := does_t h8 hc h52 hs1 hsh hdr1 hP1 g64
        have hf2 := hf1.up 7 s1 3 (if c0 / 100 = 1 then beI c0 else -3) (Or.inr ⟨rfl, Or.inl rfl⟩)
        generalize hdd : (up3 d1 7 s1 3 (if c0 / 100 = 1 then beI c0 else -3)) = d2 at hP2 hf2 ⊢
        have hok2 := does_ok (n := ns) (dr := mm 2) (t := t) (S := (comeA (mm 1) t S.1, S.2)) h8 hc hpl1
        generalize hS2 : doesS ns (mm 2) c0 t (comeA (mm 1) t S.1, S.2) = S2 at hP2 hok2
        refine vl_aload_n C0 dX0_passTurn_79 0 rfl ?_
        refine rc_get C0 (C := RX0) (T := TX0) (N := 7) (ci := 0) hinX0 (cR1 hok) rfl rfl 0 (by decide) (by decide +kernel) (v := .ref (ad 3 0)) (rfl) dX0_passTurn_80 ?_
        refine vl_astore_n (lv' := [(0, .ref (ad 1 0)), (1, .int (nI t)), (2, .int c0), (3, .ref (ad 3 0)), (4, .int 8), (5, .int (nI k))]) C0 dX0_passTurn_83 [1, 2, 3, 0, 4, 5] (by decide) rfl ?_
        refine vl_aload_n C0 dX0_passTurn_84 3 rfl ?_
        refine rc_alen C0 3 (cR3 hok) rfl rfl (v := 8) rfl dX0_passTurn_85 ?_
        refine vl_istore (lv' := [(0, .ref (ad 1 0)), (1, .int (nI t)), (2, .int c0), (3, .ref (ad 3 0)), (4, .int 8), (5, .int (nI k))]) C0 dX0_passTurn_86 [1, 2, 3, 4, 0, 5] (by decide) rfl ?_
        refine vl_iconst (v := 0) C0 dX0_passTurn_88 (by decide) ?_
        refine vl_istore (lv' := [(0, .ref (ad 1 0)), (1, .int (nI t)), (2, .int c0), (3, .ref (ad 3 0)), (4, .int 8), (5, .int 0)]) C0 dX0_passTurn_89 [1, 2, 3, 4, 5, 0] (by decide) rfl ?_
        refine vl_loop (σ := Nat × (Nat → Nat → Nat → Int32)) (fun x => cw cy ad nl ns par Rl x.2 ++ X) (fun x => [(0, .ref (ad 1 0)), (1, .int (nI t)), (2, .int c0), (3, .ref (ad 3 0)), (4, .int 8), (5, .int (nI (x.1)))]) (fun x => ic3 ns mm S2 d x.1 x.2) (fun x => 8 - x.1) ?_ (0, d2) (ic3_0 hf2 hP2)
        rintro ⟨k, d3⟩ hI ihk
        refine vl_w (w2 := cw cy ad nl ns par Rl d3 ++ X) rfl ?_
        refine vl_lv (lv2 := [(0, .ref (ad 1 0)), (1, .int (nI t)), (2, .int c0), (3, .ref (ad 3 0)), (4, .int 8), (5, .int (nI k))]) [0, 1, 2, 3, 4, 5] rfl ?_
        have hI : ic3 ns mm S2 d k d3 := hI
        refine vl_iload C0 dX0_passTurn_91 5 rfl ?_
        refine vl_iload C0 dX0_passTurn_93 4 rfl ?_
        refine vl_icmp_ge (tgt := 130) C0 dX0_passTurn_95 (by decide) (fun (h95 : (8 : Int32) ≤ (nI k : Int32)) => ?_) (fun (h95 : ¬ (8 : Int32) ≤ (nI k : Int32)) => ?_)
        · have hkn : k = 8 := by have z : ¬ k < 8 := fun q => absurd h95 (nI_ge q (by decide)); have := hI.1; omega
          rw [hkn] at hI
          subst hS2
          exact vl_vret C0 hA.symm hr ⟨d3, rfl, hI.2.1, ic3_e h8 hI⟩ (Nat.le_of_ble_eq_true rfl) (Nat.le_of_ble_eq_true rfl) dX0_passTurn_130
        · have hk8 : k < 8 := by have z : ¬ k = 8 := fun q => h95 (by rw [q]; exact nI_le (Nat.le_refl _) (by decide)); have := hI.1; omega
          refine vl_aload_n C0 dX0_passTurn_98 3 rfl ?_
          by_cases hks : k < ns
          · skip
            refine vl_iload C0 dX0_passTurn_99 5 rfl ?_
            refine rc_aldS C0 (cR3 hok) (vp_in_nI hk8 (by decide)) (kn := k) (nI_clamp (by omega)) (v := .ref (ad 7 k)) (by rw [if_pos hks]; rfl) dX0_passTurn_101 ?_
            refine vl_astore (lv' := [(0, .ref (ad 1 0)), (1, .int (nI t)), (2, .int c0), (3, .ref (ad 3 0)), (4, .int 8), (5, .int (nI k)), (6, .ref (ad 7 k))]) C0 dX0_passTurn_102 [1, 2, 3, 4, 5, 6, 0] (by decide) rfl ?_
            refine vl_aload C0 dX0_passTurn_104 6 rfl ?_
            refine vl_ifnull C0 dX0_passTurn_106 ?_
            refine vl_aload_n C0 dX0_passTurn_109 0 rfl ?_
            refine vl_dup C0 dX0_passTurn_110 rfl ?_
            refine rc_get C0 (C := RX0) (T := TX0) (N := 7) (ci := 0) hinX0 (cR1 hok) rfl rfl 5 (by decide) (by decide +kernel) (v := .int (d3 1 0 5)) (rfl) dX0_passTurn_111 ?_
            refine vl_aload_n C0 dX0_passTurn_114 0 rfl ?_
            refine vl_aload C0 dX0_passTurn_115 6 rfl ?_
            refine vl_calli C0 (vl_goV C0 (As := [.ref (ad 7 k)]) (na := 1) (b := ad 1 0) (st := [.int (d3 1 0 5), .ref (ad 1 0)]) (ci := 0) gX0_passTurn_X0_earningInTurn rfl rfl rfl (by decide +kernel) ⟨Nat.le_of_ble_eq_true rfl, Nat.le_of_ble_eq_true rfl⟩ rfl (rc_rec (cR1 hok) rfl) dX0_passTurn_117 (Nat.le_of_ble_eq_true rfl) ⟨Nat.le_of_ble_eq_true rfl, Nat.le_of_ble_eq_true rfl⟩ rfl rfl) (c_X0_earningInTurn hl0 hok k (hks) (by rw [show d3 7 k 3 = S2.1 k from hI.2.2.1 k hks]; exact hok2 k)) (k2 := 0) (n2 := 0) (Nat.le_of_ble_eq_true rfl) (Nat.le_of_ble_eq_true rfl) (fun r9 w9 hp9 => ?_)
            obtain ⟨rfl, rfl⟩ := hp9
            refine vl_iadd C0 dX0_passTurn_120 ?_
            refine rc_put C0 (C := RX0) (T := TX0) (N := 7) (ci := 0) hinX0 tyX0 tyX0_ok nmX0 hok.1 (cR1 hok) rfl rfl 5 (by decide) (by decide +kernel) rfl rfl (Nat.le_of_ble_eq_true rfl) rfl dX0_passTurn_121 ?_
            refine vl_iinc (v := nI (k + 1)) (lv' := [(0, .ref (ad 1 0)), (1, .int (nI t)), (2, .int c0), (3, .ref (ad 3 0)), (4, .int 8), (5, .int (nI (k + 1))), (6, .ref (ad 7 k))]) C0 dX0_passTurn_124 5 rfl (nI_1 k) [1, 2, 3, 4, 5, 0, 6] (by decide) rfl ?_
            refine vl_goto (tgt := 91) C0 dX0_passTurn_127 (by decide) ?_
            exact vl_lv (lv2 := [(0, .ref (ad 1 0)), (1, .int (nI t)), (2, .int c0), (3, .ref (ad 3 0)), (4, .int 8), (5, .int (nI (k + 1)))]) [0, 1, 2, 3, 4, 5] rfl (ihk (k + 1, (up3 (geD d3 k) 1 0 5 ((d3 1 0 5) + (geI d3 k)))) (ic3_s hI hk8 hks (hok2 k) (fun b hb => (congrFun (hI.2.1.1 4 0 (by decide) (by decide)) b).trans (hw.2.2.2.1 b hb)) ((hI.2.1.2.1 0 3 (by decide) (by decide)).trans hw.2.1) ((hI.2.1.2.1 0 4 (by decide) (by decide)).trans hw.2.2.1)) (by show 8 - (k + 1) < 8 - k; omega))
          · skip
            refine vl_iload C0 dX0_passTurn_99 5 rfl ?_
            refine rc_aldS C0 (cR3 hok) (vp_in_nI hk8 (by decide)) (kn := k) (nI_clamp (by omega)) (v := .null) (by rw [if_neg hks]; rfl) dX0_passTurn_101 ?_
            refine vl_astoreN (lv' := [(0, .ref (ad 1 0)), (1, .int (nI t)), (2, .int c0), (3, .ref (ad 3 0)), (4, .int 8), (5, .int (nI k)), (6, .null)]) C0 dX0_passTurn_102 [1, 2, 3, 4, 5, 6, 0] (by decide) rfl ?_
            refine vl_aloadN C0 dX0_passTurn_104 6 rfl ?_
            refine vl_ifnullN (tgt := 124) C0 dX0_passTurn_106 (by decide) ?_
            refine vl_iinc (v := nI (k + 1)) (lv' := [(0, .ref (ad 1 0)), (1, .int (nI t)), (2, .int c0), (3, .ref (ad 3 0)), (4, .int 8), (5, .int (nI (k + 1))), (6, .null)]) C0 dX0_passTurn_124 5 rfl (nI_1 k) [1, 2, 3, 4, 5, 0, 6] (by decide) rfl ?_
            refine vl_goto (tgt := 91) C0 dX0_passTurn_127 (by decide) ?_
            exact vl_lv (lv2 := [(0, .ref (ad 1 0)), (1, .int (nI t)), (2, .int c0), (3, .ref (ad 3 0)), (4, .int 8), (5, .int (nI (k + 1)))]) [0, 1, 2, 3, 4, 5] rfl (ihk (k + 1, d3) (ic3_n hI hk8 hks) (by show 8 - (k + 1) < 8 - k; omega))
      · have g64 := bI_0.mp h64
        rw [if_neg (by rw [g64]; decide)]
        have hP2 := does_f h8 hc h52 hs1 hsh hdr1 hP1 g64
        have hf2 := hf1.up 1 0 6 (d1 1 0 6 ||| 1 <<< (nI t &&& 31)) (Or.inl ⟨rfl, Or.inr rfl⟩)
        refine vl_aload_n C0 dX0_passTurn_67 0 rfl ?_
        refine vl_dup C0 dX0_passTurn_68 rfl ?_
        refine rc_get C0 (C := RX0) (T := TX0) (N := 7) (ci := 0) hinX0 (cR1 hok) rfl rfl 6 (by decide) (by decide +kernel) (v := .int (d1 1 0 6)) (rfl) dX0_passTurn_69 ?_
        refine vl_iconst (v := 1) C0 dX0_passTurn_72 (by decide) ?_
        refine vl_iload_n C0 dX0_passTurn_73 1 rfl ?_
        refine vl_ishl C0 dX0_passTurn_74 ?_
        refine vl_ior C0 dX0_passTurn_75 ?_
        refine rc_put C0 (C := RX0) (T := TX0) (N := 7) (ci := 0) hinX0 tyX0 tyX0_ok nmX0 hok.1 (cR1 hok) rfl rfl 6 (by decide) (by decide +kernel) rfl rfl (Nat.le_of_ble_eq_true rfl) rfl dX0_passTurn_76 ?_
        generalize hdd : (up3 d1 1 0 6 ((d1 1 0 6) ||| ((1) <<< ((nI t) &&& 31)))) = d2 at hP2 hf2 ⊢
        have hok2 := does_ok (n := ns) (dr := mm 2) (t := t) (S := (comeA (mm 1) t S.1, S.2)) h8 hc hpl1
        generalize hS2 : doesS ns (mm 2) c0 t (comeA (mm 1) t S.1, S.2) = S2 at hP2 hok2
        refine vl_aload_n C0 dX0_passTurn_79 0 rfl ?_
        refine rc_get C0 (C := RX0) (T := TX0) (N := 7) (ci := 0) hinX0 (cR1 hok) rfl rfl 0 (by decide) (by decide +kernel) (v := .ref (ad 3 0)) (rfl) dX0_passTurn_80 ?_
        refine vl_astore_n (lv' := [(0, .ref (ad 1 0)), (1, .int (nI t)), (2, .int c0), (3, .ref (ad 3 0)), (4, .int 8), (5, .int (nI k))]) C0 dX0_passTurn_83 [1, 2, 3, 0, 4, 5] (by decide) rfl ?_
        refine vl_aload_n C0 dX0_passTurn_84 3 rfl ?_
        refine rc_alen C0 3 (cR3 hok) rfl rfl (v := 8) rfl dX0_passTurn_85 ?_
        refine vl_istore (lv' := [(0, .ref (ad 1 0)), (1, .int (nI t)), (2, .int c0), (3, .ref (ad 3 0)), (4, .int 8), (5, .int (nI k))]) C0 dX0_passTurn_86 [1, 2, 3, 4, 0, 5] (by decide) rfl ?_
        refine vl_iconst (v := 0) C0 dX0_passTurn_88 (by decide) ?_
        refine vl_istore (lv' := [(0, .ref (ad 1 0)), (1, .int (nI t)), (2, .int c0), (3, .ref (ad 3 0)), (4, .int 8), (5, .int 0)]) C0 dX0_passTurn_89 [1, 2, 3, 4, 5, 0] (by decide) rfl ?_
        refine vl_loop (σ := Nat × (Nat → Nat → Nat → Int32)) (fun x => cw cy ad nl ns par Rl x.2 ++ X) (fun x => [(0, .ref (ad 1 0)), (1, .int (nI t)), (2, .int c0), (3, .ref (ad 3 0)), (4, .int 8), (5, .int (nI (x.1)))]) (fun x => ic3 ns mm S2 d x.1 x.2) (fun x => 8 - x.1) ?_ (0, d2) (ic3_0 hf2 hP2)
        rintro ⟨k, d3⟩ hI ihk
        refine vl_w (w2 := cw cy ad nl ns par Rl d3 ++ X) rfl ?_
        refine vl_lv (lv2 := [(0, .ref (ad 1 0)), (1, .int (nI t)), (2, .int c0), (3, .ref (ad 3 0)), (4, .int 8), (5, .int (nI k))]) [0, 1, 2, 3, 4, 5] rfl ?_
        have hI : ic3 ns mm S2 d k d3 := hI
        refine vl_iload C0 dX0_passTurn_91 5 rfl ?_
        refine vl_iload C0 dX0_passTurn_93 4 rfl ?_
        refine vl_icmp_ge (tgt := 130) C0 dX0_passTurn_95 (by decide) (fun (h95 : (8 : Int32) ≤ (nI k : Int32)) => ?_) (fun (h95 : ¬ (8 : Int32) ≤ (nI k : Int32)) => ?_)
        · have hkn : k = 8 := by have z : ¬ k < 8 := fun q => absurd h95 (nI_ge q (by decide)); have := hI.1; omega
          rw [hkn] at hI
          subst hS2
          exact vl_vret C0 hA.symm hr ⟨d3, rfl, hI.2.1, ic3_e h8 hI⟩ (Nat.le_of_ble_eq_true rfl) (Nat.le_of_ble_eq_true rfl) dX0_passTurn_130
        · have hk8 : k < 8 := by have z : ¬ k = 8 := fun q => h95 (by rw [q]; exact nI_le (Nat.le_refl _) (by decide)); have := hI.1; omega
          refine vl_aload_n C0 dX0_passTurn_98 3 rfl ?_
          by_cases hks : k < ns
          · skip
            refine vl_iload C0 dX0_passTurn_99 5 rfl ?_
            refine rc_aldS C0 (cR3 hok) (vp_in_nI hk8 (by decide)) (kn := k) (nI_clamp (by omega)) (v := .ref (ad 7 k)) (by rw [if_pos hks]; rfl) dX0_passTurn_101 ?_
            refine vl_astore (lv' := [(0, .ref (ad 1 0)), (1, .int (nI t)), (2, .int c0), (3, .ref (ad 3 0)), (4, .int 8), (5, .int (nI k)), (6, .ref (ad 7 k))]) C0 dX0_passTurn_102 [1, 2, 3, 4, 5, 6, 0] (by decide) rfl ?_
            refine vl_aload C0 dX0_passTurn_104 6 rfl ?_
            refine vl_ifnull C0 dX0_passTurn_106 ?_
            refine vl_aload_n C0 dX0_passTurn_109 0 rfl ?_
            refine vl_dup C0 dX0_passTurn_110 rfl ?_
            refine rc_get C0 (C := RX0) (T := TX0) (N := 7) (ci := 0) hinX0 (cR1 hok) rfl rfl 5 (by decide) (by decide +kernel) (v := .int (d3 1 0 5)) (rfl) dX0_passTurn_111 ?_
            refine vl_aload_n C0 dX0_passTurn_114 0 rfl ?_
            refine vl_aload C0 dX0_passTurn_115 6 rfl ?_
            refine vl_calli C0 (vl_goV C0 (As := [.ref (ad 7 k)]) (na := 1) (b := ad 1 0) (st := [.int (d3 1 0 5), .ref (ad 1 0)]) (ci := 0) gX0_passTurn_X0_earningInTurn rfl rfl rfl (by decide +kernel) ⟨Nat.le_of_ble_eq_true rfl, Nat.le_of_ble_eq_true rfl⟩ rfl (rc_rec (cR1 hok) rfl) dX0_passTurn_117 (Nat.le_of_ble_eq_true rfl) ⟨Nat.le_of_ble_eq_true rfl, Nat.le_of_ble_eq_true rfl⟩ rfl rfl) (c_X0_earningInTurn hl0 hok k (hks) (by rw [show d3 7 k 3 = S2.1 k from hI.2.2.1 k hks]; exact hok2 k)) (k2 := 0) (n2 := 0) (Nat.le_of_ble_eq_true rfl) (Nat.le_of_ble_eq_true rfl) (fun r9 w9 hp9 => ?_)
            obtain ⟨rfl, rfl⟩ := hp9
            refine vl_iadd C0 dX0_passTurn_120 ?_
            refine rc_put C0 (C := RX0) (T := TX0) (N := 7) (ci := 0) hinX0 tyX0 tyX0_ok nmX0 hok.1 (cR1 hok) rfl rfl 5 (by decide) (by decide +kernel) rfl rfl (Nat.le_of_ble_eq_true rfl) rfl dX0_passTurn_121 ?_
            refine vl_iinc (v := nI (k + 1)) (lv' := [(0, .ref (ad 1 0)), (1, .int (nI t)), (2, .int c0), (3, .ref (ad 3 0)), (4, .int 8), (5, .int (nI (k + 1))), (6, .ref (ad 7 k))]) C0 dX0_passTurn_124 5 rfl (nI_1 k) [1, 2, 3, 4, 5, 0, 6] (by decide) rfl ?_
            refine vl_goto (tgt := 91) C0 dX0_passTurn_127 (by decide) ?_
            exact vl_lv (lv2 := [(0, .ref (ad 1 0)), (1, .int (nI t)), (2, .int c0), (3, .ref (ad 3 0)), (4, .int 8), (5, .int (nI (k + 1)))]) [0, 1, 2, 3, 4, 5] rfl (ihk (k + 1, (up3 (geD d3 k) 1 0 5 ((d3 1 0 5) + (geI d3 k)))) (ic3_s hI hk8 hks (hok2 k) (fun b hb => (congrFun (hI.2.1.1 4 0 (by decide) (by decide)) b).trans (hw.2.2.2.1 b hb)) ((hI.2.1.2.1 0 3 (by decide) (by decide)).trans hw.2.1) ((hI.2.1.2.1 0 4 (by decide) (by decide)).trans hw.2.2.1)) (by show 8 - (k + 1) < 8 - k; omega))
          · skip
            refine vl_iload C0 dX0_passTurn_99 5 rfl ?_
            refine rc_aldS C0 (cR3 hok) (vp_in_nI hk8 (by decide)) (kn := k) (nI_clamp (by omega)) (v := .null) (by rw [if_neg hks]; rfl) dX0_passTurn_101 ?_
            refine vl_astoreN (lv' := [(0, .ref (ad 1 0)), (1, .int (nI t)), (2, .int c0), (3, .ref (ad 3 0)), (4, .int 8), (5, .int (nI k)), (6, .null)]) C0 dX0_passTurn_102 [1, 2, 3, 4, 5, 6, 0] (by decide) rfl ?_
            refine vl_aloadN C0 dX0_passTurn_104 6 rfl ?_
            refine vl_ifnullN (tgt := 124) C0 dX0_passTurn_106 (by decide) ?_
            refine vl_iinc (v := nI (k + 1)) (lv' := [(0, .ref (ad 1 0)), (1, .int (nI t)), (2, .int c0), (3, .ref (ad 3 0)), (4, .int 8), (5, .int (nI (k + 1))), (6, .null)]) C0 dX0_passTurn_124 5 rfl (nI_1 k) [1, 2, 3, 4, 5, 0, 6] (by decide) rfl ?_
            refine vl_goto (tgt := 91) C0 dX0_passTurn_127 (by decide) ?_
            exact vl_lv (lv2 := [(0, .ref (ad 1 0)), (1, .int (nI t)), (2, .int c0), (3, .ref (ad 3 0)), (4, .int 8), (5, .int (nI (k + 1)))]) [0, 1, 2, 3, 4, 5] rfl (ihk (k + 1, d3) (ic3_n hI hk8 hks) (by show 8 - (k + 1) < 8 - k; omega))
  · have hk8 : k < 8 := by have z : ¬ k = 8 := fun q => h16 (by rw [q]; exact nI_le (Nat.le_refl _) (by decide)); have := hI.1; omega
    refine vl_aload_n C0 dX0_passTurn_19 3 rfl ?_
    by_cases hks : k < ns
    · skip
      refine vl_iload C0 dX0_passTurn_20 5 rfl ?_
      refine rc_aldS C0 (cR3 hok) (vp_in_nI hk8 (by decide)) (kn := k) (nI_clamp (by omega)) (v := .ref (ad 7 k)) (by rw [if_pos hks]; rfl) dX0_passTurn_22 ?_
      refine vl_astore (lv' := [(0, .ref (ad 1 0)), (1, .int (nI t)), (2, .int c0), (3, .ref (ad 3 0)), (4, .int 8), (5, .int (nI k)), (6, .ref (ad 7 k))]) C0 dX0_passTurn_23 [1, 2, 3, 4, 5, 6, 0] (by decide) rfl ?_
      refine vl_aload C0 dX0_passTurn_25 6 rfl ?_
      refine vl_ifnull C0 dX0_passTurn_27 ?_
      refine vl_aload C0 dX0_passTurn_30 6 rfl ?_
      refine rc_getN C0 (C := RX2) (T := TX2) (N := 5) (ci := 2) hinX2 (cR7 hok (by omega)) rfl rfl 0 (by decide) (by decide +kernel) (v := .int (mm 1 k)) (congrArg (fun z => some (Value.int z)) ((hI.2.1.2.2 k 0 (by decide) (by decide)).trans (hw.2.2.2.2 k hks).1)) dX0_passTurn_32 ?_
      refine vl_iload_n C0 dX0_passTurn_35 1 rfl ?_
      refine vl_icmp_ne (tgt := 45) C0 dX0_passTurn_36 (by decide) (fun (h36 : ¬ (mm 1 k : Int32) = (nI t : Int32)) => ?_) (fun (h36 : (mm 1 k : Int32) = (nI t : Int32)) => ?_)
      · refine vl_iinc (v := nI (k + 1)) (lv' := [(0, .ref (ad 1 0)), (1, .int (nI t)), (2, .int c0), (3, .ref (ad 3 0)), (4, .int 8), (5, .int (nI (k + 1))), (6, .ref (ad 7 k))]) C0 dX0_passTurn_45 5 rfl (nI_1 k) [1, 2, 3, 4, 5, 0, 6] (by decide) rfl ?_
        refine vl_goto (tgt := 12) C0 dX0_passTurn_48 (by decide) ?_
        exact vl_lv (lv2 := [(0, .ref (ad 1 0)), (1, .int (nI t)), (2, .int c0), (3, .ref (ad 3 0)), (4, .int 8), (5, .int (nI (k + 1)))]) [0, 1, 2, 3, 4, 5] rfl (ihk (k + 1, d1) (ic2_n hI hk8 (fun _ => h36)) (by show 8 - (k + 1) < 8 - k; omega))
      · refine vl_aload C0 dX0_passTurn_39 6 rfl ?_
        refine vl_iconst (v := -1) C0 dX0_passTurn_41 (by decide) ?_
        refine rc_putN C0 (C := RX2) (T := TX2) (N := 5) (ci := 2) hinX2 tyX2 tyX2_ok nmX2 hok.1 (cR7 hok (by omega)) rfl rfl 3 (by decide) (by decide +kernel) rfl rfl (Nat.le_of_ble_eq_true rfl) rfl dX0_passTurn_42 ?_
        refine vl_iinc (v := nI (k + 1)) (lv' := [(0, .ref (ad 1 0)), (1, .int (nI t)), (2, .int c0), (3, .ref (ad 3 0)), (4, .int 8), (5, .int (nI (k + 1))), (6, .ref (ad 7 k))]) C0 dX0_passTurn_45 5 rfl (nI_1 k) [1, 2, 3, 4, 5, 0, 6] (by decide) rfl ?_
        refine vl_goto (tgt := 12) C0 dX0_passTurn_48 (by decide) ?_
        exact vl_lv (lv2 := [(0, .ref (ad 1 0)), (1, .int (nI t)), (2, .int c0), (3, .ref (ad 3 0)), (4, .int 8), (5, .int (nI (k + 1)))]) [0, 1, 2, 3, 4, 5] rfl (ihk (k + 1, (up3 d1 7 k 3 (-1))) (ic2_s hI hk8 hks h36) (by show 8 - (k + 1) < 8 - k; omega))
    · skip
      refine vl_iload C0 dX0_passTurn_20 5 rfl ?_
      refine rc_aldS C0 (cR3 hok) (vp_in_nI hk8 (by decide)) (kn := k) (nI_clamp (by omega)) (v := .null) (by rw [if_neg hks]; rfl) dX0_passTurn_22 ?_
      refine vl_astoreN (lv' := [(0, .ref (ad 1 0)), (1, .int (nI t)), (2, .int c0), (3, .ref (ad 3 0)), (4, .int 8), (5, .int (nI k)), (6, .null)]) C0 dX0_passTurn_23 [1, 2, 3, 4, 5, 6, 0] (by decide) rfl ?_
      refine vl_aloadN C0 dX0_passTurn_25 6 rfl ?_
      refine vl_ifnullN (tgt := 45) C0 dX0_passTurn_27 (by decide) ?_
      refine vl_iinc (v := nI (k + 1)) (lv' := [(0, .ref (ad 1 0)), (1, .int (nI t)), (2, .int c0), (3, .ref (ad 3 0)), (4, .int 8), (5, .int (nI (k + 1))), (6, .null)]) C0 dX0_passTurn_45 5 rfl (nI_1 k) [1, 2, 3, 4, 5, 0, 6] (by decide) rfl ?_
      refine vl_goto (tgt := 12) C0 dX0_passTurn_48 (by decide) ?_
      exact vl_lv (lv2 := [(0, .ref (ad 1 0)), (1, .int (nI t)), (2, .int c0), (3, .ref (ad 3 0)), (4, .int 8), (5, .int (nI (k + 1)))]) [0, 1, 2, 3, 4, 5] rfl (ihk (k + 1, d1) (ic2_n hI hk8 (fun q => absurd q hks)) (by show 8 - (k + 1) < 8 - k; omega))
end VC5
