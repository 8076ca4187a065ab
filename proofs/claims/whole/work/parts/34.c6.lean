section VC6
theorem sub_nn {a b : Int32} (h0 : 0 ≤ b) (h : b ≤ a) : 0 ≤ a - b := by
  rw [Int32.le_iff_toInt_le] at *
  have e0 : (0 : Int32).toInt = 0 := by decide
  have h1 := Int32.toInt_lt a
  rw [Int32.toInt_sub, e0]
  rw [e0] at h0
  rw [Int.bmod_eq_of_le (by omega) (by omega)]
  omega
theorem earn_lf {n : Nat} {rt wh lf : Nat → Int32} (hp : ∀ q, placeOK (wh q)) (hr : ∀ b, b < 3 → 0 ≤ rt b) (h : ∀ q, q < n → 0 ≤ lf q) : ∀ q, q < n → 0 ≤ earnL rt wh lf q := fun q hq => by
  unfold earnL
  split
  · rename_i h0
    obtain ⟨b, hb, e⟩ := vp_in_of (place_in (hp q) h0) (by decide)
    unfold manyI
    rw [e, nI_clamp (by omega)]
    split
    · have : lf q - lf q = 0 := by simp
      rw [this]; decide
    · rename_i h1
      exact sub_nn (hr b hb) (Int32.not_lt.mp h1)
  · exact h q hq
theorem play_lf {n : Nat} {cm dr cg rt : Nat → Int32} {pr fe : Int32} {od : Nat → Int32} (hn : n ≤ 8) (hr : ∀ b, b < 3 → 0 ≤ rt b) (hc : ∀ q, q < n → 0 ≤ cg q) : ∀ t : Nat, (∀ i, i < t → codeOK n (od i)) → ∀ q, q < n → 0 ≤ (playS n cm dr cg rt pr fe od t).2.1 q := by
  intro t
  induction t with
  | zero => intro _ q hq; exact hc q hq
  | succ t ih =>
    intro ho
    have h1 := ih (fun i hi => ho i (by omega))
    have h2 : ∀ q, placeOK ((doesS n dr (od t) t (comeA cm t (playS n cm dr cg rt pr fe od t).1, (playS n cm dr cg rt pr fe od t).2)).1 q) := does_ok hn (ho t (Nat.lt_succ_self t)) (come_ok (play_ok hn t (fun i hi => ho i (by omega))))
    have h3 : ∀ S : plS, (doesS n dr (od t) t S).2.1 = S.2.1 := fun S => by
      unfold doesS
      split
      · rfl
      · split <;> rfl
    refine earn_lf h2 hr (fun q hq => ?_)
    rw [h3]
    exact h1 q hq
def ic1 (n : Nat) (m0 : Nat → Nat → Int32) (d0 : Nat → Nat → Nat → Int32) (k : Nat) (d : Nat → Nat → Nat → Int32) : Prop := k ≤ 8 ∧ dFr d0 d ∧ (∀ i, i < n → i < k → d 7 i 3 = -2 ∧ d 7 i 4 = m0 3 i) ∧ d 1 0 5 = 0 ∧ d 1 0 6 = 0
theorem ic1_0 {n : Nat} {m0 : Nat → Nat → Int32} {d : Nat → Nat → Nat → Int32} : ic1 n m0 d 0 (up3 (up3 d 1 0 5 0) 1 0 6 0) := ⟨Nat.zero_le _, (dFr.rf.up _ _ _ _ (Or.inl ⟨rfl, Or.inl rfl⟩)).up _ _ _ _ (Or.inl ⟨rfl, Or.inr rfl⟩), fun i9 _ hi9 => absurd hi9 (Nat.not_lt_zero _), by rw [up3_k _ _ (by decide), up3_s], by rw [up3_s]⟩
theorem ic1_s {n : Nat} {m0 : Nat → Nat → Int32} {d0 d : Nat → Nat → Nat → Int32} {k : Nat} (h : ic1 n m0 d0 k d) (hk8 : k < 8) (h2 : d 7 k 2 = m0 3 k) : ic1 n m0 d0 (k + 1) (up3 (up3 d 7 k 3 (-2)) 7 k 4 (d 7 k 2)) := by
  obtain ⟨-, h1, h3, h4, h5⟩ := h
  refine ⟨hk8, (h1.up _ _ _ _ (Or.inr ⟨rfl, Or.inl rfl⟩)).up _ _ _ _ (Or.inr ⟨rfl, Or.inr rfl⟩), fun i hi hik => ?_, ?_, ?_⟩
  · by_cases e : i = k
    · subst e
      refine ⟨?_, ?_⟩
      · rw [up3_k _ _ (by decide), up3_s]
      · rw [up3_s, h2]
    · rw [up3_ne _ 4 _ (Or.inr e), up3_ne d 3 _ (Or.inr e)]
      exact h3 i hi (by omega)
  · rw [up3_ne _ 4 _ (Or.inl (by decide)), up3_ne d 3 _ (Or.inl (by decide))]; exact h4
  · rw [up3_ne _ 4 _ (Or.inl (by decide)), up3_ne d 3 _ (Or.inl (by decide))]; exact h5
theorem ic1_n {n : Nat} {m0 : Nat → Nat → Int32} {d0 d : Nat → Nat → Nat → Int32} {k : Nat} (h : ic1 n m0 d0 k d) (hk8 : k < 8) (hk : ¬ k < n) : ic1 n m0 d0 (k + 1) d := ⟨hk8, h.2.1, fun i hi hik => h.2.2.1 i hi (by omega), h.2.2.2⟩
theorem ic1_e {n : Nat} {m0 : Nat → Nat → Int32} {d0 d : Nat → Nat → Nat → Int32} {dr rt cm : Nat → Int32} {pr fe : Int32} {od : Nat → Int32} (hn : n ≤ 8) (h : ic1 n m0 d0 8 d) : cPl n d (playS n cm dr (m0 3) rt pr fe od 0) := ⟨fun i hi => (h.2.2.1 i hi (by omega)).1, fun i hi => (h.2.2.1 i hi (by omega)).2, h.2.2.2.1, h.2.2.2.2⟩
set_option maxHeartbeats 4000000 in
set_option maxRecDepth 100000 in
theorem c_X0_play {l : Launch} {D : va_G} {cy : Nat → ClassId} {ad : Nat → Nat → Nat} {nl ns : Nat} {par : Nat → Option Nat} {Rl : List (Nat × Nat)} {d : Nat → Nat → Nat → Int32} {X : va_W} {mm : Nat → Nat → Int32} (hl0 : l.stackTraces = false) (hok : cw_ok nl ns Rl) (h8 : ns ≤ 8) (j T : Nat) (hln : rLn nl mm d) (hw : rWd ns mm d) (ht : mTree nl par mm) (h9 : nl ≤ 9) (hj : j < nl) (hT3 : T < 30) (hcode : ∀ t, t < 30 → codeOK ns (ordX (mm 11) par t (some j))) (hcg : ∀ q, q < ns → 0 ≤ mm 3 q) (hrt : ∀ b, b < 3 → 0 ≤ mm 4 b) : vl_Kv l D cy yX0_play wsX0_play { frames := 4, cells := 0, slots := 0, locals := 96 } 0 0 (cw cy ad nl ns par Rl d ++ X) [.ref (ad 1 0), .ref (ad 5 j), .int (nI T)] (fun w' => ∃ d', w' = cw cy ad nl ns par Rl d' ++ X ∧ dFr d d' ∧ cPl ns d' (plyM ns par mm j (T + 1))) := by
  refine vl_openv hl0 (by decide) rfl (Nat.le_of_ble_eq_true rfl) rfl ?_
  intro p e s m args below meth c C0 hr hnm
  generalize hA : va_A (cw cy ad nl ns par Rl d ++ X) s.heap.size = A at C0 ⊢
  refine vl_lv (lv2 := [(0, .ref (ad 1 0)), (1, .ref (ad 5 j)), (2, .int (nI T))]) [0, 1, 2] rfl ?_
  have hinX0 : ∀ x ∈ u_ws RX0 TX0 7, x ∈ wsX0_play := by decide +kernel
  refine vl_aload_n C0 dX0_play_0 0 rfl ?_
  refine vl_iconst (v := 0) C0 dX0_play_1 (by decide) ?_
  refine rc_put C0 (C := RX0) (T := TX0) (N := 7) (ci := 0) hinX0 tyX0 tyX0_ok nmX0 hok.1 (cR1 hok) rfl rfl 5 (by decide) (by decide +kernel) rfl rfl (Nat.le_of_ble_eq_true rfl) rfl dX0_play_2 ?_
  refine vl_aload_n C0 dX0_play_5 0 rfl ?_
  refine vl_iconst (v := 0) C0 dX0_play_6 (by decide) ?_
  refine rc_put C0 (C := RX0) (T := TX0) (N := 7) (ci := 0) hinX0 tyX0 tyX0_ok nmX0 hok.1 (cR1 hok) rfl rfl 6 (by decide) (by decide +kernel) rfl rfl (Nat.le_of_ble_eq_true rfl) rfl dX0_play_7 ?_
  refine vl_aload_n C0 dX0_play_10 0 rfl ?_
  refine rc_get C0 (C := RX0) (T := TX0) (N := 7) (ci := 0) hinX0 (cR1 hok) rfl rfl 0 (by decide) (by decide +kernel) (v := .ref (ad 3 0)) (rfl) dX0_play_11 ?_
  refine vl_astore_n (lv' := [(0, .ref (ad 1 0)), (1, .ref (ad 5 j)), (2, .int (nI T)), (3, .ref (ad 3 0))]) C0 dX0_play_14 [1, 2, 3, 0] (by decide) rfl ?_
  refine vl_aload_n C0 dX0_play_15 3 rfl ?_
  refine rc_alen C0 3 (cR3 hok) rfl rfl (v := 8) rfl dX0_play_16 ?_
  refine vl_istore (lv' := [(0, .ref (ad 1 0)), (1, .ref (ad 5 j)), (2, .int (nI T)), (3, .ref (ad 3 0)), (4, .int 8)]) C0 dX0_play_17 [1, 2, 3, 4, 0] (by decide) rfl ?_
  refine vl_iconst (v := 0) C0 dX0_play_19 (by decide) ?_
  refine vl_istore (lv' := [(0, .ref (ad 1 0)), (1, .ref (ad 5 j)), (2, .int (nI T)), (3, .ref (ad 3 0)), (4, .int 8), (5, .int 0)]) C0 dX0_play_20 [1, 2, 3, 4, 5, 0] (by decide) rfl ?_
  refine vl_loop (σ := Nat × (Nat → Nat → Nat → Int32)) (fun x => cw cy ad nl ns par Rl x.2 ++ X) (fun x => [(0, .ref (ad 1 0)), (1, .ref (ad 5 j)), (2, .int (nI T)), (3, .ref (ad 3 0)), (4, .int 8), (5, .int (nI (x.1)))]) (fun x => ic1 ns mm d x.1 x.2) (fun x => 8 - x.1) ?_ (0, up3 (up3 d 1 0 5 0) 1 0 6 0) (ic1_0)
  rintro ⟨k, d1⟩ hI ihk
  refine vl_w (w2 := cw cy ad nl ns par Rl d1 ++ X) rfl ?_
  refine vl_lv (lv2 := [(0, .ref (ad 1 0)), (1, .ref (ad 5 j)), (2, .int (nI T)), (3, .ref (ad 3 0)), (4, .int 8), (5, .int (nI k))]) [0, 1, 2, 3, 4, 5] rfl ?_
  have hI : ic1 ns mm d k d1 := hI
  refine vl_iload C0 dX0_play_22 5 rfl ?_
  refine vl_iload C0 dX0_play_24 4 rfl ?_
  refine vl_icmp_ge (tgt := 51) C0 dX0_play_26 (by decide) (fun (h26 : (8 : Int32) ≤ (nI k : Int32)) => ?_) (fun (h26 : ¬ (8 : Int32) ≤ (nI k : Int32)) => ?_)
  · have hkn : k = 8 := by have z : ¬ k < 8 := fun q => absurd h26 (nI_ge q (by decide)); have := hI.1; omega
    rw [hkn] at hI
    have hP := ic1_e (dr := mm 2) (rt := mm 4) (cm := mm 1) (pr := mm 0 5) (fe := mm 0 6) (od := fun t => ordX (mm 11) par t (some j)) h8 hI
    refine vl_iconst (v := 0) C0 dX0_play_51 (by decide) ?_
    refine vl_istore_n (lv' := [(0, .ref (ad 1 0)), (1, .ref (ad 5 j)), (2, .int (nI T)), (3, .int 0), (4, .int 8), (5, .int (nI k))]) C0 dX0_play_52 [1, 2, 3, 0, 4, 5] (by decide) rfl ?_
    refine vl_lv (lv2 := [(0, .ref (ad 1 0)), (1, .ref (ad 5 j)), (2, .int (nI T)), (3, .int 0)]) [0, 1, 2, 3] rfl ?_
    refine vl_loop (σ := Nat × (Nat → Nat → Nat → Int32)) (fun x => cw cy ad nl ns par Rl x.2 ++ X) (fun x => [(0, .ref (ad 1 0)), (1, .ref (ad 5 j)), (2, .int (nI T)), (3, .int (nI (x.1)))]) (fun x => x.1 ≤ T + 1 ∧ dFr d x.2 ∧ cPl ns x.2 (plyM ns par mm j (x.1))) (fun x => T + 1 - x.1) ?_ (0, d1) (⟨Nat.zero_le _, hI.2.1, hP⟩)
    rintro ⟨t, d2⟩ hT iht
    refine vl_w (w2 := cw cy ad nl ns par Rl d2 ++ X) rfl ?_
    refine vl_lv (lv2 := [(0, .ref (ad 1 0)), (1, .ref (ad 5 j)), (2, .int (nI T)), (3, .int (nI t))]) [0, 1, 2, 3] rfl ?_
    have hT : t ≤ T + 1 ∧ dFr d d2 ∧ cPl ns d2 (plyM ns par mm j t) := hT
    refine vl_iload_n C0 dX0_play_53 3 rfl ?_
    refine vl_iload_n C0 dX0_play_54 2 rfl ?_
    refine vl_icmp_gt (tgt := 80) C0 dX0_play_55 (by decide) (fun (h55 : (nI T : Int32) < (nI t : Int32)) => ?_) (fun (h55 : ¬ (nI T : Int32) < (nI t : Int32)) => ?_)
    · have htT : t = T + 1 := by have z : ¬ t ≤ T := fun q => nI_nlt q (by omega) h55; have := hT.1; omega
      subst htT
      exact vl_vret C0 hA.symm hr ⟨d2, rfl, hT.2.1, hT.2.2⟩ (Nat.le_of_ble_eq_true rfl) (Nat.le_of_ble_eq_true rfl) dX0_play_80
    · have htT : t ≤ T := by have z : ¬ T < t := fun q => h55 (nI_lt q (by omega)); omega
      refine vl_iload_n C0 dX0_play_58 3 rfl ?_
      refine vl_bipush (v := 30) C0 dX0_play_59 (by decide) ?_
      refine vl_icmp_ge (tgt := 80) C0 dX0_play_61 (by decide) (fun (h61 : (30 : Int32) ≤ (nI t : Int32)) => absurd h61 (nI_ge (show t < 30 by omega) (by decide))) (fun (h61 : ¬ (30 : Int32) ≤ (nI t : Int32)) => ?_)
      refine vl_aload_n C0 dX0_play_64 0 rfl ?_
      refine vl_iload_n C0 dX0_play_65 3 rfl ?_
      refine vl_aload_n C0 dX0_play_66 1 rfl ?_
      refine vl_iload_n C0 dX0_play_67 3 rfl ?_
      refine vl_calli C0 (vl_goVN C0 (As := [.int (nI t)]) (na := 1) (b := ad 5 j) (st := [.int (nI t), .ref (ad 1 0)]) (ci := 1) gX0_play_X1_orderFor_n40 rfl rfl rfl (by decide +kernel) (by decide +kernel) (by decide +kernel) (by decide +kernel) (by decide +kernel) ⟨Nat.le_of_ble_eq_true rfl, Nat.le_of_ble_eq_true rfl⟩ rfl (rc_rec (cR5 hok (by omega)) rfl) dX0_play_68 (Nat.le_of_ble_eq_true rfl) ⟨Nat.le_of_ble_eq_true rfl, Nat.le_of_ble_eq_true rfl⟩ rfl rfl) (c_X1_orderFor hl0 hok j t (mm := mm) (rLn_f hln hT.2.1) ht h9 (hj) (by omega)) (k2 := 0) (n2 := 0) (Nat.le_of_ble_eq_true rfl) (Nat.le_of_ble_eq_true rfl) (fun r9 w9 hp9 => ?_)
      obtain ⟨rfl, rfl⟩ := hp9
      refine vl_callv C0 (vl_goV C0 (As := [.int (nI t), .int (ordX (mm 11) par t (some j))]) (na := 2) (b := ad 1 0) (st := []) (ci := 0) gX0_play_X0_passTurn rfl rfl rfl (by decide +kernel) ⟨Nat.le_of_ble_eq_true rfl, Nat.le_of_ble_eq_true rfl⟩ rfl (rc_rec (cR1 hok) rfl) dX0_play_71 (Nat.le_of_ble_eq_true rfl) ⟨Nat.le_of_ble_eq_true rfl, Nat.le_of_ble_eq_true rfl⟩ rfl rfl) (c_X0_passTurn hl0 hok h8 t (ordX (mm 11) par t (some j)) (mm := mm) (by omega) (rWd_f hw hT.2.1) hT.2.2 (play_ok h8 t (fun i9 hi9 => hcode i9 (by omega))) (play_lf h8 hrt hcg t (fun i9 hi9 => hcode i9 (by omega))) (hcode t (by omega))) (k2 := 0) (n2 := 0) (Nat.le_of_ble_eq_true rfl) (Nat.le_of_ble_eq_true rfl) (fun w9 hp9 => ?_)
      obtain ⟨d3, rfl, hf2, hq2⟩ := hp9
      refine vl_iinc (v := nI (t + 1)) (lv' := [(0, .ref (ad 1 0)), (1, .ref (ad 5 j)), (2, .int (nI T)), (3, .int (nI (t + 1)))]) C0 dX0_play_74 3 rfl (nI_1 t) [1, 2, 3, 0] (by decide) rfl ?_
      refine vl_goto (tgt := 53) C0 dX0_play_77 (by decide) ?_
      exact vl_lv (lv2 := [(0, .ref (ad 1 0)), (1, .ref (ad 5 j)), (2, .int (nI T)), (3, .int (nI (t + 1)))]) [0, 1, 2, 3] rfl (iht (t + 1, d3) ⟨by omega, hT.2.1.tr hf2, hq2⟩ (by show T + 1 - (t + 1) < T + 1 - t; omega))
  · have hk8 : k < 8 := by have z : ¬ k = 8 := fun q => h26 (by rw [q]; exact nI_le (Nat.le_refl _) (by decide)); have := hI.1; omega
    refine vl_aload_n C0 dX0_play_29 3 rfl ?_
    by_cases hks : k < ns
    · skip
      refine vl_iload C0 dX0_play_30 5 rfl ?_
      refine rc_aldS C0 (cR3 hok) (vp_in_nI hk8 (by decide)) (kn := k) (nI_clamp (by omega)) (v := .ref (ad 7 k)) (by rw [if_pos hks]; rfl) dX0_play_32 ?_
      refine vl_astore (lv' := [(0, .ref (ad 1 0)), (1, .ref (ad 5 j)), (2, .int (nI T)), (3, .ref (ad 3 0)), (4, .int 8), (5, .int (nI k)), (6, .ref (ad 7 k))]) C0 dX0_play_33 [1, 2, 3, 4, 5, 6, 0] (by decide) rfl ?_
      refine vl_aload C0 dX0_play_35 6 rfl ?_
      refine vl_ifnull C0 dX0_play_37 ?_
      refine vl_aload C0 dX0_play_40 6 rfl ?_
      refine vl_callv C0 (vl_goVN C0 (As := []) (na := 0) (b := ad 7 k) (st := []) (ci := 2) gX0_play_X2_startAfresh_n37 rfl rfl rfl (by decide +kernel) (by decide +kernel) (by decide +kernel) (by decide +kernel) (by decide +kernel) ⟨Nat.le_of_ble_eq_true rfl, Nat.le_of_ble_eq_true rfl⟩ rfl (rc_rec (cR7 hok (by omega)) rfl) dX0_play_42 (Nat.le_of_ble_eq_true rfl) ⟨Nat.le_of_ble_eq_true rfl, Nat.le_of_ble_eq_true rfl⟩ rfl rfl) (c_X2_startAfresh hl0 hok k (hks)) (k2 := 0) (n2 := 0) (Nat.le_of_ble_eq_true rfl) (Nat.le_of_ble_eq_true rfl) (fun w9 hp9 => ?_)
      obtain rfl := hp9
      refine vl_iinc (v := nI (k + 1)) (lv' := [(0, .ref (ad 1 0)), (1, .ref (ad 5 j)), (2, .int (nI T)), (3, .ref (ad 3 0)), (4, .int 8), (5, .int (nI (k + 1))), (6, .ref (ad 7 k))]) C0 dX0_play_45 5 rfl (nI_1 k) [1, 2, 3, 4, 5, 0, 6] (by decide) rfl ?_
      refine vl_goto (tgt := 22) C0 dX0_play_48 (by decide) ?_
      exact vl_lv (lv2 := [(0, .ref (ad 1 0)), (1, .ref (ad 5 j)), (2, .int (nI T)), (3, .ref (ad 3 0)), (4, .int 8), (5, .int (nI (k + 1)))]) [0, 1, 2, 3, 4, 5] rfl (ihk (k + 1, (up3 (up3 d1 7 k 3 (-2)) 7 k 4 (d1 7 k 2))) (ic1_s hI hk8 ((hI.2.1.2.2 k 2 (by decide) (by decide)).trans (hw.2.2.2.2 k hks).2.2)) (by show 8 - (k + 1) < 8 - k; omega))
    · skip
      refine vl_iload C0 dX0_play_30 5 rfl ?_
      refine rc_aldS C0 (cR3 hok) (vp_in_nI hk8 (by decide)) (kn := k) (nI_clamp (by omega)) (v := .null) (by rw [if_neg hks]; rfl) dX0_play_32 ?_
      refine vl_astoreN (lv' := [(0, .ref (ad 1 0)), (1, .ref (ad 5 j)), (2, .int (nI T)), (3, .ref (ad 3 0)), (4, .int 8), (5, .int (nI k)), (6, .null)]) C0 dX0_play_33 [1, 2, 3, 4, 5, 6, 0] (by decide) rfl ?_
      refine vl_aloadN C0 dX0_play_35 6 rfl ?_
      refine vl_ifnullN (tgt := 45) C0 dX0_play_37 (by decide) ?_
      refine vl_iinc (v := nI (k + 1)) (lv' := [(0, .ref (ad 1 0)), (1, .ref (ad 5 j)), (2, .int (nI T)), (3, .ref (ad 3 0)), (4, .int 8), (5, .int (nI (k + 1))), (6, .null)]) C0 dX0_play_45 5 rfl (nI_1 k) [1, 2, 3, 4, 5, 0, 6] (by decide) rfl ?_
      refine vl_goto (tgt := 22) C0 dX0_play_48 (by decide) ?_
      exact vl_lv (lv2 := [(0, .ref (ad 1 0)), (1, .ref (ad 5 j)), (2, .int (nI T)), (3, .ref (ad 3 0)), (4, .int 8), (5, .int (nI (k + 1)))]) [0, 1, 2, 3, 4, 5] rfl (ihk (k + 1, d1) (ic1_n hI hk8 hks) (by show 8 - (k + 1) < 8 - k; omega))
end VC6
