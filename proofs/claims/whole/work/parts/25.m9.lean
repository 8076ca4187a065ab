section VM9
def in1 (n : Nat) (m0 : Nat → Nat → Int32) (k : Nat) (m : Nat → Nat → Int32) : Prop := k ≤ n ∧ mFr m0 m ∧ (∀ i, i < k → m 13 i = -2 ∧ m 14 i = m0 3 i) ∧ m 0 15 = 0 ∧ m 0 16 = 0
theorem in1_s {n : Nat} {m0 m : Nat → Nat → Int32} {k : Nat} (h : in1 n m0 k m) (hk : k < n) : in1 n m0 (k + 1) (up2 (up2 m 13 k (-2)) 14 k (m0 3 k)) := by
  obtain ⟨-, h1, h2, h3, h4⟩ := h
  refine ⟨hk, (h1.up _ _ _ (Or.inl rfl)).up _ _ _ (Or.inr (Or.inl rfl)), fun i hi => ?_, h3, h4⟩
  show upd (m 13) k (-2) i = -2 ∧ upd (m 14) k (m0 3 k) i = m0 3 i
  by_cases hik : i = k
  · subst hik; simp [upd]
  · have := h2 i (by omega)
    simp [upd, hik, this]
theorem in1_e {n : Nat} {m0 m : Nat → Nat → Int32} {dr rt cm : Nat → Int32} {pr fe : Int32} {od : Nat → Int32} (h : in1 n m0 n m) : mPl n m (playS n cm dr (m0 3) rt pr fe od 0) := ⟨fun i hi => (h.2.2.1 i hi).1, fun i hi => (h.2.2.1 i hi).2, h.2.2.2.1, h.2.2.2.2⟩
def in2 (n : Nat) (m0 : Nat → Nat → Int32) (t : Nat) (S : plS) (k : Nat) (m : Nat → Nat → Int32) : Prop := k ≤ n ∧ mFr m0 m ∧ (∀ i, i < n → m 13 i = if i < k then comeA (m0 1) t S.1 i else S.1 i) ∧ (∀ i, i < n → m 14 i = S.2.1 i) ∧ m 0 15 = S.2.2.1 ∧ m 0 16 = S.2.2.2
theorem in2_0 {n : Nat} {m0 m : Nat → Nat → Int32} {t : Nat} {S : plS} (hf : mFr m0 m) (h : mPl n m S) : in2 n m0 t S 0 m := ⟨Nat.zero_le n, hf, fun i hi => by rw [if_neg (Nat.not_lt_zero i)]; exact h.1 i hi, h.2.1, h.2.2.1, h.2.2.2⟩
theorem in2_s {n : Nat} {m0 m : Nat → Nat → Int32} {t : Nat} {S : plS} {k : Nat} {v : Int32} (h : in2 n m0 t S k m) (hk : k < n) (hv : v = comeA (m0 1) t S.1 k) : in2 n m0 t S (k + 1) (up2 m 13 k v) := ⟨hk, h.2.1.up _ _ _ (Or.inl rfl), upd_step h.2.2.1 hv, h.2.2.2.1, h.2.2.2.2⟩
theorem in2_e {n : Nat} {m0 m : Nat → Nat → Int32} {t : Nat} {S : plS} (h : in2 n m0 t S n m) : mPl n m (comeA (m0 1) t S.1, S.2) := ⟨upd_end h.2.2.1, h.2.2.2.1, h.2.2.2.2.1, h.2.2.2.2.2⟩
def in3 (n : Nat) (m0 : Nat → Nat → Int32) (S : plS) (k : Nat) (m : Nat → Nat → Int32) : Prop := k ≤ n ∧ mFr m0 m ∧ (∀ i, i < n → m 13 i = S.1 i) ∧ (∀ i, i < n → m 14 i = if i < k then earnL (m0 4) S.1 S.2.1 i else S.2.1 i) ∧ m 0 15 = earnE (m0 4) (m0 0 5) (m0 0 6) S.1 S.2.1 S.2.2.1 k ∧ m 0 16 = S.2.2.2
theorem in3_0 {n : Nat} {m0 m : Nat → Nat → Int32} {S : plS} (hf : mFr m0 m) (h : mPl n m S) : in3 n m0 S 0 m := ⟨Nat.zero_le n, hf, h.1, fun i hi => by rw [if_neg (Nat.not_lt_zero i)]; exact h.2.1 i hi, h.2.2.1, h.2.2.2⟩
theorem in3_a {n : Nat} {m0 m : Nat → Nat → Int32} {S : plS} {k : Nat} {v e1 e2 : Int32} (h : in3 n m0 S k m) (hk : k < n) (h0 : 0 ≤ S.1 k) (hv : v = S.2.1 k - manyI (m0 4) S.1 S.2.1 k) (he : e2 = earnE (m0 4) (m0 0 5) (m0 0 6) S.1 S.2.1 S.2.2.1 k + m0 0 5 * manyI (m0 4) S.1 S.2.1 k - (if S.1 k = -1 then m0 0 6 else 0)) : in3 n m0 S (k + 1) (up2 (up2 (up2 m 14 k v) 0 15 e1) 0 15 e2) := ⟨hk, ((h.2.1.up _ _ _ (Or.inr (Or.inl rfl))).up _ _ _ (Or.inr (Or.inr ⟨rfl, Or.inl rfl⟩))).up _ _ _ (Or.inr (Or.inr ⟨rfl, Or.inl rfl⟩)), h.2.2.1, upd_step (n := n) (f := m 14) h.2.2.2.1 (by rw [hv, earnL, if_pos h0]), by rw [earnE, if_pos h0]; exact he, h.2.2.2.2.2⟩
theorem in3_b {n : Nat} {m0 m : Nat → Nat → Int32} {S : plS} {k : Nat} {e2 : Int32} (h : in3 n m0 S k m) (hk : k < n) (h0 : ¬ 0 ≤ S.1 k) (he : e2 = earnE (m0 4) (m0 0 5) (m0 0 6) S.1 S.2.1 S.2.2.1 k - (if S.1 k = -1 then m0 0 6 else 0)) : in3 n m0 S (k + 1) (up2 m 0 15 e2) := ⟨hk, h.2.1.up _ _ _ (Or.inr (Or.inr ⟨rfl, Or.inl rfl⟩)), h.2.2.1, upd_skip (n := n) (f := m 14) h.2.2.2.1 (by rw [earnL, if_neg h0]), by rw [earnE, if_neg h0]; exact he, h.2.2.2.2.2⟩
theorem in3_e {n : Nat} {m0 m : Nat → Nat → Int32} {S : plS} (h : in3 n m0 S n m) : mPl n m (S.1, earnL (m0 4) S.1 S.2.1, earnE (m0 4) (m0 0 5) (m0 0 6) S.1 S.2.1 S.2.2.1 n, S.2.2.2) := ⟨h.2.2.1, upd_end h.2.2.2.1, h.2.2.2.2.1, h.2.2.2.2.2⟩
/-- the play of a line in the reference's state -/
def plyM (n : Nat) (par : Nat → Option Nat) (m : Nat → Nat → Int32) (j : Nat) (T : Nat) : plS := playS n (m 1) (m 2) (m 3) (m 4) (m 0 5) (m 0 6) (fun t => ordX (m 11) par t (some j)) T
theorem mTree_f {nl : Nat} {par : Nat → Option Nat} {m m' : Nat → Nat → Int32} (h : mTree nl par m) (hf : mFr m m') : mTree nl par m' := ⟨h.1, fun i hi => (congrFun (hf.1 8 (by decide) (by decide) (by decide)) i).trans (h.2 i hi)⟩
set_option maxHeartbeats 4000000 in
set_option maxRecDepth 100000 in
theorem c_X4_plays {l : Launch} {D : va_G} {cy : Nat → ClassId} {ad : Nat → Nat} {mm : Nat → Nat → Int32} {X : va_W} {ns nl : Nat} {par : Nat → Option Nat} (hl0 : l.stackTraces = false) (j T : Nat) (e0 : mm 0 0 = nI ns) (h8 : ns ≤ 8) (ht : mTree nl par mm) (h9 : nl ≤ 9) (hj : j < nl) (hT3 : T < 30) (hcode : ∀ t, t < 30 → codeOK ns (ordX (mm 11) par t (some j))) : vl_Kv l D cy yX4_plays wsX4_plays { frames := 2, cells := 0, slots := 0, locals := 51 } 0 0 (mw cy ad mm ++ X) [.ref (ad 0), .int (nI j), .int (nI T)] (fun w' => ∃ m', w' = mw cy ad m' ++ X ∧ mFr mm m' ∧ mPl ns m' (plyM ns par mm j (T + 1))) := by
  refine vl_openv hl0 (by decide) rfl (Nat.le_of_ble_eq_true rfl) rfl ?_
  intro p e s m args below meth c C0 hr hnm
  generalize hA : va_A (mw cy ad mm ++ X) s.heap.size = A at C0 ⊢
  refine vl_lv (lv2 := [(0, .ref (ad 0)), (1, .int (nI j)), (2, .int (nI T))]) [0, 1, 2] rfl ?_
  have hin : ∀ x ∈ u_ws RX4 TX4 18, x ∈ wsX4_plays := by decide +kernel
  refine vl_aload_n C0 dX4_plays_0 0 rfl ?_
  refine vl_iconst (v := 0) C0 dX4_plays_1 (by decide) ?_
  refine rm_put C0 hin 15 (by decide) (by decide +kernel) rfl rfl (mw_put15 _) dX4_plays_2 ?_
  refine vl_aload_n C0 dX4_plays_5 0 rfl ?_
  refine vl_iconst (v := 0) C0 dX4_plays_6 (by decide) ?_
  refine rm_put C0 hin 16 (by decide) (by decide +kernel) rfl rfl (mw_put16 _) dX4_plays_7 ?_
  refine vl_iconst (v := 0) C0 dX4_plays_10 (by decide) ?_
  refine vl_istore_n (lv' := [(0, .ref (ad 0)), (1, .int (nI j)), (2, .int (nI T)), (3, .int 0)]) C0 dX4_plays_11 [1, 2, 3, 0] (by decide) rfl ?_
  refine vl_loop (σ := Nat × (Nat → Nat → Int32)) (fun x => mw cy ad x.2 ++ X) (fun x => [(0, .ref (ad 0)), (1, .int (nI j)), (2, .int (nI T)), (3, .int (nI (x.1)))]) (fun x => in1 ns mm x.1 x.2) (fun x => ns - x.1) ?_ (0, up2 (up2 mm 0 15 0) 0 16 0) (⟨Nat.zero_le _, (mFr.rf.up _ _ _ (Or.inr (Or.inr ⟨rfl, Or.inl rfl⟩))).up _ _ _ (Or.inr (Or.inr ⟨rfl, Or.inr rfl⟩)), fun i hi => absurd hi (Nat.not_lt_zero i), rfl, rfl⟩)
  rintro ⟨k, m1⟩ hI ihk
  refine vl_w (w2 := mw cy ad m1 ++ X) rfl ?_
  refine vl_lv (lv2 := [(0, .ref (ad 0)), (1, .int (nI j)), (2, .int (nI T)), (3, .int (nI k))]) [0, 1, 2, 3] rfl ?_
  have hI : in1 ns mm k m1 := hI
  refine vl_iload_n C0 dX4_plays_12 3 rfl ?_
  refine vl_aload_n C0 dX4_plays_13 0 rfl ?_
  refine rm_get C0 hin 0 (by decide) (by decide +kernel) (v := .int (nI ns)) (congrArg (fun z => some (Value.int z)) ((hI.2.1.2 0 (by decide) (by decide)).trans e0)) dX4_plays_14 ?_
  refine vl_icmp_ge (tgt := 46) C0 dX4_plays_17 (by decide) (fun (h17 : (nI ns : Int32) ≤ (nI k : Int32)) => ?_) (fun (h17 : ¬ (nI ns : Int32) ≤ (nI k : Int32)) => ?_)
  · have hkn : k = ns := by have z : ¬ k < ns := fun q => absurd h17 (nI_ge q (by omega)); have := hI.1; omega
    rw [hkn] at hI
    have hP := in1_e (dr := mm 2) (rt := mm 4) (cm := mm 1) (pr := mm 0 5) (fe := mm 0 6) (od := fun t => ordX (mm 11) par t (some j)) hI
    refine vl_iconst (v := 0) C0 dX4_plays_46 (by decide) ?_
    refine vl_istore_n (lv' := [(0, .ref (ad 0)), (1, .int (nI j)), (2, .int (nI T)), (3, .int 0)]) C0 dX4_plays_47 [1, 2, 3, 0] (by decide) rfl ?_
    refine vl_loop (σ := Nat × (Nat → Nat → Int32)) (fun x => mw cy ad x.2 ++ X) (fun x => [(0, .ref (ad 0)), (1, .int (nI j)), (2, .int (nI T)), (3, .int (nI (x.1)))]) (fun x => x.1 ≤ T + 1 ∧ mFr mm x.2 ∧ mPl ns x.2 (plyM ns par mm j (x.1))) (fun x => T + 1 - x.1) ?_ (0, m1) (⟨Nat.zero_le _, hI.2.1, hP⟩)
    rintro ⟨t, m2⟩ hT iht
    refine vl_w (w2 := mw cy ad m2 ++ X) rfl ?_
    refine vl_lv (lv2 := [(0, .ref (ad 0)), (1, .int (nI j)), (2, .int (nI T)), (3, .int (nI t))]) [0, 1, 2, 3] rfl ?_
    have hT : t ≤ T + 1 ∧ mFr mm m2 ∧ mPl ns m2 (plyM ns par mm j t) := hT
    refine vl_iload_n C0 dX4_plays_48 3 rfl ?_
    refine vl_iload_n C0 dX4_plays_49 2 rfl ?_
    refine vl_icmp_gt (tgt := 247) C0 dX4_plays_50 (by decide) (fun (h50 : (nI T : Int32) < (nI t : Int32)) => ?_) (fun (h50 : ¬ (nI T : Int32) < (nI t : Int32)) => ?_)
    · have htT : t = T + 1 := by have z : ¬ t ≤ T := fun q => nI_nlt q (by omega) h50; have := hT.1; omega
      subst htT
      exact vl_vret C0 hA.symm hr ⟨m2, rfl, hT.2.1, hT.2.2⟩ (Nat.le_of_ble_eq_true rfl) (Nat.le_of_ble_eq_true rfl) dX4_plays_247
    · have htT : t ≤ T := by have z : ¬ T < t := fun q => h50 (nI_lt q (by omega)); omega
      refine vl_iconst (v := 0) C0 dX4_plays_53 (by decide) ?_
      refine vl_istore (lv' := [(0, .ref (ad 0)), (1, .int (nI j)), (2, .int (nI T)), (3, .int (nI t)), (4, .int 0)]) C0 dX4_plays_54 [1, 2, 3, 4, 0] (by decide) rfl ?_
      refine vl_loop (σ := Nat × (Nat → Nat → Int32)) (fun x => mw cy ad x.2 ++ X) (fun x => [(0, .ref (ad 0)), (1, .int (nI j)), (2, .int (nI T)), (3, .int (nI t)), (4, .int (nI (x.1)))]) (fun x => in2 ns mm t (plyM ns par mm j t) x.1 x.2) (fun x => ns - x.1) ?_ (0, m2) (in2_0 hT.2.1 hT.2.2)
      rintro ⟨k, m3⟩ hI ihk
      refine vl_w (w2 := mw cy ad m3 ++ X) rfl ?_
      refine vl_lv (lv2 := [(0, .ref (ad 0)), (1, .int (nI j)), (2, .int (nI T)), (3, .int (nI t)), (4, .int (nI k))]) [0, 1, 2, 3, 4] rfl ?_
      have hI : in2 ns mm t (plyM ns par mm j t) k m3 := hI
      refine vl_iload C0 dX4_plays_56 4 rfl ?_
      refine vl_aload_n C0 dX4_plays_58 0 rfl ?_
      refine rm_get C0 hin 0 (by decide) (by decide +kernel) (v := .int (nI ns)) (congrArg (fun z => some (Value.int z)) ((hI.2.1.2 0 (by decide) (by decide)).trans e0)) dX4_plays_59 ?_
      refine vl_icmp_ge (tgt := 100) C0 dX4_plays_62 (by decide) (fun (h62 : (nI ns : Int32) ≤ (nI k : Int32)) => ?_) (fun (h62 : ¬ (nI ns : Int32) ≤ (nI k : Int32)) => ?_)
      · have hkn : k = ns := by have z : ¬ k < ns := fun q => absurd h62 (nI_ge q (by omega)); have := hI.1; omega
        rw [hkn] at hI
        have hP := in2_e hI
        have ht3 : mTree nl par m3 := mTree_f ht hI.2.1
        have e03 : m3 0 0 = nI ns := (hI.2.1.2 0 (by decide) (by decide)).trans e0
        refine vl_aload_n C0 dX4_plays_100 0 rfl ?_
        refine vl_aload_n C0 dX4_plays_101 0 rfl ?_
        refine vl_iload_n C0 dX4_plays_102 1 rfl ?_
        refine vl_iload_n C0 dX4_plays_103 3 rfl ?_
        refine vl_calli C0 (vl_goV C0 (As := [.int (nI j), .int (nI t)]) (na := 2) (b := ad 0) (st := [.ref (ad 0)]) (ci := 4) gX4_plays_X4_orderAt rfl rfl rfl (by decide +kernel) ⟨Nat.le_of_ble_eq_true rfl, Nat.le_of_ble_eq_true rfl⟩ rfl ⟨0, _, rfl⟩ dX4_plays_104 (Nat.le_of_ble_eq_true rfl) ⟨Nat.le_of_ble_eq_true rfl, Nat.le_of_ble_eq_true rfl⟩ rfl rfl) (c_X4_orderAt hl0 j t (nl := nl) (par := par) ht3 h9 (hj) (by omega)) (k2 := 0) (n2 := 0) (Nat.le_of_ble_eq_true rfl) (Nat.le_of_ble_eq_true rfl) (fun r9 w9 hp9 => ?_)
        obtain ⟨rfl, rfl⟩ := hp9
        rw [show m3 11 = mm 11 from hI.2.1.1 11 (by decide) (by decide) (by decide)]
        refine vl_iload_n C0 dX4_plays_107 3 rfl ?_
        refine vl_callv C0 (vl_goV C0 (As := [.int (ordX (mm 11) par t (some j)), .int (nI t)]) (na := 2) (b := ad 0) (st := []) (ci := 4) gX4_plays_X4_does rfl rfl rfl (by decide +kernel) ⟨Nat.le_of_ble_eq_true rfl, Nat.le_of_ble_eq_true rfl⟩ rfl ⟨0, _, rfl⟩ dX4_plays_108 (Nat.le_of_ble_eq_true rfl) ⟨Nat.le_of_ble_eq_true rfl, Nat.le_of_ble_eq_true rfl⟩ rfl rfl) (c_X4_does hl0 (ordX (mm 11) par t (some j)) t (ns := ns) e03 h8 (hcode t (by omega))) (k2 := 0) (n2 := 0) (Nat.le_of_ble_eq_true rfl) (Nat.le_of_ble_eq_true rfl) (fun w9 hp9 => ?_)
        obtain rfl := hp9
        have hf4 : mFr mm (doesM ns m3 (ordX (mm 11) par t (some j)) t) := hI.2.1.tr doesM_fr
        have hP4 := doesM_pl (t := t) h8 (hcode t (by omega)) hP
        rw [show m3 2 = mm 2 from hI.2.1.1 2 (by decide) (by decide) (by decide)] at hP4
        generalize doesM ns m3 (ordX (mm 11) par t (some j)) t = m4 at hf4 hP4 ⊢
        have hok4 := does_ok (n := ns) (dr := mm 2) (t := t) (S := (comeA (mm 1) t (plyM ns par mm j t).1, (plyM ns par mm j t).2)) h8 (hcode t (by omega)) (come_ok (play_ok h8 t (fun i hi => hcode i (by omega))))
        generalize hS4 : doesS ns (mm 2) (ordX (mm 11) par t (some j)) t (comeA (mm 1) t (plyM ns par mm j t).1, (plyM ns par mm j t).2) = S4 at hP4 hok4
        refine vl_iconst (v := 0) C0 dX4_plays_111 (by decide) ?_
        refine vl_istore (lv' := [(0, .ref (ad 0)), (1, .int (nI j)), (2, .int (nI T)), (3, .int (nI t)), (4, .int 0)]) C0 dX4_plays_112 [1, 2, 3, 4, 0] (by decide) rfl ?_
        refine vl_loop (σ := Nat × (Nat → Nat → Int32)) (fun x => mw cy ad x.2 ++ X) (fun x => [(0, .ref (ad 0)), (1, .int (nI j)), (2, .int (nI T)), (3, .int (nI t)), (4, .int (nI (x.1)))]) (fun x => in3 ns mm S4 x.1 x.2) (fun x => ns - x.1) ?_ (0, m4) (in3_0 hf4 hP4)
        rintro ⟨k, m5⟩ hI ihk
        refine vl_w (w2 := mw cy ad m5 ++ X) rfl ?_
        refine vl_lv (lv2 := [(0, .ref (ad 0)), (1, .int (nI j)), (2, .int (nI T)), (3, .int (nI t)), (4, .int (nI k))]) [0, 1, 2, 3, 4] rfl ?_
        have hI : in3 ns mm S4 k m5 := hI
        refine vl_iload C0 dX4_plays_114 4 rfl ?_
        refine vl_aload_n C0 dX4_plays_116 0 rfl ?_
        refine rm_get C0 hin 0 (by decide) (by decide +kernel) (v := .int (nI ns)) (congrArg (fun z => some (Value.int z)) ((hI.2.1.2 0 (by decide) (by decide)).trans e0)) dX4_plays_117 ?_
        refine vl_icmp_ge (tgt := 241) C0 dX4_plays_120 (by decide) (fun (h120 : (nI ns : Int32) ≤ (nI k : Int32)) => ?_) (fun (h120 : ¬ (nI ns : Int32) ≤ (nI k : Int32)) => ?_)
        · have hkn : k = ns := by have z : ¬ k < ns := fun q => absurd h120 (nI_ge q (by omega)); have := hI.1; omega
          rw [hkn] at hI
          subst hS4
          refine vl_iinc (v := nI (t + 1)) (lv' := [(0, .ref (ad 0)), (1, .int (nI j)), (2, .int (nI T)), (3, .int (nI (t + 1))), (4, .int (nI k))]) C0 dX4_plays_241 3 rfl (nI_1 t) [1, 2, 3, 0, 4] (by decide) rfl ?_
          refine vl_goto (tgt := 48) C0 dX4_plays_244 (by decide) ?_
          exact vl_lv (lv2 := [(0, .ref (ad 0)), (1, .int (nI j)), (2, .int (nI T)), (3, .int (nI (t + 1)))]) [0, 1, 2, 3] rfl (iht (t + 1, m5) ⟨by omega, hI.2.1, in3_e hI⟩ (by show T + 1 - (t + 1) < T + 1 - t; omega))
        · have hk30 : k < ns := by have z : ¬ k = ns := fun q => h120 (by rw [q]; exact nI_le (Nat.le_refl _) (by omega)); have := hI.1; omega
          refine vl_aload_n C0 dX4_plays_123 0 rfl ?_
          refine rm_get C0 hin 13 (by decide) (by decide +kernel) rfl dX4_plays_124 ?_
          refine vl_iload C0 dX4_plays_127 4 rfl ?_
          refine rm_iald C0 13 10 8 rfl (vp_in_nI (show k < 8 by omega) (by decide)) (kn := k) (nI_clamp (by omega)) (v := S4.1 k) (hI.2.2.1 k hk30) dX4_plays_129 ?_
          refine vl_if_lt (tgt := 207) C0 dX4_plays_130 (by decide) (fun (h130 : (S4.1 k : Int32) < (0 : Int32)) => ?_) (fun (h130 : ¬ (S4.1 k : Int32) < (0 : Int32)) => ?_)
          · refine vl_aload_n C0 dX4_plays_207 0 rfl ?_
            refine vl_dup C0 dX4_plays_208 rfl ?_
            refine rm_get C0 hin 15 (by decide) (by decide +kernel) (v := .int (earnE (mm 4) (mm 0 5) (mm 0 6) S4.1 S4.2.1 S4.2.2.1 k)) (congrArg (fun z => some (Value.int z)) hI.2.2.2.2.1) dX4_plays_209 ?_
            refine vl_aload_n C0 dX4_plays_212 0 rfl ?_
            refine rm_get C0 hin 13 (by decide) (by decide +kernel) rfl dX4_plays_213 ?_
            refine vl_iload C0 dX4_plays_216 4 rfl ?_
            refine rm_iald C0 13 10 8 rfl (vp_in_nI (show k < 8 by omega) (by decide)) (kn := k) (nI_clamp (by omega)) (v := S4.1 k) (hI.2.2.1 k hk30) dX4_plays_218 ?_
            refine vl_iconst (v := -1) C0 dX4_plays_219 (by decide) ?_
            refine vl_icmp_ne (tgt := 230) C0 dX4_plays_220 (by decide) (fun (h220 : ¬ (S4.1 k : Int32) = ((-1) : Int32)) => ?_) (fun (h220 : (S4.1 k : Int32) = ((-1) : Int32)) => ?_)
            · refine vl_iconst (v := 0) C0 dX4_plays_230 (by decide) ?_
              refine vl_isub C0 dX4_plays_231 ?_
              refine rm_put C0 hin 15 (by decide) (by decide +kernel) rfl rfl (mw_put15 _) dX4_plays_232 ?_
              refine vl_iinc (v := nI (k + 1)) (lv' := [(0, .ref (ad 0)), (1, .int (nI j)), (2, .int (nI T)), (3, .int (nI t)), (4, .int (nI (k + 1)))]) C0 dX4_plays_235 4 rfl (nI_1 k) [1, 2, 3, 4, 0] (by decide) rfl ?_
              refine vl_goto (tgt := 114) C0 dX4_plays_238 (by decide) ?_
              exact vl_lv (lv2 := [(0, .ref (ad 0)), (1, .int (nI j)), (2, .int (nI T)), (3, .int (nI t)), (4, .int (nI (k + 1)))]) [0, 1, 2, 3, 4] rfl (ihk (k + 1, (up2 m5 0 15 ((earnE (mm 4) (mm 0 5) (mm 0 6) S4.1 S4.2.1 S4.2.2.1 k) - (0)))) (in3_b hI hk30 (Int32.not_le.mpr h130) (by rw [if_neg h220])) (by show ns - (k + 1) < ns - k; omega))
            · refine vl_aload_n C0 dX4_plays_223 0 rfl ?_
              refine rm_get C0 hin 6 (by decide) (by decide +kernel) (v := .int (mm 0 6)) (congrArg (fun z => some (Value.int z)) (hI.2.1.2 6 (by decide) (by decide))) dX4_plays_224 ?_
              refine vl_goto (tgt := 231) C0 dX4_plays_227 (by decide) ?_
              refine vl_isub C0 dX4_plays_231 ?_
              refine rm_put C0 hin 15 (by decide) (by decide +kernel) rfl rfl (mw_put15 _) dX4_plays_232 ?_
              refine vl_iinc (v := nI (k + 1)) (lv' := [(0, .ref (ad 0)), (1, .int (nI j)), (2, .int (nI T)), (3, .int (nI t)), (4, .int (nI (k + 1)))]) C0 dX4_plays_235 4 rfl (nI_1 k) [1, 2, 3, 4, 0] (by decide) rfl ?_
              refine vl_goto (tgt := 114) C0 dX4_plays_238 (by decide) ?_
              exact vl_lv (lv2 := [(0, .ref (ad 0)), (1, .int (nI j)), (2, .int (nI T)), (3, .int (nI t)), (4, .int (nI (k + 1)))]) [0, 1, 2, 3, 4] rfl (ihk (k + 1, (up2 m5 0 15 ((earnE (mm 4) (mm 0 5) (mm 0 6) S4.1 S4.2.1 S4.2.2.1 k) - (mm 0 6)))) (in3_b hI hk30 (Int32.not_le.mpr h130) (by rw [if_pos h220])) (by show ns - (k + 1) < ns - k; omega))
          · refine vl_join (w2 := mw cy ad m5 ++ X) (k2 := 0) (n2 := 0) (lv2 := [(0, .ref (ad 0)), (1, .int (nI j)), (2, .int (nI T)), (3, .int (nI t)), (4, .int (nI k))]) 177 (st2 := [.int (manyI (mm 4) S4.1 S4.2.1 k)]) ?_ (fun hj => ?_)
            · skip
              refine vl_istore (lv' := [(0, .ref (ad 0)), (1, .int (nI j)), (2, .int (nI T)), (3, .int (nI t)), (4, .int (nI k)), (5, .int (manyI (mm 4) S4.1 S4.2.1 k))]) C0 dX4_plays_177 [1, 2, 3, 4, 5, 0] (by decide) rfl ?_
              refine vl_aload_n C0 dX4_plays_179 0 rfl ?_
              refine rm_get C0 hin 14 (by decide) (by decide +kernel) rfl dX4_plays_180 ?_
              refine vl_iload C0 dX4_plays_183 4 rfl ?_
              refine vl_dup2 C0 dX4_plays_185 rfl rfl ?_
              refine rm_iald C0 14 11 8 rfl (vp_in_nI (show k < 8 by omega) (by decide)) (kn := k) (nI_clamp (by omega)) (v := S4.2.1 k) (upd_at hI.2.2.2.1 hk30) dX4_plays_186 ?_
              refine vl_iload C0 dX4_plays_187 5 rfl ?_
              refine vl_isub C0 dX4_plays_189 ?_
              refine rm_iast C0 14 11 8 rfl (mw_st14 _ _) (vp_in_nI (show k < 8 by omega) (by decide)) (kn := k) (nI_clamp (by omega)) dX4_plays_190 ?_
              refine vl_aload_n C0 dX4_plays_191 0 rfl ?_
              refine vl_dup C0 dX4_plays_192 rfl ?_
              refine rm_get C0 hin 15 (by decide) (by decide +kernel) (v := .int (earnE (mm 4) (mm 0 5) (mm 0 6) S4.1 S4.2.1 S4.2.2.1 k)) (congrArg (fun z => some (Value.int z)) hI.2.2.2.2.1) dX4_plays_193 ?_
              refine vl_aload_n C0 dX4_plays_196 0 rfl ?_
              refine rm_get C0 hin 5 (by decide) (by decide +kernel) (v := .int (mm 0 5)) (congrArg (fun z => some (Value.int z)) (hI.2.1.2 5 (by decide) (by decide))) dX4_plays_197 ?_
              refine vl_iload C0 dX4_plays_200 5 rfl ?_
              refine vl_imul C0 dX4_plays_202 ?_
              refine vl_iadd C0 dX4_plays_203 ?_
              refine rm_put C0 hin 15 (by decide) (by decide +kernel) rfl rfl (mw_put15 _) dX4_plays_204 ?_
              refine vl_aload_n C0 dX4_plays_207 0 rfl ?_
              refine vl_dup C0 dX4_plays_208 rfl ?_
              refine rm_get C0 hin 15 (by decide) (by decide +kernel) (v := .int ((earnE (mm 4) (mm 0 5) (mm 0 6) S4.1 S4.2.1 S4.2.2.1 k) + ((mm 0 5) * (manyI (mm 4) S4.1 S4.2.1 k)))) (rfl) dX4_plays_209 ?_
              refine vl_aload_n C0 dX4_plays_212 0 rfl ?_
              refine rm_get C0 hin 13 (by decide) (by decide +kernel) rfl dX4_plays_213 ?_
              refine vl_iload C0 dX4_plays_216 4 rfl ?_
              refine rm_iald C0 13 10 8 rfl (vp_in_nI (show k < 8 by omega) (by decide)) (kn := k) (nI_clamp (by omega)) (v := S4.1 k) (hI.2.2.1 k hk30) dX4_plays_218 ?_
              refine vl_iconst (v := -1) C0 dX4_plays_219 (by decide) ?_
              refine vl_icmp_ne (tgt := 230) C0 dX4_plays_220 (by decide) (fun (h220 : ¬ (S4.1 k : Int32) = ((-1) : Int32)) => ?_) (fun (h220 : (S4.1 k : Int32) = ((-1) : Int32)) => ?_)
              · refine vl_iconst (v := 0) C0 dX4_plays_230 (by decide) ?_
                refine vl_isub C0 dX4_plays_231 ?_
                refine rm_put C0 hin 15 (by decide) (by decide +kernel) rfl rfl (mw_put15 _) dX4_plays_232 ?_
                refine vl_iinc (v := nI (k + 1)) (lv' := [(0, .ref (ad 0)), (1, .int (nI j)), (2, .int (nI T)), (3, .int (nI t)), (4, .int (nI (k + 1))), (5, .int (manyI (mm 4) S4.1 S4.2.1 k))]) C0 dX4_plays_235 4 rfl (nI_1 k) [1, 2, 3, 4, 0, 5] (by decide) rfl ?_
                refine vl_goto (tgt := 114) C0 dX4_plays_238 (by decide) ?_
                exact vl_lv (lv2 := [(0, .ref (ad 0)), (1, .int (nI j)), (2, .int (nI T)), (3, .int (nI t)), (4, .int (nI (k + 1)))]) [0, 1, 2, 3, 4] rfl (ihk (k + 1, (up2 (up2 (up2 m5 14 k ((S4.2.1 k) - (manyI (mm 4) S4.1 S4.2.1 k))) 0 15 ((earnE (mm 4) (mm 0 5) (mm 0 6) S4.1 S4.2.1 S4.2.2.1 k) + ((mm 0 5) * (manyI (mm 4) S4.1 S4.2.1 k)))) 0 15 (((earnE (mm 4) (mm 0 5) (mm 0 6) S4.1 S4.2.1 S4.2.2.1 k) + ((mm 0 5) * (manyI (mm 4) S4.1 S4.2.1 k))) - (0)))) (in3_a hI hk30 (Int32.not_lt.mp h130) rfl (by rw [if_neg h220])) (by show ns - (k + 1) < ns - k; omega))
              · refine vl_aload_n C0 dX4_plays_223 0 rfl ?_
                refine rm_get C0 hin 6 (by decide) (by decide +kernel) (v := .int (mm 0 6)) (congrArg (fun z => some (Value.int z)) (hI.2.1.2 6 (by decide) (by decide))) dX4_plays_224 ?_
                refine vl_goto (tgt := 231) C0 dX4_plays_227 (by decide) ?_
                refine vl_isub C0 dX4_plays_231 ?_
                refine rm_put C0 hin 15 (by decide) (by decide +kernel) rfl rfl (mw_put15 _) dX4_plays_232 ?_
                refine vl_iinc (v := nI (k + 1)) (lv' := [(0, .ref (ad 0)), (1, .int (nI j)), (2, .int (nI T)), (3, .int (nI t)), (4, .int (nI (k + 1))), (5, .int (manyI (mm 4) S4.1 S4.2.1 k))]) C0 dX4_plays_235 4 rfl (nI_1 k) [1, 2, 3, 4, 0, 5] (by decide) rfl ?_
                refine vl_goto (tgt := 114) C0 dX4_plays_238 (by decide) ?_
                exact vl_lv (lv2 := [(0, .ref (ad 0)), (1, .int (nI j)), (2, .int (nI T)), (3, .int (nI t)), (4, .int (nI (k + 1)))]) [0, 1, 2, 3, 4] rfl (ihk (k + 1, (up2 (up2 (up2 m5 14 k ((S4.2.1 k) - (manyI (mm 4) S4.1 S4.2.1 k))) 0 15 ((earnE (mm 4) (mm 0 5) (mm 0 6) S4.1 S4.2.1 S4.2.2.1 k) + ((mm 0 5) * (manyI (mm 4) S4.1 S4.2.1 k)))) 0 15 (((earnE (mm 4) (mm 0 5) (mm 0 6) S4.1 S4.2.1 S4.2.2.1 k) + ((mm 0 5) * (manyI (mm 4) S4.1 S4.2.1 k))) - (mm 0 6)))) (in3_a hI hk30 (Int32.not_lt.mp h130) rfl (by rw [if_pos h220])) (by show ns - (k + 1) < ns - k; omega))
            · skip
              refine vl_aload_n C0 dX4_plays_133 0 rfl ?_
              refine rm_get C0 hin 14 (by decide) (by decide +kernel) rfl dX4_plays_134 ?_
              refine vl_iload C0 dX4_plays_137 4 rfl ?_
              refine rm_iald C0 14 11 8 rfl (vp_in_nI (show k < 8 by omega) (by decide)) (kn := k) (nI_clamp (by omega)) (v := S4.2.1 k) (upd_at hI.2.2.2.1 hk30) dX4_plays_139 ?_
              refine vl_aload_n C0 dX4_plays_140 0 rfl ?_
              refine rm_get C0 hin 4 (by decide) (by decide +kernel) rfl dX4_plays_141 ?_
              refine vl_aload_n C0 dX4_plays_144 0 rfl ?_
              refine rm_get C0 hin 13 (by decide) (by decide +kernel) rfl dX4_plays_145 ?_
              refine vl_iload C0 dX4_plays_148 4 rfl ?_
              refine rm_iald C0 13 10 8 rfl (vp_in_nI (show k < 8 by omega) (by decide)) (kn := k) (nI_clamp (by omega)) (v := S4.1 k) (hI.2.2.1 k hk30) dX4_plays_150 ?_
              refine rm_iald C0 4 4 3 rfl (place_in (hok4 k) (Int32.not_lt.mp h130)) (kn := (S4.1 k).toNatClampNeg) (rfl) (v := mm 4 ((S4.1 k).toNatClampNeg)) (congrFun (hI.2.1.1 4 (by decide) (by decide) (by decide)) _) dX4_plays_151 ?_
              refine vl_icmp_ge (tgt := 165) C0 dX4_plays_152 (by decide) (fun (h152 : (mm 4 ((S4.1 k).toNatClampNeg) : Int32) ≤ (S4.2.1 k : Int32)) => ?_) (fun (h152 : ¬ (mm 4 ((S4.1 k).toNatClampNeg) : Int32) ≤ (S4.2.1 k : Int32)) => ?_)
              · refine vl_aload_n C0 dX4_plays_165 0 rfl ?_
                refine rm_get C0 hin 4 (by decide) (by decide +kernel) rfl dX4_plays_166 ?_
                refine vl_aload_n C0 dX4_plays_169 0 rfl ?_
                refine rm_get C0 hin 13 (by decide) (by decide +kernel) rfl dX4_plays_170 ?_
                refine vl_iload C0 dX4_plays_173 4 rfl ?_
                refine rm_iald C0 13 10 8 rfl (vp_in_nI (show k < 8 by omega) (by decide)) (kn := k) (nI_clamp (by omega)) (v := S4.1 k) (hI.2.2.1 k hk30) dX4_plays_175 ?_
                refine rm_iald C0 4 4 3 rfl (place_in (hok4 k) (Int32.not_lt.mp h130)) (kn := (S4.1 k).toNatClampNeg) (rfl) (v := mm 4 ((S4.1 k).toNatClampNeg)) (congrFun (hI.2.1.1 4 (by decide) (by decide) (by decide)) _) dX4_plays_176 ?_
                exact vl_st (by simp [manyI, ← Int32.not_le, h152]) hj
              · refine vl_aload_n C0 dX4_plays_155 0 rfl ?_
                refine rm_get C0 hin 14 (by decide) (by decide +kernel) rfl dX4_plays_156 ?_
                refine vl_iload C0 dX4_plays_159 4 rfl ?_
                refine rm_iald C0 14 11 8 rfl (vp_in_nI (show k < 8 by omega) (by decide)) (kn := k) (nI_clamp (by omega)) (v := S4.2.1 k) (upd_at hI.2.2.2.1 hk30) dX4_plays_161 ?_
                refine vl_goto (tgt := 177) C0 dX4_plays_162 (by decide) ?_
                exact vl_st (by simp [manyI, ← Int32.not_le, h152]) hj
      · have hk30 : k < ns := by have z : ¬ k = ns := fun q => h62 (by rw [q]; exact nI_le (Nat.le_refl _) (by omega)); have := hI.1; omega
        refine vl_aload_n C0 dX4_plays_65 0 rfl ?_
        refine rm_get C0 hin 13 (by decide) (by decide +kernel) rfl dX4_plays_66 ?_
        refine vl_iload C0 dX4_plays_69 4 rfl ?_
        refine vl_aload_n C0 dX4_plays_71 0 rfl ?_
        refine rm_get C0 hin 1 (by decide) (by decide +kernel) rfl dX4_plays_72 ?_
        refine vl_iload C0 dX4_plays_75 4 rfl ?_
        refine rm_iald C0 1 1 8 rfl (vp_in_nI (show k < 8 by omega) (by decide)) (kn := k) (nI_clamp (by omega)) (v := mm 1 k) (congrFun (hI.2.1.1 1 (by decide) (by decide) (by decide)) _) dX4_plays_77 ?_
        refine vl_iload_n C0 dX4_plays_78 3 rfl ?_
        refine vl_icmp_ne (tgt := 86) C0 dX4_plays_79 (by decide) (fun (h79 : ¬ (mm 1 k : Int32) = (nI t : Int32)) => ?_) (fun (h79 : (mm 1 k : Int32) = (nI t : Int32)) => ?_)
        · refine vl_aload_n C0 dX4_plays_86 0 rfl ?_
          refine rm_get C0 hin 13 (by decide) (by decide +kernel) rfl dX4_plays_87 ?_
          refine vl_iload C0 dX4_plays_90 4 rfl ?_
          refine rm_iald C0 13 10 8 rfl (vp_in_nI (show k < 8 by omega) (by decide)) (kn := k) (nI_clamp (by omega)) (v := m3 13 k) (rfl) dX4_plays_92 ?_
          refine rm_iast C0 13 10 8 rfl (mw_st13 _ _) (vp_in_nI (show k < 8 by omega) (by decide)) (kn := k) (nI_clamp (by omega)) dX4_plays_93 ?_
          refine vl_iinc (v := nI (k + 1)) (lv' := [(0, .ref (ad 0)), (1, .int (nI j)), (2, .int (nI T)), (3, .int (nI t)), (4, .int (nI (k + 1)))]) C0 dX4_plays_94 4 rfl (nI_1 k) [1, 2, 3, 4, 0] (by decide) rfl ?_
          refine vl_goto (tgt := 56) C0 dX4_plays_97 (by decide) ?_
          exact vl_lv (lv2 := [(0, .ref (ad 0)), (1, .int (nI j)), (2, .int (nI T)), (3, .int (nI t)), (4, .int (nI (k + 1)))]) [0, 1, 2, 3, 4] rfl (ihk (k + 1, (up2 m3 13 k (m3 13 k))) (in2_s hI hk30 (by simp only [comeA]; rw [if_neg h79]; exact upd_at hI.2.2.1 hk30)) (by show ns - (k + 1) < ns - k; omega))
        · refine vl_iconst (v := -1) C0 dX4_plays_82 (by decide) ?_
          refine vl_goto (tgt := 93) C0 dX4_plays_83 (by decide) ?_
          refine rm_iast C0 13 10 8 rfl (mw_st13 _ _) (vp_in_nI (show k < 8 by omega) (by decide)) (kn := k) (nI_clamp (by omega)) dX4_plays_93 ?_
          refine vl_iinc (v := nI (k + 1)) (lv' := [(0, .ref (ad 0)), (1, .int (nI j)), (2, .int (nI T)), (3, .int (nI t)), (4, .int (nI (k + 1)))]) C0 dX4_plays_94 4 rfl (nI_1 k) [1, 2, 3, 4, 0] (by decide) rfl ?_
          refine vl_goto (tgt := 56) C0 dX4_plays_97 (by decide) ?_
          exact vl_lv (lv2 := [(0, .ref (ad 0)), (1, .int (nI j)), (2, .int (nI T)), (3, .int (nI t)), (4, .int (nI (k + 1)))]) [0, 1, 2, 3, 4] rfl (ihk (k + 1, (up2 m3 13 k (-1))) (in2_s hI hk30 (by simp only [comeA]; rw [if_pos h79])) (by show ns - (k + 1) < ns - k; omega))
  · have hk30 : k < ns := by have z : ¬ k = ns := fun q => h17 (by rw [q]; exact nI_le (Nat.le_refl _) (by omega)); have := hI.1; omega
    refine vl_aload_n C0 dX4_plays_20 0 rfl ?_
    refine rm_get C0 hin 13 (by decide) (by decide +kernel) rfl dX4_plays_21 ?_
    refine vl_iload_n C0 dX4_plays_24 3 rfl ?_
    refine vl_bipush (v := -2) C0 dX4_plays_25 (by decide) ?_
    refine rm_iast C0 13 10 8 rfl (mw_st13 _ _) (vp_in_nI (show k < 8 by omega) (by decide)) (kn := k) (nI_clamp (by omega)) dX4_plays_27 ?_
    refine vl_aload_n C0 dX4_plays_28 0 rfl ?_
    refine rm_get C0 hin 14 (by decide) (by decide +kernel) rfl dX4_plays_29 ?_
    refine vl_iload_n C0 dX4_plays_32 3 rfl ?_
    refine vl_aload_n C0 dX4_plays_33 0 rfl ?_
    refine rm_get C0 hin 3 (by decide) (by decide +kernel) rfl dX4_plays_34 ?_
    refine vl_iload_n C0 dX4_plays_37 3 rfl ?_
    refine rm_iald C0 3 3 8 rfl (vp_in_nI (show k < 8 by omega) (by decide)) (kn := k) (nI_clamp (by omega)) (v := mm 3 k) (congrFun (hI.2.1.1 3 (by decide) (by decide) (by decide)) _) dX4_plays_38 ?_
    refine rm_iast C0 14 11 8 rfl (mw_st14 _ _) (vp_in_nI (show k < 8 by omega) (by decide)) (kn := k) (nI_clamp (by omega)) dX4_plays_39 ?_
    refine vl_iinc (v := nI (k + 1)) (lv' := [(0, .ref (ad 0)), (1, .int (nI j)), (2, .int (nI T)), (3, .int (nI (k + 1)))]) C0 dX4_plays_40 3 rfl (nI_1 k) [1, 2, 3, 0] (by decide) rfl ?_
    refine vl_goto (tgt := 12) C0 dX4_plays_43 (by decide) ?_
    exact vl_lv (lv2 := [(0, .ref (ad 0)), (1, .int (nI j)), (2, .int (nI T)), (3, .int (nI (k + 1)))]) [0, 1, 2, 3] rfl (ihk (k + 1, (up2 (up2 m1 13 k (-2)) 14 k (mm 3 k))) (in1_s hI hk30) (by show ns - (k + 1) < ns - k; omega))
end VM9
