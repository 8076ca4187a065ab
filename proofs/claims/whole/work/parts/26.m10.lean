section VM10
/-- the reference's state, but for what plays and the numbers of throws write -/
def mKp (m m' : Nat → Nat → Int32) : Prop := (∀ j, j ≠ 0 → j ≠ 13 → j ≠ 14 → m' j = m j) ∧ ∀ i, i ≠ 15 → i ≠ 16 → i ≠ 17 → m' 0 i = m 0 i
theorem mFr.kp {m m' : Nat → Nat → Int32} (h : mFr m m') : mKp m m' := ⟨h.1, fun i a b _ => h.2 i a b⟩
theorem mKp.rf {m : Nat → Nat → Int32} : mKp m m := ⟨fun _ _ _ _ => rfl, fun _ _ _ _ => rfl⟩
theorem mKp.tr {m m' m2 : Nat → Nat → Int32} (h : mKp m m') (h2 : mKp m' m2) : mKp m m2 := ⟨fun j a b c => (h2.1 j a b c).trans (h.1 j a b c), fun i a b c => (h2.2 i a b c).trans (h.2 i a b c)⟩
theorem mKp.t {m : Nat → Nat → Int32} (v : Int32) : mKp m (up2 m 0 17 v) := ⟨fun j a _ _ => by simp [up2, a], fun i _ _ h => by simp [up2, upd, h]⟩
theorem plyM_k {n : Nat} {par : Nat → Option Nat} {m m' : Nat → Nat → Int32} (h : mKp m m') (j T : Nat) : plyM n par m' j T = plyM n par m j T := by
  unfold plyM
  rw [h.1 1 (by decide) (by decide) (by decide), h.1 2 (by decide) (by decide) (by decide), h.1 3 (by decide) (by decide) (by decide), h.1 4 (by decide) (by decide) (by decide), h.1 11 (by decide) (by decide) (by decide), h.2 5 (by decide) (by decide) (by decide), h.2 6 (by decide) (by decide) (by decide)]
theorem mTree_k {nl : Nat} {par : Nat → Option Nat} {m m' : Nat → Nat → Int32} (h : mTree nl par m) (hf : mKp m m') : mTree nl par m' := ⟨h.1, fun i hi => (congrFun (hf.1 8 (by decide) (by decide) (by decide)) i).trans (h.2 i hi)⟩
theorem aheadI_k {m m' : Nat → Nat → Int32} (h : mKp m m') (j : Nat) : aheadI m' j = aheadI m j := by
  unfold aheadI aheadP
  rw [h.1 12 (by decide) (by decide) (by decide)]
theorem misB_f {nl ns : Nat} {a b t : Int32} (h : misB nl ns a b t = false) : inB a 0 (nI nl - 1) = true ∧ inB b 0 (nI ns - 1) = true ∧ inB t 0 29 = true := by
  simp only [misB, Bool.not_eq_false', Bool.and_eq_true] at h
  exact ⟨h.1.1, h.1.2, h.2⟩
theorem inB_nS {n : Nat} {v : Int32} (hn : n ≤ 8) (h : inB v 0 (nI n - 1) = true) : ∃ j : Nat, j < n ∧ v = nI j := by
  cases n with
  | zero => exact absurd h (fun q => inB_nI0 q)
  | succ n => exact inB_nI (by omega) (by omega) h
def whV (ns nl : Nat) (par : Nat → Option Nat) (m : Nat → Nat → Int32) (a b t : Int32) : Int32 := if misB nl ns a b t = true then 0 else (plyM ns par m a.toNatClampNeg (t.toNatClampNeg + 1)).1 b.toNatClampNeg
def cgV (ns nl : Nat) (par : Nat → Option Nat) (m : Nat → Nat → Int32) (a b t : Int32) : Int32 := if misB nl ns a b t = true then 0 else (plyM ns par m a.toNatClampNeg (t.toNatClampNeg + 1)).2.1 b.toNatClampNeg
def faV (ns nl : Nat) (par : Nat → Option Nat) (m : Nat → Nat → Int32) (a : Int32) : Int32 := if inB a 0 (nI nl - 1) = false then 0 else (plyM ns par m a.toNatClampNeg 30).2.2.2
def lkV (ns nl : Nat) (par : Nat → Option Nat) (m : Nat → Nat → Int32) (a t : Int32) : Int32 := if (inB a 0 (nI nl - 1) && inB t 0 29) = false then 0 else (plyM ns par m a.toNatClampNeg (t.toNatClampNeg + 1)).2.2.1
def lkM (nl : Nat) (m : Nat → Nat → Int32) (a t : Int32) : Nat → Nat → Int32 := if (inB a 0 (nI nl - 1) && inB t 0 29) = false then m else up2 m 10 a.toNatClampNeg (if m 10 a.toNatClampNeg < t then t else m 10 a.toNatClampNeg)
def mkV (ns : Nat) (par : Nat → Option Nat) (m : Nat → Nat → Int32) (j : Nat) : Int32 := if j = 0 then 50 else if ¬ aheadI m j = 0 then 0 else if 50 + (plyM ns par m j 30).2.2.1 - (plyM ns par m 0 30).2.2.1 < 0 then 0 else if 100 < 50 + (plyM ns par m j 30).2.2.1 - (plyM ns par m 0 30).2.2.1 then 100 else 50 + (plyM ns par m j 30).2.2.1 - (plyM ns par m 0 30).2.2.1
theorem mkV_k {ns : Nat} {par : Nat → Option Nat} {m m' : Nat → Nat → Int32} (h : mKp m m') (j : Nat) : mkV ns par m' j = mkV ns par m j := by
  unfold mkV
  rw [aheadI_k h, plyM_k h, plyM_k h]
def maV (ns nl : Nat) (par : Nat → Option Nat) (m : Nat → Nat → Int32) (a : Int32) : Int32 := if inB a 0 (nI nl - 1) = false then 0 else mkV ns par m a.toNatClampNeg
def bstF (mk : Nat → Int32) : Nat → Int32 × Int32
  | 0 => (-1, -1)
  | k + 1 => if (bstF mk k).2 < mk (k + 1) then (nI (k + 1), mk (k + 1)) else bstF mk k
set_option maxHeartbeats 4000000 in
set_option maxRecDepth 100000 in
theorem c_X4_where {l : Launch} {D : va_G} {cy : Nat → ClassId} {ad : Nat → Nat} {mm : Nat → Nat → Int32} {X : va_W} {ns nl : Nat} {par : Nat → Option Nat} (hl0 : l.stackTraces = false) (a b t : Int32) (e0 : mm 0 0 = nI ns) (h8 : ns ≤ 8) (e7 : mm 0 7 = nI nl) (h1 : 1 ≤ nl) (h9 : nl ≤ 9) (ht : mTree nl par mm) (hcode : ∀ j t, j < nl → t < 30 → codeOK ns (ordX (mm 11) par t (some j))) : vl_Ki l D cy yX4_where wsX4_where { frames := 3, cells := 0, slots := 0, locals := 76 } 0 0 (mw cy ad mm ++ X) [.ref (ad 0), .int a, .int b, .int t] (fun r w' => ∃ m', w' = mw cy ad m' ++ X ∧ mKp mm m' ∧ m' 0 17 = bI (misB nl ns a b t) ∧ r = whV ns nl par mm a b t) := by
  refine vl_openi hl0 (by decide) rfl (Nat.le_of_ble_eq_true rfl) rfl ?_
  intro p e s m args below meth c C0 hr hnm
  generalize hA : va_A (mw cy ad mm ++ X) s.heap.size = A at C0 ⊢
  refine vl_lv (lv2 := [(0, .ref (ad 0)), (1, .int a), (2, .int b), (3, .int t)]) [0, 1, 2, 3] rfl ?_
  have hin : ∀ x ∈ u_ws RX4 TX4 18, x ∈ wsX4_where := by decide +kernel
  refine vl_aload_n C0 dX4_where_0 0 rfl ?_
  refine vl_iload_n C0 dX4_where_1 1 rfl ?_
  refine vl_iload_n C0 dX4_where_2 2 rfl ?_
  refine vl_iload_n C0 dX4_where_3 3 rfl ?_
  refine vl_calli C0 (vl_goV C0 (As := [.int a, .int b, .int t]) (na := 3) (b := ad 0) (st := []) (ci := 4) gX4_where_X4_misses rfl rfl rfl (by decide +kernel) ⟨Nat.le_of_ble_eq_true rfl, Nat.le_of_ble_eq_true rfl⟩ rfl ⟨0, _, rfl⟩ dX4_where_4 (Nat.le_of_ble_eq_true rfl) ⟨Nat.le_of_ble_eq_true rfl, Nat.le_of_ble_eq_true rfl⟩ rfl rfl) (c_X4_misses hl0 a b t e0 h8 e7 h1 h9) (k2 := 0) (n2 := 0) (Nat.le_of_ble_eq_true rfl) (Nat.le_of_ble_eq_true rfl) (fun r9 w9 hp9 => ?_)
  obtain ⟨rfl, rfl⟩ := hp9
  refine vl_if_eq (tgt := 12) C0 dX4_where_7 (by decide) (fun (h7 : (bI (misB nl ns a b t) : Int32) = (0 : Int32)) => ?_) (fun (h7 : ¬ (bI (misB nl ns a b t) : Int32) = (0 : Int32)) => ?_)
  · have g7 := bI_0.mp h7
    obtain ⟨ga, gb, gt⟩ := misB_f g7
    obtain ⟨ja, hja, rfl⟩ := inB_nI h1 (by omega) ga
    obtain ⟨jb, hjb, rfl⟩ := inB_nS h8 gb
    obtain ⟨jt, hjt, rfl⟩ := inB_k gt (by decide) (n := 30) (by decide)
    refine vl_aload_n C0 dX4_where_12 0 rfl ?_
    refine vl_iload_n C0 dX4_where_13 1 rfl ?_
    refine vl_iload_n C0 dX4_where_14 3 rfl ?_
    refine vl_callv C0 (vl_goV C0 (As := [.int (nI ja), .int (nI jt)]) (na := 2) (b := ad 0) (st := []) (ci := 4) gX4_where_X4_plays rfl rfl rfl (by decide +kernel) ⟨Nat.le_of_ble_eq_true rfl, Nat.le_of_ble_eq_true rfl⟩ rfl ⟨0, _, rfl⟩ dX4_where_15 (Nat.le_of_ble_eq_true rfl) ⟨Nat.le_of_ble_eq_true rfl, Nat.le_of_ble_eq_true rfl⟩ rfl rfl) (c_X4_plays hl0 ja jt (ns := ns) (nl := nl) (par := par) e0 h8 ht h9 (hja) (hjt) (fun t9 h9t => hcode ja t9 hja h9t)) (k2 := 0) (n2 := 0) (Nat.le_of_ble_eq_true rfl) (Nat.le_of_ble_eq_true rfl) (fun w9 hp9 => ?_)
    obtain ⟨m1, rfl, hf1, hq1⟩ := hp9
    refine vl_aload_n C0 dX4_where_18 0 rfl ?_
    refine rm_get C0 hin 13 (by decide) (by decide +kernel) rfl dX4_where_19 ?_
    refine vl_iload_n C0 dX4_where_22 2 rfl ?_
    refine rm_iald C0 13 10 8 rfl (vp_in_nI (show jb < 8 by omega) (by decide)) (kn := jb) (nI_clamp (by omega)) (v := (plyM ns par mm ja (jt + 1)).1 jb) (hq1.1 jb hjb) dX4_where_23 ?_
    exact vl_iret C0 hA.symm hr ⟨_, rfl, (mKp.t _).tr hf1.kp, hf1.2 17 (by decide) (by decide), by rw [whV, if_neg (by rw [g7]; decide), nI_clamp (show ja < 2 ^ 31 by omega), nI_clamp (show jb < 2 ^ 31 by omega), nI_clamp (show jt < 2 ^ 31 by omega)]⟩ (Nat.le_of_ble_eq_true rfl) (Nat.le_of_ble_eq_true rfl) dX4_where_24
  · have g7 := bI_n.mp h7
    refine vl_iconst (v := 0) C0 dX4_where_10 (by decide) ?_
    exact vl_iret C0 hA.symm hr ⟨_, rfl, mKp.t _, rfl, by simp [whV, g7]⟩ (Nat.le_of_ble_eq_true rfl) (Nat.le_of_ble_eq_true rfl) dX4_where_11
set_option maxHeartbeats 4000000 in
set_option maxRecDepth 100000 in
theorem c_X4_cargo {l : Launch} {D : va_G} {cy : Nat → ClassId} {ad : Nat → Nat} {mm : Nat → Nat → Int32} {X : va_W} {ns nl : Nat} {par : Nat → Option Nat} (hl0 : l.stackTraces = false) (a b t : Int32) (e0 : mm 0 0 = nI ns) (h8 : ns ≤ 8) (e7 : mm 0 7 = nI nl) (h1 : 1 ≤ nl) (h9 : nl ≤ 9) (ht : mTree nl par mm) (hcode : ∀ j t, j < nl → t < 30 → codeOK ns (ordX (mm 11) par t (some j))) : vl_Ki l D cy yX4_cargo wsX4_cargo { frames := 3, cells := 0, slots := 0, locals := 76 } 0 0 (mw cy ad mm ++ X) [.ref (ad 0), .int a, .int b, .int t] (fun r w' => ∃ m', w' = mw cy ad m' ++ X ∧ mKp mm m' ∧ m' 0 17 = bI (misB nl ns a b t) ∧ r = cgV ns nl par mm a b t) := by
  refine vl_openi hl0 (by decide) rfl (Nat.le_of_ble_eq_true rfl) rfl ?_
  intro p e s m args below meth c C0 hr hnm
  generalize hA : va_A (mw cy ad mm ++ X) s.heap.size = A at C0 ⊢
  refine vl_lv (lv2 := [(0, .ref (ad 0)), (1, .int a), (2, .int b), (3, .int t)]) [0, 1, 2, 3] rfl ?_
  have hin : ∀ x ∈ u_ws RX4 TX4 18, x ∈ wsX4_cargo := by decide +kernel
  refine vl_aload_n C0 dX4_cargo_0 0 rfl ?_
  refine vl_iload_n C0 dX4_cargo_1 1 rfl ?_
  refine vl_iload_n C0 dX4_cargo_2 2 rfl ?_
  refine vl_iload_n C0 dX4_cargo_3 3 rfl ?_
  refine vl_calli C0 (vl_goV C0 (As := [.int a, .int b, .int t]) (na := 3) (b := ad 0) (st := []) (ci := 4) gX4_cargo_X4_misses rfl rfl rfl (by decide +kernel) ⟨Nat.le_of_ble_eq_true rfl, Nat.le_of_ble_eq_true rfl⟩ rfl ⟨0, _, rfl⟩ dX4_cargo_4 (Nat.le_of_ble_eq_true rfl) ⟨Nat.le_of_ble_eq_true rfl, Nat.le_of_ble_eq_true rfl⟩ rfl rfl) (c_X4_misses hl0 a b t e0 h8 e7 h1 h9) (k2 := 0) (n2 := 0) (Nat.le_of_ble_eq_true rfl) (Nat.le_of_ble_eq_true rfl) (fun r9 w9 hp9 => ?_)
  obtain ⟨rfl, rfl⟩ := hp9
  refine vl_if_eq (tgt := 12) C0 dX4_cargo_7 (by decide) (fun (h7 : (bI (misB nl ns a b t) : Int32) = (0 : Int32)) => ?_) (fun (h7 : ¬ (bI (misB nl ns a b t) : Int32) = (0 : Int32)) => ?_)
  · have g7 := bI_0.mp h7
    obtain ⟨ga, gb, gt⟩ := misB_f g7
    obtain ⟨ja, hja, rfl⟩ := inB_nI h1 (by omega) ga
    obtain ⟨jb, hjb, rfl⟩ := inB_nS h8 gb
    obtain ⟨jt, hjt, rfl⟩ := inB_k gt (by decide) (n := 30) (by decide)
    refine vl_aload_n C0 dX4_cargo_12 0 rfl ?_
    refine vl_iload_n C0 dX4_cargo_13 1 rfl ?_
    refine vl_iload_n C0 dX4_cargo_14 3 rfl ?_
    refine vl_callv C0 (vl_goV C0 (As := [.int (nI ja), .int (nI jt)]) (na := 2) (b := ad 0) (st := []) (ci := 4) gX4_cargo_X4_plays rfl rfl rfl (by decide +kernel) ⟨Nat.le_of_ble_eq_true rfl, Nat.le_of_ble_eq_true rfl⟩ rfl ⟨0, _, rfl⟩ dX4_cargo_15 (Nat.le_of_ble_eq_true rfl) ⟨Nat.le_of_ble_eq_true rfl, Nat.le_of_ble_eq_true rfl⟩ rfl rfl) (c_X4_plays hl0 ja jt (ns := ns) (nl := nl) (par := par) e0 h8 ht h9 (hja) (hjt) (fun t9 h9t => hcode ja t9 hja h9t)) (k2 := 0) (n2 := 0) (Nat.le_of_ble_eq_true rfl) (Nat.le_of_ble_eq_true rfl) (fun w9 hp9 => ?_)
    obtain ⟨m1, rfl, hf1, hq1⟩ := hp9
    refine vl_aload_n C0 dX4_cargo_18 0 rfl ?_
    refine rm_get C0 hin 14 (by decide) (by decide +kernel) rfl dX4_cargo_19 ?_
    refine vl_iload_n C0 dX4_cargo_22 2 rfl ?_
    refine rm_iald C0 14 11 8 rfl (vp_in_nI (show jb < 8 by omega) (by decide)) (kn := jb) (nI_clamp (by omega)) (v := (plyM ns par mm ja (jt + 1)).2.1 jb) (hq1.2.1 jb hjb) dX4_cargo_23 ?_
    exact vl_iret C0 hA.symm hr ⟨_, rfl, (mKp.t _).tr hf1.kp, hf1.2 17 (by decide) (by decide), by rw [cgV, if_neg (by rw [g7]; decide), nI_clamp (show ja < 2 ^ 31 by omega), nI_clamp (show jb < 2 ^ 31 by omega), nI_clamp (show jt < 2 ^ 31 by omega)]⟩ (Nat.le_of_ble_eq_true rfl) (Nat.le_of_ble_eq_true rfl) dX4_cargo_24
  · have g7 := bI_n.mp h7
    refine vl_iconst (v := 0) C0 dX4_cargo_10 (by decide) ?_
    exact vl_iret C0 hA.symm hr ⟨_, rfl, mKp.t _, rfl, by simp [cgV, g7]⟩ (Nat.le_of_ble_eq_true rfl) (Nat.le_of_ble_eq_true rfl) dX4_cargo_11
set_option maxHeartbeats 4000000 in
set_option maxRecDepth 100000 in
theorem c_X4_failures {l : Launch} {D : va_G} {cy : Nat → ClassId} {ad : Nat → Nat} {mm : Nat → Nat → Int32} {X : va_W} {ns nl : Nat} {par : Nat → Option Nat} (hl0 : l.stackTraces = false) (a : Int32) (e0 : mm 0 0 = nI ns) (h8 : ns ≤ 8) (e7 : mm 0 7 = nI nl) (h1 : 1 ≤ nl) (h9 : nl ≤ 9) (ht : mTree nl par mm) (hcode : ∀ j t, j < nl → t < 30 → codeOK ns (ordX (mm 11) par t (some j))) : vl_Ki l D cy yX4_failures wsX4_failures { frames := 3, cells := 0, slots := 0, locals := 76 } 0 0 (mw cy ad mm ++ X) [.ref (ad 0), .int a] (fun r w' => ∃ m', w' = mw cy ad m' ++ X ∧ mKp mm m' ∧ m' 0 17 = bI (!inB a 0 (nI nl - 1)) ∧ r = faV ns nl par mm a) := by
  refine vl_openi hl0 (by decide) rfl (Nat.le_of_ble_eq_true rfl) rfl ?_
  intro p e s m args below meth c C0 hr hnm
  generalize hA : va_A (mw cy ad mm ++ X) s.heap.size = A at C0 ⊢
  refine vl_lv (lv2 := [(0, .ref (ad 0)), (1, .int a)]) [0, 1] rfl ?_
  have hin : ∀ x ∈ u_ws RX4 TX4 18, x ∈ wsX4_failures := by decide +kernel
  refine vl_aload_n C0 dX4_failures_0 0 rfl ?_
  refine vl_aload_n C0 dX4_failures_1 0 rfl ?_
  refine vl_iload_n C0 dX4_failures_2 1 rfl ?_
  refine vl_calli C0 (vl_goV C0 (As := [.int a]) (na := 1) (b := ad 0) (st := [.ref (ad 0)]) (ci := 4) gX4_failures_X4_isLine rfl rfl rfl (by decide +kernel) ⟨Nat.le_of_ble_eq_true rfl, Nat.le_of_ble_eq_true rfl⟩ rfl ⟨0, _, rfl⟩ dX4_failures_3 (Nat.le_of_ble_eq_true rfl) ⟨Nat.le_of_ble_eq_true rfl, Nat.le_of_ble_eq_true rfl⟩ rfl rfl) (c_X4_isLine hl0 a) (k2 := 0) (n2 := 0) (Nat.le_of_ble_eq_true rfl) (Nat.le_of_ble_eq_true rfl) (fun r9 w9 hp9 => ?_)
  obtain ⟨rfl, rfl⟩ := hp9
  rw [e7]
  refine vl_if_eq (tgt := 13) C0 dX4_failures_6 (by decide) (fun (h6 : (bI (inB a 0 (nI nl - 1)) : Int32) = (0 : Int32)) => ?_) (fun (h6 : ¬ (bI (inB a 0 (nI nl - 1)) : Int32) = (0 : Int32)) => ?_)
  · have g6 := bI_0.mp h6
    refine vl_iconst (v := 1) C0 dX4_failures_13 (by decide) ?_
    refine vl_calli C0 (vl_goV C0 (As := [.int 1]) (na := 1) (b := ad 0) (st := []) (ci := 4) gX4_failures_X4_fails rfl rfl rfl (by decide +kernel) ⟨Nat.le_of_ble_eq_true rfl, Nat.le_of_ble_eq_true rfl⟩ rfl ⟨0, _, rfl⟩ dX4_failures_14 (Nat.le_of_ble_eq_true rfl) ⟨Nat.le_of_ble_eq_true rfl, Nat.le_of_ble_eq_true rfl⟩ rfl rfl) (c_X4_fails hl0 1) (k2 := 0) (n2 := 0) (Nat.le_of_ble_eq_true rfl) (Nat.le_of_ble_eq_true rfl) (fun r9 w9 hp9 => ?_)
    obtain ⟨hr9, rfl⟩ := hp9
    have hr9 : r9 = 1 := hr9.trans (by decide)
    subst hr9
    refine vl_if_eq (tgt := 22) C0 dX4_failures_17 (by decide) (fun (h17 : (1 : Int32) = (0 : Int32)) => absurd h17 (by decide)) (fun (h17 : ¬ (1 : Int32) = (0 : Int32)) => ?_)
    refine vl_iconst (v := 0) C0 dX4_failures_20 (by decide) ?_
    exact vl_iret C0 hA.symm hr ⟨_, rfl, mKp.t _, by simp [up2_same, g6]; rfl, by simp [faV, g6]⟩ (Nat.le_of_ble_eq_true rfl) (Nat.le_of_ble_eq_true rfl) dX4_failures_21
  · have g6 := bI_n.mp h6
    obtain ⟨ja, hja, rfl⟩ := inB_nI h1 (by omega) g6
    refine vl_iconst (v := 0) C0 dX4_failures_9 (by decide) ?_
    refine vl_goto (tgt := 14) C0 dX4_failures_10 (by decide) ?_
    refine vl_calli C0 (vl_goV C0 (As := [.int 0]) (na := 1) (b := ad 0) (st := []) (ci := 4) gX4_failures_X4_fails rfl rfl rfl (by decide +kernel) ⟨Nat.le_of_ble_eq_true rfl, Nat.le_of_ble_eq_true rfl⟩ rfl ⟨0, _, rfl⟩ dX4_failures_14 (Nat.le_of_ble_eq_true rfl) ⟨Nat.le_of_ble_eq_true rfl, Nat.le_of_ble_eq_true rfl⟩ rfl rfl) (c_X4_fails hl0 0) (k2 := 0) (n2 := 0) (Nat.le_of_ble_eq_true rfl) (Nat.le_of_ble_eq_true rfl) (fun r9 w9 hp9 => ?_)
    obtain ⟨hr9, rfl⟩ := hp9
    have hr9 : r9 = 0 := hr9.trans (by decide)
    subst hr9
    refine vl_if_eq (tgt := 22) C0 dX4_failures_17 (by decide) (fun (h17 : (0 : Int32) = (0 : Int32)) => ?_) (fun (h17 : ¬ (0 : Int32) = (0 : Int32)) => absurd h17 (by decide))
    refine vl_aload_n C0 dX4_failures_22 0 rfl ?_
    refine vl_iload_n C0 dX4_failures_23 1 rfl ?_
    refine vl_bipush (v := 29) C0 dX4_failures_24 (by decide) ?_
    refine vl_callv C0 (vl_goV C0 (As := [.int (nI ja), .int 29]) (na := 2) (b := ad 0) (st := []) (ci := 4) gX4_failures_X4_plays rfl rfl rfl (by decide +kernel) ⟨Nat.le_of_ble_eq_true rfl, Nat.le_of_ble_eq_true rfl⟩ rfl ⟨0, _, rfl⟩ dX4_failures_26 (Nat.le_of_ble_eq_true rfl) ⟨Nat.le_of_ble_eq_true rfl, Nat.le_of_ble_eq_true rfl⟩ rfl rfl) (c_X4_plays hl0 ja 29 (ns := ns) (nl := nl) (par := par) e0 h8 ht h9 (hja) (by decide) (fun t9 h9t => hcode ja t9 hja h9t)) (k2 := 0) (n2 := 0) (Nat.le_of_ble_eq_true rfl) (Nat.le_of_ble_eq_true rfl) (fun w9 hp9 => ?_)
    obtain ⟨m1, rfl, hf1, hq1⟩ := hp9
    refine vl_aload_n C0 dX4_failures_29 0 rfl ?_
    refine rm_get C0 hin 16 (by decide) (by decide +kernel) (v := .int ((plyM ns par mm ja 30).2.2.2)) (congrArg (fun z => some (Value.int z)) hq1.2.2.2) dX4_failures_30 ?_
    exact vl_iret C0 hA.symm hr ⟨_, rfl, (mKp.t _).tr hf1.kp, (hf1.2 17 (by decide) (by decide)).trans (by simp [up2_same, g6]; rfl), by rw [faV, if_neg (by rw [g6]; decide), nI_clamp (show ja < 2 ^ 31 by omega)]⟩ (Nat.le_of_ble_eq_true rfl) (Nat.le_of_ble_eq_true rfl) dX4_failures_33
end VM10
