section VM6
theorem vl_loop {p : Program} {l : Launch} {e : Env} {R : Room} {s : State} {m : MethodId} {args : Array Value} {below : List Frame} {meth : Method} {c : Code} {Q : State → Prop} {D : va_G} {A : Nat → Prop} {nL : Nat} {k n : Nat} {pc : Nat} {st : List Value} {σ : Type} (w : σ → va_W) (lv : σ → List (Nat × Value)) (I : σ → Prop) (μ : σ → Nat) (hstep : ∀ x : σ, I x → (∀ y : σ, I y → μ y < μ x → vl_V p l e R s m args below meth c Q D A nL (w y) k n (lv y) pc st) → vl_V p l e R s m args below meth c Q D A nL (w x) k n (lv x) pc st) (x : σ) (hx : I x) : vl_V p l e R s m args below meth c Q D A nL (w x) k n (lv x) pc st := by
  have key : ∀ (N : Nat) (x : σ), μ x < N → I x → vl_V p l e R s m args below meth c Q D A nL (w x) k n (lv x) pc st := by
    intro N
    induction N with
    | zero => intro x h; exact absurd h (Nat.not_lt_zero _)
    | succ N ih => intro x h hx; exact hstep x hx (fun y hy hlt => ih y (by omega) hy)
  exact key (μ x + 1) x (by omega) hx
def vI (x : Option Nat) : Int32 := match x with
  | none => -1
  | some p => nI p
theorem nI_m1 {q : Nat} (h : q < 2 ^ 31) : ¬ nI q = -1 := fun e => by
  have h1 := nI_toInt h
  rw [e] at h1
  have h2 : (-1 : Int32).toInt = -1 := by decide
  omega
theorem ordA_fuel {o : Nat → Int32} {par : Nat → Option Nat} {t : Nat} (hlt : ∀ i p, par i = some p → p < i) : ∀ (f : Nat) (x : Option Nat), (∀ q, x = some q → q + 1 ≤ f) → ordA o par t f x = ordA o par t (f + 1) x := by
  intro f
  induction f with
  | zero =>
    intro x h
    cases x with
    | none => rfl
    | some q => exact absurd (h q rfl) (by omega)
  | succ f ih =>
    intro x h
    cases x with
    | none => rfl
    | some q =>
      rw [ordA, ordA, ih (par q) (fun r hr => by have := hlt q r hr; have := h q rfl; omega)]
def ordX (o : Nat → Int32) (par : Nat → Option Nat) (t : Nat) (x : Option Nat) : Int32 := ordA o par t 10 x
theorem ordX_none {o : Nat → Int32} {par : Nat → Option Nat} {t : Nat} : ordX o par t none = 0 := rfl
theorem ordX_own {o : Nat → Int32} {par : Nat → Option Nat} {t q : Nat} (h : ¬ o (30 * q + t) = -1) : ordX o par t (some q) = o (30 * q + t) := by simp [ordX, ordA, h]
theorem ordX_up {o : Nat → Int32} {par : Nat → Option Nat} {t q : Nat} (hlt : ∀ i p, par i = some p → p < i) (hq : q ≤ 9) (h : o (30 * q + t) = -1) : ordX o par t (some q) = ordX o par t (par q) := by
  unfold ordX
  rw [show ordA o par t 10 (some q) = ordA o par t 9 (par q) by simp [ordA, h]]
  exact ordA_fuel hlt 9 (par q) (fun r hr => by have := hlt q r hr; omega)
def aheadP (m : Nat → Nat → Int32) (j : Nat) : Nat → Bool := fun k => decide (¬ m 12 (30 * j + k) = 0)
def aheadI (m : Nat → Nat → Int32) (j : Nat) : Int32 := bset (aheadP m j) 30
/-- the reference's rows of lines are the tree par -/
def mTree (nl : Nat) (par : Nat → Option Nat) (m : Nat → Nat → Int32) : Prop := (∀ i p, par i = some p → p < i) ∧ ∀ i, i < nl → m 8 i = vI (par i)
theorem bset_t {P : Nat → Bool} {k : Nat} (h : P k = true) : bset P k ||| 1 <<< (nI k &&& 31) = bset P (k + 1) := by simp [bset, h]
theorem bset_f {P : Nat → Bool} {k : Nat} (h : P k = false) : bset P k ||| 0 = bset P (k + 1) := by simp [bset, h]
set_option maxHeartbeats 4000000 in
set_option maxRecDepth 100000 in
theorem c_X4_aheadOf {l : Launch} {D : va_G} {cy : Nat → ClassId} {ad : Nat → Nat} {mm : Nat → Nat → Int32} {X : va_W} (hl0 : l.stackTraces = false) (j : Nat) (hj : j < 9) : vl_Ki l D cy yX4_aheadOf wsX4_aheadOf { frames := 0, cells := 0, slots := 0, locals := 0 } 0 0 (mw cy ad mm ++ X) [.ref (ad 0), .int (nI j)] (fun r w' => r = aheadI mm j ∧ w' = mw cy ad mm ++ X) := by
  refine vl_openi hl0 (by decide) rfl (Nat.le_of_ble_eq_true rfl) rfl ?_
  intro p e s m args below meth c C0 hr hnm
  generalize hA : va_A (mw cy ad mm ++ X) s.heap.size = A at C0 ⊢
  refine vl_lv (lv2 := [(0, .ref (ad 0)), (1, .int (nI j))]) [0, 1] rfl ?_
  have hin : ∀ x ∈ u_ws RX4 TX4 18, x ∈ wsX4_aheadOf := by decide +kernel
  refine vl_iconst (v := 0) C0 dX4_aheadOf_0 (by decide) ?_
  refine vl_istore_n (lv' := [(0, .ref (ad 0)), (1, .int (nI j)), (2, .int 0)]) C0 dX4_aheadOf_1 [1, 2, 0] (by decide) rfl ?_
  refine vl_iconst (v := 0) C0 dX4_aheadOf_2 (by decide) ?_
  refine vl_istore_n (lv' := [(0, .ref (ad 0)), (1, .int (nI j)), (2, .int 0), (3, .int 0)]) C0 dX4_aheadOf_3 [1, 2, 3, 0] (by decide) rfl ?_
  refine vl_loop (σ := Nat) (fun _ => mw cy ad mm ++ X) (fun k => [(0, .ref (ad 0)), (1, .int (nI j)), (2, .int (bset (aheadP mm j) k)), (3, .int (nI k))]) (fun k => k ≤ 30) (fun k => 30 - k) ?_ 0 (by decide)
  intro k hk ih
  refine vl_iload_n C0 dX4_aheadOf_4 3 rfl ?_
  refine vl_bipush (v := 30) C0 dX4_aheadOf_5 (by decide) ?_
  refine vl_icmp_ge (tgt := 40) C0 dX4_aheadOf_7 (by decide) (fun (h7 : (30 : Int32) ≤ (nI k : Int32)) => ?_) (fun (h7 : ¬ (30 : Int32) ≤ (nI k : Int32)) => ?_)
  · have hk30 : k = 30 := by have z : ¬ k < 30 := fun q => absurd h7 (nI_ge q (by decide)); omega
    refine vl_iload_n C0 dX4_aheadOf_40 2 rfl ?_
    exact vl_iret C0 hA.symm hr ⟨by rw [hk30]; rfl, rfl⟩ (Nat.le_of_ble_eq_true rfl) (Nat.le_of_ble_eq_true rfl) dX4_aheadOf_41
  · have hk30 : k < 30 := by have z : ¬ k = 30 := fun q => h7 (by rw [q]; exact nI_le (Nat.le_refl _) (by decide)); omega
    refine vl_iload_n C0 dX4_aheadOf_10 2 rfl ?_
    refine vl_aload_n C0 dX4_aheadOf_11 0 rfl ?_
    refine rm_get C0 hin 12 (by decide) (by decide +kernel) rfl dX4_aheadOf_12 ?_
    refine vl_bipush (v := 30) C0 dX4_aheadOf_15 (by decide) ?_
    refine vl_iload_n C0 dX4_aheadOf_17 1 rfl ?_
    refine vl_imul C0 dX4_aheadOf_18 ?_
    refine vl_iload_n C0 dX4_aheadOf_19 3 rfl ?_
    refine vl_iadd C0 dX4_aheadOf_20 ?_
    rw [nI_pl]
    refine rm_zald C0 (vp_in_nI (by omega) (by decide)) (kn := (30 * j + k)) (nI_clamp (by omega)) dX4_aheadOf_21 ?_
    refine vl_if_eq (tgt := 31) C0 dX4_aheadOf_22 (by decide) (fun (h22 : (mm 12 (30 * j + k) : Int32) = (0 : Int32)) => ?_) (fun (h22 : ¬ (mm 12 (30 * j + k) : Int32) = (0 : Int32)) => ?_)
    · refine vl_iconst (v := 0) C0 dX4_aheadOf_31 (by decide) ?_
      refine vl_ior C0 dX4_aheadOf_32 ?_
      rw [bset_f (P := aheadP mm j) (k := k) (by simp [aheadP, h22])]
      refine vl_istore_n (lv' := [(0, .ref (ad 0)), (1, .int (nI j)), (2, .int (bset (aheadP mm j) (k + 1))), (3, .int (nI k))]) C0 dX4_aheadOf_33 [1, 2, 0, 3] (by decide) rfl ?_
      refine vl_iinc (v := nI (k + 1)) (lv' := [(0, .ref (ad 0)), (1, .int (nI j)), (2, .int (bset (aheadP mm j) (k + 1))), (3, .int (nI (k + 1)))]) C0 dX4_aheadOf_34 3 rfl (nI_1 k) [1, 2, 3, 0] (by decide) rfl ?_
      refine vl_goto (tgt := 4) C0 dX4_aheadOf_37 (by decide) ?_
      exact ih (k + 1) (by omega) (by omega)
    · refine vl_iconst (v := 1) C0 dX4_aheadOf_25 (by decide) ?_
      refine vl_iload_n C0 dX4_aheadOf_26 3 rfl ?_
      refine vl_ishl C0 dX4_aheadOf_27 ?_
      refine vl_goto (tgt := 32) C0 dX4_aheadOf_28 (by decide) ?_
      refine vl_ior C0 dX4_aheadOf_32 ?_
      rw [bset_t (P := aheadP mm j) (k := k) (by simp [aheadP, h22])]
      refine vl_istore_n (lv' := [(0, .ref (ad 0)), (1, .int (nI j)), (2, .int (bset (aheadP mm j) (k + 1))), (3, .int (nI k))]) C0 dX4_aheadOf_33 [1, 2, 0, 3] (by decide) rfl ?_
      refine vl_iinc (v := nI (k + 1)) (lv' := [(0, .ref (ad 0)), (1, .int (nI j)), (2, .int (bset (aheadP mm j) (k + 1))), (3, .int (nI (k + 1)))]) C0 dX4_aheadOf_34 3 rfl (nI_1 k) [1, 2, 3, 0] (by decide) rfl ?_
      refine vl_goto (tgt := 4) C0 dX4_aheadOf_37 (by decide) ?_
      exact ih (k + 1) (by omega) (by omega)
end VM6
