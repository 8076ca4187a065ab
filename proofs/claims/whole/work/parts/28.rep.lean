/-! BITS; THE CLASS'S WORLD BESIDE THE REFERENCE'S STATE -/
section RP
variable {p : Program} {l : Launch} {e : Env} {R : Room} {s : State} {m : MethodId} {args : Array Value} {below : List Frame} {meth : Method} {c : Code} {Q : State → Prop} {D : va_G} {A : Nat → Prop} {nL : Nat} {w : va_W} {k n : Nat} {lv : List (Nat × Value)} {pc : Nat} {st : List Value}
variable {cc : ByteArray} {Ts : List Cond} {own : String} {cy : Nat → ClassId}
theorem vl_min (C0 : vl_C l p m meth c cc nL s args Ts own D cy A) {index : Nat} {x y : Int32} (h1 : Cond.methodLink own index Lib.Math.min.name ∈ Ts) (h2 : Cond.static Lib.Math.min.name ∈ Ts) (h3 : Cond.initialized "java/lang/Math" ∈ Ts) (h4 : Cond.code Lib.Math.min.name Lib.Math.min.code 2 (some .int) ∈ Ts) (hF : 1 ≤ R.frames) (hL : (st.map fun v => v.category).sum + 13 ≤ R.locals) (hk : k ≤ R.cells) (hn : n ≤ R.slots) (hdg : decode cc pc = .ok (.invokestatic index, 3)) (kk : vl_V p l e R s m args below meth c Q D A nL w k n lv (pc + 3) (.int (if y < x then y else x) :: st)) : vl_V p l e R s m args below meth c Q D A nL w k n lv pc (.int y :: .int x :: st) := fun H locs ls hP hD hS hl => va_mmin C0.1.1 C0.1.2.1 (C0.1.2.2.1.trans hl.1.symm) C0.1.2.2.2.1 (C0.1.2.2.2.2 _ h1) (C0.1.2.2.2.2 _ h2) (C0.1.2.2.2.2 _ h3) (C0.1.2.2.2.2 _ h4) hF hL hk hn hdg (kk H locs ls hP hD hS hl)
theorem vl_max (C0 : vl_C l p m meth c cc nL s args Ts own D cy A) {index : Nat} {x y : Int32} (h1 : Cond.methodLink own index Lib.Math.max.name ∈ Ts) (h2 : Cond.static Lib.Math.max.name ∈ Ts) (h3 : Cond.initialized "java/lang/Math" ∈ Ts) (h4 : Cond.code Lib.Math.max.name Lib.Math.max.code 2 (some .int) ∈ Ts) (hF : 1 ≤ R.frames) (hL : (st.map fun v => v.category).sum + 13 ≤ R.locals) (hk : k ≤ R.cells) (hn : n ≤ R.slots) (hdg : decode cc pc = .ok (.invokestatic index, 3)) (kk : vl_V p l e R s m args below meth c Q D A nL w k n lv (pc + 3) (.int (if x < y then y else x) :: st)) : vl_V p l e R s m args below meth c Q D A nL w k n lv pc (.int y :: .int x :: st) := fun H locs ls hP hD hS hl => va_mmax C0.1.1 C0.1.2.1 (C0.1.2.2.1.trans hl.1.symm) C0.1.2.2.2.1 (C0.1.2.2.2.2 _ h1) (C0.1.2.2.2.2 _ h2) (C0.1.2.2.2.2 _ h3) (C0.1.2.2.2.2 _ h4) hF hL hk hn hdg (kk H locs ls hP hD hS hl)
end RP
section BT
def tb (x : Int32) (i : Nat) : Bool := x.toBitVec.getLsbD i
theorem tb_ext {x y : Int32} (h : ∀ i, i < 32 → tb x i = tb y i) : x = y := Int32.toBitVec_inj.mp (BitVec.eq_of_getLsbD_eq fun i hi => h i hi)
theorem tb_or (x y : Int32) (i : Nat) : tb (x ||| y) i = (tb x i || tb y i) := by simp [tb]
theorem tb_and (x y : Int32) (i : Nat) : tb (x &&& y) i = (tb x i && tb y i) := by simp [tb]
theorem tb_xor (x y : Int32) (i : Nat) : tb (x ^^^ y) i = (tb x i ^^ tb y i) := by simp [tb]
theorem tb_0 (i : Nat) : tb 0 i = false := by simp [tb]
theorem tb_m1 {i : Nat} (h : i < 32) : tb (-1) i = true := (show ∀ i, i < 32 → tb (-1) i = true by decide +kernel) i h
theorem tb_1 {t i : Nat} (ht : t < 32) (hi : i < 32) : tb (1 <<< (nI t &&& 31)) i = decide (i = t) := (show ∀ t, t < 32 → ∀ i, i < 32 → tb (1 <<< (nI t &&& 31)) i = decide (i = t) by decide +kernel) t ht i hi
theorem tb_bset {P : Nat → Bool} : ∀ n : Nat, n ≤ 32 → ∀ i, i < 32 → tb (bset P n) i = (decide (i < n) && P i) := by
  intro n
  induction n with
  | zero => intro _ i _; simp [bset, tb_0]
  | succ n ih =>
    intro hn i hi
    rw [bset, tb_or, ih (by omega) i hi]
    by_cases hP : P n = true
    · rw [if_pos hP, tb_1 (by omega) hi]
      by_cases h : i = n
      · subst h; simp [hP]
      · have h2 : (decide (i < n + 1) : Bool) = decide (i < n) := by
          by_cases h3 : i < n
          · simp [h3]; omega
          · simp [h3]; omega
        simp [h, h2]
    · have hP : P n = false := by simpa using hP
      rw [hP]
      simp only [Bool.false_eq_true, if_false, tb_0, Bool.or_false]
      by_cases h : i = n
      · subst h; simp [hP]
      · have h2 : (decide (i < n + 1) : Bool) = decide (i < n) := by
          by_cases h3 : i < n
          · simp [h3]; omega
          · simp [h3]; omega
        rw [h2]
/-- a turn of a set -/
theorem bset_has {P : Nat → Bool} {t : Nat} (ht : t < 30) : (¬ bset P 30 &&& 1 <<< (nI t &&& 31) = 0) ↔ P t = true := by
  constructor
  · intro h
    by_cases hp : P t = true
    · exact hp
    · refine absurd (tb_ext fun i hi => ?_) h
      rw [tb_and, tb_bset 30 (by omega) i hi, tb_1 (by omega) hi, tb_0]
      by_cases hi2 : i = t
      · subst hi2; simp [hp]
      · simp [hi2]
  · intro hp h
    have h2 : tb (bset P 30 &&& 1 <<< (nI t &&& 31)) t = tb 0 t := by rw [h]
    rw [tb_and, tb_bset 30 (by omega) t (by omega), tb_1 (by omega) (by omega), tb_0] at h2
    simp [hp, ht] at h2
theorem bset_add {P P' : Nat → Bool} {t : Nat} (ht : t < 30) (h : ∀ i, i < 30 → P' i = (decide (i = t) || P i)) : bset P 30 ||| 1 <<< (nI t &&& 31) = bset P' 30 := tb_ext fun i hi => by
  rw [tb_or, tb_bset 30 (by omega) i hi, tb_bset 30 (by omega) i hi, tb_1 (by omega) hi]
  by_cases h3 : i < 30
  · rw [h i h3]; simp only [h3, decide_true, Bool.true_and, Bool.or_comm]
  · have : ¬ i = t := by omega
    simp [h3, this]
theorem bset_del {P P' : Nat → Bool} {t : Nat} (ht : t < 30) (h : ∀ i, i < 30 → P' i = (!decide (i = t) && P i)) : bset P 30 &&& (1 <<< (nI t &&& 31) ^^^ -1) = bset P' 30 := tb_ext fun i hi => by
  rw [tb_and, tb_xor, tb_bset 30 (by omega) i hi, tb_bset 30 (by omega) i hi, tb_1 (by omega) hi, tb_m1 hi]
  by_cases h3 : i < 30
  · rw [h i h3]; simp [h3, Bool.and_comm]
  · simp [h3]
theorem bset_c {P P' : Nat → Bool} : ∀ n : Nat, (∀ i, i < n → P i = P' i) → bset P n = bset P' n := by
  intro n
  induction n with
  | zero => intro _; rfl
  | succ n ih => intro h; rw [bset, bset, ih fun i hi => h i (by omega), h n (Nat.lt_succ_self n)]
/-- the turns for which a line has its own order -/
def ownP (o : Nat → Int32) (j : Nat) : Nat → Bool := fun k => decide (¬ o (30 * j + k) = -1)
/-- the class's lines are those of the reference -/
def rLn (nl : Nat) (mm : Nat → Nat → Int32) (d : Nat → Nat → Nat → Int32) : Prop := ∀ i, i < nl → d 5 i 1 = mm 9 i ∧ d 5 i 3 = bset (ownP (mm 11) i) 30 ∧ d 5 i 4 = aheadI mm i ∧ d 5 i 5 = mm 10 i ∧ ∀ t, t < 30 → ¬ mm 11 (30 * i + t) = -1 → d 6 i t = mm 11 (30 * i + t)
/-- its world too -/
def rWd (ns : Nat) (mm : Nat → Nat → Int32) (d : Nat → Nat → Nat → Int32) : Prop := d 1 0 1 = nI ns ∧ d 1 0 3 = mm 0 5 ∧ d 1 0 4 = mm 0 6 ∧ (∀ b, b < 3 → d 4 0 b = mm 4 b) ∧ ∀ i, i < ns → d 7 i 0 = mm 1 i ∧ d 7 i 1 = mm 2 i ∧ d 7 i 2 = mm 3 i
/-- all but what a play writes -/
def dFr (d d' : Nat → Nat → Nat → Int32) : Prop := (∀ a i, a ≠ 1 → a ≠ 7 → d' a i = d a i) ∧ (∀ i k, k ≠ 5 → k ≠ 6 → d' 1 i k = d 1 i k) ∧ ∀ i k, k ≠ 3 → k ≠ 4 → d' 7 i k = d 7 i k
theorem dFr.rf {d : Nat → Nat → Nat → Int32} : dFr d d := ⟨fun _ _ _ _ => rfl, fun _ _ _ _ => rfl, fun _ _ _ _ => rfl⟩
theorem dFr.tr {d d' d2 : Nat → Nat → Nat → Int32} (h : dFr d d') (h2 : dFr d' d2) : dFr d d2 := ⟨fun a i x y => (h2.1 a i x y).trans (h.1 a i x y), fun i k x y => (h2.2.1 i k x y).trans (h.2.1 i k x y), fun i k x y => (h2.2.2 i k x y).trans (h.2.2 i k x y)⟩
theorem up3_at (d : Nat → Nat → Nat → Int32) (a i k : Nat) (v : Int32) : up3 d a i k v a i = upd (d a i) k v := by simp [up3]
theorem up3_ne (d : Nat → Nat → Nat → Int32) {a i a' i' : Nat} (k : Nat) (v : Int32) (h : a' ≠ a ∨ i' ≠ i) : up3 d a i k v a' i' = d a' i' := by
  simp only [up3]
  rw [if_neg (by omega)]
theorem up3_k (d : Nat → Nat → Nat → Int32) {a i a' i' k k' : Nat} (v : Int32) (h : k' ≠ k) : up3 d a i k v a' i' k' = d a' i' k' := by
  simp only [up3]
  split
  · rename_i h2; simp [upd, h, h2.1, h2.2]
  · rfl
theorem up3_s (d : Nat → Nat → Nat → Int32) (a i k : Nat) (v : Int32) : up3 d a i k v a i k = v := by simp [up3, upd]
theorem dFr.up {d d' : Nat → Nat → Nat → Int32} (h : dFr d d') (a i k : Nat) (v : Int32) (hj : (a = 1 ∧ (k = 5 ∨ k = 6)) ∨ (a = 7 ∧ (k = 3 ∨ k = 4))) : dFr d (up3 d' a i k v) := by
  refine ⟨fun x y h1 h2 => ?_, fun y z h1 h2 => ?_, fun y z h1 h2 => ?_⟩
  · rw [up3_ne d' k v (by omega)]; exact h.1 x y h1 h2
  · rcases hj with ⟨rfl, hk⟩ | ⟨rfl, hk⟩
    · rw [up3_k d' v (by omega)]; exact h.2.1 y z h1 h2
    · rw [up3_ne d' k v (by omega)]; exact h.2.1 y z h1 h2
  · rcases hj with ⟨rfl, hk⟩ | ⟨rfl, hk⟩
    · rw [up3_ne d' k v (by omega)]; exact h.2.2 y z h1 h2
    · rw [up3_k d' v (by omega)]; exact h.2.2 y z h1 h2
theorem rLn_f {nl : Nat} {mm : Nat → Nat → Int32} {d d' : Nat → Nat → Nat → Int32} (h : rLn nl mm d) (hf : dFr d d') : rLn nl mm d' := fun i hi => by
  rw [hf.1 5 i (by decide) (by decide), hf.1 6 i (by decide) (by decide)]
  exact h i hi
theorem rWd_f {ns : Nat} {mm : Nat → Nat → Int32} {d d' : Nat → Nat → Nat → Int32} (h : rWd ns mm d) (hf : dFr d d') : rWd ns mm d' := by
  obtain ⟨h1, h2, h3, h4, h5⟩ := h
  refine ⟨(hf.2.1 0 1 (by decide) (by decide)).trans h1, (hf.2.1 0 3 (by decide) (by decide)).trans h2, (hf.2.1 0 4 (by decide) (by decide)).trans h3, fun b hb => (congrFun (hf.1 4 0 (by decide) (by decide)) b).trans (h4 b hb), fun i hi => ?_⟩
  obtain ⟨a1, a2, a3⟩ := h5 i hi
  exact ⟨(hf.2.2 i 0 (by decide) (by decide)).trans a1, (hf.2.2 i 1 (by decide) (by decide)).trans a2, (hf.2.2 i 2 (by decide) (by decide)).trans a3⟩
/-- the class's world tells the play S -/
def cPl (n : Nat) (d : Nat → Nat → Nat → Int32) (S : plS) : Prop := (∀ i, i < n → d 7 i 3 = S.1 i) ∧ (∀ i, i < n → d 7 i 4 = S.2.1 i) ∧ d 1 0 5 = S.2.2.1 ∧ d 1 0 6 = S.2.2.2
variable {nl ns : Nat} {Rl : List (Nat × Nat)}
theorem cR0 (h : cw_ok nl ns Rl) : (0, 0) ∈ Rl := (h.2 0 0).mpr (by omega)
theorem cR1 (h : cw_ok nl ns Rl) : (1, 0) ∈ Rl := (h.2 1 0).mpr (by omega)
theorem cR2 (h : cw_ok nl ns Rl) : (2, 0) ∈ Rl := (h.2 2 0).mpr (by omega)
theorem cR3 (h : cw_ok nl ns Rl) : (3, 0) ∈ Rl := (h.2 3 0).mpr (by omega)
theorem cR4 (h : cw_ok nl ns Rl) : (4, 0) ∈ Rl := (h.2 4 0).mpr (by omega)
theorem cR5 (h : cw_ok nl ns Rl) {i : Nat} (hi : i < nl) : (5, i) ∈ Rl := (h.2 5 i).mpr (by omega)
theorem cR6 (h : cw_ok nl ns Rl) {i : Nat} (hi : i < nl) : (6, i) ∈ Rl := (h.2 6 i).mpr (by omega)
theorem cR7 (h : cw_ok nl ns Rl) {i : Nat} (hi : i < ns) : (7, i) ∈ Rl := (h.2 7 i).mpr (by omega)
end BT
