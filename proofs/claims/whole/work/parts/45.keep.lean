/-! WHAT HOLDS BETWEEN TWO CALLS -/
section KP
def mOK (ns nl : Nat) (par : Nat → Option Nat) (mm : Nat → Nat → Int32) : Prop := (mm 0 0 = nI ns ∧ ns ≤ 8 ∧ mm 0 7 = nI nl ∧ 1 ≤ nl ∧ nl ≤ 9) ∧ mTree nl par mm ∧ (∀ j, j < nl → (par j = none ↔ j = 0)) ∧ (∀ j t, j < 9 → t < 30 → ¬ mm 11 (30 * j + t) = -1 → j < nl ∧ codeOK ns (mm 11 (30 * j + t))) ∧ (∀ j t, j < 9 → t < 30 → ¬ mm 12 (30 * j + t) = 0 → 0 < j ∧ ¬ mm 11 (30 * j + t) = -1 ∧ nI t < mm 10 j) ∧ (∀ q, q < ns → 0 ≤ mm 3 q) ∧ ∀ b, b < 3 → 0 ≤ mm 4 b
theorem ordA_ok {ns nl : Nat} {par : Nat → Option Nat} {o : Nat → Int32} {t : Nat} (ht : t < 30) (hp : ∀ i p, par i = some p → p < i) (h9 : nl ≤ 9) (h : ∀ j, j < 9 → ¬ o (30 * j + t) = -1 → codeOK ns (o (30 * j + t))) : ∀ (f : Nat) (x : Option Nat), (∀ q, x = some q → q < nl) → codeOK ns (ordA o par t f x) := by
  intro f
  induction f with
  | zero => intro x _; exact Or.inl rfl
  | succ f ih =>
    intro x hx
    cases x with
    | none => exact Or.inl rfl
    | some j =>
      have hj := hx j rfl
      rw [ordA]
      split
      · exact ih (par j) (fun q hq => by have := hp j q hq; omega)
      · rename_i hn
        exact h j (by omega) hn
theorem mOK.code {ns nl : Nat} {par : Nat → Option Nat} {mm : Nat → Nat → Int32} (h : mOK ns nl par mm) : ∀ j t, j < nl → t < 30 → codeOK ns (ordX (mm 11) par t (some j)) := fun j t hj ht => ordA_ok (nl := nl) ht h.2.1.1 h.1.2.2.2.2 (fun i hi hn => (h.2.2.2.1 i t hi ht hn).2) 10 (some j) (fun q hq => by cases hq; exact hj)
theorem bset_0 {P : Nat → Bool} : ∀ n : Nat, (∀ k, k < n → P k = false) → bset P n = 0 := by
  intro n
  induction n with
  | zero => intro _; rfl
  | succ n ih => intro h; rw [bset, ih fun k hk => h k (by omega), h n (Nat.lt_succ_self n)]; simp
theorem mOK.ah0 {ns nl : Nat} {par : Nat → Option Nat} {mm : Nat → Nat → Int32} (h : mOK ns nl par mm) : aheadI mm 0 = 0 := bset_0 30 (fun k hk => by
  by_cases z : mm 12 (30 * 0 + k) = 0
  · unfold aheadP; rw [z]; rfl
  · exact absurd (h.2.2.2.2.1 0 k (by decide) hk z).1 (by decide))
theorem mOK.kp {ns nl : Nat} {par : Nat → Option Nat} {mm m' : Nat → Nat → Int32} (h : mOK ns nl par mm) (hk : mKp mm m') : mOK ns nl par m' := by
  obtain ⟨⟨a1, a2, a3, a4, a5⟩, b, c, d1, e, f, g⟩ := h
  refine ⟨⟨(hk.2 0 (by decide) (by decide) (by decide)).trans a1, a2, (hk.2 7 (by decide) (by decide) (by decide)).trans a3, a4, a5⟩, mTree_k b hk, c, ?_, ?_, ?_, ?_⟩
  · rw [hk.1 11 (by decide) (by decide) (by decide)]; exact d1
  · rw [hk.1 12 (by decide) (by decide) (by decide), hk.1 11 (by decide) (by decide) (by decide), hk.1 10 (by decide) (by decide) (by decide)]; exact e
  · rw [hk.1 3 (by decide) (by decide) (by decide)]; exact f
  · rw [hk.1 4 (by decide) (by decide) (by decide)]; exact g
/-- the class's numbers beside the reference's -/
def cRp (ns nl : Nat) (mm : Nat → Nat → Int32) (d : Nat → Nat → Nat → Int32) : Prop := rLn nl mm d ∧ rWd ns mm d ∧ d 0 0 3 = nI (nl - 1)
theorem cRp.kp {ns nl : Nat} {mm m' : Nat → Nat → Int32} {d d' : Nat → Nat → Nat → Int32} (h : cRp ns nl mm d) (hf : dFr d d') (hk : mKp mm m') : cRp ns nl m' d' := by
  obtain ⟨h1, h2, h3⟩ := h
  refine ⟨?_, ?_, ?_⟩
  · intro i hi
    have q := (rLn_f h1 hf) i hi
    rw [aheadI_k hk, hk.1 9 (by decide) (by decide) (by decide), hk.1 10 (by decide) (by decide) (by decide), hk.1 11 (by decide) (by decide) (by decide)]
    exact q
  · obtain ⟨a1, a2, a3, a4, a5⟩ := rWd_f h2 hf
    refine ⟨a1, a2.trans (hk.2 5 (by decide) (by decide) (by decide)).symm, a3.trans (hk.2 6 (by decide) (by decide) (by decide)).symm, ?_, ?_⟩
    · rw [hk.1 4 (by decide) (by decide) (by decide)]; exact a4
    · rw [hk.1 1 (by decide) (by decide) (by decide), hk.1 2 (by decide) (by decide) (by decide), hk.1 3 (by decide) (by decide) (by decide)]; exact a5
  · rw [hf.1 0 0 (by decide) (by decide)]; exact h3
/-- setRate -/
theorem rate_ok {ns nl : Nat} {par : Nat → Option Nat} {mm : Nat → Nat → Int32} {d : Nat → Nat → Nat → Int32} {b t : Int32} (h : mOK ns nl par mm) (hc : cRp ns nl mm d) (hb : inB b 0 2 = true) (ht : inB t 0 20 = true) : mOK ns nl par (sp_setRate mm b t).2 ∧ cRp ns nl (sp_setRate mm b t).2 (up3 d 4 0 b.toNatClampNeg t) ∧ (sp_setRate mm b t).1 = d 4 0 b.toNatClampNeg ∧ (sp_setRate mm b t).2 0 17 = 0 := by
  obtain ⟨j, hj, rfl⟩ := inB_k hb (by decide) (n := 3) (by decide)
  have e : sp_setRate mm (nI j) t = (mm 4 j, up2 (up2 mm 0 17 0) 4 j t) := by
    unfold sp_setRate
    rw [if_neg (by rw [hb]; decide), if_neg (by rw [ht]; decide), nI_clamp (by omega)]
  rw [e, nI_clamp (show j < 2 ^ 31 by omega)]
  dsimp only
  obtain ⟨h1, h2, h3, h4, h5, h6, h7⟩ := h
  obtain ⟨c1, ⟨c2, c3, c4, c5, c6⟩, c7⟩ := hc
  refine ⟨⟨h1, h2, h3, h4, h5, h6, fun q hq => ?_⟩, ⟨fun i hi => ?_, ⟨?_, ?_, ?_, fun q hq => ?_, fun i hi => ?_⟩, ?_⟩, (c5 j hj).symm, rfl⟩
  · by_cases z : q = j
    · subst z; rw [up2_same]; exact (inB_t ht).1
    · rw [up2_i _ 4 t z]; exact h7 q hq
  · rw [up3_ne d j t (Or.inl (by decide)), up3_ne d j t (Or.inl (by decide))]
    exact c1 i hi
  · rw [up3_ne d j t (Or.inl (by decide))]; exact c2
  · rw [up3_ne d j t (Or.inl (by decide))]; exact c3
  · rw [up3_ne d j t (Or.inl (by decide))]; exact c4
  · by_cases z : q = j
    · subst z; rw [up3_s, up2_same]
    · rw [up3_k d t z, up2_i _ 4 t z]; exact c5 q hq
  · rw [up3_ne d j t (Or.inl (by decide))]; exact c6 i hi
  · rw [up3_ne d j t (Or.inl (by decide))]; exact c7
/-- setRules -/
theorem rules_ok {ns nl : Nat} {par : Nat → Option Nat} {mm : Nat → Nat → Int32} {d : Nat → Nat → Nat → Int32} {a b : Int32} (h : mOK ns nl par mm) (hc : cRp ns nl mm d) (hb : (inB a 0 100 && inB b 0 100) = true) : mOK ns nl par (sp_setRules mm a b) ∧ cRp ns nl (sp_setRules mm a b) (up3 (up3 d 1 0 3 a) 1 0 4 b) ∧ (sp_setRules mm a b) 0 17 = 0 := by
  have e : sp_setRules mm a b = up2 (up2 (up2 mm 0 17 0) 0 5 a) 0 6 b := by
    unfold sp_setRules
    rw [if_pos hb]
  rw [e]
  obtain ⟨c1, ⟨c2, c3, c4, c5, c6⟩, c7⟩ := hc
  refine ⟨h, ⟨fun i hi => ?_, ⟨?_, ?_, ?_, fun q hq => ?_, fun i hi => ?_⟩, ?_⟩, rfl⟩
  · rw [up3_ne _ 4 b (Or.inl (by decide)), up3_ne d 3 a (Or.inl (by decide)), up3_ne _ 4 b (Or.inl (by decide)), up3_ne d 3 a (Or.inl (by decide))]
    exact c1 i hi
  · rw [up3_k _ b (by decide), up3_k d a (by decide)]; exact c2
  · rw [up3_k _ b (by decide), up3_s]; rfl
  · rw [up3_s]; rfl
  · rw [up3_ne _ 4 b (Or.inl (by decide)), up3_ne d 3 a (Or.inl (by decide))]; exact c5 q hq
  · rw [up3_ne _ 4 b (Or.inl (by decide)), up3_ne d 3 a (Or.inl (by decide))]; exact c6 i hi
  · rw [up3_ne _ 4 b (Or.inl (by decide)), up3_ne d 3 a (Or.inl (by decide))]; exact c7
end KP
