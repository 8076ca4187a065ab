/-! WHAT EACH CALL LEAVES -/
section KQ
variable {ns nl : Nat} {par : Nat → Option Nat} {mm : Nat → Nat → Int32} {d : Nat → Nat → Nat → Int32}
theorem mOK.t (h : mOK ns nl par mm) (v : Int32) : mOK ns nl par (up2 mm 0 17 v) := h.kp (mKp.t v)
theorem cRp.t (h : cRp ns nl mm d) (v : Int32) : cRp ns nl (up2 mm 0 17 v) d := h.kp dFr.rf (mKp.t v)
theorem codeOK.mono {n : Nat} {c : Int32} (h : codeOK n c) : codeOK (n + 1) c := by
  rcases h with h | ⟨s, b, hs, hb, h⟩ | ⟨s, hs, h⟩
  · exact Or.inl h
  · exact Or.inr (Or.inl ⟨s, b, by omega, hb, h⟩)
  · exact Or.inr (Or.inr ⟨s, by omega, h⟩)
/-- the slots of a new ship -/
def dS (d : Nat → Nat → Nat → Int32) (ns : Nat) (a b c : Int32) : Nat → Nat → Nat → Int32 := fun x i => if x = 7 ∧ i = ns then (fun k => [a, b, c, -2, c].getD k 0) else up3 d 1 0 1 (nI ns + 1) x i
theorem dS_o (d : Nat → Nat → Nat → Int32) (ns : Nat) (a b c : Int32) {x i : Nat} (h : ¬ (x = 7 ∧ i = ns)) : dS d ns a b c x i = up3 d 1 0 1 (nI ns + 1) x i := by unfold dS; rw [if_neg h]
theorem dS_n (d : Nat → Nat → Nat → Int32) (ns : Nat) (a b c : Int32) : dS d ns a b c 7 ns = fun k => [a, b, c, -2, c].getD k 0 := by unfold dS; rw [if_pos ⟨rfl, rfl⟩]
theorem ship_ok {a b c : Int32} (h : mOK ns nl par mm) (hc : cRp ns nl mm d) (hB : (inB a 0 29 && inB b 0 2 && inB c 1 100) = true) (h8 : ¬ ns = 8) : mOK (ns + 1) nl par (sp_addShip ns mm a b c).2 ∧ cRp (ns + 1) nl (sp_addShip ns mm a b c).2 (dS d ns a b c) ∧ (sp_addShip ns mm a b c).1 = nI ns ∧ (sp_addShip ns mm a b c).2 0 17 = 0 := by
  have e : sp_addShip ns mm a b c = (nI ns, up2 (up2 (up2 (up2 (up2 mm 0 17 0) 1 ns a) 2 ns b) 3 ns c) 0 0 (nI ns + 1)) := by
    unfold sp_addShip
    rw [if_neg (by rw [hB]; decide), if_neg h8]
  rw [e]
  dsimp only
  obtain ⟨⟨a1, a2, a3, a4, a5⟩, b1, c1, d1, e1, f1, g1⟩ := h
  obtain ⟨r1, ⟨r2, r3, r4, r5, r6⟩, r7⟩ := hc
  have hc0 : 0 ≤ c := by
    have z := (inB_t (Bool.and_eq_true_iff.mp hB).2).1
    rw [Int32.le_iff_toInt_le] at z ⊢
    have z1 : (1 : Int32).toInt = 1 := by decide
    have z0 : (0 : Int32).toInt = 0 := by decide
    omega
  refine ⟨⟨⟨nI_1 ns, by omega, a3, a4, a5⟩, b1, c1, fun j t hj ht ho => ?_, e1, fun q hq => ?_, g1⟩, ⟨fun i hi => ?_, ⟨?_, ?_, ?_, fun q hq => ?_, fun i hi => ?_⟩, ?_⟩, rfl, rfl⟩
  · obtain ⟨x, y⟩ := d1 j t hj ht ho
    exact ⟨x, y.mono⟩
  · show 0 ≤ upd (mm 3) ns c q
    by_cases z : q = ns
    · subst z; simp only [upd, if_true]; exact hc0
    · simp only [upd, if_neg z]; exact f1 q (by omega)
  · rw [dS_o d ns a b c (by omega), dS_o d ns a b c (by omega), up3_ne d 1 _ (Or.inl (by decide)), up3_ne d 1 _ (Or.inl (by decide))]
    exact r1 i hi
  · rw [dS_o d ns a b c (by omega), up3_s]; exact nI_1 ns
  · rw [dS_o d ns a b c (by omega), up3_k d _ (by decide)]; exact r3
  · rw [dS_o d ns a b c (by omega), up3_k d _ (by decide)]; exact r4
  · rw [dS_o d ns a b c (by omega), up3_ne d 1 _ (Or.inl (by decide))]; exact r5 q hq
  · show dS d ns a b c 7 i 0 = upd (mm 1) ns a i ∧ dS d ns a b c 7 i 1 = upd (mm 2) ns b i ∧ dS d ns a b c 7 i 2 = upd (mm 3) ns c i
    by_cases z : i = ns
    · subst z
      rw [dS_n]
      simp only [upd, if_true]
      exact ⟨rfl, rfl, rfl⟩
    · rw [dS_o d ns a b c (by omega), up3_ne d 1 _ (Or.inl (by decide))]
      simp only [upd, if_neg z]
      exact r6 i (by omega)
  · rw [dS_o d ns a b c (by omega), up3_ne d 1 _ (Or.inl (by decide))]; exact r7
/-- the slots of a new line -/
def dL (d : Nat → Nat → Nat → Int32) (nl : Nat) (t s : Int32) : Nat → Nat → Nat → Int32 := fun x i => if x = 5 ∧ i = nl then (fun k => [0, t, 0, 0, 0, s].getD k 0) else if x = 6 ∧ i = nl then (fun _ => 0) else up3 d 0 0 3 (nI nl) x i
theorem dL_o (d : Nat → Nat → Nat → Int32) (nl : Nat) (t s : Int32) {x i : Nat} (h : ¬ (x = 5 ∧ i = nl)) (h2 : ¬ (x = 6 ∧ i = nl)) : dL d nl t s x i = up3 d 0 0 3 (nI nl) x i := by unfold dL; rw [if_neg h, if_neg h2]
theorem dL_5 (d : Nat → Nat → Nat → Int32) (nl : Nat) (t s : Int32) : dL d nl t s 5 nl = fun k => [0, t, 0, 0, 0, s].getD k 0 := by unfold dL; rw [if_pos ⟨rfl, rfl⟩]
theorem dL_6 (d : Nat → Nat → Nat → Int32) (nl : Nat) (t s : Int32) : dL d nl t s 6 nl = fun _ => 0 := by unfold dL; rw [if_neg (by omega), if_pos ⟨rfl, rfl⟩]
theorem fork_ok {ja jt : Nat} (h : mOK ns nl par mm) (hc : cRp ns nl mm d) (hj : ja < nl) (hjt : jt < 30) (h9 : ¬ nl = 9) : mOK ns (nl + 1) (parL par nl ja) (sp_fork nl mm (nI ja) (nI jt)).2 ∧ cRp ns (nl + 1) (sp_fork nl mm (nI ja) (nI jt)).2 (dL d nl (nI jt) (d 5 ja 5)) ∧ (sp_fork nl mm (nI ja) (nI jt)).1 = nI nl ∧ (sp_fork nl mm (nI ja) (nI jt)).2 0 17 = 0 := by
  obtain ⟨⟨a1, a2, a3, a4, a5⟩, ⟨b1, b2⟩, c1, d1, e1, f1, g1⟩ := h
  obtain ⟨r1, ⟨r2, r3, r4, r5, r6⟩, r7⟩ := hc
  have e : sp_fork nl mm (nI ja) (nI jt) = (nI nl, up2 (up2 (up2 (up2 (up2 mm 0 17 0) 8 nl (nI ja)) 9 nl (nI jt)) 10 nl (mm 10 ja)) 0 7 (nI nl + 1)) := by
    unfold sp_fork
    rw [if_neg (by rw [inB_of hj (by omega), show inB (nI jt) 0 29 = true from inB_of (n := 30) hjt (by decide)]; decide), if_neg h9, nI_clamp (by omega)]
  rw [e]
  dsimp only
  have hno : ∀ t, t < 30 → mm 11 (30 * nl + t) = -1 := fun t ht => by
    by_cases z : mm 11 (30 * nl + t) = -1
    · exact z
    · exact absurd (d1 nl t (by omega) ht z).1 (by omega)
  have hna : ∀ t, t < 30 → mm 12 (30 * nl + t) = 0 := fun t ht => by
    by_cases z : mm 12 (30 * nl + t) = 0
    · exact z
    · exact absurd (hno t ht) (e1 nl t (by omega) ht z).2.1
  have hp0 : ∀ j, j < nl → parL par nl ja j = par j := fun j hj2 => by unfold parL; rw [if_neg (by omega)]
  have hpn : parL par nl ja nl = some ja := by unfold parL; rw [if_pos rfl]
  refine ⟨⟨⟨a1, a2, nI_1 nl, by omega, by omega⟩, ⟨fun i q hq => ?_, fun i hi => ?_⟩, fun j hj2 => ?_, fun j t hj2 ht ho => ?_, fun j t hj2 ht ho => ?_, f1, g1⟩, ⟨fun i hi => ?_, ⟨?_, ?_, ?_, fun q hq => ?_, fun i hi => ?_⟩, ?_⟩, rfl, rfl⟩
  · by_cases z : i = nl
    · subst z; rw [hpn] at hq; cases hq; exact hj
    · unfold parL at hq; rw [if_neg z] at hq; exact b1 i q hq
  · show upd (mm 8) nl (nI ja) i = vI (parL par nl ja i)
    by_cases z : i = nl
    · subst z; rw [hpn]; simp only [upd, if_true]; rfl
    · rw [hp0 i (by omega)]; simp only [upd, if_neg z]; exact b2 i (by omega)
  · by_cases z : j = nl
    · subst z; rw [hpn]
      exact ⟨fun q => (Option.some_ne_none _ q).elim, fun q => by omega⟩
    · rw [hp0 j (by omega)]; exact c1 j (by omega)
  · obtain ⟨x, y⟩ := d1 j t hj2 ht ho
    exact ⟨by omega, y⟩
  · obtain ⟨x, y, z⟩ := e1 j t hj2 ht ho
    refine ⟨x, y, ?_⟩
    show nI t < upd (mm 10) nl (mm 10 ja) j
    by_cases zz : j = nl
    · subst zz; exact absurd (hno t ht) y
    · simp only [upd, if_neg zz]; exact z
  · show dL d nl (nI jt) (d 5 ja 5) 5 i 1 = upd (mm 9) nl (nI jt) i ∧ dL d nl (nI jt) (d 5 ja 5) 5 i 3 = bset (ownP (mm 11) i) 30 ∧ dL d nl (nI jt) (d 5 ja 5) 5 i 4 = aheadI mm i ∧ dL d nl (nI jt) (d 5 ja 5) 5 i 5 = upd (mm 10) nl (mm 10 ja) i ∧ ∀ t, t < 30 → ¬ mm 11 (30 * i + t) = -1 → dL d nl (nI jt) (d 5 ja 5) 6 i t = mm 11 (30 * i + t)
    by_cases z : i = nl
    · subst z
      rw [dL_5]
      simp only [upd, if_true]
      refine ⟨rfl, ?_, ?_, (r1 ja hj).2.2.2.1, fun t ht ho => absurd (hno t ht) ho⟩
      · exact (bset_0 30 fun k hk => by unfold ownP; rw [hno k hk]; rfl).symm
      · exact (bset_0 30 fun k hk => by unfold aheadP; rw [hna k hk]; rfl).symm
    · rw [dL_o d nl _ _ (by omega) (by omega), dL_o d nl _ _ (by omega) (by omega), up3_ne d 3 _ (Or.inl (by decide)), up3_ne d 3 _ (Or.inl (by decide))]
      simp only [upd, if_neg z]
      exact r1 i (by omega)
  · rw [dL_o d nl _ _ (by omega) (by omega), up3_ne d 3 _ (Or.inl (by decide))]; exact r2
  · rw [dL_o d nl _ _ (by omega) (by omega), up3_ne d 3 _ (Or.inl (by decide))]; exact r3
  · rw [dL_o d nl _ _ (by omega) (by omega), up3_ne d 3 _ (Or.inl (by decide))]; exact r4
  · rw [dL_o d nl _ _ (by omega) (by omega), up3_ne d 3 _ (Or.inl (by decide))]; exact r5 q hq
  · rw [dL_o d nl _ _ (by omega) (by omega), up3_ne d 3 _ (Or.inl (by decide))]; exact r6 i hi
  · rw [dL_o d nl _ _ (by omega) (by omega), up3_s]; rfl
/-- order -/
theorem codeI_ok : (∀ s, s < 8 → ∀ b, b < 3 → codeI 1 (nI s) (nI b) = nI (100 + 10 * s + b)) ∧ (∀ s, s < 8 → ∀ b, b < 3 → codeI 2 (nI s) (nI b) = nI (200 + 10 * s)) := by constructor <;> decide +kernel
theorem codeI_c {k : Int32} {s b : Nat} (hk : inB k 0 2 = true) (hn : ns ≤ 8) (hs : s < ns) (hb : b < 3) : codeOK ns (codeI k (nI s) (nI b)) ∧ ¬ codeI k (nI s) (nI b) = -1 := by
  rcases inB_k2.mp hk with rfl | rfl | rfl
  · exact ⟨Or.inl rfl, (show ¬ (0 : Int32) = -1 by decide)⟩
  · rw [codeI_ok.1 s (by omega) b hb]
    exact ⟨Or.inr (Or.inl ⟨s, b, hs, hb, rfl⟩), nI_m1 (by omega)⟩
  · rw [codeI_ok.2 s (by omega) b hb]
    exact ⟨Or.inr (Or.inr ⟨s, hs, rfl⟩), nI_m1 (by omega)⟩
theorem tI {j t j2 t2 : Nat} (h : t < 30) (h2 : t2 < 30) (e : ¬ (j2 = j ∧ t2 = t)) : ¬ 30 * j2 + t2 = 30 * j + t := by omega
theorem upd_s (f : Nat → Int32) (k : Nat) (v : Int32) : upd f k v k = v := by simp [upd]
theorem upd_o (f : Nat → Int32) {k j : Nat} (v : Int32) (h : ¬ j = k) : upd f k v j = f j := by simp [upd, h]
theorem ah_eq (h : mOK ns nl par mm) (hc : cRp ns nl mm d) {j t : Nat} (hj : j < nl) : ahC par d j t = aheadB mm (nI j) (nI t) := by
  obtain ⟨⟨a1, a2, a3, a4, a5⟩, ⟨b1, b2⟩, c1, d1, e1, f1, g1⟩ := h
  unfold ahC aheadB
  rw [nI_clamp (by omega), (hc.1 j hj).2.2.2.1]
  congr 1
  rw [decide_eq_decide, c1 j hj]
  constructor
  · intro q; exact nI_lt (a := 0) (by omega) (by omega)
  · intro q q2; subst q2; exact absurd q (by decide)
theorem givD_o {a i j t : Nat} {c : Int32} {ah : Bool} (h : (a ≠ 5 ∧ a ≠ 6) ∨ i ≠ j) : givD d j t c ah a i = d a i := by
  unfold givD
  rw [up3_ne _ t c (by omega), up3_ne _ 3 _ (by omega)]
  split
  · rw [up3_ne _ 4 _ (by omega)]
  · rfl
theorem givD_k {j t k : Nat} {c : Int32} {ah : Bool} (h3 : k ≠ 3) (h4 : k ≠ 4) : givD d j t c ah 5 j k = d 5 j k := by
  unfold givD
  rw [up3_ne _ t c (Or.inl (by decide)), up3_k _ _ h3]
  split
  · rw [up3_k _ _ h4]
  · rfl
theorem givD_3 {j t : Nat} {c : Int32} {ah : Bool} : givD d j t c ah 5 j 3 = d 5 j 3 ||| 1 <<< (nI t &&& 31) := by
  unfold givD
  rw [up3_ne _ t c (Or.inl (by decide)), up3_s]
theorem givD_4 {j t : Nat} {c : Int32} {ah : Bool} : givD d j t c ah 5 j 4 = if ah = true then d 5 j 4 ||| 1 <<< (nI t &&& 31) else d 5 j 4 := by
  unfold givD
  rw [up3_ne _ t c (Or.inl (by decide)), up3_k _ _ (by decide)]
  split
  · rw [up3_s]
  · rfl
theorem givD_6 {j t : Nat} {c : Int32} {ah : Bool} : givD d j t c ah 6 j = upd (d 6 j) t c := by
  unfold givD
  rw [up3_at, up3_ne _ 3 _ (Or.inl (by decide))]
  split
  · rw [up3_ne _ 4 _ (Or.inl (by decide))]
  · rfl
theorem own_set {o : Nat → Int32} {j t : Nat} {C : Int32} (hC1 : ¬ C = -1) : ∀ i, i < 30 → ownP (upd o (30 * j + t) C) j i = (decide (i = t) || ownP o j i) := fun i hi => by
  unfold ownP
  by_cases z : i = t
  · subst z; rw [upd_s]; simp [hC1]
  · rw [upd_o _ _ (by omega)]; simp [z]
theorem order_ok {j t s b : Nat} {k : Int32} (h : mOK ns nl par mm) (hc : cRp ns nl mm d) (hj : j < nl) (ht : t < 30) (hs : s < ns) (hb : b < 3) (hk : inB k 0 2 = true) (hm : ¬ nI t < mm 9 j) : mOK ns nl par (sp_order nl ns mm (nI j) (nI t) k (nI s) (nI b)).2 ∧ cRp ns nl (sp_order nl ns mm (nI j) (nI t) k (nI s) (nI b)).2 (givD d j t (codeI k (nI s) (nI b)) (ahC par d j t)) ∧ (sp_order nl ns mm (nI j) (nI t) k (nI s) (nI b)).1 = bI (ahC par d j t) ∧ (sp_order nl ns mm (nI j) (nI t) k (nI s) (nI b)).2 0 17 = 0 := by
  have hA := ah_eq (t := t) h hc hj
  obtain ⟨hC, hC1⟩ := codeI_c (k := k) (b := b) hk h.1.2.1 hs hb
  have h9 : nl ≤ 9 := h.1.2.2.2.2
  have h8 : ns ≤ 8 := h.1.2.1
  have e : sp_order nl ns mm (nI j) (nI t) k (nI s) (nI b) = (bI (ahC par d j t), up2 (up2 (up2 mm 0 17 0) 11 (30 * j + t) (codeI k (nI s) (nI b))) 12 (30 * j + t) (bI (ahC par d j t))) := by
    unfold sp_order
    rw [if_neg (by rw [inB_of hj (by omega), inB_of hs (by omega), show inB (nI t) 0 29 = true from inB_of (n := 30) ht (by decide), show inB (nI b) 0 2 = true from inB_of (n := 3) hb (by decide)]; decide), if_neg (by rw [hk]; decide), nI_clamp (by omega), if_neg hm, nI_pl, nI_clamp (by omega), hA]
  rw [e]
  dsimp only
  generalize codeI k (nI s) (nI b) = C at hC hC1 ⊢
  obtain ⟨m0, m1, m2, m3, m4, m5, m6⟩ := h
  obtain ⟨r1, ⟨r2, r3, r4, r5, r6⟩, r7⟩ := hc
  have hAs : ahC par d j t = true → 0 < j ∧ nI t < mm 10 j := fun q => by
    unfold ahC at q
    obtain ⟨q1, q2⟩ := Bool.and_eq_true_iff.mp q
    have q3 := of_decide_eq_true q2
    rw [(r1 j hj).2.2.2.1] at q3
    refine ⟨?_, q3⟩
    have q4 : ¬ j = 0 := fun z => of_decide_eq_true q1 ((m2 j hj).mpr z)
    omega
  have hAn : ahC par d j t = false → mm 12 (30 * j + t) = 0 := fun q => by
    by_cases z : mm 12 (30 * j + t) = 0
    · exact z
    · obtain ⟨z1, z2, z3⟩ := m4 j t (by omega) ht z
      unfold ahC at q
      rw [(r1 j hj).2.2.2.1, decide_eq_true z3, Bool.and_true] at q
      have q4 := of_decide_eq_false q
      exact absurd (fun z5 => by have := (m2 j hj).mp z5; omega) q4
  refine ⟨⟨m0, m1, m2, fun j2 t2 hj2 ht2 => ?_, fun j2 t2 hj2 ht2 => ?_, m5, m6⟩, ⟨fun i hi => ?_, ⟨?_, ?_, ?_, fun q hq => ?_, fun i hi => ?_⟩, ?_⟩, rfl, rfl⟩
  · show ¬ upd (mm 11) (30 * j + t) C (30 * j2 + t2) = -1 → j2 < nl ∧ codeOK ns (upd (mm 11) (30 * j + t) C (30 * j2 + t2))
    by_cases z : j2 = j ∧ t2 = t
    · obtain ⟨rfl, rfl⟩ := z
      rw [upd_s]
      exact fun _ => ⟨hj, hC⟩
    · rw [upd_o _ _ (tI ht ht2 z)]
      exact m3 j2 t2 hj2 ht2
  · show ¬ upd (mm 12) (30 * j + t) (bI (ahC par d j t)) (30 * j2 + t2) = 0 → 0 < j2 ∧ ¬ upd (mm 11) (30 * j + t) C (30 * j2 + t2) = -1 ∧ nI t2 < mm 10 j2
    by_cases z : j2 = j ∧ t2 = t
    · obtain ⟨rfl, rfl⟩ := z
      rw [upd_s, upd_s]
      intro q
      obtain ⟨x, y⟩ := hAs (bI_n.mp q)
      exact ⟨x, hC1, y⟩
    · rw [upd_o _ _ (tI ht ht2 z), upd_o _ _ (tI ht ht2 z)]
      exact m4 j2 t2 hj2 ht2
  · show givD d j t C (ahC par d j t) 5 i 1 = mm 9 i ∧ givD d j t C (ahC par d j t) 5 i 3 = bset (ownP (upd (mm 11) (30 * j + t) C) i) 30 ∧ givD d j t C (ahC par d j t) 5 i 4 = bset (fun k => decide (¬ upd (mm 12) (30 * j + t) (bI (ahC par d j t)) (30 * i + k) = 0)) 30 ∧ givD d j t C (ahC par d j t) 5 i 5 = mm 10 i ∧ ∀ t2, t2 < 30 → ¬ upd (mm 11) (30 * j + t) C (30 * i + t2) = -1 → givD d j t C (ahC par d j t) 6 i t2 = upd (mm 11) (30 * j + t) C (30 * i + t2)
    obtain ⟨s1, s2, s3, s4, s5⟩ := r1 i hi
    by_cases z : i = j
    · subst z
      rw [givD_k (k := 1) (by decide) (by decide), givD_k (k := 5) (by decide) (by decide), givD_3, givD_4, givD_6, s2, s3]
      refine ⟨s1, bset_add ht (own_set hC1), ?_, s4, fun t2 ht2 ho => ?_⟩
      · cases hq : ahC par d i t
        · rw [if_neg (by decide)]
          refine bset_c 30 fun k hk => ?_
          unfold aheadP
          by_cases z : k = t
          · subst z; rw [upd_s, hAn hq]; rfl
          · rw [upd_o _ _ (by omega)]
        · rw [if_pos rfl]
          refine bset_add ht fun k hk => ?_
          unfold aheadP
          by_cases z : k = t
          · subst z; rw [upd_s]; simp [bI]
          · rw [upd_o _ _ (by omega)]; simp [z]
      · by_cases z : t2 = t
        · subst z; rw [upd_s, upd_s]
        · rw [upd_o _ _ z, upd_o _ _ (by omega)]
          rw [upd_o _ _ (by omega)] at ho
          exact s5 t2 ht2 ho
    · have g5 : ∀ k, givD d j t C (ahC par d j t) 5 i k = d 5 i k := fun k => by rw [givD_o (Or.inr z)]
      rw [g5, g5, g5, g5, givD_o (a := 6) (Or.inr z)]
      refine ⟨s1, s2.trans (bset_c 30 fun k hk => ?_), s3.trans (bset_c 30 fun k hk => ?_), s4, fun t2 ht2 ho => ?_⟩
      · unfold ownP; rw [upd_o _ _ (tI ht hk (by omega))]
      · unfold aheadP; rw [upd_o _ _ (tI ht hk (by omega))]
      · rw [upd_o _ _ (tI ht ht2 (by omega))] at ho ⊢
        exact s5 t2 ht2 ho
  · rw [givD_o (by omega)]; exact r2
  · rw [givD_o (by omega)]; exact r3
  · rw [givD_o (by omega)]; exact r4
  · rw [givD_o (by omega)]; exact r5 q hq
  · rw [givD_o (by omega)]; exact r6 i hi
  · rw [givD_o (by omega)]; exact r7
/-- takeAway -/
theorem up2_id {m : Nat → Nat → Int32} {j i : Nat} {v : Int32} (h : m j i = v) : up2 m j i v = m := by
  funext a b
  by_cases z : a = j
  · subst z
    by_cases z2 : b = i
    · subst z2; rw [up2_same, h]
    · rw [up2_i _ _ _ z2]
  · rw [up2_o _ _ _ _ z]
theorem drpD_o {a i j t : Nat} (h : a ≠ 5 ∨ i ≠ j) : drpD d j t a i = d a i := by
  unfold drpD
  rw [up3_ne _ 4 _ h, up3_ne _ 3 _ h]
theorem drpD_k {j t k : Nat} (h3 : k ≠ 3) (h4 : k ≠ 4) : drpD d j t 5 j k = d 5 j k := by
  unfold drpD
  rw [up3_k _ _ h4, up3_k _ _ h3]
theorem drpD_3 {j t : Nat} : drpD d j t 5 j 3 = d 5 j 3 &&& (1 <<< (nI t &&& 31) ^^^ -1) := by
  unfold drpD
  rw [up3_k _ _ (by decide), up3_s]
theorem drpD_4 {j t : Nat} : drpD d j t 5 j 4 = d 5 j 4 &&& (1 <<< (nI t &&& 31) ^^^ -1) := by
  unfold drpD
  rw [up3_s]
theorem take_ok {j t : Nat} (h : mOK ns nl par mm) (hc : cRp ns nl mm d) (hj : j < nl) (ht : t < 30) : mOK ns nl par (sp_takeAway nl mm (nI j) (nI t)).2 ∧ cRp ns nl (sp_takeAway nl mm (nI j) (nI t)).2 (drpD d j t) ∧ (sp_takeAway nl mm (nI j) (nI t)).1 = bI (decide (¬ d 5 j 3 &&& 1 <<< (nI t &&& 31) = 0)) ∧ (sp_takeAway nl mm (nI j) (nI t)).2 0 17 = 0 := by
  obtain ⟨m0, m1, m2, m3, m4, m5, m6⟩ := h
  obtain ⟨r1, ⟨r2, r3, r4, r5, r6⟩, r7⟩ := hc
  have h9 : nl ≤ 9 := m0.2.2.2.2
  have hD : decide (¬ d 5 j 3 &&& 1 <<< (nI t &&& 31) = 0) = decide (¬ mm 11 (30 * j + t) = -1) := by
    rw [decide_eq_decide, (r1 j hj).2.1, bset_has ht]
    unfold ownP
    exact decide_eq_true_iff
  have hO : ownB mm (nI j) (nI t) = decide (¬ mm 11 (30 * j + t) = -1) := by
    unfold ownB
    rw [nI_pl, nI_clamp (by omega)]
  have e : sp_takeAway nl mm (nI j) (nI t) = (bI (decide (¬ mm 11 (30 * j + t) = -1)), up2 (up2 (up2 mm 0 17 0) 11 (30 * j + t) (-1)) 12 (30 * j + t) 0) := by
    unfold sp_takeAway
    rw [if_neg (by rw [inB_of hj (by omega), show inB (nI t) 0 29 = true from inB_of (n := 30) ht (by decide)]; decide), hO, nI_pl, nI_clamp (by omega)]
    by_cases z : mm 11 (30 * j + t) = -1
    · have z2 : mm 12 (30 * j + t) = 0 := by
        by_cases y : mm 12 (30 * j + t) = 0
        · exact y
        · exact absurd z (m4 j t (by omega) ht y).2.1
      have u1 : up2 (up2 mm 0 17 0) 11 (30 * j + t) (-1) = up2 mm 0 17 0 := up2_id z
      have u2 : up2 (up2 mm 0 17 0) 12 (30 * j + t) 0 = up2 mm 0 17 0 := up2_id z2
      rw [if_pos (by rw [z]; decide), u1, u2, z]
      rfl
    · rw [if_neg (by simp [z]), decide_eq_true z]
      rfl
  rw [e, hD]
  dsimp only
  refine ⟨⟨m0, m1, m2, fun j2 t2 hj2 ht2 => ?_, fun j2 t2 hj2 ht2 => ?_, m5, m6⟩, ⟨fun i hi => ?_, ⟨?_, ?_, ?_, fun q hq => ?_, fun i hi => ?_⟩, ?_⟩, rfl, rfl⟩
  · show ¬ upd (mm 11) (30 * j + t) (-1) (30 * j2 + t2) = -1 → j2 < nl ∧ codeOK ns (upd (mm 11) (30 * j + t) (-1) (30 * j2 + t2))
    by_cases z : j2 = j ∧ t2 = t
    · obtain ⟨rfl, rfl⟩ := z
      rw [upd_s]
      exact fun q => absurd rfl q
    · rw [upd_o _ _ (tI ht ht2 z)]
      exact m3 j2 t2 hj2 ht2
  · show ¬ upd (mm 12) (30 * j + t) 0 (30 * j2 + t2) = 0 → 0 < j2 ∧ ¬ upd (mm 11) (30 * j + t) (-1) (30 * j2 + t2) = -1 ∧ nI t2 < mm 10 j2
    by_cases z : j2 = j ∧ t2 = t
    · obtain ⟨rfl, rfl⟩ := z
      rw [upd_s, upd_s]
      exact fun q => absurd rfl q
    · rw [upd_o _ _ (tI ht ht2 z), upd_o _ _ (tI ht ht2 z)]
      exact m4 j2 t2 hj2 ht2
  · show drpD d j t 5 i 1 = mm 9 i ∧ drpD d j t 5 i 3 = bset (ownP (upd (mm 11) (30 * j + t) (-1)) i) 30 ∧ drpD d j t 5 i 4 = bset (fun k => decide (¬ upd (mm 12) (30 * j + t) 0 (30 * i + k) = 0)) 30 ∧ drpD d j t 5 i 5 = mm 10 i ∧ ∀ t2, t2 < 30 → ¬ upd (mm 11) (30 * j + t) (-1) (30 * i + t2) = -1 → drpD d j t 6 i t2 = upd (mm 11) (30 * j + t) (-1) (30 * i + t2)
    obtain ⟨s1, s2, s3, s4, s5⟩ := r1 i hi
    by_cases z : i = j
    · subst z
      rw [drpD_k (k := 1) (by decide) (by decide), drpD_k (k := 5) (by decide) (by decide), drpD_3, drpD_4, drpD_o (a := 6) (Or.inl (by decide)), s2, s3]
      refine ⟨s1, bset_del ht fun k hk => ?_, bset_del ht fun k hk => ?_, s4, fun t2 ht2 ho => ?_⟩
      · unfold ownP
        by_cases z : k = t
        · subst z; rw [upd_s]; simp
        · rw [upd_o _ _ (by omega)]; simp [z]
      · unfold aheadP
        by_cases z : k = t
        · subst z; rw [upd_s]; simp
        · rw [upd_o _ _ (by omega)]; simp [z]
      · by_cases z : t2 = t
        · subst z; rw [upd_s] at ho; exact absurd rfl ho
        · rw [upd_o _ _ (by omega)] at ho ⊢
          exact s5 t2 ht2 ho
    · have g5 : ∀ k, drpD d j t 5 i k = d 5 i k := fun k => by rw [drpD_o (Or.inr z)]
      rw [g5, g5, g5, g5, drpD_o (a := 6) (Or.inl (by decide))]
      refine ⟨s1, s2.trans (bset_c 30 fun k hk => ?_), s3.trans (bset_c 30 fun k hk => ?_), s4, fun t2 ht2 ho => ?_⟩
      · unfold ownP; rw [upd_o _ _ (tI ht hk (by omega))]
      · unfold aheadP; rw [upd_o _ _ (tI ht hk (by omega))]
      · rw [upd_o _ _ (tI ht ht2 (by omega))] at ho ⊢
        exact s5 t2 ht2 ho
  · rw [drpD_o (Or.inl (by decide))]; exact r2
  · rw [drpD_o (Or.inl (by decide))]; exact r3
  · rw [drpD_o (Or.inl (by decide))]; exact r4
  · rw [drpD_o (Or.inl (by decide))]; exact r5 q hq
  · rw [drpD_o (Or.inl (by decide))]; exact r6 i hi
  · rw [drpD_o (Or.inl (by decide))]; exact r7
/-- look -/
theorem look_ok {ja jt : Nat} {m' : Nat → Nat → Int32} {d2 : Nat → Nat → Nat → Int32} (h : mOK ns nl par mm) (hc : cRp ns nl mm d) (hj : ja < nl) (hB : (inB (nI ja) 0 (nI nl - 1) && inB (nI jt) 0 29) = true) (hk : mKp (lkM nl mm (nI ja) (nI jt)) m') (hf : dFr (up3 d 5 ja 5 (if mm 10 ja < nI jt then nI jt else mm 10 ja)) d2) : mOK ns nl par m' ∧ cRp ns nl m' d2 := by
  have h9 : nl ≤ 9 := h.1.2.2.2.2
  have e : lkM nl mm (nI ja) (nI jt) = up2 mm 10 ja (if mm 10 ja < nI jt then nI jt else mm 10 ja) := by
    unfold lkM
    rw [if_neg (by rw [hB]; decide), nI_clamp (by omega)]
  rw [e] at hk
  have hv : ∀ x : Int32, x < mm 10 ja → x < (if mm 10 ja < nI jt then nI jt else mm 10 ja) := fun x hx => by
    split
    · rename_i q
      rw [Int32.lt_iff_toInt_lt] at hx q ⊢
      omega
    · exact hx
  generalize (if mm 10 ja < nI jt then nI jt else mm 10 ja) = v at hv hk hf
  obtain ⟨m0, m1, m2, m3, m4, m5, m6⟩ := h
  obtain ⟨r1, ⟨r2, r3, r4, r5, r6⟩, r7⟩ := hc
  have hm : mOK ns nl par (up2 mm 10 ja v) := ⟨m0, m1, m2, m3, fun j t hj2 ht ho => (by
    obtain ⟨x, y, z⟩ := m4 j t hj2 ht ho
    refine ⟨x, y, ?_⟩
    show nI t < upd (mm 10) ja v j
    by_cases q : j = ja
    · subst q; rw [upd_s]; exact hv _ z
    · rw [upd_o _ _ q]; exact z), m5, m6⟩
  have hr : cRp ns nl (up2 mm 10 ja v) (up3 d 5 ja 5 v) := ⟨rLn_seen r1 ja v, ⟨by rw [up3_ne d 5 v (Or.inl (by decide))]; exact r2, by rw [up3_ne d 5 v (Or.inl (by decide))]; exact r3, by rw [up3_ne d 5 v (Or.inl (by decide))]; exact r4, fun b hb => by rw [up3_ne d 5 v (Or.inl (by decide))]; exact r5 b hb, fun i hi => by rw [up3_ne d 5 v (Or.inl (by decide))]; exact r6 i hi⟩, by rw [up3_ne d 5 v (Or.inl (by decide))]; exact r7⟩
  exact ⟨hm.kp hk, hr.kp hf hk⟩
/-- a new object -/
theorem init_ok {m' : Nat → Nat → Int32} (h : mIn m') : mOK 0 1 (fun _ => none) m' ∧ cRp 0 1 m' dN := by
  obtain ⟨h1, h2, h3, h4, h5, h6, h7, h8, h9, h10⟩ := h
  have ho : ∀ j t, j < 9 → t < 30 → m' 11 (30 * j + t) = -1 := fun j t hj ht => h6 _ (by omega)
  refine ⟨⟨⟨h1, by decide, h4, by decide, by decide⟩, ⟨fun i p q => (Option.some_ne_none p q.symm).elim, fun i hi => ?_⟩, fun j hj => ?_, fun j t hj ht o => absurd (ho j t hj ht) o, fun j t hj ht o => absurd (h10 _) o, fun q hq => absurd hq (by omega), fun b hb => ?_⟩, ⟨fun i hi => ?_, ⟨rfl, ?_, ?_, fun b hb => ?_, fun i hi => absurd hi (by omega)⟩, rfl⟩⟩
  · obtain rfl : i = 0 := by omega
    exact h7
  · exact ⟨fun _ => by omega, fun _ => rfl⟩
  · rw [h5 b hb]; decide
  · obtain rfl : i = 0 := by omega
    refine ⟨h8.symm, (bset_0 30 fun k hk => ?_).symm, (bset_0 30 fun k hk => ?_).symm, h9.symm, fun t ht o => absurd (ho 0 t (by decide) ht) o⟩
    · unfold ownP; rw [ho 0 k (by decide) hk]; rfl
    · unfold aheadP; rw [h10]; rfl
  · rw [h2]; rfl
  · rw [h3]; rfl
  · rw [h5 b hb]
    rcases (show b = 0 ∨ b = 1 ∨ b = 2 by omega) with rfl | rfl | rfl <;> decide
/-! the worlds that grow -/
theorem cw_okS {Rl : List (Nat × Nat)} (h : cw_ok nl ns Rl) : cw_ok nl (ns + 1) (Rl ++ [(7, ns)]) := by
  refine ⟨List.nodup_append.mpr ⟨h.1, by simp, fun x hx y hy z => ?_⟩, fun a i => ?_⟩
  · obtain rfl := List.mem_singleton.mp hy
    subst z
    have := (h.2 7 ns).mp hx
    omega
  · rw [List.mem_append, List.mem_singleton, h.2 a i, Prod.mk.injEq]
    omega
theorem cw_okL {Rl : List (Nat × Nat)} (h : cw_ok nl ns Rl) : cw_ok (nl + 1) ns (Rl ++ [(5, nl), (6, nl)]) := by
  refine ⟨List.nodup_append.mpr ⟨h.1, by simp, fun x hx y hy z => ?_⟩, fun a i => ?_⟩
  · subst z
    simp only [List.mem_cons, List.mem_nil_iff, or_false] at hy
    rcases hy with rfl | rfl
    · have := (h.2 5 nl).mp hx; omega
    · have := (h.2 6 nl).mp hx; omega
  · rw [List.mem_append, h.2 a i]
    simp only [List.mem_cons, List.mem_nil_iff, or_false, Prod.mk.injEq]
    omega
theorem pm_tail {A B C : va_W} : (A ++ (B ++ C)).Perm ((A ++ C) ++ B) := by
  rw [List.append_assoc]
  exact List.Perm.append_left A List.perm_append_comm
theorem cw_cg {cy : Nat → ClassId} {ad : Nat → Nat → Nat} {Rl : List (Nat × Nat)} {d2 : Nat → Nat → Nat → Int32} (h : ∀ r ∈ Rl, d2 r.1 r.2 = d r.1 r.2) : cw cy ad nl ns par Rl d2 = cw cy ad nl ns par Rl d := by
  unfold cw
  exact List.map_congr_left fun r hr => by rw [h r hr]
theorem foldS {cy : Nat → ClassId} {ad : Nat → Nat → Nat} {Rl : List (Nat × Nat)} {q : Nat} {a b c : Int32} {B : va_W} (h : cw_ok nl ns Rl) : (cw cy (adS ad ns q) nl (ns + 1) par Rl (up3 d 1 0 1 (nI ns + 1)) ++ (B ++ ([(q, .inr (2, [.int a, .int b, .int c, .int (-2), .int c]))] : va_W))).Perm (cw cy (adS ad ns q) nl (ns + 1) par (Rl ++ [(7, ns)]) (dS d ns a b c) ++ B) := by
  have e1 : cw cy (adS ad ns q) nl (ns + 1) par (Rl ++ [(7, ns)]) (dS d ns a b c) = cw cy (adS ad ns q) nl (ns + 1) par Rl (dS d ns a b c) ++ ([(q, .inr (2, [.int a, .int b, .int c, .int (-2), .int c]))] : va_W) := by
    unfold cw
    rw [List.map_append, List.map_cons, List.map_nil]
    congr 2
    show (adS ad ns q 7 ns, cw_e cy (adS ad ns q) nl (ns + 1) par (dS d ns a b c 7 ns) 7 ns) = _
    rw [dS_n, show adS ad ns q 7 ns = q by simp [adS]]
    rfl
  rw [e1, cw_cg (d := up3 d 1 0 1 (nI ns + 1)) fun r hr => dS_o d ns a b c fun z => by
    have := (h.2 7 ns).mp (by rw [← z.1, ← z.2]; exact hr)
    omega]
  exact pm_tail
theorem foldL {cy : Nat → ClassId} {ad : Nat → Nat → Nat} {Rl : List (Nat × Nat)} {q47 q7 ja : Nat} {t s : Int32} {B : va_W} (h : cw_ok nl ns Rl) (hj : ja < nl) : (cw cy (adL ad nl q47 q7) (nl + 1) ns (parL par nl ja) Rl (up3 d 0 0 3 (nI nl)) ++ (B ++ ([(q47, .inr (1, [.ref (ad 5 ja), .int t, .ref q7, .int 0, .int 0, .int s])), (q7, .inl (cy 0, 30, .inl (fun _ => 0)))] : va_W))).Perm (cw cy (adL ad nl q47 q7) (nl + 1) ns (parL par nl ja) (Rl ++ [(5, nl), (6, nl)]) (dL d nl t s) ++ B) := by
  have e1 : cw cy (adL ad nl q47 q7) (nl + 1) ns (parL par nl ja) (Rl ++ [(5, nl), (6, nl)]) (dL d nl t s) = cw cy (adL ad nl q47 q7) (nl + 1) ns (parL par nl ja) Rl (dL d nl t s) ++ ([(q47, .inr (1, [.ref (ad 5 ja), .int t, .ref q7, .int 0, .int 0, .int s])), (q7, .inl (cy 0, 30, .inl (fun _ => 0)))] : va_W) := by
    have a5 : adL ad nl q47 q7 5 nl = q47 := by simp [adL]
    have a6 : adL ad nl q47 q7 6 nl = q7 := by simp [adL]
    have aj : adL ad nl q47 q7 5 ja = ad 5 ja := by unfold adL; rw [if_neg (by omega), if_neg (by omega)]
    have pj : parL par nl ja nl = some ja := by simp [parL]
    unfold cw
    rw [List.map_append, List.map_cons, List.map_cons, List.map_nil]
    congr 1
    show [(adL ad nl q47 q7 5 nl, (.inr (1, [va_rf ((parL par nl ja nl).map (adL ad nl q47 q7 5)), .int (dL d nl t s 5 nl 1), .ref (adL ad nl q47 q7 6 nl), .int (dL d nl t s 5 nl 3), .int (dL d nl t s 5 nl 4), .int (dL d nl t s 5 nl 5)]) : va_E)), (adL ad nl q47 q7 6 nl, (.inl (cy 0, 30, .inl (dL d nl t s 6 nl)) : va_E))] = _
    rw [pj, Option.map_some, aj, a5, a6, dL_5, dL_6]
    rfl
  rw [e1, cw_cg (d := up3 d 0 0 3 (nI nl)) fun r hr => dL_o d nl t s (fun z => by
    have := (h.2 5 nl).mp (by rw [← z.1, ← z.2]; exact hr)
    omega) (fun z => by
    have := (h.2 6 nl).mp (by rw [← z.1, ← z.2]; exact hr)
    omega)]
  exact pm_tail
end KQ
