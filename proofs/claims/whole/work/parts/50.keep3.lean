/-! WHAT THE LAW KEEPS -/
section KJ
variable {ns nl : Nat} {par : Nat → Option Nat} {mm : Nat → Nat → Int32} {d : Nat → Nat → Nat → Int32}
def JJ (ns nl : Nat) (par : Nat → Option Nat) (mm : Nat → Nat → Int32) (d : Nat → Nat → Nat → Int32) : Prop := mOK ns nl par mm ∧ cRp ns nl mm d
theorem JJ.t (h : JJ ns nl par mm d) {m2 : Nat → Nat → Int32} {v : Int32} (e : m2 = up2 mm 0 17 v) : JJ ns nl par m2 d ∧ m2 0 17 = v := by
  subst e
  exact ⟨⟨h.1.t v, h.2.t v⟩, up2_same mm 0 17 v⟩
theorem JJ.k (h : JJ ns nl par mm d) {m2 : Nat → Nat → Int32} {d2 : Nat → Nat → Nat → Int32} (hk : mKp mm m2) (hf : dFr d d2) : JJ ns nl par m2 d2 := ⟨h.1.kp hk, h.2.kp hf hk⟩
theorem e_addShip_1 {a b c : Int32} (h : (inB a 0 29 && inB b 0 2 && inB c 1 100) = false) : (sp_addShip ns mm a b c).2 = up2 mm 0 17 1 := by unfold sp_addShip; rw [if_pos h]
theorem e_addShip_2 {a b c : Int32} (h : (inB a 0 29 && inB b 0 2 && inB c 1 100) = true ∧ ns = 8) : (sp_addShip ns mm a b c).2 = up2 mm 0 17 2 := by unfold sp_addShip; rw [if_neg (by rw [h.1]; decide), if_pos h.2]
theorem e_setRate_1 {b t : Int32} (h : inB b 0 2 = false) : (sp_setRate mm b t).2 = up2 mm 0 17 1 := by unfold sp_setRate; rw [if_pos h]
theorem e_setRate_2 {b t : Int32} (h : inB b 0 2 = true ∧ inB t 0 20 = false) : (sp_setRate mm b t).2 = up2 mm 0 17 2 := by unfold sp_setRate; rw [if_neg (by rw [h.1]; decide), if_pos h.2]
theorem e_setRules_1 {a b : Int32} (h : (inB a 0 100 && inB b 0 100) = false) : sp_setRules mm a b = up2 mm 0 17 1 := by unfold sp_setRules; rw [if_neg (by rw [h]; decide)]
theorem e_fork_1 {a t : Int32} (h : (inB a 0 (nI nl - 1) && inB t 0 29) = false) : (sp_fork nl mm a t).2 = up2 mm 0 17 1 := by unfold sp_fork; rw [if_pos h]
theorem e_fork_2 {a t : Int32} (h : (inB a 0 (nI nl - 1) && inB t 0 29) = true ∧ nl = 9) : (sp_fork nl mm a t).2 = up2 mm 0 17 2 := by unfold sp_fork; rw [if_neg (by rw [h.1]; decide), if_pos h.2]
theorem e_order_1 {a t k z b : Int32} (h : (inB a 0 (nI nl - 1) && inB t 0 29 && inB z 0 (nI ns - 1) && inB b 0 2) = false) : (sp_order nl ns mm a t k z b).2 = up2 mm 0 17 1 := by unfold sp_order; rw [if_pos h]
theorem e_order_2 {a t k z b : Int32} (h : (inB a 0 (nI nl - 1) && inB t 0 29 && inB z 0 (nI ns - 1) && inB b 0 2) = true ∧ inB k 0 2 = false) : (sp_order nl ns mm a t k z b).2 = up2 mm 0 17 2 := by unfold sp_order; rw [if_neg (by rw [h.1]; decide), if_pos h.2]
theorem e_order_3 {a t k z b : Int32} (h : (inB a 0 (nI nl - 1) && inB t 0 29 && inB z 0 (nI ns - 1) && inB b 0 2) = true ∧ inB k 0 2 = true ∧ t < mm 9 a.toNatClampNeg) : (sp_order nl ns mm a t k z b).2 = up2 mm 0 17 3 := by unfold sp_order; rw [if_neg (by rw [h.1]; decide), if_neg (by rw [h.2.1]; decide), if_pos h.2.2]
theorem e_takeAway_1 {a t : Int32} (h : (inB a 0 (nI nl - 1) && inB t 0 29) = false) : (sp_takeAway nl mm a t).2 = up2 mm 0 17 1 := by unfold sp_takeAway; rw [if_pos h]
theorem e_orderOf_1 {a t : Int32} (h : (inB a 0 (nI nl - 1) && inB t 0 29) = false) : (sp_orderOf nl par mm a t).2 = up2 mm 0 17 1 := by unfold sp_orderOf; rw [if_pos h]
theorem e_differences_1 {a b : Int32} (h : (inB a 0 (nI nl - 1) && inB b 0 (nI nl - 1)) = false) : (sp_differences nl par mm a b).2 = up2 mm 0 17 1 := by unfold sp_differences; rw [if_pos h]
theorem e_seen_1 {a : Int32} (h : inB a 0 (nI nl - 1) = false) : (sp_seen nl mm a).2 = up2 mm 0 17 1 := by unfold sp_seen; rw [if_pos h]
theorem e_ahead_1 {a : Int32} (h : inB a 0 (nI nl - 1) = false) : (sp_ahead nl mm a).2 = up2 mm 0 17 1 := by unfold sp_ahead; rw [if_pos h]
theorem n_setRate {b t : Int32} (h : JJ ns nl par mm d) (g1 : inB b 0 2 = true) (g2 : inB t 0 20 = true) : JJ ns nl par (sp_setRate mm b t).2 (up3 d 4 0 b.toNatClampNeg t) ∧ (sp_setRate mm b t).1 = d 4 0 b.toNatClampNeg ∧ (sp_setRate mm b t).2 0 17 = 0 := let q := rate_ok h.1 h.2 g1 g2; ⟨⟨q.1, q.2.1⟩, q.2.2⟩
theorem n_setRules {a b : Int32} (h : JJ ns nl par mm d) (g1 : (inB a 0 100 && inB b 0 100) = true) : JJ ns nl par (sp_setRules mm a b) (up3 (up3 d 1 0 3 a) 1 0 4 b) ∧ (sp_setRules mm a b) 0 17 = 0 := let q := rules_ok h.1 h.2 g1; ⟨⟨q.1, q.2.1⟩, q.2.2⟩
theorem n_addShip {a b c : Int32} (h : JJ ns nl par mm d) (g1 : (inB a 0 29 && inB b 0 2 && inB c 1 100) = true) (g2 : ¬ ns = 8) : JJ (ns + 1) nl par (sp_addShip ns mm a b c).2 (dS d ns a b c) ∧ (sp_addShip ns mm a b c).1 = nI ns ∧ (sp_addShip ns mm a b c).2 0 17 = 0 := let q := ship_ok h.1 h.2 g1 g2; ⟨⟨q.1, q.2.1⟩, q.2.2⟩
theorem n_fork {a t : Int32} {ja jt : Nat} (h : JJ ns nl par mm d) (g2 : ¬ nl = 9) (g3 : a = nI ja) (g4 : t = nI jt) (g5 : ja < nl) (g6 : jt < 30) : JJ ns (nl + 1) (parL par nl ja) (sp_fork nl mm a t).2 (dL d nl (nI jt) (d 5 ja 5)) ∧ (sp_fork nl mm a t).1 = nI nl ∧ (sp_fork nl mm a t).2 0 17 = 0 := by
  subst g3; subst g4
  have q := fork_ok h.1 h.2 g5 g6 g2
  exact ⟨⟨q.1, q.2.1⟩, q.2.2⟩
theorem n_order {a t k z b : Int32} (h : JJ ns nl par mm d) (g1 : (inB a 0 (nI nl - 1) && inB t 0 29 && inB z 0 (nI ns - 1) && inB b 0 2) = true) (g2 : inB k 0 2 = true) (g3 : ¬ t < mm 9 a.toNatClampNeg) : JJ ns nl par (sp_order nl ns mm a t k z b).2 (givD d a.toNatClampNeg t.toNatClampNeg (codeI k z b) (ahC par d a.toNatClampNeg t.toNatClampNeg)) ∧ (sp_order nl ns mm a t k z b).1 = bI (ahC par d a.toNatClampNeg t.toNatClampNeg) ∧ (sp_order nl ns mm a t k z b).2 0 17 = 0 := by
  have h9 := h.1.1.2.2.2.2
  have h1 := h.1.1.2.2.2.1
  have h8 := h.1.1.2.1
  obtain ⟨q1, qb⟩ := Bool.and_eq_true_iff.mp g1
  obtain ⟨q2, qz⟩ := Bool.and_eq_true_iff.mp q1
  obtain ⟨qa, qt⟩ := Bool.and_eq_true_iff.mp q2
  obtain ⟨ja, hja, rfl⟩ := inB_nI h1 (by omega) qa
  obtain ⟨jt, hjt, rfl⟩ := inB_k qt (by decide) (n := 30) (by decide)
  obtain ⟨jz, hjz, rfl⟩ := inB_nS h8 qz
  obtain ⟨jb, hjb, rfl⟩ := inB_k qb (by decide) (n := 3) (by decide)
  rw [nI_clamp (show ja < 2 ^ 31 by omega)] at g3
  rw [nI_clamp (show ja < 2 ^ 31 by omega), nI_clamp (show jt < 2 ^ 31 by omega)]
  have q := order_ok h.1 h.2 hja hjt hjz hjb g2 g3
  exact ⟨⟨q.1, q.2.1⟩, q.2.2⟩
theorem n_takeAway {a t : Int32} (h : JJ ns nl par mm d) (g1 : (inB a 0 (nI nl - 1) && inB t 0 29) = true) : JJ ns nl par (sp_takeAway nl mm a t).2 (drpD d a.toNatClampNeg t.toNatClampNeg) ∧ (sp_takeAway nl mm a t).1 = bI (decide (¬ d 5 a.toNatClampNeg 3 &&& 1 <<< (t &&& 31) = 0)) ∧ (sp_takeAway nl mm a t).2 0 17 = 0 := by
  have h9 := h.1.1.2.2.2.2
  have h1 := h.1.1.2.2.2.1
  obtain ⟨qa, qt⟩ := Bool.and_eq_true_iff.mp g1
  obtain ⟨ja, hja, rfl⟩ := inB_nI h1 (by omega) qa
  obtain ⟨jt, hjt, rfl⟩ := inB_k qt (by decide) (n := 30) (by decide)
  rw [nI_clamp (show ja < 2 ^ 31 by omega), nI_clamp (show jt < 2 ^ 31 by omega)]
  have q := take_ok h.1 h.2 hja hjt
  exact ⟨⟨q.1, q.2.1⟩, q.2.2⟩
theorem n_orderOf {a t : Int32} (h : JJ ns nl par mm d) (g1 : (inB a 0 (nI nl - 1) && inB t 0 29) = true) : JJ ns nl par (sp_orderOf nl par mm a t).2 d ∧ (sp_orderOf nl par mm a t).1 = ordX (mm 11) par t.toNatClampNeg (some a.toNatClampNeg) ∧ (sp_orderOf nl par mm a t).2 0 17 = 0 := by
  have e : sp_orderOf nl par mm a t = (ordX (mm 11) par t.toNatClampNeg (some a.toNatClampNeg), up2 mm 0 17 0) := by unfold sp_orderOf; rw [if_neg (by rw [g1]; decide)]
  rw [e]
  exact ⟨(h.t rfl).1, rfl, rfl⟩
theorem n_differences {a b : Int32} (h : JJ ns nl par mm d) (g1 : (inB a 0 (nI nl - 1) && inB b 0 (nI nl - 1)) = true) : JJ ns nl par (sp_differences nl par mm a b).2 d ∧ (sp_differences nl par mm a b).1 = bset (difP (mm 11) par a.toNatClampNeg b.toNatClampNeg) 30 ∧ (sp_differences nl par mm a b).2 0 17 = 0 := by
  have e : sp_differences nl par mm a b = (bset (difP (mm 11) par a.toNatClampNeg b.toNatClampNeg) 30, up2 mm 0 17 0) := by unfold sp_differences; rw [if_neg (by rw [g1]; decide)]
  rw [e]
  exact ⟨(h.t rfl).1, rfl, rfl⟩
theorem n_seen {a : Int32} (h : JJ ns nl par mm d) (g1 : inB a 0 (nI nl - 1) = true) : JJ ns nl par (sp_seen nl mm a).2 d ∧ (sp_seen nl mm a).1 = mm 10 a.toNatClampNeg ∧ (sp_seen nl mm a).2 0 17 = 0 := by
  have e : sp_seen nl mm a = (mm 10 a.toNatClampNeg, up2 mm 0 17 0) := by unfold sp_seen; rw [if_neg (by rw [g1]; decide)]
  rw [e]
  exact ⟨(h.t rfl).1, rfl, rfl⟩
theorem n_ahead {a : Int32} (h : JJ ns nl par mm d) (g1 : inB a 0 (nI nl - 1) = true) : JJ ns nl par (sp_ahead nl mm a).2 d ∧ (sp_ahead nl mm a).1 = aheadI mm a.toNatClampNeg ∧ (sp_ahead nl mm a).2 0 17 = 0 := by
  have e : sp_ahead nl mm a = (aheadI mm a.toNatClampNeg, up2 mm 0 17 0) := by unfold sp_ahead; rw [if_neg (by rw [g1]; decide)]
  rw [e]
  exact ⟨(h.t rfl).1, rfl, rfl⟩
theorem n_look {a t : Int32} {ja jt : Nat} {m2 : Nat → Nat → Int32} {d2 : Nat → Nat → Nat → Int32} (h : JJ ns nl par mm d) (g1 : (inB a 0 (nI nl - 1) && inB t 0 29) = true) (g2 : a = nI ja) (g3 : t = nI jt) (g4 : ja < nl) (g5 : dFr (up3 d 5 ja 5 (if mm 10 ja < nI jt then nI jt else mm 10 ja)) d2) (hk : mKp (lkM nl mm a t) m2) : JJ ns nl par m2 d2 := by
  subst g2; subst g3
  exact look_ok h.1 h.2 g4 g1 hk g5
theorem lkM_f {a t : Int32} (h : (inB a 0 (nI nl - 1) && inB t 0 29) = false) : lkM nl mm a t = mm := by unfold lkM; rw [if_pos h]
end KJ
