/-! PLAYING A LINE, as a function -/
section PL
theorem vl_join {p : Program} {l : Launch} {e : Env} {R : Room} {s : State} {m : MethodId} {args : Array Value} {below : List Frame} {meth : Method} {c : Code} {Q : State → Prop} {D : va_G} {A : Nat → Prop} {nL : Nat} {w : va_W} {k n : Nat} {lv : List (Nat × Value)} {pc : Nat} {st : List Value} {w2 : va_W} {k2 n2 : Nat} {lv2 : List (Nat × Value)} (pc2 : Nat) {st2 : List Value} (h2 : vl_V p l e R s m args below meth c Q D A nL w2 k2 n2 lv2 pc2 st2) (h1 : vl_V p l e R s m args below meth c Q D A nL w2 k2 n2 lv2 pc2 st2 → vl_V p l e R s m args below meth c Q D A nL w k n lv pc st) : vl_V p l e R s m args below meth c Q D A nL w k n lv pc st := h1 h2
abbrev plS : Type := (Nat → Int32) × (Nat → Int32) × Int32 × Int32
def tideI (t : Nat) : Int32 := if nI t - nI t / 4 * 4 = 3 then 1 else nI t - nI t / 4 * 4
def freeB (wh : Nat → Int32) (b : Int32) : Nat → Bool
  | 0 => true
  | k + 1 => freeB wh b k && decide (¬ wh k = b)
def canB (n : Nat) (dr wh lf : Nat → Int32) (k : Int32) (s : Nat) (b : Int32) (t : Nat) : Bool := if tideI t < dr s then false else if k = 2 then decide (0 ≤ wh s) && decide (lf s = 0) else decide (wh s = -1) && freeB wh b n
def shI (c : Int32) : Int32 := c / 10 - c / 10 / 10 * 10
def beI (c : Int32) : Int32 := c - c / 10 * 10
def comeA (cm : Nat → Int32) (t : Nat) (wh : Nat → Int32) : Nat → Int32 := fun k => if cm k = nI t then -1 else wh k
def doesS (n : Nat) (dr : Nat → Int32) (c : Int32) (t : Nat) (S : plS) : plS := if c / 100 = 0 then S else if canB n dr S.1 S.2.1 (c / 100) (shI c).toNatClampNeg (beI c) t = true then (upd S.1 (shI c).toNatClampNeg (if c / 100 = 1 then beI c else -3), S.2.1, S.2.2.1, S.2.2.2) else (S.1, S.2.1, S.2.2.1, S.2.2.2 ||| 1 <<< (nI t &&& 31))
def manyI (rt wh lf : Nat → Int32) (k : Nat) : Int32 := if lf k < rt (wh k).toNatClampNeg then lf k else rt (wh k).toNatClampNeg
def earnL (rt wh lf : Nat → Int32) : Nat → Int32 := fun k => if 0 ≤ wh k then lf k - manyI rt wh lf k else lf k
def earnE (rt : Nat → Int32) (pr fe : Int32) (wh lf : Nat → Int32) (e : Int32) : Nat → Int32
  | 0 => e
  | k + 1 => (if 0 ≤ wh k then earnE rt pr fe wh lf e k + pr * manyI rt wh lf k else earnE rt pr fe wh lf e k) - (if wh k = -1 then fe else 0)
def turnS (n : Nat) (cm dr rt : Nat → Int32) (pr fe : Int32) (c : Int32) (t : Nat) (S : plS) : plS := ((doesS n dr c t (comeA cm t S.1, S.2)).1, earnL rt (doesS n dr c t (comeA cm t S.1, S.2)).1 (doesS n dr c t (comeA cm t S.1, S.2)).2.1, earnE rt pr fe (doesS n dr c t (comeA cm t S.1, S.2)).1 (doesS n dr c t (comeA cm t S.1, S.2)).2.1 (doesS n dr c t (comeA cm t S.1, S.2)).2.2.1 n, (doesS n dr c t (comeA cm t S.1, S.2)).2.2.2)
def playS (n : Nat) (cm dr cg rt : Nat → Int32) (pr fe : Int32) (od : Nat → Int32) : Nat → plS
  | 0 => (fun _ => -2, cg, 0, 0)
  | t + 1 => turnS n cm dr rt pr fe (od t) t (playS n cm dr cg rt pr fe od t)
/-- numbers of orders that can be kept -/
def codeOK (n : Nat) (c : Int32) : Prop := c = 0 ∨ (∃ s b : Nat, s < n ∧ b < 3 ∧ c = nI (100 + 10 * s + b)) ∨ ∃ s : Nat, s < n ∧ c = nI (200 + 10 * s)
theorem code_b : ∀ s, s < 8 → ∀ b, b < 3 → nI (100 + 10 * s + b) / 100 = 1 ∧ shI (nI (100 + 10 * s + b)) = nI s ∧ beI (nI (100 + 10 * s + b)) = nI b := by decide +kernel
theorem code_l : ∀ s, s < 8 → nI (200 + 10 * s) / 100 = 2 ∧ shI (nI (200 + 10 * s)) = nI s ∧ beI (nI (200 + 10 * s)) = 0 := by decide +kernel
/-- what is read off the number of an order -/
theorem code_sp {n : Nat} {c : Int32} (hn : n ≤ 8) (h : codeOK n c) : (c / 100 = 0 ∧ c = 0) ∨ (∃ s b : Nat, s < n ∧ b < 3 ∧ c / 100 = 1 ∧ shI c = nI s ∧ beI c = nI b ∧ ¬ c = 0) ∨ ∃ s : Nat, s < n ∧ c / 100 = 2 ∧ shI c = nI s ∧ beI c = 0 ∧ ¬ c = 0 := by
  rcases h with rfl | ⟨s, b, hs, hb, rfl⟩ | ⟨s, hs, rfl⟩
  · exact Or.inl ⟨by decide, rfl⟩
  · obtain ⟨h1, h2, h3⟩ := code_b s (by omega) b hb
    exact Or.inr (Or.inl ⟨s, b, hs, hb, h1, h2, h3, nI_ne0 (by omega) (by omega)⟩)
  · obtain ⟨h1, h2, h3⟩ := code_l s (by omega)
    exact Or.inr (Or.inr ⟨s, hs, h1, h2, h3, nI_ne0 (by omega) (by omega)⟩)
def placeOK (x : Int32) : Prop := x = -3 ∨ x = -2 ∨ x = -1 ∨ x = 0 ∨ x = 1 ∨ x = 2
theorem place_in {x : Int32} (h : placeOK x) (h0 : 0 ≤ x) : vp_in x 3 := by
  rcases h with rfl | rfl | rfl | rfl | rfl | rfl
  · exact absurd h0 (by decide)
  · exact absurd h0 (by decide)
  · exact absurd h0 (by decide)
  · exact vp_in_iff.mpr (by decide)
  · exact vp_in_iff.mpr (by decide)
  · exact vp_in_iff.mpr (by decide)
theorem place_nI {b : Nat} (h : b < 3) : placeOK (nI b) := by
  rcases (show b = 0 ∨ b = 1 ∨ b = 2 by omega) with rfl | rfl | rfl
  · exact Or.inr (Or.inr (Or.inr (Or.inl rfl)))
  · exact Or.inr (Or.inr (Or.inr (Or.inr (Or.inl rfl))))
  · exact Or.inr (Or.inr (Or.inr (Or.inr (Or.inr rfl))))
theorem come_ok {cm : Nat → Int32} {t : Nat} {wh : Nat → Int32} (h : ∀ k, placeOK (wh k)) : ∀ k, placeOK (comeA cm t wh k) := fun k => by
  unfold comeA
  split
  · exact Or.inr (Or.inr (Or.inl rfl))
  · exact h k
theorem does_ok {n : Nat} {dr : Nat → Int32} {c : Int32} {t : Nat} {S : plS} (hn : n ≤ 8) (hc : codeOK n c) (h : ∀ k, placeOK (S.1 k)) : ∀ k, placeOK ((doesS n dr c t S).1 k) := fun k => by
  unfold doesS
  split
  · exact h k
  · split
    · dsimp only [upd]
      split
      · split
        · rcases code_sp hn hc with ⟨h1, -⟩ | ⟨s, b, hs, hb, h1, h2, h3, h4⟩ | ⟨s, hs, h1, h2, h3, h4⟩
          · contradiction
          · rw [h3]; exact place_nI hb
          · rw [h3]; exact Or.inr (Or.inr (Or.inr (Or.inl rfl)))
        · exact Or.inl rfl
      · exact h k
    · exact h k
theorem play_ok {n : Nat} {cm dr cg rt : Nat → Int32} {pr fe : Int32} {od : Nat → Int32} (hn : n ≤ 8) : ∀ t : Nat, (∀ i, i < t → codeOK n (od i)) → ∀ k, placeOK ((playS n cm dr cg rt pr fe od t).1 k) := by
  intro t
  induction t with
  | zero => intro _ k; exact Or.inr (Or.inl rfl)
  | succ t ih => intro ho k; exact does_ok hn (ho t (Nat.lt_succ_self t)) (come_ok (ih fun i hi => ho i (by omega))) k
theorem upd_step {f new old : Nat → Int32} {n k : Nat} {v : Int32} (h : ∀ i, i < n → f i = if i < k then new i else old i) (hv : v = new k) : ∀ i, i < n → upd f k v i = if i < k + 1 then new i else old i := fun i hi => by
  by_cases hik : i = k
  · subst hik; simp [upd, hv]
  · have h2 := h i hi
    simp only [upd, hik, if_false, h2]
    by_cases h3 : i < k
    · rw [if_pos h3, if_pos (by omega)]
    · rw [if_neg h3, if_neg (by omega)]
theorem upd_skip {f new old : Nat → Int32} {n k : Nat} (h : ∀ i, i < n → f i = if i < k then new i else old i) (hv : old k = new k) : ∀ i, i < n → f i = if i < k + 1 then new i else old i := fun i hi => by
  rw [h i hi]
  by_cases hik : i = k
  · subst hik; rw [if_neg (Nat.lt_irrefl i), if_pos (Nat.lt_succ_self i), hv]
  · by_cases h3 : i < k
    · rw [if_pos h3, if_pos (by omega)]
    · rw [if_neg h3, if_neg (by omega)]
theorem upd_at {f new old : Nat → Int32} {n k : Nat} (h : ∀ i, i < n → f i = if i < k then new i else old i) (hk : k < n) : f k = old k := by rw [h k hk, if_neg (Nat.lt_irrefl k)]
theorem upd_end {f new old : Nat → Int32} {n : Nat} (h : ∀ i, i < n → f i = if i < n then new i else old i) : ∀ i, i < n → f i = new i := fun i hi => by rw [h i hi, if_pos hi]
theorem freeB_c {wh wh' : Nat → Int32} {b : Int32} : ∀ n : Nat, (∀ i, i < n → wh i = wh' i) → freeB wh b n = freeB wh' b n := by
  intro n
  induction n with
  | zero => intro _; rfl
  | succ n ih => intro h; rw [freeB, freeB, ih fun i hi => h i (by omega), h n (Nat.lt_succ_self n)]
theorem canB_c {n : Nat} {dr wh lf wh' lf' : Nat → Int32} {k : Int32} {s : Nat} {b : Int32} {t : Nat} (hs : s < n) (h1 : ∀ i, i < n → wh i = wh' i) (h2 : ∀ i, i < n → lf i = lf' i) : canB n dr wh lf k s b t = canB n dr wh' lf' k s b t := by
  unfold canB
  rw [h1 s hs, h2 s hs, freeB_c n h1]
theorem many_c {rt wh lf wh' lf' : Nat → Int32} {k : Nat} (h1 : wh k = wh' k) (h2 : lf k = lf' k) : manyI rt wh lf k = manyI rt wh' lf' k := by
  unfold manyI
  rw [h1, h2]
/-- the reference's state, but for what a play writes -/
def mFr (m m' : Nat → Nat → Int32) : Prop := (∀ j, j ≠ 0 → j ≠ 13 → j ≠ 14 → m' j = m j) ∧ ∀ i, i ≠ 15 → i ≠ 16 → m' 0 i = m 0 i
theorem mFr.rf {m : Nat → Nat → Int32} : mFr m m := ⟨fun _ _ _ _ => rfl, fun _ _ _ => rfl⟩
theorem mFr.tr {m m' m2 : Nat → Nat → Int32} (h : mFr m m') (h2 : mFr m' m2) : mFr m m2 := ⟨fun j a b c => (h2.1 j a b c).trans (h.1 j a b c), fun i a b => (h2.2 i a b).trans (h.2 i a b)⟩
theorem mFr.up {m m' : Nat → Nat → Int32} (h : mFr m m') (j i : Nat) (v : Int32) (hj : j = 13 ∨ j = 14 ∨ (j = 0 ∧ (i = 15 ∨ i = 16))) : mFr m (up2 m' j i v) := by
  refine ⟨fun a h0 h1 h2 => ?_, fun b h1 h2 => ?_⟩
  · rw [show up2 m' j i v a = m' a by simp only [up2]; rw [if_neg (by omega)]]
    exact h.1 a h0 h1 h2
  · rw [show up2 m' j i v 0 b = m' 0 b by
      simp only [up2]
      split
      · rename_i h3
        subst h3
        simp only [upd]
        rw [if_neg (by omega)]
      · rfl]
    exact h.2 b h1 h2
/-- the reference's state tells the play S -/
def mPl (n : Nat) (m : Nat → Nat → Int32) (S : plS) : Prop := (∀ i, i < n → m 13 i = S.1 i) ∧ (∀ i, i < n → m 14 i = S.2.1 i) ∧ m 0 15 = S.2.2.1 ∧ m 0 16 = S.2.2.2
def doesM (n : Nat) (m : Nat → Nat → Int32) (c : Int32) (t : Nat) : Nat → Nat → Int32 := if c / 100 = 0 then m else if canB n (m 2) (m 13) (m 14) (c / 100) (shI c).toNatClampNeg (beI c) t = true then up2 m 13 (shI c).toNatClampNeg (if c / 100 = 1 then beI c else -3) else up2 m 0 16 (m 0 16 ||| 1 <<< (nI t &&& 31))
theorem doesM_fr {n : Nat} {m : Nat → Nat → Int32} {c : Int32} {t : Nat} : mFr m (doesM n m c t) := by
  unfold doesM
  split
  · exact mFr.rf
  · split
    · exact mFr.rf.up _ _ _ (Or.inl rfl)
    · exact mFr.rf.up _ _ _ (Or.inr (Or.inr ⟨rfl, Or.inr rfl⟩))
theorem doesM_pl {n : Nat} {m : Nat → Nat → Int32} {c : Int32} {t : Nat} {S : plS} (hn : n ≤ 8) (hc : codeOK n c) (h : mPl n m S) : mPl n (doesM n m c t) (doesS n (m 2) c t S) := by
  have key : ∀ s : Nat, s < n → shI c = nI s → canB n (m 2) (m 13) (m 14) (c / 100) (shI c).toNatClampNeg (beI c) t = canB n (m 2) S.1 S.2.1 (c / 100) (shI c).toNatClampNeg (beI c) t := fun s hs e => canB_c (by rw [e, nI_clamp (by omega)]; exact hs) h.1 h.2.1
  unfold doesM doesS
  by_cases h0 : c / 100 = 0
  · rw [if_pos h0, if_pos h0]; exact h
  · rw [if_neg h0, if_neg h0]
    have hk : canB n (m 2) (m 13) (m 14) (c / 100) (shI c).toNatClampNeg (beI c) t = canB n (m 2) S.1 S.2.1 (c / 100) (shI c).toNatClampNeg (beI c) t := by
      rcases code_sp hn hc with ⟨h1, -⟩ | ⟨s, b, hs, hb, h1, h2, h3, h4⟩ | ⟨s, hs, h1, h2, h3, h4⟩
      · exact absurd h1 h0
      · exact key s hs h2
      · exact key s hs h2
    rw [hk]
    by_cases h1 : canB n (m 2) S.1 S.2.1 (c / 100) (shI c).toNatClampNeg (beI c) t = true
    · rw [if_pos h1, if_pos h1]
      refine ⟨fun i hi => ?_, fun i hi => h.2.1 i hi, h.2.2.1, h.2.2.2⟩
      show upd (m 13) _ _ i = upd S.1 _ _ i
      simp only [upd]
      split
      · rfl
      · exact h.1 i hi
    · rw [if_neg h1, if_neg h1]
      refine ⟨fun i hi => h.1 i hi, fun i hi => h.2.1 i hi, h.2.2.1, ?_⟩
      show (m 0 16 ||| 1 <<< (nI t &&& 31) : Int32) = _
      rw [h.2.2.2]
end PL
