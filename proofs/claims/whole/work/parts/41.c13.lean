section VC13
/-- one cell of the class's world is set, and the addresses of roles that it doesn't have may change -/
theorem cw_ch {cy : Nat → ClassId} {ad ad' : Nat → Nat → Nat} {nl ns nl' ns' : Nat} {par par' : Nat → Option Nat} {Rl : List (Nat × Nat)} {d : Nat → Nat → Nat → Int32} {X : va_W} {a i : Nat} (hn : Rl.Nodup) (h : (a, i) ∈ Rl) {en : va_E} (he : cw_e cy ad' nl' ns' par' (d a i) a i = en) (had : ∀ r ∈ Rl, ad' r.1 r.2 = ad r.1 r.2) (ho : ∀ r ∈ Rl, r ≠ (a, i) → cw_e cy ad' nl' ns' par' (d r.1 r.2) r.1 r.2 = cw_e cy ad nl ns par (d r.1 r.2) r.1 r.2) : ∃ q0 : Nat, (cw cy ad nl ns par Rl d ++ X)[q0]? = some (ad a i, cw_e cy ad nl ns par (d a i) a i) ∧ (cw cy ad nl ns par Rl d ++ X).set q0 (ad a i, en) = cw cy ad' nl' ns' par' Rl d ++ X := by
  obtain ⟨q, hq, hqe⟩ := List.getElem_of_mem h
  have hlen : q < (cw cy ad nl ns par Rl d).length := by simpa [cw] using hq
  refine ⟨q, ?_, ?_⟩
  · rw [List.getElem?_append_left hlen]
    simp [cw, hq, hqe]
  · rw [List.set_append_left _ _ hlen]
    congr 1
    apply List.ext_getElem
    · simp [cw]
    · intro j h1 h2
      rw [List.getElem_set]
      have hj : j < Rl.length := by simpa [cw] using h2
      by_cases hqj : q = j
      · subst hqj
        have e1 : ad' (Rl[q]).1 (Rl[q]).2 = ad (Rl[q]).1 (Rl[q]).2 := had _ (List.getElem_mem hq)
        rw [if_pos rfl]
        simp only [cw, List.getElem_map]
        rw [e1, hqe, he]
      · have hne : Rl[j] ≠ (a, i) := fun hx => by
          rcases Nat.lt_or_gt_of_ne hqj with z | z
          · exact (List.pairwise_iff_getElem.mp hn) q j hq hj z (hqe.trans hx.symm)
          · exact (List.pairwise_iff_getElem.mp hn) j q hj hq z (hx.trans hqe.symm)
        rw [if_neg hqj]
        simp only [cw, List.getElem_map]
        rw [had _ (List.getElem_mem hj), ho _ (List.getElem_mem hj) hne]
/-- a ship's address beside the others -/
def adS (ad : Nat → Nat → Nat) (ns q : Nat) : Nat → Nat → Nat := fun a i => if a = 7 ∧ i = ns then q else ad a i
/-- a line's and its orders' -/
def adL (ad : Nat → Nat → Nat) (nl q q1 : Nat) : Nat → Nat → Nat := fun a i => if a = 5 ∧ i = nl then q else if a = 6 ∧ i = nl then q1 else ad a i
def parL (par : Nat → Option Nat) (nl j : Nat) : Nat → Option Nat := fun i => if i = nl then some j else par i
theorem row_S {ad : Nat → Nat → Nat} {ns q : Nat} : va_up (fun k => if k < ns then some (ad 7 k) else none) ns (some q) = fun k => if k < ns + 1 then some (adS ad ns q 7 k) else none := by
  funext k
  by_cases h : k = ns
  · subst h; simp [va_up, adS]
  · by_cases h2 : k < ns
    · have : k < ns + 1 := by omega
      simp [va_up, adS, h, h2, this]
    · have : ¬ k < ns + 1 := by omega
      simp [va_up, h, h2, this]
theorem row_L {ad : Nat → Nat → Nat} {nl q q1 : Nat} : va_up (fun k => if k < nl then some (ad 5 k) else none) nl (some q) = fun k => if k < nl + 1 then some (adL ad nl q q1 5 k) else none := by
  funext k
  by_cases h : k = nl
  · subst h; simp [va_up, adL]
  · by_cases h2 : k < nl
    · have : k < nl + 1 := by omega
      simp [va_up, adL, h, h2, this]
    · have : ¬ k < nl + 1 := by omega
      simp [va_up, h, h2, this]
theorem adS_o {ad : Nat → Nat → Nat} {nl ns q : Nat} {Rl : List (Nat × Nat)} (hok : cw_ok nl ns Rl) : ∀ r ∈ Rl, adS ad ns q r.1 r.2 = ad r.1 r.2 := fun r hr => by
  have h := (hok.2 r.1 r.2).mp hr
  unfold adS
  rw [if_neg (by omega)]
theorem adL_o {ad : Nat → Nat → Nat} {nl ns q q1 : Nat} {Rl : List (Nat × Nat)} (hok : cw_ok nl ns Rl) : ∀ r ∈ Rl, adL ad nl q q1 r.1 r.2 = ad r.1 r.2 := fun r hr => by
  have h := (hok.2 r.1 r.2).mp hr
  unfold adL
  rw [if_neg (by omega), if_neg (by omega)]
theorem cw_S {cy : Nat → ClassId} {ad : Nat → Nat → Nat} {nl ns q : Nat} {par : Nat → Option Nat} {Rl : List (Nat × Nat)} {d : Nat → Nat → Nat → Int32} {X : va_W} (hok : cw_ok nl ns Rl) : ∃ q0 : Nat, (cw cy ad nl ns par Rl d ++ X)[q0]? = some (ad 3 0, .inl (cy 3, 8, .inr (.inr (.inr (.inr (fun k => if k < ns then some (ad 7 k) else none)))))) ∧ (cw cy ad nl ns par Rl d ++ X).set q0 (ad 3 0, .inl (cy 3, 8, .inr (.inr (.inr (.inr (va_up (fun k => if k < ns then some (ad 7 k) else none) ns (some q))))))) = cw cy (adS ad ns q) nl (ns + 1) par Rl d ++ X := by
  refine cw_ch (ad' := adS ad ns q) (nl' := nl) (ns' := ns + 1) (par' := par) hok.1 (cR3 hok) ?_ (adS_o hok) (fun r hr hne => ?_)
  · rw [row_S]; rfl
  · have h := (hok.2 r.1 r.2).mp hr
    have hr2 : ¬ (r.1 = 3 ∧ r.2 = 0) := fun z => hne (Prod.ext z.1 z.2)
    obtain ⟨a, i⟩ := r
    rcases (show a = 0 ∨ a = 1 ∨ a = 2 ∨ a = 4 ∨ a = 5 ∨ a = 6 ∨ a = 7 by simp only at h hr2; omega) with rfl | rfl | rfl | rfl | rfl | rfl | rfl <;> rfl
theorem cw_L {cy : Nat → ClassId} {ad : Nat → Nat → Nat} {nl ns q q1 j : Nat} {par : Nat → Option Nat} {Rl : List (Nat × Nat)} {d : Nat → Nat → Nat → Int32} {X : va_W} (hok : cw_ok nl ns Rl) (h19 : 1 ≤ nl) (hp : ∀ i p, par i = some p → p < i) : ∃ q0 : Nat, (cw cy ad nl ns par Rl d ++ X)[q0]? = some (ad 2 0, .inl (cy 2, 9, .inr (.inr (.inr (.inr (fun k => if k < nl then some (ad 5 k) else none)))))) ∧ (cw cy ad nl ns par Rl d ++ X).set q0 (ad 2 0, .inl (cy 2, 9, .inr (.inr (.inr (.inr (va_up (fun k => if k < nl then some (ad 5 k) else none) nl (some q))))))) = cw cy (adL ad nl q q1) (nl + 1) ns (parL par nl j) Rl d ++ X := by
  refine cw_ch (ad' := adL ad nl q q1) (nl' := nl + 1) (ns' := ns) (par' := parL par nl j) hok.1 (cR2 hok) ?_ (adL_o hok) (fun r hr hne => ?_)
  · rw [row_L (q1 := q1)]; rfl
  · have h := (hok.2 r.1 r.2).mp hr
    have hr2 : ¬ (r.1 = 2 ∧ r.2 = 0) := fun z => hne (Prod.ext z.1 z.2)
    obtain ⟨a, i⟩ := r
    have h5 : ∀ k, k < nl → adL ad nl q q1 5 k = ad 5 k := fun k hk => by unfold adL; rw [if_neg (by omega), if_neg (by omega)]
    have h6 : ∀ k, k < nl → adL ad nl q q1 6 k = ad 6 k := fun k hk => by unfold adL; rw [if_neg (by omega), if_neg (by omega)]
    rcases (show a = 0 ∨ a = 1 ∨ a = 3 ∨ a = 4 ∨ (a = 5 ∧ i < nl) ∨ a = 6 ∨ a = 7 by simp only at h hr2; omega) with rfl | rfl | rfl | rfl | ⟨rfl, hi⟩ | rfl | rfl
    · simp only [cw_e]
      rw [h5 0 h19]; rfl
    · rfl
    · rfl
    · rfl
    · simp only [cw_e]
      rw [h6 i hi, show parL par nl j i = par i by unfold parL; rw [if_neg (by omega)]]
      cases hpi : par i with
      | none => rfl
      | some p =>
        have := hp i p hpi
        simp only [Option.map]
        rw [h5 p (by omega)]
    · rfl
    · rfl
end VC13
