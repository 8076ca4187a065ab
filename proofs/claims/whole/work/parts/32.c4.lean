section VC4
theorem cPl_wh {n : Nat} {d : Nat → Nat → Nat → Int32} {S : plS} (h : cPl n d S) : ∀ i, i < n → whD d i = S.1 i := h.1
def ic2 (n : Nat) (m0 : Nat → Nat → Int32) (t : Nat) (S : plS) (d0 : Nat → Nat → Nat → Int32) (k : Nat) (d : Nat → Nat → Nat → Int32) : Prop := k ≤ 8 ∧ dFr d0 d ∧ (∀ i, i < n → whD d i = if i < k then comeA (m0 1) t S.1 i else S.1 i) ∧ (∀ i, i < n → lfD d i = S.2.1 i) ∧ d 1 0 5 = S.2.2.1 ∧ d 1 0 6 = S.2.2.2
theorem ic2_0 {n : Nat} {m0 : Nat → Nat → Int32} {t : Nat} {S : plS} {d : Nat → Nat → Nat → Int32} (h : cPl n d S) : ic2 n m0 t S d 0 d := ⟨Nat.zero_le _, dFr.rf, fun i hi => by rw [if_neg (Nat.not_lt_zero i)]; exact h.1 i hi, h.2.1, h.2.2.1, h.2.2.2⟩
theorem ic2_s {n : Nat} {m0 : Nat → Nat → Int32} {t : Nat} {S : plS} {d0 d : Nat → Nat → Nat → Int32} {k : Nat} (h : ic2 n m0 t S d0 k d) (hk8 : k < 8) (hk : k < n) (hc : m0 1 k = nI t) : ic2 n m0 t S d0 (k + 1) (up3 d 7 k 3 (-1)) := by
  obtain ⟨-, h1, h2, h3, h4, h5⟩ := h
  refine ⟨hk8, h1.up _ _ _ _ (Or.inr ⟨rfl, Or.inl rfl⟩), ?_, fun i hi => ?_, ?_, ?_⟩
  · rw [show whD (up3 d 7 k 3 (-1)) = upd (whD d) k (-1) from up3_row d 7 k 3 (-1)]
    exact upd_step h2 (by rw [comeA, if_pos hc])
  · rw [show lfD (up3 d 7 k 3 (-1)) = lfD d from up3_row2 d 7 k (-1) (by decide)]
    exact h3 i hi
  · rw [up3_ne d 3 (-1) (Or.inl (by decide))]; exact h4
  · rw [up3_ne d 3 (-1) (Or.inl (by decide))]; exact h5
theorem ic2_n {n : Nat} {m0 : Nat → Nat → Int32} {t : Nat} {S : plS} {d0 d : Nat → Nat → Nat → Int32} {k : Nat} (h : ic2 n m0 t S d0 k d) (hk8 : k < 8) (hc : k < n → ¬ m0 1 k = nI t) : ic2 n m0 t S d0 (k + 1) d := by
  obtain ⟨-, h1, h2, h3, h4, h5⟩ := h
  refine ⟨hk8, h1, fun i hi => ?_, h3, h4, h5⟩
  by_cases hik : i = k
  · subst hik
    rw [h2 i hi, if_neg (Nat.lt_irrefl i), if_pos (Nat.lt_succ_self i), comeA, if_neg (hc hi)]
  · rw [h2 i hi]
    by_cases h6 : i < k
    · rw [if_pos h6, if_pos (by omega)]
    · rw [if_neg h6, if_neg (by omega)]
theorem ic2_e {n : Nat} {m0 : Nat → Nat → Int32} {t : Nat} {S : plS} {d0 d : Nat → Nat → Nat → Int32} (hn : n ≤ 8) (h : ic2 n m0 t S d0 8 d) : cPl n d (comeA (m0 1) t S.1, S.2) := ⟨fun i hi => by have := h.2.2.1 i hi; rw [if_pos (by omega)] at this; exact this, h.2.2.2.1, h.2.2.2.2.1, h.2.2.2.2.2⟩
theorem canB_d {n : Nat} {dr dr' wh lf wh' lf' : Nat → Int32} {k : Int32} {s : Nat} {b : Int32} {t : Nat} (hs : s < n) (h0 : dr s = dr' s) (h1 : ∀ i, i < n → wh i = wh' i) (h2 : ∀ i, i < n → lf i = lf' i) : canB n dr wh lf k s b t = canB n dr' wh' lf' k s b t := by
  rw [canB_c hs h1 h2]
  unfold canB
  rw [h0]
theorem does_0 {n : Nat} {dr : Nat → Int32} {t : Nat} {S : plS} : doesS n dr 0 t S = S := by
  unfold doesS
  rw [if_pos (by decide)]
theorem does_t {n : Nat} {mm : Nat → Nat → Int32} {d : Nat → Nat → Nat → Int32} {c : Int32} {t s1 : Nat} {S : plS} (hn : n ≤ 8) (hc : codeOK n c) (h0 : ¬ c = 0) (hs : s1 < n) (hsh : shI c = nI s1) (hdr : ∀ i, i < n → d 7 i 1 = mm 2 i) (h : cPl n d S) (hb : canB n (drD d) (whD d) (lfD d) (c / 100) s1 (beI c) t = true) : cPl n (up3 d 7 s1 3 (if c / 100 = 1 then beI c else -3)) (doesS n (mm 2) c t S) := by
  have h1 : canB n (mm 2) S.1 S.2.1 (c / 100) (shI c).toNatClampNeg (beI c) t = true := by
    rw [hsh, nI_clamp (by omega), ← hb]
    exact (canB_d hs (hdr s1 hs) h.1 h.2.1).symm
  unfold doesS
  rw [if_neg (code_0 hn hc h0), if_pos h1, hsh, nI_clamp (by omega)]
  refine ⟨fun i hi => ?_, fun i hi => ?_, ?_, ?_⟩
  · show whD (up3 d 7 s1 3 (if c / 100 = 1 then beI c else -3)) i = upd S.1 s1 (if c / 100 = 1 then beI c else -3) i
    rw [show whD (up3 d 7 s1 3 (if c / 100 = 1 then beI c else -3)) = upd (whD d) s1 (if c / 100 = 1 then beI c else -3) from up3_row d 7 s1 3 _]
    simp only [upd]
    split
    · rfl
    · exact h.1 i hi
  · rw [up3_k d _ (by decide)]; exact h.2.1 i hi
  · rw [up3_ne d 3 _ (Or.inl (by decide))]; exact h.2.2.1
  · rw [up3_ne d 3 _ (Or.inl (by decide))]; exact h.2.2.2
theorem does_f {n : Nat} {mm : Nat → Nat → Int32} {d : Nat → Nat → Nat → Int32} {c : Int32} {t s1 : Nat} {S : plS} (hn : n ≤ 8) (hc : codeOK n c) (h0 : ¬ c = 0) (hs : s1 < n) (hsh : shI c = nI s1) (hdr : ∀ i, i < n → d 7 i 1 = mm 2 i) (h : cPl n d S) (hb : canB n (drD d) (whD d) (lfD d) (c / 100) s1 (beI c) t = false) : cPl n (up3 d 1 0 6 (d 1 0 6 ||| 1 <<< (nI t &&& 31))) (doesS n (mm 2) c t S) := by
  have h1 : ¬ canB n (mm 2) S.1 S.2.1 (c / 100) (shI c).toNatClampNeg (beI c) t = true := by
    have q := canB_d (n := n) (dr := drD d) (dr' := mm 2) (wh := whD d) (lf := lfD d) (k := c / 100) (b := beI c) (t := t) hs (hdr s1 hs) h.1 h.2.1
    rw [hsh, nI_clamp (by omega), ← q, hb]; decide
  unfold doesS
  rw [if_neg (code_0 hn hc h0), if_neg h1]
  refine ⟨fun i hi => ?_, fun i hi => ?_, ?_, ?_⟩
  · rw [up3_ne d 6 _ (Or.inl (by decide))]; exact h.1 i hi
  · rw [up3_ne d 6 _ (Or.inl (by decide))]; exact h.2.1 i hi
  · rw [up3_k d _ (by decide)]; exact h.2.2.1
  · rw [up3_s, h.2.2.2]
def ic3 (n : Nat) (m0 : Nat → Nat → Int32) (S : plS) (d0 : Nat → Nat → Nat → Int32) (k : Nat) (d : Nat → Nat → Nat → Int32) : Prop := k ≤ 8 ∧ dFr d0 d ∧ (∀ i, i < n → whD d i = S.1 i) ∧ (∀ i, i < n → lfD d i = if i < k then earnL (m0 4) S.1 S.2.1 i else S.2.1 i) ∧ d 1 0 5 = earnE (m0 4) (m0 0 5) (m0 0 6) S.1 S.2.1 S.2.2.1 (min k n) ∧ d 1 0 6 = S.2.2.2
theorem ic3_0 {n : Nat} {m0 : Nat → Nat → Int32} {S : plS} {d0 d : Nat → Nat → Nat → Int32} (hf : dFr d0 d) (h : cPl n d S) : ic3 n m0 S d0 0 d := ⟨Nat.zero_le _, hf, h.1, fun i hi => by rw [if_neg (Nat.not_lt_zero i)]; exact h.2.1 i hi, by rw [Nat.zero_min]; exact h.2.2.1, h.2.2.2⟩
theorem sub0 (x : Int32) : x - 0 = x := by simp
theorem ic3_s {n : Nat} {m0 : Nat → Nat → Int32} {S : plS} {d0 d : Nat → Nat → Nat → Int32} {k : Nat} (h : ic3 n m0 S d0 k d) (hk8 : k < 8) (hk : k < n) (hp : placeOK (S.1 k)) (hrt : ∀ b, b < 3 → d 4 0 b = m0 4 b) (hpr : d 1 0 3 = m0 0 5) (hfe : d 1 0 4 = m0 0 6) : ic3 n m0 S d0 (k + 1) (up3 (geD d k) 1 0 5 (d 1 0 5 + geI d k)) := by
  obtain ⟨-, h1, h2, h3, h4, h5⟩ := h
  have e3 : d 7 k 3 = S.1 k := h2 k hk
  have e4 : d 7 k 4 = S.2.1 k := upd_at h3 hk
  have em : min (k + 1) n = k + 1 := by omega
  have em0 : min k n = k := by omega
  rw [em0] at h4
  by_cases h0 : 0 ≤ S.1 k
  · have hm : manyI (d 4 0) (whD d) (lfD d) k = manyI (m0 4) S.1 S.2.1 k := by
      have hin := place_in hp h0
      obtain ⟨b, hb, hbe⟩ := vp_in_of hin (by decide)
      unfold manyI
      rw [show whD d k = S.1 k from e3, show lfD d k = S.2.1 k from e4, hbe, nI_clamp (by omega), hrt b hb]
    have hn1 : ¬ S.1 k = -1 := fun q => by rw [q] at h0; exact absurd h0 (by decide)
    have hD : geD d k = up3 d 7 k 4 (S.2.1 k - manyI (m0 4) S.1 S.2.1 k) := by rw [geD, if_pos (by rw [e3]; exact h0), e4, hm]
    have hI : geI d k = m0 0 5 * manyI (m0 4) S.1 S.2.1 k := by rw [geI, if_pos (by rw [e3]; exact h0), hm, hpr]
    rw [hD, hI]
    refine ⟨hk8, (h1.up _ _ _ _ (Or.inr ⟨rfl, Or.inr rfl⟩)).up _ _ _ _ (Or.inl ⟨rfl, Or.inl rfl⟩), fun i hi => ?_, ?_, ?_, ?_⟩
    · show up3 _ 1 0 5 _ 7 i 3 = _
      rw [up3_ne _ 5 _ (Or.inl (by decide)), up3_k d _ (by decide)]; exact h2 i hi
    · have e : lfD (up3 (up3 d 7 k 4 (S.2.1 k - manyI (m0 4) S.1 S.2.1 k)) 1 0 5 (d 1 0 5 + m0 0 5 * manyI (m0 4) S.1 S.2.1 k)) = upd (lfD d) k (S.2.1 k - manyI (m0 4) S.1 S.2.1 k) := by
        rw [← show lfD (up3 d 7 k 4 (S.2.1 k - manyI (m0 4) S.1 S.2.1 k)) = upd (lfD d) k _ from up3_row d 7 k 4 _]
        funext i
        exact congrFun (up3_ne _ 5 _ (Or.inl (by decide))) 4
      rw [e]
      exact upd_step h3 (by rw [earnL, if_pos h0])
    · rw [up3_s, em, earnE, if_pos h0, if_neg hn1, sub0, h4]
    · rw [up3_k _ _ (by decide), up3_ne d 4 _ (Or.inl (by decide))]; exact h5
  · have hD : geD d k = d := by rw [geD, if_neg (by rw [e3]; exact h0)]
    have hI : d 1 0 5 + geI d k = earnE (m0 4) (m0 0 5) (m0 0 6) S.1 S.2.1 S.2.2.1 (k + 1) := by
      rw [geI, if_neg (by rw [e3]; exact h0), earnE, if_neg h0, e3, h4, hfe]
      by_cases h6 : S.1 k = -1
      · rw [if_pos h6, if_pos h6, Int32.sub_eq_add_neg]
      · rw [if_neg h6, if_neg h6, sub0, Int32.add_zero]
    rw [hD, hI]
    refine ⟨hk8, h1.up _ _ _ _ (Or.inl ⟨rfl, Or.inl rfl⟩), fun i hi => ?_, ?_, ?_, ?_⟩
    · show up3 _ 1 0 5 _ 7 i 3 = _
      rw [up3_ne _ 5 _ (Or.inl (by decide))]; exact h2 i hi
    · intro i hi
      show up3 _ 1 0 5 _ 7 i 4 = _
      rw [up3_ne _ 5 _ (Or.inl (by decide))]
      exact upd_skip h3 (by rw [earnL, if_neg h0]) i hi
    · rw [up3_s, em]
    · rw [up3_k _ _ (by decide)]; exact h5
theorem ic3_n {n : Nat} {m0 : Nat → Nat → Int32} {S : plS} {d0 d : Nat → Nat → Nat → Int32} {k : Nat} (h : ic3 n m0 S d0 k d) (hk8 : k < 8) (hk : ¬ k < n) : ic3 n m0 S d0 (k + 1) d := by
  obtain ⟨-, h1, h2, h3, h4, h5⟩ := h
  refine ⟨hk8, h1, h2, fun i hi => ?_, ?_, h5⟩
  · rw [h3 i hi, if_pos (by omega), if_pos (by omega)]
  · rw [show min (k + 1) n = min k n by omega]; exact h4
theorem ic3_e {n : Nat} {m0 : Nat → Nat → Int32} {S : plS} {d0 d : Nat → Nat → Nat → Int32} (hn : n ≤ 8) (h : ic3 n m0 S d0 8 d) : cPl n d (S.1, earnL (m0 4) S.1 S.2.1, earnE (m0 4) (m0 0 5) (m0 0 6) S.1 S.2.1 S.2.2.1 n, S.2.2.2) := ⟨h.2.2.1, fun i hi => by have := h.2.2.2.1 i hi; rw [if_pos (by omega)] at this; exact this, by have := h.2.2.2.2.1; rw [show min 8 n = n by omega] at this; exact this, h.2.2.2.2.2⟩
end VC4
