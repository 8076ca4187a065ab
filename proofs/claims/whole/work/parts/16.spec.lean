/-! THE REFERENCE'S CALLS, as functions of its state -/
section SP
theorem inB_t {v lo hi : Int32} (h : inB v lo hi = true) : lo ≤ v ∧ v ≤ hi := by simpa [inB] using h
theorem inB_f {v lo hi : Int32} (h : inB v lo hi = false) : ¬ (lo ≤ v ∧ v ≤ hi) := fun q => by simp [inB, q.1, q.2] at h
theorem inB_vp {v hi : Int32} {n : Nat} (h : inB v 0 hi = true) (hn : hi.toInt + 1 = n) : vp_in v n := by
  obtain ⟨h1, h2⟩ := inB_t h
  rw [Int32.le_iff_toInt_le] at h1 h2
  refine vp_in_iff.mpr ⟨by simpa using h1, by omega⟩
theorem inB_nI {n : Nat} {v : Int32} (h1 : 1 ≤ n) (hn : n < 2 ^ 31) (h : inB v 0 (nI n - 1) = true) : ∃ j : Nat, j < n ∧ v = nI j := by
  obtain ⟨k, rfl⟩ : ∃ k, n = k + 1 := ⟨n - 1, by omega⟩
  rw [nI_pred] at h
  exact vp_in_of (inB_vp h (by rw [nI_toInt (by omega)]; simp)) hn
theorem inB_nI0 {v : Int32} (h : inB v 0 (nI 0 - 1) = true) : False := by
  obtain ⟨h1, h2⟩ := inB_t h
  have h3 : (nI 0 - 1 : Int32) = -1 := by decide
  rw [h3] at h2
  rw [Int32.le_iff_toInt_le] at h1 h2
  have e : (-1 : Int32).toInt = -1 := by decide
  have e0 : (0 : Int32).toInt = 0 := by decide
  omega
theorem inB_of {n j : Nat} (hj : j < n) (hn : n < 2 ^ 31) : inB (nI j) 0 (nI n - 1) = true := by
  obtain ⟨k, rfl⟩ : ∃ k, n = k + 1 := ⟨n - 1, by omega⟩
  rw [nI_pred]
  simp only [inB, Bool.and_eq_true, decide_eq_true_eq]
  exact ⟨nI_pos' (by omega), nI_le (by omega) (by omega)⟩
theorem inB_k {v hi : Int32} {n : Nat} (h : inB v 0 hi = true) (hn : hi.toInt + 1 = n) (hN : n < 2 ^ 31) : ∃ j : Nat, j < n ∧ v = nI j := vp_in_of (inB_vp h hn) hN
theorem vnb0 : vp_nar .boolean 0 = 0 := by decide
theorem vnb1 : vp_nar .boolean 1 = 1 := by decide
theorem nI_pl (j t : Nat) : (30 : Int32) * nI j + nI t = nI (30 * j + t) := by
  have h : (30 : Int32) = nI 30 := rfl
  rw [h, ← nI_add]
  congr 1
  exact (Int32.ofNat_mul 30 j).symm
theorem up2_same (m : Nat → Nat → Int32) (j i : Nat) (v : Int32) : up2 m j i v j i = v := by simp [up2, upd]
theorem up2_o (m : Nat → Nat → Int32) {j a : Nat} (i b : Nat) (v : Int32) (h : a ≠ j) : up2 m j i v a b = m a b := by simp [up2, h]
theorem up2_i (m : Nat → Nat → Int32) (j : Nat) {i b : Nat} (v : Int32) (h : b ≠ i) : up2 m j i v j b = m j b := by simp [up2, upd, h]
/-- an order's number -/
def codeI (k s b : Int32) : Int32 := if k = 0 then 0 else 100 * k + 10 * s + (if k = 1 then b else 0)
def sp_addShip (ns : Nat) (m : Nat → Nat → Int32) (a b c : Int32) : Int32 × (Nat → Nat → Int32) := if (inB a 0 29 && inB b 0 2 && inB c 1 100) = false then (0, up2 m 0 17 1) else if ns = 8 then (0, up2 m 0 17 2) else (nI ns, up2 (up2 (up2 (up2 (up2 m 0 17 0) 1 ns a) 2 ns b) 3 ns c) 0 0 (nI ns + 1))
def sp_setRate (m : Nat → Nat → Int32) (b t : Int32) : Int32 × (Nat → Nat → Int32) := if inB b 0 2 = false then (0, up2 m 0 17 1) else if inB t 0 20 = false then (0, up2 m 0 17 2) else (m 4 b.toNatClampNeg, up2 (up2 m 0 17 0) 4 b.toNatClampNeg t)
def sp_setRules (m : Nat → Nat → Int32) (a b : Int32) : Nat → Nat → Int32 := if (inB a 0 100 && inB b 0 100) = true then up2 (up2 (up2 m 0 17 0) 0 5 a) 0 6 b else up2 m 0 17 1
def sp_fork (nl : Nat) (m : Nat → Nat → Int32) (a t : Int32) : Int32 × (Nat → Nat → Int32) := if (inB a 0 (nI nl - 1) && inB t 0 29) = false then (0, up2 m 0 17 1) else if nl = 9 then (0, up2 m 0 17 2) else (nI nl, up2 (up2 (up2 (up2 (up2 m 0 17 0) 8 nl a) 9 nl t) 10 nl (m 10 a.toNatClampNeg)) 0 7 (nI nl + 1))
def aheadB (m : Nat → Nat → Int32) (a t : Int32) : Bool := decide (0 < a) && decide (t < m 10 a.toNatClampNeg)
def sp_order (nl ns : Nat) (m : Nat → Nat → Int32) (a t k s b : Int32) : Int32 × (Nat → Nat → Int32) := if (inB a 0 (nI nl - 1) && inB t 0 29 && inB s 0 (nI ns - 1) && inB b 0 2) = false then (0, up2 m 0 17 1) else if inB k 0 2 = false then (0, up2 m 0 17 2) else if t < m 9 a.toNatClampNeg then (0, up2 m 0 17 3) else (bI (aheadB m a t), up2 (up2 (up2 m 0 17 0) 11 (30 * a + t).toNatClampNeg (codeI k s b)) 12 (30 * a + t).toNatClampNeg (bI (aheadB m a t)))
def ownB (m : Nat → Nat → Int32) (a t : Int32) : Bool := decide (m 11 (30 * a + t).toNatClampNeg ≠ -1)
def sp_takeAway (nl : Nat) (m : Nat → Nat → Int32) (a t : Int32) : Int32 × (Nat → Nat → Int32) := if (inB a 0 (nI nl - 1) && inB t 0 29) = false then (0, up2 m 0 17 1) else if ownB m a t = false then (0, up2 m 0 17 0) else (1, up2 (up2 (up2 m 0 17 0) 11 (30 * a + t).toNatClampNeg (-1)) 12 (30 * a + t).toNatClampNeg 0)
/-- the order of a line for a turn: its own, or that of the line of which it was made -/
def ordA (o : Nat → Int32) (par : Nat → Option Nat) (t : Nat) : Nat → Option Nat → Int32
  | 0, _ => 0
  | _ + 1, none => 0
  | f + 1, some j => if o (30 * j + t) = -1 then ordA o par t f (par j) else o (30 * j + t)
/-- a set of turns, as the loops build it -/
def bset (P : Nat → Bool) : Nat → Int32
  | 0 => 0
  | k + 1 => bset P k ||| (if P k then 1 <<< (nI k &&& 31) else 0)
end SP
