/-! THE V LAYER, for the law: the script, the switch, the law's end -/
section VL5
variable {p : Program} {l : Launch} {e : Env} {R : Room} {s : State} {m : MethodId} {args : Array Value} {below : List Frame} {meth : Method} {c : Code} {Q : State → Prop} {D : va_G} {A : Nat → Prop} {nL : Nat} {w : va_W} {k n : Nat} {lv : List (Nat × Value)} {pc : Nat} {st : List Value}
variable {cc : ByteArray} {Ts : List Cond} {own : String} {cy : Nat → ClassId}
theorem vl_sld (C0 : vl_C l p m meth c cc nL s args Ts own D cy A) {b L : Nat} {xs : Nat → Int32} (hX : va_X b L xs s s.heap) (hbl : b < s.heap.size) (hbA : ¬ A b) (hL : L ≤ 3072) {j : Nat} (hj : j < L) (hdg : decode cc pc = .ok (.iaload, 1)) (kk : vl_V p l e R s m args below meth c Q D A nL w k n lv (pc + 1) (.int (xs j) :: st)) : vl_V p l e R s m args below meth c Q D A nL w k n lv pc (.int (nI j) :: .ref b :: st) := fun H locs ls hP hD hS hl => by
  refine va_sld C0.1.1 C0.1.2.1 hX hbl hbA hS (vp_in_nI hj (by omega)) hdg ?_
  rw [nI_clamp (by omega)]
  exact kk H locs ls hP hD hS hl
theorem vl_slen (C0 : vl_C l p m meth c cc nL s args Ts own D cy A) {b L : Nat} {xs : Nat → Int32} (hX : va_X b L xs s s.heap) (hbl : b < s.heap.size) (hbA : ¬ A b) (hdg : decode cc pc = .ok (.arraylength, 1)) (kk : vl_V p l e R s m args below meth c Q D A nL w k n lv (pc + 1) (.int (nI L) :: st)) : vl_V p l e R s m args below meth c Q D A nL w k n lv pc (.ref b :: st) := fun H locs ls hP hD hS hl => va_slen C0.1.1 C0.1.2.1 hX hbl hbA hS hdg (kk H locs ls hP hD hS hl)
theorem vl_tabIn (C0 : vl_C l p m meth c cc nL s args Ts own D cy A) {dflt lo hi : Int} {offs : Array Int} {len : Nat} {y : Int32} {off : Int} {tgt : Nat} (hdg : decode cc pc = .ok (.tableswitch dflt lo hi offs, len)) (h1 : ¬ y.toInt < lo) (h2 : ¬ hi < y.toInt) (ho : offs[(y.toInt - lo).toNat]? = some off) (ht : (pc : Int) + off = (tgt : Int)) (kk : vl_V p l e R s m args below meth c Q D A nL w k n lv tgt st) : vl_V p l e R s m args below meth c Q D A nL w k n lv pc (.int y :: st) := fun H locs ls hP hD hS hl => lv_tableIn C0.1.1 C0.1.2.1 hdg h1 h2 ho ht (kk H locs ls hP hD hS hl)
theorem vl_lwret {b : Nat} (C0 : vl_C l p m meth c code 7 s #[Value.ref b] Ts own D cy (fun q : Nat => s.heap.size ≤ q)) (hr : meth.sig.returnType = ret) (hk : k ≤ 601024) (hn : n ≤ 7293034) (hdg : decode code pc = .ok (.ireturn, 1)) : vl_V p l e room_1 s m #[Value.ref b] below meth c (lw_Z below #[Value.ref b] s) D (fun q : Nat => s.heap.size ≤ q) 7 w k n lv pc [.int 1] := fun H locs ls hP hD hS hl => va_forget (fun q hq => hS.2.2 q hq) (W.widen hk hn (lw_ret C0.1.1 C0.1.2.1 hr C0.2.2.2.2.2.1 hdg))
theorem and15 (y : Int32) : ∃ j : Nat, j < 16 ∧ y &&& 15 = nI j := by
  have h : (y &&& 15).toBitVec.toNat < 16 := by
    rw [Int32.toBitVec_and, BitVec.toNat_and]
    exact Nat.and_lt_two_pow (n := 4) _ (by decide)
  refine ⟨(y &&& 15).toBitVec.toNat, h, Int32.toBitVec_inj.mp (BitVec.eq_of_toNat_eq ?_)⟩
  show _ = (BitVec.ofNat 32 (y &&& 15).toBitVec.toNat).toNat
  rw [BitVec.toNat_ofNat, Nat.mod_eq_of_lt (by omega)]
theorem pm_mv {A B M : va_W} : (A ++ (B ++ M)).Perm (M ++ (A ++ B)) := by
  rw [← List.append_assoc]
  exact List.perm_append_comm
theorem updL_s (f : Nat → Int64) (k : Nat) (v : Int64) : vp_updL f k v k = v := if_pos rfl
/-- the script's end -/
theorem sc_end {L i : Nat} (hL : L ≤ 3072) (hi : i ≤ 3072) (h : ¬ nI L - 6 < nI i) : i + 6 ≤ L := by
  by_cases h6 : 6 ≤ L
  · obtain ⟨r, rfl⟩ : ∃ r, L = r + 6 := ⟨L - 6, by omega⟩
    have e : nI (r + 6) - 6 = nI r := by rw [← nI_add r 6]; exact Int32.add_sub_cancel _ _
    rw [e, nI_ltI (by omega) (by omega)] at h
    omega
  · refine absurd ?_ h
    have h0 : nI 0 ≤ nI i := nI_le (by omega) (by omega)
    have h1 : nI L - 6 < nI 0 := by
      rcases (show L = 0 ∨ L = 1 ∨ L = 2 ∨ L = 3 ∨ L = 4 ∨ L = 5 by omega) with rfl | rfl | rfl | rfl | rfl | rfl <;> decide
    rw [Int32.lt_iff_toInt_lt] at h1 ⊢
    rw [Int32.le_iff_toInt_le] at h0
    omega
end VL5
