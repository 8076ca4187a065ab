/-! THE TWO WORLDS: the reference's object and arrays (mw), the class's objects by roles (cw) -/
section VW
def up2 (m : Nat → Nat → Int32) (j i : Nat) (v : Int32) : Nat → Nat → Int32 := fun a => if a = j then upd (m j) i v else m a
def mw_o (ad : Nat → Nat) (m : Nat → Nat → Int32) : List Value := [.int (m 0 0), .ref (ad 1), .ref (ad 2), .ref (ad 3), .ref (ad 4), .int (m 0 5), .int (m 0 6), .int (m 0 7), .ref (ad 8), .ref (ad 9), .ref (ad 10), .ref (ad 11), .ref (ad 12), .ref (ad 13), .ref (ad 14), .int (m 0 15), .int (m 0 16), .int (m 0 17)]
def mw (cy : Nat → ClassId) (ad : Nat → Nat) (m : Nat → Nat → Int32) : va_W := [(ad 0, .inr (4, mw_o ad m)), (ad 1, .inl (cy 0, 8, .inl (m 1))), (ad 2, .inl (cy 0, 8, .inl (m 2))), (ad 3, .inl (cy 0, 8, .inl (m 3))), (ad 4, .inl (cy 0, 3, .inl (m 4))), (ad 8, .inl (cy 0, 9, .inl (m 8))), (ad 9, .inl (cy 0, 9, .inl (m 9))), (ad 10, .inl (cy 0, 9, .inl (m 10))), (ad 11, .inl (cy 0, 270, .inl (m 11))), (ad 12, .inl (cy 1, 270, .inl (m 12))), (ad 13, .inl (cy 0, 8, .inl (m 13))), (ad 14, .inl (cy 0, 8, .inl (m 14)))]
theorem mw_put0 {cy : Nat → ClassId} {ad : Nat → Nat} {m : Nat → Nat → Int32} {X : va_W} (v : Int32) : (mw cy ad m ++ X).set 0 (ad 0, .inr (4, (mw_o ad m).set 0 (.int v))) = mw cy ad (up2 m 0 0 v) ++ X := rfl
theorem mw_put5 {cy : Nat → ClassId} {ad : Nat → Nat} {m : Nat → Nat → Int32} {X : va_W} (v : Int32) : (mw cy ad m ++ X).set 0 (ad 0, .inr (4, (mw_o ad m).set 5 (.int v))) = mw cy ad (up2 m 0 5 v) ++ X := rfl
theorem mw_put6 {cy : Nat → ClassId} {ad : Nat → Nat} {m : Nat → Nat → Int32} {X : va_W} (v : Int32) : (mw cy ad m ++ X).set 0 (ad 0, .inr (4, (mw_o ad m).set 6 (.int v))) = mw cy ad (up2 m 0 6 v) ++ X := rfl
theorem mw_put7 {cy : Nat → ClassId} {ad : Nat → Nat} {m : Nat → Nat → Int32} {X : va_W} (v : Int32) : (mw cy ad m ++ X).set 0 (ad 0, .inr (4, (mw_o ad m).set 7 (.int v))) = mw cy ad (up2 m 0 7 v) ++ X := rfl
theorem mw_put15 {cy : Nat → ClassId} {ad : Nat → Nat} {m : Nat → Nat → Int32} {X : va_W} (v : Int32) : (mw cy ad m ++ X).set 0 (ad 0, .inr (4, (mw_o ad m).set 15 (.int v))) = mw cy ad (up2 m 0 15 v) ++ X := rfl
theorem mw_put16 {cy : Nat → ClassId} {ad : Nat → Nat} {m : Nat → Nat → Int32} {X : va_W} (v : Int32) : (mw cy ad m ++ X).set 0 (ad 0, .inr (4, (mw_o ad m).set 16 (.int v))) = mw cy ad (up2 m 0 16 v) ++ X := rfl
theorem mw_put17 {cy : Nat → ClassId} {ad : Nat → Nat} {m : Nat → Nat → Int32} {X : va_W} (v : Int32) : (mw cy ad m ++ X).set 0 (ad 0, .inr (4, (mw_o ad m).set 17 (.int v))) = mw cy ad (up2 m 0 17 v) ++ X := rfl
theorem mw_st1 {cy : Nat → ClassId} {ad : Nat → Nat} {m : Nat → Nat → Int32} {X : va_W} (i : Nat) (v : Int32) : (mw cy ad m ++ X).set 1 (ad 1, .inl (cy 0, 8, .inl (upd (m 1) i v))) = mw cy ad (up2 m 1 i v) ++ X := rfl
theorem mw_st2 {cy : Nat → ClassId} {ad : Nat → Nat} {m : Nat → Nat → Int32} {X : va_W} (i : Nat) (v : Int32) : (mw cy ad m ++ X).set 2 (ad 2, .inl (cy 0, 8, .inl (upd (m 2) i v))) = mw cy ad (up2 m 2 i v) ++ X := rfl
theorem mw_st3 {cy : Nat → ClassId} {ad : Nat → Nat} {m : Nat → Nat → Int32} {X : va_W} (i : Nat) (v : Int32) : (mw cy ad m ++ X).set 3 (ad 3, .inl (cy 0, 8, .inl (upd (m 3) i v))) = mw cy ad (up2 m 3 i v) ++ X := rfl
theorem mw_st4 {cy : Nat → ClassId} {ad : Nat → Nat} {m : Nat → Nat → Int32} {X : va_W} (i : Nat) (v : Int32) : (mw cy ad m ++ X).set 4 (ad 4, .inl (cy 0, 3, .inl (upd (m 4) i v))) = mw cy ad (up2 m 4 i v) ++ X := rfl
theorem mw_st8 {cy : Nat → ClassId} {ad : Nat → Nat} {m : Nat → Nat → Int32} {X : va_W} (i : Nat) (v : Int32) : (mw cy ad m ++ X).set 5 (ad 8, .inl (cy 0, 9, .inl (upd (m 8) i v))) = mw cy ad (up2 m 8 i v) ++ X := rfl
theorem mw_st9 {cy : Nat → ClassId} {ad : Nat → Nat} {m : Nat → Nat → Int32} {X : va_W} (i : Nat) (v : Int32) : (mw cy ad m ++ X).set 6 (ad 9, .inl (cy 0, 9, .inl (upd (m 9) i v))) = mw cy ad (up2 m 9 i v) ++ X := rfl
theorem mw_st10 {cy : Nat → ClassId} {ad : Nat → Nat} {m : Nat → Nat → Int32} {X : va_W} (i : Nat) (v : Int32) : (mw cy ad m ++ X).set 7 (ad 10, .inl (cy 0, 9, .inl (upd (m 10) i v))) = mw cy ad (up2 m 10 i v) ++ X := rfl
theorem mw_st11 {cy : Nat → ClassId} {ad : Nat → Nat} {m : Nat → Nat → Int32} {X : va_W} (i : Nat) (v : Int32) : (mw cy ad m ++ X).set 8 (ad 11, .inl (cy 0, 270, .inl (upd (m 11) i v))) = mw cy ad (up2 m 11 i v) ++ X := rfl
theorem mw_st12 {cy : Nat → ClassId} {ad : Nat → Nat} {m : Nat → Nat → Int32} {X : va_W} (i : Nat) (v : Int32) : (mw cy ad m ++ X).set 9 (ad 12, .inl (cy 1, 270, .inl (upd (m 12) i v))) = mw cy ad (up2 m 12 i v) ++ X := rfl
theorem mw_st13 {cy : Nat → ClassId} {ad : Nat → Nat} {m : Nat → Nat → Int32} {X : va_W} (i : Nat) (v : Int32) : (mw cy ad m ++ X).set 10 (ad 13, .inl (cy 0, 8, .inl (upd (m 13) i v))) = mw cy ad (up2 m 13 i v) ++ X := rfl
theorem mw_st14 {cy : Nat → ClassId} {ad : Nat → Nat} {m : Nat → Nat → Int32} {X : va_W} (i : Nat) (v : Int32) : (mw cy ad m ++ X).set 11 (ad 14, .inl (cy 0, 8, .inl (upd (m 14) i v))) = mw cy ad (up2 m 14 i v) ++ X := rfl
variable {p : Program} {l : Launch} {e : Env} {R : Room} {s : State} {m : MethodId} {args : Array Value} {below : List Frame} {meth : Method} {c : Code} {Q : State → Prop} {D : va_G} {A : Nat → Prop} {nL : Nat} {w : va_W} {k n : Nat} {lv : List (Nat × Value)} {pc : Nat} {st : List Value}
variable {ad : Nat → Nat} {mm : Nat → Nat → Int32}
variable {cc : ByteArray} {Ts : List Cond} {own : String} {cy : Nat → ClassId} {X : va_W}
theorem rm_get (C0 : vl_C l p m meth c cc nL s args Ts own D cy A) (hin : ∀ x ∈ u_ws RX4 TX4 18, x ∈ Ts) {index : Nat} (f : Nat) (hf : f < 18) (hlink : Cond.fieldLink own index (TX4 f).1 (TX4 f).2.1 (TX4 f).2.2.1 ∈ Ts) {v : Value} (hv : (mw_o ad mm)[f]? = some v) (hdg : decode cc pc = .ok (.getfield index, 3)) (kk : vl_V p l e R s m args below meth c Q D A nL (mw cy ad mm ++ X) k n lv (pc + 3) (v :: st)) : vl_V p l e R s m args below meth c Q D A nL (mw cy ad mm ++ X) k n lv pc (.ref (ad 0) :: st) := vl_get C0 hin ⟨0, rfl⟩ rfl f hf hlink hv hdg kk
theorem rm_put (C0 : vl_C l p m meth c cc nL s args Ts own D cy A) (hin : ∀ x ∈ u_ws RX4 TX4 18, x ∈ Ts) {index : Nat} (f : Nat) (hf : f < 18) (hlink : Cond.fieldLink own index (TX4 f).1 (TX4 f).2.1 (TX4 f).2.2.1 ∈ Ts) {v : Int32} (hfin : (TX4 f).2.2.2 = false) (hd : tyX4 f = .int) (hw : (mw cy ad mm ++ X).set 0 (ad 0, .inr (4, (mw_o ad mm).set f (.int v))) = mw cy ad (up2 mm 0 f v) ++ X) (hdg : decode cc pc = .ok (.putfield index, 3)) (kk : vl_V p l e R s m args below meth c Q D A nL (mw cy ad (up2 mm 0 f v) ++ X) k n lv (pc + 3) (st)) : vl_V p l e R s m args below meth c Q D A nL (mw cy ad mm ++ X) k n lv pc (.int v :: .ref (ad 0) :: st) := vl_put C0 hin tyX4 tyX4_ok nmX4 (q0 := 0) (fs := mw_o ad mm) rfl rfl f hf hlink hfin hd rfl rfl (show f < (mw_o ad mm).length from hf) hw hdg kk
theorem rm_iald (C0 : vl_C l p m meth c cc nL s args Ts own D cy A) (j ps N : Nat) {i : Int32} (ha : (mw cy ad mm ++ X)[ps]? = some (ad j, .inl (cy 0, N, .inl (mm j)))) (hin : vp_in i N) {kn : Nat} (hkn : i.toNatClampNeg = kn) {v : Int32} (hv : mm j kn = v) (hdg : decode cc pc = .ok (.iaload, 1)) (kk : vl_V p l e R s m args below meth c Q D A nL (mw cy ad mm ++ X) k n lv (pc + 1) (.int v :: st)) : vl_V p l e R s m args below meth c Q D A nL (mw cy ad mm ++ X) k n lv pc (.int i :: .ref (ad j) :: st) := by subst hkn; subst hv; exact vl_iald C0 ⟨ps, ha⟩ hin hdg kk
theorem rm_zald (C0 : vl_C l p m meth c cc nL s args Ts own D cy A) {i : Int32} (hin : vp_in i 270) {kn : Nat} (hkn : i.toNatClampNeg = kn) (hdg : decode cc pc = .ok (.baload, 1)) (kk : vl_V p l e R s m args below meth c Q D A nL (mw cy ad mm ++ X) k n lv (pc + 1) (.int (mm 12 kn) :: st)) : vl_V p l e R s m args below meth c Q D A nL (mw cy ad mm ++ X) k n lv pc (.int i :: .ref (ad 12) :: st) := by subst hkn; exact vl_zald C0 ⟨9, rfl⟩ hin hdg kk
theorem rm_iast (C0 : vl_C l p m meth c cc nL s args Ts own D cy A) (j ps N : Nat) {i x : Int32} (ha : (mw cy ad mm ++ X)[ps]? = some (ad j, .inl (cy 0, N, .inl (mm j)))) {kn : Nat} (hw : (mw cy ad mm ++ X).set ps (ad j, .inl (cy 0, N, .inl (upd (mm j) kn x))) = mw cy ad (up2 mm j kn x) ++ X) (hin : vp_in i N) (hkn : i.toNatClampNeg = kn) (hdg : decode cc pc = .ok (.iastore, 1)) (kk : vl_V p l e R s m args below meth c Q D A nL (mw cy ad (up2 mm j kn x) ++ X) k n lv (pc + 1) (st)) : vl_V p l e R s m args below meth c Q D A nL (mw cy ad mm ++ X) k n lv pc (.int x :: .int i :: .ref (ad j) :: st) := by subst hkn; exact vl_iast C0 ha hin hw hdg kk
theorem rm_zast (C0 : vl_C l p m meth c cc nL s args Ts own D cy A) {i x : Int32} {kn : Nat} (hin : vp_in i 270) (hkn : i.toNatClampNeg = kn) (hdg : decode cc pc = .ok (.bastore, 1)) (kk : vl_V p l e R s m args below meth c Q D A nL (mw cy ad (up2 mm 12 kn (vp_nar .boolean x)) ++ X) k n lv (pc + 1) (st)) : vl_V p l e R s m args below meth c Q D A nL (mw cy ad mm ++ X) k n lv pc (.int x :: .int i :: .ref (ad 12) :: st) := by subst hkn; exact vl_zast C0 (q0 := 9) rfl hin (mw_st12 _ _) hdg kk
end VW
section VB
def bI (b : Bool) : Int32 := if b then 1 else 0
theorem nb_bI (b : Bool) : narrow .boolean (.int (bI b)) = .int (bI b) := by cases b <;> rfl
theorem bI_0 {b : Bool} : bI b = 0 ↔ b = false := by cases b <;> decide
theorem bI_n {b : Bool} : ¬ bI b = 0 ↔ b = true := by cases b <;> decide
def inB (v lo hi : Int32) : Bool := decide (lo ≤ v) && decide (v ≤ hi)
end VB
section VX
/-- a cell of the class's world, by its role (a, i): 0 the object, 1 its harbour, 2 the row of lines, 3 the row of ships, 4 the rates, 5 line i, 6 its orders, 7 ship i -/
def cw_e (cy : Nat → ClassId) (ad : Nat → Nat → Nat) (nl ns : Nat) (par : Nat → Option Nat) (f : Nat → Int32) (a i : Nat) : va_E := match a with
  | 0 => .inr (3, [.ref (ad 1 0), .ref (ad 5 0), .ref (ad 2 0), .int (f 3)])
  | 1 => .inr (0, [.ref (ad 3 0), .int (f 1), .ref (ad 4 0), .int (f 3), .int (f 4), .int (f 5), .int (f 6)])
  | 2 => .inl (cy 2, 9, .inr (.inr (.inr (.inr (fun j => if j < nl then some (ad 5 j) else none)))))
  | 3 => .inl (cy 3, 8, .inr (.inr (.inr (.inr (fun j => if j < ns then some (ad 7 j) else none)))))
  | 4 => .inl (cy 0, 3, .inl f)
  | 5 => .inr (1, [va_rf ((par i).map (ad 5)), .int (f 1), .ref (ad 6 i), .int (f 3), .int (f 4), .int (f 5)])
  | 6 => .inl (cy 0, 30, .inl f)
  | _ => .inr (2, [.int (f 0), .int (f 1), .int (f 2), .int (f 3), .int (f 4)])
def cw (cy : Nat → ClassId) (ad : Nat → Nat → Nat) (nl ns : Nat) (par : Nat → Option Nat) (Rl : List (Nat × Nat)) (d : Nat → Nat → Nat → Int32) : va_W := Rl.map (fun r => (ad r.1 r.2, cw_e cy ad nl ns par (d r.1 r.2) r.1 r.2))
def cw_ok (nl ns : Nat) (Rl : List (Nat × Nat)) : Prop := Rl.Nodup ∧ ∀ a i : Nat, (a, i) ∈ Rl ↔ ((a ≤ 4 ∧ i = 0) ∨ (a = 5 ∧ i < nl) ∨ (a = 6 ∧ i < nl) ∨ (a = 7 ∧ i < ns))
def up3 (d : Nat → Nat → Nat → Int32) (a i k : Nat) (v : Int32) : Nat → Nat → Nat → Int32 := fun a' i' => if a' = a ∧ i' = i then upd (d a i) k v else d a' i'
theorem cw_at {cy : Nat → ClassId} {ad : Nat → Nat → Nat} {nl ns : Nat} {par : Nat → Option Nat} {Rl : List (Nat × Nat)} {d : Nat → Nat → Nat → Int32} {X : va_W} {a i : Nat} (h : (a, i) ∈ Rl) : ∃ q0 : Nat, (cw cy ad nl ns par Rl d ++ X)[q0]? = some (ad a i, cw_e cy ad nl ns par (d a i) a i) := by
  obtain ⟨q, hq, he⟩ := List.getElem_of_mem h
  refine ⟨q, ?_⟩
  rw [List.getElem?_append_left (by simpa [cw] using hq)]
  simp [cw, hq, he]
theorem cw_upd {cy : Nat → ClassId} {ad : Nat → Nat → Nat} {nl ns : Nat} {par : Nat → Option Nat} {Rl : List (Nat × Nat)} {d : Nat → Nat → Nat → Int32} {X : va_W} {a i : Nat} (hn : Rl.Nodup) (h : (a, i) ∈ Rl) (k : Nat) (v : Int32) {en : va_E} (he : cw_e cy ad nl ns par (upd (d a i) k v) a i = en) : ∃ q0 : Nat, (cw cy ad nl ns par Rl d ++ X)[q0]? = some (ad a i, cw_e cy ad nl ns par (d a i) a i) ∧ (cw cy ad nl ns par Rl d ++ X).set q0 (ad a i, en) = cw cy ad nl ns par Rl (up3 d a i k v) ++ X := by
  obtain ⟨q, hq, hqe⟩ := List.getElem_of_mem h
  have hlen : q < (cw cy ad nl ns par Rl d).length := by simpa [cw] using hq
  refine ⟨q, ?_, ?_⟩
  · rw [List.getElem?_append_left hlen]
    simp [cw, hq, hqe]
  · rw [List.set_append_left _ _ hlen]
    congr 1
    apply List.ext_getElem
    · simp [cw]
    · intro j h1 h2
      rw [List.getElem_set]
      have hj : j < Rl.length := by simpa [cw] using h2
      by_cases hqj : q = j
      · subst hqj
        simp [cw, hqe, up3, ← he]
      · have hne : Rl[j] ≠ (a, i) := fun hx => by
          rcases Nat.lt_or_gt_of_ne hqj with z | z
          · exact (List.pairwise_iff_getElem.mp hn) q j hq hj z (hqe.trans hx.symm)
          · exact (List.pairwise_iff_getElem.mp hn) j q hj hq z (hx.trans hqe.symm)
        have h3 : ¬ ((Rl[j]).1 = a ∧ (Rl[j]).2 = i) := fun hx => hne (Prod.ext hx.1 hx.2)
        simp [cw, hqj, up3, h3]
variable {p : Program} {l : Launch} {e : Env} {R : Room} {s : State} {m : MethodId} {args : Array Value} {below : List Frame} {meth : Method} {c : Code} {Q : State → Prop} {D : va_G} {A : Nat → Prop} {nL : Nat} {w : va_W} {k n : Nat} {lv : List (Nat × Value)} {pc : Nat} {st : List Value}
variable {ad : Nat → Nat → Nat} {nl ns : Nat} {par : Nat → Option Nat} {Rl : List (Nat × Nat)} {d : Nat → Nat → Nat → Int32}
variable {cc : ByteArray} {Ts : List Cond} {own : String} {cy : Nat → ClassId} {X : va_W}
theorem rc_get (C0 : vl_C l p m meth c cc nL s args Ts own D cy A) {C : String} {T : u_T} {N ci index a i : Nat} {fs : List Value} (hin : ∀ x ∈ u_ws C T N, x ∈ Ts) (hr : (a, i) ∈ Rl) (hce : cw_e cy ad nl ns par (d a i) a i = .inr (ci, fs)) (hc : vwCl[ci]? = some (C, T, N)) (f : Nat) (hf : f < N) (hlink : Cond.fieldLink own index (T f).1 (T f).2.1 (T f).2.2.1 ∈ Ts) {v : Value} (hv : fs[f]? = some v) (hdg : decode cc pc = .ok (.getfield index, 3)) (kk : vl_V p l e R s m args below meth c Q D A nL (cw cy ad nl ns par Rl d ++ X) k n lv (pc + 3) (v :: st)) : vl_V p l e R s m args below meth c Q D A nL (cw cy ad nl ns par Rl d ++ X) k n lv pc (.ref (ad a i) :: st) := vl_get C0 hin (hce ▸ cw_at hr) hc f hf hlink hv hdg kk
theorem rc_put (C0 : vl_C l p m meth c cc nL s args Ts own D cy A) {C : String} {T : u_T} {N ci index a i : Nat} {fs : List Value} (hin : ∀ x ∈ u_ws C T N, x ∈ Ts) (ty0 : Nat → FieldType) (hty : ∀ k, k < N → parseFieldDescriptor (T k).2.2.1 = some (ty0 k)) (hnm : ∀ a, a < N → ∀ b, b < N → a ≠ b → (T a).2.1 ≠ (T b).2.1) (hn : Rl.Nodup) (hr : (a, i) ∈ Rl) (hce : cw_e cy ad nl ns par (d a i) a i = .inr (ci, fs)) (hc : vwCl[ci]? = some (C, T, N)) (f : Nat) (hf : f < N) (hlink : Cond.fieldLink own index (T f).1 (T f).2.1 (T f).2.2.1 ∈ Ts) (hfin : (T f).2.2.2 = false) {v : Int32} (hd : ty0 f = .int) (hl0 : f < fs.length) (he : cw_e cy ad nl ns par (upd (d a i) f v) a i = .inr (ci, fs.set f (.int v))) (hdg : decode cc pc = .ok (.putfield index, 3)) (kk : vl_V p l e R s m args below meth c Q D A nL (cw cy ad nl ns par Rl (up3 d a i f v) ++ X) k n lv (pc + 3) (st)) : vl_V p l e R s m args below meth c Q D A nL (cw cy ad nl ns par Rl d ++ X) k n lv pc (.int v :: .ref (ad a i) :: st) := by
  obtain ⟨q0, h1, h2⟩ := cw_upd (X := X) (cy := cy) (ad := ad) (nl := nl) (ns := ns) (par := par) (d := d) hn hr f v he
  rw [hce] at h1
  exact vl_put C0 hin ty0 hty hnm h1 hc f hf hlink hfin hd rfl rfl hl0 h2 hdg kk
theorem rc_getN (C0 : vl_C l p m meth c cc nL s args Ts own D cy A) {C : String} {T : u_T} {N ci index a i : Nat} {fs : List Value} (hin : ∀ x ∈ u_ws C T N, x ∈ Ts) (hr : (a, i) ∈ Rl) (hce : cw_e cy ad nl ns par (d a i) a i = .inr (ci, fs)) (hc : vwCl[ci]? = some (C, T, N)) (f : Nat) (hf : f < N) (hlink : (own, index, (T f).1, (T f).2.1, (T f).2.2.1) ∈ vl_nf) {v : Value} (hv : fs[f]? = some v) (hdg : decode cc pc = .ok (.getfield index, 3)) (kk : vl_V p l e R s m args below meth c Q D A nL (cw cy ad nl ns par Rl d ++ X) k n lv (pc + 3) (v :: st)) : vl_V p l e R s m args below meth c Q D A nL (cw cy ad nl ns par Rl d ++ X) k n lv pc (.ref (ad a i) :: st) := vl_getN C0 hin (hce ▸ cw_at hr) hc f hf hlink hv hdg kk
theorem rc_putN (C0 : vl_C l p m meth c cc nL s args Ts own D cy A) {C : String} {T : u_T} {N ci index a i : Nat} {fs : List Value} (hin : ∀ x ∈ u_ws C T N, x ∈ Ts) (ty0 : Nat → FieldType) (hty : ∀ k, k < N → parseFieldDescriptor (T k).2.2.1 = some (ty0 k)) (hnm : ∀ a, a < N → ∀ b, b < N → a ≠ b → (T a).2.1 ≠ (T b).2.1) (hn : Rl.Nodup) (hr : (a, i) ∈ Rl) (hce : cw_e cy ad nl ns par (d a i) a i = .inr (ci, fs)) (hc : vwCl[ci]? = some (C, T, N)) (f : Nat) (hf : f < N) (hlink : (own, index, (T f).1, (T f).2.1, (T f).2.2.1) ∈ vl_nf) (hfin : (T f).2.2.2 = false) {v : Int32} (hd : ty0 f = .int) (hl0 : f < fs.length) (he : cw_e cy ad nl ns par (upd (d a i) f v) a i = .inr (ci, fs.set f (.int v))) (hdg : decode cc pc = .ok (.putfield index, 3)) (kk : vl_V p l e R s m args below meth c Q D A nL (cw cy ad nl ns par Rl (up3 d a i f v) ++ X) k n lv (pc + 3) (st)) : vl_V p l e R s m args below meth c Q D A nL (cw cy ad nl ns par Rl d ++ X) k n lv pc (.int v :: .ref (ad a i) :: st) := by
  obtain ⟨q0, h1, h2⟩ := cw_upd (X := X) (cy := cy) (ad := ad) (nl := nl) (ns := ns) (par := par) (d := d) hn hr f v he
  rw [hce] at h1
  exact vl_putN C0 hin ty0 hty hnm h1 hc f hf hlink hfin hd rfl rfl hl0 h2 hdg kk
theorem rc_iald (C0 : vl_C l p m meth c cc nL s args Ts own D cy A) {a b N : Nat} {i : Int32} (hr : (a, b) ∈ Rl) (hce : cw_e cy ad nl ns par (d a b) a b = .inl (cy 0, N, .inl (d a b))) (hin : vp_in i N) {kn : Nat} (hkn : i.toNatClampNeg = kn) {v : Int32} (hv : d a b kn = v) (hdg : decode cc pc = .ok (.iaload, 1)) (kk : vl_V p l e R s m args below meth c Q D A nL (cw cy ad nl ns par Rl d ++ X) k n lv (pc + 1) (.int v :: st)) : vl_V p l e R s m args below meth c Q D A nL (cw cy ad nl ns par Rl d ++ X) k n lv pc (.int i :: .ref (ad a b) :: st) := by subst hkn; subst hv; exact vl_iald C0 (hce ▸ cw_at hr) hin hdg kk
theorem rc_iast (C0 : vl_C l p m meth c cc nL s args Ts own D cy A) {a b N : Nat} {i x : Int32} (hn : Rl.Nodup) (hr : (a, b) ∈ Rl) (hce : ∀ f : Nat → Int32, cw_e cy ad nl ns par f a b = .inl (cy 0, N, .inl f)) (hin : vp_in i N) {kn : Nat} (hkn : i.toNatClampNeg = kn) (hdg : decode cc pc = .ok (.iastore, 1)) (kk : vl_V p l e R s m args below meth c Q D A nL (cw cy ad nl ns par Rl (up3 d a b kn x) ++ X) k n lv (pc + 1) (st)) : vl_V p l e R s m args below meth c Q D A nL (cw cy ad nl ns par Rl d ++ X) k n lv pc (.int x :: .int i :: .ref (ad a b) :: st) := by
  subst hkn
  obtain ⟨q0, h1, h2⟩ := cw_upd (X := X) (cy := cy) (ad := ad) (nl := nl) (ns := ns) (par := par) (d := d) hn hr i.toNatClampNeg x (hce _)
  rw [hce] at h1
  exact vl_iast C0 h1 hin h2 hdg kk
theorem rc_aldL (C0 : vl_C l p m meth c cc nL s args Ts own D cy A) {i : Int32} {v : Value} (hr : (2, 0) ∈ Rl) (hin : vp_in i 9) {kn : Nat} (hkn : i.toNatClampNeg = kn) (hv : va_rf (if kn < nl then some (ad 5 kn) else none) = v) (hdg : decode cc pc = .ok (.aaload, 1)) (kk : vl_V p l e R s m args below meth c Q D A nL (cw cy ad nl ns par Rl d ++ X) k n lv (pc + 1) (v :: st)) : vl_V p l e R s m args below meth c Q D A nL (cw cy ad nl ns par Rl d ++ X) k n lv pc (.int i :: .ref (ad 2 0) :: st) := by subst hkn; exact vl_aldL C0 (cw_at hr) hin hv hdg kk
theorem rc_aldS (C0 : vl_C l p m meth c cc nL s args Ts own D cy A) {i : Int32} {v : Value} (hr : (3, 0) ∈ Rl) (hin : vp_in i 8) {kn : Nat} (hkn : i.toNatClampNeg = kn) (hv : va_rf (if kn < ns then some (ad 7 kn) else none) = v) (hdg : decode cc pc = .ok (.aaload, 1)) (kk : vl_V p l e R s m args below meth c Q D A nL (cw cy ad nl ns par Rl d ++ X) k n lv (pc + 1) (v :: st)) : vl_V p l e R s m args below meth c Q D A nL (cw cy ad nl ns par Rl d ++ X) k n lv pc (.int i :: .ref (ad 3 0) :: st) := by subst hkn; exact vl_aldS C0 (cw_at hr) hin hv hdg kk
theorem rc_alen (C0 : vl_C l p m meth c cc nL s args Ts own D cy A) {a b : Nat} (t0 : Nat) {cA : ClassId} {x : vp_A} {ty : FieldType} {v : Int32} (hr : (a, b) ∈ Rl) (hce : cw_e cy ad nl ns par (d a b) a b = .inl (cA, x)) (ht : (vl_T cy)[t0]? = some (cA, ty)) (hv : Int32.ofNat x.1 = v) (hdg : decode cc pc = .ok (.arraylength, 1)) (kk : vl_V p l e R s m args below meth c Q D A nL (cw cy ad nl ns par Rl d ++ X) k n lv (pc + 1) (.int v :: st)) : vl_V p l e R s m args below meth c Q D A nL (cw cy ad nl ns par Rl d ++ X) k n lv pc (.ref (ad a b) :: st) := vl_alen C0 t0 (hce ▸ cw_at hr) ht hv hdg kk
theorem rc_rec {a b ci : Nat} {fs : List Value} (hr : (a, b) ∈ Rl) (hce : cw_e cy ad nl ns par (d a b) a b = .inr (ci, fs)) : ∃ (q0 : Nat) (fs : List Value), (cw cy ad nl ns par Rl d ++ X)[q0]? = some (ad a b, .inr (ci, fs)) := (hce ▸ cw_at hr : ∃ q0 : Nat, (cw cy ad nl ns par Rl d ++ X)[q0]? = some (ad a b, .inr (ci, fs))).imp fun q h => ⟨fs, h⟩
end VX
