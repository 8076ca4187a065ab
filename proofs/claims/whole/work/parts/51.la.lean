/-! THE LAW'S CASES -/
section VL6
variable {p : Program} {l : Launch} {e : Env} {R : Room} {s : State} {m : MethodId} {args : Array Value} {below : List Frame} {meth : Method} {c : Code} {Q : State → Prop} {D : va_G} {A : Nat → Prop} {nL : Nat} {w : va_W} {k n : Nat} {lv : List (Nat × Value)} {pc : Nat} {st : List Value}
variable {cc : ByteArray} {Ts : List Cond} {own : String} {cy : Nat → ClassId}
theorem vl_sx (C0 : vl_C l p m meth c cc nL s args Ts own D cy A) {b L : Nat} {xs : Nat → Int32} (hX : va_X b L xs s s.heap) (hbl : b < s.heap.size) (hbA : ¬ A b) (hL : L ≤ 3072) {j : Nat} {y : Int32} (hy : y = nI j) (hj : j < L) (hdg : decode cc pc = .ok (.iaload, 1)) (kk : vl_V p l e R s m args below meth c Q D A nL w k n lv (pc + 1) (.int (xs j) :: st)) : vl_V p l e R s m args below meth c Q D A nL w k n lv pc (.int y :: .ref b :: st) := by
  subst hy
  exact vl_sld C0 hX hbl hbA hL hj hdg kk
theorem lgc0 {x y : Int64} (h : x = y) : lg_cmp x y = 0 := (lg_cmp_eq x y).mpr h
theorem pm_in {A M : va_W} {o : Nat × va_E} : (A ++ (o :: M)).Perm (M ++ (A ++ [o])) := pm_mv (A := A) (B := [o]) (M := M)
theorem pm_out {A M : va_W} {o : Nat × va_E} : (M ++ (A ++ [o])).Perm (A ++ (o :: M)) := (pm_in (A := A) (M := M) (o := o)).symm
end VL6
/-- the law's fixed facts -/
def lwC (p : Program) (l : Launch) (e : Env) (s : State) (m : MethodId) (b : Nat) (below : List Frame) (meth : Method) (c : Code) (D : va_G) (cy : Nat → ClassId) (L : Nat) (xs : Nat → Int32) : Prop := l.stackTraces = false ∧ vl_C l p m meth c code 7 s #[Value.ref b] wsL_law RL D cy (fun q : Nat => s.heap.size ≤ q) ∧ va_X b L xs s s.heap ∧ b < s.heap.size ∧ L ≤ 3072
/-- from the pc on, in any world of both in which what the law keeps holds, the law comes to its end -/
def lwL (p : Program) (l : Launch) (e : Env) (s : State) (m : MethodId) (b : Nat) (below : List Frame) (meth : Method) (c : Code) (D : va_G) (cy : Nat → ClassId) (am : Nat → Nat) (o a0 : Nat) (k n i pc : Nat) : Prop := ∀ (ad : Nat → Nat → Nat) (nl ns : Nat) (par : Nat → Option Nat) (Rl : List (Nat × Nat)) (d : Nat → Nat → Nat → Int32) (mm : Nat → Nat → Int32) (f : Nat → Int64), ad 0 0 = a0 → JJ ns nl par mm d → cw_ok nl ns Rl → vl_V p l e room_1 s m #[Value.ref b] below meth c (lw_Z below #[Value.ref b] s) D (fun q : Nat => s.heap.size ≤ q) 7 (cw cy ad nl ns par Rl d ++ ((o, .inl (cy 4, 1, .inr (.inl f))) :: mw cy am mm)) k n [(0, .ref b), (1, .ref a0), (2, .ref (am 0)), (3, .ref o), (4, .int (nI i))] pc []
set_option maxHeartbeats 4000000 in
set_option maxRecDepth 100000 in
theorem law_addShip {p : Program} {l : Launch} {e : Env} {s : State} {m : MethodId} {b : Nat} {below : List Frame} {meth : Method} {c : Code} {D : va_G} {cy : Nat → ClassId} {am : Nat → Nat} {o a0 L : Nat} {xs : Nat → Int32} {k n i : Nat} (K : lwC p l e s m b below meth c D cy L xs) (hi : i + 6 ≤ L) (hk : k + 5 ≤ 601024) (hn : n + 48 ≤ 7293034) (kk : lwL p l e s m b below meth c D cy am o a0 (k + 5) (n + 48) i 1171) : lwL p l e s m b below meth c D cy am o a0 k n i 120 := by
  obtain ⟨hl0, C0, hX, hbl, hL⟩ := K
  intro ad nl ns par Rl d mm f ha hJ hok
  subst ha
  have hbA : ¬ (fun q : Nat => s.heap.size ≤ q) b := Nat.not_le.mpr hbl
  obtain ⟨⟨e0, h8, e7, h1, h9⟩, htr, -, -, -, hcg, hrt⟩ := id hJ.1
  have hcode := hJ.1.code
  have h0a := hJ.1.ah0
  obtain ⟨hln, hwd, hfk⟩ := id hJ.2
  refine vl_aload_n C0 dL_law_120 1 rfl ?_
  refine vl_aload_n C0 dL_law_121 0 rfl ?_
  refine vl_iload C0 dL_law_122 4 rfl ?_
  refine vl_iconst (v := 1) C0 dL_law_124 (by decide) ?_
  refine vl_iadd C0 dL_law_125 ?_
  refine vl_sx C0 hX hbl hbA hL (j := i + 1) (nI_add i 1) (by omega) dL_law_126 ?_
  refine vl_aload_n C0 dL_law_127 0 rfl ?_
  refine vl_iload C0 dL_law_128 4 rfl ?_
  refine vl_iconst (v := 2) C0 dL_law_130 (by decide) ?_
  refine vl_iadd C0 dL_law_131 ?_
  refine vl_sx C0 hX hbl hbA hL (j := i + 2) (nI_add i 2) (by omega) dL_law_132 ?_
  refine vl_aload_n C0 dL_law_133 0 rfl ?_
  refine vl_iload C0 dL_law_134 4 rfl ?_
  refine vl_iconst (v := 3) C0 dL_law_136 (by decide) ?_
  refine vl_iadd C0 dL_law_137 ?_
  refine vl_sx C0 hX hbl hbA hL (j := i + 3) (nI_add i 3) (by omega) dL_law_138 ?_
  refine vl_aload_n C0 dL_law_139 3 rfl ?_
  refine vl_xcalli C0 (vl_goSXH C0 (As := [.ref (ad 0 0), .int (xs (i + 1)), .int (xs (i + 2)), .int (xs (i + 3)), .ref o]) (na := 5) (st := []) gL_law_L_addShip rfl rfl rfl (by decide +kernel) ⟨Nat.le_of_ble_eq_true rfl, Nat.le_of_ble_eq_true rfl⟩ dL_law_140 (Nat.le_of_ble_eq_true rfl) ⟨show k + 1 ≤ 601024 by omega, show n + 6 ≤ 7293034 by omega⟩ rfl rfl) (c_L_addShip hl0 hok h8 hwd.1 (xs (i + 1)) (xs (i + 2)) (xs (i + 3))) (k2 := k + 5) (n2 := n + 48) (show k + 1 ≤ k + 5 by omega) (show n + 6 ≤ n + 48 by omega) (fun E9 hE9 => False.elim hE9) (fun r9 w9 hp9 => ?_)
  rcases hp9 with ⟨rfl, g1, g2, q, rfl⟩ | ⟨rfl, g1, rfl⟩ | ⟨rfl, g1, rfl⟩
  · skip
    refine vl_w (w2 := cw cy (adS ad ns q) nl (ns + 1) par Rl (up3 d 1 0 1 (nI ns + 1)) ++ (((o, .inl (cy 4, 1, .inr (.inl (vp_updL f (0 : Int32).toNatClampNeg ((nI ns).toInt64))))) :: mw cy am mm) ++ [(q, .inr (2, [.int (xs (i + 1)), .int (xs (i + 2)), .int (xs (i + 3)), .int (-2), .int (xs (i + 3))]))])) rfl ?_
    refine vl_perm (foldS hok) ?_
    refine vl_w (w2 := cw cy (adS ad ns q) nl (ns + 1) par (Rl ++ [(7, ns)]) (dS d ns (xs (i + 1)) (xs (i + 2)) (xs (i + 3))) ++ ((o, .inl (cy 4, 1, .inr (.inl (vp_updL f (0 : Int32).toNatClampNeg ((nI ns).toInt64))))) :: mw cy am mm)) rfl ?_
    refine vl_istore (lv' := [(0, .ref b), (1, .ref (ad 0 0)), (2, .ref (am 0)), (3, .ref o), (4, .int (nI i)), (5, .int 0)]) C0 dL_law_143 [1, 2, 3, 4, 5, 0] (by decide) rfl ?_
    refine vl_aload_n C0 dL_law_145 2 rfl ?_
    refine vl_aload_n C0 dL_law_146 0 rfl ?_
    refine vl_iload C0 dL_law_147 4 rfl ?_
    refine vl_iconst (v := 1) C0 dL_law_149 (by decide) ?_
    refine vl_iadd C0 dL_law_150 ?_
    refine vl_sx C0 hX hbl hbA hL (j := i + 1) (nI_add i 1) (by omega) dL_law_151 ?_
    refine vl_aload_n C0 dL_law_152 0 rfl ?_
    refine vl_iload C0 dL_law_153 4 rfl ?_
    refine vl_iconst (v := 2) C0 dL_law_155 (by decide) ?_
    refine vl_iadd C0 dL_law_156 ?_
    refine vl_sx C0 hX hbl hbA hL (j := i + 2) (nI_add i 2) (by omega) dL_law_157 ?_
    refine vl_aload_n C0 dL_law_158 0 rfl ?_
    refine vl_iload C0 dL_law_159 4 rfl ?_
    refine vl_iconst (v := 3) C0 dL_law_161 (by decide) ?_
    refine vl_iadd C0 dL_law_162 ?_
    refine vl_sx C0 hX hbl hbA hL (j := i + 3) (nI_add i 3) (by omega) dL_law_163 ?_
    refine vl_perm (pm_in (A := cw cy (adS ad ns q) nl (ns + 1) par (Rl ++ [(7, ns)]) (dS d ns (xs (i + 1)) (xs (i + 2)) (xs (i + 3)))) (o := (o, .inl (cy 4, 1, .inr (.inl (vp_updL f (0 : Int32).toNatClampNeg ((nI ns).toInt64)))))) (M := mw cy am mm)) ?_
    refine vl_calli C0 (vl_goV C0 (As := [.int (xs (i + 1)), .int (xs (i + 2)), .int (xs (i + 3))]) (na := 3) (b := am 0) (st := []) (ci := 4) gL_law_X4_addShip rfl rfl rfl (by decide +kernel) ⟨Nat.le_of_ble_eq_true rfl, Nat.le_of_ble_eq_true rfl⟩ rfl ⟨0, _, rfl⟩ dL_law_164 (Nat.le_of_ble_eq_true rfl) ⟨show k + 5 + 0 ≤ 601024 by omega, show n + 48 + 0 ≤ 7293034 by omega⟩ rfl rfl) (c_X4_addShip hl0 (xs (i + 1)) (xs (i + 2)) (xs (i + 3)) e0 h8 (mm := mm)) (k2 := k + 5) (n2 := n + 48) (Nat.le_refl _) (Nat.le_refl _) (fun r9 w9 hp9 => ?_)
    obtain ⟨hr9, rfl⟩ := hp9
    have hq := n_addShip hJ g1 g2
    have hr9 := hr9.trans hq.2.1
    subst hr9
    refine vl_istore (lv' := [(0, .ref b), (1, .ref (ad 0 0)), (2, .ref (am 0)), (3, .ref o), (4, .int (nI i)), (5, .int 0), (6, .int (nI ns))]) C0 dL_law_167 [1, 2, 3, 4, 5, 6, 0] (by decide) rfl ?_
    refine vl_aload_n C0 dL_law_169 2 rfl ?_
    refine vl_calli C0 (vl_goV C0 (As := []) (na := 0) (b := am 0) (st := []) (ci := 4) gL_law_X4_thrown rfl rfl rfl (by decide +kernel) ⟨Nat.le_of_ble_eq_true rfl, Nat.le_of_ble_eq_true rfl⟩ rfl ⟨0, _, rfl⟩ dL_law_170 (Nat.le_of_ble_eq_true rfl) ⟨show k + 5 + 0 ≤ 601024 by omega, show n + 48 + 0 ≤ 7293034 by omega⟩ rfl rfl) (c_X4_thrown hl0 (mm := (sp_addShip ns mm (xs (i + 1)) (xs (i + 2)) (xs (i + 3))).2)) (k2 := k + 5) (n2 := n + 48) (Nat.le_refl _) (Nat.le_refl _) (fun t9 w9 hp9 => ?_)
    obtain ⟨ht9, rfl⟩ := hp9
    have ht9 := ht9.trans hq.2.2
    subst ht9
    refine vl_perm (pm_out (A := cw cy (adS ad ns q) nl (ns + 1) par (Rl ++ [(7, ns)]) (dS d ns (xs (i + 1)) (xs (i + 2)) (xs (i + 3)))) (o := (o, .inl (cy 4, 1, .inr (.inl (vp_updL f (0 : Int32).toNatClampNeg ((nI ns).toInt64)))))) (M := mw cy am (sp_addShip ns mm (xs (i + 1)) (xs (i + 2)) (xs (i + 3))).2)) ?_
    refine vl_iload C0 dL_law_173 5 rfl ?_
    refine vl_icmp_eq (tgt := 180) C0 dL_law_175 (by decide) (fun (h175 : (0 : Int32) = (0 : Int32)) => ?_) (fun (h175 : ¬ (0 : Int32) = (0 : Int32)) => absurd h175 (by decide))
    refine vl_iload C0 dL_law_180 5 rfl ?_
    refine vl_if_ne (tgt := 197) C0 dL_law_182 (by decide) (fun (h182 : ¬ (0 : Int32) = (0 : Int32)) => absurd h182 (by decide)) (fun (h182 : (0 : Int32) = (0 : Int32)) => ?_)
    refine vl_aload_n C0 dL_law_185 3 rfl ?_
    refine vl_iconst (v := 0) C0 dL_law_186 (by decide) ?_
    refine vl_lald C0 (f := (vp_updL f (0 : Int32).toNatClampNeg ((nI ns).toInt64))) (i := 0) ⟨_, wy_at (j := 0) rfl⟩ (vp_in_iff.mpr (by decide)) dL_law_187 ?_
    refine vl_st (st2 := [.long ((nI ns).toInt64)]) (by rw [updL_s]) ?_
    refine vl_iload C0 dL_law_188 6 rfl ?_
    refine vl_i2l C0 dL_law_190 rfl ?_
    refine vl_lcmp C0 dL_law_191 ?_
    refine vl_if_eq (tgt := 197) C0 dL_law_192 (by decide) (fun (h192 : (lg_cmp ((nI ns).toInt64) ((nI ns).toInt64) : Int32) = (0 : Int32)) => ?_) (fun (h192 : ¬ (lg_cmp ((nI ns).toInt64) ((nI ns).toInt64) : Int32) = (0 : Int32)) => absurd (lgc0 rfl) h192)
    refine vl_goto (tgt := 1171) C0 dL_law_197 (by decide) ?_
    refine vl_lv (lv2 := [(0, .ref b), (1, .ref (ad 0 0)), (2, .ref (am 0)), (3, .ref o), (4, .int (nI i))]) [0, 1, 2, 3, 4] rfl ?_
    exact kk (adS ad ns q) nl (ns + 1) par (Rl ++ [(7, ns)]) (dS d ns (xs (i + 1)) (xs (i + 2)) (xs (i + 3))) (sp_addShip ns mm (xs (i + 1)) (xs (i + 2)) (xs (i + 3))).2 (vp_updL f (0 : Int32).toNatClampNeg ((nI ns).toInt64)) (by simp [adS]) hq.1 (cw_okS hok)
  · skip
    refine vl_istore (lv' := [(0, .ref b), (1, .ref (ad 0 0)), (2, .ref (am 0)), (3, .ref o), (4, .int (nI i)), (5, .int 1)]) C0 dL_law_143 [1, 2, 3, 4, 5, 0] (by decide) rfl ?_
    refine vl_aload_n C0 dL_law_145 2 rfl ?_
    refine vl_aload_n C0 dL_law_146 0 rfl ?_
    refine vl_iload C0 dL_law_147 4 rfl ?_
    refine vl_iconst (v := 1) C0 dL_law_149 (by decide) ?_
    refine vl_iadd C0 dL_law_150 ?_
    refine vl_sx C0 hX hbl hbA hL (j := i + 1) (nI_add i 1) (by omega) dL_law_151 ?_
    refine vl_aload_n C0 dL_law_152 0 rfl ?_
    refine vl_iload C0 dL_law_153 4 rfl ?_
    refine vl_iconst (v := 2) C0 dL_law_155 (by decide) ?_
    refine vl_iadd C0 dL_law_156 ?_
    refine vl_sx C0 hX hbl hbA hL (j := i + 2) (nI_add i 2) (by omega) dL_law_157 ?_
    refine vl_aload_n C0 dL_law_158 0 rfl ?_
    refine vl_iload C0 dL_law_159 4 rfl ?_
    refine vl_iconst (v := 3) C0 dL_law_161 (by decide) ?_
    refine vl_iadd C0 dL_law_162 ?_
    refine vl_sx C0 hX hbl hbA hL (j := i + 3) (nI_add i 3) (by omega) dL_law_163 ?_
    refine vl_perm (pm_in (A := cw cy ad nl ns par Rl d) (o := (o, .inl (cy 4, 1, .inr (.inl f)))) (M := mw cy am mm)) ?_
    refine vl_calli C0 (vl_goV C0 (As := [.int (xs (i + 1)), .int (xs (i + 2)), .int (xs (i + 3))]) (na := 3) (b := am 0) (st := []) (ci := 4) gL_law_X4_addShip rfl rfl rfl (by decide +kernel) ⟨Nat.le_of_ble_eq_true rfl, Nat.le_of_ble_eq_true rfl⟩ rfl ⟨0, _, rfl⟩ dL_law_164 (Nat.le_of_ble_eq_true rfl) ⟨show k + 5 + 0 ≤ 601024 by omega, show n + 48 + 0 ≤ 7293034 by omega⟩ rfl rfl) (c_X4_addShip hl0 (xs (i + 1)) (xs (i + 2)) (xs (i + 3)) e0 h8 (mm := mm)) (k2 := k + 5) (n2 := n + 48) (Nat.le_refl _) (Nat.le_refl _) (fun r9 w9 hp9 => ?_)
    obtain ⟨hr9, rfl⟩ := hp9
    have hq : JJ ns nl par (sp_addShip ns mm (xs (i + 1)) (xs (i + 2)) (xs (i + 3))).2 d ∧ (sp_addShip ns mm (xs (i + 1)) (xs (i + 2)) (xs (i + 3))).2 0 17 = 1 := hJ.t (e_addShip_1 g1)
    clear hr9
    refine vl_istore (lv' := [(0, .ref b), (1, .ref (ad 0 0)), (2, .ref (am 0)), (3, .ref o), (4, .int (nI i)), (5, .int 1), (6, .int r9)]) C0 dL_law_167 [1, 2, 3, 4, 5, 6, 0] (by decide) rfl ?_
    refine vl_aload_n C0 dL_law_169 2 rfl ?_
    refine vl_calli C0 (vl_goV C0 (As := []) (na := 0) (b := am 0) (st := []) (ci := 4) gL_law_X4_thrown rfl rfl rfl (by decide +kernel) ⟨Nat.le_of_ble_eq_true rfl, Nat.le_of_ble_eq_true rfl⟩ rfl ⟨0, _, rfl⟩ dL_law_170 (Nat.le_of_ble_eq_true rfl) ⟨show k + 5 + 0 ≤ 601024 by omega, show n + 48 + 0 ≤ 7293034 by omega⟩ rfl rfl) (c_X4_thrown hl0 (mm := (sp_addShip ns mm (xs (i + 1)) (xs (i + 2)) (xs (i + 3))).2)) (k2 := k + 5) (n2 := n + 48) (Nat.le_refl _) (Nat.le_refl _) (fun t9 w9 hp9 => ?_)
    obtain ⟨ht9, rfl⟩ := hp9
    have ht9 := ht9.trans hq.2
    subst ht9
    refine vl_perm (pm_out (A := cw cy ad nl ns par Rl d) (o := (o, .inl (cy 4, 1, .inr (.inl f)))) (M := mw cy am (sp_addShip ns mm (xs (i + 1)) (xs (i + 2)) (xs (i + 3))).2)) ?_
    refine vl_iload C0 dL_law_173 5 rfl ?_
    refine vl_icmp_eq (tgt := 180) C0 dL_law_175 (by decide) (fun (h175 : (1 : Int32) = (1 : Int32)) => ?_) (fun (h175 : ¬ (1 : Int32) = (1 : Int32)) => absurd h175 (by decide))
    refine vl_iload C0 dL_law_180 5 rfl ?_
    refine vl_if_ne (tgt := 197) C0 dL_law_182 (by decide) (fun (h182 : ¬ (1 : Int32) = (0 : Int32)) => ?_) (fun (h182 : (1 : Int32) = (0 : Int32)) => absurd h182 (by decide))
    refine vl_goto (tgt := 1171) C0 dL_law_197 (by decide) ?_
    refine vl_lv (lv2 := [(0, .ref b), (1, .ref (ad 0 0)), (2, .ref (am 0)), (3, .ref o), (4, .int (nI i))]) [0, 1, 2, 3, 4] rfl ?_
    exact kk ad nl ns par Rl d (sp_addShip ns mm (xs (i + 1)) (xs (i + 2)) (xs (i + 3))).2 f rfl hq.1 hok
  · skip
    refine vl_istore (lv' := [(0, .ref b), (1, .ref (ad 0 0)), (2, .ref (am 0)), (3, .ref o), (4, .int (nI i)), (5, .int 2)]) C0 dL_law_143 [1, 2, 3, 4, 5, 0] (by decide) rfl ?_
    refine vl_aload_n C0 dL_law_145 2 rfl ?_
    refine vl_aload_n C0 dL_law_146 0 rfl ?_
    refine vl_iload C0 dL_law_147 4 rfl ?_
    refine vl_iconst (v := 1) C0 dL_law_149 (by decide) ?_
    refine vl_iadd C0 dL_law_150 ?_
    refine vl_sx C0 hX hbl hbA hL (j := i + 1) (nI_add i 1) (by omega) dL_law_151 ?_
    refine vl_aload_n C0 dL_law_152 0 rfl ?_
    refine vl_iload C0 dL_law_153 4 rfl ?_
    refine vl_iconst (v := 2) C0 dL_law_155 (by decide) ?_
    refine vl_iadd C0 dL_law_156 ?_
    refine vl_sx C0 hX hbl hbA hL (j := i + 2) (nI_add i 2) (by omega) dL_law_157 ?_
    refine vl_aload_n C0 dL_law_158 0 rfl ?_
    refine vl_iload C0 dL_law_159 4 rfl ?_
    refine vl_iconst (v := 3) C0 dL_law_161 (by decide) ?_
    refine vl_iadd C0 dL_law_162 ?_
    refine vl_sx C0 hX hbl hbA hL (j := i + 3) (nI_add i 3) (by omega) dL_law_163 ?_
    refine vl_perm (pm_in (A := cw cy ad nl ns par Rl d) (o := (o, .inl (cy 4, 1, .inr (.inl f)))) (M := mw cy am mm)) ?_
    refine vl_calli C0 (vl_goV C0 (As := [.int (xs (i + 1)), .int (xs (i + 2)), .int (xs (i + 3))]) (na := 3) (b := am 0) (st := []) (ci := 4) gL_law_X4_addShip rfl rfl rfl (by decide +kernel) ⟨Nat.le_of_ble_eq_true rfl, Nat.le_of_ble_eq_true rfl⟩ rfl ⟨0, _, rfl⟩ dL_law_164 (Nat.le_of_ble_eq_true rfl) ⟨show k + 5 + 0 ≤ 601024 by omega, show n + 48 + 0 ≤ 7293034 by omega⟩ rfl rfl) (c_X4_addShip hl0 (xs (i + 1)) (xs (i + 2)) (xs (i + 3)) e0 h8 (mm := mm)) (k2 := k + 5) (n2 := n + 48) (Nat.le_refl _) (Nat.le_refl _) (fun r9 w9 hp9 => ?_)
    obtain ⟨hr9, rfl⟩ := hp9
    have hq : JJ ns nl par (sp_addShip ns mm (xs (i + 1)) (xs (i + 2)) (xs (i + 3))).2 d ∧ (sp_addShip ns mm (xs (i + 1)) (xs (i + 2)) (xs (i + 3))).2 0 17 = 2 := hJ.t (e_addShip_2 g1)
    clear hr9
    refine vl_istore (lv' := [(0, .ref b), (1, .ref (ad 0 0)), (2, .ref (am 0)), (3, .ref o), (4, .int (nI i)), (5, .int 2), (6, .int r9)]) C0 dL_law_167 [1, 2, 3, 4, 5, 6, 0] (by decide) rfl ?_
    refine vl_aload_n C0 dL_law_169 2 rfl ?_
    refine vl_calli C0 (vl_goV C0 (As := []) (na := 0) (b := am 0) (st := []) (ci := 4) gL_law_X4_thrown rfl rfl rfl (by decide +kernel) ⟨Nat.le_of_ble_eq_true rfl, Nat.le_of_ble_eq_true rfl⟩ rfl ⟨0, _, rfl⟩ dL_law_170 (Nat.le_of_ble_eq_true rfl) ⟨show k + 5 + 0 ≤ 601024 by omega, show n + 48 + 0 ≤ 7293034 by omega⟩ rfl rfl) (c_X4_thrown hl0 (mm := (sp_addShip ns mm (xs (i + 1)) (xs (i + 2)) (xs (i + 3))).2)) (k2 := k + 5) (n2 := n + 48) (Nat.le_refl _) (Nat.le_refl _) (fun t9 w9 hp9 => ?_)
    obtain ⟨ht9, rfl⟩ := hp9
    have ht9 := ht9.trans hq.2
    subst ht9
    refine vl_perm (pm_out (A := cw cy ad nl ns par Rl d) (o := (o, .inl (cy 4, 1, .inr (.inl f)))) (M := mw cy am (sp_addShip ns mm (xs (i + 1)) (xs (i + 2)) (xs (i + 3))).2)) ?_
    refine vl_iload C0 dL_law_173 5 rfl ?_
    refine vl_icmp_eq (tgt := 180) C0 dL_law_175 (by decide) (fun (h175 : (2 : Int32) = (2 : Int32)) => ?_) (fun (h175 : ¬ (2 : Int32) = (2 : Int32)) => absurd h175 (by decide))
    refine vl_iload C0 dL_law_180 5 rfl ?_
    refine vl_if_ne (tgt := 197) C0 dL_law_182 (by decide) (fun (h182 : ¬ (2 : Int32) = (0 : Int32)) => ?_) (fun (h182 : (2 : Int32) = (0 : Int32)) => absurd h182 (by decide))
    refine vl_goto (tgt := 1171) C0 dL_law_197 (by decide) ?_
    refine vl_lv (lv2 := [(0, .ref b), (1, .ref (ad 0 0)), (2, .ref (am 0)), (3, .ref o), (4, .int (nI i))]) [0, 1, 2, 3, 4] rfl ?_
    exact kk ad nl ns par Rl d (sp_addShip ns mm (xs (i + 1)) (xs (i + 2)) (xs (i + 3))).2 f rfl hq.1 hok
set_option maxHeartbeats 4000000 in
set_option maxRecDepth 100000 in
theorem law_setRate {p : Program} {l : Launch} {e : Env} {s : State} {m : MethodId} {b : Nat} {below : List Frame} {meth : Method} {c : Code} {D : va_G} {cy : Nat → ClassId} {am : Nat → Nat} {o a0 L : Nat} {xs : Nat → Int32} {k n i : Nat} (K : lwC p l e s m b below meth c D cy L xs) (hi : i + 6 ≤ L) (hk : k + 5 ≤ 601024) (hn : n + 48 ≤ 7293034) (kk : lwL p l e s m b below meth c D cy am o a0 (k + 5) (n + 48) i 1171) : lwL p l e s m b below meth c D cy am o a0 k n i 200 := by
  obtain ⟨hl0, C0, hX, hbl, hL⟩ := K
  intro ad nl ns par Rl d mm f ha hJ hok
  subst ha
  have hbA : ¬ (fun q : Nat => s.heap.size ≤ q) b := Nat.not_le.mpr hbl
  obtain ⟨⟨e0, h8, e7, h1, h9⟩, htr, -, -, -, hcg, hrt⟩ := id hJ.1
  have hcode := hJ.1.code
  have h0a := hJ.1.ah0
  obtain ⟨hln, hwd, hfk⟩ := id hJ.2
  refine vl_aload_n C0 dL_law_200 1 rfl ?_
  refine vl_aload_n C0 dL_law_201 0 rfl ?_
  refine vl_iload C0 dL_law_202 4 rfl ?_
  refine vl_iconst (v := 1) C0 dL_law_204 (by decide) ?_
  refine vl_iadd C0 dL_law_205 ?_
  refine vl_sx C0 hX hbl hbA hL (j := i + 1) (nI_add i 1) (by omega) dL_law_206 ?_
  refine vl_aload_n C0 dL_law_207 0 rfl ?_
  refine vl_iload C0 dL_law_208 4 rfl ?_
  refine vl_iconst (v := 2) C0 dL_law_210 (by decide) ?_
  refine vl_iadd C0 dL_law_211 ?_
  refine vl_sx C0 hX hbl hbA hL (j := i + 2) (nI_add i 2) (by omega) dL_law_212 ?_
  refine vl_aload_n C0 dL_law_213 3 rfl ?_
  refine vl_xcalli C0 (vl_goSXH C0 (As := [.ref (ad 0 0), .int (xs (i + 1)), .int (xs (i + 2)), .ref o]) (na := 4) (st := []) gL_law_L_setRate rfl rfl rfl (by decide +kernel) ⟨Nat.le_of_ble_eq_true rfl, Nat.le_of_ble_eq_true rfl⟩ dL_law_214 (Nat.le_of_ble_eq_true rfl) ⟨show k + 2 ≤ 601024 by omega, show n + 12 ≤ 7293034 by omega⟩ rfl rfl) (c_L_setRate hl0 hok (xs (i + 1)) (xs (i + 2)) (mm := mm)) (k2 := k + 5) (n2 := n + 48) (show k + 2 ≤ k + 5 by omega) (show n + 12 ≤ n + 48 by omega) (fun E9 hE9 => False.elim hE9) (fun r9 w9 hp9 => ?_)
  rcases hp9 with ⟨rfl, g1, g2, rfl⟩ | ⟨rfl, g1, rfl⟩ | ⟨rfl, g1, rfl⟩
  · skip
    refine vl_istore (lv' := [(0, .ref b), (1, .ref (ad 0 0)), (2, .ref (am 0)), (3, .ref o), (4, .int (nI i)), (5, .int 0)]) C0 dL_law_217 [1, 2, 3, 4, 5, 0] (by decide) rfl ?_
    refine vl_aload_n C0 dL_law_219 2 rfl ?_
    refine vl_aload_n C0 dL_law_220 0 rfl ?_
    refine vl_iload C0 dL_law_221 4 rfl ?_
    refine vl_iconst (v := 1) C0 dL_law_223 (by decide) ?_
    refine vl_iadd C0 dL_law_224 ?_
    refine vl_sx C0 hX hbl hbA hL (j := i + 1) (nI_add i 1) (by omega) dL_law_225 ?_
    refine vl_aload_n C0 dL_law_226 0 rfl ?_
    refine vl_iload C0 dL_law_227 4 rfl ?_
    refine vl_iconst (v := 2) C0 dL_law_229 (by decide) ?_
    refine vl_iadd C0 dL_law_230 ?_
    refine vl_sx C0 hX hbl hbA hL (j := i + 2) (nI_add i 2) (by omega) dL_law_231 ?_
    refine vl_perm (pm_in (A := cw cy ad nl ns par Rl (up3 d 4 0 (xs (i + 1)).toNatClampNeg (xs (i + 2)))) (o := (o, .inl (cy 4, 1, .inr (.inl (vp_updL f (0 : Int32).toNatClampNeg ((d 4 0 (xs (i + 1)).toNatClampNeg).toInt64)))))) (M := mw cy am mm)) ?_
    refine vl_calli C0 (vl_goV C0 (As := [.int (xs (i + 1)), .int (xs (i + 2))]) (na := 2) (b := am 0) (st := []) (ci := 4) gL_law_X4_setRate rfl rfl rfl (by decide +kernel) ⟨Nat.le_of_ble_eq_true rfl, Nat.le_of_ble_eq_true rfl⟩ rfl ⟨0, _, rfl⟩ dL_law_232 (Nat.le_of_ble_eq_true rfl) ⟨show k + 5 + 0 ≤ 601024 by omega, show n + 48 + 0 ≤ 7293034 by omega⟩ rfl rfl) (c_X4_setRate hl0 (xs (i + 1)) (xs (i + 2)) (mm := mm)) (k2 := k + 5) (n2 := n + 48) (Nat.le_refl _) (Nat.le_refl _) (fun r9 w9 hp9 => ?_)
    obtain ⟨hr9, rfl⟩ := hp9
    have hq := n_setRate hJ g1 g2
    have hr9 := hr9.trans hq.2.1
    subst hr9
    refine vl_istore (lv' := [(0, .ref b), (1, .ref (ad 0 0)), (2, .ref (am 0)), (3, .ref o), (4, .int (nI i)), (5, .int 0), (6, .int (d 4 0 (xs (i + 1)).toNatClampNeg))]) C0 dL_law_235 [1, 2, 3, 4, 5, 6, 0] (by decide) rfl ?_
    refine vl_aload_n C0 dL_law_237 2 rfl ?_
    refine vl_calli C0 (vl_goV C0 (As := []) (na := 0) (b := am 0) (st := []) (ci := 4) gL_law_X4_thrown rfl rfl rfl (by decide +kernel) ⟨Nat.le_of_ble_eq_true rfl, Nat.le_of_ble_eq_true rfl⟩ rfl ⟨0, _, rfl⟩ dL_law_238 (Nat.le_of_ble_eq_true rfl) ⟨show k + 5 + 0 ≤ 601024 by omega, show n + 48 + 0 ≤ 7293034 by omega⟩ rfl rfl) (c_X4_thrown hl0 (mm := (sp_setRate mm (xs (i + 1)) (xs (i + 2))).2)) (k2 := k + 5) (n2 := n + 48) (Nat.le_refl _) (Nat.le_refl _) (fun t9 w9 hp9 => ?_)
    obtain ⟨ht9, rfl⟩ := hp9
    have ht9 := ht9.trans hq.2.2
    subst ht9
    refine vl_perm (pm_out (A := cw cy ad nl ns par Rl (up3 d 4 0 (xs (i + 1)).toNatClampNeg (xs (i + 2)))) (o := (o, .inl (cy 4, 1, .inr (.inl (vp_updL f (0 : Int32).toNatClampNeg ((d 4 0 (xs (i + 1)).toNatClampNeg).toInt64)))))) (M := mw cy am (sp_setRate mm (xs (i + 1)) (xs (i + 2))).2)) ?_
    refine vl_iload C0 dL_law_241 5 rfl ?_
    refine vl_icmp_eq (tgt := 248) C0 dL_law_243 (by decide) (fun (h243 : (0 : Int32) = (0 : Int32)) => ?_) (fun (h243 : ¬ (0 : Int32) = (0 : Int32)) => absurd h243 (by decide))
    refine vl_iload C0 dL_law_248 5 rfl ?_
    refine vl_if_ne (tgt := 265) C0 dL_law_250 (by decide) (fun (h250 : ¬ (0 : Int32) = (0 : Int32)) => absurd h250 (by decide)) (fun (h250 : (0 : Int32) = (0 : Int32)) => ?_)
    refine vl_aload_n C0 dL_law_253 3 rfl ?_
    refine vl_iconst (v := 0) C0 dL_law_254 (by decide) ?_
    refine vl_lald C0 (f := (vp_updL f (0 : Int32).toNatClampNeg ((d 4 0 (xs (i + 1)).toNatClampNeg).toInt64))) (i := 0) ⟨_, wy_at (j := 0) rfl⟩ (vp_in_iff.mpr (by decide)) dL_law_255 ?_
    refine vl_st (st2 := [.long ((d 4 0 (xs (i + 1)).toNatClampNeg).toInt64)]) (by rw [updL_s]) ?_
    refine vl_iload C0 dL_law_256 6 rfl ?_
    refine vl_i2l C0 dL_law_258 rfl ?_
    refine vl_lcmp C0 dL_law_259 ?_
    refine vl_if_eq (tgt := 265) C0 dL_law_260 (by decide) (fun (h260 : (lg_cmp ((d 4 0 (xs (i + 1)).toNatClampNeg).toInt64) ((d 4 0 (xs (i + 1)).toNatClampNeg).toInt64) : Int32) = (0 : Int32)) => ?_) (fun (h260 : ¬ (lg_cmp ((d 4 0 (xs (i + 1)).toNatClampNeg).toInt64) ((d 4 0 (xs (i + 1)).toNatClampNeg).toInt64) : Int32) = (0 : Int32)) => absurd (lgc0 rfl) h260)
    refine vl_goto (tgt := 1171) C0 dL_law_265 (by decide) ?_
    refine vl_lv (lv2 := [(0, .ref b), (1, .ref (ad 0 0)), (2, .ref (am 0)), (3, .ref o), (4, .int (nI i))]) [0, 1, 2, 3, 4] rfl ?_
    exact kk ad nl ns par Rl (up3 d 4 0 (xs (i + 1)).toNatClampNeg (xs (i + 2))) (sp_setRate mm (xs (i + 1)) (xs (i + 2))).2 (vp_updL f (0 : Int32).toNatClampNeg ((d 4 0 (xs (i + 1)).toNatClampNeg).toInt64)) rfl hq.1 hok
  · skip
    refine vl_istore (lv' := [(0, .ref b), (1, .ref (ad 0 0)), (2, .ref (am 0)), (3, .ref o), (4, .int (nI i)), (5, .int 1)]) C0 dL_law_217 [1, 2, 3, 4, 5, 0] (by decide) rfl ?_
    refine vl_aload_n C0 dL_law_219 2 rfl ?_
    refine vl_aload_n C0 dL_law_220 0 rfl ?_
    refine vl_iload C0 dL_law_221 4 rfl ?_
    refine vl_iconst (v := 1) C0 dL_law_223 (by decide) ?_
    refine vl_iadd C0 dL_law_224 ?_
    refine vl_sx C0 hX hbl hbA hL (j := i + 1) (nI_add i 1) (by omega) dL_law_225 ?_
    refine vl_aload_n C0 dL_law_226 0 rfl ?_
    refine vl_iload C0 dL_law_227 4 rfl ?_
    refine vl_iconst (v := 2) C0 dL_law_229 (by decide) ?_
    refine vl_iadd C0 dL_law_230 ?_
    refine vl_sx C0 hX hbl hbA hL (j := i + 2) (nI_add i 2) (by omega) dL_law_231 ?_
    refine vl_perm (pm_in (A := cw cy ad nl ns par Rl d) (o := (o, .inl (cy 4, 1, .inr (.inl f)))) (M := mw cy am mm)) ?_
    refine vl_calli C0 (vl_goV C0 (As := [.int (xs (i + 1)), .int (xs (i + 2))]) (na := 2) (b := am 0) (st := []) (ci := 4) gL_law_X4_setRate rfl rfl rfl (by decide +kernel) ⟨Nat.le_of_ble_eq_true rfl, Nat.le_of_ble_eq_true rfl⟩ rfl ⟨0, _, rfl⟩ dL_law_232 (Nat.le_of_ble_eq_true rfl) ⟨show k + 5 + 0 ≤ 601024 by omega, show n + 48 + 0 ≤ 7293034 by omega⟩ rfl rfl) (c_X4_setRate hl0 (xs (i + 1)) (xs (i + 2)) (mm := mm)) (k2 := k + 5) (n2 := n + 48) (Nat.le_refl _) (Nat.le_refl _) (fun r9 w9 hp9 => ?_)
    obtain ⟨hr9, rfl⟩ := hp9
    have hq : JJ ns nl par (sp_setRate mm (xs (i + 1)) (xs (i + 2))).2 d ∧ (sp_setRate mm (xs (i + 1)) (xs (i + 2))).2 0 17 = 1 := hJ.t (e_setRate_1 g1)
    clear hr9
    refine vl_istore (lv' := [(0, .ref b), (1, .ref (ad 0 0)), (2, .ref (am 0)), (3, .ref o), (4, .int (nI i)), (5, .int 1), (6, .int r9)]) C0 dL_law_235 [1, 2, 3, 4, 5, 6, 0] (by decide) rfl ?_
    refine vl_aload_n C0 dL_law_237 2 rfl ?_
    refine vl_calli C0 (vl_goV C0 (As := []) (na := 0) (b := am 0) (st := []) (ci := 4) gL_law_X4_thrown rfl rfl rfl (by decide +kernel) ⟨Nat.le_of_ble_eq_true rfl, Nat.le_of_ble_eq_true rfl⟩ rfl ⟨0, _, rfl⟩ dL_law_238 (Nat.le_of_ble_eq_true rfl) ⟨show k + 5 + 0 ≤ 601024 by omega, show n + 48 + 0 ≤ 7293034 by omega⟩ rfl rfl) (c_X4_thrown hl0 (mm := (sp_setRate mm (xs (i + 1)) (xs (i + 2))).2)) (k2 := k + 5) (n2 := n + 48) (Nat.le_refl _) (Nat.le_refl _) (fun t9 w9 hp9 => ?_)
    obtain ⟨ht9, rfl⟩ := hp9
    have ht9 := ht9.trans hq.2
    subst ht9
    refine vl_perm (pm_out (A := cw cy ad nl ns par Rl d) (o := (o, .inl (cy 4, 1, .inr (.inl f)))) (M := mw cy am (sp_setRate mm (xs (i + 1)) (xs (i + 2))).2)) ?_
    refine vl_iload C0 dL_law_241 5 rfl ?_
    refine vl_icmp_eq (tgt := 248) C0 dL_law_243 (by decide) (fun (h243 : (1 : Int32) = (1 : Int32)) => ?_) (fun (h243 : ¬ (1 : Int32) = (1 : Int32)) => absurd h243 (by decide))
    refine vl_iload C0 dL_law_248 5 rfl ?_
    refine vl_if_ne (tgt := 265) C0 dL_law_250 (by decide) (fun (h250 : ¬ (1 : Int32) = (0 : Int32)) => ?_) (fun (h250 : (1 : Int32) = (0 : Int32)) => absurd h250 (by decide))
    refine vl_goto (tgt := 1171) C0 dL_law_265 (by decide) ?_
    refine vl_lv (lv2 := [(0, .ref b), (1, .ref (ad 0 0)), (2, .ref (am 0)), (3, .ref o), (4, .int (nI i))]) [0, 1, 2, 3, 4] rfl ?_
    exact kk ad nl ns par Rl d (sp_setRate mm (xs (i + 1)) (xs (i + 2))).2 f rfl hq.1 hok
  · skip
    refine vl_istore (lv' := [(0, .ref b), (1, .ref (ad 0 0)), (2, .ref (am 0)), (3, .ref o), (4, .int (nI i)), (5, .int 2)]) C0 dL_law_217 [1, 2, 3, 4, 5, 0] (by decide) rfl ?_
    refine vl_aload_n C0 dL_law_219 2 rfl ?_
    refine vl_aload_n C0 dL_law_220 0 rfl ?_
    refine vl_iload C0 dL_law_221 4 rfl ?_
    refine vl_iconst (v := 1) C0 dL_law_223 (by decide) ?_
    refine vl_iadd C0 dL_law_224 ?_
    refine vl_sx C0 hX hbl hbA hL (j := i + 1) (nI_add i 1) (by omega) dL_law_225 ?_
    refine vl_aload_n C0 dL_law_226 0 rfl ?_
    refine vl_iload C0 dL_law_227 4 rfl ?_
    refine vl_iconst (v := 2) C0 dL_law_229 (by decide) ?_
    refine vl_iadd C0 dL_law_230 ?_
    refine vl_sx C0 hX hbl hbA hL (j := i + 2) (nI_add i 2) (by omega) dL_law_231 ?_
    refine vl_perm (pm_in (A := cw cy ad nl ns par Rl d) (o := (o, .inl (cy 4, 1, .inr (.inl f)))) (M := mw cy am mm)) ?_
    refine vl_calli C0 (vl_goV C0 (As := [.int (xs (i + 1)), .int (xs (i + 2))]) (na := 2) (b := am 0) (st := []) (ci := 4) gL_law_X4_setRate rfl rfl rfl (by decide +kernel) ⟨Nat.le_of_ble_eq_true rfl, Nat.le_of_ble_eq_true rfl⟩ rfl ⟨0, _, rfl⟩ dL_law_232 (Nat.le_of_ble_eq_true rfl) ⟨show k + 5 + 0 ≤ 601024 by omega, show n + 48 + 0 ≤ 7293034 by omega⟩ rfl rfl) (c_X4_setRate hl0 (xs (i + 1)) (xs (i + 2)) (mm := mm)) (k2 := k + 5) (n2 := n + 48) (Nat.le_refl _) (Nat.le_refl _) (fun r9 w9 hp9 => ?_)
    obtain ⟨hr9, rfl⟩ := hp9
    have hq : JJ ns nl par (sp_setRate mm (xs (i + 1)) (xs (i + 2))).2 d ∧ (sp_setRate mm (xs (i + 1)) (xs (i + 2))).2 0 17 = 2 := hJ.t (e_setRate_2 g1)
    clear hr9
    refine vl_istore (lv' := [(0, .ref b), (1, .ref (ad 0 0)), (2, .ref (am 0)), (3, .ref o), (4, .int (nI i)), (5, .int 2), (6, .int r9)]) C0 dL_law_235 [1, 2, 3, 4, 5, 6, 0] (by decide) rfl ?_
    refine vl_aload_n C0 dL_law_237 2 rfl ?_
    refine vl_calli C0 (vl_goV C0 (As := []) (na := 0) (b := am 0) (st := []) (ci := 4) gL_law_X4_thrown rfl rfl rfl (by decide +kernel) ⟨Nat.le_of_ble_eq_true rfl, Nat.le_of_ble_eq_true rfl⟩ rfl ⟨0, _, rfl⟩ dL_law_238 (Nat.le_of_ble_eq_true rfl) ⟨show k + 5 + 0 ≤ 601024 by omega, show n + 48 + 0 ≤ 7293034 by omega⟩ rfl rfl) (c_X4_thrown hl0 (mm := (sp_setRate mm (xs (i + 1)) (xs (i + 2))).2)) (k2 := k + 5) (n2 := n + 48) (Nat.le_refl _) (Nat.le_refl _) (fun t9 w9 hp9 => ?_)
    obtain ⟨ht9, rfl⟩ := hp9
    have ht9 := ht9.trans hq.2
    subst ht9
    refine vl_perm (pm_out (A := cw cy ad nl ns par Rl d) (o := (o, .inl (cy 4, 1, .inr (.inl f)))) (M := mw cy am (sp_setRate mm (xs (i + 1)) (xs (i + 2))).2)) ?_
    refine vl_iload C0 dL_law_241 5 rfl ?_
    refine vl_icmp_eq (tgt := 248) C0 dL_law_243 (by decide) (fun (h243 : (2 : Int32) = (2 : Int32)) => ?_) (fun (h243 : ¬ (2 : Int32) = (2 : Int32)) => absurd h243 (by decide))
    refine vl_iload C0 dL_law_248 5 rfl ?_
    refine vl_if_ne (tgt := 265) C0 dL_law_250 (by decide) (fun (h250 : ¬ (2 : Int32) = (0 : Int32)) => ?_) (fun (h250 : (2 : Int32) = (0 : Int32)) => absurd h250 (by decide))
    refine vl_goto (tgt := 1171) C0 dL_law_265 (by decide) ?_
    refine vl_lv (lv2 := [(0, .ref b), (1, .ref (ad 0 0)), (2, .ref (am 0)), (3, .ref o), (4, .int (nI i))]) [0, 1, 2, 3, 4] rfl ?_
    exact kk ad nl ns par Rl d (sp_setRate mm (xs (i + 1)) (xs (i + 2))).2 f rfl hq.1 hok
set_option maxHeartbeats 4000000 in
set_option maxRecDepth 100000 in
theorem law_setRules {p : Program} {l : Launch} {e : Env} {s : State} {m : MethodId} {b : Nat} {below : List Frame} {meth : Method} {c : Code} {D : va_G} {cy : Nat → ClassId} {am : Nat → Nat} {o a0 L : Nat} {xs : Nat → Int32} {k n i : Nat} (K : lwC p l e s m b below meth c D cy L xs) (hi : i + 6 ≤ L) (hk : k + 5 ≤ 601024) (hn : n + 48 ≤ 7293034) (kk : lwL p l e s m b below meth c D cy am o a0 (k + 5) (n + 48) i 1171) : lwL p l e s m b below meth c D cy am o a0 k n i 268 := by
  obtain ⟨hl0, C0, hX, hbl, hL⟩ := K
  intro ad nl ns par Rl d mm f ha hJ hok
  subst ha
  have hbA : ¬ (fun q : Nat => s.heap.size ≤ q) b := Nat.not_le.mpr hbl
  obtain ⟨⟨e0, h8, e7, h1, h9⟩, htr, -, -, -, hcg, hrt⟩ := id hJ.1
  have hcode := hJ.1.code
  have h0a := hJ.1.ah0
  obtain ⟨hln, hwd, hfk⟩ := id hJ.2
  refine vl_aload_n C0 dL_law_268 1 rfl ?_
  refine vl_aload_n C0 dL_law_269 0 rfl ?_
  refine vl_iload C0 dL_law_270 4 rfl ?_
  refine vl_iconst (v := 1) C0 dL_law_272 (by decide) ?_
  refine vl_iadd C0 dL_law_273 ?_
  refine vl_sx C0 hX hbl hbA hL (j := i + 1) (nI_add i 1) (by omega) dL_law_274 ?_
  refine vl_aload_n C0 dL_law_275 0 rfl ?_
  refine vl_iload C0 dL_law_276 4 rfl ?_
  refine vl_iconst (v := 2) C0 dL_law_278 (by decide) ?_
  refine vl_iadd C0 dL_law_279 ?_
  refine vl_sx C0 hX hbl hbA hL (j := i + 2) (nI_add i 2) (by omega) dL_law_280 ?_
  refine vl_xcalli C0 (vl_goSXH C0 (As := [.ref (ad 0 0), .int (xs (i + 1)), .int (xs (i + 2))]) (na := 3) (st := []) gL_law_L_setRules rfl rfl rfl (by decide +kernel) ⟨Nat.le_of_ble_eq_true rfl, Nat.le_of_ble_eq_true rfl⟩ dL_law_281 (Nat.le_of_ble_eq_true rfl) ⟨show k + 1 ≤ 601024 by omega, show n + 6 ≤ 7293034 by omega⟩ rfl rfl) (c_L_setRules hl0 hok (xs (i + 1)) (xs (i + 2)) (mm := mm)) (k2 := k + 5) (n2 := n + 48) (show k + 1 ≤ k + 5 by omega) (show n + 6 ≤ n + 48 by omega) (fun E9 hE9 => False.elim hE9) (fun r9 w9 hp9 => ?_)
  rcases hp9 with ⟨rfl, g1, rfl⟩ | ⟨rfl, g1, rfl⟩
  · skip
    refine vl_istore (lv' := [(0, .ref b), (1, .ref (ad 0 0)), (2, .ref (am 0)), (3, .ref o), (4, .int (nI i)), (5, .int 0)]) C0 dL_law_284 [1, 2, 3, 4, 5, 0] (by decide) rfl ?_
    refine vl_aload_n C0 dL_law_286 2 rfl ?_
    refine vl_aload_n C0 dL_law_287 0 rfl ?_
    refine vl_iload C0 dL_law_288 4 rfl ?_
    refine vl_iconst (v := 1) C0 dL_law_290 (by decide) ?_
    refine vl_iadd C0 dL_law_291 ?_
    refine vl_sx C0 hX hbl hbA hL (j := i + 1) (nI_add i 1) (by omega) dL_law_292 ?_
    refine vl_aload_n C0 dL_law_293 0 rfl ?_
    refine vl_iload C0 dL_law_294 4 rfl ?_
    refine vl_iconst (v := 2) C0 dL_law_296 (by decide) ?_
    refine vl_iadd C0 dL_law_297 ?_
    refine vl_sx C0 hX hbl hbA hL (j := i + 2) (nI_add i 2) (by omega) dL_law_298 ?_
    refine vl_perm (pm_in (A := cw cy ad nl ns par Rl (up3 (up3 d 1 0 3 (xs (i + 1))) 1 0 4 (xs (i + 2)))) (o := (o, .inl (cy 4, 1, .inr (.inl f)))) (M := mw cy am mm)) ?_
    refine vl_callv C0 (vl_goV C0 (As := [.int (xs (i + 1)), .int (xs (i + 2))]) (na := 2) (b := am 0) (st := []) (ci := 4) gL_law_X4_setRules rfl rfl rfl (by decide +kernel) ⟨Nat.le_of_ble_eq_true rfl, Nat.le_of_ble_eq_true rfl⟩ rfl ⟨0, _, rfl⟩ dL_law_299 (Nat.le_of_ble_eq_true rfl) ⟨show k + 5 + 0 ≤ 601024 by omega, show n + 48 + 0 ≤ 7293034 by omega⟩ rfl rfl) (c_X4_setRules hl0 (xs (i + 1)) (xs (i + 2)) (mm := mm)) (k2 := k + 5) (n2 := n + 48) (Nat.le_refl _) (Nat.le_refl _) (fun w9 hp9 => ?_)
    obtain rfl := hp9
    have hq := n_setRules hJ g1
    refine vl_aload_n C0 dL_law_302 2 rfl ?_
    refine vl_calli C0 (vl_goV C0 (As := []) (na := 0) (b := am 0) (st := []) (ci := 4) gL_law_X4_thrown rfl rfl rfl (by decide +kernel) ⟨Nat.le_of_ble_eq_true rfl, Nat.le_of_ble_eq_true rfl⟩ rfl ⟨0, _, rfl⟩ dL_law_303 (Nat.le_of_ble_eq_true rfl) ⟨show k + 5 + 0 ≤ 601024 by omega, show n + 48 + 0 ≤ 7293034 by omega⟩ rfl rfl) (c_X4_thrown hl0 (mm := (sp_setRules mm (xs (i + 1)) (xs (i + 2))))) (k2 := k + 5) (n2 := n + 48) (Nat.le_refl _) (Nat.le_refl _) (fun t9 w9 hp9 => ?_)
    obtain ⟨ht9, rfl⟩ := hp9
    have ht9 := ht9.trans hq.2
    subst ht9
    refine vl_perm (pm_out (A := cw cy ad nl ns par Rl (up3 (up3 d 1 0 3 (xs (i + 1))) 1 0 4 (xs (i + 2)))) (o := (o, .inl (cy 4, 1, .inr (.inl f)))) (M := mw cy am (sp_setRules mm (xs (i + 1)) (xs (i + 2))))) ?_
    refine vl_iload C0 dL_law_306 5 rfl ?_
    refine vl_icmp_eq (tgt := 313) C0 dL_law_308 (by decide) (fun (h308 : (0 : Int32) = (0 : Int32)) => ?_) (fun (h308 : ¬ (0 : Int32) = (0 : Int32)) => absurd h308 (by decide))
    refine vl_goto (tgt := 1171) C0 dL_law_313 (by decide) ?_
    refine vl_lv (lv2 := [(0, .ref b), (1, .ref (ad 0 0)), (2, .ref (am 0)), (3, .ref o), (4, .int (nI i))]) [0, 1, 2, 3, 4] rfl ?_
    exact kk ad nl ns par Rl (up3 (up3 d 1 0 3 (xs (i + 1))) 1 0 4 (xs (i + 2))) (sp_setRules mm (xs (i + 1)) (xs (i + 2))) f rfl hq.1 hok
  · skip
    refine vl_istore (lv' := [(0, .ref b), (1, .ref (ad 0 0)), (2, .ref (am 0)), (3, .ref o), (4, .int (nI i)), (5, .int 1)]) C0 dL_law_284 [1, 2, 3, 4, 5, 0] (by decide) rfl ?_
    refine vl_aload_n C0 dL_law_286 2 rfl ?_
    refine vl_aload_n C0 dL_law_287 0 rfl ?_
    refine vl_iload C0 dL_law_288 4 rfl ?_
    refine vl_iconst (v := 1) C0 dL_law_290 (by decide) ?_
    refine vl_iadd C0 dL_law_291 ?_
    refine vl_sx C0 hX hbl hbA hL (j := i + 1) (nI_add i 1) (by omega) dL_law_292 ?_
    refine vl_aload_n C0 dL_law_293 0 rfl ?_
    refine vl_iload C0 dL_law_294 4 rfl ?_
    refine vl_iconst (v := 2) C0 dL_law_296 (by decide) ?_
    refine vl_iadd C0 dL_law_297 ?_
    refine vl_sx C0 hX hbl hbA hL (j := i + 2) (nI_add i 2) (by omega) dL_law_298 ?_
    refine vl_perm (pm_in (A := cw cy ad nl ns par Rl d) (o := (o, .inl (cy 4, 1, .inr (.inl f)))) (M := mw cy am mm)) ?_
    refine vl_callv C0 (vl_goV C0 (As := [.int (xs (i + 1)), .int (xs (i + 2))]) (na := 2) (b := am 0) (st := []) (ci := 4) gL_law_X4_setRules rfl rfl rfl (by decide +kernel) ⟨Nat.le_of_ble_eq_true rfl, Nat.le_of_ble_eq_true rfl⟩ rfl ⟨0, _, rfl⟩ dL_law_299 (Nat.le_of_ble_eq_true rfl) ⟨show k + 5 + 0 ≤ 601024 by omega, show n + 48 + 0 ≤ 7293034 by omega⟩ rfl rfl) (c_X4_setRules hl0 (xs (i + 1)) (xs (i + 2)) (mm := mm)) (k2 := k + 5) (n2 := n + 48) (Nat.le_refl _) (Nat.le_refl _) (fun w9 hp9 => ?_)
    obtain rfl := hp9
    have hq : JJ ns nl par (sp_setRules mm (xs (i + 1)) (xs (i + 2))) d ∧ (sp_setRules mm (xs (i + 1)) (xs (i + 2))) 0 17 = 1 := hJ.t (e_setRules_1 g1)
    refine vl_aload_n C0 dL_law_302 2 rfl ?_
    refine vl_calli C0 (vl_goV C0 (As := []) (na := 0) (b := am 0) (st := []) (ci := 4) gL_law_X4_thrown rfl rfl rfl (by decide +kernel) ⟨Nat.le_of_ble_eq_true rfl, Nat.le_of_ble_eq_true rfl⟩ rfl ⟨0, _, rfl⟩ dL_law_303 (Nat.le_of_ble_eq_true rfl) ⟨show k + 5 + 0 ≤ 601024 by omega, show n + 48 + 0 ≤ 7293034 by omega⟩ rfl rfl) (c_X4_thrown hl0 (mm := (sp_setRules mm (xs (i + 1)) (xs (i + 2))))) (k2 := k + 5) (n2 := n + 48) (Nat.le_refl _) (Nat.le_refl _) (fun t9 w9 hp9 => ?_)
    obtain ⟨ht9, rfl⟩ := hp9
    have ht9 := ht9.trans hq.2
    subst ht9
    refine vl_perm (pm_out (A := cw cy ad nl ns par Rl d) (o := (o, .inl (cy 4, 1, .inr (.inl f)))) (M := mw cy am (sp_setRules mm (xs (i + 1)) (xs (i + 2))))) ?_
    refine vl_iload C0 dL_law_306 5 rfl ?_
    refine vl_icmp_eq (tgt := 313) C0 dL_law_308 (by decide) (fun (h308 : (1 : Int32) = (1 : Int32)) => ?_) (fun (h308 : ¬ (1 : Int32) = (1 : Int32)) => absurd h308 (by decide))
    refine vl_goto (tgt := 1171) C0 dL_law_313 (by decide) ?_
    refine vl_lv (lv2 := [(0, .ref b), (1, .ref (ad 0 0)), (2, .ref (am 0)), (3, .ref o), (4, .int (nI i))]) [0, 1, 2, 3, 4] rfl ?_
    exact kk ad nl ns par Rl d (sp_setRules mm (xs (i + 1)) (xs (i + 2))) f rfl hq.1 hok
