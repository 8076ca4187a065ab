set_option maxHeartbeats 4000000 in
set_option maxRecDepth 100000 in
theorem law_fork {p : Program} {l : Launch} {e : Env} {s : State} {m : MethodId} {b : Nat} {below : List Frame} {meth : Method} {c : Code} {D : va_G} {cy : Nat → ClassId} {am : Nat → Nat} {o a0 L : Nat} {xs : Nat → Int32} {k n i : Nat} (K : lwC p l e s m b below meth c D cy L xs) (hi : i + 6 ≤ L) (hk : k + 5 ≤ 601024) (hn : n + 48 ≤ 7293034) (kk : lwL p l e s m b below meth c D cy am o a0 (k + 5) (n + 48) i 1171) : lwL p l e s m b below meth c D cy am o a0 k n i 316 := by
  obtain ⟨hl0, C0, hX, hbl, hL⟩ := K
  intro ad nl ns par Rl d mm f ha hJ hok
  subst ha
  have hbA : ¬ (fun q : Nat => s.heap.size ≤ q) b := Nat.not_le.mpr hbl
  obtain ⟨⟨e0, h8, e7, h1, h9⟩, htr, -, -, -, hcg, hrt⟩ := id hJ.1
  have hcode := hJ.1.code
  have h0a := hJ.1.ah0
  obtain ⟨hln, hwd, hfk⟩ := id hJ.2
  refine vl_aload_n C0 dL_law_316 1 rfl ?_
  refine vl_aload_n C0 dL_law_317 0 rfl ?_
  refine vl_iload C0 dL_law_318 4 rfl ?_
  refine vl_iconst (v := 1) C0 dL_law_320 (by decide) ?_
  refine vl_iadd C0 dL_law_321 ?_
  refine vl_sx C0 hX hbl hbA hL (j := i + 1) (nI_add i 1) (by omega) dL_law_322 ?_
  refine vl_aload_n C0 dL_law_323 0 rfl ?_
  refine vl_iload C0 dL_law_324 4 rfl ?_
  refine vl_iconst (v := 2) C0 dL_law_326 (by decide) ?_
  refine vl_iadd C0 dL_law_327 ?_
  refine vl_sx C0 hX hbl hbA hL (j := i + 2) (nI_add i 2) (by omega) dL_law_328 ?_
  refine vl_aload_n C0 dL_law_329 3 rfl ?_
  refine vl_xcalli C0 (vl_goSXH C0 (As := [.ref (ad 0 0), .int (xs (i + 1)), .int (xs (i + 2)), .ref o]) (na := 4) (st := []) gL_law_L_fork rfl rfl rfl (by decide +kernel) ⟨Nat.le_of_ble_eq_true rfl, Nat.le_of_ble_eq_true rfl⟩ dL_law_330 (Nat.le_of_ble_eq_true rfl) ⟨show k + 4 ≤ 601024 by omega, show n + 48 ≤ 7293034 by omega⟩ rfl rfl) (c_L_fork hl0 hok h1 h9 hfk htr.1 (xs (i + 1)) (xs (i + 2))) (k2 := k + 5) (n2 := n + 48) (show k + 4 ≤ k + 5 by omega) (show n + 48 ≤ n + 48 by omega) (fun E9 hE9 => False.elim hE9) (fun r9 w9 hp9 => ?_)
  rcases hp9 with ⟨rfl, g1, g2, ja, jt, q47, q7, g3, g4, g5, g6, rfl⟩ | ⟨rfl, g1, rfl⟩ | ⟨rfl, g1, rfl⟩
  · skip
    refine vl_w (w2 := cw cy (adL ad nl q47 q7) (nl + 1) ns (parL par nl ja) Rl (up3 d 0 0 3 (nI nl)) ++ (((o, .inl (cy 4, 1, .inr (.inl (vp_updL f (0 : Int32).toNatClampNeg ((nI nl).toInt64))))) :: mw cy am mm) ++ [(q47, .inr (1, [.ref (ad 5 ja), .int (nI jt), .ref q7, .int 0, .int 0, .int (d 5 ja 5)])), (q7, .inl (cy 0, 30, .inl (fun _ => 0)))])) rfl ?_
    refine vl_perm (foldL hok g5) ?_
    refine vl_w (w2 := cw cy (adL ad nl q47 q7) (nl + 1) ns (parL par nl ja) (Rl ++ [(5, nl), (6, nl)]) (dL d nl (nI jt) (d 5 ja 5)) ++ ((o, .inl (cy 4, 1, .inr (.inl (vp_updL f (0 : Int32).toNatClampNeg ((nI nl).toInt64))))) :: mw cy am mm)) rfl ?_
    refine vl_istore (lv' := [(0, .ref b), (1, .ref (ad 0 0)), (2, .ref (am 0)), (3, .ref o), (4, .int (nI i)), (5, .int 0)]) C0 dL_law_333 [1, 2, 3, 4, 5, 0] (by decide) rfl ?_
    refine vl_aload_n C0 dL_law_335 2 rfl ?_
    refine vl_aload_n C0 dL_law_336 0 rfl ?_
    refine vl_iload C0 dL_law_337 4 rfl ?_
    refine vl_iconst (v := 1) C0 dL_law_339 (by decide) ?_
    refine vl_iadd C0 dL_law_340 ?_
    refine vl_sx C0 hX hbl hbA hL (j := i + 1) (nI_add i 1) (by omega) dL_law_341 ?_
    refine vl_aload_n C0 dL_law_342 0 rfl ?_
    refine vl_iload C0 dL_law_343 4 rfl ?_
    refine vl_iconst (v := 2) C0 dL_law_345 (by decide) ?_
    refine vl_iadd C0 dL_law_346 ?_
    refine vl_sx C0 hX hbl hbA hL (j := i + 2) (nI_add i 2) (by omega) dL_law_347 ?_
    refine vl_perm (pm_in (A := cw cy (adL ad nl q47 q7) (nl + 1) ns (parL par nl ja) (Rl ++ [(5, nl), (6, nl)]) (dL d nl (nI jt) (d 5 ja 5))) (o := (o, .inl (cy 4, 1, .inr (.inl (vp_updL f (0 : Int32).toNatClampNeg ((nI nl).toInt64)))))) (M := mw cy am mm)) ?_
    refine vl_calli C0 (vl_goV C0 (As := [.int (xs (i + 1)), .int (xs (i + 2))]) (na := 2) (b := am 0) (st := []) (ci := 4) gL_law_X4_fork rfl rfl rfl (by decide +kernel) ⟨Nat.le_of_ble_eq_true rfl, Nat.le_of_ble_eq_true rfl⟩ rfl ⟨0, _, rfl⟩ dL_law_348 (Nat.le_of_ble_eq_true rfl) ⟨show k + 5 + 0 ≤ 601024 by omega, show n + 48 + 0 ≤ 7293034 by omega⟩ rfl rfl) (c_X4_fork hl0 (xs (i + 1)) (xs (i + 2)) e7 h1 h9 (mm := mm)) (k2 := k + 5) (n2 := n + 48) (Nat.le_refl _) (Nat.le_refl _) (fun r9 w9 hp9 => ?_)
    obtain ⟨hr9, rfl⟩ := hp9
    have hq := n_fork hJ g2 g3 g4 g5 g6
    have hr9 := hr9.trans hq.2.1
    subst hr9
    refine vl_istore (lv' := [(0, .ref b), (1, .ref (ad 0 0)), (2, .ref (am 0)), (3, .ref o), (4, .int (nI i)), (5, .int 0), (6, .int (nI nl))]) C0 dL_law_351 [1, 2, 3, 4, 5, 6, 0] (by decide) rfl ?_
    refine vl_aload_n C0 dL_law_353 2 rfl ?_
    refine vl_calli C0 (vl_goV C0 (As := []) (na := 0) (b := am 0) (st := []) (ci := 4) gL_law_X4_thrown rfl rfl rfl (by decide +kernel) ⟨Nat.le_of_ble_eq_true rfl, Nat.le_of_ble_eq_true rfl⟩ rfl ⟨0, _, rfl⟩ dL_law_354 (Nat.le_of_ble_eq_true rfl) ⟨show k + 5 + 0 ≤ 601024 by omega, show n + 48 + 0 ≤ 7293034 by omega⟩ rfl rfl) (c_X4_thrown hl0 (mm := (sp_fork nl mm (xs (i + 1)) (xs (i + 2))).2)) (k2 := k + 5) (n2 := n + 48) (Nat.le_refl _) (Nat.le_refl _) (fun t9 w9 hp9 => ?_)
    obtain ⟨ht9, rfl⟩ := hp9
    have ht9 := ht9.trans hq.2.2
    subst ht9
    refine vl_perm (pm_out (A := cw cy (adL ad nl q47 q7) (nl + 1) ns (parL par nl ja) (Rl ++ [(5, nl), (6, nl)]) (dL d nl (nI jt) (d 5 ja 5))) (o := (o, .inl (cy 4, 1, .inr (.inl (vp_updL f (0 : Int32).toNatClampNeg ((nI nl).toInt64)))))) (M := mw cy am (sp_fork nl mm (xs (i + 1)) (xs (i + 2))).2)) ?_
    refine vl_iload C0 dL_law_357 5 rfl ?_
    refine vl_icmp_eq (tgt := 364) C0 dL_law_359 (by decide) (fun (h359 : (0 : Int32) = (0 : Int32)) => ?_) (fun (h359 : ¬ (0 : Int32) = (0 : Int32)) => absurd h359 (by decide))
    refine vl_iload C0 dL_law_364 5 rfl ?_
    refine vl_if_ne (tgt := 381) C0 dL_law_366 (by decide) (fun (h366 : ¬ (0 : Int32) = (0 : Int32)) => absurd h366 (by decide)) (fun (h366 : (0 : Int32) = (0 : Int32)) => ?_)
    refine vl_aload_n C0 dL_law_369 3 rfl ?_
    refine vl_iconst (v := 0) C0 dL_law_370 (by decide) ?_
    refine vl_lald C0 (f := (vp_updL f (0 : Int32).toNatClampNeg ((nI nl).toInt64))) (i := 0) ⟨_, wy_at (j := 0) rfl⟩ (vp_in_iff.mpr (by decide)) dL_law_371 ?_
    refine vl_st (st2 := [.long ((nI nl).toInt64)]) (by rw [updL_s]) ?_
    refine vl_iload C0 dL_law_372 6 rfl ?_
    refine vl_i2l C0 dL_law_374 rfl ?_
    refine vl_lcmp C0 dL_law_375 ?_
    refine vl_if_eq (tgt := 381) C0 dL_law_376 (by decide) (fun (h376 : (lg_cmp ((nI nl).toInt64) ((nI nl).toInt64) : Int32) = (0 : Int32)) => ?_) (fun (h376 : ¬ (lg_cmp ((nI nl).toInt64) ((nI nl).toInt64) : Int32) = (0 : Int32)) => absurd (lgc0 rfl) h376)
    refine vl_goto (tgt := 1171) C0 dL_law_381 (by decide) ?_
    refine vl_lv (lv2 := [(0, .ref b), (1, .ref (ad 0 0)), (2, .ref (am 0)), (3, .ref o), (4, .int (nI i))]) [0, 1, 2, 3, 4] rfl ?_
    exact kk (adL ad nl q47 q7) (nl + 1) ns (parL par nl ja) (Rl ++ [(5, nl), (6, nl)]) (dL d nl (nI jt) (d 5 ja 5)) (sp_fork nl mm (xs (i + 1)) (xs (i + 2))).2 (vp_updL f (0 : Int32).toNatClampNeg ((nI nl).toInt64)) (by simp [adL]) hq.1 (cw_okL hok)
  · skip
    refine vl_istore (lv' := [(0, .ref b), (1, .ref (ad 0 0)), (2, .ref (am 0)), (3, .ref o), (4, .int (nI i)), (5, .int 1)]) C0 dL_law_333 [1, 2, 3, 4, 5, 0] (by decide) rfl ?_
    refine vl_aload_n C0 dL_law_335 2 rfl ?_
    refine vl_aload_n C0 dL_law_336 0 rfl ?_
    refine vl_iload C0 dL_law_337 4 rfl ?_
    refine vl_iconst (v := 1) C0 dL_law_339 (by decide) ?_
    refine vl_iadd C0 dL_law_340 ?_
    refine vl_sx C0 hX hbl hbA hL (j := i + 1) (nI_add i 1) (by omega) dL_law_341 ?_
    refine vl_aload_n C0 dL_law_342 0 rfl ?_
    refine vl_iload C0 dL_law_343 4 rfl ?_
    refine vl_iconst (v := 2) C0 dL_law_345 (by decide) ?_
    refine vl_iadd C0 dL_law_346 ?_
    refine vl_sx C0 hX hbl hbA hL (j := i + 2) (nI_add i 2) (by omega) dL_law_347 ?_
    refine vl_perm (pm_in (A := cw cy ad nl ns par Rl d) (o := (o, .inl (cy 4, 1, .inr (.inl f)))) (M := mw cy am mm)) ?_
    refine vl_calli C0 (vl_goV C0 (As := [.int (xs (i + 1)), .int (xs (i + 2))]) (na := 2) (b := am 0) (st := []) (ci := 4) gL_law_X4_fork rfl rfl rfl (by decide +kernel) ⟨Nat.le_of_ble_eq_true rfl, Nat.le_of_ble_eq_true rfl⟩ rfl ⟨0, _, rfl⟩ dL_law_348 (Nat.le_of_ble_eq_true rfl) ⟨show k + 5 + 0 ≤ 601024 by omega, show n + 48 + 0 ≤ 7293034 by omega⟩ rfl rfl) (c_X4_fork hl0 (xs (i + 1)) (xs (i + 2)) e7 h1 h9 (mm := mm)) (k2 := k + 5) (n2 := n + 48) (Nat.le_refl _) (Nat.le_refl _) (fun r9 w9 hp9 => ?_)
    obtain ⟨hr9, rfl⟩ := hp9
    have hq : JJ ns nl par (sp_fork nl mm (xs (i + 1)) (xs (i + 2))).2 d ∧ (sp_fork nl mm (xs (i + 1)) (xs (i + 2))).2 0 17 = 1 := hJ.t (e_fork_1 g1)
    clear hr9
    refine vl_istore (lv' := [(0, .ref b), (1, .ref (ad 0 0)), (2, .ref (am 0)), (3, .ref o), (4, .int (nI i)), (5, .int 1), (6, .int r9)]) C0 dL_law_351 [1, 2, 3, 4, 5, 6, 0] (by decide) rfl ?_
    refine vl_aload_n C0 dL_law_353 2 rfl ?_
    refine vl_calli C0 (vl_goV C0 (As := []) (na := 0) (b := am 0) (st := []) (ci := 4) gL_law_X4_thrown rfl rfl rfl (by decide +kernel) ⟨Nat.le_of_ble_eq_true rfl, Nat.le_of_ble_eq_true rfl⟩ rfl ⟨0, _, rfl⟩ dL_law_354 (Nat.le_of_ble_eq_true rfl) ⟨show k + 5 + 0 ≤ 601024 by omega, show n + 48 + 0 ≤ 7293034 by omega⟩ rfl rfl) (c_X4_thrown hl0 (mm := (sp_fork nl mm (xs (i + 1)) (xs (i + 2))).2)) (k2 := k + 5) (n2 := n + 48) (Nat.le_refl _) (Nat.le_refl _) (fun t9 w9 hp9 => ?_)
    obtain ⟨ht9, rfl⟩ := hp9
    have ht9 := ht9.trans hq.2
    subst ht9
    refine vl_perm (pm_out (A := cw cy ad nl ns par Rl d) (o := (o, .inl (cy 4, 1, .inr (.inl f)))) (M := mw cy am (sp_fork nl mm (xs (i + 1)) (xs (i + 2))).2)) ?_
    refine vl_iload C0 dL_law_357 5 rfl ?_
    refine vl_icmp_eq (tgt := 364) C0 dL_law_359 (by decide) (fun (h359 : (1 : Int32) = (1 : Int32)) => ?_) (fun (h359 : ¬ (1 : Int32) = (1 : Int32)) => absurd h359 (by decide))
    refine vl_iload C0 dL_law_364 5 rfl ?_
    refine vl_if_ne (tgt := 381) C0 dL_law_366 (by decide) (fun (h366 : ¬ (1 : Int32) = (0 : Int32)) => ?_) (fun (h366 : (1 : Int32) = (0 : Int32)) => absurd h366 (by decide))
    refine vl_goto (tgt := 1171) C0 dL_law_381 (by decide) ?_
    refine vl_lv (lv2 := [(0, .ref b), (1, .ref (ad 0 0)), (2, .ref (am 0)), (3, .ref o), (4, .int (nI i))]) [0, 1, 2, 3, 4] rfl ?_
    exact kk ad nl ns par Rl d (sp_fork nl mm (xs (i + 1)) (xs (i + 2))).2 f rfl hq.1 hok
  · skip
    refine vl_istore (lv' := [(0, .ref b), (1, .ref (ad 0 0)), (2, .ref (am 0)), (3, .ref o), (4, .int (nI i)), (5, .int 2)]) C0 dL_law_333 [1, 2, 3, 4, 5, 0] (by decide) rfl ?_
    refine vl_aload_n C0 dL_law_335 2 rfl ?_
    refine vl_aload_n C0 dL_law_336 0 rfl ?_
    refine vl_iload C0 dL_law_337 4 rfl ?_
    refine vl_iconst (v := 1) C0 dL_law_339 (by decide) ?_
    refine vl_iadd C0 dL_law_340 ?_
    refine vl_sx C0 hX hbl hbA hL (j := i + 1) (nI_add i 1) (by omega) dL_law_341 ?_
    refine vl_aload_n C0 dL_law_342 0 rfl ?_
    refine vl_iload C0 dL_law_343 4 rfl ?_
    refine vl_iconst (v := 2) C0 dL_law_345 (by decide) ?_
    refine vl_iadd C0 dL_law_346 ?_
    refine vl_sx C0 hX hbl hbA hL (j := i + 2) (nI_add i 2) (by omega) dL_law_347 ?_
    refine vl_perm (pm_in (A := cw cy ad nl ns par Rl d) (o := (o, .inl (cy 4, 1, .inr (.inl f)))) (M := mw cy am mm)) ?_
    refine vl_calli C0 (vl_goV C0 (As := [.int (xs (i + 1)), .int (xs (i + 2))]) (na := 2) (b := am 0) (st := []) (ci := 4) gL_law_X4_fork rfl rfl rfl (by decide +kernel) ⟨Nat.le_of_ble_eq_true rfl, Nat.le_of_ble_eq_true rfl⟩ rfl ⟨0, _, rfl⟩ dL_law_348 (Nat.le_of_ble_eq_true rfl) ⟨show k + 5 + 0 ≤ 601024 by omega, show n + 48 + 0 ≤ 7293034 by omega⟩ rfl rfl) (c_X4_fork hl0 (xs (i + 1)) (xs (i + 2)) e7 h1 h9 (mm := mm)) (k2 := k + 5) (n2 := n + 48) (Nat.le_refl _) (Nat.le_refl _) (fun r9 w9 hp9 => ?_)
    obtain ⟨hr9, rfl⟩ := hp9
    have hq : JJ ns nl par (sp_fork nl mm (xs (i + 1)) (xs (i + 2))).2 d ∧ (sp_fork nl mm (xs (i + 1)) (xs (i + 2))).2 0 17 = 2 := hJ.t (e_fork_2 g1)
    clear hr9
    refine vl_istore (lv' := [(0, .ref b), (1, .ref (ad 0 0)), (2, .ref (am 0)), (3, .ref o), (4, .int (nI i)), (5, .int 2), (6, .int r9)]) C0 dL_law_351 [1, 2, 3, 4, 5, 6, 0] (by decide) rfl ?_
    refine vl_aload_n C0 dL_law_353 2 rfl ?_
    refine vl_calli C0 (vl_goV C0 (As := []) (na := 0) (b := am 0) (st := []) (ci := 4) gL_law_X4_thrown rfl rfl rfl (by decide +kernel) ⟨Nat.le_of_ble_eq_true rfl, Nat.le_of_ble_eq_true rfl⟩ rfl ⟨0, _, rfl⟩ dL_law_354 (Nat.le_of_ble_eq_true rfl) ⟨show k + 5 + 0 ≤ 601024 by omega, show n + 48 + 0 ≤ 7293034 by omega⟩ rfl rfl) (c_X4_thrown hl0 (mm := (sp_fork nl mm (xs (i + 1)) (xs (i + 2))).2)) (k2 := k + 5) (n2 := n + 48) (Nat.le_refl _) (Nat.le_refl _) (fun t9 w9 hp9 => ?_)
    obtain ⟨ht9, rfl⟩ := hp9
    have ht9 := ht9.trans hq.2
    subst ht9
    refine vl_perm (pm_out (A := cw cy ad nl ns par Rl d) (o := (o, .inl (cy 4, 1, .inr (.inl f)))) (M := mw cy am (sp_fork nl mm (xs (i + 1)) (xs (i + 2))).2)) ?_
    refine vl_iload C0 dL_law_357 5 rfl ?_
    refine vl_icmp_eq (tgt := 364) C0 dL_law_359 (by decide) (fun (h359 : (2 : Int32) = (2 : Int32)) => ?_) (fun (h359 : ¬ (2 : Int32) = (2 : Int32)) => absurd h359 (by decide))
    refine vl_iload C0 dL_law_364 5 rfl ?_
    refine vl_if_ne (tgt := 381) C0 dL_law_366 (by decide) (fun (h366 : ¬ (2 : Int32) = (0 : Int32)) => ?_) (fun (h366 : (2 : Int32) = (0 : Int32)) => absurd h366 (by decide))
    refine vl_goto (tgt := 1171) C0 dL_law_381 (by decide) ?_
    refine vl_lv (lv2 := [(0, .ref b), (1, .ref (ad 0 0)), (2, .ref (am 0)), (3, .ref o), (4, .int (nI i))]) [0, 1, 2, 3, 4] rfl ?_
    exact kk ad nl ns par Rl d (sp_fork nl mm (xs (i + 1)) (xs (i + 2))).2 f rfl hq.1 hok
set_option maxHeartbeats 4000000 in
set_option maxRecDepth 100000 in
theorem law_order {p : Program} {l : Launch} {e : Env} {s : State} {m : MethodId} {b : Nat} {below : List Frame} {meth : Method} {c : Code} {D : va_G} {cy : Nat → ClassId} {am : Nat → Nat} {o a0 L : Nat} {xs : Nat → Int32} {k n i : Nat} (K : lwC p l e s m b below meth c D cy L xs) (hi : i + 6 ≤ L) (hk : k + 5 ≤ 601024) (hn : n + 48 ≤ 7293034) (kk : lwL p l e s m b below meth c D cy am o a0 (k + 5) (n + 48) i 1171) : lwL p l e s m b below meth c D cy am o a0 k n i 384 := by
  obtain ⟨hl0, C0, hX, hbl, hL⟩ := K
  intro ad nl ns par Rl d mm f ha hJ hok
  subst ha
  have hbA : ¬ (fun q : Nat => s.heap.size ≤ q) b := Nat.not_le.mpr hbl
  obtain ⟨⟨e0, h8, e7, h1, h9⟩, htr, -, -, -, hcg, hrt⟩ := id hJ.1
  have hcode := hJ.1.code
  have h0a := hJ.1.ah0
  obtain ⟨hln, hwd, hfk⟩ := id hJ.2
  refine vl_aload_n C0 dL_law_384 1 rfl ?_
  refine vl_aload_n C0 dL_law_385 0 rfl ?_
  refine vl_iload C0 dL_law_386 4 rfl ?_
  refine vl_iconst (v := 1) C0 dL_law_388 (by decide) ?_
  refine vl_iadd C0 dL_law_389 ?_
  refine vl_sx C0 hX hbl hbA hL (j := i + 1) (nI_add i 1) (by omega) dL_law_390 ?_
  refine vl_aload_n C0 dL_law_391 0 rfl ?_
  refine vl_iload C0 dL_law_392 4 rfl ?_
  refine vl_iconst (v := 2) C0 dL_law_394 (by decide) ?_
  refine vl_iadd C0 dL_law_395 ?_
  refine vl_sx C0 hX hbl hbA hL (j := i + 2) (nI_add i 2) (by omega) dL_law_396 ?_
  refine vl_aload_n C0 dL_law_397 0 rfl ?_
  refine vl_iload C0 dL_law_398 4 rfl ?_
  refine vl_iconst (v := 3) C0 dL_law_400 (by decide) ?_
  refine vl_iadd C0 dL_law_401 ?_
  refine vl_sx C0 hX hbl hbA hL (j := i + 3) (nI_add i 3) (by omega) dL_law_402 ?_
  refine vl_aload_n C0 dL_law_403 0 rfl ?_
  refine vl_iload C0 dL_law_404 4 rfl ?_
  refine vl_iconst (v := 4) C0 dL_law_406 (by decide) ?_
  refine vl_iadd C0 dL_law_407 ?_
  refine vl_sx C0 hX hbl hbA hL (j := i + 4) (nI_add i 4) (by omega) dL_law_408 ?_
  refine vl_aload_n C0 dL_law_409 0 rfl ?_
  refine vl_iload C0 dL_law_410 4 rfl ?_
  refine vl_iconst (v := 5) C0 dL_law_412 (by decide) ?_
  refine vl_iadd C0 dL_law_413 ?_
  refine vl_sx C0 hX hbl hbA hL (j := i + 5) (nI_add i 5) (by omega) dL_law_414 ?_
  refine vl_aload_n C0 dL_law_415 3 rfl ?_
  refine vl_xcalli C0 (vl_goSXH C0 (As := [.ref (ad 0 0), .int (xs (i + 1)), .int (xs (i + 2)), .int (xs (i + 3)), .int (xs (i + 4)), .int (xs (i + 5)), .ref o]) (na := 7) (st := []) gL_law_L_order rfl rfl rfl (by decide +kernel) ⟨Nat.le_of_ble_eq_true rfl, Nat.le_of_ble_eq_true rfl⟩ dL_law_416 (Nat.le_of_ble_eq_true rfl) ⟨show k + 5 ≤ 601024 by omega, show n + 30 ≤ 7293034 by omega⟩ rfl rfl) (c_L_order hl0 hok h1 h9 h8 hln (xs (i + 1)) (xs (i + 2)) (xs (i + 3)) (xs (i + 4)) (xs (i + 5)) (mm := mm)) (k2 := k + 5) (n2 := n + 48) (show k + 5 ≤ k + 5 by omega) (show n + 30 ≤ n + 48 by omega) (fun E9 hE9 => False.elim hE9) (fun r9 w9 hp9 => ?_)
  rcases hp9 with ⟨rfl, g1, g2, g3, v, gv1, gv2, rfl⟩ | ⟨rfl, g1, rfl⟩ | ⟨rfl, g1, rfl⟩ | ⟨rfl, g1, rfl⟩
  · skip
    refine vl_istore (lv' := [(0, .ref b), (1, .ref (ad 0 0)), (2, .ref (am 0)), (3, .ref o), (4, .int (nI i)), (5, .int 0)]) C0 dL_law_419 [1, 2, 3, 4, 5, 0] (by decide) rfl ?_
    refine vl_aload_n C0 dL_law_421 2 rfl ?_
    refine vl_aload_n C0 dL_law_422 0 rfl ?_
    refine vl_iload C0 dL_law_423 4 rfl ?_
    refine vl_iconst (v := 1) C0 dL_law_425 (by decide) ?_
    refine vl_iadd C0 dL_law_426 ?_
    refine vl_sx C0 hX hbl hbA hL (j := i + 1) (nI_add i 1) (by omega) dL_law_427 ?_
    refine vl_aload_n C0 dL_law_428 0 rfl ?_
    refine vl_iload C0 dL_law_429 4 rfl ?_
    refine vl_iconst (v := 2) C0 dL_law_431 (by decide) ?_
    refine vl_iadd C0 dL_law_432 ?_
    refine vl_sx C0 hX hbl hbA hL (j := i + 2) (nI_add i 2) (by omega) dL_law_433 ?_
    refine vl_aload_n C0 dL_law_434 0 rfl ?_
    refine vl_iload C0 dL_law_435 4 rfl ?_
    refine vl_iconst (v := 3) C0 dL_law_437 (by decide) ?_
    refine vl_iadd C0 dL_law_438 ?_
    refine vl_sx C0 hX hbl hbA hL (j := i + 3) (nI_add i 3) (by omega) dL_law_439 ?_
    refine vl_aload_n C0 dL_law_440 0 rfl ?_
    refine vl_iload C0 dL_law_441 4 rfl ?_
    refine vl_iconst (v := 4) C0 dL_law_443 (by decide) ?_
    refine vl_iadd C0 dL_law_444 ?_
    refine vl_sx C0 hX hbl hbA hL (j := i + 4) (nI_add i 4) (by omega) dL_law_445 ?_
    refine vl_aload_n C0 dL_law_446 0 rfl ?_
    refine vl_iload C0 dL_law_447 4 rfl ?_
    refine vl_iconst (v := 5) C0 dL_law_449 (by decide) ?_
    refine vl_iadd C0 dL_law_450 ?_
    refine vl_sx C0 hX hbl hbA hL (j := i + 5) (nI_add i 5) (by omega) dL_law_451 ?_
    refine vl_perm (pm_in (A := cw cy ad nl ns par Rl (givD d (xs (i + 1)).toNatClampNeg (xs (i + 2)).toNatClampNeg (codeI (xs (i + 3)) (xs (i + 4)) (xs (i + 5))) (ahC par d (xs (i + 1)).toNatClampNeg (xs (i + 2)).toNatClampNeg))) (o := (o, .inl (cy 4, 1, .inr (.inl (vp_updL f (0 : Int32).toNatClampNeg (v)))))) (M := mw cy am mm)) ?_
    refine vl_calli C0 (vl_goV C0 (As := [.int (xs (i + 1)), .int (xs (i + 2)), .int (xs (i + 3)), .int (xs (i + 4)), .int (xs (i + 5))]) (na := 5) (b := am 0) (st := []) (ci := 4) gL_law_X4_order rfl rfl rfl (by decide +kernel) ⟨Nat.le_of_ble_eq_true rfl, Nat.le_of_ble_eq_true rfl⟩ rfl ⟨0, _, rfl⟩ dL_law_452 (Nat.le_of_ble_eq_true rfl) ⟨show k + 5 + 0 ≤ 601024 by omega, show n + 48 + 0 ≤ 7293034 by omega⟩ rfl rfl) (c_X4_order hl0 (xs (i + 1)) (xs (i + 2)) (xs (i + 3)) (xs (i + 4)) (xs (i + 5)) e0 h8 e7 h1 h9 (mm := mm)) (k2 := k + 5) (n2 := n + 48) (Nat.le_refl _) (Nat.le_refl _) (fun r9 w9 hp9 => ?_)
    obtain ⟨hr9, rfl⟩ := hp9
    have hq := n_order hJ g1 g2 g3
    have hr9 := hr9.trans hq.2.1
    subst hr9
    refine vl_istore (lv' := [(0, .ref b), (1, .ref (ad 0 0)), (2, .ref (am 0)), (3, .ref o), (4, .int (nI i)), (5, .int 0), (6, .int (bI (ahC par d (xs (i + 1)).toNatClampNeg (xs (i + 2)).toNatClampNeg)))]) C0 dL_law_455 [1, 2, 3, 4, 5, 6, 0] (by decide) rfl ?_
    refine vl_aload_n C0 dL_law_457 2 rfl ?_
    refine vl_calli C0 (vl_goV C0 (As := []) (na := 0) (b := am 0) (st := []) (ci := 4) gL_law_X4_thrown rfl rfl rfl (by decide +kernel) ⟨Nat.le_of_ble_eq_true rfl, Nat.le_of_ble_eq_true rfl⟩ rfl ⟨0, _, rfl⟩ dL_law_458 (Nat.le_of_ble_eq_true rfl) ⟨show k + 5 + 0 ≤ 601024 by omega, show n + 48 + 0 ≤ 7293034 by omega⟩ rfl rfl) (c_X4_thrown hl0 (mm := (sp_order nl ns mm (xs (i + 1)) (xs (i + 2)) (xs (i + 3)) (xs (i + 4)) (xs (i + 5))).2)) (k2 := k + 5) (n2 := n + 48) (Nat.le_refl _) (Nat.le_refl _) (fun t9 w9 hp9 => ?_)
    obtain ⟨ht9, rfl⟩ := hp9
    have ht9 := ht9.trans hq.2.2
    subst ht9
    refine vl_perm (pm_out (A := cw cy ad nl ns par Rl (givD d (xs (i + 1)).toNatClampNeg (xs (i + 2)).toNatClampNeg (codeI (xs (i + 3)) (xs (i + 4)) (xs (i + 5))) (ahC par d (xs (i + 1)).toNatClampNeg (xs (i + 2)).toNatClampNeg))) (o := (o, .inl (cy 4, 1, .inr (.inl (vp_updL f (0 : Int32).toNatClampNeg (v)))))) (M := mw cy am (sp_order nl ns mm (xs (i + 1)) (xs (i + 2)) (xs (i + 3)) (xs (i + 4)) (xs (i + 5))).2)) ?_
    refine vl_iload C0 dL_law_461 5 rfl ?_
    refine vl_icmp_eq (tgt := 468) C0 dL_law_463 (by decide) (fun (h463 : (0 : Int32) = (0 : Int32)) => ?_) (fun (h463 : ¬ (0 : Int32) = (0 : Int32)) => absurd h463 (by decide))
    refine vl_iload C0 dL_law_468 5 rfl ?_
    refine vl_if_ne (tgt := 492) C0 dL_law_470 (by decide) (fun (h470 : ¬ (0 : Int32) = (0 : Int32)) => absurd h470 (by decide)) (fun (h470 : (0 : Int32) = (0 : Int32)) => ?_)
    refine vl_aload_n C0 dL_law_473 3 rfl ?_
    refine vl_iconst (v := 0) C0 dL_law_474 (by decide) ?_
    refine vl_lald C0 (f := (vp_updL f (0 : Int32).toNatClampNeg (v))) (i := 0) ⟨_, wy_at (j := 0) rfl⟩ (vp_in_iff.mpr (by decide)) dL_law_475 ?_
    refine vl_st (st2 := [.long (v)]) (by rw [updL_s]) ?_
    refine vl_iload C0 dL_law_476 6 rfl ?_
    refine vl_if_eq (tgt := 485) C0 dL_law_478 (by decide) (fun (h478 : (bI (ahC par d (xs (i + 1)).toNatClampNeg (xs (i + 2)).toNatClampNeg) : Int32) = (0 : Int32)) => ?_) (fun (h478 : ¬ (bI (ahC par d (xs (i + 1)).toNatClampNeg (xs (i + 2)).toNatClampNeg) : Int32) = (0 : Int32)) => ?_)
    · have g478 := bI_0.mp h478
      refine vl_lconst (v := 0) C0 dL_law_485 (by decide) ?_
      refine vl_lcmp C0 dL_law_486 ?_
      refine vl_if_eq (tgt := 492) C0 dL_law_487 (by decide) (fun (h487 : (lg_cmp (v) (0) : Int32) = (0 : Int32)) => ?_) (fun (h487 : ¬ (lg_cmp (v) (0) : Int32) = (0 : Int32)) => absurd (lgc0 (gv2 g478)) h487)
      refine vl_goto (tgt := 1171) C0 dL_law_492 (by decide) ?_
      refine vl_lv (lv2 := [(0, .ref b), (1, .ref (ad 0 0)), (2, .ref (am 0)), (3, .ref o), (4, .int (nI i))]) [0, 1, 2, 3, 4] rfl ?_
      exact kk ad nl ns par Rl (givD d (xs (i + 1)).toNatClampNeg (xs (i + 2)).toNatClampNeg (codeI (xs (i + 3)) (xs (i + 4)) (xs (i + 5))) (ahC par d (xs (i + 1)).toNatClampNeg (xs (i + 2)).toNatClampNeg)) (sp_order nl ns mm (xs (i + 1)) (xs (i + 2)) (xs (i + 3)) (xs (i + 4)) (xs (i + 5))).2 (vp_updL f (0 : Int32).toNatClampNeg (v)) rfl hq.1 hok
    · have g478 := bI_n.mp h478
      refine vl_lconst (v := 1) C0 dL_law_481 (by decide) ?_
      refine vl_goto (tgt := 486) C0 dL_law_482 (by decide) ?_
      refine vl_lcmp C0 dL_law_486 ?_
      refine vl_if_eq (tgt := 492) C0 dL_law_487 (by decide) (fun (h487 : (lg_cmp (v) (1) : Int32) = (0 : Int32)) => ?_) (fun (h487 : ¬ (lg_cmp (v) (1) : Int32) = (0 : Int32)) => absurd (lgc0 (gv1 g478)) h487)
      refine vl_goto (tgt := 1171) C0 dL_law_492 (by decide) ?_
      refine vl_lv (lv2 := [(0, .ref b), (1, .ref (ad 0 0)), (2, .ref (am 0)), (3, .ref o), (4, .int (nI i))]) [0, 1, 2, 3, 4] rfl ?_
      exact kk ad nl ns par Rl (givD d (xs (i + 1)).toNatClampNeg (xs (i + 2)).toNatClampNeg (codeI (xs (i + 3)) (xs (i + 4)) (xs (i + 5))) (ahC par d (xs (i + 1)).toNatClampNeg (xs (i + 2)).toNatClampNeg)) (sp_order nl ns mm (xs (i + 1)) (xs (i + 2)) (xs (i + 3)) (xs (i + 4)) (xs (i + 5))).2 (vp_updL f (0 : Int32).toNatClampNeg (v)) rfl hq.1 hok
  · skip
    refine vl_istore (lv' := [(0, .ref b), (1, .ref (ad 0 0)), (2, .ref (am 0)), (3, .ref o), (4, .int (nI i)), (5, .int 1)]) C0 dL_law_419 [1, 2, 3, 4, 5, 0] (by decide) rfl ?_
    refine vl_aload_n C0 dL_law_421 2 rfl ?_
    refine vl_aload_n C0 dL_law_422 0 rfl ?_
    refine vl_iload C0 dL_law_423 4 rfl ?_
    refine vl_iconst (v := 1) C0 dL_law_425 (by decide) ?_
    refine vl_iadd C0 dL_law_426 ?_
    refine vl_sx C0 hX hbl hbA hL (j := i + 1) (nI_add i 1) (by omega) dL_law_427 ?_
    refine vl_aload_n C0 dL_law_428 0 rfl ?_
    refine vl_iload C0 dL_law_429 4 rfl ?_
    refine vl_iconst (v := 2) C0 dL_law_431 (by decide) ?_
    refine vl_iadd C0 dL_law_432 ?_
    refine vl_sx C0 hX hbl hbA hL (j := i + 2) (nI_add i 2) (by omega) dL_law_433 ?_
    refine vl_aload_n C0 dL_law_434 0 rfl ?_
    refine vl_iload C0 dL_law_435 4 rfl ?_
    refine vl_iconst (v := 3) C0 dL_law_437 (by decide) ?_
    refine vl_iadd C0 dL_law_438 ?_
    refine vl_sx C0 hX hbl hbA hL (j := i + 3) (nI_add i 3) (by omega) dL_law_439 ?_
    refine vl_aload_n C0 dL_law_440 0 rfl ?_
    refine vl_iload C0 dL_law_441 4 rfl ?_
    refine vl_iconst (v := 4) C0 dL_law_443 (by decide) ?_
    refine vl_iadd C0 dL_law_444 ?_
    refine vl_sx C0 hX hbl hbA hL (j := i + 4) (nI_add i 4) (by omega) dL_law_445 ?_
    refine vl_aload_n C0 dL_law_446 0 rfl ?_
    refine vl_iload C0 dL_law_447 4 rfl ?_
    refine vl_iconst (v := 5) C0 dL_law_449 (by decide) ?_
    refine vl_iadd C0 dL_law_450 ?_
    refine vl_sx C0 hX hbl hbA hL (j := i + 5) (nI_add i 5) (by omega) dL_law_451 ?_
    refine vl_perm (pm_in (A := cw cy ad nl ns par Rl d) (o := (o, .inl (cy 4, 1, .inr (.inl f)))) (M := mw cy am mm)) ?_
    refine vl_calli C0 (vl_goV C0 (As := [.int (xs (i + 1)), .int (xs (i + 2)), .int (xs (i + 3)), .int (xs (i + 4)), .int (xs (i + 5))]) (na := 5) (b := am 0) (st := []) (ci := 4) gL_law_X4_order rfl rfl rfl (by decide +kernel) ⟨Nat.le_of_ble_eq_true rfl, Nat.le_of_ble_eq_true rfl⟩ rfl ⟨0, _, rfl⟩ dL_law_452 (Nat.le_of_ble_eq_true rfl) ⟨show k + 5 + 0 ≤ 601024 by omega, show n + 48 + 0 ≤ 7293034 by omega⟩ rfl rfl) (c_X4_order hl0 (xs (i + 1)) (xs (i + 2)) (xs (i + 3)) (xs (i + 4)) (xs (i + 5)) e0 h8 e7 h1 h9 (mm := mm)) (k2 := k + 5) (n2 := n + 48) (Nat.le_refl _) (Nat.le_refl _) (fun r9 w9 hp9 => ?_)
    obtain ⟨hr9, rfl⟩ := hp9
    have hq : JJ ns nl par (sp_order nl ns mm (xs (i + 1)) (xs (i + 2)) (xs (i + 3)) (xs (i + 4)) (xs (i + 5))).2 d ∧ (sp_order nl ns mm (xs (i + 1)) (xs (i + 2)) (xs (i + 3)) (xs (i + 4)) (xs (i + 5))).2 0 17 = 1 := hJ.t (e_order_1 g1)
    clear hr9
    refine vl_istore (lv' := [(0, .ref b), (1, .ref (ad 0 0)), (2, .ref (am 0)), (3, .ref o), (4, .int (nI i)), (5, .int 1), (6, .int r9)]) C0 dL_law_455 [1, 2, 3, 4, 5, 6, 0] (by decide) rfl ?_
    refine vl_aload_n C0 dL_law_457 2 rfl ?_
    refine vl_calli C0 (vl_goV C0 (As := []) (na := 0) (b := am 0) (st := []) (ci := 4) gL_law_X4_thrown rfl rfl rfl (by decide +kernel) ⟨Nat.le_of_ble_eq_true rfl, Nat.le_of_ble_eq_true rfl⟩ rfl ⟨0, _, rfl⟩ dL_law_458 (Nat.le_of_ble_eq_true rfl) ⟨show k + 5 + 0 ≤ 601024 by omega, show n + 48 + 0 ≤ 7293034 by omega⟩ rfl rfl) (c_X4_thrown hl0 (mm := (sp_order nl ns mm (xs (i + 1)) (xs (i + 2)) (xs (i + 3)) (xs (i + 4)) (xs (i + 5))).2)) (k2 := k + 5) (n2 := n + 48) (Nat.le_refl _) (Nat.le_refl _) (fun t9 w9 hp9 => ?_)
    obtain ⟨ht9, rfl⟩ := hp9
    have ht9 := ht9.trans hq.2
    subst ht9
    refine vl_perm (pm_out (A := cw cy ad nl ns par Rl d) (o := (o, .inl (cy 4, 1, .inr (.inl f)))) (M := mw cy am (sp_order nl ns mm (xs (i + 1)) (xs (i + 2)) (xs (i + 3)) (xs (i + 4)) (xs (i + 5))).2)) ?_
    refine vl_iload C0 dL_law_461 5 rfl ?_
    refine vl_icmp_eq (tgt := 468) C0 dL_law_463 (by decide) (fun (h463 : (1 : Int32) = (1 : Int32)) => ?_) (fun (h463 : ¬ (1 : Int32) = (1 : Int32)) => absurd h463 (by decide))
    refine vl_iload C0 dL_law_468 5 rfl ?_
    refine vl_if_ne (tgt := 492) C0 dL_law_470 (by decide) (fun (h470 : ¬ (1 : Int32) = (0 : Int32)) => ?_) (fun (h470 : (1 : Int32) = (0 : Int32)) => absurd h470 (by decide))
    refine vl_goto (tgt := 1171) C0 dL_law_492 (by decide) ?_
    refine vl_lv (lv2 := [(0, .ref b), (1, .ref (ad 0 0)), (2, .ref (am 0)), (3, .ref o), (4, .int (nI i))]) [0, 1, 2, 3, 4] rfl ?_
    exact kk ad nl ns par Rl d (sp_order nl ns mm (xs (i + 1)) (xs (i + 2)) (xs (i + 3)) (xs (i + 4)) (xs (i + 5))).2 f rfl hq.1 hok
  · skip
    refine vl_istore (lv' := [(0, .ref b), (1, .ref (ad 0 0)), (2, .ref (am 0)), (3, .ref o), (4, .int (nI i)), (5, .int 2)]) C0 dL_law_419 [1, 2, 3, 4, 5, 0] (by decide) rfl ?_
    refine vl_aload_n C0 dL_law_421 2 rfl ?_
    refine vl_aload_n C0 dL_law_422 0 rfl ?_
    refine vl_iload C0 dL_law_423 4 rfl ?_
    refine vl_iconst (v := 1) C0 dL_law_425 (by decide) ?_
    refine vl_iadd C0 dL_law_426 ?_
    refine vl_sx C0 hX hbl hbA hL (j := i + 1) (nI_add i 1) (by omega) dL_law_427 ?_
    refine vl_aload_n C0 dL_law_428 0 rfl ?_
    refine vl_iload C0 dL_law_429 4 rfl ?_
    refine vl_iconst (v := 2) C0 dL_law_431 (by decide) ?_
    refine vl_iadd C0 dL_law_432 ?_
    refine vl_sx C0 hX hbl hbA hL (j := i + 2) (nI_add i 2) (by omega) dL_law_433 ?_
    refine vl_aload_n C0 dL_law_434 0 rfl ?_
    refine vl_iload C0 dL_law_435 4 rfl ?_
    refine vl_iconst (v := 3) C0 dL_law_437 (by decide) ?_
    refine vl_iadd C0 dL_law_438 ?_
    refine vl_sx C0 hX hbl hbA hL (j := i + 3) (nI_add i 3) (by omega) dL_law_439 ?_
    refine vl_aload_n C0 dL_law_440 0 rfl ?_
    refine vl_iload C0 dL_law_441 4 rfl ?_
    refine vl_iconst (v := 4) C0 dL_law_443 (by decide) ?_
    refine vl_iadd C0 dL_law_444 ?_
    refine vl_sx C0 hX hbl hbA hL (j := i + 4) (nI_add i 4) (by omega) dL_law_445 ?_
    refine vl_aload_n C0 dL_law_446 0 rfl ?_
    refine vl_iload C0 dL_law_447 4 rfl ?_
    refine vl_iconst (v := 5) C0 dL_law_449 (by decide) ?_
    refine vl_iadd C0 dL_law_450 ?_
    refine vl_sx C0 hX hbl hbA hL (j := i + 5) (nI_add i 5) (by omega) dL_law_451 ?_
    refine vl_perm (pm_in (A := cw cy ad nl ns par Rl d) (o := (o, .inl (cy 4, 1, .inr (.inl f)))) (M := mw cy am mm)) ?_
    refine vl_calli C0 (vl_goV C0 (As := [.int (xs (i + 1)), .int (xs (i + 2)), .int (xs (i + 3)), .int (xs (i + 4)), .int (xs (i + 5))]) (na := 5) (b := am 0) (st := []) (ci := 4) gL_law_X4_order rfl rfl rfl (by decide +kernel) ⟨Nat.le_of_ble_eq_true rfl, Nat.le_of_ble_eq_true rfl⟩ rfl ⟨0, _, rfl⟩ dL_law_452 (Nat.le_of_ble_eq_true rfl) ⟨show k + 5 + 0 ≤ 601024 by omega, show n + 48 + 0 ≤ 7293034 by omega⟩ rfl rfl) (c_X4_order hl0 (xs (i + 1)) (xs (i + 2)) (xs (i + 3)) (xs (i + 4)) (xs (i + 5)) e0 h8 e7 h1 h9 (mm := mm)) (k2 := k + 5) (n2 := n + 48) (Nat.le_refl _) (Nat.le_refl _) (fun r9 w9 hp9 => ?_)
    obtain ⟨hr9, rfl⟩ := hp9
    have hq : JJ ns nl par (sp_order nl ns mm (xs (i + 1)) (xs (i + 2)) (xs (i + 3)) (xs (i + 4)) (xs (i + 5))).2 d ∧ (sp_order nl ns mm (xs (i + 1)) (xs (i + 2)) (xs (i + 3)) (xs (i + 4)) (xs (i + 5))).2 0 17 = 2 := hJ.t (e_order_2 g1)
    clear hr9
    refine vl_istore (lv' := [(0, .ref b), (1, .ref (ad 0 0)), (2, .ref (am 0)), (3, .ref o), (4, .int (nI i)), (5, .int 2), (6, .int r9)]) C0 dL_law_455 [1, 2, 3, 4, 5, 6, 0] (by decide) rfl ?_
    refine vl_aload_n C0 dL_law_457 2 rfl ?_
    refine vl_calli C0 (vl_goV C0 (As := []) (na := 0) (b := am 0) (st := []) (ci := 4) gL_law_X4_thrown rfl rfl rfl (by decide +kernel) ⟨Nat.le_of_ble_eq_true rfl, Nat.le_of_ble_eq_true rfl⟩ rfl ⟨0, _, rfl⟩ dL_law_458 (Nat.le_of_ble_eq_true rfl) ⟨show k + 5 + 0 ≤ 601024 by omega, show n + 48 + 0 ≤ 7293034 by omega⟩ rfl rfl) (c_X4_thrown hl0 (mm := (sp_order nl ns mm (xs (i + 1)) (xs (i + 2)) (xs (i + 3)) (xs (i + 4)) (xs (i + 5))).2)) (k2 := k + 5) (n2 := n + 48) (Nat.le_refl _) (Nat.le_refl _) (fun t9 w9 hp9 => ?_)
    obtain ⟨ht9, rfl⟩ := hp9
    have ht9 := ht9.trans hq.2
    subst ht9
    refine vl_perm (pm_out (A := cw cy ad nl ns par Rl d) (o := (o, .inl (cy 4, 1, .inr (.inl f)))) (M := mw cy am (sp_order nl ns mm (xs (i + 1)) (xs (i + 2)) (xs (i + 3)) (xs (i + 4)) (xs (i + 5))).2)) ?_
    refine vl_iload C0 dL_law_461 5 rfl ?_
    refine vl_icmp_eq (tgt := 468) C0 dL_law_463 (by decide) (fun (h463 : (2 : Int32) = (2 : Int32)) => ?_) (fun (h463 : ¬ (2 : Int32) = (2 : Int32)) => absurd h463 (by decide))
    refine vl_iload C0 dL_law_468 5 rfl ?_
    refine vl_if_ne (tgt := 492) C0 dL_law_470 (by decide) (fun (h470 : ¬ (2 : Int32) = (0 : Int32)) => ?_) (fun (h470 : (2 : Int32) = (0 : Int32)) => absurd h470 (by decide))
    refine vl_goto (tgt := 1171) C0 dL_law_492 (by decide) ?_
    refine vl_lv (lv2 := [(0, .ref b), (1, .ref (ad 0 0)), (2, .ref (am 0)), (3, .ref o), (4, .int (nI i))]) [0, 1, 2, 3, 4] rfl ?_
    exact kk ad nl ns par Rl d (sp_order nl ns mm (xs (i + 1)) (xs (i + 2)) (xs (i + 3)) (xs (i + 4)) (xs (i + 5))).2 f rfl hq.1 hok
  · skip
    refine vl_istore (lv' := [(0, .ref b), (1, .ref (ad 0 0)), (2, .ref (am 0)), (3, .ref o), (4, .int (nI i)), (5, .int 3)]) C0 dL_law_419 [1, 2, 3, 4, 5, 0] (by decide) rfl ?_
    refine vl_aload_n C0 dL_law_421 2 rfl ?_
    refine vl_aload_n C0 dL_law_422 0 rfl ?_
    refine vl_iload C0 dL_law_423 4 rfl ?_
    refine vl_iconst (v := 1) C0 dL_law_425 (by decide) ?_
    refine vl_iadd C0 dL_law_426 ?_
    refine vl_sx C0 hX hbl hbA hL (j := i + 1) (nI_add i 1) (by omega) dL_law_427 ?_
    refine vl_aload_n C0 dL_law_428 0 rfl ?_
    refine vl_iload C0 dL_law_429 4 rfl ?_
    refine vl_iconst (v := 2) C0 dL_law_431 (by decide) ?_
    refine vl_iadd C0 dL_law_432 ?_
    refine vl_sx C0 hX hbl hbA hL (j := i + 2) (nI_add i 2) (by omega) dL_law_433 ?_
    refine vl_aload_n C0 dL_law_434 0 rfl ?_
    refine vl_iload C0 dL_law_435 4 rfl ?_
    refine vl_iconst (v := 3) C0 dL_law_437 (by decide) ?_
    refine vl_iadd C0 dL_law_438 ?_
    refine vl_sx C0 hX hbl hbA hL (j := i + 3) (nI_add i 3) (by omega) dL_law_439 ?_
    refine vl_aload_n C0 dL_law_440 0 rfl ?_
    refine vl_iload C0 dL_law_441 4 rfl ?_
    refine vl_iconst (v := 4) C0 dL_law_443 (by decide) ?_
    refine vl_iadd C0 dL_law_444 ?_
    refine vl_sx C0 hX hbl hbA hL (j := i + 4) (nI_add i 4) (by omega) dL_law_445 ?_
    refine vl_aload_n C0 dL_law_446 0 rfl ?_
    refine vl_iload C0 dL_law_447 4 rfl ?_
    refine vl_iconst (v := 5) C0 dL_law_449 (by decide) ?_
    refine vl_iadd C0 dL_law_450 ?_
    refine vl_sx C0 hX hbl hbA hL (j := i + 5) (nI_add i 5) (by omega) dL_law_451 ?_
    refine vl_perm (pm_in (A := cw cy ad nl ns par Rl d) (o := (o, .inl (cy 4, 1, .inr (.inl f)))) (M := mw cy am mm)) ?_
    refine vl_calli C0 (vl_goV C0 (As := [.int (xs (i + 1)), .int (xs (i + 2)), .int (xs (i + 3)), .int (xs (i + 4)), .int (xs (i + 5))]) (na := 5) (b := am 0) (st := []) (ci := 4) gL_law_X4_order rfl rfl rfl (by decide +kernel) ⟨Nat.le_of_ble_eq_true rfl, Nat.le_of_ble_eq_true rfl⟩ rfl ⟨0, _, rfl⟩ dL_law_452 (Nat.le_of_ble_eq_true rfl) ⟨show k + 5 + 0 ≤ 601024 by omega, show n + 48 + 0 ≤ 7293034 by omega⟩ rfl rfl) (c_X4_order hl0 (xs (i + 1)) (xs (i + 2)) (xs (i + 3)) (xs (i + 4)) (xs (i + 5)) e0 h8 e7 h1 h9 (mm := mm)) (k2 := k + 5) (n2 := n + 48) (Nat.le_refl _) (Nat.le_refl _) (fun r9 w9 hp9 => ?_)
    obtain ⟨hr9, rfl⟩ := hp9
    have hq : JJ ns nl par (sp_order nl ns mm (xs (i + 1)) (xs (i + 2)) (xs (i + 3)) (xs (i + 4)) (xs (i + 5))).2 d ∧ (sp_order nl ns mm (xs (i + 1)) (xs (i + 2)) (xs (i + 3)) (xs (i + 4)) (xs (i + 5))).2 0 17 = 3 := hJ.t (e_order_3 g1)
    clear hr9
    refine vl_istore (lv' := [(0, .ref b), (1, .ref (ad 0 0)), (2, .ref (am 0)), (3, .ref o), (4, .int (nI i)), (5, .int 3), (6, .int r9)]) C0 dL_law_455 [1, 2, 3, 4, 5, 6, 0] (by decide) rfl ?_
    refine vl_aload_n C0 dL_law_457 2 rfl ?_
    refine vl_calli C0 (vl_goV C0 (As := []) (na := 0) (b := am 0) (st := []) (ci := 4) gL_law_X4_thrown rfl rfl rfl (by decide +kernel) ⟨Nat.le_of_ble_eq_true rfl, Nat.le_of_ble_eq_true rfl⟩ rfl ⟨0, _, rfl⟩ dL_law_458 (Nat.le_of_ble_eq_true rfl) ⟨show k + 5 + 0 ≤ 601024 by omega, show n + 48 + 0 ≤ 7293034 by omega⟩ rfl rfl) (c_X4_thrown hl0 (mm := (sp_order nl ns mm (xs (i + 1)) (xs (i + 2)) (xs (i + 3)) (xs (i + 4)) (xs (i + 5))).2)) (k2 := k + 5) (n2 := n + 48) (Nat.le_refl _) (Nat.le_refl _) (fun t9 w9 hp9 => ?_)
    obtain ⟨ht9, rfl⟩ := hp9
    have ht9 := ht9.trans hq.2
    subst ht9
    refine vl_perm (pm_out (A := cw cy ad nl ns par Rl d) (o := (o, .inl (cy 4, 1, .inr (.inl f)))) (M := mw cy am (sp_order nl ns mm (xs (i + 1)) (xs (i + 2)) (xs (i + 3)) (xs (i + 4)) (xs (i + 5))).2)) ?_
    refine vl_iload C0 dL_law_461 5 rfl ?_
    refine vl_icmp_eq (tgt := 468) C0 dL_law_463 (by decide) (fun (h463 : (3 : Int32) = (3 : Int32)) => ?_) (fun (h463 : ¬ (3 : Int32) = (3 : Int32)) => absurd h463 (by decide))
    refine vl_iload C0 dL_law_468 5 rfl ?_
    refine vl_if_ne (tgt := 492) C0 dL_law_470 (by decide) (fun (h470 : ¬ (3 : Int32) = (0 : Int32)) => ?_) (fun (h470 : (3 : Int32) = (0 : Int32)) => absurd h470 (by decide))
    refine vl_goto (tgt := 1171) C0 dL_law_492 (by decide) ?_
    refine vl_lv (lv2 := [(0, .ref b), (1, .ref (ad 0 0)), (2, .ref (am 0)), (3, .ref o), (4, .int (nI i))]) [0, 1, 2, 3, 4] rfl ?_
    exact kk ad nl ns par Rl d (sp_order nl ns mm (xs (i + 1)) (xs (i + 2)) (xs (i + 3)) (xs (i + 4)) (xs (i + 5))).2 f rfl hq.1 hok
set_option maxHeartbeats 4000000 in
set_option maxRecDepth 100000 in
theorem law_takeAway {p : Program} {l : Launch} {e : Env} {s : State} {m : MethodId} {b : Nat} {below : List Frame} {meth : Method} {c : Code} {D : va_G} {cy : Nat → ClassId} {am : Nat → Nat} {o a0 L : Nat} {xs : Nat → Int32} {k n i : Nat} (K : lwC p l e s m b below meth c D cy L xs) (hi : i + 6 ≤ L) (hk : k + 5 ≤ 601024) (hn : n + 48 ≤ 7293034) (kk : lwL p l e s m b below meth c D cy am o a0 (k + 5) (n + 48) i 1171) : lwL p l e s m b below meth c D cy am o a0 k n i 495 := by
  obtain ⟨hl0, C0, hX, hbl, hL⟩ := K
  intro ad nl ns par Rl d mm f ha hJ hok
  subst ha
  have hbA : ¬ (fun q : Nat => s.heap.size ≤ q) b := Nat.not_le.mpr hbl
  obtain ⟨⟨e0, h8, e7, h1, h9⟩, htr, -, -, -, hcg, hrt⟩ := id hJ.1
  have hcode := hJ.1.code
  have h0a := hJ.1.ah0
  obtain ⟨hln, hwd, hfk⟩ := id hJ.2
  refine vl_aload_n C0 dL_law_495 1 rfl ?_
  refine vl_aload_n C0 dL_law_496 0 rfl ?_
  refine vl_iload C0 dL_law_497 4 rfl ?_
  refine vl_iconst (v := 1) C0 dL_law_499 (by decide) ?_
  refine vl_iadd C0 dL_law_500 ?_
  refine vl_sx C0 hX hbl hbA hL (j := i + 1) (nI_add i 1) (by omega) dL_law_501 ?_
  refine vl_aload_n C0 dL_law_502 0 rfl ?_
  refine vl_iload C0 dL_law_503 4 rfl ?_
  refine vl_iconst (v := 2) C0 dL_law_505 (by decide) ?_
  refine vl_iadd C0 dL_law_506 ?_
  refine vl_sx C0 hX hbl hbA hL (j := i + 2) (nI_add i 2) (by omega) dL_law_507 ?_
  refine vl_aload_n C0 dL_law_508 3 rfl ?_
  refine vl_xcalli C0 (vl_goSXH C0 (As := [.ref (ad 0 0), .int (xs (i + 1)), .int (xs (i + 2)), .ref o]) (na := 4) (st := []) gL_law_L_takeAway rfl rfl rfl (by decide +kernel) ⟨Nat.le_of_ble_eq_true rfl, Nat.le_of_ble_eq_true rfl⟩ dL_law_509 (Nat.le_of_ble_eq_true rfl) ⟨show k + 2 ≤ 601024 by omega, show n + 12 ≤ 7293034 by omega⟩ rfl rfl) (c_L_takeAway hl0 hok h1 h9 (xs (i + 1)) (xs (i + 2)) (mm := mm)) (k2 := k + 5) (n2 := n + 48) (show k + 2 ≤ k + 5 by omega) (show n + 12 ≤ n + 48 by omega) (fun E9 hE9 => False.elim hE9) (fun r9 w9 hp9 => ?_)
  rcases hp9 with ⟨rfl, g1, v, gv1, gv2, rfl⟩ | ⟨rfl, g1, rfl⟩
  · skip
    refine vl_istore (lv' := [(0, .ref b), (1, .ref (ad 0 0)), (2, .ref (am 0)), (3, .ref o), (4, .int (nI i)), (5, .int 0)]) C0 dL_law_512 [1, 2, 3, 4, 5, 0] (by decide) rfl ?_
    refine vl_aload_n C0 dL_law_514 2 rfl ?_
    refine vl_aload_n C0 dL_law_515 0 rfl ?_
    refine vl_iload C0 dL_law_516 4 rfl ?_
    refine vl_iconst (v := 1) C0 dL_law_518 (by decide) ?_
    refine vl_iadd C0 dL_law_519 ?_
    refine vl_sx C0 hX hbl hbA hL (j := i + 1) (nI_add i 1) (by omega) dL_law_520 ?_
    refine vl_aload_n C0 dL_law_521 0 rfl ?_
    refine vl_iload C0 dL_law_522 4 rfl ?_
    refine vl_iconst (v := 2) C0 dL_law_524 (by decide) ?_
    refine vl_iadd C0 dL_law_525 ?_
    refine vl_sx C0 hX hbl hbA hL (j := i + 2) (nI_add i 2) (by omega) dL_law_526 ?_
    refine vl_perm (pm_in (A := cw cy ad nl ns par Rl (drpD d (xs (i + 1)).toNatClampNeg (xs (i + 2)).toNatClampNeg)) (o := (o, .inl (cy 4, 1, .inr (.inl (vp_updL f (0 : Int32).toNatClampNeg (v)))))) (M := mw cy am mm)) ?_
    refine vl_calli C0 (vl_goV C0 (As := [.int (xs (i + 1)), .int (xs (i + 2))]) (na := 2) (b := am 0) (st := []) (ci := 4) gL_law_X4_takeAway rfl rfl rfl (by decide +kernel) ⟨Nat.le_of_ble_eq_true rfl, Nat.le_of_ble_eq_true rfl⟩ rfl ⟨0, _, rfl⟩ dL_law_527 (Nat.le_of_ble_eq_true rfl) ⟨show k + 5 + 0 ≤ 601024 by omega, show n + 48 + 0 ≤ 7293034 by omega⟩ rfl rfl) (c_X4_takeAway hl0 (xs (i + 1)) (xs (i + 2)) e7 h1 h9 (mm := mm)) (k2 := k + 5) (n2 := n + 48) (Nat.le_refl _) (Nat.le_refl _) (fun r9 w9 hp9 => ?_)
    obtain ⟨hr9, rfl⟩ := hp9
    have hq := n_takeAway hJ g1
    have hr9 := hr9.trans hq.2.1
    subst hr9
    refine vl_istore (lv' := [(0, .ref b), (1, .ref (ad 0 0)), (2, .ref (am 0)), (3, .ref o), (4, .int (nI i)), (5, .int 0), (6, .int (bI (decide (¬ d 5 (xs (i + 1)).toNatClampNeg 3 &&& 1 <<< ((xs (i + 2)) &&& 31) = 0))))]) C0 dL_law_530 [1, 2, 3, 4, 5, 6, 0] (by decide) rfl ?_
    refine vl_aload_n C0 dL_law_532 2 rfl ?_
    refine vl_calli C0 (vl_goV C0 (As := []) (na := 0) (b := am 0) (st := []) (ci := 4) gL_law_X4_thrown rfl rfl rfl (by decide +kernel) ⟨Nat.le_of_ble_eq_true rfl, Nat.le_of_ble_eq_true rfl⟩ rfl ⟨0, _, rfl⟩ dL_law_533 (Nat.le_of_ble_eq_true rfl) ⟨show k + 5 + 0 ≤ 601024 by omega, show n + 48 + 0 ≤ 7293034 by omega⟩ rfl rfl) (c_X4_thrown hl0 (mm := (sp_takeAway nl mm (xs (i + 1)) (xs (i + 2))).2)) (k2 := k + 5) (n2 := n + 48) (Nat.le_refl _) (Nat.le_refl _) (fun t9 w9 hp9 => ?_)
    obtain ⟨ht9, rfl⟩ := hp9
    have ht9 := ht9.trans hq.2.2
    subst ht9
    refine vl_perm (pm_out (A := cw cy ad nl ns par Rl (drpD d (xs (i + 1)).toNatClampNeg (xs (i + 2)).toNatClampNeg)) (o := (o, .inl (cy 4, 1, .inr (.inl (vp_updL f (0 : Int32).toNatClampNeg (v)))))) (M := mw cy am (sp_takeAway nl mm (xs (i + 1)) (xs (i + 2))).2)) ?_
    refine vl_iload C0 dL_law_536 5 rfl ?_
    refine vl_icmp_eq (tgt := 543) C0 dL_law_538 (by decide) (fun (h538 : (0 : Int32) = (0 : Int32)) => ?_) (fun (h538 : ¬ (0 : Int32) = (0 : Int32)) => absurd h538 (by decide))
    refine vl_iload C0 dL_law_543 5 rfl ?_
    refine vl_if_ne (tgt := 567) C0 dL_law_545 (by decide) (fun (h545 : ¬ (0 : Int32) = (0 : Int32)) => absurd h545 (by decide)) (fun (h545 : (0 : Int32) = (0 : Int32)) => ?_)
    refine vl_aload_n C0 dL_law_548 3 rfl ?_
    refine vl_iconst (v := 0) C0 dL_law_549 (by decide) ?_
    refine vl_lald C0 (f := (vp_updL f (0 : Int32).toNatClampNeg (v))) (i := 0) ⟨_, wy_at (j := 0) rfl⟩ (vp_in_iff.mpr (by decide)) dL_law_550 ?_
    refine vl_st (st2 := [.long (v)]) (by rw [updL_s]) ?_
    refine vl_iload C0 dL_law_551 6 rfl ?_
    refine vl_if_eq (tgt := 560) C0 dL_law_553 (by decide) (fun (h553 : (bI (decide (¬ d 5 (xs (i + 1)).toNatClampNeg 3 &&& 1 <<< ((xs (i + 2)) &&& 31) = 0)) : Int32) = (0 : Int32)) => ?_) (fun (h553 : ¬ (bI (decide (¬ d 5 (xs (i + 1)).toNatClampNeg 3 &&& 1 <<< ((xs (i + 2)) &&& 31) = 0)) : Int32) = (0 : Int32)) => ?_)
    · have g553 := bI_0.mp h553
      refine vl_lconst (v := 0) C0 dL_law_560 (by decide) ?_
      refine vl_lcmp C0 dL_law_561 ?_
      refine vl_if_eq (tgt := 567) C0 dL_law_562 (by decide) (fun (h562 : (lg_cmp (v) (0) : Int32) = (0 : Int32)) => ?_) (fun (h562 : ¬ (lg_cmp (v) (0) : Int32) = (0 : Int32)) => absurd (lgc0 (gv2 g553)) h562)
      refine vl_goto (tgt := 1171) C0 dL_law_567 (by decide) ?_
      refine vl_lv (lv2 := [(0, .ref b), (1, .ref (ad 0 0)), (2, .ref (am 0)), (3, .ref o), (4, .int (nI i))]) [0, 1, 2, 3, 4] rfl ?_
      exact kk ad nl ns par Rl (drpD d (xs (i + 1)).toNatClampNeg (xs (i + 2)).toNatClampNeg) (sp_takeAway nl mm (xs (i + 1)) (xs (i + 2))).2 (vp_updL f (0 : Int32).toNatClampNeg (v)) rfl hq.1 hok
    · have g553 := bI_n.mp h553
      refine vl_lconst (v := 1) C0 dL_law_556 (by decide) ?_
      refine vl_goto (tgt := 561) C0 dL_law_557 (by decide) ?_
      refine vl_lcmp C0 dL_law_561 ?_
      refine vl_if_eq (tgt := 567) C0 dL_law_562 (by decide) (fun (h562 : (lg_cmp (v) (1) : Int32) = (0 : Int32)) => ?_) (fun (h562 : ¬ (lg_cmp (v) (1) : Int32) = (0 : Int32)) => absurd (lgc0 (gv1 g553)) h562)
      refine vl_goto (tgt := 1171) C0 dL_law_567 (by decide) ?_
      refine vl_lv (lv2 := [(0, .ref b), (1, .ref (ad 0 0)), (2, .ref (am 0)), (3, .ref o), (4, .int (nI i))]) [0, 1, 2, 3, 4] rfl ?_
      exact kk ad nl ns par Rl (drpD d (xs (i + 1)).toNatClampNeg (xs (i + 2)).toNatClampNeg) (sp_takeAway nl mm (xs (i + 1)) (xs (i + 2))).2 (vp_updL f (0 : Int32).toNatClampNeg (v)) rfl hq.1 hok
  · skip
    refine vl_istore (lv' := [(0, .ref b), (1, .ref (ad 0 0)), (2, .ref (am 0)), (3, .ref o), (4, .int (nI i)), (5, .int 1)]) C0 dL_law_512 [1, 2, 3, 4, 5, 0] (by decide) rfl ?_
    refine vl_aload_n C0 dL_law_514 2 rfl ?_
    refine vl_aload_n C0 dL_law_515 0 rfl ?_
    refine vl_iload C0 dL_law_516 4 rfl ?_
    refine vl_iconst (v := 1) C0 dL_law_518 (by decide) ?_
    refine vl_iadd C0 dL_law_519 ?_
    refine vl_sx C0 hX hbl hbA hL (j := i + 1) (nI_add i 1) (by omega) dL_law_520 ?_
    refine vl_aload_n C0 dL_law_521 0 rfl ?_
    refine vl_iload C0 dL_law_522 4 rfl ?_
    refine vl_iconst (v := 2) C0 dL_law_524 (by decide) ?_
    refine vl_iadd C0 dL_law_525 ?_
    refine vl_sx C0 hX hbl hbA hL (j := i + 2) (nI_add i 2) (by omega) dL_law_526 ?_
    refine vl_perm (pm_in (A := cw cy ad nl ns par Rl d) (o := (o, .inl (cy 4, 1, .inr (.inl f)))) (M := mw cy am mm)) ?_
    refine vl_calli C0 (vl_goV C0 (As := [.int (xs (i + 1)), .int (xs (i + 2))]) (na := 2) (b := am 0) (st := []) (ci := 4) gL_law_X4_takeAway rfl rfl rfl (by decide +kernel) ⟨Nat.le_of_ble_eq_true rfl, Nat.le_of_ble_eq_true rfl⟩ rfl ⟨0, _, rfl⟩ dL_law_527 (Nat.le_of_ble_eq_true rfl) ⟨show k + 5 + 0 ≤ 601024 by omega, show n + 48 + 0 ≤ 7293034 by omega⟩ rfl rfl) (c_X4_takeAway hl0 (xs (i + 1)) (xs (i + 2)) e7 h1 h9 (mm := mm)) (k2 := k + 5) (n2 := n + 48) (Nat.le_refl _) (Nat.le_refl _) (fun r9 w9 hp9 => ?_)
    obtain ⟨hr9, rfl⟩ := hp9
    have hq : JJ ns nl par (sp_takeAway nl mm (xs (i + 1)) (xs (i + 2))).2 d ∧ (sp_takeAway nl mm (xs (i + 1)) (xs (i + 2))).2 0 17 = 1 := hJ.t (e_takeAway_1 g1)
    clear hr9
    refine vl_istore (lv' := [(0, .ref b), (1, .ref (ad 0 0)), (2, .ref (am 0)), (3, .ref o), (4, .int (nI i)), (5, .int 1), (6, .int r9)]) C0 dL_law_530 [1, 2, 3, 4, 5, 6, 0] (by decide) rfl ?_
    refine vl_aload_n C0 dL_law_532 2 rfl ?_
    refine vl_calli C0 (vl_goV C0 (As := []) (na := 0) (b := am 0) (st := []) (ci := 4) gL_law_X4_thrown rfl rfl rfl (by decide +kernel) ⟨Nat.le_of_ble_eq_true rfl, Nat.le_of_ble_eq_true rfl⟩ rfl ⟨0, _, rfl⟩ dL_law_533 (Nat.le_of_ble_eq_true rfl) ⟨show k + 5 + 0 ≤ 601024 by omega, show n + 48 + 0 ≤ 7293034 by omega⟩ rfl rfl) (c_X4_thrown hl0 (mm := (sp_takeAway nl mm (xs (i + 1)) (xs (i + 2))).2)) (k2 := k + 5) (n2 := n + 48) (Nat.le_refl _) (Nat.le_refl _) (fun t9 w9 hp9 => ?_)
    obtain ⟨ht9, rfl⟩ := hp9
    have ht9 := ht9.trans hq.2
    subst ht9
    refine vl_perm (pm_out (A := cw cy ad nl ns par Rl d) (o := (o, .inl (cy 4, 1, .inr (.inl f)))) (M := mw cy am (sp_takeAway nl mm (xs (i + 1)) (xs (i + 2))).2)) ?_
    refine vl_iload C0 dL_law_536 5 rfl ?_
    refine vl_icmp_eq (tgt := 543) C0 dL_law_538 (by decide) (fun (h538 : (1 : Int32) = (1 : Int32)) => ?_) (fun (h538 : ¬ (1 : Int32) = (1 : Int32)) => absurd h538 (by decide))
    refine vl_iload C0 dL_law_543 5 rfl ?_
    refine vl_if_ne (tgt := 567) C0 dL_law_545 (by decide) (fun (h545 : ¬ (1 : Int32) = (0 : Int32)) => ?_) (fun (h545 : (1 : Int32) = (0 : Int32)) => absurd h545 (by decide))
    refine vl_goto (tgt := 1171) C0 dL_law_567 (by decide) ?_
    refine vl_lv (lv2 := [(0, .ref b), (1, .ref (ad 0 0)), (2, .ref (am 0)), (3, .ref o), (4, .int (nI i))]) [0, 1, 2, 3, 4] rfl ?_
    exact kk ad nl ns par Rl d (sp_takeAway nl mm (xs (i + 1)) (xs (i + 2))).2 f rfl hq.1 hok
set_option maxHeartbeats 4000000 in
set_option maxRecDepth 100000 in
theorem law_orderOf {p : Program} {l : Launch} {e : Env} {s : State} {m : MethodId} {b : Nat} {below : List Frame} {meth : Method} {c : Code} {D : va_G} {cy : Nat → ClassId} {am : Nat → Nat} {o a0 L : Nat} {xs : Nat → Int32} {k n i : Nat} (K : lwC p l e s m b below meth c D cy L xs) (hi : i + 6 ≤ L) (hk : k + 5 ≤ 601024) (hn : n + 48 ≤ 7293034) (kk : lwL p l e s m b below meth c D cy am o a0 (k + 5) (n + 48) i 1171) : lwL p l e s m b below meth c D cy am o a0 k n i 570 := by
  obtain ⟨hl0, C0, hX, hbl, hL⟩ := K
  intro ad nl ns par Rl d mm f ha hJ hok
  subst ha
  have hbA : ¬ (fun q : Nat => s.heap.size ≤ q) b := Nat.not_le.mpr hbl
  obtain ⟨⟨e0, h8, e7, h1, h9⟩, htr, -, -, -, hcg, hrt⟩ := id hJ.1
  have hcode := hJ.1.code
  have h0a := hJ.1.ah0
  obtain ⟨hln, hwd, hfk⟩ := id hJ.2
  refine vl_aload_n C0 dL_law_570 1 rfl ?_
  refine vl_aload_n C0 dL_law_571 0 rfl ?_
  refine vl_iload C0 dL_law_572 4 rfl ?_
  refine vl_iconst (v := 1) C0 dL_law_574 (by decide) ?_
  refine vl_iadd C0 dL_law_575 ?_
  refine vl_sx C0 hX hbl hbA hL (j := i + 1) (nI_add i 1) (by omega) dL_law_576 ?_
  refine vl_aload_n C0 dL_law_577 0 rfl ?_
  refine vl_iload C0 dL_law_578 4 rfl ?_
  refine vl_iconst (v := 2) C0 dL_law_580 (by decide) ?_
  refine vl_iadd C0 dL_law_581 ?_
  refine vl_sx C0 hX hbl hbA hL (j := i + 2) (nI_add i 2) (by omega) dL_law_582 ?_
  refine vl_aload_n C0 dL_law_583 3 rfl ?_
  refine vl_xcalli C0 (vl_goSXH C0 (As := [.ref (ad 0 0), .int (xs (i + 1)), .int (xs (i + 2)), .ref o]) (na := 4) (st := []) gL_law_L_orderOf rfl rfl rfl (by decide +kernel) ⟨Nat.le_of_ble_eq_true rfl, Nat.le_of_ble_eq_true rfl⟩ dL_law_584 (Nat.le_of_ble_eq_true rfl) ⟨show k + 2 ≤ 601024 by omega, show n + 12 ≤ 7293034 by omega⟩ rfl rfl) (c_L_orderOf hl0 hok h1 h9 hln htr (xs (i + 1)) (xs (i + 2)) (mm := mm)) (k2 := k + 5) (n2 := n + 48) (show k + 2 ≤ k + 5 by omega) (show n + 12 ≤ n + 48 by omega) (fun E9 hE9 => False.elim hE9) (fun r9 w9 hp9 => ?_)
  rcases hp9 with ⟨rfl, g1, rfl⟩ | ⟨rfl, g1, rfl⟩
  · skip
    refine vl_istore (lv' := [(0, .ref b), (1, .ref (ad 0 0)), (2, .ref (am 0)), (3, .ref o), (4, .int (nI i)), (5, .int 0)]) C0 dL_law_587 [1, 2, 3, 4, 5, 0] (by decide) rfl ?_
    refine vl_aload_n C0 dL_law_589 2 rfl ?_
    refine vl_aload_n C0 dL_law_590 0 rfl ?_
    refine vl_iload C0 dL_law_591 4 rfl ?_
    refine vl_iconst (v := 1) C0 dL_law_593 (by decide) ?_
    refine vl_iadd C0 dL_law_594 ?_
    refine vl_sx C0 hX hbl hbA hL (j := i + 1) (nI_add i 1) (by omega) dL_law_595 ?_
    refine vl_aload_n C0 dL_law_596 0 rfl ?_
    refine vl_iload C0 dL_law_597 4 rfl ?_
    refine vl_iconst (v := 2) C0 dL_law_599 (by decide) ?_
    refine vl_iadd C0 dL_law_600 ?_
    refine vl_sx C0 hX hbl hbA hL (j := i + 2) (nI_add i 2) (by omega) dL_law_601 ?_
    refine vl_perm (pm_in (A := cw cy ad nl ns par Rl d) (o := (o, .inl (cy 4, 1, .inr (.inl (vp_updL f (0 : Int32).toNatClampNeg ((ordX (mm 11) par (xs (i + 2)).toNatClampNeg (some (xs (i + 1)).toNatClampNeg)).toInt64)))))) (M := mw cy am mm)) ?_
    refine vl_calli C0 (vl_goV C0 (As := [.int (xs (i + 1)), .int (xs (i + 2))]) (na := 2) (b := am 0) (st := []) (ci := 4) gL_law_X4_orderOf rfl rfl rfl (by decide +kernel) ⟨Nat.le_of_ble_eq_true rfl, Nat.le_of_ble_eq_true rfl⟩ rfl ⟨0, _, rfl⟩ dL_law_602 (Nat.le_of_ble_eq_true rfl) ⟨show k + 5 + 0 ≤ 601024 by omega, show n + 48 + 0 ≤ 7293034 by omega⟩ rfl rfl) (c_X4_orderOf hl0 (xs (i + 1)) (xs (i + 2)) e7 h1 h9 htr (mm := mm)) (k2 := k + 5) (n2 := n + 48) (Nat.le_refl _) (Nat.le_refl _) (fun r9 w9 hp9 => ?_)
    obtain ⟨hr9, rfl⟩ := hp9
    have hq := n_orderOf hJ g1
    have hr9 := hr9.trans hq.2.1
    subst hr9
    refine vl_istore (lv' := [(0, .ref b), (1, .ref (ad 0 0)), (2, .ref (am 0)), (3, .ref o), (4, .int (nI i)), (5, .int 0), (6, .int (ordX (mm 11) par (xs (i + 2)).toNatClampNeg (some (xs (i + 1)).toNatClampNeg)))]) C0 dL_law_605 [1, 2, 3, 4, 5, 6, 0] (by decide) rfl ?_
    refine vl_aload_n C0 dL_law_607 2 rfl ?_
    refine vl_calli C0 (vl_goV C0 (As := []) (na := 0) (b := am 0) (st := []) (ci := 4) gL_law_X4_thrown rfl rfl rfl (by decide +kernel) ⟨Nat.le_of_ble_eq_true rfl, Nat.le_of_ble_eq_true rfl⟩ rfl ⟨0, _, rfl⟩ dL_law_608 (Nat.le_of_ble_eq_true rfl) ⟨show k + 5 + 0 ≤ 601024 by omega, show n + 48 + 0 ≤ 7293034 by omega⟩ rfl rfl) (c_X4_thrown hl0 (mm := (sp_orderOf nl par mm (xs (i + 1)) (xs (i + 2))).2)) (k2 := k + 5) (n2 := n + 48) (Nat.le_refl _) (Nat.le_refl _) (fun t9 w9 hp9 => ?_)
    obtain ⟨ht9, rfl⟩ := hp9
    have ht9 := ht9.trans hq.2.2
    subst ht9
    refine vl_perm (pm_out (A := cw cy ad nl ns par Rl d) (o := (o, .inl (cy 4, 1, .inr (.inl (vp_updL f (0 : Int32).toNatClampNeg ((ordX (mm 11) par (xs (i + 2)).toNatClampNeg (some (xs (i + 1)).toNatClampNeg)).toInt64)))))) (M := mw cy am (sp_orderOf nl par mm (xs (i + 1)) (xs (i + 2))).2)) ?_
    refine vl_iload C0 dL_law_611 5 rfl ?_
    refine vl_icmp_eq (tgt := 618) C0 dL_law_613 (by decide) (fun (h613 : (0 : Int32) = (0 : Int32)) => ?_) (fun (h613 : ¬ (0 : Int32) = (0 : Int32)) => absurd h613 (by decide))
    refine vl_iload C0 dL_law_618 5 rfl ?_
    refine vl_if_ne (tgt := 635) C0 dL_law_620 (by decide) (fun (h620 : ¬ (0 : Int32) = (0 : Int32)) => absurd h620 (by decide)) (fun (h620 : (0 : Int32) = (0 : Int32)) => ?_)
    refine vl_aload_n C0 dL_law_623 3 rfl ?_
    refine vl_iconst (v := 0) C0 dL_law_624 (by decide) ?_
    refine vl_lald C0 (f := (vp_updL f (0 : Int32).toNatClampNeg ((ordX (mm 11) par (xs (i + 2)).toNatClampNeg (some (xs (i + 1)).toNatClampNeg)).toInt64))) (i := 0) ⟨_, wy_at (j := 0) rfl⟩ (vp_in_iff.mpr (by decide)) dL_law_625 ?_
    refine vl_st (st2 := [.long ((ordX (mm 11) par (xs (i + 2)).toNatClampNeg (some (xs (i + 1)).toNatClampNeg)).toInt64)]) (by rw [updL_s]) ?_
    refine vl_iload C0 dL_law_626 6 rfl ?_
    refine vl_i2l C0 dL_law_628 rfl ?_
    refine vl_lcmp C0 dL_law_629 ?_
    refine vl_if_eq (tgt := 635) C0 dL_law_630 (by decide) (fun (h630 : (lg_cmp ((ordX (mm 11) par (xs (i + 2)).toNatClampNeg (some (xs (i + 1)).toNatClampNeg)).toInt64) ((ordX (mm 11) par (xs (i + 2)).toNatClampNeg (some (xs (i + 1)).toNatClampNeg)).toInt64) : Int32) = (0 : Int32)) => ?_) (fun (h630 : ¬ (lg_cmp ((ordX (mm 11) par (xs (i + 2)).toNatClampNeg (some (xs (i + 1)).toNatClampNeg)).toInt64) ((ordX (mm 11) par (xs (i + 2)).toNatClampNeg (some (xs (i + 1)).toNatClampNeg)).toInt64) : Int32) = (0 : Int32)) => absurd (lgc0 rfl) h630)
    refine vl_goto (tgt := 1171) C0 dL_law_635 (by decide) ?_
    refine vl_lv (lv2 := [(0, .ref b), (1, .ref (ad 0 0)), (2, .ref (am 0)), (3, .ref o), (4, .int (nI i))]) [0, 1, 2, 3, 4] rfl ?_
    exact kk ad nl ns par Rl d (sp_orderOf nl par mm (xs (i + 1)) (xs (i + 2))).2 (vp_updL f (0 : Int32).toNatClampNeg ((ordX (mm 11) par (xs (i + 2)).toNatClampNeg (some (xs (i + 1)).toNatClampNeg)).toInt64)) rfl hq.1 hok
  · skip
    refine vl_istore (lv' := [(0, .ref b), (1, .ref (ad 0 0)), (2, .ref (am 0)), (3, .ref o), (4, .int (nI i)), (5, .int 1)]) C0 dL_law_587 [1, 2, 3, 4, 5, 0] (by decide) rfl ?_
    refine vl_aload_n C0 dL_law_589 2 rfl ?_
    refine vl_aload_n C0 dL_law_590 0 rfl ?_
    refine vl_iload C0 dL_law_591 4 rfl ?_
    refine vl_iconst (v := 1) C0 dL_law_593 (by decide) ?_
    refine vl_iadd C0 dL_law_594 ?_
    refine vl_sx C0 hX hbl hbA hL (j := i + 1) (nI_add i 1) (by omega) dL_law_595 ?_
    refine vl_aload_n C0 dL_law_596 0 rfl ?_
    refine vl_iload C0 dL_law_597 4 rfl ?_
    refine vl_iconst (v := 2) C0 dL_law_599 (by decide) ?_
    refine vl_iadd C0 dL_law_600 ?_
    refine vl_sx C0 hX hbl hbA hL (j := i + 2) (nI_add i 2) (by omega) dL_law_601 ?_
    refine vl_perm (pm_in (A := cw cy ad nl ns par Rl d) (o := (o, .inl (cy 4, 1, .inr (.inl f)))) (M := mw cy am mm)) ?_
    refine vl_calli C0 (vl_goV C0 (As := [.int (xs (i + 1)), .int (xs (i + 2))]) (na := 2) (b := am 0) (st := []) (ci := 4) gL_law_X4_orderOf rfl rfl rfl (by decide +kernel) ⟨Nat.le_of_ble_eq_true rfl, Nat.le_of_ble_eq_true rfl⟩ rfl ⟨0, _, rfl⟩ dL_law_602 (Nat.le_of_ble_eq_true rfl) ⟨show k + 5 + 0 ≤ 601024 by omega, show n + 48 + 0 ≤ 7293034 by omega⟩ rfl rfl) (c_X4_orderOf hl0 (xs (i + 1)) (xs (i + 2)) e7 h1 h9 htr (mm := mm)) (k2 := k + 5) (n2 := n + 48) (Nat.le_refl _) (Nat.le_refl _) (fun r9 w9 hp9 => ?_)
    obtain ⟨hr9, rfl⟩ := hp9
    have hq : JJ ns nl par (sp_orderOf nl par mm (xs (i + 1)) (xs (i + 2))).2 d ∧ (sp_orderOf nl par mm (xs (i + 1)) (xs (i + 2))).2 0 17 = 1 := hJ.t (e_orderOf_1 g1)
    clear hr9
    refine vl_istore (lv' := [(0, .ref b), (1, .ref (ad 0 0)), (2, .ref (am 0)), (3, .ref o), (4, .int (nI i)), (5, .int 1), (6, .int r9)]) C0 dL_law_605 [1, 2, 3, 4, 5, 6, 0] (by decide) rfl ?_
    refine vl_aload_n C0 dL_law_607 2 rfl ?_
    refine vl_calli C0 (vl_goV C0 (As := []) (na := 0) (b := am 0) (st := []) (ci := 4) gL_law_X4_thrown rfl rfl rfl (by decide +kernel) ⟨Nat.le_of_ble_eq_true rfl, Nat.le_of_ble_eq_true rfl⟩ rfl ⟨0, _, rfl⟩ dL_law_608 (Nat.le_of_ble_eq_true rfl) ⟨show k + 5 + 0 ≤ 601024 by omega, show n + 48 + 0 ≤ 7293034 by omega⟩ rfl rfl) (c_X4_thrown hl0 (mm := (sp_orderOf nl par mm (xs (i + 1)) (xs (i + 2))).2)) (k2 := k + 5) (n2 := n + 48) (Nat.le_refl _) (Nat.le_refl _) (fun t9 w9 hp9 => ?_)
    obtain ⟨ht9, rfl⟩ := hp9
    have ht9 := ht9.trans hq.2
    subst ht9
    refine vl_perm (pm_out (A := cw cy ad nl ns par Rl d) (o := (o, .inl (cy 4, 1, .inr (.inl f)))) (M := mw cy am (sp_orderOf nl par mm (xs (i + 1)) (xs (i + 2))).2)) ?_
    refine vl_iload C0 dL_law_611 5 rfl ?_
    refine vl_icmp_eq (tgt := 618) C0 dL_law_613 (by decide) (fun (h613 : (1 : Int32) = (1 : Int32)) => ?_) (fun (h613 : ¬ (1 : Int32) = (1 : Int32)) => absurd h613 (by decide))
    refine vl_iload C0 dL_law_618 5 rfl ?_
    refine vl_if_ne (tgt := 635) C0 dL_law_620 (by decide) (fun (h620 : ¬ (1 : Int32) = (0 : Int32)) => ?_) (fun (h620 : (1 : Int32) = (0 : Int32)) => absurd h620 (by decide))
    refine vl_goto (tgt := 1171) C0 dL_law_635 (by decide) ?_
    refine vl_lv (lv2 := [(0, .ref b), (1, .ref (ad 0 0)), (2, .ref (am 0)), (3, .ref o), (4, .int (nI i))]) [0, 1, 2, 3, 4] rfl ?_
    exact kk ad nl ns par Rl d (sp_orderOf nl par mm (xs (i + 1)) (xs (i + 2))).2 f rfl hq.1 hok
set_option maxHeartbeats 4000000 in
set_option maxRecDepth 100000 in
theorem law_differences {p : Program} {l : Launch} {e : Env} {s : State} {m : MethodId} {b : Nat} {below : List Frame} {meth : Method} {c : Code} {D : va_G} {cy : Nat → ClassId} {am : Nat → Nat} {o a0 L : Nat} {xs : Nat → Int32} {k n i : Nat} (K : lwC p l e s m b below meth c D cy L xs) (hi : i + 6 ≤ L) (hk : k + 5 ≤ 601024) (hn : n + 48 ≤ 7293034) (kk : lwL p l e s m b below meth c D cy am o a0 (k + 5) (n + 48) i 1171) : lwL p l e s m b below meth c D cy am o a0 k n i 638 := by
  obtain ⟨hl0, C0, hX, hbl, hL⟩ := K
  intro ad nl ns par Rl d mm f ha hJ hok
  subst ha
  have hbA : ¬ (fun q : Nat => s.heap.size ≤ q) b := Nat.not_le.mpr hbl
  obtain ⟨⟨e0, h8, e7, h1, h9⟩, htr, -, -, -, hcg, hrt⟩ := id hJ.1
  have hcode := hJ.1.code
  have h0a := hJ.1.ah0
  obtain ⟨hln, hwd, hfk⟩ := id hJ.2
  refine vl_aload_n C0 dL_law_638 1 rfl ?_
  refine vl_aload_n C0 dL_law_639 0 rfl ?_
  refine vl_iload C0 dL_law_640 4 rfl ?_
  refine vl_iconst (v := 1) C0 dL_law_642 (by decide) ?_
  refine vl_iadd C0 dL_law_643 ?_
  refine vl_sx C0 hX hbl hbA hL (j := i + 1) (nI_add i 1) (by omega) dL_law_644 ?_
  refine vl_aload_n C0 dL_law_645 0 rfl ?_
  refine vl_iload C0 dL_law_646 4 rfl ?_
  refine vl_iconst (v := 2) C0 dL_law_648 (by decide) ?_
  refine vl_iadd C0 dL_law_649 ?_
  refine vl_sx C0 hX hbl hbA hL (j := i + 2) (nI_add i 2) (by omega) dL_law_650 ?_
  refine vl_aload_n C0 dL_law_651 3 rfl ?_
  refine vl_xcalli C0 (vl_goSXH C0 (As := [.ref (ad 0 0), .int (xs (i + 1)), .int (xs (i + 2)), .ref o]) (na := 4) (st := []) gL_law_L_differences rfl rfl rfl (by decide +kernel) ⟨Nat.le_of_ble_eq_true rfl, Nat.le_of_ble_eq_true rfl⟩ dL_law_652 (Nat.le_of_ble_eq_true rfl) ⟨show k + 2 ≤ 601024 by omega, show n + 12 ≤ 7293034 by omega⟩ rfl rfl) (c_L_differences hl0 hok h1 h9 hln htr (xs (i + 1)) (xs (i + 2)) (mm := mm)) (k2 := k + 5) (n2 := n + 48) (show k + 2 ≤ k + 5 by omega) (show n + 12 ≤ n + 48 by omega) (fun E9 hE9 => False.elim hE9) (fun r9 w9 hp9 => ?_)
  rcases hp9 with ⟨rfl, g1, rfl⟩ | ⟨rfl, g1, rfl⟩
  · skip
    refine vl_istore (lv' := [(0, .ref b), (1, .ref (ad 0 0)), (2, .ref (am 0)), (3, .ref o), (4, .int (nI i)), (5, .int 0)]) C0 dL_law_655 [1, 2, 3, 4, 5, 0] (by decide) rfl ?_
    refine vl_aload_n C0 dL_law_657 2 rfl ?_
    refine vl_aload_n C0 dL_law_658 0 rfl ?_
    refine vl_iload C0 dL_law_659 4 rfl ?_
    refine vl_iconst (v := 1) C0 dL_law_661 (by decide) ?_
    refine vl_iadd C0 dL_law_662 ?_
    refine vl_sx C0 hX hbl hbA hL (j := i + 1) (nI_add i 1) (by omega) dL_law_663 ?_
    refine vl_aload_n C0 dL_law_664 0 rfl ?_
    refine vl_iload C0 dL_law_665 4 rfl ?_
    refine vl_iconst (v := 2) C0 dL_law_667 (by decide) ?_
    refine vl_iadd C0 dL_law_668 ?_
    refine vl_sx C0 hX hbl hbA hL (j := i + 2) (nI_add i 2) (by omega) dL_law_669 ?_
    refine vl_perm (pm_in (A := cw cy ad nl ns par Rl d) (o := (o, .inl (cy 4, 1, .inr (.inl (vp_updL f (0 : Int32).toNatClampNeg ((bset (difP (mm 11) par (xs (i + 1)).toNatClampNeg (xs (i + 2)).toNatClampNeg) 30).toInt64)))))) (M := mw cy am mm)) ?_
    refine vl_calli C0 (vl_goV C0 (As := [.int (xs (i + 1)), .int (xs (i + 2))]) (na := 2) (b := am 0) (st := []) (ci := 4) gL_law_X4_differences rfl rfl rfl (by decide +kernel) ⟨Nat.le_of_ble_eq_true rfl, Nat.le_of_ble_eq_true rfl⟩ rfl ⟨0, _, rfl⟩ dL_law_670 (Nat.le_of_ble_eq_true rfl) ⟨show k + 5 + 0 ≤ 601024 by omega, show n + 48 + 0 ≤ 7293034 by omega⟩ rfl rfl) (c_X4_differences hl0 (xs (i + 1)) (xs (i + 2)) e7 h1 h9 htr (mm := mm)) (k2 := k + 5) (n2 := n + 48) (Nat.le_refl _) (Nat.le_refl _) (fun r9 w9 hp9 => ?_)
    obtain ⟨hr9, rfl⟩ := hp9
    have hq := n_differences hJ g1
    have hr9 := hr9.trans hq.2.1
    subst hr9
    refine vl_istore (lv' := [(0, .ref b), (1, .ref (ad 0 0)), (2, .ref (am 0)), (3, .ref o), (4, .int (nI i)), (5, .int 0), (6, .int (bset (difP (mm 11) par (xs (i + 1)).toNatClampNeg (xs (i + 2)).toNatClampNeg) 30))]) C0 dL_law_673 [1, 2, 3, 4, 5, 6, 0] (by decide) rfl ?_
    refine vl_aload_n C0 dL_law_675 2 rfl ?_
    refine vl_calli C0 (vl_goV C0 (As := []) (na := 0) (b := am 0) (st := []) (ci := 4) gL_law_X4_thrown rfl rfl rfl (by decide +kernel) ⟨Nat.le_of_ble_eq_true rfl, Nat.le_of_ble_eq_true rfl⟩ rfl ⟨0, _, rfl⟩ dL_law_676 (Nat.le_of_ble_eq_true rfl) ⟨show k + 5 + 0 ≤ 601024 by omega, show n + 48 + 0 ≤ 7293034 by omega⟩ rfl rfl) (c_X4_thrown hl0 (mm := (sp_differences nl par mm (xs (i + 1)) (xs (i + 2))).2)) (k2 := k + 5) (n2 := n + 48) (Nat.le_refl _) (Nat.le_refl _) (fun t9 w9 hp9 => ?_)
    obtain ⟨ht9, rfl⟩ := hp9
    have ht9 := ht9.trans hq.2.2
    subst ht9
    refine vl_perm (pm_out (A := cw cy ad nl ns par Rl d) (o := (o, .inl (cy 4, 1, .inr (.inl (vp_updL f (0 : Int32).toNatClampNeg ((bset (difP (mm 11) par (xs (i + 1)).toNatClampNeg (xs (i + 2)).toNatClampNeg) 30).toInt64)))))) (M := mw cy am (sp_differences nl par mm (xs (i + 1)) (xs (i + 2))).2)) ?_
    refine vl_iload C0 dL_law_679 5 rfl ?_
    refine vl_icmp_eq (tgt := 686) C0 dL_law_681 (by decide) (fun (h681 : (0 : Int32) = (0 : Int32)) => ?_) (fun (h681 : ¬ (0 : Int32) = (0 : Int32)) => absurd h681 (by decide))
    refine vl_iload C0 dL_law_686 5 rfl ?_
    refine vl_if_ne (tgt := 703) C0 dL_law_688 (by decide) (fun (h688 : ¬ (0 : Int32) = (0 : Int32)) => absurd h688 (by decide)) (fun (h688 : (0 : Int32) = (0 : Int32)) => ?_)
    refine vl_aload_n C0 dL_law_691 3 rfl ?_
    refine vl_iconst (v := 0) C0 dL_law_692 (by decide) ?_
    refine vl_lald C0 (f := (vp_updL f (0 : Int32).toNatClampNeg ((bset (difP (mm 11) par (xs (i + 1)).toNatClampNeg (xs (i + 2)).toNatClampNeg) 30).toInt64))) (i := 0) ⟨_, wy_at (j := 0) rfl⟩ (vp_in_iff.mpr (by decide)) dL_law_693 ?_
    refine vl_st (st2 := [.long ((bset (difP (mm 11) par (xs (i + 1)).toNatClampNeg (xs (i + 2)).toNatClampNeg) 30).toInt64)]) (by rw [updL_s]) ?_
    refine vl_iload C0 dL_law_694 6 rfl ?_
    refine vl_i2l C0 dL_law_696 rfl ?_
    refine vl_lcmp C0 dL_law_697 ?_
    refine vl_if_eq (tgt := 703) C0 dL_law_698 (by decide) (fun (h698 : (lg_cmp ((bset (difP (mm 11) par (xs (i + 1)).toNatClampNeg (xs (i + 2)).toNatClampNeg) 30).toInt64) ((bset (difP (mm 11) par (xs (i + 1)).toNatClampNeg (xs (i + 2)).toNatClampNeg) 30).toInt64) : Int32) = (0 : Int32)) => ?_) (fun (h698 : ¬ (lg_cmp ((bset (difP (mm 11) par (xs (i + 1)).toNatClampNeg (xs (i + 2)).toNatClampNeg) 30).toInt64) ((bset (difP (mm 11) par (xs (i + 1)).toNatClampNeg (xs (i + 2)).toNatClampNeg) 30).toInt64) : Int32) = (0 : Int32)) => absurd (lgc0 rfl) h698)
    refine vl_goto (tgt := 1171) C0 dL_law_703 (by decide) ?_
    refine vl_lv (lv2 := [(0, .ref b), (1, .ref (ad 0 0)), (2, .ref (am 0)), (3, .ref o), (4, .int (nI i))]) [0, 1, 2, 3, 4] rfl ?_
    exact kk ad nl ns par Rl d (sp_differences nl par mm (xs (i + 1)) (xs (i + 2))).2 (vp_updL f (0 : Int32).toNatClampNeg ((bset (difP (mm 11) par (xs (i + 1)).toNatClampNeg (xs (i + 2)).toNatClampNeg) 30).toInt64)) rfl hq.1 hok
  · skip
    refine vl_istore (lv' := [(0, .ref b), (1, .ref (ad 0 0)), (2, .ref (am 0)), (3, .ref o), (4, .int (nI i)), (5, .int 1)]) C0 dL_law_655 [1, 2, 3, 4, 5, 0] (by decide) rfl ?_
    refine vl_aload_n C0 dL_law_657 2 rfl ?_
    refine vl_aload_n C0 dL_law_658 0 rfl ?_
    refine vl_iload C0 dL_law_659 4 rfl ?_
    refine vl_iconst (v := 1) C0 dL_law_661 (by decide) ?_
    refine vl_iadd C0 dL_law_662 ?_
    refine vl_sx C0 hX hbl hbA hL (j := i + 1) (nI_add i 1) (by omega) dL_law_663 ?_
    refine vl_aload_n C0 dL_law_664 0 rfl ?_
    refine vl_iload C0 dL_law_665 4 rfl ?_
    refine vl_iconst (v := 2) C0 dL_law_667 (by decide) ?_
    refine vl_iadd C0 dL_law_668 ?_
    refine vl_sx C0 hX hbl hbA hL (j := i + 2) (nI_add i 2) (by omega) dL_law_669 ?_
    refine vl_perm (pm_in (A := cw cy ad nl ns par Rl d) (o := (o, .inl (cy 4, 1, .inr (.inl f)))) (M := mw cy am mm)) ?_
    refine vl_calli C0 (vl_goV C0 (As := [.int (xs (i + 1)), .int (xs (i + 2))]) (na := 2) (b := am 0) (st := []) (ci := 4) gL_law_X4_differences rfl rfl rfl (by decide +kernel) ⟨Nat.le_of_ble_eq_true rfl, Nat.le_of_ble_eq_true rfl⟩ rfl ⟨0, _, rfl⟩ dL_law_670 (Nat.le_of_ble_eq_true rfl) ⟨show k + 5 + 0 ≤ 601024 by omega, show n + 48 + 0 ≤ 7293034 by omega⟩ rfl rfl) (c_X4_differences hl0 (xs (i + 1)) (xs (i + 2)) e7 h1 h9 htr (mm := mm)) (k2 := k + 5) (n2 := n + 48) (Nat.le_refl _) (Nat.le_refl _) (fun r9 w9 hp9 => ?_)
    obtain ⟨hr9, rfl⟩ := hp9
    have hq : JJ ns nl par (sp_differences nl par mm (xs (i + 1)) (xs (i + 2))).2 d ∧ (sp_differences nl par mm (xs (i + 1)) (xs (i + 2))).2 0 17 = 1 := hJ.t (e_differences_1 g1)
    clear hr9
    refine vl_istore (lv' := [(0, .ref b), (1, .ref (ad 0 0)), (2, .ref (am 0)), (3, .ref o), (4, .int (nI i)), (5, .int 1), (6, .int r9)]) C0 dL_law_673 [1, 2, 3, 4, 5, 6, 0] (by decide) rfl ?_
    refine vl_aload_n C0 dL_law_675 2 rfl ?_
    refine vl_calli C0 (vl_goV C0 (As := []) (na := 0) (b := am 0) (st := []) (ci := 4) gL_law_X4_thrown rfl rfl rfl (by decide +kernel) ⟨Nat.le_of_ble_eq_true rfl, Nat.le_of_ble_eq_true rfl⟩ rfl ⟨0, _, rfl⟩ dL_law_676 (Nat.le_of_ble_eq_true rfl) ⟨show k + 5 + 0 ≤ 601024 by omega, show n + 48 + 0 ≤ 7293034 by omega⟩ rfl rfl) (c_X4_thrown hl0 (mm := (sp_differences nl par mm (xs (i + 1)) (xs (i + 2))).2)) (k2 := k + 5) (n2 := n + 48) (Nat.le_refl _) (Nat.le_refl _) (fun t9 w9 hp9 => ?_)
    obtain ⟨ht9, rfl⟩ := hp9
    have ht9 := ht9.trans hq.2
    subst ht9
    refine vl_perm (pm_out (A := cw cy ad nl ns par Rl d) (o := (o, .inl (cy 4, 1, .inr (.inl f)))) (M := mw cy am (sp_differences nl par mm (xs (i + 1)) (xs (i + 2))).2)) ?_
    refine vl_iload C0 dL_law_679 5 rfl ?_
    refine vl_icmp_eq (tgt := 686) C0 dL_law_681 (by decide) (fun (h681 : (1 : Int32) = (1 : Int32)) => ?_) (fun (h681 : ¬ (1 : Int32) = (1 : Int32)) => absurd h681 (by decide))
    refine vl_iload C0 dL_law_686 5 rfl ?_
    refine vl_if_ne (tgt := 703) C0 dL_law_688 (by decide) (fun (h688 : ¬ (1 : Int32) = (0 : Int32)) => ?_) (fun (h688 : (1 : Int32) = (0 : Int32)) => absurd h688 (by decide))
    refine vl_goto (tgt := 1171) C0 dL_law_703 (by decide) ?_
    refine vl_lv (lv2 := [(0, .ref b), (1, .ref (ad 0 0)), (2, .ref (am 0)), (3, .ref o), (4, .int (nI i))]) [0, 1, 2, 3, 4] rfl ?_
    exact kk ad nl ns par Rl d (sp_differences nl par mm (xs (i + 1)) (xs (i + 2))).2 f rfl hq.1 hok
