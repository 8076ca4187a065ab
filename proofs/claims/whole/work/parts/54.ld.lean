/-! THE LAW'S LOOP, AND WHAT THE LAW STARTS FROM -/
section VL7
variable {p : Program} {l : Launch} {e : Env} {s : State} {m : MethodId} {b : Nat} {below : List Frame} {meth : Method} {c : Code} {D : va_G} {cy : Nat → ClassId} {am : Nat → Nat} {o a0 L : Nat} {xs : Nat → Int32}
set_option maxHeartbeats 4000000 in
set_option maxRecDepth 100000 in
theorem law_iter {k n i : Nat} (K : lwC p l e s m b below meth c D cy L xs) (hr : meth.sig.returnType = ret) (hiL : i ≤ L) (hk0 : k ≤ 601024) (hn0 : n ≤ 7293034) (kk : i + 6 ≤ L → (k + 5 ≤ 601024 ∧ n + 48 ≤ 7293034) ∧ lwL p l e s m b below meth c D cy am o a0 (k + 5) (n + 48) i 1171) : lwL p l e s m b below meth c D cy am o a0 k n i 23 := by
  obtain ⟨hl0, C0, hX, hbl, hL⟩ := id K
  intro ad nl ns par Rl d mm f ha hJ hok
  have hbA : ¬ (fun q : Nat => s.heap.size ≤ q) b := Nat.not_le.mpr hbl
  refine vl_iload C0 dL_law_23 4 rfl ?_
  refine vl_aload_n C0 dL_law_25 0 rfl ?_
  refine vl_slen C0 hX hbl hbA dL_law_26 ?_
  refine vl_bipush (v := 6) C0 dL_law_27 (by decide) ?_
  refine vl_isub C0 dL_law_29 ?_
  refine vl_icmp_gt (tgt := 1177) C0 dL_law_30 (by decide) (fun (h30 : nI L - 6 < nI i) => ?_) (fun (h30 : ¬ nI L - 6 < nI i) => ?_)
  · refine vl_iconst (v := 1) C0 dL_law_1177 (by decide) ?_
    exact vl_lwret C0 hr hk0 hn0 dL_law_1178
  · have h6 := sc_end hL (by omega) h30
    obtain ⟨⟨hk, hn⟩, kk⟩ := kk h6
    refine vl_aload_n C0 dL_law_33 0 rfl ?_
    refine vl_iload C0 dL_law_34 4 rfl ?_
    refine vl_sx C0 hX hbl hbA hL (j := i) rfl (by omega) dL_law_36 ?_
    refine vl_bipush (v := 15) C0 dL_law_37 (by decide) ?_
    refine vl_iand C0 dL_law_39 ?_
    obtain ⟨j, hj, e15⟩ := and15 (xs i)
    refine vl_st (st2 := [.int (nI j)]) (by rw [e15]) ?_
    rcases (show j = 0 ∨ j = 1 ∨ j = 2 ∨ j = 3 ∨ j = 4 ∨ j = 5 ∨ j = 6 ∨ j = 7 ∨ j = 8 ∨ j = 9 ∨ j = 10 ∨ j = 11 ∨ j = 12 ∨ j = 13 ∨ j = 14 ∨ j = 15 by omega) with rfl | rfl | rfl | rfl | rfl | rfl | rfl | rfl | rfl | rfl | rfl | rfl | rfl | rfl | rfl | rfl
    · refine vl_tableIn (off := 80) (tgt := 120) C0 dL_law_40 (by decide) (by decide) (by decide) (by decide) ?_
      exact law_addShip K h6 hk hn kk ad nl ns par Rl d mm f ha hJ hok
    · refine vl_tableIn (off := 160) (tgt := 200) C0 dL_law_40 (by decide) (by decide) (by decide) (by decide) ?_
      exact law_setRate K h6 hk hn kk ad nl ns par Rl d mm f ha hJ hok
    · refine vl_tableIn (off := 228) (tgt := 268) C0 dL_law_40 (by decide) (by decide) (by decide) (by decide) ?_
      exact law_setRules K h6 hk hn kk ad nl ns par Rl d mm f ha hJ hok
    · refine vl_tableIn (off := 276) (tgt := 316) C0 dL_law_40 (by decide) (by decide) (by decide) (by decide) ?_
      exact law_fork K h6 hk hn kk ad nl ns par Rl d mm f ha hJ hok
    · refine vl_tableIn (off := 344) (tgt := 384) C0 dL_law_40 (by decide) (by decide) (by decide) (by decide) ?_
      exact law_order K h6 hk hn kk ad nl ns par Rl d mm f ha hJ hok
    · refine vl_tableIn (off := 455) (tgt := 495) C0 dL_law_40 (by decide) (by decide) (by decide) (by decide) ?_
      exact law_takeAway K h6 hk hn kk ad nl ns par Rl d mm f ha hJ hok
    · refine vl_tableIn (off := 530) (tgt := 570) C0 dL_law_40 (by decide) (by decide) (by decide) (by decide) ?_
      exact law_orderOf K h6 hk hn kk ad nl ns par Rl d mm f ha hJ hok
    · refine vl_tableIn (off := 598) (tgt := 638) C0 dL_law_40 (by decide) (by decide) (by decide) (by decide) ?_
      exact law_differences K h6 hk hn kk ad nl ns par Rl d mm f ha hJ hok
    · refine vl_tableIn (off := 666) (tgt := 706) C0 dL_law_40 (by decide) (by decide) (by decide) (by decide) ?_
      exact law_where K h6 hk hn kk ad nl ns par Rl d mm f ha hJ hok
    · refine vl_tableIn (off := 746) (tgt := 786) C0 dL_law_40 (by decide) (by decide) (by decide) (by decide) ?_
      exact law_cargo K h6 hk hn kk ad nl ns par Rl d mm f ha hJ hok
    · refine vl_tableIn (off := 826) (tgt := 866) C0 dL_law_40 (by decide) (by decide) (by decide) (by decide) ?_
      exact law_failures K h6 hk hn kk ad nl ns par Rl d mm f ha hJ hok
    · refine vl_tableIn (off := 882) (tgt := 922) C0 dL_law_40 (by decide) (by decide) (by decide) (by decide) ?_
      exact law_look K h6 hk hn kk ad nl ns par Rl d mm f ha hJ hok
    · refine vl_tableIn (off := 950) (tgt := 990) C0 dL_law_40 (by decide) (by decide) (by decide) (by decide) ?_
      exact law_seen K h6 hk hn kk ad nl ns par Rl d mm f ha hJ hok
    · refine vl_tableIn (off := 1006) (tgt := 1046) C0 dL_law_40 (by decide) (by decide) (by decide) (by decide) ?_
      exact law_ahead K h6 hk hn kk ad nl ns par Rl d mm f ha hJ hok
    · refine vl_tableIn (off := 1062) (tgt := 1102) C0 dL_law_40 (by decide) (by decide) (by decide) (by decide) ?_
      exact law_mark K h6 hk hn kk ad nl ns par Rl d mm f ha hJ hok
    · refine vl_tableIn (off := 1118) (tgt := 1158) C0 dL_law_40 (by decide) (by decide) (by decide) (by decide) ?_
      exact law_best K h6 hk hn kk ad nl ns par Rl d mm f ha hJ hok
theorem law_loop (K : lwC p l e s m b below meth c D cy L xs) (hr : meth.sig.returnType = ret) : ∀ (N k n i : Nat), L ≤ i + 6 * N → i ≤ L → k + 5 * N ≤ 601024 → n + 48 * N ≤ 7293034 → lwL p l e s m b below meth c D cy am o a0 k n i 23 := by
  intro N
  induction N with
  | zero =>
    intro k n i h1 h2 h3 h4
    exact law_iter K hr h2 (by omega) (by omega) (fun h6 => absurd h6 (by omega))
  | succ N ih =>
    intro k n i h1 h2 h3 h4
    refine law_iter K hr h2 (by omega) (by omega) (fun h6 => ⟨⟨by omega, by omega⟩, ?_⟩)
    intro ad nl ns par Rl d mm f ha hJ hok
    obtain ⟨hl0, C0, hX, hbl, hL⟩ := id K
    refine vl_iinc (v := nI (i + 6)) (lv' := [(0, .ref b), (1, .ref a0), (2, .ref (am 0)), (3, .ref o), (4, .int (nI (i + 6)))]) C0 dL_law_1171 4 rfl (by rw [show Int32.ofInt 6 = nI 6 by decide]; exact nI_add i 6) [1, 2, 3, 4, 0] (by decide) rfl ?_
    refine vl_goto (tgt := 23) C0 dL_law_1174 (by decide) ?_
    exact ih (k + 5) (n + 48) (i + 6) (by omega) (by omega) (by omega) (by omega) ad nl ns par Rl d mm f ha hJ hok
theorem nf_in : ∀ q ∈ vl_nf, Cond.fieldLinkNest q.1 q.2.1 q.2.2.1 q.2.2.2.1 q.2.2.2.2 "MooringTree" ∈ lw_tbl := by decide +kernel
theorem nm_in : ∀ q ∈ vl_nm, Cond.methodLinkNest q.1 q.2.1 q.2.2 "MooringTree" ∈ lw_tbl := by decide +kernel
theorem st_in : ∀ q ∈ vl_strs, Cond.stringRef "MooringTree" q.1 q.2 ∈ lw_tbl := by decide +kernel
theorem cs_in : ∀ C ∈ vl_cs, Cond.castable C C ∈ lw_tbl := by decide +kernel
theorem ds_in : ∀ y ∈ vl_ds, Cond.declares y ∈ lw_tbl := by decide +kernel
theorem nc_in : ∀ q ∈ vl_nc, Cond.not (.castable q.1 q.2) ∈ flatC (Jvm.Cond.and given_1 narrow_1) := by decide +kernel
theorem law_C (hl0 : l.stackTraces = false) (C0 : lw_At p s m meth c b L xs) : ∃ (D : va_G) (cy : Nat → ClassId), vl_C l p m meth c code 7 s #[Value.ref b] wsL_law RL D cy (fun q : Nat => s.heap.size ≤ q) := by
  obtain ⟨hx, hb, hr, hml, hown, hts, hX, hbl, hlocks, hgv⟩ := C0
  have hfl := flat_of_before _ hgv
  obtain ⟨c0, iS0, hKn0⟩ := u_known (C := RX0) (T := TX0) (N := 7) (n := 7) hts inX0 (hts (.instantiable RX0 7) (by decide +kernel))
  obtain ⟨c1, iS1, hKn1⟩ := u_known (C := RX1) (T := TX1) (N := 6) (n := 6) hts inX1 (hts (.instantiable RX1 6) (by decide +kernel))
  obtain ⟨c2, iS2, hKn2⟩ := u_known (C := RX2) (T := TX2) (N := 5) (n := 5) hts inX2 (hts (.instantiable RX2 5) (by decide +kernel))
  obtain ⟨c3, iS3, hKn3⟩ := u_known (C := RX3) (T := TX3) (N := 4) (n := 4) hts inX3 (hts (.instantiable RX3 4) (by decide +kernel))
  obtain ⟨c4, iS4, hKn4⟩ := u_known (C := RX4) (T := TX4) (N := 18) (n := 18) hts inX4 (hts (.instantiable RX4 18) (by decide +kernel))
  obtain ⟨a0, k0, m0, f00, f01, f02⟩ := Cond.arrayClass_spec (hts (.arrayClass .int) (by decide +kernel))
  obtain ⟨a1, k1, m1, f10, f11, f12⟩ := Cond.arrayClass_spec (hts (.arrayClass .boolean) (by decide +kernel))
  obtain ⟨m2, a2, k2, f20, f21, f22, f23, f24⟩ := Cond.arrayOver_spec (hts (.arrayOver (.object RX1)) (by decide +kernel))
  obtain ⟨m3, a3, k3, f30, f31, f32, f33, f34⟩ := Cond.arrayOver_spec (hts (.arrayOver (.object RX2)) (by decide +kernel))
  obtain ⟨a4, k4, m4, f40, f41, f42⟩ := Cond.arrayClass_spec (hts (.arrayClass .long) (by decide +kernel))
  refine ⟨(fun k => if k = 0 then c0 else if k = 1 then c1 else if k = 2 then c2 else if k = 3 then c3 else c4, fun k => if k = 0 then iS0 else if k = 1 then iS1 else if k = 2 then iS2 else if k = 3 then iS3 else iS4), fun k => if k = 0 then a0 else if k = 1 then a1 else if k = 2 then a2 else if k = 3 then a3 else a4, ⟨hx, hb, hml, hown, fun w h => hts w (wsL_law_in w h)⟩, ⟨?_, ?_⟩, fun _ h => h, ⟨fun q hq => va_Nw.of rfl (hts _ (nf_in q hq)), fun q hq => va_Nw.of rfl (hts _ (nm_in q hq)), fun q hq => ?_, va_AO.of (hts (.arrayOver (.object RX1)) (by decide +kernel)), va_AO.of (hts (.arrayOver (.object RX2)) (by decide +kernel)), fun C hC => va_Nw.of rfl (hts _ (cs_in C hC)), fun y hy => va_Nw.of rfl (hts _ (ds_in y hy)), fun q hq => va_Nc.of (hfl _ (nc_in q hq))⟩, ⟨vx_Zqof (hts (.laysStatic Bundle.tN "UNASSIGNED_STACK" Bundle.steD) (by decide +kernel)) (hts (.initialized Bundle.tN) (by decide +kernel)) (hfl (.isRef (.static Bundle.tN "UNASSIGNED_STACK" Bundle.steD)) (by decide +kernel)) (fun a h => Nat.not_le.mpr h), vx_Zqof (hts (.laysStatic Bundle.tN "SUPPRESSED_SENTINEL" Bundle.listD) (by decide +kernel)) (hts (.initialized Bundle.tN) (by decide +kernel)) (hfl (.isRef (.static Bundle.tN "SUPPRESSED_SENTINEL" Bundle.listD)) (by decide +kernel)) (fun a h => Nat.not_le.mpr h)⟩, hlocks, hl0⟩
  · intro k q hq
    match k, hq with
    | 0, hq => cases hq; exact hKn0
    | 1, hq => cases hq; exact hKn1
    | 2, hq => cases hq; exact hKn2
    | 3, hq => cases hq; exact hKn3
    | 4, hq => cases hq; exact hKn4
    | k + 5, hq => simp [vwCl] at hq
  · intro k q hq
    match k, hq with
    | 0, hq => cases hq; exact ⟨fun N z => ⟨fun k h => (by cases h), k0, f01, m0, f02⟩, f00⟩
    | 1, hq => cases hq; exact ⟨fun N z => ⟨fun k h => (by cases h), k1, f11, m1, f12⟩, f10⟩
    | 2, hq => cases hq; exact ⟨fun N z => ⟨fun k h => (by cases h), k2, f22, m2, f23⟩, k2, m2, f22, f23, f20, f24⟩
    | 3, hq => cases hq; exact ⟨fun N z => ⟨fun k h => (by cases h), k3, f32, m3, f33⟩, k3, m3, f32, f33, f30, f34⟩
    | 4, hq => cases hq; exact ⟨fun N z => ⟨fun k h => (by cases h), k4, f41, m4, f42⟩, f40⟩
    | k + 5, hq => simp [vl_T] at hq
  · obtain ⟨k, cf, i, a, -, -, -, -, -, hev⟩ := Cond.stringRef_spec (show s.vm.findClass "MooringTree" = some c3 from hKn3.2.1) (hts _ (st_in q hq))
    exact ⟨a, vk_R.of (hts _ (st_in q hq)) hev⟩
end VL7
