section LSteps
variable {G : GG} {p : Program} {l : Launch} {e : Env} {s : State} {m : MethodId} {args : Array Value} {below : List Frame} {meth : Method} {c : Code} {Q : State → Prop} {x : XS} {a : AS} {w : Int64} {nc ns n i : Nat} {xs : Nat → Int32}
set_option maxHeartbeats 8000000 in
set_option maxRecDepth 20000 in
theorem s_slept (C : CL mLaw [] G p l s m args meth c) (S : SX G s n xs) (hi : i + 7 ≤ n) (hC : RC x a) (hR : RRf x a) (hA : AI a) (hb : nc + 1 ≤ 601024 ∧ ns + 6 ≤ 7293034) (k : KN G p l e s m args below meth c Q i nc ns) : PL mLaw G p l e room_1 s m args below meth c Q 1114 (LI i) [] x w nc ns := by
  refine l_aload_n (k9 := 1) C (by decide +kernel) rfl rfl ?_
  refine l_arg (i := i) (j := 1) C S (by omega) ⟨by decide +kernel, by decide +kernel, by decide +kernel, by decide +kernel, by decide +kernel⟩ (by decide) rfl rfl ?_
  refine l_aload_n (k9 := 3) C (by decide +kernel) rfl rfl ?_
  refine l_callW (M' := mW_slept) (hh' := hW_slept) (as := [.ref 0, .int (xs (i + 1)), .ref 200]) (rest := []) (idx := 178) C (w_slept hC hA) msw_slept (ws_t 934 rfl rfl) ⟨by decide, by decide⟩ hb (by decide +kernel) rfl (by decide) ?_
  intro cd w' y hp
  obtain ⟨hC1, hI1, hm1⟩ := hp
  refine l_istore (i := 5) C (by decide +kernel) (by decide) ?_
  refine l_aload_n (k9 := 2) C (by decide +kernel) rfl rfl ?_
  refine l_arg (i := i) (j := 1) C S (by omega) ⟨by decide +kernel, by decide +kernel, by decide +kernel, by decide +kernel, by decide +kernel⟩ (by decide) rfl rfl ?_
  refine l_callX (M' := mX10_slept) (as := [.int (xs (i + 1))]) (rest := []) (idx := 180) C (g_slept (hR.hi hI1) hA) mv_X10_slept (ws_t 1616 rfl rfl) ⟨by decide, by decide⟩ hb (by decide +kernel) rfl rfl rfl rfl (by decide) (fun E x' h => h.elim) ?_
  intro v z hp
  obtain ⟨hR2, hL2, hm2⟩ := hp
  have hC2 := hC1.lo hL2
  cases hr : oSlept a (xs (i + 1)) with
  | ok u =>
    rw [hr] at hm1 hm2
    obtain ⟨rfl, rfl⟩ := hm1
    obtain ⟨rfl, h0⟩ := hm2
    refine l_istore (i := 6) C (by decide +kernel) (by decide) ?_
    refine tail_A (T := 1139) (t := 1167) (off := 15) (cd := nI 0) C (by decide +kernel) (by decide +kernel) (by decide +kernel) (by decide +kernel) (by decide +kernel) (by decide +kernel) (by decide) rfl rfl hb h0 (fun _ => ?_) (fun q => absurd rfl q)
    refine tail_B (T := 1155) (t := 1167) C (by decide +kernel) (by decide +kernel) (by decide +kernel) (by decide +kernel) (by decide +kernel) (by decide +kernel) (by decide +kernel) (by decide) rfl rfl rfl ?_
    refine l_goto (off := 1428) (tgt := 2595) C (by decide +kernel) (by decide) ?_
    exact PL.loc (L' := LI i) ⟨rfl, rfl, rfl, rfl, rfl, trivial⟩ (k z _ _ hC2 hR2 (AI.bp hA))
  | error e9 =>
    rw [hr] at hm1 hm2
    subst hm1
    obtain ⟨⟨u, rfl⟩, h0⟩ := hm2
    refine l_istore (i := 6) C (by decide +kernel) (by decide) ?_
    refine tail_A (T := 1139) (t := 1167) (off := 15) (cd := nI (if e9 = 0 then 1 else 1)) C (by decide +kernel) (by decide +kernel) (by decide +kernel) (by decide +kernel) (by decide +kernel) (by decide +kernel) (by decide) rfl rfl hb h0 (fun q => absurd q (er_nz (Or.inl rfl))) (fun _ => ?_)
    refine l_goto (off := 1428) (tgt := 2595) C (by decide +kernel) (by decide) ?_
    exact PL.loc (L' := LI i) ⟨rfl, rfl, rfl, rfl, rfl, trivial⟩ (k z _ _ hC2 hR2 (AI.bp hA))
set_option maxHeartbeats 8000000 in
set_option maxRecDepth 20000 in
theorem s_sleeps (C : CL mLaw [] G p l s m args meth c) (S : SX G s n xs) (hi : i + 7 ≤ n) (hC : RC x a) (hR : RRf x a) (hA : AI a) (hb : nc + 1 ≤ 601024 ∧ ns + 6 ≤ 7293034) (k : KN G p l e s m args below meth c Q i nc ns) : PL mLaw G p l e room_1 s m args below meth c Q 1170 (LI i) [] x w nc ns := by
  refine l_aload_n (k9 := 1) C (by decide +kernel) rfl rfl ?_
  refine l_arg (i := i) (j := 1) C S (by omega) ⟨by decide +kernel, by decide +kernel, by decide +kernel, by decide +kernel, by decide +kernel⟩ (by decide) rfl rfl ?_
  refine l_arg (i := i) (j := 2) C S (by omega) ⟨by decide +kernel, by decide +kernel, by decide +kernel, by decide +kernel, by decide +kernel⟩ (by decide) rfl rfl ?_
  refine l_aload_n (k9 := 3) C (by decide +kernel) rfl rfl ?_
  refine l_callW (M' := mW_sleeps) (hh' := hW_sleeps) (as := [.ref 0, .int (xs (i + 1)), .int (xs (i + 2)), .ref 200]) (rest := []) (idx := 181) C (w_sleeps hC hA) msw_sleeps (ws_t 946 rfl rfl) ⟨by decide, by decide⟩ hb (by decide +kernel) rfl (by decide) ?_
  intro cd w' y hp
  obtain ⟨hC1, hI1, hm1⟩ := hp
  refine l_istore (i := 5) C (by decide +kernel) (by decide) ?_
  refine l_aload_n (k9 := 2) C (by decide +kernel) rfl rfl ?_
  refine l_arg (i := i) (j := 1) C S (by omega) ⟨by decide +kernel, by decide +kernel, by decide +kernel, by decide +kernel, by decide +kernel⟩ (by decide) rfl rfl ?_
  refine l_arg (i := i) (j := 2) C S (by omega) ⟨by decide +kernel, by decide +kernel, by decide +kernel, by decide +kernel, by decide +kernel⟩ (by decide) rfl rfl ?_
  refine l_callX (M' := mX10_sleeps) (as := [.int (xs (i + 1)), .int (xs (i + 2))]) (rest := []) (idx := 183) C (g_sleeps (hR.hi hI1) hA) mv_X10_sleeps (ws_t 1627 rfl rfl) ⟨by decide, by decide⟩ hb (by decide +kernel) rfl rfl rfl rfl (by decide) (fun E x' h => h.elim) ?_
  intro v z hp
  obtain ⟨hR2, hL2, hm2⟩ := hp
  have hC2 := hC1.lo hL2
  cases hr : oSleeps a (xs (i + 1)) (xs (i + 2)) with
  | ok u =>
    rw [hr] at hm1 hm2
    obtain ⟨rfl, rfl⟩ := hm1
    obtain ⟨rfl, h0⟩ := hm2
    refine l_istore (i := 6) C (by decide +kernel) (by decide) ?_
    refine tail_A (T := 1207) (t := 1235) (off := 15) (cd := nI 0) C (by decide +kernel) (by decide +kernel) (by decide +kernel) (by decide +kernel) (by decide +kernel) (by decide +kernel) (by decide) rfl rfl hb h0 (fun _ => ?_) (fun q => absurd rfl q)
    refine tail_B (T := 1223) (t := 1235) C (by decide +kernel) (by decide +kernel) (by decide +kernel) (by decide +kernel) (by decide +kernel) (by decide +kernel) (by decide +kernel) (by decide) rfl rfl rfl ?_
    refine l_goto (off := 1360) (tgt := 2595) C (by decide +kernel) (by decide) ?_
    exact PL.loc (L' := LI i) ⟨rfl, rfl, rfl, rfl, rfl, trivial⟩ (k z _ _ hC2 hR2 (AI.bp hA))
  | error e9 =>
    rw [hr] at hm1 hm2
    subst hm1
    obtain ⟨⟨u, rfl⟩, h0⟩ := hm2
    refine l_istore (i := 6) C (by decide +kernel) (by decide) ?_
    refine tail_A (T := 1207) (t := 1235) (off := 15) (cd := nI (if e9 = 0 then 1 else 2)) C (by decide +kernel) (by decide +kernel) (by decide +kernel) (by decide +kernel) (by decide +kernel) (by decide +kernel) (by decide) rfl rfl hb h0 (fun q => absurd q (er_nz (Or.inr rfl))) (fun _ => ?_)
    refine l_goto (off := 1360) (tgt := 2595) C (by decide +kernel) (by decide) ?_
    exact PL.loc (L' := LI i) ⟨rfl, rfl, rfl, rfl, rfl, trivial⟩ (k z _ _ hC2 hR2 (AI.bp hA))
set_option maxHeartbeats 8000000 in
set_option maxRecDepth 20000 in
theorem s_most (C : CL mLaw [] G p l s m args meth c) (S : SX G s n xs) (hi : i + 7 ≤ n) (hC : RC x a) (hR : RRf x a) (hA : AI a) (hb : nc + 1 ≤ 601024 ∧ ns + 6 ≤ 7293034) (k : KN G p l e s m args below meth c Q i nc ns) : PL mLaw G p l e room_1 s m args below meth c Q 1238 (LI i) [] x w nc ns := by
  refine l_aload_n (k9 := 1) C (by decide +kernel) rfl rfl ?_
  refine l_arg (i := i) (j := 1) C S (by omega) ⟨by decide +kernel, by decide +kernel, by decide +kernel, by decide +kernel, by decide +kernel⟩ (by decide) rfl rfl ?_
  refine l_aload_n (k9 := 3) C (by decide +kernel) rfl rfl ?_
  refine l_callW (M' := mW_most) (hh' := hW_most) (as := [.ref 0, .int (xs (i + 1)), .ref 200]) (rest := []) (idx := 184) C (w_most hC hA) msw_most (ws_t 958 rfl rfl) ⟨by decide, by decide⟩ hb (by decide +kernel) rfl (by decide) ?_
  intro cd w' y hp
  obtain ⟨hC1, hI1, hm1⟩ := hp
  refine l_istore (i := 5) C (by decide +kernel) (by decide) ?_
  refine l_aload_n (k9 := 2) C (by decide +kernel) rfl rfl ?_
  refine l_arg (i := i) (j := 1) C S (by omega) ⟨by decide +kernel, by decide +kernel, by decide +kernel, by decide +kernel, by decide +kernel⟩ (by decide) rfl rfl ?_
  refine l_callX (M' := mX10_most) (as := [.int (xs (i + 1))]) (rest := []) (idx := 186) C (g_most (hR.hi hI1) hA) mv_X10_most (ws_t 1635 rfl rfl) ⟨by decide, by decide⟩ hb (by decide +kernel) rfl rfl rfl rfl (by decide) (fun E x' h => h.elim) ?_
  intro v z hp
  obtain ⟨hR2, hL2, hm2⟩ := hp
  have hC2 := hC1.lo hL2
  cases hr : oMost a (xs (i + 1)) with
  | ok u =>
    rw [hr] at hm1 hm2
    obtain ⟨rfl, rfl⟩ := hm1
    obtain ⟨rfl, h0⟩ := hm2
    refine l_istore (i := 6) C (by decide +kernel) (by decide) ?_
    refine tail_A (T := 1263) (t := 1291) (off := 15) (cd := nI 0) C (by decide +kernel) (by decide +kernel) (by decide +kernel) (by decide +kernel) (by decide +kernel) (by decide +kernel) (by decide) rfl rfl hb h0 (fun _ => ?_) (fun q => absurd rfl q)
    refine tail_B (T := 1279) (t := 1291) C (by decide +kernel) (by decide +kernel) (by decide +kernel) (by decide +kernel) (by decide +kernel) (by decide +kernel) (by decide +kernel) (by decide) rfl rfl rfl ?_
    refine l_goto (off := 1304) (tgt := 2595) C (by decide +kernel) (by decide) ?_
    exact PL.loc (L' := LI i) ⟨rfl, rfl, rfl, rfl, rfl, trivial⟩ (k z _ _ hC2 hR2 (AI.bp hA))
  | error e9 =>
    rw [hr] at hm1 hm2
    subst hm1
    obtain ⟨⟨u, rfl⟩, h0⟩ := hm2
    refine l_istore (i := 6) C (by decide +kernel) (by decide) ?_
    refine tail_A (T := 1263) (t := 1291) (off := 15) (cd := nI (if e9 = 0 then 1 else 1)) C (by decide +kernel) (by decide +kernel) (by decide +kernel) (by decide +kernel) (by decide +kernel) (by decide +kernel) (by decide) rfl rfl hb h0 (fun q => absurd q (er_nz (Or.inl rfl))) (fun _ => ?_)
    refine l_goto (off := 1304) (tgt := 2595) C (by decide +kernel) (by decide) ?_
    exact PL.loc (L' := LI i) ⟨rfl, rfl, rfl, rfl, rfl, trivial⟩ (k z _ _ hC2 hR2 (AI.bp hA))
set_option maxHeartbeats 8000000 in
set_option maxRecDepth 20000 in
theorem s_head (C : CL mLaw [] G p l s m args meth c) (S : SX G s n xs) (hi : i + 7 ≤ n) (hC : RC x a) (hR : RRf x a) (hA : AI a) (hb : nc + 1 ≤ 601024 ∧ ns + 6 ≤ 7293034) (k : KN G p l e s m args below meth c Q i nc ns) : PL mLaw G p l e room_1 s m args below meth c Q 1294 (LI i) [] x w nc ns := by
  refine l_aload_n (k9 := 1) C (by decide +kernel) rfl rfl ?_
  refine l_arg (i := i) (j := 1) C S (by omega) ⟨by decide +kernel, by decide +kernel, by decide +kernel, by decide +kernel, by decide +kernel⟩ (by decide) rfl rfl ?_
  refine l_arg (i := i) (j := 2) C S (by omega) ⟨by decide +kernel, by decide +kernel, by decide +kernel, by decide +kernel, by decide +kernel⟩ (by decide) rfl rfl ?_
  refine l_arg (i := i) (j := 3) C S (by omega) ⟨by decide +kernel, by decide +kernel, by decide +kernel, by decide +kernel, by decide +kernel⟩ (by decide) rfl rfl ?_
  refine l_aload_n (k9 := 3) C (by decide +kernel) rfl rfl ?_
  refine l_callW (M' := mW_head) (hh' := hW_head) (as := [.ref 0, .int (xs (i + 1)), .int (xs (i + 2)), .int (xs (i + 3)), .ref 200]) (rest := []) (idx := 187) C (w_head hC hA) msw_head (ws_t 965 rfl rfl) ⟨by decide, by decide⟩ hb (by decide +kernel) rfl (by decide) ?_
  intro cd w' y hp
  obtain ⟨hC1, hI1, hm1⟩ := hp
  refine l_istore (i := 5) C (by decide +kernel) (by decide) ?_
  refine l_aload_n (k9 := 2) C (by decide +kernel) rfl rfl ?_
  refine l_arg (i := i) (j := 1) C S (by omega) ⟨by decide +kernel, by decide +kernel, by decide +kernel, by decide +kernel, by decide +kernel⟩ (by decide) rfl rfl ?_
  refine l_arg (i := i) (j := 2) C S (by omega) ⟨by decide +kernel, by decide +kernel, by decide +kernel, by decide +kernel, by decide +kernel⟩ (by decide) rfl rfl ?_
  refine l_arg (i := i) (j := 3) C S (by omega) ⟨by decide +kernel, by decide +kernel, by decide +kernel, by decide +kernel, by decide +kernel⟩ (by decide) rfl rfl ?_
  refine l_callX (M' := mX10_head) (as := [.int (xs (i + 1)), .int (xs (i + 2)), .int (xs (i + 3))]) (rest := []) (idx := 190) C (g_head (hR.hi hI1) hA) mv_X10_head (ws_t 1639 rfl rfl) ⟨by decide, by decide⟩ hb (by decide +kernel) rfl rfl rfl rfl (by decide) (fun E x' h => h.elim) ?_
  intro v z hp
  obtain ⟨hR2, hL2, hm2⟩ := hp
  have hC2 := hC1.lo hL2
  cases hr : oHead a (xs (i + 1)) (xs (i + 2)) (xs (i + 3)) with
  | ok u =>
    rw [hr] at hm1 hm2
    obtain ⟨rfl, rfl⟩ := hm1
    obtain ⟨rfl, h0⟩ := hm2
    refine l_istore (i := 6) C (by decide +kernel) (by decide) ?_
    refine tail_A (T := 1343) (t := 1371) (off := 15) (cd := nI 0) C (by decide +kernel) (by decide +kernel) (by decide +kernel) (by decide +kernel) (by decide +kernel) (by decide +kernel) (by decide) rfl rfl hb h0 (fun _ => ?_) (fun q => absurd rfl q)
    refine tail_B (T := 1359) (t := 1371) C (by decide +kernel) (by decide +kernel) (by decide +kernel) (by decide +kernel) (by decide +kernel) (by decide +kernel) (by decide +kernel) (by decide) rfl rfl rfl ?_
    refine l_goto (off := 1224) (tgt := 2595) C (by decide +kernel) (by decide) ?_
    exact PL.loc (L' := LI i) ⟨rfl, rfl, rfl, rfl, rfl, trivial⟩ (k z _ _ hC2 hR2 (AI.bp hA))
  | error e9 =>
    rw [hr] at hm1 hm2
    subst hm1
    obtain ⟨⟨u, rfl⟩, h0⟩ := hm2
    refine l_istore (i := 6) C (by decide +kernel) (by decide) ?_
    refine tail_A (T := 1343) (t := 1371) (off := 15) (cd := nI (if e9 = 0 then 1 else 2)) C (by decide +kernel) (by decide +kernel) (by decide +kernel) (by decide +kernel) (by decide +kernel) (by decide +kernel) (by decide) rfl rfl hb h0 (fun q => absurd q (er_nz (Or.inr rfl))) (fun _ => ?_)
    refine l_goto (off := 1224) (tgt := 2595) C (by decide +kernel) (by decide) ?_
    exact PL.loc (L' := LI i) ⟨rfl, rfl, rfl, rfl, rfl, trivial⟩ (k z _ _ hC2 hR2 (AI.bp hA))
set_option maxHeartbeats 8000000 in
set_option maxRecDepth 20000 in
theorem s_best (C : CL mLaw [] G p l s m args meth c) (S : SX G s n xs) (hi : i + 7 ≤ n) (hC : RC x a) (hR : RRf x a) (hA : AI a) (hb : nc + 1 ≤ 601024 ∧ ns + 6 ≤ 7293034) (k : KN G p l e s m args below meth c Q i nc ns) : PL mLaw G p l e room_1 s m args below meth c Q 1374 (LI i) [] x w nc ns := by
  refine l_aload_n (k9 := 1) C (by decide +kernel) rfl rfl ?_
  refine l_arg (i := i) (j := 1) C S (by omega) ⟨by decide +kernel, by decide +kernel, by decide +kernel, by decide +kernel, by decide +kernel⟩ (by decide) rfl rfl ?_
  refine l_arg (i := i) (j := 2) C S (by omega) ⟨by decide +kernel, by decide +kernel, by decide +kernel, by decide +kernel, by decide +kernel⟩ (by decide) rfl rfl ?_
  refine l_aload_n (k9 := 3) C (by decide +kernel) rfl rfl ?_
  refine l_callW (M' := mW_best) (hh' := hW_best) (as := [.ref 0, .int (xs (i + 1)), .int (xs (i + 2)), .ref 200]) (rest := []) (idx := 191) C (w_best hC hA) msw_best (ws_t 980 rfl rfl) ⟨by decide, by decide⟩ hb (by decide +kernel) rfl (by decide) ?_
  intro cd w' y hp
  obtain ⟨hC1, hI1, hm1⟩ := hp
  refine l_istore (i := 5) C (by decide +kernel) (by decide) ?_
  refine l_aload_n (k9 := 2) C (by decide +kernel) rfl rfl ?_
  refine l_arg (i := i) (j := 1) C S (by omega) ⟨by decide +kernel, by decide +kernel, by decide +kernel, by decide +kernel, by decide +kernel⟩ (by decide) rfl rfl ?_
  refine l_arg (i := i) (j := 2) C S (by omega) ⟨by decide +kernel, by decide +kernel, by decide +kernel, by decide +kernel, by decide +kernel⟩ (by decide) rfl rfl ?_
  refine l_callX (M' := mX10_best) (as := [.int (xs (i + 1)), .int (xs (i + 2))]) (rest := []) (idx := 193) C (g_best (hR.hi hI1) hA) mv_X10_best (ws_t 1647 rfl rfl) ⟨by decide, by decide⟩ hb (by decide +kernel) rfl rfl rfl rfl (by decide) (fun E x' h => h.elim) ?_
  intro v z hp
  obtain ⟨hR2, hL2, hm2⟩ := hp
  have hC2 := hC1.lo hL2
  cases hr : oBest a (xs (i + 1)) (xs (i + 2)) with
  | ok u =>
    rw [hr] at hm1 hm2
    obtain ⟨rfl, rfl⟩ := hm1
    obtain ⟨rfl, h0⟩ := hm2
    refine l_istore (i := 6) C (by decide +kernel) (by decide) ?_
    refine tail_A (T := 1411) (t := 1439) (off := 15) (cd := nI 0) C (by decide +kernel) (by decide +kernel) (by decide +kernel) (by decide +kernel) (by decide +kernel) (by decide +kernel) (by decide) rfl rfl hb h0 (fun _ => ?_) (fun q => absurd rfl q)
    refine tail_B (T := 1427) (t := 1439) C (by decide +kernel) (by decide +kernel) (by decide +kernel) (by decide +kernel) (by decide +kernel) (by decide +kernel) (by decide +kernel) (by decide) rfl rfl rfl ?_
    refine l_goto (off := 1156) (tgt := 2595) C (by decide +kernel) (by decide) ?_
    exact PL.loc (L' := LI i) ⟨rfl, rfl, rfl, rfl, rfl, trivial⟩ (k z _ _ hC2 hR2 (AI.bp hA))
  | error e9 =>
    rw [hr] at hm1 hm2
    subst hm1
    obtain ⟨⟨u, rfl⟩, h0⟩ := hm2
    refine l_istore (i := 6) C (by decide +kernel) (by decide) ?_
    refine tail_A (T := 1411) (t := 1439) (off := 15) (cd := nI (if e9 = 0 then 1 else 2)) C (by decide +kernel) (by decide +kernel) (by decide +kernel) (by decide +kernel) (by decide +kernel) (by decide +kernel) (by decide) rfl rfl hb h0 (fun q => absurd q (er_nz (Or.inr rfl))) (fun _ => ?_)
    refine l_goto (off := 1156) (tgt := 2595) C (by decide +kernel) (by decide) ?_
    exact PL.loc (L' := LI i) ⟨rfl, rfl, rfl, rfl, rfl, trivial⟩ (k z _ _ hC2 hR2 (AI.bp hA))
set_option maxHeartbeats 8000000 in
set_option maxRecDepth 20000 in
theorem s_hurry (C : CL mLaw [] G p l s m args meth c) (S : SX G s n xs) (hi : i + 7 ≤ n) (hC : RC x a) (hR : RRf x a) (hA : AI a) (hb : nc + 1 ≤ 601024 ∧ ns + 6 ≤ 7293034) (k : KN G p l e s m args below meth c Q i nc ns) : PL mLaw G p l e room_1 s m args below meth c Q 1442 (LI i) [] x w nc ns := by
  refine l_aload_n (k9 := 1) C (by decide +kernel) rfl rfl ?_
  refine l_arg (i := i) (j := 1) C S (by omega) ⟨by decide +kernel, by decide +kernel, by decide +kernel, by decide +kernel, by decide +kernel⟩ (by decide) rfl rfl ?_
  refine l_arg (i := i) (j := 2) C S (by omega) ⟨by decide +kernel, by decide +kernel, by decide +kernel, by decide +kernel, by decide +kernel⟩ (by decide) rfl rfl ?_
  refine l_arg (i := i) (j := 3) C S (by omega) ⟨by decide +kernel, by decide +kernel, by decide +kernel, by decide +kernel, by decide +kernel⟩ (by decide) rfl rfl ?_
  refine l_arg (i := i) (j := 4) C S (by omega) ⟨by decide +kernel, by decide +kernel, by decide +kernel, by decide +kernel, by decide +kernel⟩ (by decide) rfl rfl ?_
  refine l_arg (i := i) (j := 5) C S (by omega) ⟨by decide +kernel, by decide +kernel, by decide +kernel, by decide +kernel, by decide +kernel⟩ (by decide) rfl rfl ?_
  refine l_aload_n (k9 := 3) C (by decide +kernel) rfl rfl ?_
  refine l_callW (M' := mW_hurry) (hh' := hW_hurry) (as := [.ref 0, .int (xs (i + 1)), .int (xs (i + 2)), .int (xs (i + 3)), .int (xs (i + 4)), .int (xs (i + 5)), .ref 200]) (rest := []) (idx := 194) C (w_hurry hC hA) msw_hurry (ws_t 987 rfl rfl) ⟨by decide, by decide⟩ hb (by decide +kernel) rfl (by decide) ?_
  intro cd w' y hp
  obtain ⟨hC1, hI1, hm1⟩ := hp
  refine l_istore (i := 5) C (by decide +kernel) (by decide) ?_
  refine l_aload_n (k9 := 2) C (by decide +kernel) rfl rfl ?_
  refine l_arg (i := i) (j := 1) C S (by omega) ⟨by decide +kernel, by decide +kernel, by decide +kernel, by decide +kernel, by decide +kernel⟩ (by decide) rfl rfl ?_
  refine l_arg (i := i) (j := 2) C S (by omega) ⟨by decide +kernel, by decide +kernel, by decide +kernel, by decide +kernel, by decide +kernel⟩ (by decide) rfl rfl ?_
  refine l_arg (i := i) (j := 3) C S (by omega) ⟨by decide +kernel, by decide +kernel, by decide +kernel, by decide +kernel, by decide +kernel⟩ (by decide) rfl rfl ?_
  refine l_arg (i := i) (j := 4) C S (by omega) ⟨by decide +kernel, by decide +kernel, by decide +kernel, by decide +kernel, by decide +kernel⟩ (by decide) rfl rfl ?_
  refine l_arg (i := i) (j := 5) C S (by omega) ⟨by decide +kernel, by decide +kernel, by decide +kernel, by decide +kernel, by decide +kernel⟩ (by decide) rfl rfl ?_
  refine l_callX (M' := mX10_hurry) (as := [.int (xs (i + 1)), .int (xs (i + 2)), .int (xs (i + 3)), .int (xs (i + 4)), .int (xs (i + 5))]) (rest := []) (idx := 196) C (g_hurry (hR.hi hI1) hA) mv_X10_hurry (ws_t 1651 rfl rfl) ⟨by decide, by decide⟩ hb (by decide +kernel) rfl rfl rfl rfl (by decide) (fun E x' h => h.elim) ?_
  intro v z hp
  obtain ⟨hR2, hL2, hm2⟩ := hp
  have hC2 := hC1.lo hL2
  cases hr : oHurry a (xs (i + 1)) (xs (i + 2)) (xs (i + 3)) (xs (i + 4)) (xs (i + 5)) with
  | ok u =>
    rw [hr] at hm1 hm2
    obtain ⟨rfl, rfl⟩ := hm1
    obtain ⟨rfl, h0⟩ := hm2
    refine l_istore (i := 6) C (by decide +kernel) (by decide) ?_
    refine tail_A (T := 1515) (t := 1543) (off := 15) (cd := nI 0) C (by decide +kernel) (by decide +kernel) (by decide +kernel) (by decide +kernel) (by decide +kernel) (by decide +kernel) (by decide) rfl rfl hb h0 (fun _ => ?_) (fun q => absurd rfl q)
    refine tail_B (T := 1531) (t := 1543) C (by decide +kernel) (by decide +kernel) (by decide +kernel) (by decide +kernel) (by decide +kernel) (by decide +kernel) (by decide +kernel) (by decide) rfl rfl rfl ?_
    refine l_goto (off := 1052) (tgt := 2595) C (by decide +kernel) (by decide) ?_
    exact PL.loc (L' := LI i) ⟨rfl, rfl, rfl, rfl, rfl, trivial⟩ (k z _ _ hC2 hR2 (AI.bp hA))
  | error e9 =>
    rw [hr] at hm1 hm2
    subst hm1
    obtain ⟨⟨u, rfl⟩, h0⟩ := hm2
    refine l_istore (i := 6) C (by decide +kernel) (by decide) ?_
    refine tail_A (T := 1515) (t := 1543) (off := 15) (cd := nI (if e9 = 0 then 1 else 2)) C (by decide +kernel) (by decide +kernel) (by decide +kernel) (by decide +kernel) (by decide +kernel) (by decide +kernel) (by decide) rfl rfl hb h0 (fun q => absurd q (er_nz (Or.inr rfl))) (fun _ => ?_)
    refine l_goto (off := 1052) (tgt := 2595) C (by decide +kernel) (by decide) ?_
    exact PL.loc (L' := LI i) ⟨rfl, rfl, rfl, rfl, rfl, trivial⟩ (k z _ _ hC2 hR2 (AI.bp hA))
set_option maxHeartbeats 8000000 in
set_option maxRecDepth 20000 in
theorem s_reads (C : CL mLaw [] G p l s m args meth c) (S : SX G s n xs) (hi : i + 7 ≤ n) (hC : RC x a) (hR : RRf x a) (hA : AI a) (hb : nc + 1 ≤ 601024 ∧ ns + 6 ≤ 7293034) (k : KN G p l e s m args below meth c Q i nc ns) : PL mLaw G p l e room_1 s m args below meth c Q 1546 (LI i) [] x w nc ns := by
  refine l_aload_n (k9 := 1) C (by decide +kernel) rfl rfl ?_
  refine l_arg (i := i) (j := 1) C S (by omega) ⟨by decide +kernel, by decide +kernel, by decide +kernel, by decide +kernel, by decide +kernel⟩ (by decide) rfl rfl ?_
  refine l_arg (i := i) (j := 2) C S (by omega) ⟨by decide +kernel, by decide +kernel, by decide +kernel, by decide +kernel, by decide +kernel⟩ (by decide) rfl rfl ?_
  refine l_arg (i := i) (j := 3) C S (by omega) ⟨by decide +kernel, by decide +kernel, by decide +kernel, by decide +kernel, by decide +kernel⟩ (by decide) rfl rfl ?_
  refine l_arg (i := i) (j := 4) C S (by omega) ⟨by decide +kernel, by decide +kernel, by decide +kernel, by decide +kernel, by decide +kernel⟩ (by decide) rfl rfl ?_
  refine l_arg (i := i) (j := 5) C S (by omega) ⟨by decide +kernel, by decide +kernel, by decide +kernel, by decide +kernel, by decide +kernel⟩ (by decide) rfl rfl ?_
  refine l_aload_n (k9 := 3) C (by decide +kernel) rfl rfl ?_
  refine l_callW (M' := mW_reads) (hh' := hW_reads) (as := [.ref 0, .int (xs (i + 1)), .int (xs (i + 2)), .int (xs (i + 3)), .int (xs (i + 4)), .int (xs (i + 5)), .ref 200]) (rest := []) (idx := 197) C (w_reads hC hA) msw_reads (ws_t 1014 rfl rfl) ⟨by decide, by decide⟩ hb (by decide +kernel) rfl (by decide) ?_
  intro cd w' y hp
  obtain ⟨hC1, hI1, hm1⟩ := hp
  refine l_istore (i := 5) C (by decide +kernel) (by decide) ?_
  refine l_aload_n (k9 := 2) C (by decide +kernel) rfl rfl ?_
  refine l_arg (i := i) (j := 1) C S (by omega) ⟨by decide +kernel, by decide +kernel, by decide +kernel, by decide +kernel, by decide +kernel⟩ (by decide) rfl rfl ?_
  refine l_arg (i := i) (j := 2) C S (by omega) ⟨by decide +kernel, by decide +kernel, by decide +kernel, by decide +kernel, by decide +kernel⟩ (by decide) rfl rfl ?_
  refine l_arg (i := i) (j := 3) C S (by omega) ⟨by decide +kernel, by decide +kernel, by decide +kernel, by decide +kernel, by decide +kernel⟩ (by decide) rfl rfl ?_
  refine l_arg (i := i) (j := 4) C S (by omega) ⟨by decide +kernel, by decide +kernel, by decide +kernel, by decide +kernel, by decide +kernel⟩ (by decide) rfl rfl ?_
  refine l_arg (i := i) (j := 5) C S (by omega) ⟨by decide +kernel, by decide +kernel, by decide +kernel, by decide +kernel, by decide +kernel⟩ (by decide) rfl rfl ?_
  refine l_callX (M' := mX10_reads) (as := [.int (xs (i + 1)), .int (xs (i + 2)), .int (xs (i + 3)), .int (xs (i + 4)), .int (xs (i + 5))]) (rest := []) (idx := 199) C (g_reads (hR.hi hI1) hA) mv_X10_reads (ws_t 1670 rfl rfl) ⟨by decide, by decide⟩ hb (by decide +kernel) rfl rfl rfl rfl (by decide) (fun E x' h => h.elim) ?_
  intro v z hp
  obtain ⟨hR2, hL2, hm2⟩ := hp
  have hC2 := hC1.lo hL2
  cases hr : oReads a (xs (i + 1)) (xs (i + 2)) (xs (i + 3)) (xs (i + 4)) (xs (i + 5)) with
  | ok u =>
    rw [hr] at hm1 hm2
    obtain ⟨rfl, rfl⟩ := hm1
    obtain ⟨rfl, h0⟩ := hm2
    refine l_istore (i := 6) C (by decide +kernel) (by decide) ?_
    refine tail_A (T := 1619) (t := 1647) (off := 15) (cd := nI 0) C (by decide +kernel) (by decide +kernel) (by decide +kernel) (by decide +kernel) (by decide +kernel) (by decide +kernel) (by decide) rfl rfl hb h0 (fun _ => ?_) (fun q => absurd rfl q)
    refine tail_B (T := 1635) (t := 1647) C (by decide +kernel) (by decide +kernel) (by decide +kernel) (by decide +kernel) (by decide +kernel) (by decide +kernel) (by decide +kernel) (by decide) rfl rfl rfl ?_
    refine l_goto (off := 948) (tgt := 2595) C (by decide +kernel) (by decide) ?_
    exact PL.loc (L' := LI i) ⟨rfl, rfl, rfl, rfl, rfl, trivial⟩ (k z _ _ hC2 hR2 (AI.bp hA))
  | error e9 =>
    rw [hr] at hm1 hm2
    subst hm1
    obtain ⟨⟨u, rfl⟩, h0⟩ := hm2
    refine l_istore (i := 6) C (by decide +kernel) (by decide) ?_
    refine tail_A (T := 1619) (t := 1647) (off := 15) (cd := nI (if e9 = 0 then 1 else 2)) C (by decide +kernel) (by decide +kernel) (by decide +kernel) (by decide +kernel) (by decide +kernel) (by decide +kernel) (by decide) rfl rfl hb h0 (fun q => absurd q (er_nz (Or.inr rfl))) (fun _ => ?_)
    refine l_goto (off := 948) (tgt := 2595) C (by decide +kernel) (by decide) ?_
    exact PL.loc (L' := LI i) ⟨rfl, rfl, rfl, rfl, rfl, trivial⟩ (k z _ _ hC2 hR2 (AI.bp hA))
set_option maxHeartbeats 8000000 in
set_option maxRecDepth 20000 in
theorem s_nudges (C : CL mLaw [] G p l s m args meth c) (S : SX G s n xs) (hi : i + 7 ≤ n) (hC : RC x a) (hR : RRf x a) (hA : AI a) (hb : nc + 1 ≤ 601024 ∧ ns + 6 ≤ 7293034) (k : KN G p l e s m args below meth c Q i nc ns) : PL mLaw G p l e room_1 s m args below meth c Q 1650 (LI i) [] x w nc ns := by
  refine l_aload_n (k9 := 1) C (by decide +kernel) rfl rfl ?_
  refine l_arg (i := i) (j := 1) C S (by omega) ⟨by decide +kernel, by decide +kernel, by decide +kernel, by decide +kernel, by decide +kernel⟩ (by decide) rfl rfl ?_
  refine l_arg (i := i) (j := 2) C S (by omega) ⟨by decide +kernel, by decide +kernel, by decide +kernel, by decide +kernel, by decide +kernel⟩ (by decide) rfl rfl ?_
  refine l_arg (i := i) (j := 3) C S (by omega) ⟨by decide +kernel, by decide +kernel, by decide +kernel, by decide +kernel, by decide +kernel⟩ (by decide) rfl rfl ?_
  refine l_arg (i := i) (j := 4) C S (by omega) ⟨by decide +kernel, by decide +kernel, by decide +kernel, by decide +kernel, by decide +kernel⟩ (by decide) rfl rfl ?_
  refine l_aload_n (k9 := 3) C (by decide +kernel) rfl rfl ?_
  refine l_callW (M' := mW_nudges) (hh' := hW_nudges) (as := [.ref 0, .int (xs (i + 1)), .int (xs (i + 2)), .int (xs (i + 3)), .int (xs (i + 4)), .ref 200]) (rest := []) (idx := 200) C (w_nudges hC hA) msw_nudges (ws_t 1021 rfl rfl) ⟨by decide, by decide⟩ hb (by decide +kernel) rfl (by decide) ?_
  intro cd w' y hp
  obtain ⟨hC1, hI1, hm1⟩ := hp
  refine l_istore (i := 5) C (by decide +kernel) (by decide) ?_
  refine l_aload_n (k9 := 2) C (by decide +kernel) rfl rfl ?_
  refine l_arg (i := i) (j := 1) C S (by omega) ⟨by decide +kernel, by decide +kernel, by decide +kernel, by decide +kernel, by decide +kernel⟩ (by decide) rfl rfl ?_
  refine l_arg (i := i) (j := 2) C S (by omega) ⟨by decide +kernel, by decide +kernel, by decide +kernel, by decide +kernel, by decide +kernel⟩ (by decide) rfl rfl ?_
  refine l_arg (i := i) (j := 3) C S (by omega) ⟨by decide +kernel, by decide +kernel, by decide +kernel, by decide +kernel, by decide +kernel⟩ (by decide) rfl rfl ?_
  refine l_arg (i := i) (j := 4) C S (by omega) ⟨by decide +kernel, by decide +kernel, by decide +kernel, by decide +kernel, by decide +kernel⟩ (by decide) rfl rfl ?_
  refine l_callX (M' := mX10_nudges) (as := [.int (xs (i + 1)), .int (xs (i + 2)), .int (xs (i + 3)), .int (xs (i + 4))]) (rest := []) (idx := 203) C (g_nudges (hR.hi hI1) hA) mv_X10_nudges (ws_t 1674 rfl rfl) ⟨by decide, by decide⟩ hb (by decide +kernel) rfl rfl rfl rfl (by decide) (fun E x' h => h.elim) ?_
  intro v z hp
  obtain ⟨hR2, hL2, hm2⟩ := hp
  have hC2 := hC1.lo hL2
  cases hr : oNudges a (xs (i + 1)) (xs (i + 2)) (xs (i + 3)) (xs (i + 4)) with
  | ok u =>
    rw [hr] at hm1 hm2
    obtain ⟨rfl, rfl⟩ := hm1
    obtain ⟨rfl, h0⟩ := hm2
    refine l_istore (i := 6) C (by decide +kernel) (by decide) ?_
    refine tail_A (T := 1711) (t := 1739) (off := 15) (cd := nI 0) C (by decide +kernel) (by decide +kernel) (by decide +kernel) (by decide +kernel) (by decide +kernel) (by decide +kernel) (by decide) rfl rfl hb h0 (fun _ => ?_) (fun q => absurd rfl q)
    refine tail_B (T := 1727) (t := 1739) C (by decide +kernel) (by decide +kernel) (by decide +kernel) (by decide +kernel) (by decide +kernel) (by decide +kernel) (by decide +kernel) (by decide) rfl rfl rfl ?_
    refine l_goto (off := 856) (tgt := 2595) C (by decide +kernel) (by decide) ?_
    exact PL.loc (L' := LI i) ⟨rfl, rfl, rfl, rfl, rfl, trivial⟩ (k z _ _ hC2 hR2 (AI.bp hA))
  | error e9 =>
    rw [hr] at hm1 hm2
    subst hm1
    obtain ⟨⟨u, rfl⟩, h0⟩ := hm2
    refine l_istore (i := 6) C (by decide +kernel) (by decide) ?_
    refine tail_A (T := 1711) (t := 1739) (off := 15) (cd := nI (if e9 = 0 then 1 else 2)) C (by decide +kernel) (by decide +kernel) (by decide +kernel) (by decide +kernel) (by decide +kernel) (by decide +kernel) (by decide) rfl rfl hb h0 (fun q => absurd q (er_nz (Or.inr rfl))) (fun _ => ?_)
    refine l_goto (off := 856) (tgt := 2595) C (by decide +kernel) (by decide) ?_
    exact PL.loc (L' := LI i) ⟨rfl, rfl, rfl, rfl, rfl, trivial⟩ (k z _ _ hC2 hR2 (AI.bp hA))
end LSteps
