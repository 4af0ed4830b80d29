section LSteps
variable {G : GG} {p : Program} {l : Launch} {e : Env} {s : State} {m : MethodId} {args : Array Value} {below : List Frame} {meth : Method} {c : Code} {Q : State → Prop} {x : XS} {a : AS} {w : Int64} {nc ns n i : Nat} {xs : Nat → Int32}
set_option maxHeartbeats 8000000 in
set_option maxRecDepth 20000 in
theorem s_sleeper (C : CL mLaw [] G p l s m args meth c) (S : SX G s n xs) (hi : i + 7 ≤ n) (hC : RC x a) (hR : RRf x a) (hA : AI a) (hb : nc + 1 ≤ 601024 ∧ ns + 6 ≤ 7293034) (k : KN G p l e s m args below meth c Q i nc ns) : PL mLaw G p l e room_1 s m args below meth c Q 599 (LI i) [] x w nc ns := by
  refine l_aload_n (k9 := 1) C (by decide +kernel) rfl rfl ?_
  refine l_arg (i := i) (j := 1) C S (by omega) ⟨by decide +kernel, by decide +kernel, by decide +kernel, by decide +kernel, by decide +kernel⟩ (by decide) rfl rfl ?_
  refine l_arg (i := i) (j := 2) C S (by omega) ⟨by decide +kernel, by decide +kernel, by decide +kernel, by decide +kernel, by decide +kernel⟩ (by decide) rfl rfl ?_
  refine l_aload_n (k9 := 3) C (by decide +kernel) rfl rfl ?_
  refine l_callW (M' := mW_sleeper) (hh' := hW_sleeper) (as := [.ref 0, .int (xs (i + 1)), .int (xs (i + 2)), .ref 200]) (rest := []) (idx := 153) C (w_sleeper hC hA) msw_sleeper (ws_t 838 rfl rfl) ⟨by decide, by decide⟩ hb (by decide +kernel) rfl (by decide) ?_
  intro cd w' y hp
  obtain ⟨hC1, hI1, hm1⟩ := hp
  refine l_istore (i := 5) C (by decide +kernel) (by decide) ?_
  refine l_aload_n (k9 := 2) C (by decide +kernel) rfl rfl ?_
  refine l_arg (i := i) (j := 1) C S (by omega) ⟨by decide +kernel, by decide +kernel, by decide +kernel, by decide +kernel, by decide +kernel⟩ (by decide) rfl rfl ?_
  refine l_arg (i := i) (j := 2) C S (by omega) ⟨by decide +kernel, by decide +kernel, by decide +kernel, by decide +kernel, by decide +kernel⟩ (by decide) rfl rfl ?_
  refine l_callX (M' := mX10_sleeper) (as := [.int (xs (i + 1)), .int (xs (i + 2))]) (rest := []) (idx := 155) C (g_sleeper (hR.hi hI1) hA) mv_X10_sleeper (ws_t 1580 rfl rfl) ⟨by decide, by decide⟩ hb (by decide +kernel) rfl rfl rfl rfl (by decide) (fun E x' h => h.elim) ?_
  intro v z hp
  obtain ⟨hR2, hL2, hm2⟩ := hp
  have hC2 := hC1.lo hL2
  cases hr : oSleeper a (xs (i + 1)) (xs (i + 2)) with
  | ok u =>
    rw [hr] at hm1 hm2
    obtain ⟨rfl, rfl⟩ := hm1
    obtain ⟨rfl, h0⟩ := hm2
    refine l_istore (i := 6) C (by decide +kernel) (by decide) ?_
    refine tail_A (T := 636) (t := 664) (off := 15) (cd := nI 0) C (by decide +kernel) (by decide +kernel) (by decide +kernel) (by decide +kernel) (by decide +kernel) (by decide +kernel) (by decide) rfl rfl hb h0 (fun _ => ?_) (fun q => absurd rfl q)
    refine tail_B (T := 652) (t := 664) C (by decide +kernel) (by decide +kernel) (by decide +kernel) (by decide +kernel) (by decide +kernel) (by decide +kernel) (by decide +kernel) (by decide) rfl rfl rfl ?_
    refine l_goto (off := 1931) (tgt := 2595) C (by decide +kernel) (by decide) ?_
    exact PL.loc (L' := LI i) ⟨rfl, rfl, rfl, rfl, rfl, trivial⟩ (k z _ _ hC2 hR2 (AI.bp hA))
  | error e9 =>
    rw [hr] at hm1 hm2
    subst hm1
    obtain ⟨⟨u, rfl⟩, h0⟩ := hm2
    refine l_istore (i := 6) C (by decide +kernel) (by decide) ?_
    refine tail_A (T := 636) (t := 664) (off := 15) (cd := nI (if e9 = 0 then 1 else 2)) C (by decide +kernel) (by decide +kernel) (by decide +kernel) (by decide +kernel) (by decide +kernel) (by decide +kernel) (by decide) rfl rfl hb h0 (fun q => absurd q (er_nz (Or.inr rfl))) (fun _ => ?_)
    refine l_goto (off := 1931) (tgt := 2595) C (by decide +kernel) (by decide) ?_
    exact PL.loc (L' := LI i) ⟨rfl, rfl, rfl, rfl, rfl, trivial⟩ (k z _ _ hC2 hR2 (AI.bp hA))
set_option maxHeartbeats 8000000 in
set_option maxRecDepth 20000 in
theorem s_noise (C : CL mLaw [] G p l s m args meth c) (S : SX G s n xs) (hi : i + 7 ≤ n) (hC : RC x a) (hR : RRf x a) (hA : AI a) (hb : nc + 1 ≤ 601024 ∧ ns + 6 ≤ 7293034) (k : KN G p l e s m args below meth c Q i nc ns) : PL mLaw G p l e room_1 s m args below meth c Q 667 (LI i) [] x w nc ns := by
  refine l_aload_n (k9 := 1) C (by decide +kernel) rfl rfl ?_
  refine l_arg (i := i) (j := 1) C S (by omega) ⟨by decide +kernel, by decide +kernel, by decide +kernel, by decide +kernel, by decide +kernel⟩ (by decide) rfl rfl ?_
  refine l_aload_n (k9 := 3) C (by decide +kernel) rfl rfl ?_
  refine l_callW (M' := mW_noise) (hh' := hW_noise) (as := [.ref 0, .int (xs (i + 1)), .ref 200]) (rest := []) (idx := 156) C (w_noise hC hA) msw_noise (ws_t 866 rfl rfl) ⟨by decide, by decide⟩ hb (by decide +kernel) rfl (by decide) ?_
  intro cd w' y hp
  obtain ⟨hC1, hI1, hm1⟩ := hp
  refine l_istore (i := 5) C (by decide +kernel) (by decide) ?_
  refine l_aload_n (k9 := 2) C (by decide +kernel) rfl rfl ?_
  refine l_arg (i := i) (j := 1) C S (by omega) ⟨by decide +kernel, by decide +kernel, by decide +kernel, by decide +kernel, by decide +kernel⟩ (by decide) rfl rfl ?_
  refine l_callX (M' := mX10_noise) (as := [.int (xs (i + 1))]) (rest := []) (idx := 158) C (g_noise (hR.hi hI1) hA) mv_X10_noise (ws_t 1588 rfl rfl) ⟨by decide, by decide⟩ hb (by decide +kernel) rfl rfl rfl rfl (by decide) (fun E x' h => h.elim) ?_
  intro v z hp
  obtain ⟨hR2, hL2, hm2⟩ := hp
  have hC2 := hC1.lo hL2
  cases hr : oNoise a (xs (i + 1)) with
  | ok u =>
    rw [hr] at hm1 hm2
    obtain ⟨rfl, rfl⟩ := hm1
    obtain ⟨rfl, h0⟩ := hm2
    refine l_istore (i := 6) C (by decide +kernel) (by decide) ?_
    refine tail_A (T := 692) (t := 720) (off := 15) (cd := nI 0) C (by decide +kernel) (by decide +kernel) (by decide +kernel) (by decide +kernel) (by decide +kernel) (by decide +kernel) (by decide) rfl rfl hb h0 (fun _ => ?_) (fun q => absurd rfl q)
    refine tail_B (T := 708) (t := 720) C (by decide +kernel) (by decide +kernel) (by decide +kernel) (by decide +kernel) (by decide +kernel) (by decide +kernel) (by decide +kernel) (by decide) rfl rfl rfl ?_
    refine l_goto (off := 1875) (tgt := 2595) C (by decide +kernel) (by decide) ?_
    exact PL.loc (L' := LI i) ⟨rfl, rfl, rfl, rfl, rfl, trivial⟩ (k z _ _ hC2 hR2 (AI.bp hA))
  | error e9 =>
    rw [hr] at hm1 hm2
    subst hm1
    obtain ⟨⟨u, rfl⟩, h0⟩ := hm2
    refine l_istore (i := 6) C (by decide +kernel) (by decide) ?_
    refine tail_A (T := 692) (t := 720) (off := 15) (cd := nI (if e9 = 0 then 1 else 1)) C (by decide +kernel) (by decide +kernel) (by decide +kernel) (by decide +kernel) (by decide +kernel) (by decide +kernel) (by decide) rfl rfl hb h0 (fun q => absurd q (er_nz (Or.inl rfl))) (fun _ => ?_)
    refine l_goto (off := 1875) (tgt := 2595) C (by decide +kernel) (by decide) ?_
    exact PL.loc (L' := LI i) ⟨rfl, rfl, rfl, rfl, rfl, trivial⟩ (k z _ _ hC2 hR2 (AI.bp hA))
set_option maxHeartbeats 8000000 in
set_option maxRecDepth 20000 in
theorem s_loud (C : CL mLaw [] G p l s m args meth c) (S : SX G s n xs) (hi : i + 7 ≤ n) (hC : RC x a) (hR : RRf x a) (hA : AI a) (hb : nc + 1 ≤ 601024 ∧ ns + 6 ≤ 7293034) (k : KN G p l e s m args below meth c Q i nc ns) : PL mLaw G p l e room_1 s m args below meth c Q 723 (LI i) [] x w nc ns := by
  refine l_aload_n (k9 := 1) C (by decide +kernel) rfl rfl ?_
  refine l_arg (i := i) (j := 1) C S (by omega) ⟨by decide +kernel, by decide +kernel, by decide +kernel, by decide +kernel, by decide +kernel⟩ (by decide) rfl rfl ?_
  refine l_aload_n (k9 := 3) C (by decide +kernel) rfl rfl ?_
  refine l_callW (M' := mW_loud) (hh' := hW_loud) (as := [.ref 0, .int (xs (i + 1)), .ref 200]) (rest := []) (idx := 159) C (w_loud hC hA) msw_loud (ws_t 883 rfl rfl) ⟨by decide, by decide⟩ hb (by decide +kernel) rfl (by decide) ?_
  intro cd w' y hp
  obtain ⟨hC1, hI1, hm1⟩ := hp
  refine l_istore (i := 5) C (by decide +kernel) (by decide) ?_
  refine l_aload_n (k9 := 2) C (by decide +kernel) rfl rfl ?_
  refine l_arg (i := i) (j := 1) C S (by omega) ⟨by decide +kernel, by decide +kernel, by decide +kernel, by decide +kernel, by decide +kernel⟩ (by decide) rfl rfl ?_
  refine l_callX (M' := mX10_loud) (as := [.int (xs (i + 1))]) (rest := []) (idx := 161) C (g_loud (hR.hi hI1) hA) mv_X10_loud (ws_t 1592 rfl rfl) ⟨by decide, by decide⟩ hb (by decide +kernel) rfl rfl rfl rfl (by decide) (fun E x' h => h.elim) ?_
  intro v z hp
  obtain ⟨hR2, hL2, hm2⟩ := hp
  have hC2 := hC1.lo hL2
  cases hr : oLoud a (xs (i + 1)) with
  | ok u =>
    rw [hr] at hm1 hm2
    obtain ⟨rfl, rfl⟩ := hm1
    obtain ⟨rfl, h0⟩ := hm2
    refine l_istore (i := 6) C (by decide +kernel) (by decide) ?_
    refine tail_A (T := 748) (t := 776) (off := 15) (cd := nI 0) C (by decide +kernel) (by decide +kernel) (by decide +kernel) (by decide +kernel) (by decide +kernel) (by decide +kernel) (by decide) rfl rfl hb h0 (fun _ => ?_) (fun q => absurd rfl q)
    refine tail_B (T := 764) (t := 776) C (by decide +kernel) (by decide +kernel) (by decide +kernel) (by decide +kernel) (by decide +kernel) (by decide +kernel) (by decide +kernel) (by decide) rfl rfl rfl ?_
    refine l_goto (off := 1819) (tgt := 2595) C (by decide +kernel) (by decide) ?_
    exact PL.loc (L' := LI i) ⟨rfl, rfl, rfl, rfl, rfl, trivial⟩ (k z _ _ hC2 hR2 (AI.bp hA))
  | error e9 =>
    rw [hr] at hm1 hm2
    subst hm1
    obtain ⟨⟨u, rfl⟩, h0⟩ := hm2
    refine l_istore (i := 6) C (by decide +kernel) (by decide) ?_
    refine tail_A (T := 748) (t := 776) (off := 15) (cd := nI (if e9 = 0 then 1 else 1)) C (by decide +kernel) (by decide +kernel) (by decide +kernel) (by decide +kernel) (by decide +kernel) (by decide +kernel) (by decide) rfl rfl hb h0 (fun q => absurd q (er_nz (Or.inl rfl))) (fun _ => ?_)
    refine l_goto (off := 1819) (tgt := 2595) C (by decide +kernel) (by decide) ?_
    exact PL.loc (L' := LI i) ⟨rfl, rfl, rfl, rfl, rfl, trivial⟩ (k z _ _ hC2 hR2 (AI.bp hA))
set_option maxHeartbeats 8000000 in
set_option maxRecDepth 20000 in
theorem s_would (C : CL mLaw [] G p l s m args meth c) (S : SX G s n xs) (hi : i + 7 ≤ n) (hC : RC x a) (hR : RRf x a) (hA : AI a) (hb : nc + 1 ≤ 601024 ∧ ns + 6 ≤ 7293034) (k : KN G p l e s m args below meth c Q i nc ns) : PL mLaw G p l e room_1 s m args below meth c Q 779 (LI i) [] x w nc ns := by
  refine l_aload_n (k9 := 1) C (by decide +kernel) rfl rfl ?_
  refine l_arg (i := i) (j := 1) C S (by omega) ⟨by decide +kernel, by decide +kernel, by decide +kernel, by decide +kernel, by decide +kernel⟩ (by decide) rfl rfl ?_
  refine l_arg (i := i) (j := 2) C S (by omega) ⟨by decide +kernel, by decide +kernel, by decide +kernel, by decide +kernel, by decide +kernel⟩ (by decide) rfl rfl ?_
  refine l_arg (i := i) (j := 3) C S (by omega) ⟨by decide +kernel, by decide +kernel, by decide +kernel, by decide +kernel, by decide +kernel⟩ (by decide) rfl rfl ?_
  refine l_arg (i := i) (j := 4) C S (by omega) ⟨by decide +kernel, by decide +kernel, by decide +kernel, by decide +kernel, by decide +kernel⟩ (by decide) rfl rfl ?_
  refine l_arg (i := i) (j := 5) C S (by omega) ⟨by decide +kernel, by decide +kernel, by decide +kernel, by decide +kernel, by decide +kernel⟩ (by decide) rfl rfl ?_
  refine l_aload_n (k9 := 3) C (by decide +kernel) rfl rfl ?_
  refine l_callW (M' := mW_would) (hh' := hW_would) (as := [.ref 0, .int (xs (i + 1)), .int (xs (i + 2)), .int (xs (i + 3)), .int (xs (i + 4)), .int (xs (i + 5)), .ref 200]) (rest := []) (idx := 162) C (w_would hC hA) msw_would (ws_t 891 rfl rfl) ⟨by decide, by decide⟩ hb (by decide +kernel) rfl (by decide) ?_
  intro cd w' y hp
  obtain ⟨hC1, hI1, hm1⟩ := hp
  refine l_istore (i := 5) C (by decide +kernel) (by decide) ?_
  refine l_aload_n (k9 := 2) C (by decide +kernel) rfl rfl ?_
  refine l_arg (i := i) (j := 1) C S (by omega) ⟨by decide +kernel, by decide +kernel, by decide +kernel, by decide +kernel, by decide +kernel⟩ (by decide) rfl rfl ?_
  refine l_arg (i := i) (j := 2) C S (by omega) ⟨by decide +kernel, by decide +kernel, by decide +kernel, by decide +kernel, by decide +kernel⟩ (by decide) rfl rfl ?_
  refine l_arg (i := i) (j := 3) C S (by omega) ⟨by decide +kernel, by decide +kernel, by decide +kernel, by decide +kernel, by decide +kernel⟩ (by decide) rfl rfl ?_
  refine l_arg (i := i) (j := 4) C S (by omega) ⟨by decide +kernel, by decide +kernel, by decide +kernel, by decide +kernel, by decide +kernel⟩ (by decide) rfl rfl ?_
  refine l_arg (i := i) (j := 5) C S (by omega) ⟨by decide +kernel, by decide +kernel, by decide +kernel, by decide +kernel, by decide +kernel⟩ (by decide) rfl rfl ?_
  refine l_callX (M' := mX10_would) (as := [.int (xs (i + 1)), .int (xs (i + 2)), .int (xs (i + 3)), .int (xs (i + 4)), .int (xs (i + 5))]) (rest := []) (idx := 165) C (g_would (hR.hi hI1) hA) mv_X10_would (ws_t 1596 rfl rfl) ⟨by decide, by decide⟩ hb (by decide +kernel) rfl rfl rfl rfl (by decide) (fun E x' h => h.elim) ?_
  intro v z hp
  obtain ⟨hR2, hL2, hm2⟩ := hp
  have hC2 := hC1.lo hL2
  cases hr : oWould a (xs (i + 1)) (xs (i + 2)) (xs (i + 3)) (xs (i + 4)) (xs (i + 5)) with
  | ok u =>
    rw [hr] at hm1 hm2
    obtain ⟨rfl, rfl⟩ := hm1
    obtain ⟨rfl, h0⟩ := hm2
    refine l_istore (i := 6) C (by decide +kernel) (by decide) ?_
    refine tail_A (T := 852) (t := 880) (off := 15) (cd := nI 0) C (by decide +kernel) (by decide +kernel) (by decide +kernel) (by decide +kernel) (by decide +kernel) (by decide +kernel) (by decide) rfl rfl hb h0 (fun _ => ?_) (fun q => absurd rfl q)
    refine tail_B (T := 868) (t := 880) C (by decide +kernel) (by decide +kernel) (by decide +kernel) (by decide +kernel) (by decide +kernel) (by decide +kernel) (by decide +kernel) (by decide) rfl rfl rfl ?_
    refine l_goto (off := 1715) (tgt := 2595) C (by decide +kernel) (by decide) ?_
    exact PL.loc (L' := LI i) ⟨rfl, rfl, rfl, rfl, rfl, trivial⟩ (k z _ _ hC2 hR2 (AI.bp hA))
  | error e9 =>
    rw [hr] at hm1 hm2
    subst hm1
    obtain ⟨⟨u, rfl⟩, h0⟩ := hm2
    refine l_istore (i := 6) C (by decide +kernel) (by decide) ?_
    refine tail_A (T := 852) (t := 880) (off := 15) (cd := nI (if e9 = 0 then 1 else 1)) C (by decide +kernel) (by decide +kernel) (by decide +kernel) (by decide +kernel) (by decide +kernel) (by decide +kernel) (by decide) rfl rfl hb h0 (fun q => absurd q (er_nz (Or.inl rfl))) (fun _ => ?_)
    refine l_goto (off := 1715) (tgt := 2595) C (by decide +kernel) (by decide) ?_
    exact PL.loc (L' := LI i) ⟨rfl, rfl, rfl, rfl, rfl, trivial⟩ (k z _ _ hC2 hR2 (AI.bp hA))
set_option maxHeartbeats 8000000 in
set_option maxRecDepth 20000 in
theorem s_clock (C : CL mLaw [] G p l s m args meth c) (S : SX G s n xs) (hi : i + 7 ≤ n) (hC : RC x a) (hR : RRf x a) (hA : AI a) (hb : nc + 1 ≤ 601024 ∧ ns + 6 ≤ 7293034) (k : KN G p l e s m args below meth c Q i nc ns) : PL mLaw G p l e room_1 s m args below meth c Q 883 (LI i) [] x w nc ns := by
  refine l_aload_n (k9 := 1) C (by decide +kernel) rfl rfl ?_
  refine l_arg (i := i) (j := 1) C S (by omega) ⟨by decide +kernel, by decide +kernel, by decide +kernel, by decide +kernel, by decide +kernel⟩ (by decide) rfl rfl ?_
  refine l_aload_n (k9 := 3) C (by decide +kernel) rfl rfl ?_
  refine l_callW (M' := mW_clock) (hh' := hW_clock) (as := [.ref 0, .int (xs (i + 1)), .ref 200]) (rest := []) (idx := 166) C (w_clock hC hA) msw_clock (ws_t 902 rfl rfl) ⟨by decide, by decide⟩ hb (by decide +kernel) rfl (by decide) ?_
  intro cd w' y hp
  obtain ⟨hC1, hI1, hm1⟩ := hp
  refine l_istore (i := 5) C (by decide +kernel) (by decide) ?_
  refine l_aload_n (k9 := 2) C (by decide +kernel) rfl rfl ?_
  refine l_arg (i := i) (j := 1) C S (by omega) ⟨by decide +kernel, by decide +kernel, by decide +kernel, by decide +kernel, by decide +kernel⟩ (by decide) rfl rfl ?_
  refine l_callX (M' := mX10_clock) (as := [.int (xs (i + 1))]) (rest := []) (idx := 168) C (g_clock (hR.hi hI1) hA) mv_X10_clock (ws_t 1600 rfl rfl) ⟨by decide, by decide⟩ hb (by decide +kernel) rfl rfl rfl rfl (by decide) (fun E x' h => h.elim) ?_
  intro v z hp
  obtain ⟨hR2, hL2, hm2⟩ := hp
  have hC2 := hC1.lo hL2
  cases hr : oClock a (xs (i + 1)) with
  | ok u =>
    rw [hr] at hm1 hm2
    obtain ⟨rfl, rfl⟩ := hm1
    obtain ⟨rfl, h0⟩ := hm2
    refine l_istore (i := 6) C (by decide +kernel) (by decide) ?_
    refine tail_A (T := 908) (t := 936) (off := 15) (cd := nI 0) C (by decide +kernel) (by decide +kernel) (by decide +kernel) (by decide +kernel) (by decide +kernel) (by decide +kernel) (by decide) rfl rfl hb h0 (fun _ => ?_) (fun q => absurd rfl q)
    refine tail_B (T := 924) (t := 936) C (by decide +kernel) (by decide +kernel) (by decide +kernel) (by decide +kernel) (by decide +kernel) (by decide +kernel) (by decide +kernel) (by decide) rfl rfl rfl ?_
    refine l_goto (off := 1659) (tgt := 2595) C (by decide +kernel) (by decide) ?_
    exact PL.loc (L' := LI i) ⟨rfl, rfl, rfl, rfl, rfl, trivial⟩ (k z _ _ hC2 hR2 (AI.bp hA))
  | error e9 =>
    rw [hr] at hm1 hm2
    subst hm1
    obtain ⟨⟨u, rfl⟩, h0⟩ := hm2
    refine l_istore (i := 6) C (by decide +kernel) (by decide) ?_
    refine tail_A (T := 908) (t := 936) (off := 15) (cd := nI (if e9 = 0 then 1 else 1)) C (by decide +kernel) (by decide +kernel) (by decide +kernel) (by decide +kernel) (by decide +kernel) (by decide +kernel) (by decide) rfl rfl hb h0 (fun q => absurd q (er_nz (Or.inl rfl))) (fun _ => ?_)
    refine l_goto (off := 1659) (tgt := 2595) C (by decide +kernel) (by decide) ?_
    exact PL.loc (L' := LI i) ⟨rfl, rfl, rfl, rfl, rfl, trivial⟩ (k z _ _ hC2 hR2 (AI.bp hA))
set_option maxHeartbeats 8000000 in
set_option maxRecDepth 20000 in
theorem s_changes (C : CL mLaw [] G p l s m args meth c) (S : SX G s n xs) (hi : i + 7 ≤ n) (hC : RC x a) (hR : RRf x a) (hA : AI a) (hb : nc + 1 ≤ 601024 ∧ ns + 6 ≤ 7293034) (k : KN G p l e s m args below meth c Q i nc ns) : PL mLaw G p l e room_1 s m args below meth c Q 939 (LI i) [] x w nc ns := by
  refine l_aload_n (k9 := 1) C (by decide +kernel) rfl rfl ?_
  refine l_arg (i := i) (j := 1) C S (by omega) ⟨by decide +kernel, by decide +kernel, by decide +kernel, by decide +kernel, by decide +kernel⟩ (by decide) rfl rfl ?_
  refine l_aload_n (k9 := 3) C (by decide +kernel) rfl rfl ?_
  refine l_callW (M' := mW_changes) (hh' := hW_changes) (as := [.ref 0, .int (xs (i + 1)), .ref 200]) (rest := []) (idx := 169) C (w_changes hC hA) msw_changes (ws_t 910 rfl rfl) ⟨by decide, by decide⟩ hb (by decide +kernel) rfl (by decide) ?_
  intro cd w' y hp
  obtain ⟨hC1, hI1, hm1⟩ := hp
  refine l_istore (i := 5) C (by decide +kernel) (by decide) ?_
  refine l_aload_n (k9 := 2) C (by decide +kernel) rfl rfl ?_
  refine l_arg (i := i) (j := 1) C S (by omega) ⟨by decide +kernel, by decide +kernel, by decide +kernel, by decide +kernel, by decide +kernel⟩ (by decide) rfl rfl ?_
  refine l_callX (M' := mX10_changes) (as := [.int (xs (i + 1))]) (rest := []) (idx := 171) C (g_changes (hR.hi hI1) hA) mv_X10_changes (ws_t 1604 rfl rfl) ⟨by decide, by decide⟩ hb (by decide +kernel) rfl rfl rfl rfl (by decide) (fun E x' h => h.elim) ?_
  intro v z hp
  obtain ⟨hR2, hL2, hm2⟩ := hp
  have hC2 := hC1.lo hL2
  cases hr : oChanges a (xs (i + 1)) with
  | ok u =>
    rw [hr] at hm1 hm2
    obtain ⟨rfl, rfl⟩ := hm1
    obtain ⟨rfl, h0⟩ := hm2
    refine l_istore (i := 6) C (by decide +kernel) (by decide) ?_
    refine tail_A (T := 964) (t := 999) (off := 22) (cd := nI 0) C (by decide +kernel) (by decide +kernel) (by decide +kernel) (by decide +kernel) (by decide +kernel) (by decide +kernel) (by decide) rfl rfl hb h0 (fun _ => ?_) (fun q => absurd rfl q)
    refine l_aload_n (k9 := 3) C (by decide +kernel) rfl rfl ?_
    refine l_iconst (n := 0) (v := 0) C (by decide +kernel) rfl ?_
    refine l_lald C (by decide +kernel) ?_
    refine l_iload (i := 6) C (by decide +kernel) rfl ?_
    refine l_if_eq (off := 7) (tgt := 992) C (by decide +kernel) (by decide) (fun q => ?_) (fun q => ?_)
    · subst q
      refine l_lconst (n := 0) (v := (0 : Int32).toInt64) C (by decide +kernel) (by decide) ?_
      refine l_lcmp C (by decide +kernel) ?_
      refine l_if_eq (off := 5) (tgt := 999) C (by decide +kernel) (by decide) (fun _ => ?_) (fun q => absurd (lg_cmp_s _) q)
      refine l_goto (off := 1596) (tgt := 2595) C (by decide +kernel) (by decide) ?_
      exact PL.loc (L' := LI i) ⟨rfl, rfl, rfl, rfl, rfl, trivial⟩ (k z _ _ hC2 hR2 (AI.bp hA))
    · have hu : u = 1 := (oChanges_01 hr).resolve_left q
      subst hu
      refine l_lconst (n := 1) (v := (1 : Int32).toInt64) C (by decide +kernel) (by decide) ?_
      refine l_goto (off := 4) (tgt := 993) C (by decide +kernel) (by decide) ?_
      refine l_lcmp C (by decide +kernel) ?_
      refine l_if_eq (off := 5) (tgt := 999) C (by decide +kernel) (by decide) (fun _ => ?_) (fun q => absurd (lg_cmp_s _) q)
      refine l_goto (off := 1596) (tgt := 2595) C (by decide +kernel) (by decide) ?_
      exact PL.loc (L' := LI i) ⟨rfl, rfl, rfl, rfl, rfl, trivial⟩ (k z _ _ hC2 hR2 (AI.bp hA))
  | error e9 =>
    rw [hr] at hm1 hm2
    subst hm1
    obtain ⟨⟨u, rfl⟩, h0⟩ := hm2
    refine l_istore (i := 6) C (by decide +kernel) (by decide) ?_
    refine tail_A (T := 964) (t := 999) (off := 22) (cd := nI (if e9 = 0 then 1 else 1)) C (by decide +kernel) (by decide +kernel) (by decide +kernel) (by decide +kernel) (by decide +kernel) (by decide +kernel) (by decide) rfl rfl hb h0 (fun q => absurd q (er_nz (Or.inl rfl))) (fun _ => ?_)
    refine l_goto (off := 1596) (tgt := 2595) C (by decide +kernel) (by decide) ?_
    exact PL.loc (L' := LI i) ⟨rfl, rfl, rfl, rfl, rfl, trivial⟩ (k z _ _ hC2 hR2 (AI.bp hA))
set_option maxHeartbeats 8000000 in
set_option maxRecDepth 20000 in
theorem s_loudest (C : CL mLaw [] G p l s m args meth c) (S : SX G s n xs) (hi : i + 7 ≤ n) (hC : RC x a) (hR : RRf x a) (hA : AI a) (hb : nc + 1 ≤ 601024 ∧ ns + 6 ≤ 7293034) (k : KN G p l e s m args below meth c Q i nc ns) : PL mLaw G p l e room_1 s m args below meth c Q 1002 (LI i) [] x w nc ns := by
  refine l_aload_n (k9 := 1) C (by decide +kernel) rfl rfl ?_
  refine l_arg (i := i) (j := 1) C S (by omega) ⟨by decide +kernel, by decide +kernel, by decide +kernel, by decide +kernel, by decide +kernel⟩ (by decide) rfl rfl ?_
  refine l_aload_n (k9 := 3) C (by decide +kernel) rfl rfl ?_
  refine l_callW (M' := mW_loudest) (hh' := hW_loudest) (as := [.ref 0, .int (xs (i + 1)), .ref 200]) (rest := []) (idx := 172) C (w_loudest hC hA) msw_loudest (ws_t 919 rfl rfl) ⟨by decide, by decide⟩ hb (by decide +kernel) rfl (by decide) ?_
  intro cd w' y hp
  obtain ⟨hC1, hI1, hm1⟩ := hp
  refine l_istore (i := 5) C (by decide +kernel) (by decide) ?_
  refine l_aload_n (k9 := 2) C (by decide +kernel) rfl rfl ?_
  refine l_arg (i := i) (j := 1) C S (by omega) ⟨by decide +kernel, by decide +kernel, by decide +kernel, by decide +kernel, by decide +kernel⟩ (by decide) rfl rfl ?_
  refine l_callX (M' := mX10_loudest) (as := [.int (xs (i + 1))]) (rest := []) (idx := 174) C (g_loudest (hR.hi hI1) hA) mv_X10_loudest (ws_t 1608 rfl rfl) ⟨by decide, by decide⟩ hb (by decide +kernel) rfl rfl rfl rfl (by decide) (fun E x' h => h.elim) ?_
  intro v z hp
  obtain ⟨hR2, hL2, hm2⟩ := hp
  have hC2 := hC1.lo hL2
  cases hr : oLoudest a (xs (i + 1)) with
  | ok u =>
    rw [hr] at hm1 hm2
    obtain ⟨rfl, rfl⟩ := hm1
    obtain ⟨rfl, h0⟩ := hm2
    refine l_istore (i := 6) C (by decide +kernel) (by decide) ?_
    refine tail_A (T := 1027) (t := 1055) (off := 15) (cd := nI 0) C (by decide +kernel) (by decide +kernel) (by decide +kernel) (by decide +kernel) (by decide +kernel) (by decide +kernel) (by decide) rfl rfl hb h0 (fun _ => ?_) (fun q => absurd rfl q)
    refine tail_B (T := 1043) (t := 1055) C (by decide +kernel) (by decide +kernel) (by decide +kernel) (by decide +kernel) (by decide +kernel) (by decide +kernel) (by decide +kernel) (by decide) rfl rfl rfl ?_
    refine l_goto (off := 1540) (tgt := 2595) C (by decide +kernel) (by decide) ?_
    exact PL.loc (L' := LI i) ⟨rfl, rfl, rfl, rfl, rfl, trivial⟩ (k z _ _ hC2 hR2 (AI.bp hA))
  | error e9 =>
    rw [hr] at hm1 hm2
    subst hm1
    obtain ⟨⟨u, rfl⟩, h0⟩ := hm2
    refine l_istore (i := 6) C (by decide +kernel) (by decide) ?_
    refine tail_A (T := 1027) (t := 1055) (off := 15) (cd := nI (if e9 = 0 then 1 else 1)) C (by decide +kernel) (by decide +kernel) (by decide +kernel) (by decide +kernel) (by decide +kernel) (by decide +kernel) (by decide) rfl rfl hb h0 (fun q => absurd q (er_nz (Or.inl rfl))) (fun _ => ?_)
    refine l_goto (off := 1540) (tgt := 2595) C (by decide +kernel) (by decide) ?_
    exact PL.loc (L' := LI i) ⟨rfl, rfl, rfl, rfl, rfl, trivial⟩ (k z _ _ hC2 hR2 (AI.bp hA))
set_option maxHeartbeats 8000000 in
set_option maxRecDepth 20000 in
theorem s_soon (C : CL mLaw [] G p l s m args meth c) (S : SX G s n xs) (hi : i + 7 ≤ n) (hC : RC x a) (hR : RRf x a) (hA : AI a) (hb : nc + 1 ≤ 601024 ∧ ns + 6 ≤ 7293034) (k : KN G p l e s m args below meth c Q i nc ns) : PL mLaw G p l e room_1 s m args below meth c Q 1058 (LI i) [] x w nc ns := by
  refine l_aload_n (k9 := 1) C (by decide +kernel) rfl rfl ?_
  refine l_arg (i := i) (j := 1) C S (by omega) ⟨by decide +kernel, by decide +kernel, by decide +kernel, by decide +kernel, by decide +kernel⟩ (by decide) rfl rfl ?_
  refine l_aload_n (k9 := 3) C (by decide +kernel) rfl rfl ?_
  refine l_callW (M' := mW_soon) (hh' := hW_soon) (as := [.ref 0, .int (xs (i + 1)), .ref 200]) (rest := []) (idx := 175) C (w_soon hC hA) msw_soon (ws_t 927 rfl rfl) ⟨by decide, by decide⟩ hb (by decide +kernel) rfl (by decide) ?_
  intro cd w' y hp
  obtain ⟨hC1, hI1, hm1⟩ := hp
  refine l_istore (i := 5) C (by decide +kernel) (by decide) ?_
  refine l_aload_n (k9 := 2) C (by decide +kernel) rfl rfl ?_
  refine l_arg (i := i) (j := 1) C S (by omega) ⟨by decide +kernel, by decide +kernel, by decide +kernel, by decide +kernel, by decide +kernel⟩ (by decide) rfl rfl ?_
  refine l_callX (M' := mX10_soon) (as := [.int (xs (i + 1))]) (rest := []) (idx := 177) C (g_soon (hR.hi hI1) hA) mv_X10_soon (ws_t 1612 rfl rfl) ⟨by decide, by decide⟩ hb (by decide +kernel) rfl rfl rfl rfl (by decide) (fun E x' h => h.elim) ?_
  intro v z hp
  obtain ⟨hR2, hL2, hm2⟩ := hp
  have hC2 := hC1.lo hL2
  cases hr : oSoon a (xs (i + 1)) with
  | ok u =>
    rw [hr] at hm1 hm2
    obtain ⟨rfl, rfl⟩ := hm1
    obtain ⟨rfl, h0⟩ := hm2
    refine l_istore (i := 6) C (by decide +kernel) (by decide) ?_
    refine tail_A (T := 1083) (t := 1111) (off := 15) (cd := nI 0) C (by decide +kernel) (by decide +kernel) (by decide +kernel) (by decide +kernel) (by decide +kernel) (by decide +kernel) (by decide) rfl rfl hb h0 (fun _ => ?_) (fun q => absurd rfl q)
    refine tail_B (T := 1099) (t := 1111) C (by decide +kernel) (by decide +kernel) (by decide +kernel) (by decide +kernel) (by decide +kernel) (by decide +kernel) (by decide +kernel) (by decide) rfl rfl rfl ?_
    refine l_goto (off := 1484) (tgt := 2595) C (by decide +kernel) (by decide) ?_
    exact PL.loc (L' := LI i) ⟨rfl, rfl, rfl, rfl, rfl, trivial⟩ (k z _ _ hC2 hR2 (AI.bp hA))
  | error e9 =>
    rw [hr] at hm1 hm2
    subst hm1
    obtain ⟨⟨u, rfl⟩, h0⟩ := hm2
    refine l_istore (i := 6) C (by decide +kernel) (by decide) ?_
    refine tail_A (T := 1083) (t := 1111) (off := 15) (cd := nI (if e9 = 0 then 1 else 1)) C (by decide +kernel) (by decide +kernel) (by decide +kernel) (by decide +kernel) (by decide +kernel) (by decide +kernel) (by decide) rfl rfl hb h0 (fun q => absurd q (er_nz (Or.inl rfl))) (fun _ => ?_)
    refine l_goto (off := 1484) (tgt := 2595) C (by decide +kernel) (by decide) ?_
    exact PL.loc (L' := LI i) ⟨rfl, rfl, rfl, rfl, rfl, trivial⟩ (k z _ _ hC2 hR2 (AI.bp hA))
end LSteps
