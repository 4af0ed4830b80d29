section LSteps
variable {G : GG} {p : Program} {l : Launch} {e : Env} {s : State} {m : MethodId} {args : Array Value} {below : List Frame} {meth : Method} {c : Code} {Q : State → Prop} {x : XS} {a : AS} {w : Int64} {nc ns n i : Nat} {xs : Nat → Int32}
set_option maxHeartbeats 8000000 in
set_option maxRecDepth 20000 in
theorem s_rooms (C : CL mLaw [] G p l s m args meth c) (S : SX G s n xs) (hi : i + 7 ≤ n) (hC : RC x a) (hR : RRf x a) (hA : AI a) (hb : nc + 1 ≤ 601024 ∧ ns + 6 ≤ 7293034) (k : KN G p l e s m args below meth c Q i nc ns) : PL mLaw G p l e room_1 s m args below meth c Q 1742 (LI i) [] x w nc ns := by
  refine l_aload_n (k9 := 1) C (by decide +kernel) rfl rfl ?_
  refine l_arg (i := i) (j := 1) C S (by omega) ⟨by decide +kernel, by decide +kernel, by decide +kernel, by decide +kernel, by decide +kernel⟩ (by decide) rfl rfl ?_
  refine l_arg (i := i) (j := 2) C S (by omega) ⟨by decide +kernel, by decide +kernel, by decide +kernel, by decide +kernel, by decide +kernel⟩ (by decide) rfl rfl ?_
  refine l_aload_n (k9 := 3) C (by decide +kernel) rfl rfl ?_
  refine l_callW (M' := mW_rooms) (hh' := hW_rooms) (as := [.ref 0, .int (xs (i + 1)), .int (xs (i + 2)), .ref 200]) (rest := []) (idx := 204) C (w_rooms hC hA) msw_rooms (ws_t 1032 rfl rfl) ⟨by decide, by decide⟩ hb (by decide +kernel) rfl (by decide) ?_
  intro cd w' y hp
  obtain ⟨hC1, hI1, hm1⟩ := hp
  refine l_istore (i := 5) C (by decide +kernel) (by decide) ?_
  refine l_aload_n (k9 := 2) C (by decide +kernel) rfl rfl ?_
  refine l_arg (i := i) (j := 1) C S (by omega) ⟨by decide +kernel, by decide +kernel, by decide +kernel, by decide +kernel, by decide +kernel⟩ (by decide) rfl rfl ?_
  refine l_arg (i := i) (j := 2) C S (by omega) ⟨by decide +kernel, by decide +kernel, by decide +kernel, by decide +kernel, by decide +kernel⟩ (by decide) rfl rfl ?_
  refine l_callX (M' := mX10_rooms) (as := [.int (xs (i + 1)), .int (xs (i + 2))]) (rest := []) (idx := 206) C (g_rooms (hR.hi hI1) hA) mv_X10_rooms (ws_t 1678 rfl rfl) ⟨by decide, by decide⟩ hb (by decide +kernel) rfl rfl rfl rfl (by decide) (fun E x' h => h.elim) ?_
  intro v z hp
  obtain ⟨hR2, hL2, hm2⟩ := hp
  have hC2 := hC1.lo hL2
  cases hr : oRooms a (xs (i + 1)) (xs (i + 2)) with
  | ok u =>
    rw [hr] at hm1 hm2
    obtain ⟨rfl, rfl⟩ := hm1
    obtain ⟨rfl, h0⟩ := hm2
    refine l_istore (i := 6) C (by decide +kernel) (by decide) ?_
    refine tail_A (T := 1779) (t := 1807) (off := 15) (cd := nI 0) C (by decide +kernel) (by decide +kernel) (by decide +kernel) (by decide +kernel) (by decide +kernel) (by decide +kernel) (by decide) rfl rfl hb h0 (fun _ => ?_) (fun q => absurd rfl q)
    refine tail_B (T := 1795) (t := 1807) C (by decide +kernel) (by decide +kernel) (by decide +kernel) (by decide +kernel) (by decide +kernel) (by decide +kernel) (by decide +kernel) (by decide) rfl rfl rfl ?_
    refine l_goto (off := 788) (tgt := 2595) C (by decide +kernel) (by decide) ?_
    exact PL.loc (L' := LI i) ⟨rfl, rfl, rfl, rfl, rfl, trivial⟩ (k z _ _ hC2 hR2 (AI.bp hA))
  | error e9 =>
    rw [hr] at hm1 hm2
    subst hm1
    obtain ⟨⟨u, rfl⟩, h0⟩ := hm2
    refine l_istore (i := 6) C (by decide +kernel) (by decide) ?_
    refine tail_A (T := 1779) (t := 1807) (off := 15) (cd := nI (if e9 = 0 then 1 else 1)) C (by decide +kernel) (by decide +kernel) (by decide +kernel) (by decide +kernel) (by decide +kernel) (by decide +kernel) (by decide) rfl rfl hb h0 (fun q => absurd q (er_nz (Or.inl rfl))) (fun _ => ?_)
    refine l_goto (off := 788) (tgt := 2595) C (by decide +kernel) (by decide) ?_
    exact PL.loc (L' := LI i) ⟨rfl, rfl, rfl, rfl, rfl, trivial⟩ (k z _ _ hC2 hR2 (AI.bp hA))
set_option maxHeartbeats 8000000 in
set_option maxRecDepth 20000 in
theorem s_inTurns (C : CL mLaw [] G p l s m args meth c) (S : SX G s n xs) (hi : i + 7 ≤ n) (hC : RC x a) (hR : RRf x a) (hA : AI a) (hb : nc + 1 ≤ 601024 ∧ ns + 6 ≤ 7293034) (k : KN G p l e s m args below meth c Q i nc ns) : PL mLaw G p l e room_1 s m args below meth c Q 1810 (LI i) [] x w nc ns := by
  refine l_aload_n (k9 := 1) C (by decide +kernel) rfl rfl ?_
  refine l_arg (i := i) (j := 1) C S (by omega) ⟨by decide +kernel, by decide +kernel, by decide +kernel, by decide +kernel, by decide +kernel⟩ (by decide) rfl rfl ?_
  refine l_arg (i := i) (j := 2) C S (by omega) ⟨by decide +kernel, by decide +kernel, by decide +kernel, by decide +kernel, by decide +kernel⟩ (by decide) rfl rfl ?_
  refine l_aload_n (k9 := 3) C (by decide +kernel) rfl rfl ?_
  refine l_callW (M' := mW_inTurns) (hh' := hW_inTurns) (as := [.ref 0, .int (xs (i + 1)), .int (xs (i + 2)), .ref 200]) (rest := []) (idx := 207) C (w_inTurns hC hA) msw_inTurns (ws_t 1043 rfl rfl) ⟨by decide, by decide⟩ hb (by decide +kernel) rfl (by decide) ?_
  intro cd w' y hp
  obtain ⟨hC1, hI1, hm1⟩ := hp
  refine l_istore (i := 5) C (by decide +kernel) (by decide) ?_
  refine l_aload_n (k9 := 2) C (by decide +kernel) rfl rfl ?_
  refine l_arg (i := i) (j := 1) C S (by omega) ⟨by decide +kernel, by decide +kernel, by decide +kernel, by decide +kernel, by decide +kernel⟩ (by decide) rfl rfl ?_
  refine l_arg (i := i) (j := 2) C S (by omega) ⟨by decide +kernel, by decide +kernel, by decide +kernel, by decide +kernel, by decide +kernel⟩ (by decide) rfl rfl ?_
  refine l_callX (M' := mX10_inTurns) (as := [.int (xs (i + 1)), .int (xs (i + 2))]) (rest := []) (idx := 209) C (g_inTurns (hR.hi hI1) hA) mv_X10_inTurns (ws_t 1682 rfl rfl) ⟨by decide, by decide⟩ hb (by decide +kernel) rfl rfl rfl rfl (by decide) (fun E x' h => h.elim) ?_
  intro v z hp
  obtain ⟨hR2, hL2, hm2⟩ := hp
  have hC2 := hC1.lo hL2
  cases hr : oInTurns a (xs (i + 1)) (xs (i + 2)) with
  | ok u =>
    rw [hr] at hm1 hm2
    obtain ⟨rfl, rfl⟩ := hm1
    obtain ⟨rfl, h0⟩ := hm2
    refine l_istore (i := 6) C (by decide +kernel) (by decide) ?_
    refine tail_A (T := 1847) (t := 1875) (off := 15) (cd := nI 0) C (by decide +kernel) (by decide +kernel) (by decide +kernel) (by decide +kernel) (by decide +kernel) (by decide +kernel) (by decide) rfl rfl hb h0 (fun _ => ?_) (fun q => absurd rfl q)
    refine tail_B (T := 1863) (t := 1875) C (by decide +kernel) (by decide +kernel) (by decide +kernel) (by decide +kernel) (by decide +kernel) (by decide +kernel) (by decide +kernel) (by decide) rfl rfl rfl ?_
    refine l_goto (off := 720) (tgt := 2595) C (by decide +kernel) (by decide) ?_
    exact PL.loc (L' := LI i) ⟨rfl, rfl, rfl, rfl, rfl, trivial⟩ (k z _ _ hC2 hR2 (AI.bp hA))
  | error e9 =>
    rw [hr] at hm1 hm2
    subst hm1
    obtain ⟨⟨u, rfl⟩, h0⟩ := hm2
    refine l_istore (i := 6) C (by decide +kernel) (by decide) ?_
    refine tail_A (T := 1847) (t := 1875) (off := 15) (cd := nI (if e9 = 0 then 1 else 1)) C (by decide +kernel) (by decide +kernel) (by decide +kernel) (by decide +kernel) (by decide +kernel) (by decide +kernel) (by decide) rfl rfl hb h0 (fun q => absurd q (er_nz (Or.inl rfl))) (fun _ => ?_)
    refine l_goto (off := 720) (tgt := 2595) C (by decide +kernel) (by decide) ?_
    exact PL.loc (L' := LI i) ⟨rfl, rfl, rfl, rfl, rfl, trivial⟩ (k z _ _ hC2 hR2 (AI.bp hA))
set_option maxHeartbeats 8000000 in
set_option maxRecDepth 20000 in
theorem s_fits (C : CL mLaw [] G p l s m args meth c) (S : SX G s n xs) (hi : i + 7 ≤ n) (hC : RC x a) (hR : RRf x a) (hA : AI a) (hb : nc + 1 ≤ 601024 ∧ ns + 6 ≤ 7293034) (k : KN G p l e s m args below meth c Q i nc ns) : PL mLaw G p l e room_1 s m args below meth c Q 1878 (LI i) [] x w nc ns := by
  refine l_aload_n (k9 := 1) C (by decide +kernel) rfl rfl ?_
  refine l_arg (i := i) (j := 1) C S (by omega) ⟨by decide +kernel, by decide +kernel, by decide +kernel, by decide +kernel, by decide +kernel⟩ (by decide) rfl rfl ?_
  refine l_aload_n (k9 := 3) C (by decide +kernel) rfl rfl ?_
  refine l_callW (M' := mW_fits) (hh' := hW_fits) (as := [.ref 0, .int (xs (i + 1)), .ref 200]) (rest := []) (idx := 210) C (w_fits hC hA) msw_fits (ws_t 1060 rfl rfl) ⟨by decide, by decide⟩ hb (by decide +kernel) rfl (by decide) ?_
  intro cd w' y hp
  obtain ⟨hC1, hI1, hm1⟩ := hp
  refine l_istore (i := 5) C (by decide +kernel) (by decide) ?_
  refine l_aload_n (k9 := 2) C (by decide +kernel) rfl rfl ?_
  refine l_arg (i := i) (j := 1) C S (by omega) ⟨by decide +kernel, by decide +kernel, by decide +kernel, by decide +kernel, by decide +kernel⟩ (by decide) rfl rfl ?_
  refine l_callX (M' := mX10_fits) (as := [.int (xs (i + 1))]) (rest := []) (idx := 212) C (g_fits (hR.hi hI1) hA) mv_X10_fits (ws_t 1691 rfl rfl) ⟨by decide, by decide⟩ hb (by decide +kernel) rfl rfl rfl rfl (by decide) (fun E x' h => h.elim) ?_
  intro v z hp
  obtain ⟨hR2, hL2, hm2⟩ := hp
  have hC2 := hC1.lo hL2
  cases hr : oFits a (xs (i + 1)) with
  | ok u =>
    rw [hr] at hm1 hm2
    obtain ⟨rfl, rfl⟩ := hm1
    obtain ⟨rfl, h0⟩ := hm2
    refine l_istore (i := 6) C (by decide +kernel) (by decide) ?_
    refine tail_A (T := 1903) (t := 1931) (off := 15) (cd := nI 0) C (by decide +kernel) (by decide +kernel) (by decide +kernel) (by decide +kernel) (by decide +kernel) (by decide +kernel) (by decide) rfl rfl hb h0 (fun _ => ?_) (fun q => absurd rfl q)
    refine tail_B (T := 1919) (t := 1931) C (by decide +kernel) (by decide +kernel) (by decide +kernel) (by decide +kernel) (by decide +kernel) (by decide +kernel) (by decide +kernel) (by decide) rfl rfl rfl ?_
    refine l_goto (off := 664) (tgt := 2595) C (by decide +kernel) (by decide) ?_
    exact PL.loc (L' := LI i) ⟨rfl, rfl, rfl, rfl, rfl, trivial⟩ (k z _ _ hC2 hR2 (AI.bp hA))
  | error e9 =>
    rw [hr] at hm1 hm2
    subst hm1
    obtain ⟨⟨u, rfl⟩, h0⟩ := hm2
    refine l_istore (i := 6) C (by decide +kernel) (by decide) ?_
    refine tail_A (T := 1903) (t := 1931) (off := 15) (cd := nI (if e9 = 0 then 1 else 1)) C (by decide +kernel) (by decide +kernel) (by decide +kernel) (by decide +kernel) (by decide +kernel) (by decide +kernel) (by decide) rfl rfl hb h0 (fun q => absurd q (er_nz (Or.inl rfl))) (fun _ => ?_)
    refine l_goto (off := 664) (tgt := 2595) C (by decide +kernel) (by decide) ?_
    exact PL.loc (L' := LI i) ⟨rfl, rfl, rfl, rfl, rfl, trivial⟩ (k z _ _ hC2 hR2 (AI.bp hA))
set_option maxHeartbeats 8000000 in
set_option maxRecDepth 20000 in
theorem s_listen (C : CL mLaw [] G p l s m args meth c) (S : SX G s n xs) (hi : i + 7 ≤ n) (hC : RC x a) (hR : RRf x a) (hA : AI a) (hb : nc + 1 ≤ 601024 ∧ ns + 6 ≤ 7293034) (k : KN G p l e s m args below meth c Q i nc ns) : PL mLaw G p l e room_1 s m args below meth c Q 1934 (LI i) [] x w nc ns := by
  refine l_aload_n (k9 := 1) C (by decide +kernel) rfl rfl ?_
  refine l_arg (i := i) (j := 1) C S (by omega) ⟨by decide +kernel, by decide +kernel, by decide +kernel, by decide +kernel, by decide +kernel⟩ (by decide) rfl rfl ?_
  refine l_arg (i := i) (j := 2) C S (by omega) ⟨by decide +kernel, by decide +kernel, by decide +kernel, by decide +kernel, by decide +kernel⟩ (by decide) rfl rfl ?_
  refine l_aload_n (k9 := 3) C (by decide +kernel) rfl rfl ?_
  refine l_callW (M' := mW_listen) (hh' := hW_listen) (as := [.ref 0, .int (xs (i + 1)), .int (xs (i + 2)), .ref 200]) (rest := []) (idx := 213) C (w_listen hC hA) msw_listen (ws_t 1075 rfl rfl) ⟨by decide, by decide⟩ hb (by decide +kernel) rfl (by decide) ?_
  intro cd w' y hp
  obtain ⟨hC1, hI1, hm1⟩ := hp
  refine l_istore (i := 5) C (by decide +kernel) (by decide) ?_
  refine l_aload_n (k9 := 2) C (by decide +kernel) rfl rfl ?_
  refine l_arg (i := i) (j := 1) C S (by omega) ⟨by decide +kernel, by decide +kernel, by decide +kernel, by decide +kernel, by decide +kernel⟩ (by decide) rfl rfl ?_
  refine l_arg (i := i) (j := 2) C S (by omega) ⟨by decide +kernel, by decide +kernel, by decide +kernel, by decide +kernel, by decide +kernel⟩ (by decide) rfl rfl ?_
  refine l_callX (M' := mX10_listen) (as := [.int (xs (i + 1)), .int (xs (i + 2))]) (rest := []) (idx := 215) C (g_listen (hR.hi hI1) hA) mv_X10_listen (ws_t 1703 rfl rfl) ⟨by decide, by decide⟩ hb (by decide +kernel) rfl rfl rfl rfl (by decide) (fun E x' h => h.elim) ?_
  intro v z hp
  obtain ⟨hR2, hL2, hm2⟩ := hp
  have hC2 := hC1.lo hL2
  cases hr : oListen a (xs (i + 1)) (xs (i + 2)) with
  | ok u =>
    rw [hr] at hm1 hm2
    obtain ⟨rfl, rfl⟩ := hm1
    obtain ⟨rfl, h0⟩ := hm2
    refine l_istore (i := 6) C (by decide +kernel) (by decide) ?_
    refine tail_A (T := 1971) (t := 1999) (off := 15) (cd := nI 0) C (by decide +kernel) (by decide +kernel) (by decide +kernel) (by decide +kernel) (by decide +kernel) (by decide +kernel) (by decide) rfl rfl hb h0 (fun _ => ?_) (fun q => absurd rfl q)
    refine tail_B (T := 1987) (t := 1999) C (by decide +kernel) (by decide +kernel) (by decide +kernel) (by decide +kernel) (by decide +kernel) (by decide +kernel) (by decide +kernel) (by decide) rfl rfl rfl ?_
    refine l_goto (off := 596) (tgt := 2595) C (by decide +kernel) (by decide) ?_
    exact PL.loc (L' := LI i) ⟨rfl, rfl, rfl, rfl, rfl, trivial⟩ (k z _ _ hC2 hR2 (AI.bp hA))
  | error e9 =>
    rw [hr] at hm1 hm2
    subst hm1
    obtain ⟨⟨u, rfl⟩, h0⟩ := hm2
    refine l_istore (i := 6) C (by decide +kernel) (by decide) ?_
    refine tail_A (T := 1971) (t := 1999) (off := 15) (cd := nI (if e9 = 0 then 1 else 2)) C (by decide +kernel) (by decide +kernel) (by decide +kernel) (by decide +kernel) (by decide +kernel) (by decide +kernel) (by decide) rfl rfl hb h0 (fun q => absurd q (er_nz (Or.inr rfl))) (fun _ => ?_)
    refine l_goto (off := 596) (tgt := 2595) C (by decide +kernel) (by decide) ?_
    exact PL.loc (L' := LI i) ⟨rfl, rfl, rfl, rfl, rfl, trivial⟩ (k z _ _ hC2 hR2 (AI.bp hA))
set_option maxHeartbeats 8000000 in
set_option maxRecDepth 20000 in
theorem s_pauses (C : CL mLaw [] G p l s m args meth c) (S : SX G s n xs) (hi : i + 7 ≤ n) (hC : RC x a) (hR : RRf x a) (hA : AI a) (hb : nc + 1 ≤ 601024 ∧ ns + 6 ≤ 7293034) (k : KN G p l e s m args below meth c Q i nc ns) : PL mLaw G p l e room_1 s m args below meth c Q 2002 (LI i) [] x w nc ns := by
  refine l_aload_n (k9 := 1) C (by decide +kernel) rfl rfl ?_
  refine l_arg (i := i) (j := 1) C S (by omega) ⟨by decide +kernel, by decide +kernel, by decide +kernel, by decide +kernel, by decide +kernel⟩ (by decide) rfl rfl ?_
  refine l_arg (i := i) (j := 2) C S (by omega) ⟨by decide +kernel, by decide +kernel, by decide +kernel, by decide +kernel, by decide +kernel⟩ (by decide) rfl rfl ?_
  refine l_arg (i := i) (j := 3) C S (by omega) ⟨by decide +kernel, by decide +kernel, by decide +kernel, by decide +kernel, by decide +kernel⟩ (by decide) rfl rfl ?_
  refine l_arg (i := i) (j := 4) C S (by omega) ⟨by decide +kernel, by decide +kernel, by decide +kernel, by decide +kernel, by decide +kernel⟩ (by decide) rfl rfl ?_
  refine l_aload_n (k9 := 3) C (by decide +kernel) rfl rfl ?_
  refine l_callW (M' := mW_pauses) (hh' := hW_pauses) (as := [.ref 0, .int (xs (i + 1)), .int (xs (i + 2)), .int (xs (i + 3)), .int (xs (i + 4)), .ref 200]) (rest := []) (idx := 216) C (w_pauses hC hA) msw_pauses (ws_t 1087 rfl rfl) ⟨by decide, by decide⟩ hb (by decide +kernel) rfl (by decide) ?_
  intro cd w' y hp
  obtain ⟨hC1, hI1, hm1⟩ := hp
  refine l_istore (i := 5) C (by decide +kernel) (by decide) ?_
  refine l_aload_n (k9 := 2) C (by decide +kernel) rfl rfl ?_
  refine l_arg (i := i) (j := 1) C S (by omega) ⟨by decide +kernel, by decide +kernel, by decide +kernel, by decide +kernel, by decide +kernel⟩ (by decide) rfl rfl ?_
  refine l_arg (i := i) (j := 2) C S (by omega) ⟨by decide +kernel, by decide +kernel, by decide +kernel, by decide +kernel, by decide +kernel⟩ (by decide) rfl rfl ?_
  refine l_arg (i := i) (j := 3) C S (by omega) ⟨by decide +kernel, by decide +kernel, by decide +kernel, by decide +kernel, by decide +kernel⟩ (by decide) rfl rfl ?_
  refine l_arg (i := i) (j := 4) C S (by omega) ⟨by decide +kernel, by decide +kernel, by decide +kernel, by decide +kernel, by decide +kernel⟩ (by decide) rfl rfl ?_
  refine l_callX (M' := mX10_pauses) (as := [.int (xs (i + 1)), .int (xs (i + 2)), .int (xs (i + 3)), .int (xs (i + 4))]) (rest := []) (idx := 218) C (g_pauses (hR.hi hI1)) mv_X10_pauses (ws_t 1715 rfl rfl) ⟨by decide, by decide⟩ hb (by decide +kernel) rfl rfl rfl rfl (by decide) (fun E x' h => h.elim) ?_
  intro v z hp
  obtain ⟨hR2, hL2, hm2⟩ := hp
  have hC2 := hC1.lo hL2
  cases hr : oPauses (xs (i + 1)) (xs (i + 2)) (xs (i + 3)) (xs (i + 4)) with
  | ok u =>
    rw [hr] at hm1 hm2
    obtain ⟨rfl, rfl⟩ := hm1
    obtain ⟨rfl, h0⟩ := hm2
    refine l_lstore (i9 := 6) C (by decide +kernel) (by decide) ?_
    refine tail_A (T := 2063) (t := 2090) (off := 14) (cd := nI 0) C (by decide +kernel) (by decide +kernel) (by decide +kernel) (by decide +kernel) (by decide +kernel) (by decide +kernel) (by decide) rfl rfl hb h0 (fun _ => ?_) (fun q => absurd rfl q)
    refine l_aload_n (k9 := 3) C (by decide +kernel) rfl rfl ?_
    refine l_iconst (n := 0) (v := 0) C (by decide +kernel) rfl ?_
    refine l_lald C (by decide +kernel) ?_
    refine l_lload (i9 := 6) C (by decide +kernel) rfl ?_
    refine l_lcmp C (by decide +kernel) ?_
    refine l_if_eq (off := 5) (tgt := 2090) C (by decide +kernel) (by decide) (fun _ => ?_) (fun q => absurd (lg_cmp_s _) q)
    refine l_goto (off := 505) (tgt := 2595) C (by decide +kernel) (by decide) ?_
    exact PL.loc (L' := LI i) ⟨rfl, rfl, rfl, rfl, rfl, trivial⟩ (k z _ _ hC2 hR2 (AI.bp hA))
  | error e9 =>
    rw [hr] at hm1 hm2
    subst hm1
    obtain ⟨⟨u, rfl⟩, h0⟩ := hm2
    refine l_lstore (i9 := 6) C (by decide +kernel) (by decide) ?_
    refine tail_A (T := 2063) (t := 2090) (off := 14) (cd := nI (if e9 = 0 then 1 else 1)) C (by decide +kernel) (by decide +kernel) (by decide +kernel) (by decide +kernel) (by decide +kernel) (by decide +kernel) (by decide) rfl rfl hb h0 (fun q => absurd q (er_nz (Or.inl rfl))) (fun _ => ?_)
    refine l_goto (off := 505) (tgt := 2595) C (by decide +kernel) (by decide) ?_
    exact PL.loc (L' := LI i) ⟨rfl, rfl, rfl, rfl, rfl, trivial⟩ (k z _ _ hC2 hR2 (AI.bp hA))
set_option maxHeartbeats 8000000 in
set_option maxRecDepth 20000 in
theorem s_doctor (C : CL mLaw [] G p l s m args meth c) (S : SX G s n xs) (hi : i + 7 ≤ n) (hC : RC x a) (hR : RRf x a) (hA : AI a) (hb : nc + 1 ≤ 601024 ∧ ns + 6 ≤ 7293034) (k : KN G p l e s m args below meth c Q i nc ns) : PL mLaw G p l e room_1 s m args below meth c Q 2093 (LI i) [] x w nc ns := by
  refine l_aload_n (k9 := 1) C (by decide +kernel) rfl rfl ?_
  refine l_arg (i := i) (j := 1) C S (by omega) ⟨by decide +kernel, by decide +kernel, by decide +kernel, by decide +kernel, by decide +kernel⟩ (by decide) rfl rfl ?_
  refine l_arg (i := i) (j := 2) C S (by omega) ⟨by decide +kernel, by decide +kernel, by decide +kernel, by decide +kernel, by decide +kernel⟩ (by decide) rfl rfl ?_
  refine l_aload_n (k9 := 3) C (by decide +kernel) rfl rfl ?_
  refine l_callW (M' := mW_doctor) (hh' := hW_doctor) (as := [.ref 0, .int (xs (i + 1)), .int (xs (i + 2)), .ref 200]) (rest := []) (idx := 219) C (w_doctor hC hA) msw_doctor (ws_t 1104 rfl rfl) ⟨by decide, by decide⟩ hb (by decide +kernel) rfl (by decide) ?_
  intro cd w' y hp
  obtain ⟨hC1, hI1, hm1⟩ := hp
  refine l_istore (i := 5) C (by decide +kernel) (by decide) ?_
  refine l_aload_n (k9 := 2) C (by decide +kernel) rfl rfl ?_
  refine l_arg (i := i) (j := 1) C S (by omega) ⟨by decide +kernel, by decide +kernel, by decide +kernel, by decide +kernel, by decide +kernel⟩ (by decide) rfl rfl ?_
  refine l_arg (i := i) (j := 2) C S (by omega) ⟨by decide +kernel, by decide +kernel, by decide +kernel, by decide +kernel, by decide +kernel⟩ (by decide) rfl rfl ?_
  refine l_callX (M' := mX10_doctor) (as := [.int (xs (i + 1)), .int (xs (i + 2))]) (rest := []) (idx := 221) C (g_doctor (hR.hi hI1) hA) mv_X10_doctor (ws_t 1729 rfl rfl) ⟨by decide, by decide⟩ hb (by decide +kernel) rfl rfl rfl rfl (by decide) (fun E x' h => h.elim) ?_
  intro v z hp
  obtain ⟨hR2, hL2, hm2⟩ := hp
  have hC2 := hC1.lo hL2
  cases hr : oDoctor a (xs (i + 1)) (xs (i + 2)) with
  | ok u =>
    rw [hr] at hm1 hm2
    obtain ⟨rfl, rfl⟩ := hm1
    obtain ⟨rfl, h0⟩ := hm2
    refine l_istore (i := 6) C (by decide +kernel) (by decide) ?_
    refine tail_A (T := 2130) (t := 2158) (off := 15) (cd := nI 0) C (by decide +kernel) (by decide +kernel) (by decide +kernel) (by decide +kernel) (by decide +kernel) (by decide +kernel) (by decide) rfl rfl hb h0 (fun _ => ?_) (fun q => absurd rfl q)
    refine tail_B (T := 2146) (t := 2158) C (by decide +kernel) (by decide +kernel) (by decide +kernel) (by decide +kernel) (by decide +kernel) (by decide +kernel) (by decide +kernel) (by decide) rfl rfl rfl ?_
    refine l_goto (off := 437) (tgt := 2595) C (by decide +kernel) (by decide) ?_
    exact PL.loc (L' := LI i) ⟨rfl, rfl, rfl, rfl, rfl, trivial⟩ (k z _ _ hC2 hR2 (AI.bp hA))
  | error e9 =>
    rw [hr] at hm1 hm2
    subst hm1
    obtain ⟨⟨u, rfl⟩, h0⟩ := hm2
    refine l_istore (i := 6) C (by decide +kernel) (by decide) ?_
    refine tail_A (T := 2130) (t := 2158) (off := 15) (cd := nI (if e9 = 0 then 1 else 1)) C (by decide +kernel) (by decide +kernel) (by decide +kernel) (by decide +kernel) (by decide +kernel) (by decide +kernel) (by decide) rfl rfl hb h0 (fun q => absurd q (er_nz (Or.inl rfl))) (fun _ => ?_)
    refine l_goto (off := 437) (tgt := 2595) C (by decide +kernel) (by decide) ?_
    exact PL.loc (L' := LI i) ⟨rfl, rfl, rfl, rfl, rfl, trivial⟩ (k z _ _ hC2 hR2 (AI.bp hA))
set_option maxHeartbeats 8000000 in
set_option maxRecDepth 20000 in
theorem s_wall (C : CL mLaw [] G p l s m args meth c) (S : SX G s n xs) (hi : i + 7 ≤ n) (hC : RC x a) (hR : RRf x a) (hA : AI a) (hb : nc + 1 ≤ 601024 ∧ ns + 6 ≤ 7293034) (k : KN G p l e s m args below meth c Q i nc ns) : PL mLaw G p l e room_1 s m args below meth c Q 2161 (LI i) [] x w nc ns := by
  refine l_aload_n (k9 := 1) C (by decide +kernel) rfl rfl ?_
  refine l_arg (i := i) (j := 1) C S (by omega) ⟨by decide +kernel, by decide +kernel, by decide +kernel, by decide +kernel, by decide +kernel⟩ (by decide) rfl rfl ?_
  refine l_aload_n (k9 := 3) C (by decide +kernel) rfl rfl ?_
  refine l_callW (M' := mW_wall) (hh' := hW_wall) (as := [.ref 0, .int (xs (i + 1)), .ref 200]) (rest := []) (idx := 222) C (w_wall hC hA) msw_wall (ws_t 1111 rfl rfl) ⟨by decide, by decide⟩ hb (by decide +kernel) rfl (by decide) ?_
  intro cd w' y hp
  obtain ⟨hC1, hI1, hm1⟩ := hp
  refine l_istore (i := 5) C (by decide +kernel) (by decide) ?_
  refine l_aload_n (k9 := 2) C (by decide +kernel) rfl rfl ?_
  refine l_arg (i := i) (j := 1) C S (by omega) ⟨by decide +kernel, by decide +kernel, by decide +kernel, by decide +kernel, by decide +kernel⟩ (by decide) rfl rfl ?_
  refine l_callX (M' := mX10_wall) (as := [.int (xs (i + 1))]) (rest := []) (idx := 224) C (g_wall (hR.hi hI1) hA) mv_X10_wall (ws_t 1733 rfl rfl) ⟨by decide, by decide⟩ hb (by decide +kernel) rfl rfl rfl rfl (by decide) (fun E x' h => h.elim) ?_
  intro v z hp
  obtain ⟨hR2, hL2, hm2⟩ := hp
  have hC2 := hC1.lo hL2
  cases hr : oWall a (xs (i + 1)) with
  | ok u =>
    rw [hr] at hm1 hm2
    obtain ⟨rfl, rfl⟩ := hm1
    obtain ⟨rfl, h0⟩ := hm2
    refine l_istore (i := 6) C (by decide +kernel) (by decide) ?_
    refine tail_A (T := 2186) (t := 2214) (off := 15) (cd := nI 0) C (by decide +kernel) (by decide +kernel) (by decide +kernel) (by decide +kernel) (by decide +kernel) (by decide +kernel) (by decide) rfl rfl hb h0 (fun _ => ?_) (fun q => absurd rfl q)
    refine tail_B (T := 2202) (t := 2214) C (by decide +kernel) (by decide +kernel) (by decide +kernel) (by decide +kernel) (by decide +kernel) (by decide +kernel) (by decide +kernel) (by decide) rfl rfl rfl ?_
    refine l_goto (off := 381) (tgt := 2595) C (by decide +kernel) (by decide) ?_
    exact PL.loc (L' := LI i) ⟨rfl, rfl, rfl, rfl, rfl, trivial⟩ (k z _ _ hC2 hR2 (AI.bp hA))
  | error e9 =>
    rw [hr] at hm1 hm2
    subst hm1
    obtain ⟨⟨u, rfl⟩, h0⟩ := hm2
    refine l_istore (i := 6) C (by decide +kernel) (by decide) ?_
    refine tail_A (T := 2186) (t := 2214) (off := 15) (cd := nI (if e9 = 0 then 1 else 1)) C (by decide +kernel) (by decide +kernel) (by decide +kernel) (by decide +kernel) (by decide +kernel) (by decide +kernel) (by decide) rfl rfl hb h0 (fun q => absurd q (er_nz (Or.inl rfl))) (fun _ => ?_)
    refine l_goto (off := 381) (tgt := 2595) C (by decide +kernel) (by decide) ?_
    exact PL.loc (L' := LI i) ⟨rfl, rfl, rfl, rfl, rfl, trivial⟩ (k z _ _ hC2 hR2 (AI.bp hA))
end LSteps
