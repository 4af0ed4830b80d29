section LSteps
variable {G : GG} {p : Program} {l : Launch} {e : Env} {s : State} {m : MethodId} {args : Array Value} {below : List Frame} {meth : Method} {c : Code} {Q : State → Prop} {x : XS} {a : AS} {w : Int64} {nc ns n i : Nat} {xs : Nat → Int32}
set_option maxHeartbeats 8000000 in
set_option maxRecDepth 20000 in
theorem s_plugs (C : CL mLaw [] G p l s m args meth c) (S : SX G s n xs) (hi : i + 7 ≤ n) (hC : RC x a) (hR : RRf x a) (hA : AI a) (hb : nc + 1 ≤ 601024 ∧ ns + 6 ≤ 7293034) (k : KN G p l e s m args below meth c Q i nc ns) : PL mLaw G p l e room_1 s m args below meth c Q 2217 (LI i) [] x w nc ns := by
  refine l_aload_n (k9 := 1) C (by decide +kernel) rfl rfl ?_
  refine l_arg (i := i) (j := 1) C S (by omega) ⟨by decide +kernel, by decide +kernel, by decide +kernel, by decide +kernel, by decide +kernel⟩ (by decide) rfl rfl ?_
  refine l_arg (i := i) (j := 2) C S (by omega) ⟨by decide +kernel, by decide +kernel, by decide +kernel, by decide +kernel, by decide +kernel⟩ (by decide) rfl rfl ?_
  refine l_arg (i := i) (j := 3) C S (by omega) ⟨by decide +kernel, by decide +kernel, by decide +kernel, by decide +kernel, by decide +kernel⟩ (by decide) rfl rfl ?_
  refine l_aload_n (k9 := 3) C (by decide +kernel) rfl rfl ?_
  refine l_callW (M' := mW_plugs) (hh' := hW_plugs) (as := [.ref 0, .int (xs (i + 1)), .int (xs (i + 2)), .int (xs (i + 3)), .ref 200]) (rest := []) (idx := 225) C (w_plugs hC hA) msw_plugs (ws_t 1118 rfl rfl) ⟨by decide, by decide⟩ hb (by decide +kernel) rfl (by decide) ?_
  intro cd w' y hp
  obtain ⟨hC1, hI1, hm1⟩ := hp
  refine l_istore (i := 5) C (by decide +kernel) (by decide) ?_
  refine l_aload_n (k9 := 2) C (by decide +kernel) rfl rfl ?_
  refine l_arg (i := i) (j := 1) C S (by omega) ⟨by decide +kernel, by decide +kernel, by decide +kernel, by decide +kernel, by decide +kernel⟩ (by decide) rfl rfl ?_
  refine l_arg (i := i) (j := 2) C S (by omega) ⟨by decide +kernel, by decide +kernel, by decide +kernel, by decide +kernel, by decide +kernel⟩ (by decide) rfl rfl ?_
  refine l_arg (i := i) (j := 3) C S (by omega) ⟨by decide +kernel, by decide +kernel, by decide +kernel, by decide +kernel, by decide +kernel⟩ (by decide) rfl rfl ?_
  refine l_callX (M' := mX10_plugs) (as := [.int (xs (i + 1)), .int (xs (i + 2)), .int (xs (i + 3))]) (rest := []) (idx := 227) C (g_plugs (hR.hi hI1) hA) mv_X10_plugs (ws_t 1737 rfl rfl) ⟨by decide, by decide⟩ hb (by decide +kernel) rfl rfl rfl rfl (by decide) (fun E x' h => h.elim) ?_
  intro v z hp
  obtain ⟨hR2, hL2, hm2⟩ := hp
  have hC2 := hC1.lo hL2
  cases hr : oPlugs a (xs (i + 1)) (xs (i + 2)) (xs (i + 3)) with
  | ok u =>
    rw [hr] at hm1 hm2
    obtain ⟨rfl, rfl⟩ := hm1
    obtain ⟨rfl, h0⟩ := hm2
    refine l_istore (i := 6) C (by decide +kernel) (by decide) ?_
    refine tail_A (T := 2266) (t := 2294) (off := 15) (cd := nI 0) C (by decide +kernel) (by decide +kernel) (by decide +kernel) (by decide +kernel) (by decide +kernel) (by decide +kernel) (by decide) rfl rfl hb h0 (fun _ => ?_) (fun q => absurd rfl q)
    refine tail_B (T := 2282) (t := 2294) C (by decide +kernel) (by decide +kernel) (by decide +kernel) (by decide +kernel) (by decide +kernel) (by decide +kernel) (by decide +kernel) (by decide) rfl rfl rfl ?_
    refine l_goto (off := 301) (tgt := 2595) C (by decide +kernel) (by decide) ?_
    exact PL.loc (L' := LI i) ⟨rfl, rfl, rfl, rfl, rfl, trivial⟩ (k z _ _ hC2 hR2 (AI.bp hA))
  | error e9 =>
    rw [hr] at hm1 hm2
    subst hm1
    obtain ⟨⟨u, rfl⟩, h0⟩ := hm2
    refine l_istore (i := 6) C (by decide +kernel) (by decide) ?_
    refine tail_A (T := 2266) (t := 2294) (off := 15) (cd := nI (if e9 = 0 then 1 else 2)) C (by decide +kernel) (by decide +kernel) (by decide +kernel) (by decide +kernel) (by decide +kernel) (by decide +kernel) (by decide) rfl rfl hb h0 (fun q => absurd q (er_nz (Or.inr rfl))) (fun _ => ?_)
    refine l_goto (off := 301) (tgt := 2595) C (by decide +kernel) (by decide) ?_
    exact PL.loc (L' := LI i) ⟨rfl, rfl, rfl, rfl, rfl, trivial⟩ (k z _ _ hC2 hR2 (AI.bp hA))
set_option maxHeartbeats 8000000 in
set_option maxRecDepth 20000 in
theorem s_nights (C : CL mLaw [] G p l s m args meth c) (S : SX G s n xs) (hi : i + 7 ≤ n) (hC : RC x a) (hR : RRf x a) (hA : AI a) (hb : nc + 1 ≤ 601024 ∧ ns + 6 ≤ 7293034) (k : KN G p l e s m args below meth c Q i nc ns) : PL mLaw G p l e room_1 s m args below meth c Q 2297 (LI i) [] x w nc ns := by
  refine l_aload_n (k9 := 1) C (by decide +kernel) rfl rfl ?_
  refine l_arg (i := i) (j := 1) C S (by omega) ⟨by decide +kernel, by decide +kernel, by decide +kernel, by decide +kernel, by decide +kernel⟩ (by decide) rfl rfl ?_
  refine l_arg (i := i) (j := 2) C S (by omega) ⟨by decide +kernel, by decide +kernel, by decide +kernel, by decide +kernel, by decide +kernel⟩ (by decide) rfl rfl ?_
  refine l_arg (i := i) (j := 3) C S (by omega) ⟨by decide +kernel, by decide +kernel, by decide +kernel, by decide +kernel, by decide +kernel⟩ (by decide) rfl rfl ?_
  refine l_arg (i := i) (j := 4) C S (by omega) ⟨by decide +kernel, by decide +kernel, by decide +kernel, by decide +kernel, by decide +kernel⟩ (by decide) rfl rfl ?_
  refine l_arg (i := i) (j := 5) C S (by omega) ⟨by decide +kernel, by decide +kernel, by decide +kernel, by decide +kernel, by decide +kernel⟩ (by decide) rfl rfl ?_
  refine l_aload_n (k9 := 3) C (by decide +kernel) rfl rfl ?_
  refine l_callW (M' := mW_nights) (hh' := hW_nights) (as := [.ref 0, .int (xs (i + 1)), .int (xs (i + 2)), .int (xs (i + 3)), .int (xs (i + 4)), .int (xs (i + 5)), .ref 200]) (rest := []) (idx := 228) C (w_nights hC hA) msw_nights (ws_t 1125 rfl rfl) ⟨by decide, by decide⟩ hb (by decide +kernel) rfl (by decide) ?_
  intro cd w' y hp
  obtain ⟨hC1, hI1, hm1⟩ := hp
  refine l_istore (i := 5) C (by decide +kernel) (by decide) ?_
  refine l_aload_n (k9 := 2) C (by decide +kernel) rfl rfl ?_
  refine l_arg (i := i) (j := 1) C S (by omega) ⟨by decide +kernel, by decide +kernel, by decide +kernel, by decide +kernel, by decide +kernel⟩ (by decide) rfl rfl ?_
  refine l_arg (i := i) (j := 2) C S (by omega) ⟨by decide +kernel, by decide +kernel, by decide +kernel, by decide +kernel, by decide +kernel⟩ (by decide) rfl rfl ?_
  refine l_arg (i := i) (j := 3) C S (by omega) ⟨by decide +kernel, by decide +kernel, by decide +kernel, by decide +kernel, by decide +kernel⟩ (by decide) rfl rfl ?_
  refine l_arg (i := i) (j := 4) C S (by omega) ⟨by decide +kernel, by decide +kernel, by decide +kernel, by decide +kernel, by decide +kernel⟩ (by decide) rfl rfl ?_
  refine l_arg (i := i) (j := 5) C S (by omega) ⟨by decide +kernel, by decide +kernel, by decide +kernel, by decide +kernel, by decide +kernel⟩ (by decide) rfl rfl ?_
  refine l_callX (M' := mX10_nights) (as := [.int (xs (i + 1)), .int (xs (i + 2)), .int (xs (i + 3)), .int (xs (i + 4)), .int (xs (i + 5))]) (rest := []) (idx := 230) C (g_nights (hR.hi hI1) hA) mv_X10_nights (ws_t 1741 rfl rfl) ⟨by decide, by decide⟩ hb (by decide +kernel) rfl rfl rfl rfl (by decide) (fun E x' h => h.elim) ?_
  intro v z hp
  obtain ⟨hR2, hL2, hm2⟩ := hp
  have hC2 := hC1.lo hL2
  cases hr : oNights a (xs (i + 1)) (xs (i + 2)) (xs (i + 3)) (xs (i + 4)) (xs (i + 5)) with
  | ok u =>
    rw [hr] at hm1 hm2
    obtain ⟨rfl, rfl⟩ := hm1
    obtain ⟨rfl, h0⟩ := hm2
    refine l_istore (i := 6) C (by decide +kernel) (by decide) ?_
    refine tail_A (T := 2370) (t := 2398) (off := 15) (cd := nI 0) C (by decide +kernel) (by decide +kernel) (by decide +kernel) (by decide +kernel) (by decide +kernel) (by decide +kernel) (by decide) rfl rfl hb h0 (fun _ => ?_) (fun q => absurd rfl q)
    refine tail_B (T := 2386) (t := 2398) C (by decide +kernel) (by decide +kernel) (by decide +kernel) (by decide +kernel) (by decide +kernel) (by decide +kernel) (by decide +kernel) (by decide) rfl rfl rfl ?_
    refine l_goto (off := 197) (tgt := 2595) C (by decide +kernel) (by decide) ?_
    exact PL.loc (L' := LI i) ⟨rfl, rfl, rfl, rfl, rfl, trivial⟩ (k z _ _ hC2 hR2 (AI.bp hA))
  | error e9 =>
    rw [hr] at hm1 hm2
    subst hm1
    obtain ⟨⟨u, rfl⟩, h0⟩ := hm2
    refine l_istore (i := 6) C (by decide +kernel) (by decide) ?_
    refine tail_A (T := 2370) (t := 2398) (off := 15) (cd := nI (if e9 = 0 then 1 else 1)) C (by decide +kernel) (by decide +kernel) (by decide +kernel) (by decide +kernel) (by decide +kernel) (by decide +kernel) (by decide) rfl rfl hb h0 (fun q => absurd q (er_nz (Or.inl rfl))) (fun _ => ?_)
    refine l_goto (off := 197) (tgt := 2595) C (by decide +kernel) (by decide) ?_
    exact PL.loc (L' := LI i) ⟨rfl, rfl, rfl, rfl, rfl, trivial⟩ (k z _ _ hC2 hR2 (AI.bp hA))
set_option maxHeartbeats 8000000 in
set_option maxRecDepth 20000 in
theorem s_span (C : CL mLaw [] G p l s m args meth c) (S : SX G s n xs) (hi : i + 7 ≤ n) (hC : RC x a) (hR : RRf x a) (hA : AI a) (hb : nc + 1 ≤ 601024 ∧ ns + 6 ≤ 7293034) (k : KN G p l e s m args below meth c Q i nc ns) : PL mLaw G p l e room_1 s m args below meth c Q 2401 (LI i) [] x w nc ns := by
  refine l_aload_n (k9 := 1) C (by decide +kernel) rfl rfl ?_
  refine l_arg (i := i) (j := 1) C S (by omega) ⟨by decide +kernel, by decide +kernel, by decide +kernel, by decide +kernel, by decide +kernel⟩ (by decide) rfl rfl ?_
  refine l_arg (i := i) (j := 2) C S (by omega) ⟨by decide +kernel, by decide +kernel, by decide +kernel, by decide +kernel, by decide +kernel⟩ (by decide) rfl rfl ?_
  refine l_arg (i := i) (j := 3) C S (by omega) ⟨by decide +kernel, by decide +kernel, by decide +kernel, by decide +kernel, by decide +kernel⟩ (by decide) rfl rfl ?_
  refine l_arg (i := i) (j := 4) C S (by omega) ⟨by decide +kernel, by decide +kernel, by decide +kernel, by decide +kernel, by decide +kernel⟩ (by decide) rfl rfl ?_
  refine l_arg (i := i) (j := 5) C S (by omega) ⟨by decide +kernel, by decide +kernel, by decide +kernel, by decide +kernel, by decide +kernel⟩ (by decide) rfl rfl ?_
  refine l_arg6 (i := i) C S (by omega) (by decide +kernel) (by decide +kernel) (by decide +kernel) (by decide +kernel) (by decide +kernel) rfl rfl ?_
  refine l_aload_n (k9 := 3) C (by decide +kernel) rfl rfl ?_
  refine l_callW (M' := mW_span) (hh' := hW_span) (as := [.ref 0, .int (xs (i + 1)), .int (xs (i + 2)), .int (xs (i + 3)), .int (xs (i + 4)), .int (xs (i + 5)), .int (xs (i + 6)), .ref 200]) (rest := []) (idx := 231) C (w_span hC hA) msw_span (ws_t 1141 rfl rfl) ⟨by decide, by decide⟩ hb (by decide +kernel) rfl (by decide) ?_
  intro cd w' y hp
  obtain ⟨hC1, hI1, hm1⟩ := hp
  refine l_istore (i := 5) C (by decide +kernel) (by decide) ?_
  refine l_aload_n (k9 := 2) C (by decide +kernel) rfl rfl ?_
  refine l_arg (i := i) (j := 1) C S (by omega) ⟨by decide +kernel, by decide +kernel, by decide +kernel, by decide +kernel, by decide +kernel⟩ (by decide) rfl rfl ?_
  refine l_arg (i := i) (j := 2) C S (by omega) ⟨by decide +kernel, by decide +kernel, by decide +kernel, by decide +kernel, by decide +kernel⟩ (by decide) rfl rfl ?_
  refine l_arg (i := i) (j := 3) C S (by omega) ⟨by decide +kernel, by decide +kernel, by decide +kernel, by decide +kernel, by decide +kernel⟩ (by decide) rfl rfl ?_
  refine l_arg (i := i) (j := 4) C S (by omega) ⟨by decide +kernel, by decide +kernel, by decide +kernel, by decide +kernel, by decide +kernel⟩ (by decide) rfl rfl ?_
  refine l_arg (i := i) (j := 5) C S (by omega) ⟨by decide +kernel, by decide +kernel, by decide +kernel, by decide +kernel, by decide +kernel⟩ (by decide) rfl rfl ?_
  refine l_arg6 (i := i) C S (by omega) (by decide +kernel) (by decide +kernel) (by decide +kernel) (by decide +kernel) (by decide +kernel) rfl rfl ?_
  refine l_callX (M' := mX10_span) (as := [.int (xs (i + 1)), .int (xs (i + 2)), .int (xs (i + 3)), .int (xs (i + 4)), .int (xs (i + 5)), .int (xs (i + 6))]) (rest := []) (idx := 234) C (g_span (hR.hi hI1) hA) mv_X10_span (ws_t 1761 rfl rfl) ⟨by decide, by decide⟩ hb (by decide +kernel) rfl rfl rfl rfl (by decide) (fun E x' h => h.elim) ?_
  intro v z hp
  rw [← oSpan_R] at hp
  obtain ⟨hR2, hL2, hm2⟩ := hp
  have hC2 := hC1.lo hL2
  cases hr : oSpan a (xs (i + 1)) (xs (i + 2)) (xs (i + 3)) (xs (i + 4)) (xs (i + 5)) (xs (i + 6)) with
  | ok u =>
    rw [hr] at hm1 hm2
    obtain ⟨rfl, rfl⟩ := hm1
    obtain ⟨rfl, h0⟩ := hm2
    refine l_istore (i := 6) C (by decide +kernel) (by decide) ?_
    refine tail_A (T := 2488) (t := 2516) (off := 15) (cd := nI 0) C (by decide +kernel) (by decide +kernel) (by decide +kernel) (by decide +kernel) (by decide +kernel) (by decide +kernel) (by decide) rfl rfl hb h0 (fun _ => ?_) (fun q => absurd rfl q)
    refine tail_B (T := 2504) (t := 2516) C (by decide +kernel) (by decide +kernel) (by decide +kernel) (by decide +kernel) (by decide +kernel) (by decide +kernel) (by decide +kernel) (by decide) rfl rfl rfl ?_
    refine l_goto (off := 79) (tgt := 2595) C (by decide +kernel) (by decide) ?_
    exact PL.loc (L' := LI i) ⟨rfl, rfl, rfl, rfl, rfl, trivial⟩ (k z _ _ hC2 hR2 (AI.bp hA))
  | error e9 =>
    rw [hr] at hm1 hm2
    subst hm1
    obtain ⟨⟨u, rfl⟩, h0⟩ := hm2
    refine l_istore (i := 6) C (by decide +kernel) (by decide) ?_
    refine tail_A (T := 2488) (t := 2516) (off := 15) (cd := nI (if e9 = 0 then 1 else 1)) C (by decide +kernel) (by decide +kernel) (by decide +kernel) (by decide +kernel) (by decide +kernel) (by decide +kernel) (by decide) rfl rfl hb h0 (fun q => absurd q (er_nz (Or.inl rfl))) (fun _ => ?_)
    refine l_goto (off := 79) (tgt := 2595) C (by decide +kernel) (by decide) ?_
    exact PL.loc (L' := LI i) ⟨rfl, rfl, rfl, rfl, rfl, trivial⟩ (k z _ _ hC2 hR2 (AI.bp hA))
set_option maxHeartbeats 8000000 in
set_option maxRecDepth 20000 in
theorem s_image (C : CL mLaw [] G p l s m args meth c) (S : SX G s n xs) (hi : i + 7 ≤ n) (hC : RC x a) (hR : RRf x a) (hA : AI a) (hb : nc + 1 ≤ 601024 ∧ ns + 6 ≤ 7293034) (k : KN G p l e s m args below meth c Q i nc ns) : PL mLaw G p l e room_1 s m args below meth c Q 2519 (LI i) [] x w nc ns := by
  refine l_aload_n (k9 := 1) C (by decide +kernel) rfl rfl ?_
  have hok : ∃ u, (oImage a).1 = .ok u := by
    unfold oImage
    first
      | exact ⟨_, rfl⟩
      | (split
         · exact ⟨_, rfl⟩
         · exact ⟨_, rfl⟩)
  obtain ⟨u, hr⟩ := hok
  refine l_callX (M' := mX9_image) (as := []) (rest := []) (idx := 235) C (f_image hC hA) mv_X9_image (ws_t 398 rfl rfl) ⟨by decide, by decide⟩ hb (by decide +kernel) rfl rfl rfl rfl (by decide) ?_ ?_
  · intro E y hp
    obtain ⟨k9, h9, -⟩ := hp
    rw [hr] at h9
    cases h9
  intro v y hp
  obtain ⟨u1, hr1, rfl, hC1, hI1⟩ := hp
  rw [hr] at hr1
  cases hr1
  refine l_aload_n (k9 := 2) C (by decide +kernel) rfl rfl ?_
  refine l_callX (M' := mX10_image) (as := []) (rest := [.int u]) (idx := 238) C (g_image (hR.hi hI1) hA) mv_X10_image (ws_t 1765 rfl rfl) ⟨by decide, by decide⟩ hb (by decide +kernel) rfl rfl rfl rfl (Nat.le_of_ble_eq_true rfl) (fun E x' h => h.elim) ?_
  intro v z hp
  obtain ⟨hR2, hL2, hm2⟩ := hp
  have hC2 := hC1.lo hL2
  rw [hr] at hm2
  obtain ⟨rfl, h0⟩ := hm2
  exact l_icmp_eq (off := 68) (tgt := 2595) C (by decide +kernel) (by decide) (fun _ => k z _ _ hC2 hR2 (AI.image hA)) (fun q => absurd rfl q)
set_option maxHeartbeats 8000000 in
set_option maxRecDepth 20000 in
theorem s_restore (C : CL mLaw [] G p l s m args meth c) (S : SX G s n xs) (hi : i + 7 ≤ n) (hC : RC x a) (hR : RRf x a) (hA : AI a) (hb : nc + 1 ≤ 601024 ∧ ns + 6 ≤ 7293034) (k : KN G p l e s m args below meth c Q i nc ns) : PL mLaw G p l e room_1 s m args below meth c Q 2532 (LI i) [] x w nc ns := by
  refine l_aload_n (k9 := 1) C (by decide +kernel) rfl rfl ?_
  have hok : ∃ u, (oRestore a).1 = .ok u := by
    unfold oRestore
    first
      | exact ⟨_, rfl⟩
      | (split
         · exact ⟨_, rfl⟩
         · exact ⟨_, rfl⟩)
  obtain ⟨u, hr⟩ := hok
  refine l_callX (M' := mX9_restore) (as := []) (rest := []) (idx := 239) C (f_restore hC hA) mv_X9_restore (ws_t 411 rfl rfl) ⟨by decide, by decide⟩ hb (by decide +kernel) rfl rfl rfl rfl (by decide) ?_ ?_
  · intro E y hp
    obtain ⟨k9, h9, -⟩ := hp
    rw [hr] at h9
    cases h9
  intro v y hp
  obtain ⟨u1, hr1, rfl, hC1, hI1⟩ := hp
  rw [hr] at hr1
  cases hr1
  refine l_aload_n (k9 := 2) C (by decide +kernel) rfl rfl ?_
  refine l_callX (M' := mX10_restore) (as := []) (rest := [.int u]) (idx := 242) C (g_restore (hR.hi hI1) hA) mv_X10_restore (ws_t 1777 rfl rfl) ⟨by decide, by decide⟩ hb (by decide +kernel) rfl rfl rfl rfl (Nat.le_of_ble_eq_true rfl) (fun E x' h => h.elim) ?_
  intro v z hp
  obtain ⟨hR2, hL2, hm2⟩ := hp
  have hC2 := hC1.lo hL2
  rw [hr] at hm2
  obtain ⟨rfl, h0⟩ := hm2
  exact l_icmp_eq (off := 55) (tgt := 2595) C (by decide +kernel) (by decide) (fun _ => k z _ _ hC2 hR2 (AI.restore hA)) (fun q => absurd rfl q)
set_option maxHeartbeats 8000000 in
set_option maxRecDepth 20000 in
theorem s_status (C : CL mLaw [] G p l s m args meth c) (S : SX G s n xs) (hi : i + 7 ≤ n) (hC : RC x a) (hR : RRf x a) (hA : AI a) (hb : nc + 1 ≤ 601024 ∧ ns + 6 ≤ 7293034) (k : KN G p l e s m args below meth c Q i nc ns) : PL mLaw G p l e room_1 s m args below meth c Q 2545 (LI i) [] x w nc ns := by
  refine l_aload_n (k9 := 1) C (by decide +kernel) rfl rfl ?_
  refine l_arg (i := i) (j := 1) C S (by omega) ⟨by decide +kernel, by decide +kernel, by decide +kernel, by decide +kernel, by decide +kernel⟩ (by decide) rfl rfl ?_
  have hok : ∃ u, oStatus a (xs (i + 1)) = .ok u := by
    unfold oStatus
    first
      | exact ⟨_, rfl⟩
      | (split
         · exact ⟨_, rfl⟩
         · exact ⟨_, rfl⟩)
  obtain ⟨u, hr⟩ := hok
  refine l_callX (M' := mX9_status) (as := [.int (xs (i + 1))]) (rest := []) (idx := 243) C (f_status hC hA) mv_X9_status (ws_t 419 rfl rfl) ⟨by decide, by decide⟩ hb (by decide +kernel) rfl rfl rfl rfl (by decide) ?_ ?_
  · intro E y hp
    obtain ⟨k9, h9, -⟩ := hp
    rw [hr] at h9
    cases h9
  intro v y hp
  obtain ⟨u1, hr1, rfl, hC1, hI1⟩ := hp
  rw [hr] at hr1
  cases hr1
  refine l_aload_n (k9 := 2) C (by decide +kernel) rfl rfl ?_
  refine l_arg (i := i) (j := 1) C S (by omega) ⟨by decide +kernel, by decide +kernel, by decide +kernel, by decide +kernel, by decide +kernel⟩ (by decide) rfl rfl ?_
  refine l_callX (M' := mX10_status) (as := [.int (xs (i + 1))]) (rest := [.int u]) (idx := 246) C (g_status (hR.hi hI1) hA) mv_X10_status (ws_t 1781 rfl rfl) ⟨by decide, by decide⟩ hb (by decide +kernel) rfl rfl rfl rfl (Nat.le_of_ble_eq_true rfl) (fun E x' h => h.elim) ?_
  intro v z hp
  obtain ⟨hR2, hL2, hm2⟩ := hp
  have hC2 := hC1.lo hL2
  rw [hr] at hm2
  obtain ⟨rfl, h0⟩ := hm2
  exact l_icmp_eq (off := 30) (tgt := 2595) C (by decide +kernel) (by decide) (fun _ => k z _ _ hC2 hR2 (AI.bp hA)) (fun q => absurd rfl q)
set_option maxHeartbeats 8000000 in
set_option maxRecDepth 20000 in
theorem s_count (C : CL mLaw [] G p l s m args meth c) (S : SX G s n xs) (hi : i + 7 ≤ n) (hC : RC x a) (hR : RRf x a) (hA : AI a) (hb : nc + 1 ≤ 601024 ∧ ns + 6 ≤ 7293034) (k : KN G p l e s m args below meth c Q i nc ns) : PL mLaw G p l e room_1 s m args below meth c Q 2570 (LI i) [] x w nc ns := by
  refine l_aload_n (k9 := 1) C (by decide +kernel) rfl rfl ?_
  refine l_arg (i := i) (j := 1) C S (by omega) ⟨by decide +kernel, by decide +kernel, by decide +kernel, by decide +kernel, by decide +kernel⟩ (by decide) rfl rfl ?_
  have hok : ∃ u, oCount a (xs (i + 1)) = .ok u := by
    unfold oCount
    first
      | exact ⟨_, rfl⟩
      | (split
         · exact ⟨_, rfl⟩
         · exact ⟨_, rfl⟩)
  obtain ⟨u, hr⟩ := hok
  refine l_callX (M' := mX9_count) (as := [.int (xs (i + 1))]) (rest := []) (idx := 247) C (f_count hC hA) mv_X9_count (ws_t 423 rfl rfl) ⟨by decide, by decide⟩ hb (by decide +kernel) rfl rfl rfl rfl (by decide) ?_ ?_
  · intro E y hp
    obtain ⟨k9, h9, -⟩ := hp
    rw [hr] at h9
    cases h9
  intro v y hp
  obtain ⟨u1, hr1, rfl, hC1, hI1⟩ := hp
  rw [hr] at hr1
  cases hr1
  refine l_aload_n (k9 := 2) C (by decide +kernel) rfl rfl ?_
  refine l_arg (i := i) (j := 1) C S (by omega) ⟨by decide +kernel, by decide +kernel, by decide +kernel, by decide +kernel, by decide +kernel⟩ (by decide) rfl rfl ?_
  refine l_callX (M' := mX10_count) (as := [.int (xs (i + 1))]) (rest := [.int u]) (idx := 250) C (g_count (hR.hi hI1) hA) mv_X10_count (ws_t 1785 rfl rfl) ⟨by decide, by decide⟩ hb (by decide +kernel) rfl rfl rfl rfl (Nat.le_of_ble_eq_true rfl) (fun E x' h => h.elim) ?_
  intro v z hp
  obtain ⟨hR2, hL2, hm2⟩ := hp
  have hC2 := hC1.lo hL2
  rw [hr] at hm2
  obtain ⟨rfl, h0⟩ := hm2
  exact l_icmp_eq (off := 5) (tgt := 2595) C (by decide +kernel) (by decide) (fun _ => k z _ _ hC2 hR2 (AI.bp hA)) (fun q => absurd rfl q)
end LSteps
