/-! THE LAW'S STEPS -/
def KN (G : GG) (p : Program) (l : Launch) (e : Env) (s : State) (m : MethodId) (args : Array Value) (below : List Frame) (meth : Method) (c : Code) (Q : State → Prop) (i nc ns : Nat) : Prop := ∀ (y : XS) (w' : Int64) (a' : AS), RC y a' → RRf y a' → AI a' → PL mLaw G p l e room_1 s m args below meth c Q 2595 (LI i) [] y w' (nc + 1) (ns + 6)
theorem er_nz {k c1 : Nat} (h : c1 = 1 ∨ c1 = 2) : ¬ nI (if k = 0 then 1 else c1) = 0 := by
  rcases h with rfl | rfl
  · split <;> decide
  · split <;> decide
section LLong
variable {M : MD} {hh : List (Nat × Nat × Nat × Nat)} {G : GG} {p : Program} {l : Launch} {e : Env} {s : State} {m : MethodId} {args : Array Value} {below : List Frame} {meth : Method} {c : Code} {Q : State → Prop} {x : XS} {a : AS} {w : Int64} {nc ns n i : Nat} {xs : Nat → Int32} {R : Room} {L : List (Nat × Value)} {st : List Value} {pc : Nat}
theorem l_lload {i9 : Nat} {v : Int64} (C : CL M hh G p l s m args meth c) (hd : decode M.2.1 pc = .ok (.lload i9, 2)) (hv : lg L i9 = some (.long v)) (k : PL M G p l e R s m args below meth c Q (pc + 2) L (.long v :: st) x w nc ns) : PL M G p l e R s m args below meth c Q pc L st x w nc ns := by
  intro H locs ls hH hS hL
  exact lv_lload C.1 C.2.1 hd (lg_at hL hv) (k H locs ls hH hS hL)
theorem l_lstore {i9 : Nat} {v : Int64} (C : CL M hh G p l s m args meth c) (hd : decode M.2.1 pc = .ok (.lstore i9, 2)) (hn : i9 + 1 < M.2.2.1) (k : PL M G p l e R s m args below meth c Q (pc + 2) (l2 L i9 (.long v)) st x w nc ns) : PL M G p l e R s m args below meth c Q pc L (.long v :: st) x w nc ns := by
  intro H locs ls hH hS hL
  exact lv_lstore C.1 C.2.1 hd hL hn (trL_l2 G L i9 (.long v)) (fun ls2 hL2 => k H locs ls2 hH hS hL2)
end LLong
section LSteps
variable {G : GG} {p : Program} {l : Launch} {e : Env} {s : State} {m : MethodId} {args : Array Value} {below : List Frame} {meth : Method} {c : Code} {Q : State → Prop} {x : XS} {a : AS} {w : Int64} {nc ns n i : Nat} {xs : Nat → Int32}
set_option maxHeartbeats 8000000 in
set_option maxRecDepth 20000 in
theorem s_feed (C : CL mLaw [] G p l s m args meth c) (S : SX G s n xs) (hi : i + 7 ≤ n) (hC : RC x a) (hR : RRf x a) (hA : AI a) (hb : nc + 1 ≤ 601024 ∧ ns + 6 ≤ 7293034) (k : KN G p l e s m args below meth c Q i nc ns) : PL mLaw G p l e room_1 s m args below meth c Q 208 (LI i) [] x w nc ns := by
  refine l_aload_n (k9 := 1) C (by decide +kernel) rfl rfl ?_
  refine l_arg (i := i) (j := 1) C S (by omega) ⟨by decide +kernel, by decide +kernel, by decide +kernel, by decide +kernel, by decide +kernel⟩ (by decide) rfl rfl ?_
  refine l_arg (i := i) (j := 2) C S (by omega) ⟨by decide +kernel, by decide +kernel, by decide +kernel, by decide +kernel, by decide +kernel⟩ (by decide) rfl rfl ?_
  refine l_arg (i := i) (j := 3) C S (by omega) ⟨by decide +kernel, by decide +kernel, by decide +kernel, by decide +kernel, by decide +kernel⟩ (by decide) rfl rfl ?_
  refine l_arg (i := i) (j := 4) C S (by omega) ⟨by decide +kernel, by decide +kernel, by decide +kernel, by decide +kernel, by decide +kernel⟩ (by decide) rfl rfl ?_
  refine l_arg (i := i) (j := 5) C S (by omega) ⟨by decide +kernel, by decide +kernel, by decide +kernel, by decide +kernel, by decide +kernel⟩ (by decide) rfl rfl ?_
  have hok : ∃ u, (oFeed a (xs (i + 1)) (xs (i + 2)) (xs (i + 3)) (xs (i + 4)) (xs (i + 5))).1 = .ok u := by
    unfold oFeed
    first
      | exact ⟨_, rfl⟩
      | (split
         · exact ⟨_, rfl⟩
         · exact ⟨_, rfl⟩)
  obtain ⟨u, hr⟩ := hok
  refine l_callX (M' := mX9_feed) (as := [.int (xs (i + 1)), .int (xs (i + 2)), .int (xs (i + 3)), .int (xs (i + 4)), .int (xs (i + 5))]) (rest := []) (idx := 118) C (f_feed hC hA) mv_X9_feed (ws_t 371 rfl rfl) ⟨by decide, by decide⟩ hb (by decide +kernel) rfl rfl rfl rfl (by decide) ?_ ?_
  · intro E y hp
    obtain ⟨k9, h9, -⟩ := hp
    rw [hr] at h9
    cases h9
  intro v y hp
  obtain ⟨u1, hr1, rfl, hC1, hI1⟩ := hp
  rw [hr] at hr1
  cases hr1
  refine l_aload_n (k9 := 2) C (by decide +kernel) rfl rfl ?_
  refine l_arg (i := i) (j := 1) C S (by omega) ⟨by decide +kernel, by decide +kernel, by decide +kernel, by decide +kernel, by decide +kernel⟩ (by decide) rfl rfl ?_
  refine l_arg (i := i) (j := 2) C S (by omega) ⟨by decide +kernel, by decide +kernel, by decide +kernel, by decide +kernel, by decide +kernel⟩ (by decide) rfl rfl ?_
  refine l_arg (i := i) (j := 3) C S (by omega) ⟨by decide +kernel, by decide +kernel, by decide +kernel, by decide +kernel, by decide +kernel⟩ (by decide) rfl rfl ?_
  refine l_arg (i := i) (j := 4) C S (by omega) ⟨by decide +kernel, by decide +kernel, by decide +kernel, by decide +kernel, by decide +kernel⟩ (by decide) rfl rfl ?_
  refine l_arg (i := i) (j := 5) C S (by omega) ⟨by decide +kernel, by decide +kernel, by decide +kernel, by decide +kernel, by decide +kernel⟩ (by decide) rfl rfl ?_
  refine l_callX (M' := mX10_feed) (as := [.int (xs (i + 1)), .int (xs (i + 2)), .int (xs (i + 3)), .int (xs (i + 4)), .int (xs (i + 5))]) (rest := [.int u]) (idx := 121) C (g_feed (hR.hi hI1) hA) mv_X10_feed (ws_t 1330 rfl rfl) ⟨by decide, by decide⟩ hb (by decide +kernel) rfl rfl rfl rfl (Nat.le_of_ble_eq_true rfl) (fun E x' h => h.elim) ?_
  intro v z hp
  obtain ⟨hR2, hL2, hm2⟩ := hp
  have hC2 := hC1.lo hL2
  rw [hr] at hm2
  obtain ⟨rfl, h0⟩ := hm2
  exact l_icmp_eq (off := 2319) (tgt := 2595) C (by decide +kernel) (by decide) (fun _ => k z _ _ hC2 hR2 (AI.feed hA)) (fun q => absurd rfl q)
set_option maxHeartbeats 8000000 in
set_option maxRecDepth 20000 in
theorem s_house (C : CL mLaw [] G p l s m args meth c) (S : SX G s n xs) (hi : i + 7 ≤ n) (hC : RC x a) (hR : RRf x a) (hA : AI a) (hb : nc + 1 ≤ 601024 ∧ ns + 6 ≤ 7293034) (k : KN G p l e s m args below meth c Q i nc ns) : PL mLaw G p l e room_1 s m args below meth c Q 281 (LI i) [] x w nc ns := by
  refine l_aload_n (k9 := 1) C (by decide +kernel) rfl rfl ?_
  refine l_arg (i := i) (j := 1) C S (by omega) ⟨by decide +kernel, by decide +kernel, by decide +kernel, by decide +kernel, by decide +kernel⟩ (by decide) rfl rfl ?_
  refine l_aload_n (k9 := 3) C (by decide +kernel) rfl rfl ?_
  refine l_callW (M' := mW_house) (hh' := hW_house) (as := [.ref 0, .int (xs (i + 1)), .ref 200]) (rest := []) (idx := 122) C (w_house hC hA) msw_house (ws_t 427 rfl rfl) ⟨by decide, by decide⟩ hb (by decide +kernel) rfl (by decide) ?_
  intro cd w' y hp
  obtain ⟨hC1, hI1, hm1⟩ := hp
  refine l_istore (i := 5) C (by decide +kernel) (by decide) ?_
  refine l_aload_n (k9 := 2) C (by decide +kernel) rfl rfl ?_
  refine l_arg (i := i) (j := 1) C S (by omega) ⟨by decide +kernel, by decide +kernel, by decide +kernel, by decide +kernel, by decide +kernel⟩ (by decide) rfl rfl ?_
  refine l_callX (M' := mX10_house) (as := [.int (xs (i + 1))]) (rest := []) (idx := 127) C (g_house (hR.hi hI1) hA) mv_X10_house (ws_t 1338 rfl rfl) ⟨by decide, by decide⟩ hb (by decide +kernel) rfl rfl rfl rfl (by decide) (fun E x' h => h.elim) ?_
  intro v z hp
  obtain ⟨hR2, hL2, hm2⟩ := hp
  have hC2 := hC1.lo hL2
  cases hr : (oHouse a (xs (i + 1))).1 with
  | ok u =>
    rw [hr] at hm1 hm2
    obtain ⟨rfl, rfl⟩ := hm1
    obtain ⟨rfl, h0⟩ := hm2
    refine l_istore (i := 6) C (by decide +kernel) (by decide) ?_
    refine tail_A (T := 306) (t := 334) (off := 15) (cd := nI 0) C (by decide +kernel) (by decide +kernel) (by decide +kernel) (by decide +kernel) (by decide +kernel) (by decide +kernel) (by decide) rfl rfl hb h0 (fun _ => ?_) (fun q => absurd rfl q)
    refine tail_B (T := 322) (t := 334) C (by decide +kernel) (by decide +kernel) (by decide +kernel) (by decide +kernel) (by decide +kernel) (by decide +kernel) (by decide +kernel) (by decide) rfl rfl rfl ?_
    refine l_goto (off := 2261) (tgt := 2595) C (by decide +kernel) (by decide) ?_
    exact PL.loc (L' := LI i) ⟨rfl, rfl, rfl, rfl, rfl, trivial⟩ (k z _ _ hC2 hR2 (AI.house hA))
  | error e9 =>
    rw [hr] at hm1 hm2
    subst hm1
    obtain ⟨⟨u, rfl⟩, h0⟩ := hm2
    refine l_istore (i := 6) C (by decide +kernel) (by decide) ?_
    refine tail_A (T := 306) (t := 334) (off := 15) (cd := nI (if e9 = 0 then 1 else 1)) C (by decide +kernel) (by decide +kernel) (by decide +kernel) (by decide +kernel) (by decide +kernel) (by decide +kernel) (by decide) rfl rfl hb h0 (fun q => absurd q (er_nz (Or.inl rfl))) (fun _ => ?_)
    refine l_goto (off := 2261) (tgt := 2595) C (by decide +kernel) (by decide) ?_
    exact PL.loc (L' := LI i) ⟨rfl, rfl, rfl, rfl, rfl, trivial⟩ (k z _ _ hC2 hR2 (AI.house hA))
set_option maxHeartbeats 8000000 in
set_option maxRecDepth 20000 in
theorem s_law (C : CL mLaw [] G p l s m args meth c) (S : SX G s n xs) (hi : i + 7 ≤ n) (hC : RC x a) (hR : RRf x a) (hA : AI a) (hb : nc + 1 ≤ 601024 ∧ ns + 6 ≤ 7293034) (k : KN G p l e s m args below meth c Q i nc ns) : PL mLaw G p l e room_1 s m args below meth c Q 337 (LI i) [] x w nc ns := by
  refine l_aload_n (k9 := 1) C (by decide +kernel) rfl rfl ?_
  refine l_arg (i := i) (j := 1) C S (by omega) ⟨by decide +kernel, by decide +kernel, by decide +kernel, by decide +kernel, by decide +kernel⟩ (by decide) rfl rfl ?_
  refine l_arg (i := i) (j := 2) C S (by omega) ⟨by decide +kernel, by decide +kernel, by decide +kernel, by decide +kernel, by decide +kernel⟩ (by decide) rfl rfl ?_
  refine l_aload_n (k9 := 3) C (by decide +kernel) rfl rfl ?_
  refine l_callW (M' := mW_law) (hh' := hW_law) (as := [.ref 0, .int (xs (i + 1)), .int (xs (i + 2)), .ref 200]) (rest := []) (idx := 132) C (w_law hC hA) msw_law (ws_t 625 rfl rfl) ⟨by decide, by decide⟩ hb (by decide +kernel) rfl (by decide) ?_
  intro cd w' y hp
  obtain ⟨hC1, hI1, hm1⟩ := hp
  refine l_istore (i := 5) C (by decide +kernel) (by decide) ?_
  refine l_aload_n (k9 := 2) C (by decide +kernel) rfl rfl ?_
  refine l_arg (i := i) (j := 1) C S (by omega) ⟨by decide +kernel, by decide +kernel, by decide +kernel, by decide +kernel, by decide +kernel⟩ (by decide) rfl rfl ?_
  refine l_arg (i := i) (j := 2) C S (by omega) ⟨by decide +kernel, by decide +kernel, by decide +kernel, by decide +kernel, by decide +kernel⟩ (by decide) rfl rfl ?_
  refine l_callX (M' := mX10_law) (as := [.int (xs (i + 1)), .int (xs (i + 2))]) (rest := []) (idx := 135) C (g_law (hR.hi hI1) hA) mv_X10_law (ws_t 1424 rfl rfl) ⟨by decide, by decide⟩ hb (by decide +kernel) rfl rfl rfl rfl (by decide) (fun E x' h => h.elim) ?_
  intro v z hp
  obtain ⟨hR2, hL2, hm2⟩ := hp
  have hC2 := hC1.lo hL2
  cases hr : (oLaw a (xs (i + 1)) (xs (i + 2))).1 with
  | ok u =>
    rw [hr] at hm1 hm2
    obtain ⟨rfl, rfl⟩ := hm1
    obtain ⟨rfl, h0⟩ := hm2
    refine l_istore (i := 6) C (by decide +kernel) (by decide) ?_
    refine tail_A (T := 374) (t := 402) (off := 15) (cd := nI 0) C (by decide +kernel) (by decide +kernel) (by decide +kernel) (by decide +kernel) (by decide +kernel) (by decide +kernel) (by decide) rfl rfl hb h0 (fun _ => ?_) (fun q => absurd rfl q)
    refine tail_B (T := 390) (t := 402) C (by decide +kernel) (by decide +kernel) (by decide +kernel) (by decide +kernel) (by decide +kernel) (by decide +kernel) (by decide +kernel) (by decide) rfl rfl rfl ?_
    refine l_goto (off := 2193) (tgt := 2595) C (by decide +kernel) (by decide) ?_
    exact PL.loc (L' := LI i) ⟨rfl, rfl, rfl, rfl, rfl, trivial⟩ (k z _ _ hC2 hR2 (AI.law hA hR2))
  | error e9 =>
    rw [hr] at hm1 hm2
    subst hm1
    obtain ⟨⟨u, rfl⟩, h0⟩ := hm2
    refine l_istore (i := 6) C (by decide +kernel) (by decide) ?_
    refine tail_A (T := 374) (t := 402) (off := 15) (cd := nI (if e9 = 0 then 1 else 1)) C (by decide +kernel) (by decide +kernel) (by decide +kernel) (by decide +kernel) (by decide +kernel) (by decide +kernel) (by decide) rfl rfl hb h0 (fun q => absurd q (er_nz (Or.inl rfl))) (fun _ => ?_)
    refine l_goto (off := 2193) (tgt := 2595) C (by decide +kernel) (by decide) ?_
    exact PL.loc (L' := LI i) ⟨rfl, rfl, rfl, rfl, rfl, trivial⟩ (k z _ _ hC2 hR2 (AI.law hA hR2))
set_option maxHeartbeats 8000000 in
set_option maxRecDepth 20000 in
theorem s_work (C : CL mLaw [] G p l s m args meth c) (S : SX G s n xs) (hi : i + 7 ≤ n) (hC : RC x a) (hR : RRf x a) (hA : AI a) (hb : nc + 1 ≤ 601024 ∧ ns + 6 ≤ 7293034) (k : KN G p l e s m args below meth c Q i nc ns) : PL mLaw G p l e room_1 s m args below meth c Q 405 (LI i) [] x w nc ns := by
  refine l_aload_n (k9 := 1) C (by decide +kernel) rfl rfl ?_
  refine l_arg (i := i) (j := 1) C S (by omega) ⟨by decide +kernel, by decide +kernel, by decide +kernel, by decide +kernel, by decide +kernel⟩ (by decide) rfl rfl ?_
  refine l_aload_n (k9 := 3) C (by decide +kernel) rfl rfl ?_
  refine l_callW (M' := mW_work) (hh' := hW_work) (as := [.ref 0, .int (xs (i + 1)), .ref 200]) (rest := []) (idx := 136) C (w_work hC hA) msw_work (ws_t 675 rfl rfl) ⟨by decide, by decide⟩ hb (by decide +kernel) rfl (by decide) ?_
  intro cd w' y hp
  obtain ⟨hC1, hI1, hm1⟩ := hp
  refine l_istore (i := 5) C (by decide +kernel) (by decide) ?_
  refine l_aload_n (k9 := 2) C (by decide +kernel) rfl rfl ?_
  refine l_arg (i := i) (j := 1) C S (by omega) ⟨by decide +kernel, by decide +kernel, by decide +kernel, by decide +kernel, by decide +kernel⟩ (by decide) rfl rfl ?_
  refine l_callX (M' := mX10_work) (as := [.int (xs (i + 1))]) (rest := []) (idx := 138) C (g_work (hR.hi hI1) hA) mv_X10_work (ws_t 1468 rfl rfl) ⟨by decide, by decide⟩ hb (by decide +kernel) rfl rfl rfl rfl (by decide) (fun E x' h => h.elim) ?_
  intro v z hp
  obtain ⟨hR2, hL2, hm2⟩ := hp
  have hC2 := hC1.lo hL2
  cases hr : (oWork a (xs (i + 1))).1 with
  | ok u =>
    rw [hr] at hm1 hm2
    obtain ⟨rfl, rfl⟩ := hm1
    obtain ⟨rfl, h0⟩ := hm2
    refine l_istore (i := 6) C (by decide +kernel) (by decide) ?_
    refine tail_A (T := 430) (t := 458) (off := 15) (cd := nI 0) C (by decide +kernel) (by decide +kernel) (by decide +kernel) (by decide +kernel) (by decide +kernel) (by decide +kernel) (by decide) rfl rfl hb h0 (fun _ => ?_) (fun q => absurd rfl q)
    refine tail_B (T := 446) (t := 458) C (by decide +kernel) (by decide +kernel) (by decide +kernel) (by decide +kernel) (by decide +kernel) (by decide +kernel) (by decide +kernel) (by decide) rfl rfl rfl ?_
    refine l_goto (off := 2137) (tgt := 2595) C (by decide +kernel) (by decide) ?_
    exact PL.loc (L' := LI i) ⟨rfl, rfl, rfl, rfl, rfl, trivial⟩ (k z _ _ hC2 hR2 (AI.work hA))
  | error e9 =>
    rw [hr] at hm1 hm2
    subst hm1
    obtain ⟨⟨u, rfl⟩, h0⟩ := hm2
    refine l_istore (i := 6) C (by decide +kernel) (by decide) ?_
    refine tail_A (T := 430) (t := 458) (off := 15) (cd := nI (if e9 = 0 then 1 else 1)) C (by decide +kernel) (by decide +kernel) (by decide +kernel) (by decide +kernel) (by decide +kernel) (by decide +kernel) (by decide) rfl rfl hb h0 (fun q => absurd q (er_nz (Or.inl rfl))) (fun _ => ?_)
    refine l_goto (off := 2137) (tgt := 2595) C (by decide +kernel) (by decide) ?_
    exact PL.loc (L' := LI i) ⟨rfl, rfl, rfl, rfl, rfl, trivial⟩ (k z _ _ hC2 hR2 (AI.work hA))
set_option maxHeartbeats 8000000 in
set_option maxRecDepth 20000 in
theorem s_book (C : CL mLaw [] G p l s m args meth c) (S : SX G s n xs) (hi : i + 7 ≤ n) (hC : RC x a) (hR : RRf x a) (hA : AI a) (hb : nc + 1 ≤ 601024 ∧ ns + 6 ≤ 7293034) (k : KN G p l e s m args below meth c Q i nc ns) : PL mLaw G p l e room_1 s m args below meth c Q 461 (LI i) [] x w nc ns := by
  refine l_aload_n (k9 := 1) C (by decide +kernel) rfl rfl ?_
  refine l_arg (i := i) (j := 1) C S (by omega) ⟨by decide +kernel, by decide +kernel, by decide +kernel, by decide +kernel, by decide +kernel⟩ (by decide) rfl rfl ?_
  refine l_aload_n (k9 := 3) C (by decide +kernel) rfl rfl ?_
  refine l_callW (M' := mW_book) (hh' := hW_book) (as := [.ref 0, .int (xs (i + 1)), .ref 200]) (rest := []) (idx := 139) C (w_book hC hA) msw_book (ws_t 800 rfl rfl) ⟨by decide, by decide⟩ hb (by decide +kernel) rfl (by decide) ?_
  intro cd w' y hp
  obtain ⟨hC1, hI1, hm1⟩ := hp
  refine l_istore (i := 5) C (by decide +kernel) (by decide) ?_
  refine l_aload_n (k9 := 2) C (by decide +kernel) rfl rfl ?_
  refine l_arg (i := i) (j := 1) C S (by omega) ⟨by decide +kernel, by decide +kernel, by decide +kernel, by decide +kernel, by decide +kernel⟩ (by decide) rfl rfl ?_
  refine l_callX (M' := mX10_book) (as := [.int (xs (i + 1))]) (rest := []) (idx := 141) C (g_book (hR.hi hI1) hA) mv_X10_book (ws_t 1560 rfl rfl) ⟨by decide, by decide⟩ hb (by decide +kernel) rfl rfl rfl rfl (by decide) (fun E x' h => h.elim) ?_
  intro v z hp
  obtain ⟨hR2, hL2, hm2⟩ := hp
  have hC2 := hC1.lo hL2
  cases hr : (oBook a (xs (i + 1))).1 with
  | ok u =>
    rw [hr] at hm1 hm2
    obtain ⟨rfl, rfl⟩ := hm1
    obtain ⟨rfl, h0⟩ := hm2
    refine l_istore (i := 6) C (by decide +kernel) (by decide) ?_
    refine tail_A (T := 486) (t := 514) (off := 15) (cd := nI 0) C (by decide +kernel) (by decide +kernel) (by decide +kernel) (by decide +kernel) (by decide +kernel) (by decide +kernel) (by decide) rfl rfl hb h0 (fun _ => ?_) (fun q => absurd rfl q)
    refine tail_B (T := 502) (t := 514) C (by decide +kernel) (by decide +kernel) (by decide +kernel) (by decide +kernel) (by decide +kernel) (by decide +kernel) (by decide +kernel) (by decide) rfl rfl rfl ?_
    refine l_goto (off := 2081) (tgt := 2595) C (by decide +kernel) (by decide) ?_
    exact PL.loc (L' := LI i) ⟨rfl, rfl, rfl, rfl, rfl, trivial⟩ (k z _ _ hC2 hR2 (AI.book hA))
  | error e9 =>
    rw [hr] at hm1 hm2
    subst hm1
    obtain ⟨⟨u, rfl⟩, h0⟩ := hm2
    refine l_istore (i := 6) C (by decide +kernel) (by decide) ?_
    refine tail_A (T := 486) (t := 514) (off := 15) (cd := nI (if e9 = 0 then 1 else 1)) C (by decide +kernel) (by decide +kernel) (by decide +kernel) (by decide +kernel) (by decide +kernel) (by decide +kernel) (by decide) rfl rfl hb h0 (fun q => absurd q (er_nz (Or.inl rfl))) (fun _ => ?_)
    refine l_goto (off := 2081) (tgt := 2595) C (by decide +kernel) (by decide) ?_
    exact PL.loc (L' := LI i) ⟨rfl, rfl, rfl, rfl, rfl, trivial⟩ (k z _ _ hC2 hR2 (AI.book hA))
set_option maxHeartbeats 8000000 in
set_option maxRecDepth 20000 in
theorem s_fault (C : CL mLaw [] G p l s m args meth c) (S : SX G s n xs) (hi : i + 7 ≤ n) (hC : RC x a) (hR : RRf x a) (hA : AI a) (hb : nc + 1 ≤ 601024 ∧ ns + 6 ≤ 7293034) (k : KN G p l e s m args below meth c Q i nc ns) : PL mLaw G p l e room_1 s m args below meth c Q 517 (LI i) [] x w nc ns := by
  refine l_aload_n (k9 := 1) C (by decide +kernel) rfl rfl ?_
  have hok : ∃ u, oFault a = .ok u := by
    unfold oFault
    first
      | exact ⟨_, rfl⟩
      | (split
         · exact ⟨_, rfl⟩
         · exact ⟨_, rfl⟩)
  obtain ⟨u, hr⟩ := hok
  refine l_callX (M' := mX9_fault) (as := []) (rest := []) (idx := 142) C (f_fault hC hA) mv_X9_fault (ws_t 383 rfl rfl) ⟨by decide, by decide⟩ hb (by decide +kernel) rfl rfl rfl rfl (by decide) ?_ ?_
  · intro E y hp
    obtain ⟨k9, h9, -⟩ := hp
    rw [hr] at h9
    cases h9
  intro v y hp
  obtain ⟨u1, hr1, rfl, hC1, hI1⟩ := hp
  rw [hr] at hr1
  cases hr1
  refine l_aload_n (k9 := 2) C (by decide +kernel) rfl rfl ?_
  refine l_callX (M' := mX10_fault) (as := []) (rest := [.int u]) (idx := 145) C (g_fault (hR.hi hI1) hA) mv_X10_fault (ws_t 1334 rfl rfl) ⟨by decide, by decide⟩ hb (by decide +kernel) rfl rfl rfl rfl (Nat.le_of_ble_eq_true rfl) (fun E x' h => h.elim) ?_
  intro v z hp
  obtain ⟨hR2, hL2, hm2⟩ := hp
  have hC2 := hC1.lo hL2
  rw [hr] at hm2
  obtain ⟨rfl, h0⟩ := hm2
  exact l_icmp_eq (off := 2070) (tgt := 2595) C (by decide +kernel) (by decide) (fun _ => k z _ _ hC2 hR2 (AI.bp hA)) (fun q => absurd rfl q)
set_option maxHeartbeats 8000000 in
set_option maxRecDepth 20000 in
theorem s_undo (C : CL mLaw [] G p l s m args meth c) (S : SX G s n xs) (hi : i + 7 ≤ n) (hC : RC x a) (hR : RRf x a) (hA : AI a) (hb : nc + 1 ≤ 601024 ∧ ns + 6 ≤ 7293034) (k : KN G p l e s m args below meth c Q i nc ns) : PL mLaw G p l e room_1 s m args below meth c Q 530 (LI i) [] x w nc ns := by
  refine l_aload_n (k9 := 1) C (by decide +kernel) rfl rfl ?_
  have hok : ∃ u, (oUndo a).1 = .ok u := by
    unfold oUndo
    first
      | exact ⟨_, rfl⟩
      | (split
         · exact ⟨_, rfl⟩
         · exact ⟨_, rfl⟩)
  obtain ⟨u, hr⟩ := hok
  refine l_callX (M' := mX9_undo) (as := []) (rest := []) (idx := 146) C (f_undo hC hA) mv_X9_undo (ws_t 387 rfl rfl) ⟨by decide, by decide⟩ hb (by decide +kernel) rfl rfl rfl rfl (by decide) ?_ ?_
  · intro E y hp
    obtain ⟨k9, h9, -⟩ := hp
    rw [hr] at h9
    cases h9
  intro v y hp
  obtain ⟨u1, hr1, rfl, hC1, hI1⟩ := hp
  rw [hr] at hr1
  cases hr1
  refine l_aload_n (k9 := 2) C (by decide +kernel) rfl rfl ?_
  refine l_callX (M' := mX10_undo) (as := []) (rest := [.int u]) (idx := 149) C (g_undo (hR.hi hI1) hA) mv_X10_undo (ws_t 1564 rfl rfl) ⟨by decide, by decide⟩ hb (by decide +kernel) rfl rfl rfl rfl (Nat.le_of_ble_eq_true rfl) (fun E x' h => h.elim) ?_
  intro v z hp
  obtain ⟨hR2, hL2, hm2⟩ := hp
  have hC2 := hC1.lo hL2
  rw [hr] at hm2
  obtain ⟨rfl, h0⟩ := hm2
  exact l_icmp_eq (off := 2057) (tgt := 2595) C (by decide +kernel) (by decide) (fun _ => k z _ _ hC2 hR2 (AI.undo hA)) (fun q => absurd rfl q)
set_option maxHeartbeats 8000000 in
set_option maxRecDepth 20000 in
theorem s_told (C : CL mLaw [] G p l s m args meth c) (S : SX G s n xs) (hi : i + 7 ≤ n) (hC : RC x a) (hR : RRf x a) (hA : AI a) (hb : nc + 1 ≤ 601024 ∧ ns + 6 ≤ 7293034) (k : KN G p l e s m args below meth c Q i nc ns) : PL mLaw G p l e room_1 s m args below meth c Q 543 (LI i) [] x w nc ns := by
  refine l_aload_n (k9 := 1) C (by decide +kernel) rfl rfl ?_
  refine l_arg (i := i) (j := 1) C S (by omega) ⟨by decide +kernel, by decide +kernel, by decide +kernel, by decide +kernel, by decide +kernel⟩ (by decide) rfl rfl ?_
  refine l_aload_n (k9 := 3) C (by decide +kernel) rfl rfl ?_
  refine l_callW (M' := mW_told) (hh' := hW_told) (as := [.ref 0, .int (xs (i + 1)), .ref 200]) (rest := []) (idx := 150) C (w_told hC hA) msw_told (ws_t 823 rfl rfl) ⟨by decide, by decide⟩ hb (by decide +kernel) rfl (by decide) ?_
  intro cd w' y hp
  obtain ⟨hC1, hI1, hm1⟩ := hp
  refine l_istore (i := 5) C (by decide +kernel) (by decide) ?_
  refine l_aload_n (k9 := 2) C (by decide +kernel) rfl rfl ?_
  refine l_arg (i := i) (j := 1) C S (by omega) ⟨by decide +kernel, by decide +kernel, by decide +kernel, by decide +kernel, by decide +kernel⟩ (by decide) rfl rfl ?_
  refine l_callX (M' := mX10_told) (as := [.int (xs (i + 1))]) (rest := []) (idx := 152) C (g_told (hR.hi hI1) hA) mv_X10_told (ws_t 1568 rfl rfl) ⟨by decide, by decide⟩ hb (by decide +kernel) rfl rfl rfl rfl (by decide) (fun E x' h => h.elim) ?_
  intro v z hp
  obtain ⟨hR2, hL2, hm2⟩ := hp
  have hC2 := hC1.lo hL2
  cases hr : oTold a (xs (i + 1)) with
  | ok u =>
    rw [hr] at hm1 hm2
    obtain ⟨rfl, rfl⟩ := hm1
    obtain ⟨rfl, h0⟩ := hm2
    refine l_istore (i := 6) C (by decide +kernel) (by decide) ?_
    refine tail_A (T := 568) (t := 596) (off := 15) (cd := nI 0) C (by decide +kernel) (by decide +kernel) (by decide +kernel) (by decide +kernel) (by decide +kernel) (by decide +kernel) (by decide) rfl rfl hb h0 (fun _ => ?_) (fun q => absurd rfl q)
    refine tail_B (T := 584) (t := 596) C (by decide +kernel) (by decide +kernel) (by decide +kernel) (by decide +kernel) (by decide +kernel) (by decide +kernel) (by decide +kernel) (by decide) rfl rfl rfl ?_
    refine l_goto (off := 1999) (tgt := 2595) C (by decide +kernel) (by decide) ?_
    exact PL.loc (L' := LI i) ⟨rfl, rfl, rfl, rfl, rfl, trivial⟩ (k z _ _ hC2 hR2 (AI.bp hA))
  | error e9 =>
    rw [hr] at hm1 hm2
    subst hm1
    obtain ⟨⟨u, rfl⟩, h0⟩ := hm2
    refine l_istore (i := 6) C (by decide +kernel) (by decide) ?_
    refine tail_A (T := 568) (t := 596) (off := 15) (cd := nI (if e9 = 0 then 1 else 1)) C (by decide +kernel) (by decide +kernel) (by decide +kernel) (by decide +kernel) (by decide +kernel) (by decide +kernel) (by decide) rfl rfl hb h0 (fun q => absurd q (er_nz (Or.inl rfl))) (fun _ => ?_)
    refine l_goto (off := 1999) (tgt := 2595) C (by decide +kernel) (by decide) ?_
    exact PL.loc (L' := LI i) ⟨rfl, rfl, rfl, rfl, rfl, trivial⟩ (k z _ _ hC2 hR2 (AI.bp hA))
end LSteps
