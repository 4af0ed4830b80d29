/-! FROM THE ENTRY TO THE LOOP -/
section LGo
variable {G : GG} {p : Program} {l : Launch} {e : Env} {s : State} {m : MethodId} {args : Array Value} {below : List Frame} {meth : Method} {c : Code} {Q : State → Prop} {n : Nat} {xs : Nat → Int32}
theorem l_astore_n {k9 : Fin 4} {i9 v pc nc ns : Nat} {L : List (Nat × Value)} {st : List Value} {x : XS} {w : Int64} (C : CL mLaw [] G p l s m args meth c) (hd : decode code pc = .ok (.astore_n k9, 1)) (hi : (k9 : Nat) = i9) (hn : i9 < 8) (k : PL mLaw G p l e room_1 s m args below meth c Q (pc + 1) (l1 L i9 (.ref v)) st x w nc ns) : PL mLaw G p l e room_1 s m args below meth c Q pc L (.ref v :: st) x w nc ns := by
  intro H locs ls hH hS hL
  exact lv_astore_n C.1 C.2.1 hd hi hL hn (trL_l1 G L i9 (.ref v)) (fun ls2 hL2 => k H locs ls2 hH hS hL2)
theorem AZ_AL (h0 : gA G 0 = s.heap.size) : ∀ q, AZ G q → AL G s.heap.size q := fun q hq => Or.inl (Or.inr (by rw [← h0]; exact hq))
set_option maxHeartbeats 4000000 in
set_option maxRecDepth 20000 in
theorem law_out {H : Heap} {locs : List Loc} {ls : Array Slot} (E : CE G p l s m args c) (C : CL mLaw [] G p l s m args meth c) (S : SX G s n xs) (hJ : s.vm.findClass ("[" ++ (FieldType.long).toString) = some (gC G 4)) (h2 : gA G 200 = s.heap.size + 163) (hend : ∀ (i nc ns : Nat) (x : XS) (w : Int64), nc ≤ 601024 → ns ≤ 7293034 → PL mLaw G p l e room_1 s m args below meth c Q 2601 (LI i) [] x w nc ns) (hH : Holds G x2 H) (hS : va_S (AZ G) s.heap H locs) (hL : lv_has ls 8 (trL G [(2, .ref 137), (1, .ref 0), (0, .ref 201)])) : W p l e room_1 s m args below meth c H locs 163 10517 Q (F0 m 16 ls []) := by
  have h0 := E.2.2.2.2.2.2.2.2.1
  have hlin := E.2.2.2.2.2.2.1
  intro T hT X
  have hz1 : H.size ≤ s.heap.size + 163 := by
    have h9 : (T.setVm s.vm).heap.size ≤ s.heap.size + 163 := X.same.2.2.1
    rw [← hT]
    exact h9
  have hz2 : s.heap.size + 163 ≤ H.size := by
    have h9 : gA G 162 < H.size := (hH 162 (by decide)).lt
    rw [hlin 162 (by decide), h0] at h9
    omega
  have hz : H.size = gA G 200 := by omega
  have key : W p l e room_1 s m args below meth c H locs 163 10517 Q (F0 m 16 ls []) := by
    have d17 : decode code 17 = .ok (.newarray .long, 2) := by decide +kernel
    refine lv_iconst (v := nI 1) C.1 C.2.1 (n := 1) (by decide +kernel) rfl ?_
    refine va_newaK (N := 1) (atype := .long) C.1 C.2.1 (C.2.2.2.2.1 _ (ws_t 1789 rfl rfl)) rfl d17 rfl (nI_pos (by omega)) (nI_clamp (by omega)) (by decide) (by decide) (by decide) hz (fun H1 cA e1 z1 o1 hAr hNm => ?_)
    have ec : some cA = some (gC G 4) := hNm.symm.trans hJ
    cases ec
    have hO : HO G x2 0 H1 := by
      refine ⟨fun c9 hc9 => (hH c9 hc9).kept (o1 _ ?_), fun _ => 0, rfl, ?_⟩
      · have h9 : gA G c9 < H.size := (hH c9 hc9).lt
        rw [hz] at h9
        exact h9
      · rw [e1, vp_cell_l]
        rfl
    have hS1 : va_S (AL G s.heap.size) s.heap H1 locs := by
      refine ⟨by rw [z1]; omega, fun q hq hn => ?_, fun z hz9 => AZ_AL h0 _ (hS.2.2 z hz9)⟩
      rw [o1 q (by omega)]
      exact hS.2.1 q hq (fun h9 => hn (AZ_AL h0 q h9))
    have hgo : PL mLaw G p l e room_1 s m args below meth c Q 19 [(2, .ref 137), (1, .ref 0), (0, .ref 201)] [.ref 200] x2 0 164 10518 := by
      refine l_astore_n (k9 := 3) C (by decide +kernel) rfl (by decide) ?_
      refine l_iconst (n := 0) (v := nI 0) C (by decide +kernel) rfl ?_
      refine l_istore (i := 4) C (by decide +kernel) (by decide) ?_
      exact PL.loc (L' := LI 0) ⟨rfl, rfl, rfl, rfl, rfl, trivial⟩ (law_loop C S hend (n + 1) 0 164 10518 x2 0 a0 (by omega) (by omega) (by omega) (by omega) x2_RC x2_RR a0_AI)
    exact hgo H1 locs ls hO hS1 hL
  exact key T hT X
set_option maxHeartbeats 4000000 in
set_option maxRecDepth 20000 in
theorem law_go {ls : Array Slot} (E : CE G p l s m args c) (C : CL mLaw [] G p l s m args meth c) (S : SX G s n xs) (hJ : s.vm.findClass ("[" ++ (FieldType.long).toString) = some (gC G 4)) (h2 : gA G 200 = s.heap.size + 163) (hend : ∀ (i nc ns : Nat) (x : XS) (w : Int64), nc ≤ 601024 → ns ≤ 7293034 → PL mLaw G p l e room_1 s m args below meth c Q 2601 (LI i) [] x w nc ns) (hL : lv_has ls 8 (trL G [(0, .ref 201)])) : W p l e room_1 s m args below meth c s.heap [] 0 0 Q (F0 m 0 ls []) := by
  have h0 := E.2.2.2.2.2.2.2.2.1
  have hP0 : HP G [] s.heap := ⟨fun k q hk => (by cases hk), by rw [h0]; rfl, by decide⟩
  refine e_new (ci := 9) tyX9 E hin_9 tyX9_ok rfl (ws_t 24 rfl rfl) in_9 ini_9 df_9 (by decide) (by decide) (by decide) (by decide +kernel) hP0 va_S.rf (fun H1 hP1 hS1 => ?_)
  refine lv_dup C.1 C.2.1 (by decide +kernel) rfl ?_
  refine e_init E i_class mi_X9 (ws_t 26 rfl rfl) ⟨by decide, by decide⟩ ⟨by decide, by decide⟩ (by decide +kernel) (by exact (by decide : (1 : Nat) ≤ 8)) (fun v G H h => h.1) hP1 hS1 hL.1 (fun H2 locs2 hp2 hS2 => ?_)
  have hP2 : HP G (classB 0) H2 := hp2.2
  refine lv_astore_n (k := 1) C.1 C.2.1 (by decide +kernel) rfl hL (by decide) (trL_l1 G [(0, .ref 201)] 1 (.ref 0)) (fun ls2 hL2 => ?_)
  refine e_new (ci := 10) tyX10 E hin_10 tyX10_ok rfl (ws_t 1152 rfl rfl) in_10 ini_10 df_10 (by rw [c0_len]; decide) (by decide) (by decide) (by decide +kernel) hP2 hS2 (fun H3 hP3 hS3 => ?_)
  rw [c0_len]
  refine lv_dup C.1 C.2.1 (by decide +kernel) rfl ?_
  refine e_init E i_ref mi_X10 (ws_t 1154 rfl rfl) ⟨by decide, by decide⟩ ⟨by decide, by decide⟩ (by decide +kernel) (by exact (by decide : (1 : Nat) ≤ 8)) (fun v G H h => h.1) hP3 hS3 hL2.1 (fun H4 locs4 hp4 hS4 => ?_)
  refine lv_astore_n (k := 2) C.1 C.2.1 (by decide +kernel) rfl hL2 (by decide) (trL_l1 G (l1 [(0, .ref 201)] 1 (.ref 0)) 2 (.ref 137)) (fun ls4 hL4 => ?_)
  exact law_out E C S hJ h2 hend hp4.2 hS4 hL4
end LGo
