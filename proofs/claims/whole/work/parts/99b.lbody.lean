/-! THE LAW'S BODY: what its steps share -/
set_option maxHeartbeats 8000000 in
set_option maxRecDepth 20000 in
theorem n_thrown {x : XS} : MM mX10_thrown 1 0 0 [.ref 137] x (fun v y => v = some (.int (x 137 0)) ∧ y = x) NoT := by
  refine MM.of (by decide) (Nat.le_of_ble_eq_true rfl) ?_
  have y137 := lay_137
  refine r_aload_n dX10_thrown_0 rfl (by rfl) ?_
  refine gf_X10_3 rfl dX10_thrown_1 (by first | assumption | rfl) (by rfl) ?_
  refine r_iret rfl dX10_thrown_4 ?_
  exact ⟨rfl, rfl⟩
def mLaw : MD := (⟨"FirstAsleepLaw", "law", "([I)Z"⟩, code, 8, ret)
def LI (i : Nat) : List (Nat × Value) := [(4, .int (nI i)), (0, .ref 201), (1, .ref 0), (2, .ref 137), (3, .ref 200)]
/-- the script -/
def SX (G : GG) (s : State) (n : Nat) (xs : Nat → Int32) : Prop := va_X (gA G 201) n xs s s.heap ∧ gA G 201 < s.heap.size ∧ ¬ AL G s.heap.size (gA G 201) ∧ n ≤ 3584
theorem RRf.hi {x y : XS} {a : AS} (h : RRf x a) (t : HI x y) : RRf y a := h.of (fun c hc => t c (by omega)) (fun k hk => by rw [t 137 (by omega)])
theorem RC.lo {x y : XS} {a : AS} (h : RC x a) (t : LO x y) : RC y a := h.fr (fun c _ hc => t c (by omega))
theorem lg_cmp_s (a : Int64) : lg_cmp a a = 0 := by
  unfold lg_cmp
  simp
section LBody
variable {M M' : MD} {hh hh' : List (Nat × Nat × Nat × Nat)} {G : GG} {p : Program} {l : Launch} {e : Env} {R : Room} {s : State} {m : MethodId} {args : Array Value} {below : List Frame} {meth : Method} {c : Code} {Q : State → Prop} {pc : Nat} {L : List (Nat × Value)} {st rest : List Value} {x : XS} {w : Int64} {nc ns d' mc' ms' n : Nat} {xs : Nat → Int32}
theorem l_sld {i : Int32} (C : CL M hh G p l s m args meth c) (S : SX G s n xs) (hd : decode M.2.1 pc = .ok (.iaload, 1)) (hin : vp_in i n) (k : PL M G p l e R s m args below meth c Q (pc + 1) L (.int (xs i.toNatClampNeg) :: st) x w nc ns) : PL M G p l e R s m args below meth c Q pc L (.int i :: .ref 201 :: st) x w nc ns := by
  intro H locs ls hH hS hL
  exact va_sld C.1 C.2.1 S.1 S.2.1 S.2.2.1 hS hin hd (k H locs ls hH hS hL)
theorem l_slen (C : CL M hh G p l s m args meth c) (S : SX G s n xs) (hd : decode M.2.1 pc = .ok (.arraylength, 1)) (k : PL M G p l e R s m args below meth c Q (pc + 1) L (.int (nI n) :: st) x w nc ns) : PL M G p l e R s m args below meth c Q pc L (.ref 201 :: st) x w nc ns := by
  intro H locs ls hH hS hL
  exact va_slen C.1 C.2.1 S.1 S.2.1 S.2.2.1 hS hd (k H locs ls hH hS hL)
def ARG (M : MD) (pc j : Nat) : Prop := decode M.2.1 pc = .ok (.aload_n 0, 1) ∧ decode M.2.1 (pc + 1) = .ok (.iload 4, 2) ∧ decode M.2.1 (pc + 3) = .ok (.iconst (j : Int), 1) ∧ decode M.2.1 (pc + 4) = .ok (.iadd, 1) ∧ decode M.2.1 (pc + 5) = .ok (.iaload, 1)
theorem arg_in {i j : Nat} (h : i + j < n) (hn : n ≤ 3584) : vp_in (nI i + nI j) n ∧ (nI i + nI j).toNatClampNeg = i + j := by
  rw [nI_add]
  exact ⟨vp_in_nI h (by omega), nI_clamp (by omega)⟩
theorem l_arg {i j : Nat} (C : CL M hh G p l s m args meth c) (S : SX G s n xs) (hij : i + j < n) (hd : ARG M pc j) (hj : j ≤ 5) (h0 : lg L 0 = some (.ref 201)) (h4 : lg L 4 = some (.int (nI i))) (k : PL M G p l e R s m args below meth c Q (pc + 6) L (.int (xs (i + j)) :: st) x w nc ns) : PL M G p l e R s m args below meth c Q pc L st x w nc ns := by
  obtain ⟨d1, d2, d3, d4, d5⟩ := hd
  refine l_aload_n C d1 rfl h0 ?_
  refine l_iload C d2 h4 ?_
  refine l_iconst (v := nI j) C d3 ?_ ?_
  · rcases (by omega : j = 0 ∨ j = 1 ∨ j = 2 ∨ j = 3 ∨ j = 4 ∨ j = 5) with rfl | rfl | rfl | rfl | rfl | rfl <;> rfl
  refine l_iadd C d4 ?_
  obtain ⟨h1, h2⟩ := arg_in hij S.2.2.2
  refine l_sld C S d5 h1 ?_
  rw [h2]
  exact k
theorem l_arg6 {i : Nat} (C : CL M hh G p l s m args meth c) (S : SX G s n xs) (hij : i + 6 < n) (d1 : decode M.2.1 pc = .ok (.aload_n 0, 1)) (d2 : decode M.2.1 (pc + 1) = .ok (.iload 4, 2)) (d3 : decode M.2.1 (pc + 3) = .ok (.bipush 6, 2)) (d4 : decode M.2.1 (pc + 5) = .ok (.iadd, 1)) (d5 : decode M.2.1 (pc + 6) = .ok (.iaload, 1)) (h0 : lg L 0 = some (.ref 201)) (h4 : lg L 4 = some (.int (nI i))) (k : PL M G p l e R s m args below meth c Q (pc + 7) L (.int (xs (i + 6)) :: st) x w nc ns) : PL M G p l e R s m args below meth c Q pc L st x w nc ns := by
  refine l_aload_n C d1 rfl h0 ?_
  refine l_iload C d2 h4 ?_
  refine l_bipush (v := nI 6) C d3 rfl ?_
  refine l_iadd C d4 ?_
  obtain ⟨h1, h2⟩ := arg_in hij S.2.2.2
  refine l_sld C S d5 h1 ?_
  rw [h2]
  exact k
end LBody
section LTail
variable {G : GG} {p : Program} {l : Launch} {e : Env} {s : State} {m : MethodId} {args : Array Value} {below : List Frame} {meth : Method} {c : Code} {Q : State → Prop} {L : List (Nat × Value)} {x : XS} {w : Int64} {nc ns : Nat}
/-- the codes compared: T is the place, the next is at T + 16 where both answered, else at t -/
theorem tail_A {T t : Nat} {off : Int} {cd : Int32} (C : CL mLaw [] G p l s m args meth c) (d0 : decode code T = .ok (.aload_n 2, 1)) (d1 : decode code (T + 1) = .ok (.invokevirtual 128, 3)) (d2 : decode code (T + 4) = .ok (.iload 5, 2)) (d3 : decode code (T + 6) = .ok (.if_icmp .eq 5, 3)) (d4 : decode code (T + 11) = .ok (.iload 5, 2)) (d5 : decode code (T + 13) = .ok (.ifCond .ne off, 3)) (ht : (T + 13 : Int) + off = (t : Int)) (h2 : lg L 2 = some (.ref 137)) (h5 : lg L 5 = some (.int cd)) (hb : nc ≤ 601024 ∧ ns ≤ 7293034) (hx : x 137 0 = cd) (k0 : cd = 0 → PL mLaw G p l e room_1 s m args below meth c Q (T + 16) L [] x w nc ns) (k1 : ¬ cd = 0 → PL mLaw G p l e room_1 s m args below meth c Q t L [] x w nc ns) : PL mLaw G p l e room_1 s m args below meth c Q T L [] x w nc ns := by
  refine l_aload_n C d0 rfl h2 ?_
  refine l_callX (M' := mX10_thrown) (as := []) (rest := []) (idx := 128) C n_thrown mv_X10_thrown ml_L_128 ⟨by decide, by decide⟩ hb d1 rfl rfl rfl rfl (by decide) (fun E x' h => h.elim) ?_
  intro v y hp
  obtain ⟨rfl, rfl⟩ := hp
  refine l_iload C d2 h5 ?_
  refine l_icmp_eq (tgt := T + 11) C d3 (by omega) (fun _ => ?_) (fun q => absurd hx q)
  refine l_iload C d4 h5 ?_
  exact l_if_ne (tgt := t) C d5 (by omega) k1 k0
/-- the answers compared -/
theorem tail_B {T t : Nat} {v : Int32} (C : CL mLaw [] G p l s m args meth c) (d0 : decode code T = .ok (.aload_n 3, 1)) (d1 : decode code (T + 1) = .ok (.iconst 0, 1)) (d2 : decode code (T + 2) = .ok (.laload, 1)) (d3 : decode code (T + 3) = .ok (.iload 6, 2)) (d4 : decode code (T + 5) = .ok (.i2l, 1)) (d5 : decode code (T + 6) = .ok (.lcmp, 1)) (d6 : decode code (T + 7) = .ok (.ifCond .eq 5, 3)) (ht : T + 12 = t) (h3 : lg L 3 = some (.ref 200)) (h6 : lg L 6 = some (.int v)) (hw : w = v.toInt64) (k : PL mLaw G p l e room_1 s m args below meth c Q t L [] x w nc ns) : PL mLaw G p l e room_1 s m args below meth c Q T L [] x w nc ns := by
  refine l_aload_n C d0 rfl h3 ?_
  refine l_iconst (v := 0) C d1 rfl ?_
  refine l_lald C d2 ?_
  refine l_iload C d3 h6 ?_
  refine l_i2l C d4 ?_
  refine l_lcmp C d5 ?_
  refine l_if_eq (tgt := t) C d6 (by omega) (fun _ => k) (fun q => absurd (by rw [hw]; exact lg_cmp_s _) q)
end LTail
