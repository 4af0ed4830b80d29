/-! CATCHING; THE CONTRACT of a method of the law's class -/
/-- the handler's first instruction, a store of the throwable to local i, of len bytes -/
def AST (M : MD) (h i len : Nat) : Prop := (∃ k9 : Fin 4, (k9 : Nat) = i ∧ decode M.2.1 h = .ok (.astore_n k9, 1) ∧ len = 1) ∨ (decode M.2.1 h = .ok (.astore i, 2) ∧ len = 2)
def PreL (G : GG) (sz : Nat) (x : XS) (w : Int64) (U : State) : Prop := U.heap.size = sz ∧ EL G U ∧ Ext G (AL G sz) U U.heap ∧ HO G x w U.heap
def QL (G : GG) (sz : Nat) (Post : Int32 → Int64 → XS → Prop) : Array Value → State → Outcome → State → Prop := fun _ st oc t => (∃ (r : Int32) (w' : Int64) (x' : XS), oc = .returned (some (.int r)) ∧ Post r w' x' ∧ HO G x' w' t.heap) ∧ va_F (AL G sz) st t
abbrev NoX : String → State → State → Prop := fun _ _ _ => False
def ML (M : MD) (hh : List (Nat × Nat × Nat × Nat)) (d mc ms : Nat) (as : List Value) (x : XS) (w : Int64) (Post : Int32 → Int64 → XS → Prop) : Prop :=
  ∀ (l : Launch) (G : GG) (sz : Nat), l.stackTraces = false → Inj G → IO G → vx_Met l M.1 (.codeWith M.1 M.2.1 M.2.2.1 M.2.2.2 hh :: WS) (RM d mc ms) (va_Pc (as.map (tr G)) (PreL G sz x w)) (QL G sz Post) NoX mc ms (AL G sz)
section LCatch
variable {M M' : MD} {hh hh' : List (Nat × Nat × Nat × Nat)} {G : GG} {p : Program} {l : Launch} {e : Env} {R : Room} {s : State} {m : MethodId} {args : Array Value} {below : List Frame} {meth : Method} {c : Code} {Q : State → Prop} {pc : Nat} {L : List (Nat × Value)} {st rest : List Value} {x : XS} {w : Int64} {nc ns d d' mc ms mc' ms' : Nat}
theorem cast_at {E : String} (hE : E = thI ∨ E = thS) (C : CL M hh G p l s m args meth c) : (Cond.castable E E).before args s = true := by
  rcases hE with rfl | rfl
  · exact va_Nw.use rfl C.2.2.2.2.2.1.1.2.2.1
  · exact va_Nw.use rfl C.2.2.2.2.2.1.1.2.2.2.1
theorem ast_go {h i len : Nat} (C : CL M hh G p l s m args meth c) (ha : AST M h i len) (hn : i < M.2.2.1) (k : PL M G p l e R s m args below meth c Q (h + len) [] [] x w nc ns) {H : Heap} {locs : List Loc} {ls : Array Slot} {q : Addr} (hH : HO G x w H) (hS : va_S (AL G s.heap.size) s.heap H locs) (hL : lv_has ls M.2.2.1 (trL G [])) : W p l e R s m args below meth c H locs nc ns Q (F0 m h ls [.ref q]) := by
  rcases ha with ⟨k9, hi, hd, rfl⟩ | ⟨hd, rfl⟩
  · exact lv_astore_n C.1 C.2.1 hd hi hL hn rfl (fun ls2 hL2 => k H locs ls2 hH hS ⟨hL2.1, hL2.2.1, fun _ hq => by cases hq⟩)
  · exact lv_astore C.1 C.2.1 hd hL hn rfl (fun ls2 hL2 => k H locs ls2 hH hS ⟨hL2.1, hL2.2.1, fun _ hq => by cases hq⟩)
/-- caught by the first row -/
theorem cat_1 {a b h ct i len : Nat} {suf : List (Nat × Nat × Nat × Nat)} {E : String} (C : CL M ((a, b, h, ct) :: suf) G p l s m args meth c) (hcov : covers ⟨a, b, h, ct⟩ pc = true) (hct : ct ≠ 0) (hl : Cond.classLink M.1.cls ct E ∈ WS) (hE : E = thI ∨ E = thS) (ha : AST M h i len) (hn : i < M.2.2.1) (k : PL M G p l e R s m args below meth c Q (h + len) [] [] x w nc ns) : CAT M G p l e R s m args below meth c Q E pc x w nc ns := by
  intro H locs ls ce q rest hH hS hL hcell hv hcl
  exact vx_catch (own := M.1.cls) (name := E) (E := E) C.2.2.2.1 [] ⟨a, b, h, ct⟩ (tableOf suf) C.2.2.2.2.2.2.2.2.2.2.2.2 (fun _ hz => by cases hz) hcov hct (C.2.2.2.2.1 _ hl) (cast_at hE C) hcell hv hcl (ast_go C ha hn k hH hS hL)
/-- an illegal argument goes past the first row, of nobody there, and is caught by the second -/
theorem cat_2 {a b h ct a2 b2 h2 ct2 i len : Nat} {suf : List (Nat × Nat × Nat × Nat)} (C : CL M ((a, b, h, ct) :: (a2, b2, h2, ct2) :: suf) G p l s m args meth c) (hct1 : ct ≠ 0) (hl1 : Cond.classLink M.1.cls ct thS ∈ WS) (hcov : covers ⟨a2, b2, h2, ct2⟩ pc = true) (hct : ct2 ≠ 0) (hl : Cond.classLink M.1.cls ct2 thI ∈ WS) (ha : AST M h2 i len) (hn : i < M.2.2.1) (k : PL M G p l e R s m args below meth c Q (h2 + len) [] [] x w nc ns) : CAT M G p l e R s m args below meth c Q thI pc x w nc ns := by
  intro H locs ls ce q rest hH hS hL hcell hv hcl
  refine vx_catch (own := M.1.cls) (name := thI) (E := thI) C.2.2.2.1 [⟨a, b, h, ct⟩] ⟨a2, b2, h2, ct2⟩ (tableOf suf) C.2.2.2.2.2.2.2.2.2.2.2.2 (fun z hz => ?_) hcov hct (C.2.2.2.2.1 _ hl) (cast_at (Or.inl rfl) C) hcell hv hcl (ast_go C ha hn k hH hS hL)
  rw [List.mem_singleton.mp hz]
  exact Or.inr ⟨hct1, thS, C.2.2.2.2.1 _ hl1, C.2.2.2.2.2.1.2.2⟩
theorem l_iret {v : Int32} {Post : Int32 → Int64 → XS → Prop} (C : CL M hh G p l s m args meth c) (hr : M.2.2.2 = some .int) (hd : decode M.2.1 pc = .ok (.ireturn, 1)) (hc : nc ≤ mc ∧ ns ≤ ms) (hp : Post v w x) : PL M G p l e R s m args below meth c (vx_MQ below (QL G s.heap.size Post) NoX args s mc ms (AL G s.heap.size)) pc L [.int v] x w nc ns := by
  intro H locs ls hH hS hL
  have hlocks : meth.locks = false := C.2.2.2.2.2.2.2.1
  refine W.widen (k := mc) (n := ms) hc.1 hc.2 ?_
  exact vx_ret (W.iret C.1 C.2.1 (C.2.2.2.2.2.2.1.trans hr) (fun t ht hW => ⟨⟨v, w, x, rfl, hp, by rw [ht]; exact hH⟩, hS.F ht⟩) hS.2.2 hd)
end LCatch
set_option maxHeartbeats 2000000 in
theorem ML.of {M : MD} {hh : List (Nat × Nat × Nat × Nat)} {d mc ms : Nat} {as : List Value} {x : XS} {w : Int64} {Post : Int32 → Int64 → XS → Prop} (hy : plainName M.1.cls = true) (hn : (lg_sl as).length ≤ M.2.2.1)
    (h : ∀ (p : Program) (l : Launch) (e : Env) (s : State) (m : MethodId) (args : Array Value) (below : List Frame) (meth : Method) (c : Code) (G : GG), CL M hh G p l s m args meth c → PL M G p l e (RM d mc ms) s m args below meth c (vx_MQ below (QL G s.heap.size Post) NoX args s mc ms (AL G s.heap.size)) 0 (lv_args 0 as) [] x w 0 0) : ML M hh d mc ms as x w Post := by
  intro l G sz hl hI hO
  refine vx_ofWH (cc := M.2.1) (maxL := M.2.2.1) (ret := M.2.2.2) (hh := hh) hy rfl ?_
  intro p e s m args below meth c s₁ B hml hP
  obtain ⟨rfl, hsz, hE, hX, hH⟩ := hP
  have hts := atoms_spec (ws := (.codeWith M.1 M.2.1 M.2.2.1 M.2.2.2 hh :: WS)) B.pre
  subst hsz
  have hsl : lg_sl (as.map (tr G)) = (lg_sl as).map (fun q => match q with | .val v => .val (tr G v) | z => z) := by
    clear hn h hX hH hE hts B
    induction as with
    | nil => rfl
    | cons v vs ih =>
      have e1 : lg_sl ((v :: vs).map (tr G)) = (if (tr G v).category = 2 then [.val (tr G v), .second] else [.val (tr G v)]) ++ lg_sl (vs.map (tr G)) := rfl
      have e2 : lg_sl (v :: vs) = (if v.category = 2 then [.val v, .second] else [.val v]) ++ lg_sl vs := rfl
      rw [e1, e2, ih, tr_cat]
      by_cases h2 : v.category = 2
      · simp [h2]
      · simp [h2]
  have hlen : (lg_sl (as.map (tr G))).length ≤ M.2.2.1 := by rw [hsl, List.length_map]; exact hn
  have hls := lv_entry (as.map (tr G)) hlen
  have hw := h p l e s m (as.map (tr G)).toArray below meth c G ⟨B.exec, B.bytes, hml, findClass_of_methodNamed B.named, fun w hw => hts w (List.mem_cons_of_mem _ hw), hE, B.returns, B.notSynchronized, hI, hO, hX, hl, vx_table (x := M.1) B (hts _ List.mem_cons_self)⟩ s.heap [] _ hH va_S.rf (by rw [trL_args]; exact hls)
  rw [lg_entry_eq]
  exact hw
/-- what the tables say of a static method with handlers -/
def MSW (M : MD) (hh : List (Nat × Nat × Nat × Nat)) (n : Nat) : Prop := Cond.initialized M.1.cls ∈ WS ∧ Cond.codeWith M.1 M.2.1 M.2.2.1 M.2.2.2 hh ∈ WS ∧ Cond.static M.1 ∈ WS ∧ (M.1.cls ≠ "java/lang/invoke/MethodHandle" ∧ M.1.cls ≠ "java/lang/invoke/VarHandle" ∧ (parseMethodDescriptor M.1.desc).map (fun d => d.parameters.length) = some n)
section LCallW
variable {M M' : MD} {hh hh' : List (Nat × Nat × Nat × Nat)} {G : GG} {p : Program} {l : Launch} {e : Env} {R : Room} {s : State} {m : MethodId} {args : Array Value} {below : List Frame} {meth : Method} {c : Code} {Q : State → Prop} {pc : Nat} {L : List (Nat × Value)} {st rest : List Value} {x : XS} {w : Int64} {nc ns d d' mc ms mc' ms' : Nat}
theorem preL_blind (as : List Value) (G : GG) (sz : Nat) (x : XS) (w : Int64) : FrameBlind (va_Pc (as.map (tr G)) (PreL G sz x w)) := by
  intro a U g mk q
  obtain ⟨q0, q1, q2, q3, q4⟩ := q
  exact ⟨q0, q1, EL.same (u := U) (U := U.calling g mk a) rfl q2, Ext.moved (u := U) (U := U.calling g mk a) (Vm.Alike.refl U.vm) q3, q4⟩
set_option maxHeartbeats 2000000 in
theorem l_callW {n idx : Nat} {as : List Value} {Post : Int32 → Int64 → XS → Prop} (C : CL M hh G p l s m args meth c) (hC : ML M' hh' d' mc' ms' as x w Post) (hM : MSW M' hh' n) (hw : Cond.methodLink M.1.cls idx M'.1 ∈ WS) (hr : d' + 1 ≤ R.frames ∧ 8 + (M'.2.2.1 + 11) + 64 * d' ≤ R.locals) (hf : nc + mc' ≤ R.cells ∧ ns + ms' ≤ R.slots) (hdg : decode M.2.1 pc = .ok (.invokestatic idx, 3)) (hn : as.length = n) (hrest : (rest.map fun v => v.category).sum ≤ 8)
    (k : ∀ r w' x', Post r w' x' → PL M G p l e R s m args below meth c Q (pc + 3) L (.int r :: rest) x' w' (nc + mc') (ns + ms')) : PL M G p l e R s m args below meth c Q pc L (as.reverse ++ rest) x w nc ns := by
  intro H locs ls hH hS hL
  have hgood : GoodIn WS (va_wsS M.1.cls idx M'.1 (.codeWith M'.1 M'.2.1 M'.2.2.1 M'.2.2.2 hh' :: WS)) := by
    intro w9 hw9
    unfold va_wsS at hw9
    rcases List.mem_append.mp hw9 with h | h
    · simp only [List.mem_cons, List.mem_nil_iff, or_false] at h
      rcases h with rfl | rfl | rfl
      · exact ws_good _ hw
      · exact ws_good _ hM.2.2.1
      · exact ws_good _ hM.1
    · rcases List.mem_cons.mp h with rfl | h
      · exact ws_good _ hM.2.1
      · exact ws_good _ h
  have hcw : vx_CSW R s args M.1.cls idx M'.1 M'.2.1 M'.2.2.1 M'.2.2.2 hh' (.codeWith M'.1 M'.2.1 M'.2.2.1 M'.2.2.2 hh' :: WS) (RM d' mc' ms') mc' ms' n := vx_cwSW n C.2.2.2.2.1 hgood rfl rfl rfl hM.2.2.2 hr
  have hrest2 : 2 * (F0 m pc ls ((as.reverse ++ rest).map (tr G))).monitorRoom + ((rest.map (tr G)).map fun v => v.category).sum ≤ 8 := by
    have e9 : ((rest.map (tr G)).map fun v => v.category) = rest.map fun v => v.category := by rw [List.map_map]; exact List.map_congr_left (fun v _ => tr_cat G v)
    rw [e9]
    exact lv_room hrest
  have hpre : ∀ U : State, U.heap = H → s.WarmedH U.vm → va_Pc (as.map (tr G)) (PreL G H.size x w) (as.map (tr G)).toArray U := fun U hU hW => by
    refine ⟨rfl, by rw [hU], EL.warm hW C.2.2.2.2.2.1, ?_, by rw [hU]; exact hH⟩
    rw [hU]
    exact (((C.2.2.2.2.2.2.2.2.2.2.1).kept hS.2.1).narrow (AL_sub hS.1)).moved hW.alike
  have hrun := vx_runSX (l := l) (e := e) (below := below) (meth := meth) (H := H) (locs := locs) (cells := nc) (slots := ns) (As := as.map (tr G)) (rest := rest.map (tr G)) (g := F0 m pc ls ((as.reverse ++ rest).map (tr G))) ⟨C.1, C.2.1, C.2.2.1, C.2.2.2.1, C.2.2.2.2.1⟩ (hC l G H.size C.2.2.2.2.2.2.2.2.2.2.2.1 C.2.2.2.2.2.2.2.2.1 C.2.2.2.2.2.2.2.2.2.1) hcw ⟨preL_blind as G H.size x w, hpre⟩ rfl (by rw [List.length_map]; exact hn) hL.1 (by show (as.reverse ++ rest).map (tr G) = _; rw [List.map_append, List.map_reverse]) hrest2 hdg hf
  intro T hT X
  rcases hrun T hT X with ⟨v, st₀, t, T', LL, h0, X', hLL, e1, e2, ⟨⟨r, w', x', hv, hp, hh⟩, hF⟩, go⟩ | ⟨q9, st₀, t, T', LL, E, ce, h0, X', hLL, e1, e2, hp, hce, hcv, hcl9, go⟩
  · cases hv
    obtain ⟨k1, k2, k3⟩ := vx_keep h0 e1 hS (fun q _ h => AL_sub hS.1 q h) (AL_sub hS.1) hLL hF
    obtain ⟨t2, a1, b1⟩ := k r w' x' hp T'.heap (locs ++ LL) ls (by rw [e1]; exact hh) k3 hL T' rfl X'
    exact ⟨t2, go t2 a1, b1⟩
  · exact hp.elim
end LCallW
