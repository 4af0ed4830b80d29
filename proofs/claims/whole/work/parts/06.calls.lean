/-! CALLS over the pure picture -/
/-- what the tables say of a method that is called: n arguments (the receiver not counted), as an instance's -/
def MV (M : MD) (n : Nat) : Prop := Cond.initialized M.1.cls ∈ WS ∧ Cond.code M.1 M.2.1 M.2.2.1 M.2.2.2 ∈ WS ∧ Cond.instanceMethod M.1 ∈ WS ∧ Cond.selects M.1.cls M.1 M.1 ∈ WS ∧ (M.1.cls ≠ "java/lang/invoke/MethodHandle" ∧ M.1.cls ≠ "java/lang/invoke/VarHandle" ∧ (parseMethodDescriptor M.1.desc).map (fun d => d.parameters.length) = some n)
/-- .. as a static one -/
def MS (M : MD) (n : Nat) : Prop := Cond.initialized M.1.cls ∈ WS ∧ Cond.code M.1 M.2.1 M.2.2.1 M.2.2.2 ∈ WS ∧ Cond.static M.1 ∈ WS ∧ (M.1.cls ≠ "java/lang/invoke/MethodHandle" ∧ M.1.cls ≠ "java/lang/invoke/VarHandle" ∧ (parseMethodDescriptor M.1.desc).map (fun d => d.parameters.length) = some n)
abbrev NoT : String → XS → Prop := fun _ _ => False
theorem goodIn_code {M : MD} (h : Cond.code M.1 M.2.1 M.2.2.1 M.2.2.2 ∈ WS) : GoodIn WS (.code M.1 M.2.1 M.2.2.1 M.2.2.2 :: WS) := fun w hw => (List.mem_cons.mp hw).elim (fun e => by rw [e]; exact ws_good _ h) (fun h2 => ws_good _ h2)
theorem pre_blind (as : List Value) (G : GG) (sz : Nat) (x : XS) : FrameBlind (va_Pc (as.map (tr G)) (Pre G sz x)) := by
  intro a U g mk q
  obtain ⟨q0, q1, q2, q3, q4⟩ := q
  exact ⟨q0, q1, EV.same (u := U) (U := U.calling g mk a) rfl q2, Ext.moved (u := U) (U := U.calling g mk a) (Vm.Alike.refl U.vm) q3, q4⟩
theorem pre_at {M : MD} {G : GG} {p : Program} {l : Launch} {s : State} {m : MethodId} {args : Array Value} {meth : Method} {c : Code} {H : Heap} {locs : List Loc} {x : XS} (C : CX M G p l s m args meth c) (hH : Holds G x H) (hS : va_S (AA G s.heap.size) s.heap H locs) (as : List Value) : ∀ U : State, U.heap = H → s.WarmedH U.vm → va_Pc (as.map (tr G)) (Pre G H.size x) (as.map (tr G)).toArray U := by
  intro U hU hW
  refine ⟨rfl, by rw [hU], EV.warm hW C.2.2.2.2.2.1, ?_, by rw [hU]; exact hH⟩
  rw [hU]
  exact (((C.2.2.2.2.2.2.2.2.2.1).kept hS.2.1).narrow (AA_sub hS.1)).moved hW.alike
theorem recv_at {M : MD} {G : GG} {p : Program} {l : Launch} {s : State} {m : MethodId} {args : Array Value} {meth : Method} {c : Code} {H : Heap} {x : XS} (C : CX M G p l s m args meth c) (hH : Holds G x H) {c9 ci : Nat} {t : List (Option Nat)} {q : vw_C} (hlay : lay c9 = .inl (ci, t)) (hcl : vwCl[ci]? = some q) : ∃ cellB : Cell, H[gA G c9]? = some cellB ∧ cellB.vm.isStatics = false ∧ s.vm.findClass q.1 = some cellB.cls :=
  va_recv C.2.2.2.2.2.1.1 hH.P hcl (by rw [wl_get (nc_obj hlay), ent_obj hlay])
section Calls
variable {M M' : MD} {d mc ms mc' ms' d' : Nat} {Post Post' : Option Value → XS → Prop} {PT PT' : String → XS → Prop} {pc : Nat} {L : List (Nat × Value)} {st : List Value} {x : XS}
/-- the room that is left for a callee -/
theorem room_ok {M' : MD} (hd : d' + 1 ≤ d) (hl : M'.2.2.1 ≤ 45) : (RM d' mc' ms').frames + 1 ≤ (RM d mc ms).frames ∧ 8 + (M'.2.2.1 + 11) + (RM d' mc' ms').locals ≤ (RM d mc ms).locals := by
  refine ⟨hd, ?_⟩
  show 8 + (M'.2.2.1 + 11) + 64 * d' ≤ 64 * d
  omega
set_option maxHeartbeats 2000000 in
theorem r_callV {n idx : Nat} {as rest : List Value} {c9 ci : Nat} {t : List (Option Nat)} {q : vw_C} (hC : MM M' d' 0 0 (.ref c9 :: as) x Post' NoT) (hM : MV M' n) (hw : Cond.methodLink M.1.cls idx M'.1 ∈ WS) (hr : d' + 1 ≤ d ∧ M'.2.2.1 ≤ 45) (hdg : decode M.2.1 pc = .ok (.invokevirtual idx, 3)) (hlay : lay c9 = .inl (ci, t)) (hcl : vwCl[ci]? = some q) (hq : q.1 = M'.1.cls) (hn : as.length = n) (hrest : (rest.map fun v => v.category).sum ≤ 8) (k : ∀ v x', Post' v x' → PW M (RM d mc ms) mc ms Post PT (pc + 3) L (v.toList ++ rest) x') : PW M (RM d mc ms) mc ms Post PT pc L (as.reverse ++ .ref c9 :: rest) x := by
  intro p l e s m args below meth c G H locs ls C hH hS hL
  have hcb : CallB (RM d mc ms) s args M.1.cls idx M'.1 M'.2.1 M'.2.2.1 M'.2.2.2 (.code M'.1 M'.2.1 M'.2.2.1 M'.2.2.2 :: WS) (RM d' 0 0) 0 0 n := callB_of n C.2.2.2.2.1 (goodIn_code hM.2.1) rfl rfl rfl (C.2.2.2.2.1 _ hM.1) (C.2.2.2.2.1 _ hw) hM.2.2.2.2 (room_ok hr.1 hr.2)
  have hrest2 : 2 * (F0 m pc ls ((as.reverse ++ .ref c9 :: rest).map (tr G))).monitorRoom + ((rest.map (tr G)).map fun v => v.category).sum ≤ 8 := by
    have e9 : ((rest.map (tr G)).map fun v => v.category) = rest.map fun v => v.category := by rw [List.map_map]; exact List.map_congr_left (fun v _ => tr_cat G v)
    rw [e9]
    exact lv_room hrest
  have hrun := vx_runV (l := l) (e := e) (below := below) (meth := meth) (H := H) (locs := locs) (cells := 0) (slots := 0) (b := gA G c9) (As := as.map (tr G)) (rest := rest.map (tr G)) (g := F0 m pc ls ((as.reverse ++ .ref c9 :: rest).map (tr G))) ⟨C.1, C.2.1, C.2.2.1, C.2.2.2.1, C.2.2.2.2.1⟩ (hC l G H.size C.2.2.2.2.2.2.2.2.2.2.1 C.2.2.2.2.2.2.2.2.1) ⟨hcb, C.2.2.2.2.1 _ hM.2.2.1, C.2.2.2.2.1 _ hM.2.2.2.1⟩ ⟨pre_blind (.ref c9 :: as) G H.size x, by have h9 := recv_at C hH hlay hcl; rw [hq] at h9; exact h9, pre_at C hH hS (.ref c9 :: as)⟩ rfl (by rw [List.length_map]; exact hn) hL.1 (by show (as.reverse ++ Value.ref c9 :: rest).map (tr G) = _; rw [List.map_append, List.map_reverse]; rfl) hrest2 hdg ⟨Nat.zero_le _, Nat.zero_le _⟩
  intro T hT X
  rcases hrun T hT X with ⟨v, st₀, t, T', LL, h0, X', hLL, e1, e2, ⟨⟨v', x', hv, hp, hh⟩, hF⟩, go⟩ | ⟨q9, st₀, t, T', LL, E, ce, h0, X', hLL, e1, e2, ⟨⟨x', hp, hh⟩, hF⟩, hce, hcv, hcl9, go⟩
  · cases hv
    obtain ⟨k1, k2, k3⟩ := vx_keep h0 e1 hS (fun q _ h => AA_sub hS.1 q h) (AA_sub hS.1) hLL hF
    have hk := k v' x' hp p l e s m args below meth c G T'.heap (locs ++ LL) ls C (by rw [e1]; exact hh) k3 hL
    rw [List.map_append] at hk
    obtain ⟨t2, a1, b1⟩ := hk T' rfl X'
    refine ⟨t2, go t2 ?_, b1⟩
    cases v' with
    | none => exact a1
    | some w => exact a1
  · exact hp.elim
set_option maxHeartbeats 2000000 in
theorem r_callVT {n idx : Nat} {as rest : List Value} {c9 ci : Nat} {t : List (Option Nat)} {q : vw_C} (hC : MM M' d' mc' ms' (.ref c9 :: as) x (fun _ _ => False) PT') (hM : MV M' n) (hw : Cond.methodLink M.1.cls idx M'.1 ∈ WS) (hr : d' + 1 ≤ d ∧ M'.2.2.1 ≤ 45) (hdg : decode M.2.1 pc = .ok (.invokevirtual idx, 3)) (hlay : lay c9 = .inl (ci, t)) (hcl : vwCl[ci]? = some q) (hq : q.1 = M'.1.cls) (hn : as.length = n) (hrest : (rest.map fun v => v.category).sum ≤ 8) (hc : mc' ≤ mc ∧ ms' ≤ ms) (kt : ∀ E x', PT' E x' → PT E x') : PW M (RM d mc ms) mc ms Post PT pc L (as.reverse ++ .ref c9 :: rest) x := by
  intro p l e s m args below meth c G H locs ls C hH hS hL
  have hcb : CallB (RM d mc ms) s args M.1.cls idx M'.1 M'.2.1 M'.2.2.1 M'.2.2.2 (.code M'.1 M'.2.1 M'.2.2.1 M'.2.2.2 :: WS) (RM d' mc' ms') mc' ms' n := callB_of n C.2.2.2.2.1 (goodIn_code hM.2.1) rfl rfl rfl (C.2.2.2.2.1 _ hM.1) (C.2.2.2.2.1 _ hw) hM.2.2.2.2 (room_ok hr.1 hr.2)
  have hrest2 : 2 * (F0 m pc ls ((as.reverse ++ .ref c9 :: rest).map (tr G))).monitorRoom + ((rest.map (tr G)).map fun v => v.category).sum ≤ 8 := by
    have e9 : ((rest.map (tr G)).map fun v => v.category) = rest.map fun v => v.category := by rw [List.map_map]; exact List.map_congr_left (fun v _ => tr_cat G v)
    rw [e9]
    exact lv_room hrest
  have hrun := vx_runV (l := l) (e := e) (below := below) (meth := meth) (H := H) (locs := locs) (cells := 0) (slots := 0) (b := gA G c9) (As := as.map (tr G)) (rest := rest.map (tr G)) (g := F0 m pc ls ((as.reverse ++ .ref c9 :: rest).map (tr G))) ⟨C.1, C.2.1, C.2.2.1, C.2.2.2.1, C.2.2.2.2.1⟩ (hC l G H.size C.2.2.2.2.2.2.2.2.2.2.1 C.2.2.2.2.2.2.2.2.1) ⟨hcb, C.2.2.2.2.1 _ hM.2.2.1, C.2.2.2.2.1 _ hM.2.2.2.1⟩ ⟨pre_blind (.ref c9 :: as) G H.size x, by have h9 := recv_at C hH hlay hcl; rw [hq] at h9; exact h9, pre_at C hH hS (.ref c9 :: as)⟩ rfl (by rw [List.length_map]; exact hn) hL.1 (by show (as.reverse ++ Value.ref c9 :: rest).map (tr G) = _; rw [List.map_append, List.map_reverse]; rfl) hrest2 hdg ⟨by show 0 + mc' ≤ mc; omega, by show 0 + ms' ≤ ms; omega⟩
  intro T hT X
  rcases hrun T hT X with ⟨v, st₀, t, T', LL, h0, X', hLL, e1, e2, ⟨⟨v', x', hv, hp, hh⟩, hF⟩, go⟩ | ⟨q9, st₀, t, T', LL, E, ce, h0, X', hLL, e1, e2, ⟨⟨x', hp, hh⟩, hF⟩, hce, hcv, hcl9, go⟩
  · exact hp.elim
  · obtain ⟨k1, k2, k3⟩ := vx_keep h0 e1 hS (fun q _ h => AA_sub hS.1 q h) (AA_sub hS.1) hLL hF
    have ho := vx_out (ls := ls) (rest := rest.map (tr G)) (Qc := QQ G s.heap.size Post) (XC := XQ G s.heap.size PT) (free := AA G s.heap.size) (locs := locs ++ LL) (cells := 0 + mc') (slots := 0 + ms') (mc := mc) (ms := ms) (p := p) (l := l) (e := e) (R := RM d mc ms) (s := s) (m := m) (args := args) (below := below) (meth := meth) (c := c) (H := T'.heap) (pc := pc) (fun z hz => (C.2.2.2.2.2.2.2.2.2.2.2 z hz).elim) C.2.2.2.2.2.2.2.1 (by rw [e1]; exact hce) hcv hcl9 (fun t9 ht9 _ => ⟨⟨x', kt E x' hp, by rw [ht9, e1]; exact hh⟩, k3.F ht9⟩) k3.2.2 (by omega) (by omega)
    obtain ⟨t2, a1, b1⟩ := ho T' rfl X'
    exact ⟨t2, go.trans a1, b1⟩
set_option maxHeartbeats 2000000 in
theorem r_callS {n idx : Nat} {as rest : List Value} (hC : MM M' d' 0 0 as x Post' NoT) (hM : MS M' n) (hw : Cond.methodLink M.1.cls idx M'.1 ∈ WS) (hr : d' + 1 ≤ d ∧ M'.2.2.1 ≤ 45) (hdg : decode M.2.1 pc = .ok (.invokestatic idx, 3)) (hn : as.length = n) (hrest : (rest.map fun v => v.category).sum ≤ 8) (k : ∀ v x', Post' v x' → PW M (RM d mc ms) mc ms Post PT (pc + 3) L (v.toList ++ rest) x') : PW M (RM d mc ms) mc ms Post PT pc L (as.reverse ++ rest) x := by
  intro p l e s m args below meth c G H locs ls C hH hS hL
  have hcb : CallB (RM d mc ms) s args M.1.cls idx M'.1 M'.2.1 M'.2.2.1 M'.2.2.2 (.code M'.1 M'.2.1 M'.2.2.1 M'.2.2.2 :: WS) (RM d' 0 0) 0 0 n := callB_of n C.2.2.2.2.1 (goodIn_code hM.2.1) rfl rfl rfl (C.2.2.2.2.1 _ hM.1) (C.2.2.2.2.1 _ hw) hM.2.2.2 (room_ok hr.1 hr.2)
  have hrest2 : 2 * (F0 m pc ls ((as.reverse ++ rest).map (tr G))).monitorRoom + ((rest.map (tr G)).map fun v => v.category).sum ≤ 8 := by
    have e9 : ((rest.map (tr G)).map fun v => v.category) = rest.map fun v => v.category := by rw [List.map_map]; exact List.map_congr_left (fun v _ => tr_cat G v)
    rw [e9]
    exact lv_room hrest
  have hrun := vx_runS (l := l) (e := e) (below := below) (meth := meth) (H := H) (locs := locs) (cells := 0) (slots := 0) (As := as.map (tr G)) (rest := rest.map (tr G)) (g := F0 m pc ls ((as.reverse ++ rest).map (tr G))) ⟨C.1, C.2.1, C.2.2.1, C.2.2.2.1, C.2.2.2.2.1⟩ (hC l G H.size C.2.2.2.2.2.2.2.2.2.2.1 C.2.2.2.2.2.2.2.2.1) ⟨hcb, C.2.2.2.2.1 _ hM.2.2.1⟩ ⟨pre_blind as G H.size x, pre_at C hH hS as⟩ rfl (by rw [List.length_map]; exact hn) hL.1 (by show (as.reverse ++ rest).map (tr G) = _; rw [List.map_append, List.map_reverse]) hrest2 hdg ⟨Nat.zero_le _, Nat.zero_le _⟩
  intro T hT X
  rcases hrun T hT X with ⟨v, st₀, t, T', LL, h0, X', hLL, e1, e2, ⟨⟨v', x', hv, hp, hh⟩, hF⟩, go⟩ | ⟨q9, st₀, t, T', LL, E, ce, h0, X', hLL, e1, e2, ⟨⟨x', hp, hh⟩, hF⟩, hce, hcv, hcl9, go⟩
  · cases hv
    obtain ⟨k1, k2, k3⟩ := vx_keep h0 e1 hS (fun q _ h => AA_sub hS.1 q h) (AA_sub hS.1) hLL hF
    have hk := k v' x' hp p l e s m args below meth c G T'.heap (locs ++ LL) ls C (by rw [e1]; exact hh) k3 hL
    rw [List.map_append] at hk
    obtain ⟨t2, a1, b1⟩ := hk T' rfl X'
    refine ⟨t2, go t2 ?_, b1⟩
    cases v' with
    | none => exact a1
    | some w => exact a1
  · exact hp.elim
set_option maxHeartbeats 2000000 in
theorem r_callST {n idx : Nat} {as rest : List Value} (hC : MM M' d' mc' ms' as x (fun _ _ => False) PT') (hM : MS M' n) (hw : Cond.methodLink M.1.cls idx M'.1 ∈ WS) (hr : d' + 1 ≤ d ∧ M'.2.2.1 ≤ 45) (hdg : decode M.2.1 pc = .ok (.invokestatic idx, 3)) (hn : as.length = n) (hrest : (rest.map fun v => v.category).sum ≤ 8) (hc : mc' ≤ mc ∧ ms' ≤ ms) (kt : ∀ E x', PT' E x' → PT E x') : PW M (RM d mc ms) mc ms Post PT pc L (as.reverse ++ rest) x := by
  intro p l e s m args below meth c G H locs ls C hH hS hL
  have hcb : CallB (RM d mc ms) s args M.1.cls idx M'.1 M'.2.1 M'.2.2.1 M'.2.2.2 (.code M'.1 M'.2.1 M'.2.2.1 M'.2.2.2 :: WS) (RM d' mc' ms') mc' ms' n := callB_of n C.2.2.2.2.1 (goodIn_code hM.2.1) rfl rfl rfl (C.2.2.2.2.1 _ hM.1) (C.2.2.2.2.1 _ hw) hM.2.2.2 (room_ok hr.1 hr.2)
  have hrest2 : 2 * (F0 m pc ls ((as.reverse ++ rest).map (tr G))).monitorRoom + ((rest.map (tr G)).map fun v => v.category).sum ≤ 8 := by
    have e9 : ((rest.map (tr G)).map fun v => v.category) = rest.map fun v => v.category := by rw [List.map_map]; exact List.map_congr_left (fun v _ => tr_cat G v)
    rw [e9]
    exact lv_room hrest
  have hrun := vx_runS (l := l) (e := e) (below := below) (meth := meth) (H := H) (locs := locs) (cells := 0) (slots := 0) (As := as.map (tr G)) (rest := rest.map (tr G)) (g := F0 m pc ls ((as.reverse ++ rest).map (tr G))) ⟨C.1, C.2.1, C.2.2.1, C.2.2.2.1, C.2.2.2.2.1⟩ (hC l G H.size C.2.2.2.2.2.2.2.2.2.2.1 C.2.2.2.2.2.2.2.2.1) ⟨hcb, C.2.2.2.2.1 _ hM.2.2.1⟩ ⟨pre_blind as G H.size x, pre_at C hH hS as⟩ rfl (by rw [List.length_map]; exact hn) hL.1 (by show (as.reverse ++ rest).map (tr G) = _; rw [List.map_append, List.map_reverse]) hrest2 hdg ⟨by show 0 + mc' ≤ mc; omega, by show 0 + ms' ≤ ms; omega⟩
  intro T hT X
  rcases hrun T hT X with ⟨v, st₀, t, T', LL, h0, X', hLL, e1, e2, ⟨⟨v', x', hv, hp, hh⟩, hF⟩, go⟩ | ⟨q9, st₀, t, T', LL, E, ce, h0, X', hLL, e1, e2, ⟨⟨x', hp, hh⟩, hF⟩, hce, hcv, hcl9, go⟩
  · exact hp.elim
  · obtain ⟨k1, k2, k3⟩ := vx_keep h0 e1 hS (fun q _ h => AA_sub hS.1 q h) (AA_sub hS.1) hLL hF
    have ho := vx_out (ls := ls) (rest := rest.map (tr G)) (Qc := QQ G s.heap.size Post) (XC := XQ G s.heap.size PT) (free := AA G s.heap.size) (locs := locs ++ LL) (cells := 0 + mc') (slots := 0 + ms') (mc := mc) (ms := ms) (p := p) (l := l) (e := e) (R := RM d mc ms) (s := s) (m := m) (args := args) (below := below) (meth := meth) (c := c) (H := T'.heap) (pc := pc) (fun z hz => (C.2.2.2.2.2.2.2.2.2.2.2 z hz).elim) C.2.2.2.2.2.2.2.1 (by rw [e1]; exact hce) hcv hcl9 (fun t9 ht9 _ => ⟨⟨x', kt E x' hp, by rw [ht9, e1]; exact hh⟩, k3.F ht9⟩) k3.2.2 (by omega) (by omega)
    obtain ⟨t2, a1, b1⟩ := ho T' rfl X'
    exact ⟨t2, go.trans a1, b1⟩
end Calls
