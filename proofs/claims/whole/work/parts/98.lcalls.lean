/-! CALLS in the law's layer -/
section LCalls
variable {M M' : MD} {hh hh' : List (Nat × Nat × Nat × Nat)} {G : GG} {p : Program} {l : Launch} {e : Env} {R : Room} {s : State} {m : MethodId} {args : Array Value} {below : List Frame} {meth : Method} {c : Code} {Q : State → Prop} {pc : Nat} {L : List (Nat × Value)} {st rest : List Value} {x : XS} {w : Int64} {nc ns d' mc' ms' : Nat} {Post' : Option Value → XS → Prop} {PT' : String → XS → Prop}
theorem HO.lt {H : Heap} (h : HO G x w H) : gA G 200 < H.size := by
  obtain ⟨-, f9, -, h9⟩ := h
  exact (Array.getElem?_eq_some_iff.mp h9).1
theorem HO.nAA {H : Heap} (h : HO G x w H) (hI : IO G) : ¬ AA G H.size (gA G 200) := fun q => by
  rcases q with ⟨c9, h1, h2⟩ | q
  · exact hI c9 h1 h2.symm
  · exact absurd h.lt (Nat.not_lt.mpr q)
theorem HO.call {H H1 : Heap} {x' : XS} (h : HO G x w H) (hI : IO G) (hx : Holds G x' H1) (hk : ∀ q : Nat, q < H.size → ¬ AA G H.size q → H1[q]? = H[q]?) : HO G x' w H1 := by
  have h1 := h.lt
  have h2 := h.nAA hI
  obtain ⟨-, f9, hf, h9⟩ := h
  exact ⟨hx, f9, hf, by rw [hk _ h1 h2]; exact h9⟩
theorem cl_pre (C : CL M hh G p l s m args meth c) {H : Heap} {locs : List Loc} (hH : HO G x w H) (hS : va_S (AL G s.heap.size) s.heap H locs) (as : List Value) : ∀ U : State, U.heap = H → s.WarmedH U.vm → va_Pc (as.map (tr G)) (Pre G H.size x) (as.map (tr G)).toArray U := by
  intro U hU hW
  refine ⟨rfl, by rw [hU], EV.warm hW C.2.2.2.2.2.1.1, ?_, by rw [hU]; exact hH.1⟩
  rw [hU]
  exact (((C.2.2.2.2.2.2.2.2.2.2.1).kept hS.2.1).narrow (AA_AL hS.1)).moved hW.alike
/-- what a throw of E at pc does: to the handler's astore, and behind it -/
def CAT (M : MD) (G : GG) (p : Program) (l : Launch) (e : Env) (R : Room) (s : State) (m : MethodId) (args : Array Value) (below : List Frame) (meth : Method) (c : Code) (Q : State → Prop) (E : String) (pc : Nat) (x : XS) (w : Int64) (nc ns : Nat) : Prop :=
  ∀ (H : Heap) (locs : List Loc) (ls : Array Slot) (ce : Cell) (q : Addr) (rest : List Value), HO G x w H → va_S (AL G s.heap.size) s.heap H locs → lv_has ls M.2.2.1 (trL G []) → H[q]? = some ce → ce.vm = .none → s.vm.findClass E = some ce.cls → vx_W p l e R s m args below meth c H locs nc ns Q (F0 m pc ls rest) q
theorem CAT.none (h : False) {E : String} : CAT M G p l e R s m args below meth c Q E pc x w nc ns := h.elim
set_option maxHeartbeats 2000000 in
theorem l_callX {n idx : Nat} {as : List Value} {c9 ci : Nat} {t : List (Option Nat)} {q : vw_C} (C : CL M hh G p l s m args meth c) (hC : MM M' d' mc' ms' (.ref c9 :: as) x Post' PT') (hM : MV M' n) (hw : Cond.methodLink M.1.cls idx M'.1 ∈ WS) (hr : d' + 1 ≤ R.frames ∧ 8 + (M'.2.2.1 + 11) + 64 * d' ≤ R.locals) (hf : nc + mc' ≤ R.cells ∧ ns + ms' ≤ R.slots) (hdg : decode M.2.1 pc = .ok (.invokevirtual idx, 3)) (hlay : lay c9 = .inl (ci, t)) (hcl : vwCl[ci]? = some q) (hq : q.1 = M'.1.cls) (hn : as.length = n) (hrest : (rest.map fun v => v.category).sum ≤ 8)
    (kx : ∀ E x', PT' E x' → CAT M G p l e R s m args below meth c Q E pc x' w (nc + mc') (ns + ms')) (k : ∀ v x', Post' v x' → PL M G p l e R s m args below meth c Q (pc + 3) L (v.toList ++ rest) x' w (nc + mc') (ns + ms')) : PL M G p l e R s m args below meth c Q pc L (as.reverse ++ .ref c9 :: rest) x w nc ns := by
  intro H locs ls hH hS hL
  have hcb : CallB R s args M.1.cls idx M'.1 M'.2.1 M'.2.2.1 M'.2.2.2 (.code M'.1 M'.2.1 M'.2.2.1 M'.2.2.2 :: WS) (RM d' mc' ms') mc' ms' n := callB_of n C.2.2.2.2.1 (goodIn_code hM.2.1) rfl rfl rfl (C.2.2.2.2.1 _ hM.1) (C.2.2.2.2.1 _ hw) hM.2.2.2.2 hr
  have hrest2 : 2 * (F0 m pc ls ((as.reverse ++ .ref c9 :: rest).map (tr G))).monitorRoom + ((rest.map (tr G)).map fun v => v.category).sum ≤ 8 := by
    have e9 : ((rest.map (tr G)).map fun v => v.category) = rest.map fun v => v.category := by rw [List.map_map]; exact List.map_congr_left (fun v _ => tr_cat G v)
    rw [e9]
    exact lv_room hrest
  have h9 := va_recv C.2.2.2.2.2.1.1.1 hH.1.P hcl (by rw [wl_get (nc_obj hlay), ent_obj hlay])
  rw [hq] at h9
  have hrun := vx_runV (l := l) (e := e) (below := below) (meth := meth) (H := H) (locs := locs) (cells := nc) (slots := ns) (b := gA G c9) (As := as.map (tr G)) (rest := rest.map (tr G)) (g := F0 m pc ls ((as.reverse ++ .ref c9 :: rest).map (tr G))) ⟨C.1, C.2.1, C.2.2.1, C.2.2.2.1, C.2.2.2.2.1⟩ (hC l G H.size C.2.2.2.2.2.2.2.2.2.2.2.1 C.2.2.2.2.2.2.2.2.1) ⟨hcb, C.2.2.2.2.1 _ hM.2.2.1, C.2.2.2.2.1 _ hM.2.2.2.1⟩ ⟨pre_blind (.ref c9 :: as) G H.size x, h9, cl_pre C hH hS (.ref c9 :: as)⟩ rfl (by rw [List.length_map]; exact hn) hL.1 (by show (as.reverse ++ Value.ref c9 :: rest).map (tr G) = _; rw [List.map_append, List.map_reverse]; rfl) hrest2 hdg hf
  intro T hT X
  rcases hrun T hT X with ⟨v, st₀, t, T', LL, h0, X', hLL, e1, e2, ⟨⟨v', x', hv, hp, hh⟩, hF⟩, go⟩ | ⟨q9, st₀, t, T', LL, E, ce, h0, X', hLL, e1, e2, ⟨⟨x', hp, hh⟩, hF⟩, hce, hcv, hcl9, go⟩
  · cases hv
    obtain ⟨k1, k2, k3⟩ := vx_keep h0 e1 hS (fun q _ h => AA_AL hS.1 q h) (AA_AL hS.1) hLL hF
    have hk := k v' x' hp T'.heap (locs ++ LL) ls (hH.call C.2.2.2.2.2.2.2.2.2.1 (by rw [e1]; exact hh) k2) k3 hL
    rw [List.map_append] at hk
    obtain ⟨t2, a1, b1⟩ := hk T' rfl X'
    refine ⟨t2, go t2 ?_, b1⟩
    cases v' with
    | none => exact a1
    | some w => exact a1
  · obtain ⟨k1, k2, k3⟩ := vx_keep h0 e1 hS (fun q _ h => AA_AL hS.1 q h) (AA_AL hS.1) hLL hF
    obtain ⟨t2, a1, b1⟩ := kx E x' hp T'.heap (locs ++ LL) ls ce q9 _ (hH.call C.2.2.2.2.2.2.2.2.2.1 (by rw [e1]; exact hh) k2) k3 (lsub_has hL (L' := []) trivial) (by rw [e1]; exact hce) hcv hcl9 T' rfl X'
    exact ⟨t2, go.trans a1, b1⟩
end LCalls
