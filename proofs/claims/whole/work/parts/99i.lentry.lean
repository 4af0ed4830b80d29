/-! THE LAW'S ENTRY: both made, and the row 'out' -/
def CE (G : GG) (p : Program) (l : Launch) (s : State) (m : MethodId) (args : Array Value) (c : Code) : Prop := p.tables.exec = Jvm.exec ∧ c.code = code ∧ c.maxLocals = 8 ∧ s.vm.findClass "FirstAsleepLaw" = some m.cls ∧ (∀ w ∈ WS, w.before args s = true) ∧ EG G s ∧ LIN G ∧ Ext G (AZ G) s s.heap ∧ gA G 0 = s.heap.size ∧ l.stackTraces = false
section LEntry
variable {G : GG} {p : Program} {l : Launch} {e : Env} {s : State} {m : MethodId} {args : Array Value} {below : List Frame} {meth : Method} {c : Code} {Q : State → Prop}
theorem pe_pre (C : CE G p l s m args c) {es : List EE} {H : Heap} {locs : List Loc} (hH : HP G es H) (hS : va_S (AZ G) s.heap H locs) (as : List Value) : ∀ U : State, U.heap = H → s.WarmedH U.vm → va_Pc (as.map (tr G)) (PreG G es) (as.map (tr G)).toArray U := by
  intro U hU hW
  refine ⟨rfl, EG.warm hW C.2.2.2.2.2.1, ?_, by rw [hU]; exact hH⟩
  rw [hU]
  exact ((C.2.2.2.2.2.2.2.1).kept hS.2.1).moved hW.alike
set_option maxHeartbeats 2000000 in
theorem e_new {C9 : String} {T : u_T} {N ci idx pc nc ns : Nat} {ds : List FE} {es : List EE} {ls : Array Slot} {st : List Value} {H : Heap} {locs : List Loc} (ty : Nat → FieldType) (C : CE G p l s m args c) (hin : ∀ w ∈ u_ws C9 T N, w ∈ WS) (hty : ∀ k, k < N → parseFieldDescriptor (T k).2.2.1 = some (ty k)) (hcl : vwCl[ci]? = some (C9, T, N)) (hw1 : Cond.classLink "FirstAsleepLaw" idx C9 ∈ WS) (hw2 : Cond.instantiable C9 N ∈ WS) (hw3 : Cond.initialized C9 ∈ WS) (hfs : ∀ G j, j < N → defaultValue (ty j) = vp_V (ds.map (fE G)) j) (hl : es.length < 163) (hc : nc + 1 ≤ 601024) (hs : ns + N ≤ 7293034) (hd : decode code pc = .ok (.new idx, 3)) (hH : HP G es H) (hS : va_S (AZ G) s.heap H locs)
    (k : ∀ H1 : Heap, HP G (es ++ [.inl (ci, ds)]) H1 → va_S (AZ G) s.heap H1 locs → W p l e room_1 s m args below meth c H1 locs (nc + 1) (ns + N) Q (F0 m (pc + 3) ls (.ref (gA G es.length) :: st))) : W p l e room_1 s m args below meth c H locs nc ns Q (F0 m pc ls st) := by
  have hlin := C.2.2.2.2.2.2.1
  have hKn := C.2.2.2.2.2.1.1.1.1 ci _ hcl
  refine W.newcK C.1 C.2.1 C.2.2.2.1 (C.2.2.2.2.1 _ hw1) (C.2.2.2.2.1 _ hw2) (C.2.2.2.2.1 _ hw3) rfl hd hc hs hKn.2.1 rfl (fun H1 kC hkC e1 z1 o1 => ?_)
  have hk := k H1 (hH.push hlin hl z1 o1 (e := .inl (ci, ds)) ⟨_, hcl, (u_born ty C.2.2.2.2.1 hin hKn hkC e1 hty).to (hfs G)⟩) (hS.grow (by omega) o1)
  have hz : gA G es.length = H.size := by rw [hlin _ (by omega), hH.2.1]
  rw [hz] at hk
  exact hk
set_option maxHeartbeats 2000000 in
theorem e_init {M' : MD} {idx i9 pc nc ns d' mc' ms' : Nat} {es : List EE} {ls : Array Slot} {H : Heap} {locs : List Loc} {Post : Option Value → GG → Heap → Prop} {st : List Value} (C : CE G p l s m args c) (hC : MG M' d' mc' ms' [.ref i9] es Post) (hM : MI M' 0) (hw : Cond.methodLink "FirstAsleepLaw" idx M'.1 ∈ WS) (hr : d' + 1 ≤ 2048 ∧ 8 + (M'.2.2.1 + 11) + 64 * d' ≤ 84000) (hc : nc + mc' ≤ 601024 ∧ ns + ms' ≤ 7293034) (hdg : decode code pc = .ok (.invokespecial idx, 3)) (hst : (st.map fun v => v.category).sum ≤ 8) (hp9 : ∀ v G H, Post v G H → v = none) (hH : HP G es H) (hS : va_S (AZ G) s.heap H locs) (hls : ls.size = 8)
    (k : ∀ (H1 : Heap) (locs1 : List Loc), Post none G H1 → va_S (AZ G) s.heap H1 locs1 → W p l e room_1 s m args below meth c H1 locs1 (nc + mc') (ns + ms') Q (F0 m (pc + 3) ls st)) : W p l e room_1 s m args below meth c H locs nc ns Q (F0 m pc ls (.ref (gA G i9) :: st)) := by
  have hcb := cwI (R := room_1) (s := s) (args := args) (own := "FirstAsleepLaw") (index := idx) (y := M'.1) (bytes := M'.2.1) (maxL := M'.2.2.1) (ws := .code M'.1 M'.2.1 M'.2.2.1 M'.2.2.2 :: WS) (rm := RM d' mc' ms') 0 C.2.2.2.2.1 (goodIn_code hM.2.1) (by rw [hM.2.2.2.2.1]) rfl rfl (C.2.2.2.2.1 _ hM.1) (C.2.2.2.2.1 _ hw) (C.2.2.2.2.1 _ hM.2.2.1) hM.2.2.2.1 hM.2.2.2.2.2 hr
  have hrun := va_runI (l := l) (e := e) (below := below) (meth := meth) (H := H) (locs := locs) (cells := nc) (slots := ns) (b := gA G i9) (As := []) (rest := st) (g := F0 m pc ls (.ref (gA G i9) :: st)) ⟨C.1, C.2.1, C.2.2.1, C.2.2.2.1, C.2.2.2.2.1⟩ (hC l G C.2.2.2.2.2.2.2.2.2 C.2.2.2.2.2.2.1) hcb ⟨preG_blind [.ref i9] G es, pe_pre C hH hS [.ref i9]⟩ rfl rfl hls rfl (lv_room hst) hdg hc
  intro T hT X
  obtain ⟨v, st₀, t, T', LL, h0, X', hLL, e1, e2, ⟨⟨v', hv, hp⟩, hF⟩, go⟩ := hrun T hT X
  have hp1 := hp9 _ _ _ hp
  subst hp1
  cases hv
  obtain ⟨k1, k2, k3⟩ := vx_keep h0 e1 hS (fun q _ h => h) (fun q h => h) hLL hF
  obtain ⟨t2, a1, b1⟩ := k T'.heap (locs ++ LL) (by rw [e1]; exact hp) k3 T' rfl X'
  exact ⟨t2, go t2 a1, b1⟩
end LEntry
