/-! CONSTRUCTORS: rows of rows, calls, int rows -/
section GMore
variable {M M' : MD} {d mc ms nc ns d' mc' ms' : Nat} {R : Room} {Post : Option Value → GG → Heap → Prop} {pc : Nat} {L : List (Nat × Value)} {st : List Value} {es es' : List EE}
theorem HP.more {G : GG} {H H1 : Heap} {ext : List EE} (hl : LIN G) (h : HP G es H) (hn : es.length + ext.length ≤ 163) (z : H1.size = H.size + ext.length) (o : ∀ q : Nat, q < H.size → H1[q]? = H[q]?) (h1 : ∀ (j : Nat) (e : EE), ext[j]? = some e → va_at (gD G) vwCl (H.size + j, eE G e) H1) : HP G (es ++ ext) H1 := by
  refine ⟨fun i q hq => ?_, by rw [z, h.2.1, List.length_append]; omega, by rw [List.length_append]; exact hn⟩
  obtain ⟨e, he, rfl⟩ := wE_at hq
  by_cases hi : i < es.length
  · rw [List.getElem?_append_left hi] at he
    have w := h.1 i _ (wE_get he)
    exact w.kept (o _ w.lt)
  · rw [List.getElem?_append_right (by omega)] at he
    have hj := (List.getElem?_eq_some_iff.mp he).1
    have w := h1 _ e he
    rw [show H.size + (i - es.length) = gA G i by rw [hl i (by omega), h.2.1]; omega] at w
    exact w
set_option maxHeartbeats 2000000 in
theorem q_mna {idx N K : Nat} {n k9 : Int32} (hw : Cond.classLink M.1.cls idx ("[" ++ (FieldType.array .int).toString) ∈ WS) (hw2 : Cond.arrayClass .int ∈ WS) (hn : n = nI N) (hk9 : k9 = nI K) (hN : N < 100) (hK9 : K < 1000) (hl : es.length + (1 + N) ≤ 163) (hc : nc + (1 + N) ≤ R.cells) (hs : ns + (N + N * K) ≤ R.slots) (hd : decode M.2.1 pc = .ok (.multianewarray idx 2, 4)) (k : PG M R mc ms Post (pc + 4) L (.ref es.length :: st) (es ++ (.inr (.inr (2, (List.range N).map (fun i => some (es.length + 1 + i)))) :: List.replicate N (.inr (.inl (K, fun _ => 0))))) (nc + 1 + N) (ns + N + N * K)) : PG M R mc ms Post pc L (.int k9 :: .int n :: st) es nc ns := by
  subst hn
  subst hk9
  intro p l e s m args below meth c G H locs ls C hH hS hL
  have hlin := C.2.2.2.2.2.2.2.2.1
  have cN : (nI N).toNatClampNeg = N := nI_clamp (by omega)
  have cK : (nI K).toNatClampNeg = K := nI_clamp (by omega)
  intro T hT Xs
  have hover : (Cond.arrayOver (.array .int)).before args s = true := Jvm.Stand.arrayOver_alikeB (Vm.Alike.refl s.vm) C.2.2.2.2.2.1.2.2.2.1
  obtain ⟨vm₁, cA, comp, -, fA, fC, hO, -, X', step⟩ := Xs.multianewarray2F C.1 C.2.2.2.1 (C.2.2.2.2.1 _ hw) hover (C.2.2.2.2.1 _ hw2) (g := F0 m pc ls ((.int (nI K) :: .int (nI N) :: st).map (tr G))) rfl (by rw [C.2.1]; exact hd) rfl (nI_pos (by omega)) (nI_pos (by omega)) (by rw [cN]; omega) (by rw [cK]; show K * 4 ≤ _; omega) (by rw [cK]; omega) rfl rfl (by rw [cN]; exact hc) (by rw [cN, cK]; exact hs)
  rw [cN, cK] at X' step
  have ec : some comp = some (gC G 0) := fC.symm.trans (tys_int C.2.2.2.2.2.1.1)
  cases ec
  have ec2 : some cA = some (gC G 3) := fA.symm.trans (C.2.2.2.2.2.1.1.1.2 3 _ rfl).2
  cases ec2
  generalize hF : Jvm.Free.Multi.fill (T.setVm vm₁) (gC G 3) (gC G 0) N K (defaultValue .int) N = F at X' step
  have hTh : (T.setVm vm₁).heap = H := hT
  obtain ⟨f1, f2, -, -⟩ := Jvm.Free.Multi.fill_facts (T.setVm vm₁) (gC G 3) (gC G 0) N K (defaultValue .int) N
  rw [hF, hTh] at f1 f2
  have hold : ∀ x : Nat, x < H.size → F.heap[x]? = H[x]? := fun x hx => by
    have := Jvm.Free.Multi.fill_old (T.setVm vm₁) (gC G 3) (gC G 0) N K (defaultValue .int) (a := x) (by rw [hTh]; exact hx) N
    rw [hF, hTh] at this
    exact this
  have hrow : ∀ j : Nat, j < N → F.heap[H.size + 1 + j]? = some (Jvm.Free.Multi.innerC (gC G 0) K (defaultValue .int)) := fun j hj => by
    have := Jvm.Free.Multi.fill_inner (T.setVm vm₁) (gC G 3) (gC G 0) N K (defaultValue .int) N j hj
    rw [hF, hTh] at this
    exact this
  rw [vr_outer] at f2
  have hP := hH.more (H1 := F.heap) (ext := .inr (.inr (2, (List.range N).map (fun i => some (es.length + 1 + i)))) :: List.replicate N (.inr (.inl (K, fun _ => 0)))) hlin (by rw [List.length_cons, List.length_replicate]; omega) (by rw [f1, List.length_cons, List.length_replicate]; omega) hold (fun j e9 hj => by
    cases j with
    | zero =>
      injection hj with hj
      subst hj
      show F.heap[H.size + 0]? = some (vp_cell (gC G 3) (((List.range N).map (fun i => some (es.length + 1 + i))).length, .inr (.inr (.inr (.inr _)))))
      rw [Nat.add_zero, f2, vp_cell_q, List.length_map, List.length_range]
      congr 2
      funext i
      by_cases hi : i < N
      · rw [if_pos hi, List.getElem?_map, List.getElem?_range hi]
        show va_rf (some (H.size + 1 + i)) = va_rf (some (gA G (es.length + 1 + i)))
        rw [hlin (es.length + 1 + i) (by omega), hH.2.1]
        congr 2
        omega
      · rw [if_neg hi, List.getElem?_map, List.getElem?_eq_none (by rw [List.length_range]; omega)]
        rfl
    | succ j =>
      have hj : (List.replicate N (.inr (.inl (K, fun _ => 0)) : EE))[j]? = some e9 := hj
      rw [List.getElem?_replicate] at hj
      by_cases hjN : j < N
      · rw [if_pos hjN] at hj
        injection hj with hj
        subst hj
        have w := hrow j hjN
        show F.heap[H.size + (j + 1)]? = some (vp_cell (gC G 0) (K, .inl (fun _ => 0)))
        rw [show H.size + (j + 1) = H.size + 1 + j by omega, w]
        show some ({ cls := gC G 0, slots := Array.replicate K (defaultValue .int), vm := .none } : Cell) = _
        rw [arrV_new]
        rfl
      · rw [if_neg hjN] at hj
        cases hj)
  have hk := k p l e s m args below meth c G F.heap locs ls C hP (hS.grow (by rw [f1]; omega) hold) hL
  have hz : gA G es.length = H.size := by rw [hlin _ (by omega), hH.2.1]
  rw [List.map_cons, show tr G (.ref es.length) = .ref (gA G es.length) from rfl, hz] at hk
  obtain ⟨t2, a1, b1⟩ := hk F rfl X'
  refine ⟨t2, step t2 ?_, b1⟩
  rw [hT]
  exact a1
theorem q_iald {i9 n j : Nat} {g : Nat → Int32} (he : es[i9]? = some (.inr (.inl (n, g)))) (hj : j < n) (hn : n < 2 ^ 31) (hd : decode M.2.1 pc = .ok (.iaload, 1)) (k : PG M R mc ms Post (pc + 1) L (.int (g j) :: st) es nc ns) : PG M R mc ms Post pc L (.int (nI j) :: .ref i9 :: st) es nc ns := by
  intro p l e s m args below meth c G H locs ls C hH hS hL
  refine va_iald (ws := wE G es) C.1 C.2.1 C.2.2.2.2.2.1.1.1 hH.1 i9 0 (wE_get he) rfl (vp_in_nI hj hn) hd ?_
  rw [nI_clamp (by omega)]
  exact k p l e s m args below meth c G H locs ls C hH hS hL
theorem q_alen {i9 n : Nat} {g : Nat → Int32} (he : es[i9]? = some (.inr (.inl (n, g)))) (hd : decode M.2.1 pc = .ok (.arraylength, 1)) (k : PG M R mc ms Post (pc + 1) L (.int (nI n) :: st) es nc ns) : PG M R mc ms Post pc L (.ref i9 :: st) es nc ns := by
  intro p l e s m args below meth c G H locs ls C hH hS hL
  exact va_alen (ws := wE G es) (cA := gC G 0) (x := (n, .inl g)) C.1 C.2.1 C.2.2.2.2.2.1.1.1 hH.1 i9 0 (wE_get he) (ty := .int) rfl rfl hd (k p l e s m args below meth c G H locs ls C hH hS hL)
theorem q_iast {i9 n j : Nat} {v : Int32} {g : Nat → Int32} (he : es[i9]? = some (.inr (.inl (n, g)))) (hj : j < n) (hn : n < 2 ^ 31) (hd : decode M.2.1 pc = .ok (.iastore, 1)) (k : PG M R mc ms Post (pc + 1) L st (es.set i9 (.inr (.inl (n, upd g j v)))) nc ns) : PG M R mc ms Post pc L (.int v :: .int (nI j) :: .ref i9 :: st) es nc ns := by
  intro p l e s m args below meth c G H locs ls C hH hS hL
  have hi9 : i9 < es.length := (List.getElem?_eq_some_iff.mp he).1
  have hD := wE_D C.2.2.2.2.2.2.2.2.1 hH.2.2
  have hwe : (wE G es)[i9]? = some (gA G i9, eE G (.inr (.inl (n, g)))) := wE_get he
  have hcj : (nI j).toNatClampNeg = j := nI_clamp (by omega)
  refine W.iast C.1 C.2.1 (hH.1 i9 _ hwe) ((C.2.2.2.2.2.1.1.1.2 0 _ rfl).1 n (fun j => .int (g j))) (fun q => by cases q) (by show ¬ (_ < 0 ∨ (arrV _ _ _).slots.size ≤ _); rw [arrV_size]; exact vp_in_nI hj hn) rfl rfl hd (fun H1 e1 z oq => ?_)
  have hP1 := hH.1.set hD hwe (e := eE G (.inr (.inl (n, upd g j v)))) (by
    show H1[gA G i9]? = some (arrV (gC G 0) n (fun q => .int (upd g j v q)))
    rw [e1]
    show some (Cell.setSlot (arrV (gC G 0) n (fun q => .int (g q))) _ _) = _
    rw [hcj, arrV_store]
    congr 2
    funext q
    by_cases hq : q = j
    · subst hq
      simp [updV, pk_us]
    · simp [updV, hq, pk_un hq]) oq
  rw [wE_set hi9] at hP1
  exact k p l e s m args below meth c G H1 _ ls C ⟨hP1, by rw [z, hH.2.1, List.length_set], by rw [List.length_set]; exact hH.2.2⟩ (hS.put z oq (hD.2 i9 _ hwe)) hL
theorem q_aald {C9 : String} {i9 k9 d9 j : Nat} {ids : List (Option Nat)} (ht : ∀ G : GG, (tys G)[k9 + 1]? = some (gC G (k9 + 1), .object C9)) (he : es[i9]? = some (.inr (.inr (k9, ids)))) (hv : ids[j]? = some (some d9)) (hn : ids.length < 2 ^ 31) (hd : decode M.2.1 pc = .ok (.aaload, 1)) (k : PG M R mc ms Post (pc + 1) L (.ref d9 :: st) es nc ns) : PG M R mc ms Post pc L (.int (nI j) :: .ref i9 :: st) es nc ns := by
  intro p l e s m args below meth c G H locs ls C hH hS hL
  have hj : j < ids.length := (List.getElem?_eq_some_iff.mp hv).1
  refine va_aldq (ws := wE G es) C.1 C.2.1 C.2.2.2.2.2.1.1.1 hH.1 i9 (k9 + 1) (wE_get he) (ht G) (vp_in_nI hj hn) hd ?_
  rw [nI_clamp (by omega), hv]
  exact k p l e s m args below meth c G H locs ls C hH hS hL
theorem q_getsL {idx : Nat} (hw : Cond.fieldLink M.1.cls idx "FirstAsleep$Law" "LOUD_WITHOUT" "[I" ∈ WS) (hd : decode M.2.1 pc = .ok (.getstatic idx, 3)) (k : PG M R mc ms Post (pc + 3) L (.ref 2000 :: st) es nc ns) : PG M R mc ms Post pc L st es nc ns := by
  intro p l e s m args below meth c G H locs ls C hH hS hL
  exact va_gets C.1 C.2.1 C.2.2.2.2.2.2.2.2.2.1.2.2.2.1 hS C.2.2.2.1 (C.2.2.2.2.1 _ hw) (fun _ h => h) hd (k p l e s m args below meth c G H locs ls C hH hS hL)
theorem q_getsF {idx : Nat} (hw : Cond.fieldLink M.1.cls idx "FirstAsleep$Law" "FALLS_WITHOUT" "[I" ∈ WS) (hd : decode M.2.1 pc = .ok (.getstatic idx, 3)) (k : PG M R mc ms Post (pc + 3) L (.ref 2001 :: st) es nc ns) : PG M R mc ms Post pc L st es nc ns := by
  intro p l e s m args below meth c G H locs ls C hH hS hL
  exact va_gets C.1 C.2.1 C.2.2.2.2.2.2.2.2.2.1.2.2.2.2.2.1 hS C.2.2.2.1 (C.2.2.2.2.1 _ hw) (fun _ h => h) hd (k p l e s m args below meth c G H locs ls C hH hS hL)
theorem q_alenT {t N : Nat} {g : Nat → Int32} (hT : IsT t N g) (hd : decode M.2.1 pc = .ok (.arraylength, 1)) (k : PG M R mc ms Post (pc + 1) L (.int (nI N) :: st) es nc ns) : PG M R mc ms Post pc L (.ref t :: st) es nc ns := by
  intro p l e s m args below meth c G H locs ls C hH hS hL
  exact va_tlen C.1 C.2.1 (hT.at C.2.2.2.2.2.2.2.2.2.1) hS rfl hd (k p l e s m args below meth c G H locs ls C hH hS hL)
theorem q_ialdT {t N j : Nat} {g : Nat → Int32} (hT : IsT t N g) (hd : decode M.2.1 pc = .ok (.iaload, 1)) (hj : j < N) (hN : N < 2 ^ 31) (k : PG M R mc ms Post (pc + 1) L (.int (g j) :: st) es nc ns) : PG M R mc ms Post pc L (.int (nI j) :: .ref t :: st) es nc ns := by
  intro p l e s m args below meth c G H locs ls C hH hS hL
  exact va_ti C.1 C.2.1 (hT.at C.2.2.2.2.2.2.2.2.2.1) hS (vp_in_nI hj hN) (by show Value.int (g _) = .int (g j); rw [nI_clamp (by omega)]) hd (k p l e s m args below meth c G H locs ls C hH hS hL)
theorem preG_blind (as : List Value) (G : GG) (es : List EE) : FrameBlind (va_Pc (as.map (tr G)) (PreG G es)) := by
  intro a U g mk q
  obtain ⟨q0, q1, q2, q3⟩ := q
  exact ⟨q0, EG.same (u := U) (U := U.calling g mk a) rfl q1, Ext.moved (u := U) (U := U.calling g mk a) (Vm.Alike.refl U.vm) q2, q3⟩
theorem preG_at {G : GG} {p : Program} {l : Launch} {s : State} {m : MethodId} {args : Array Value} {meth : Method} {c : Code} {H : Heap} {locs : List Loc} (C : CG M G p l s m args meth c) (hH : HP G es H) (hS : va_S (AZ G) s.heap H locs) (as : List Value) : ∀ U : State, U.heap = H → s.WarmedH U.vm → va_Pc (as.map (tr G)) (PreG G es) (as.map (tr G)).toArray U := by
  intro U hU hW
  refine ⟨rfl, EG.warm hW C.2.2.2.2.2.1, ?_, by rw [hU]; exact hH⟩
  rw [hU]
  exact ((C.2.2.2.2.2.2.2.2.2.1).kept hS.2.1).moved hW.alike
def MI (M : MD) (n : Nat) : Prop := Cond.initialized M.1.cls ∈ WS ∧ Cond.code M.1 M.2.1 M.2.2.1 M.2.2.2 ∈ WS ∧ Cond.instanceMethod M.1 ∈ WS ∧ M.1.name = "<init>" ∧ M.2.2.2 = none ∧ (M.1.cls ≠ "java/lang/invoke/MethodHandle" ∧ M.1.cls ≠ "java/lang/invoke/VarHandle" ∧ (parseMethodDescriptor M.1.desc).map (fun d => d.parameters.length) = some n)
def toEs (es' : List EE) : Option Value → GG → Heap → Prop := fun v G H => v = none ∧ HP G es' H
set_option maxHeartbeats 2000000 in
theorem q_init {n idx i9 : Nat} {as rest : List Value} (hC : MG M' d' mc' ms' (.ref i9 :: as) es (toEs es')) (hM : MI M' n) (hw : (M.1.cls, idx, M'.1) ∈ nwM) (hr : d' + 1 ≤ d ∧ M'.2.2.1 ≤ 45) (hc : nc + mc' ≤ mc ∧ ns + ms' ≤ ms) (hdg : decode M.2.1 pc = .ok (.invokespecial idx, 3)) (hn : as.length = n) (hrest : (rest.map fun v => v.category).sum ≤ 8) (k : PG M (RM d mc ms) mc ms Post (pc + 3) L rest es' (nc + mc') (ns + ms')) : PG M (RM d mc ms) mc ms Post pc L (as.reverse ++ .ref i9 :: rest) es nc ns := by
  intro p l e s m args below meth c G H locs ls C hH hS hL
  have hcb := va_cnB (R := RM d mc ms) (s := s) (args := args) (own := M.1.cls) (index := idx) (y := M'.1) (bytes := M'.2.1) (maxL := M'.2.2.1) (ret := M'.2.2.2) (ws := .code M'.1 M'.2.1 M'.2.2.1 M'.2.2.2 :: WS) (rm := RM d' mc' ms') n C.2.2.2.2.1 (goodIn_code hM.2.1) rfl rfl rfl (C.2.2.2.2.2.1.2.2.2.2 _ hw) (C.2.2.2.2.1 _ hM.1) hM.2.2.2.2.2 (room_ok hr.1 hr.2)
  have hcb2 := Eq.mp (congrArg (fun r => va_CN (RM d mc ms) s args M.1.cls idx M'.1 "FirstAsleep" M'.2.1 M'.2.2.1 r (.code M'.1 M'.2.1 M'.2.2.1 M'.2.2.2 :: WS) (RM d' mc' ms') mc' ms' n) hM.2.2.2.2.1) hcb
  have hrest2 : 2 * (F0 m pc ls ((as.reverse ++ .ref i9 :: rest).map (tr G))).monitorRoom + ((rest.map (tr G)).map fun v => v.category).sum ≤ 8 := by
    have e9 : ((rest.map (tr G)).map fun v => v.category) = rest.map fun v => v.category := by rw [List.map_map]; exact List.map_congr_left (fun v _ => tr_cat G v)
    rw [e9]
    exact lv_room hrest
  have hrun := va_runIN (l := l) (e := e) (below := below) (meth := meth) (H := H) (locs := locs) (cells := nc) (slots := ns) (b := gA G i9) (As := as.map (tr G)) (rest := rest.map (tr G)) (g := F0 m pc ls ((as.reverse ++ .ref i9 :: rest).map (tr G))) ⟨C.1, C.2.1, C.2.2.1, C.2.2.2.1, C.2.2.2.2.1⟩ (hC l G C.2.2.2.2.2.2.2.2.2.2.2.2 C.2.2.2.2.2.2.2.2.1) ⟨hcb2, hM.2.2.2.1, C.2.2.2.2.1 _ hM.2.2.1⟩ ⟨preG_blind (.ref i9 :: as) G es, preG_at C hH hS (.ref i9 :: as)⟩ rfl (by rw [List.length_map]; exact hn) hL.1 (by show (as.reverse ++ Value.ref i9 :: rest).map (tr G) = _; rw [List.map_append, List.map_reverse]; rfl) hrest2 hdg hc
  intro T hT X
  obtain ⟨v, st₀, t, T', LL, h0, X', hLL, e1, e2, ⟨⟨v', hv, hp1, hp2⟩, hF⟩, go⟩ := hrun T hT X
  subst hp1
  cases hv
  obtain ⟨k1, k2, k3⟩ := vx_keep h0 e1 hS (fun q _ h => h) (fun q h => h) hLL hF
  obtain ⟨t2, a1, b1⟩ := k p l e s m args below meth c G T'.heap (locs ++ LL) ls C (by rw [e1]; exact hp2) k3 hL T' rfl X'
  exact ⟨t2, go t2 a1, b1⟩
set_option maxHeartbeats 2000000 in
theorem q_initL {n idx i9 : Nat} {as rest : List Value} (hC : MG M' d' mc' ms' (.ref i9 :: as) es (toEs es')) (hM : MI M' n) (hw : Cond.methodLink M.1.cls idx M'.1 ∈ WS) (hr : d' + 1 ≤ d ∧ M'.2.2.1 ≤ 45) (hc : nc + mc' ≤ mc ∧ ns + ms' ≤ ms) (hdg : decode M.2.1 pc = .ok (.invokespecial idx, 3)) (hn : as.length = n) (hrest : (rest.map fun v => v.category).sum ≤ 8) (k : PG M (RM d mc ms) mc ms Post (pc + 3) L rest es' (nc + mc') (ns + ms')) : PG M (RM d mc ms) mc ms Post pc L (as.reverse ++ .ref i9 :: rest) es nc ns := by
  intro p l e s m args below meth c G H locs ls C hH hS hL
  have hcb := cwI (R := RM d mc ms) (s := s) (args := args) (own := M.1.cls) (index := idx) (y := M'.1) (bytes := M'.2.1) (maxL := M'.2.2.1) (ws := .code M'.1 M'.2.1 M'.2.2.1 M'.2.2.2 :: WS) (rm := RM d' mc' ms') n C.2.2.2.2.1 (goodIn_code hM.2.1) (by rw [hM.2.2.2.2.1]) rfl rfl (C.2.2.2.2.1 _ hM.1) (C.2.2.2.2.1 _ hw) (C.2.2.2.2.1 _ hM.2.2.1) hM.2.2.2.1 hM.2.2.2.2.2 (room_ok hr.1 hr.2)
  have hrest2 : 2 * (F0 m pc ls ((as.reverse ++ .ref i9 :: rest).map (tr G))).monitorRoom + ((rest.map (tr G)).map fun v => v.category).sum ≤ 8 := by
    have e9 : ((rest.map (tr G)).map fun v => v.category) = rest.map fun v => v.category := by rw [List.map_map]; exact List.map_congr_left (fun v _ => tr_cat G v)
    rw [e9]
    exact lv_room hrest
  have hrun := va_runI (l := l) (e := e) (below := below) (meth := meth) (H := H) (locs := locs) (cells := nc) (slots := ns) (b := gA G i9) (As := as.map (tr G)) (rest := rest.map (tr G)) (g := F0 m pc ls ((as.reverse ++ .ref i9 :: rest).map (tr G))) ⟨C.1, C.2.1, C.2.2.1, C.2.2.2.1, C.2.2.2.2.1⟩ (hC l G C.2.2.2.2.2.2.2.2.2.2.2.2 C.2.2.2.2.2.2.2.2.1) hcb ⟨preG_blind (.ref i9 :: as) G es, preG_at C hH hS (.ref i9 :: as)⟩ rfl (by rw [List.length_map]; exact hn) hL.1 (by show (as.reverse ++ Value.ref i9 :: rest).map (tr G) = _; rw [List.map_append, List.map_reverse]; rfl) hrest2 hdg hc
  intro T hT X
  obtain ⟨v, st₀, t, T', LL, h0, X', hLL, e1, e2, ⟨⟨v', hv, hp1, hp2⟩, hF⟩, go⟩ := hrun T hT X
  subst hp1
  cases hv
  obtain ⟨k1, k2, k3⟩ := vx_keep h0 e1 hS (fun q _ h => h) (fun q h => h) hLL hF
  obtain ⟨t2, a1, b1⟩ := k p l e s m args below meth c G T'.heap (locs ++ LL) ls C (by rw [e1]; exact hp2) k3 hL T' rfl X'
  exact ⟨t2, go t2 a1, b1⟩
set_option maxHeartbeats 2000000 in
theorem q_callV {n idx i9 ci : Nat} {fs : List FE} {q : vw_C} {as rest : List Value} (hC : MG M' d' mc' ms' (.ref i9 :: as) es (toEs es')) (hM : MV M' n) (hw : Cond.methodLink M.1.cls idx M'.1 ∈ WS) (hr : d' + 1 ≤ d ∧ M'.2.2.1 ≤ 45) (hc : nc + mc' ≤ mc ∧ ns + ms' ≤ ms) (hdg : decode M.2.1 pc = .ok (.invokevirtual idx, 3)) (he : es[i9]? = some (.inl (ci, fs))) (hcl : vwCl[ci]? = some q) (hq : q.1 = M'.1.cls) (hn : as.length = n) (hrest : (rest.map fun v => v.category).sum ≤ 8) (k : PG M (RM d mc ms) mc ms Post (pc + 3) L rest es' (nc + mc') (ns + ms')) : PG M (RM d mc ms) mc ms Post pc L (as.reverse ++ .ref i9 :: rest) es nc ns := by
  intro p l e s m args below meth c G H locs ls C hH hS hL
  have hcb : CallB (RM d mc ms) s args M.1.cls idx M'.1 M'.2.1 M'.2.2.1 M'.2.2.2 (.code M'.1 M'.2.1 M'.2.2.1 M'.2.2.2 :: WS) (RM d' mc' ms') mc' ms' n := callB_of n C.2.2.2.2.1 (goodIn_code hM.2.1) rfl rfl rfl (C.2.2.2.2.1 _ hM.1) (C.2.2.2.2.1 _ hw) hM.2.2.2.2 (room_ok hr.1 hr.2)
  have hrest2 : 2 * (F0 m pc ls ((as.reverse ++ .ref i9 :: rest).map (tr G))).monitorRoom + ((rest.map (tr G)).map fun v => v.category).sum ≤ 8 := by
    have e9 : ((rest.map (tr G)).map fun v => v.category) = rest.map fun v => v.category := by rw [List.map_map]; exact List.map_congr_left (fun v _ => tr_cat G v)
    rw [e9]
    exact lv_room hrest
  have h9 := va_recv C.2.2.2.2.2.1.1.1 hH.1 hcl (wE_get he)
  rw [hq] at h9
  have hrun := va_runV (l := l) (e := e) (below := below) (meth := meth) (H := H) (locs := locs) (cells := nc) (slots := ns) (b := gA G i9) (As := as.map (tr G)) (rest := rest.map (tr G)) (g := F0 m pc ls ((as.reverse ++ .ref i9 :: rest).map (tr G))) ⟨C.1, C.2.1, C.2.2.1, C.2.2.2.1, C.2.2.2.2.1⟩ (hC l G C.2.2.2.2.2.2.2.2.2.2.2.2 C.2.2.2.2.2.2.2.2.1) ⟨hcb, C.2.2.2.2.1 _ hM.2.2.1, C.2.2.2.2.1 _ hM.2.2.2.1⟩ ⟨preG_blind (.ref i9 :: as) G es, h9, preG_at C hH hS (.ref i9 :: as)⟩ rfl (by rw [List.length_map]; exact hn) hL.1 (by show (as.reverse ++ Value.ref i9 :: rest).map (tr G) = _; rw [List.map_append, List.map_reverse]; rfl) hrest2 hdg hc
  intro T hT X
  obtain ⟨v, st₀, t, T', LL, h0, X', hLL, e1, e2, ⟨⟨v', hv, hp1, hp2⟩, hF⟩, go⟩ := hrun T hT X
  subst hp1
  cases hv
  obtain ⟨k1, k2, k3⟩ := vx_keep h0 e1 hS (fun q _ h => h) (fun q h => h) hLL hF
  obtain ⟨t2, a1, b1⟩ := k p l e s m args below meth c G T'.heap (locs ++ LL) ls C (by rw [e1]; exact hp2) k3 hL T' rfl X'
  exact ⟨t2, go t2 a1, b1⟩
end GMore
