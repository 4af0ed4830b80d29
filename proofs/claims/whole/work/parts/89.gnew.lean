/-! CONSTRUCTORS: new cells, calls -/
section GNew
variable {M M' : MD} {d mc ms nc ns d' mc' ms' : Nat} {R : Room} {Post : Option Value → GG → Heap → Prop} {pc : Nat} {L : List (Nat × Value)} {st : List Value} {es es' : List EE}
theorem HP.push {G : GG} {H H1 : Heap} {e : EE} (hl : LIN G) (h : HP G es H) (hn : es.length < 163) (z : H1.size = H.size + 1) (o : ∀ q : Nat, q < H.size → H1[q]? = H[q]?) (h1 : va_at (gD G) vwCl (H.size, eE G e) H1) : HP G (es ++ [e]) H1 := by
  refine ⟨?_, by rw [z, h.2.1, List.length_append]; rfl, by rw [List.length_append]; exact hn⟩
  have hk : ∀ (k : Nat) (x : Nat × va_E), (wE G es)[k]? = some x → H1[x.1]? = H[x.1]? := fun k x hx => o x.1 ((h.1 k x hx).lt)
  have hz : gA G es.length = H.size := by rw [hl _ (by omega), h.2.1]
  rw [wE_app, hz]
  refine (h.1.kept hk).app (fun k x hx => ?_)
  have h0 : k < 1 := (List.getElem?_eq_some_iff.mp hx).1
  rw [show k = 0 by omega] at hx
  cases hx
  exact h1
theorem va_S.grow {A : Nat → Prop} {H0 H H1 : Heap} {locs : List Loc} (h : va_S A H0 H locs) (z : H.size ≤ H1.size) (o : ∀ q : Nat, q < H.size → H1[q]? = H[q]?) : va_S A H0 H1 locs := ⟨Nat.le_trans h.1 z, fun x h1 h2 => (o x (Nat.lt_of_lt_of_le h1 h.1)).trans (h.2.1 x h1 h2), h.2.2⟩
theorem tys_int {G : GG} {s : State} (h : EV G s) : s.vm.findClass ("[" ++ (FieldType.int).toString) = some (gC G 0) := (h.1.2 0 _ rfl).2
theorem q_newa {n : Int32} {N : Nat} (hw : Cond.arrayClass .int ∈ WS) (hn : n = nI N) (hN : N < 10000) (hl : es.length < 163) (hc : nc + 1 ≤ R.cells) (hs : ns + N ≤ R.slots) (hd : decode M.2.1 pc = .ok (.newarray .int, 2)) (k : PG M R mc ms Post (pc + 2) L (.ref es.length :: st) (es ++ [.inr (.inl (N, fun _ => 0))]) (nc + 1) (ns + N)) : PG M R mc ms Post pc L (.int n :: st) es nc ns := by
  subst hn
  intro p l e s m args below meth c G H locs ls C hH hS hL
  have hlin := C.2.2.2.2.2.2.2.2.1
  refine va_newaK (N := N) (atype := .int) C.1 C.2.1 (C.2.2.2.2.1 _ hw) rfl hd rfl (nI_pos (by omega)) (nI_clamp (by omega)) (by show N * 4 ≤ 536870912; omega) hc hs rfl (fun H1 cA e1 z1 o1 hAr hNm => ?_)
  have ec : some cA = some (gC G 0) := hNm.symm.trans (tys_int C.2.2.2.2.2.1.1)
  cases ec
  have hk := k p l e s m args below meth c G H1 locs ls C (hH.push hlin hl z1 o1 (e := .inr (.inl (N, fun _ => 0))) e1) (hS.grow (by omega) o1) hL
  have hz : gA G es.length = H.size := by rw [hlin _ (by omega), hH.2.1]
  rw [List.map_cons, show tr G (.ref es.length) = .ref (gA G es.length) from rfl, hz] at hk
  exact hk
theorem q_new {C9 : String} {T : u_T} {N ci idx : Nat} {ds : List FE} (ty : Nat → FieldType) (hin : ∀ w ∈ u_ws C9 T N, w ∈ WS) (hty : ∀ k, k < N → parseFieldDescriptor (T k).2.2.1 = some (ty k)) (hcl : vwCl[ci]? = some (C9, T, N)) (hw1 : Cond.classLink M.1.cls idx C9 ∈ WS) (hw2 : Cond.instantiable C9 N ∈ WS) (hw3 : Cond.initialized C9 ∈ WS) (hfs : ∀ G j, j < N → defaultValue (ty j) = vp_V (ds.map (fE G)) j) (hl : es.length < 163) (hc : nc + 1 ≤ R.cells) (hs : ns + N ≤ R.slots) (hd : decode M.2.1 pc = .ok (.new idx, 3)) (k : PG M R mc ms Post (pc + 3) L (.ref es.length :: st) (es ++ [.inl (ci, ds)]) (nc + 1) (ns + N)) : PG M R mc ms Post pc L st es nc ns := by
  intro p l e s m args below meth c G H locs ls C hH hS hL
  have hlin := C.2.2.2.2.2.2.2.2.1
  have hKn := C.2.2.2.2.2.1.1.1.1 ci _ hcl
  refine W.newcK C.1 C.2.1 C.2.2.2.1 (C.2.2.2.2.1 _ hw1) (C.2.2.2.2.1 _ hw2) (C.2.2.2.2.1 _ hw3) rfl hd hc hs hKn.2.1 rfl (fun H1 kC hkC e1 z1 o1 => ?_)
  have hk := k p l e s m args below meth c G H1 locs ls C (hH.push hlin hl z1 o1 (e := .inl (ci, ds)) ⟨_, hcl, (u_born ty C.2.2.2.2.1 hin hKn hkC e1 hty).to (hfs G)⟩) (hS.grow (by omega) o1) hL
  have hz : gA G es.length = H.size := by rw [hlin _ (by omega), hH.2.1]
  rw [List.map_cons, show tr G (.ref es.length) = .ref (gA G es.length) from rfl, hz] at hk
  exact hk
theorem rep_none (G : GG) (N : Nat) : (fun i => ((List.replicate N (none : Option Nat))[i]?).bind (fun o : Option Nat => o.map (gA G))) = fun (_ : Nat) => (none : Option Nat) := by
  funext i
  rw [List.getElem?_replicate]
  split <;> rfl
theorem q_anew {C9 : String} {idx N k9 : Nat} {n : Int32} (ht : ∀ G : GG, (tys G)[k9 + 1]? = some (gC G (k9 + 1), .object C9)) (ho : ∀ G s, EG G s → va_AO C9 s) (hw : Cond.classLink M.1.cls idx C9 ∈ WS) (hn : n = nI N) (hN : N < 10000) (hl : es.length < 163) (hc : nc + 1 ≤ R.cells) (hs : ns + N ≤ R.slots) (hd : decode M.2.1 pc = .ok (.anewarray idx, 3)) (k : PG M R mc ms Post (pc + 3) L (.ref es.length :: st) (es ++ [.inr (.inr (k9, List.replicate N none))]) (nc + 1) (ns + N)) : PG M R mc ms Post pc L (.int n :: st) es nc ns := by
  subst hn
  intro p l e s m args below meth c G H locs ls C hH hS hL
  have hlin := C.2.2.2.2.2.2.2.2.1
  have hcl : (nI N).toNatClampNeg = N := nI_clamp (by omega)
  refine W.anew C.1 C.2.1 C.2.2.2.1 (C.2.2.2.2.1 _ hw) (va_AO.use (ho G s C.2.2.2.2.2.1)) rfl hd rfl (nI_pos (by omega)) (by rw [hcl]; omega) hc (by rw [hcl]; exact hs) (fun cA kA comp f1 f2 f3 f4 => ?_)
  rw [hcl]
  obtain ⟨kA', comp', g1, g2, g3, g4⟩ := (C.2.2.2.2.2.1.1.1.2 _ _ (ht G)).2
  have ec : some cA = some (gC G (k9 + 1)) := f1.symm.trans g4
  cases ec
  generalize hH1 : H.push ({ cls := gC G (k9 + 1), slots := Array.replicate N .null, vm := .none } : Cell) = H1
  have z1 : H1.size = H.size + 1 := by rw [← hH1, Array.size_push]
  have e1 : H1[H.size]? = some (arrV (gC G (k9 + 1)) N (fun _ => .null)) := by rw [← hH1, Array.getElem?_push_size, ← arrV_new]
  have o1 : ∀ q : Nat, q < H.size → H1[q]? = H[q]? := fun q hq => by rw [← hH1, Array.getElem?_push, if_neg (Nat.ne_of_lt hq)]
  have hk := k p l e s m args below meth c G H1 locs ls C (hH.push hlin hl z1 o1 (e := .inr (.inr (k9, List.replicate N none))) (by
    show H1[H.size]? = some (vp_cell (gC G (k9 + 1)) ((List.replicate N (none : Option Nat)).length, .inr (.inr (.inr (.inr _)))))
    rw [rep_none, List.length_replicate]
    exact e1)) (hS.grow (by omega) o1) hL
  have hz : gA G es.length = H.size := by rw [hlin _ (by omega), hH.2.1]
  rw [List.map_cons, show tr G (.ref es.length) = .ref (gA G es.length) from rfl, hz] at hk
  exact hk
theorem q_astore {C9 : String} {T : u_T} {N ci k9 i9 d9 j : Nat} {fs : List FE} {ids : List (Option Nat)} {i : Int32} (ht : ∀ G : GG, (tys G)[k9 + 1]? = some (gC G (k9 + 1), .object C9)) (hcl : vwCl[ci]? = some (C9, T, N)) (he : es[i9]? = some (.inr (.inr (k9, ids)))) (hv : es[d9]? = some (.inl (ci, fs))) (hi : i = nI j) (hj : j < ids.length) (hj2 : ids.length < 10000) (hd : decode M.2.1 pc = .ok (.aastore, 1)) (k : PG M R mc ms Post (pc + 1) L st (es.set i9 (.inr (.inr (k9, ids.set j (some d9))))) nc ns) : PG M R mc ms Post pc L (.ref d9 :: .int i :: .ref i9 :: st) es nc ns := by
  subst hi
  intro p l e s m args below meth c G H locs ls C hH hS hL
  have hi9 : i9 < es.length := (List.getElem?_eq_some_iff.mp he).1
  have hD := wE_D C.2.2.2.2.2.2.2.2.1 hH.2.2
  have hK := C.2.2.2.2.2.1.1.1
  have hwe : (wE G es)[i9]? = some (gA G i9, eE G (.inr (.inr (k9, ids)))) := wE_get he
  have hwv : (wE G es)[d9]? = some (gA G d9, eE G (.inl (ci, fs))) := wE_get hv
  obtain ⟨r', hr', cellV, g1, g2, g3, -⟩ := hH.1 d9 _ hwv
  have hcls := (hK.1 ci _ hcl).2
  obtain ⟨kA, comp, k1, k2, k3, -⟩ := (hK.2 _ _ (ht G)).2
  have hcomp : comp = (gD G).1 ci := Option.some.inj (k3.symm.trans hcls.1)
  subst hcomp
  obtain ⟨kC, hkC, -⟩ := hcls.2
  have hcj : (nI j).toNatClampNeg = j := nI_clamp (by omega)
  have hA9 := hH.1 i9 _ hwe
  refine W.aast C.1 C.2.1 hA9 (fun q h => by cases h) (fun h => by cases h) k1 k2 rfl hkC ⟨nI_pos (by omega), by show _ < (arrV _ _ _).slots.size; rw [arrV_size, hcj]; exact hj⟩ g1 (fun q h => by rw [g3] at h; cases h) (by rw [g2]; exact hkC) (by rw [g2]; exact va_assign hcls) rfl rfl hd (fun H1 e z oq => ?_)
  have hP1 := hH.1.set hD hwe (e := eE G (.inr (.inr (k9, ids.set j (some d9))))) (by
    show H1[gA G i9]? = some (vp_cell _ _)
    rw [e]
    show some (Cell.setSlot (vp_cell _ _) _ _) = _
    rw [vp_cell_q, vp_cell_q, hcj, arrV_store]
    show some (arrV _ ids.length _) = some (arrV _ (ids.set j (some d9)).length _)
    rw [List.length_set]
    congr 2
    funext q
    by_cases hq : q = j
    · subst hq
      simp [updV, va_rf, List.getElem?_set_self hj]
    · simp [updV, hq, va_rf, List.getElem?_set_ne (Ne.symm hq)]) oq
  rw [wE_set hi9] at hP1
  exact k p l _ s m args below meth c G H1 _ ls C ⟨hP1, by rw [z, hH.2.1, List.length_set], by rw [List.length_set]; exact hH.2.2⟩ (hS.put z oq (hD.2 i9 _ hwe)) hL
theorem q_objInit {idx i9 : Nat} (hw : Cond.methodLink M.1.cls idx Lib.objectInit ∈ WS) (hw2 : Cond.instanceMethod Lib.objectInit ∈ WS) (hw3 : Cond.code Lib.objectInit ⟨#[0xb1]⟩ 1 none ∈ WS) (hd : decode M.2.1 pc = .ok (.invokespecial idx, 3)) (hr : 1 ≤ d) (k : PG M (RM d mc ms) mc ms Post (pc + 3) L [] es nc ns) : PG M (RM d mc ms) mc ms Post pc L [.ref i9] es nc ns := by
  intro p l e s m args below meth c G H locs ls C hH hS hL
  exact W.objInit C.1 C.2.1 C.2.2.2.1 (C.2.2.2.2.1 _ hw) (C.2.2.2.2.1 _ hw2) (C.2.2.2.2.1 _ hw3) rfl (hL.1.trans C.2.2.1.symm) rfl hd hr (by show _ + 12 ≤ 64 * d; have h9 := lv_room (m := m) (pc := pc) (ls := ls) (rest := [Value.ref (gA G i9)]) (st := []) (by decide); simp at h9 ⊢; omega) (k p l e s m args below meth c G H locs ls C hH hS hL)
end GNew
