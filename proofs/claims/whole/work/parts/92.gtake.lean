/-! CONSTRUCTORS: more rows -/
section GRows2
variable {M : MD} {R : Room} {mc ms nc ns : Nat} {Post : Option Value → GG → Heap → Prop} {pc : Nat} {L : List (Nat × Value)} {st : List Value} {es : List EE}
theorem q_icmp_gt {a b : Int32} {off : Int} {tgt : Nat} (hd : decode M.2.1 pc = .ok (.if_icmp .gt off, 3)) (ht : (pc : Int) + off = (tgt : Int)) (kt : b < a → PG M R mc ms Post tgt L st es nc ns) (kf : ¬ b < a → PG M R mc ms Post (pc + 3) L st es nc ns) : PG M R mc ms Post pc L (.int b :: .int a :: st) es nc ns := by
  intro p l e s m args below meth c G H locs ls C hH hS hL
  exact lv_icmp_gt C.1 C.2.1 hd ht (fun h => kt h p l e s m args below meth c G H locs ls C hH hS hL) (fun h => kf h p l e s m args below meth c G H locs ls C hH hS hL)
theorem q_iret {v : Int32} (hr : M.2.2.2 = some .int) (hd : decode M.2.1 pc = .ok (.ireturn, 1)) (hc : nc ≤ mc) (hs : ns ≤ ms) (hp : ∀ G H, LIN G → HP G es H → Post (some (.int v)) G H) : PG M R mc ms Post pc L [.int v] es nc ns := by
  intro p l e s m args below meth c G H locs ls C hH hS hL
  have hlocks : meth.locks = false := C.2.2.2.2.2.2.2.1
  refine W.widen (k := mc) (n := ms) hc hs ?_
  exact W.iret C.1 C.2.1 (C.2.2.2.2.2.2.1.trans hr) (fun t ht hW => ⟨⟨some (.int v), rfl, by rw [ht]; exact hp G H C.2.2.2.2.2.2.2.2.1 hH⟩, hS.F ht⟩) hS.2.2 hd
theorem PG.loop {σ : Type} (μ : σ → Nat) (Inv : σ → Prop) (LL : σ → List (Nat × Value)) (X : σ → List EE) (s0 : σ) (h0 : Inv s0) (hl : (LL s0).map (fun q => lg L q.1) = (LL s0).map (fun q => some q.2)) (hx : es = X s0) (step : ∀ s, Inv s → (∀ s', Inv s' → μ s' < μ s → PG M R mc ms Post pc (LL s') st (X s') nc ns) → PG M R mc ms Post pc (LL s) st (X s) nc ns) : PG M R mc ms Post pc L st es nc ns := by
  refine PG.lc hl hx ?_
  have all : ∀ n s, μ s ≤ n → Inv s → PG M R mc ms Post pc (LL s) st (X s) nc ns := by
    intro n
    induction n with
    | zero => intro s hs hi; exact step s hi (fun s' _ hlt => absurd hlt (by omega))
    | succ n ih => intro s hs hi; exact step s hi (fun s' hi' hlt => ih s' (by omega) hi')
  exact all _ s0 (Nat.le_refl _) h0
theorem set_same {i : Nat} {e : EE} (h : es[i]? = some e) : es.set i e = es := by
  apply List.ext_getElem?
  intro j
  by_cases hj : j = i
  · subst hj
    rw [List.getElem?_set_self (List.getElem?_eq_some_iff.mp h).1, h]
  · rw [List.getElem?_set_ne (Ne.symm hj)]
end GRows2
section GCallS
variable {M M' : MD} {d mc ms nc ns d' : Nat} {R : Room} {Post : Option Value → GG → Heap → Prop} {pc : Nat} {L : List (Nat × Value)} {st : List Value} {es : List EE}
set_option maxHeartbeats 2000000 in
theorem q_callS {n idx : Nat} {as rest : List Value} {w : Int32} (hC : MG M' d' 0 0 as es (fun v G H => v = some (.int w) ∧ HP G es H)) (hM : MS M' n) (hw : Cond.methodLink M.1.cls idx M'.1 ∈ WS) (hr : d' + 1 ≤ d ∧ M'.2.2.1 ≤ 45) (hc : nc ≤ mc ∧ ns ≤ ms) (hdg : decode M.2.1 pc = .ok (.invokestatic idx, 3)) (hn : as.length = n) (hrest : (rest.map fun v => v.category).sum ≤ 8) (k : PG M (RM d mc ms) mc ms Post (pc + 3) L (.int w :: rest) es nc ns) : PG M (RM d mc ms) mc ms Post pc L (as.reverse ++ rest) es nc ns := by
  intro p l e s m args below meth c G H locs ls C hH hS hL
  have hcb : CallB (RM d mc ms) s args M.1.cls idx M'.1 M'.2.1 M'.2.2.1 M'.2.2.2 (.code M'.1 M'.2.1 M'.2.2.1 M'.2.2.2 :: WS) (RM d' 0 0) 0 0 n := callB_of n C.2.2.2.2.1 (goodIn_code hM.2.1) rfl rfl rfl (C.2.2.2.2.1 _ hM.1) (C.2.2.2.2.1 _ hw) hM.2.2.2 (room_ok hr.1 hr.2)
  have hrest2 : 2 * (F0 m pc ls ((as.reverse ++ rest).map (tr G))).monitorRoom + ((rest.map (tr G)).map fun v => v.category).sum ≤ 8 := by
    have e9 : ((rest.map (tr G)).map fun v => v.category) = rest.map fun v => v.category := by rw [List.map_map]; exact List.map_congr_left (fun v _ => tr_cat G v)
    rw [e9]
    exact lv_room hrest
  have hrun := va_runS (l := l) (e := e) (below := below) (meth := meth) (H := H) (locs := locs) (cells := nc) (slots := ns) (As := as.map (tr G)) (rest := rest.map (tr G)) (g := F0 m pc ls ((as.reverse ++ rest).map (tr G))) ⟨C.1, C.2.1, C.2.2.1, C.2.2.2.1, C.2.2.2.2.1⟩ (hC l G C.2.2.2.2.2.2.2.2.2.2.2.2 C.2.2.2.2.2.2.2.2.1) ⟨hcb, C.2.2.2.2.1 _ hM.2.2.1⟩ ⟨preG_blind as G es, preG_at C hH hS as⟩ rfl (by rw [List.length_map]; exact hn) hL.1 (by show (as.reverse ++ rest).map (tr G) = _; rw [List.map_append, List.map_reverse]) hrest2 hdg hc
  intro T hT X
  obtain ⟨v, st₀, t, T', LL, h0, X', hLL, e1, e2, ⟨⟨v', hv, hp1, hp2⟩, hF⟩, go⟩ := hrun T hT X
  subst hp1
  cases hv
  obtain ⟨k1, k2, k3⟩ := vx_keep h0 e1 hS (fun q _ h => h) (fun q h => h) hLL hF
  obtain ⟨t2, a1, b1⟩ := k p l e s m args below meth c G T'.heap (locs ++ LL) ls C (by rw [e1]; exact hp2) k3 hL T' rfl X'
  exact ⟨t2, go t2 a1, b1⟩
end GCallS
section GPre2
variable {M M' : MD} {d mc ms nc ns d' mc' ms' : Nat} {R : Room} {Post : Option Value → GG → Heap → Prop} {pc : Nat} {L : List (Nat × Value)} {st : List Value} {pre l l' : List EE}
theorem p_get {C9 : String} {T : u_T} {N ci idx j : Nat} {fs : List FE} {g : FE} {v : Value} (k9 : Nat) (hin : ∀ w ∈ u_ws C9 T N, w ∈ WS) (hw : Cond.fieldLink M.1.cls idx (T k9).1 (T k9).2.1 (T k9).2.2.1 ∈ WS) (hcl : vwCl[ci]? = some (C9, T, N)) (hk : k9 < N) (hd : decode M.2.1 pc = .ok (.getfield idx, 3)) (he : l[j]? = some (.inl (ci, fs))) (hv : fs[k9]? = some g) (hg : fV g = v) (k : PG M R mc ms Post (pc + 3) L (v :: st) (pre ++ l) nc ns) : PG M R mc ms Post pc L (.ref (pre.length + j) :: st) (pre ++ l) nc ns := q_get k9 hin hw hcl hk hd (gp_get he) hv hg k
theorem p_new {C9 : String} {T : u_T} {N ci idx k9 : Nat} {ds : List FE} (ty : Nat → FieldType) (hin : ∀ w ∈ u_ws C9 T N, w ∈ WS) (hty : ∀ k, k < N → parseFieldDescriptor (T k).2.2.1 = some (ty k)) (hcl : vwCl[ci]? = some (C9, T, N)) (hw1 : Cond.classLink M.1.cls idx C9 ∈ WS) (hw2 : Cond.instantiable C9 N ∈ WS) (hw3 : Cond.initialized C9 ∈ WS) (hfs : ∀ G j, j < N → defaultValue (ty j) = vp_V (ds.map (fE G)) j) (hk9 : l.length = k9) (hl' : l ++ [.inl (ci, ds)] = l') (hl : pre.length + k9 < 163) (hc : nc + 1 ≤ R.cells) (hs : ns + N ≤ R.slots) (hd : decode M.2.1 pc = .ok (.new idx, 3)) (k : PG M R mc ms Post (pc + 3) L (.ref (pre.length + k9) :: st) (pre ++ l') (nc + 1) (ns + N)) : PG M R mc ms Post pc L st (pre ++ l) nc ns := by
  subst hl'
  subst hk9
  refine q_new ty hin hty hcl hw1 hw2 hw3 hfs (by rw [List.length_append]; exact hl) hc hs hd ?_
  rw [List.length_append, List.append_assoc]
  exact k
theorem p_anew {C9 : String} {idx N k8 k9 : Nat} {n : Int32} (ht : ∀ G : GG, (tys G)[k8 + 1]? = some (gC G (k8 + 1), .object C9)) (ho : ∀ G s, EG G s → va_AO C9 s) (hw : Cond.classLink M.1.cls idx C9 ∈ WS) (hn : n = nI N) (hN : N < 10000) (hk9 : l.length = k9) (hl' : l ++ [.inr (.inr (k8, List.replicate N none))] = l') (hl : pre.length + k9 < 163) (hc : nc + 1 ≤ R.cells) (hs : ns + N ≤ R.slots) (hd : decode M.2.1 pc = .ok (.anewarray idx, 3)) (k : PG M R mc ms Post (pc + 3) L (.ref (pre.length + k9) :: st) (pre ++ l') (nc + 1) (ns + N)) : PG M R mc ms Post pc L (.int n :: st) (pre ++ l) nc ns := by
  subst hl'
  subst hk9
  refine q_anew ht ho hw hn hN (by rw [List.length_append]; exact hl) hc hs hd ?_
  rw [List.length_append, List.append_assoc]
  exact k
theorem p_astore {C9 : String} {T : u_T} {N ci k8 i9 d9 j : Nat} {fs : List FE} {ids : List (Option Nat)} {i : Int32} (ht : ∀ G : GG, (tys G)[k8 + 1]? = some (gC G (k8 + 1), .object C9)) (hcl : vwCl[ci]? = some (C9, T, N)) (he : l[i9]? = some (.inr (.inr (k8, ids)))) (hv : l[d9]? = some (.inl (ci, fs))) (hi : i = nI j) (hj : j < ids.length) (hj2 : ids.length < 10000) (hd : decode M.2.1 pc = .ok (.aastore, 1)) (hl' : l.set i9 (.inr (.inr (k8, ids.set j (some (pre.length + d9))))) = l') (k : PG M R mc ms Post (pc + 1) L st (pre ++ l') nc ns) : PG M R mc ms Post pc L (.ref (pre.length + d9) :: .int i :: .ref (pre.length + i9) :: st) (pre ++ l) nc ns := by
  subst hl'
  refine q_astore ht hcl (gp_get he) (gp_get hv) hi hj hj2 hd ?_
  rw [gp_set]
  exact k
theorem p_init {n idx k9 : Nat} {l0 blk : List EE} {e9 : EE} {as rest : List Value} (hC : MG M' d' mc' ms' (.ref ((pre ++ l0).length + 0) :: as) ((pre ++ l0) ++ [e9]) (toEs ((pre ++ l0) ++ blk))) (hM : MI M' n) (hw : (M.1.cls, idx, M'.1) ∈ nwM) (hr : d' + 1 ≤ d ∧ M'.2.2.1 ≤ 45) (hc : nc + mc' ≤ mc ∧ ns + ms' ≤ ms) (hdg : decode M.2.1 pc = .ok (.invokespecial idx, 3)) (hn : as.length = n) (hrest : (rest.map fun v => v.category).sum ≤ 8) (hl : l = l0 ++ [e9]) (hk9 : l0.length = k9) (hl' : l0 ++ blk = l') (k : PG M (RM d mc ms) mc ms Post (pc + 3) L rest (pre ++ l') (nc + mc') (ns + ms')) : PG M (RM d mc ms) mc ms Post pc L (as.reverse ++ .ref (pre.length + k9) :: rest) (pre ++ l) nc ns := by
  subst hl
  subst hl'
  subst hk9
  rw [← List.append_assoc, ← List.length_append]
  refine q_init hC hM hw hr hc hdg hn hrest ?_
  rw [List.append_assoc]
  exact k
theorem p_initL {n idx k9 : Nat} {l0 blk : List EE} {e9 : EE} {as rest : List Value} (hC : MG M' d' mc' ms' (.ref ((pre ++ l0).length + 0) :: as) ((pre ++ l0) ++ [e9]) (toEs ((pre ++ l0) ++ blk))) (hM : MI M' n) (hw : Cond.methodLink M.1.cls idx M'.1 ∈ WS) (hr : d' + 1 ≤ d ∧ M'.2.2.1 ≤ 45) (hc : nc + mc' ≤ mc ∧ ns + ms' ≤ ms) (hdg : decode M.2.1 pc = .ok (.invokespecial idx, 3)) (hn : as.length = n) (hrest : (rest.map fun v => v.category).sum ≤ 8) (hl : l = l0 ++ [e9]) (hk9 : l0.length = k9) (hl' : l0 ++ blk = l') (k : PG M (RM d mc ms) mc ms Post (pc + 3) L rest (pre ++ l') (nc + mc') (ns + ms')) : PG M (RM d mc ms) mc ms Post pc L (as.reverse ++ .ref (pre.length + k9) :: rest) (pre ++ l) nc ns := by
  subst hl
  subst hl'
  subst hk9
  rw [← List.append_assoc, ← List.length_append]
  refine q_initL hC hM hw hr hc hdg hn hrest ?_
  rw [List.append_assoc]
  exact k
end GPre2
theorem ty_hist : ∀ G : GG, (tys G)[0 + 1]? = some (gC G (0 + 1), .object RX2) := fun _ => rfl
theorem ty_law : ∀ G : GG, (tys G)[1 + 1]? = some (gC G (1 + 1), .object RX5) := fun _ => rfl
theorem ao_law : ∀ (G : GG) (s : State), EG G s → va_AO RX5 s := fun _ _ h => h.2.1
theorem ao_hist : ∀ (G : GG) (s : State), EG G s → va_AO RX2 s := fun _ _ h => h.2.2.1
set_option maxHeartbeats 2000000 in
theorem MG.ofF {M : MD} {d mc ms : Nat} {as : List Value} {es : List EE} {Post : Option Value → GG → Heap → Prop} (hy : plainFor M.1 = true) (hn : (lg_sl as).length ≤ M.2.2.1)
    (h : PG M (RM d mc ms) mc ms Post 0 (lv_args 0 as) [] es 0 0) : MG M d mc ms as es Post := by
  intro l G hl hI
  refine MetFree.of_bodySF (code := M.2.1) (maxLocals := M.2.2.1) (ret := M.2.2.2) hy ?_ ?_
  · intro args s m h hn
    obtain ⟨meth, c, h1, h2, h3, h4, h5, h6, -, -⟩ := Cond.code_spec hn (atoms_spec (ws := (.code M.1 M.2.1 M.2.2.1 M.2.2.2 :: WS)) h _ List.mem_cons_self)
    exact ⟨meth, c, h1, h2, h3, h4, h5, h6⟩
  · intro p e s m args below meth c s₁ B hml hP _
    obtain ⟨rfl, hE, hX, hH⟩ := hP
    have hh0 : s₁.heap = s.heap := by rw [B.state]; rfl
    have hts := atoms_spec (ws := (.code M.1 M.2.1 M.2.2.1 M.2.2.2 :: WS)) B.pre
    have hlen : (lg_sl (as.map (tr G))).length ≤ M.2.2.1 := by rw [sl_tr, List.length_map]; exact hn
    have hls := lv_entry (as.map (tr G)) hlen
    have hw := h p l e s m (as.map (tr G)).toArray below meth c G s.heap [] _ ⟨B.exec, B.bytes, hml, findClass_of_methodNamed B.named, fun w hw => hts w (List.mem_cons_of_mem _ hw), hE, B.returns, B.notSynchronized, hI, hX, (by rw [hH.2.1]; omega), (name_of_methodNamed B.named B.method).1, hl⟩ hH va_S.rf (by rw [trL_args]; exact hls)
    rw [lg_entry_eq]
    obtain ⟨t, a1, o, b1, b2, b3⟩ := hw s₁ hh0 (Stand.of_body B)
    exact ⟨t, o, a1, b1, b2, b3⟩
set_option maxHeartbeats 8000000 in
set_option maxRecDepth 20000 in
theorem i_min {es : List EE} {a b : Int32} : MG mJ9_min_7cf53 0 0 0 [.int a, .int b] es (fun v G H => v = some (.int (imin a b)) ∧ HP G es H) := by
  refine MG.ofF (by decide +kernel) (Nat.le_of_ble_eq_true rfl) ?_
  refine q_iload_n dJ9_min_7cf53_0 rfl (by rfl) ?_
  refine q_iload_n dJ9_min_7cf53_1 rfl (by rfl) ?_
  refine q_icmp_gt (tgt := 9) dJ9_min_7cf53_2 (by decide) (fun h => ?_) (fun h => ?_)
  · refine q_iload_n dJ9_min_7cf53_9 rfl (by rfl) ?_
    exact q_iret rfl dJ9_min_7cf53_10 (Nat.le_refl _) (Nat.le_refl _) (fun G H _ hH => ⟨by unfold imin; rw [if_pos h], hH⟩)
  · refine q_iload_n dJ9_min_7cf53_5 rfl (by rfl) ?_
    refine q_goto (tgt := 10) dJ9_min_7cf53_6 (by decide) ?_
    exact q_iret rfl dJ9_min_7cf53_10 (Nat.le_refl _) (Nat.le_refl _) (fun G H _ hH => ⟨by unfold imin; rw [if_neg h], hH⟩)
def tkE (es : List EE) (i9 c1 : Nat) (f2 : FE) (g0 g : Nat → Int32) (s i : Nat) : List EE := (es.set i9 (.inl (5, [.inr (some c1), .inl (nI s), f2]))).set c1 (.inr (.inl (150, cpR g0 g i)))
theorem tkE_law {es : List EE} {i9 c1 s i : Nat} {f2 : FE} {g0 g : Nat → Int32} (hne : c1 ≠ i9) (h : i9 < es.length) : (tkE es i9 c1 f2 g0 g s i)[i9]? = some (.inl (5, [.inr (some c1), .inl (nI s), f2])) := by
  unfold tkE
  rw [List.getElem?_set_ne hne, List.getElem?_set_self h]
theorem tkE_row {es : List EE} {i9 c1 s i : Nat} {f2 : FE} {g0 g : Nat → Int32} (h : c1 < es.length) : (tkE es i9 c1 f2 g0 g s i)[c1]? = some (.inr (.inl (150, cpR g0 g i))) := by
  unfold tkE
  rw [List.getElem?_set_self (by rw [List.length_set]; exact h)]
set_option maxHeartbeats 8000000 in
set_option maxRecDepth 20000 in
theorem i_takeCode {es : List EE} {i9 c1 t s : Nat} {f1 f2 : FE} {g0 g : Nat → Int32} (he : es[i9]? = some (.inl (5, [.inr (some c1), f1, f2]))) (hc : es[c1]? = some (.inr (.inl (150, g0)))) (hne : c1 ≠ i9) (hT : IsT t s g) (hs : s ≤ 150) : MG mX5_takeCode 1 0 0 [.ref i9, .ref t, .int (nI s)] es (toEs (tkE es i9 c1 f2 g0 g s s)) := by
  refine MG.of (by decide) (Nat.le_of_ble_eq_true rfl) ?_
  have hi9 : i9 < es.length := (List.getElem?_eq_some_iff.mp he).1
  have hc1 : c1 < es.length := (List.getElem?_eq_some_iff.mp hc).1
  refine q_aload_n dX5_takeCode_0 rfl (by rfl) ?_
  refine q_iload_n dX5_takeCode_1 rfl (by rfl) ?_
  refine q_aload_n dX5_takeCode_2 rfl (by rfl) ?_
  refine q_alenT hT dX5_takeCode_3 ?_
  refine q_callS (as := [.int (nI s), .int (nI s)]) i_min ms_J9_min_7cf53 ml_X5_32 ⟨by decide, by decide⟩ ⟨Nat.le_refl _, Nat.le_refl _⟩ dX5_takeCode_4 rfl (Nat.le_of_ble_eq_true rfl) ?_
  refine q_aload_n dX5_takeCode_7 rfl (by rfl) ?_
  refine q_get 0 hin_5 fl_X5_9 rfl (by decide) dX5_takeCode_8 he rfl rfl ?_
  refine q_alen hc dX5_takeCode_11 ?_
  refine q_callS (as := [.int (imin (nI s) (nI s)), .int (nI 150)]) i_min ms_J9_min_7cf53 ml_X5_32 ⟨by decide, by decide⟩ ⟨Nat.le_refl _, Nat.le_refl _⟩ dX5_takeCode_12 rfl (Nat.le_of_ble_eq_true rfl) ?_
  refine PG.topi (show _ = nI s by rw [imin_N (by omega) (by omega), imin_N (by omega) (by omega)]; congr 1; omega) ?_
  refine q_put (ty := .int) (g := .inl (nI s)) tyX5 1 hin_5 tyX5_ok nmX5 fl_X5_15 rfl (by decide) (fun h => by cases h) (by decide +kernel) (fun _ => rfl) (fun _ => rfl) dX5_takeCode_15 he (by show 1 < 3; decide) rfl ?_
  refine q_iconst (v := nI 0) dX5_takeCode_18 (by decide) ?_
  refine q_istore_n dX5_takeCode_19 rfl (by decide) ?_
  refine PG.loop (σ := Nat) (fun i => s - i) (fun i => i ≤ s) (fun i => [(0, .ref i9), (1, .ref t), (3, .int (nI i))]) (fun i => tkE es i9 c1 f2 g0 g s i) 0 (Nat.zero_le _) rfl (by
    unfold tkE
    show es.set i9 (.inl (5, [.inr (some c1), .inl (nI s), f2])) = _
    exact (set_same (by rw [List.getElem?_set_ne (Ne.symm hne)]; exact hc)).symm) (fun i hi ih => ?_)
  refine q_iload_n dX5_takeCode_20 rfl (by rfl) ?_
  refine q_aload_n dX5_takeCode_21 rfl (by rfl) ?_
  refine q_get 1 hin_5 fl_X5_15 rfl (by decide) dX5_takeCode_22 (tkE_law hne hi9) rfl rfl ?_
  refine q_icmp_ge (tgt := 43) dX5_takeCode_25 (by decide) (fun h25 => ?_) (fun h25 => ?_)
  · have e : i = s := by
      have := (nI_leI (by omega) (by omega)).mp h25
      omega
    subst e
    exact q_ret rfl dX5_takeCode_43 (Nat.le_refl _) (Nat.le_refl _) (fun G H _ h => ⟨rfl, h⟩)
  · have hlt : i < s := by
      have : ¬ s ≤ i := fun q => h25 ((nI_leI (by omega) (by omega)).mpr q)
      omega
    refine q_aload_n dX5_takeCode_28 rfl (by rfl) ?_
    refine q_get 0 hin_5 fl_X5_9 rfl (by decide) dX5_takeCode_29 (tkE_law hne hi9) rfl rfl ?_
    refine q_iload_n dX5_takeCode_32 rfl (by rfl) ?_
    refine q_aload_n dX5_takeCode_33 rfl (by rfl) ?_
    refine q_iload_n dX5_takeCode_34 rfl (by rfl) ?_
    refine q_ialdT hT dX5_takeCode_35 (by omega) (by omega) ?_
    refine q_iast (tkE_row hc1) (by omega) (by decide) dX5_takeCode_36 ?_
    refine q_iinc dX5_takeCode_37 (by rfl) (nI_1 i) (by decide) ?_
    refine q_goto (tgt := 20) dX5_takeCode_40 (by decide) ?_
    refine PG.lc (by rfl) ?_ (ih (i + 1) (by omega) (by omega))
    unfold tkE
    rw [List.set_set]
    rfl
set_option maxHeartbeats 8000000 in
set_option maxRecDepth 20000 in
theorem i_takeLoud {es : List EE} {i9 c1 : Nat} {f1 f2 : FE} {g0 : Nat → Int32} (he : es[i9]? = some (.inl (5, [.inr (some c1), f1, f2]))) (hc : es[c1]? = some (.inr (.inl (150, g0)))) (hne : c1 ≠ i9) : MG mX5_takeLoudWithout 2 0 0 [.ref i9] es (toEs (tkE es i9 c1 f2 g0 (fun j => loudW.getD j 0) 7 7)) := by
  refine MG.of (by decide) (Nat.le_of_ble_eq_true rfl) ?_
  have hT : IsT 2000 7 (fun j => loudW.getD j 0) := Or.inl ⟨rfl, rfl, rfl⟩
  refine q_aload_n dX5_takeLoudWithout_0 rfl (by rfl) ?_
  refine q_getsL fl_X5_22 dX5_takeLoudWithout_1 ?_
  refine q_getsL fl_X5_22 dX5_takeLoudWithout_4 ?_
  refine q_alenT hT dX5_takeLoudWithout_7 ?_
  refine q_callV (as := [.ref 2000, .int (nI 7)]) (i_takeCode he hc hne hT (by decide)) mv_X5_takeCode ml_X5_25 ⟨by decide, by decide⟩ ⟨Nat.le_refl _, Nat.le_refl _⟩ dX5_takeLoudWithout_8 he rfl rfl rfl (Nat.le_of_ble_eq_true rfl) ?_
  exact q_ret rfl dX5_takeLoudWithout_11 (Nat.le_refl _) (Nat.le_refl _) (fun G H _ h => ⟨rfl, h⟩)
set_option maxHeartbeats 8000000 in
set_option maxRecDepth 20000 in
theorem i_takeFalls {es : List EE} {i9 c1 : Nat} {f1 f2 : FE} {g0 : Nat → Int32} (he : es[i9]? = some (.inl (5, [.inr (some c1), f1, f2]))) (hc : es[c1]? = some (.inr (.inl (150, g0)))) (hne : c1 ≠ i9) : MG mX5_takeFallsWithout 2 0 0 [.ref i9] es (toEs (tkE es i9 c1 f2 g0 (fun j => fallsW.getD j 0) 5 5)) := by
  refine MG.of (by decide) (Nat.le_of_ble_eq_true rfl) ?_
  have hT : IsT 2001 5 (fun j => fallsW.getD j 0) := Or.inr ⟨rfl, rfl, rfl⟩
  refine q_aload_n dX5_takeFallsWithout_0 rfl (by rfl) ?_
  refine q_getsF fl_X5_29 dX5_takeFallsWithout_1 ?_
  refine q_getsF fl_X5_29 dX5_takeFallsWithout_4 ?_
  refine q_alenT hT dX5_takeFallsWithout_7 ?_
  refine q_callV (as := [.ref 2001, .int (nI 5)]) (i_takeCode he hc hne hT (by decide)) mv_X5_takeCode ml_X5_25 ⟨by decide, by decide⟩ ⟨Nat.le_refl _, Nat.le_refl _⟩ dX5_takeFallsWithout_8 he rfl rfl rfl (Nat.le_of_ble_eq_true rfl) ?_
  exact q_ret rfl dX5_takeFallsWithout_11 (Nat.le_refl _) (Nat.le_refl _) (fun G H _ h => ⟨rfl, h⟩)
set_option maxHeartbeats 8000000 in
set_option maxRecDepth 20000 in
theorem i_begin {es : List EE} {i9 r9 h9 : Nat} {f1 f3 f4 f5 f6 f7 f8 : FE} {hs : List FE} {wv : Int32} (he : es[i9]? = some (.inl (6, [.inr (some h9), f1, .inr (some r9), f3, f4, f5, f6, f7, f8]))) (hr : es[r9]? = some (.inr (.inl (42, fun _ => 0)))) (hh : es[h9]? = some (.inl (3, hs))) (h0 : hs[0]? = some (.inl (nI 0))) (h11 : hs[11]? = some (.inl wv)) : MG mX6_begin 1 0 0 [.ref i9] es (toEs (es.set i9 (.inl (6, [.inr (some h9), f1, .inr (some r9), f3, f4, f5, f6, .inl wv, f8])))) := by
  refine MG.of (by decide) (Nat.le_of_ble_eq_true rfl) ?_
  refine q_iconst (v := nI 0) dX6_begin_0 (by decide) ?_
  refine q_istore_n dX6_begin_1 rfl (by decide) ?_
  refine PG.loop (σ := Nat) (fun i => 42 - i) (fun i => i ≤ 42) (fun i => [(0, .ref i9), (1, .int (nI i))]) (fun _ => es) 0 (Nat.zero_le _) rfl rfl (fun i hi ih => ?_)
  refine q_iload_n dX6_begin_2 rfl (by rfl) ?_
  refine q_bipush (v := nI 42) dX6_begin_3 (by decide) ?_
  refine q_icmp_ge (tgt := 21) dX6_begin_5 (by decide) (fun h5 => ?_) (fun h5 => ?_)
  · refine q_iconst (v := nI 0) dX6_begin_21 (by decide) ?_
    refine q_istore_n dX6_begin_22 rfl (by decide) ?_
    refine q_iload_n dX6_begin_23 rfl (by rfl) ?_
    refine q_aload_n dX6_begin_24 rfl (by rfl) ?_
    refine q_get 0 hin_6 fl_X6_36 rfl (by decide) dX6_begin_25 he rfl rfl ?_
    refine q_get 0 hin_3 fl_X6_44 rfl (by decide) dX6_begin_28 hh h0 rfl ?_
    refine q_icmp_ge (tgt := 92) dX6_begin_31 (by decide) (fun h31 => ?_) (fun h31 => absurd (Int32.le_refl _) h31)
    refine q_aload_n dX6_begin_92 rfl (by rfl) ?_
    refine q_aload_n dX6_begin_93 rfl (by rfl) ?_
    refine q_get 0 hin_6 fl_X6_36 rfl (by decide) dX6_begin_94 he rfl rfl ?_
    refine q_get 11 hin_3 fl_X6_58 rfl (by decide) dX6_begin_97 hh h11 rfl ?_
    refine q_put (ty := .int) (g := .inl wv) tyX6 7 hin_6 tyX6_ok nmX6 fl_X6_29 rfl (by decide) (fun h => by cases h) (by decide +kernel) (fun _ => rfl) (fun _ => rfl) dX6_begin_100 he (by show 7 < 9; decide) rfl ?_
    exact q_ret rfl dX6_begin_103 (Nat.le_refl _) (Nat.le_refl _) (fun G H _ h => ⟨rfl, h⟩)
  · have hlt : i < 42 := by
      have : ¬ 42 ≤ i := fun q => h5 ((nI_leI (by omega) (by omega)).mpr q)
      omega
    refine q_aload_n dX6_begin_8 rfl (by rfl) ?_
    refine q_get 2 hin_6 fl_X6_11 rfl (by decide) dX6_begin_9 he rfl rfl ?_
    refine q_iload_n dX6_begin_12 rfl (by rfl) ?_
    refine q_iconst (v := nI 0) dX6_begin_13 (by decide) ?_
    refine q_iast hr hlt (by decide) dX6_begin_14 ?_
    refine q_iinc dX6_begin_15 (by rfl) (nI_1 i) (by decide) ?_
    refine q_goto (tgt := 2) dX6_begin_18 (by decide) ?_
    refine PG.lc (by rfl) ?_ (ih (i + 1) (by omega) (by omega))
    rw [show upd (fun _ => (0 : Int32)) i (nI 0) = fun _ => 0 from upd_id rfl]
    exact set_same hr
