/-! CONSTRUCTORS: each new cell lies at the heap's end; a list of what the cells hold -/
abbrev FE : Type := Int32 ⊕ Option Nat
abbrev EE : Type := (Nat × List FE) ⊕ ((Nat × (Nat → Int32)) ⊕ (Nat × List (Option Nat)))
def fE (G : GG) (f : FE) : Value := match f with
  | .inl v => .int v
  | .inr none => .null
  | .inr (some d) => .ref (gA G d)
def fV (f : FE) : Value := match f with
  | .inl v => .int v
  | .inr none => .null
  | .inr (some d) => .ref d
theorem fV_tr (G : GG) (f : FE) : tr G (fV f) = fE G f := by
  rcases f with v | o
  · rfl
  · cases o <;> rfl
def eE (G : GG) (e : EE) : va_E := match e with
  | .inl (ci, fs) => .inr (ci, fs.map (fE G))
  | .inr (.inl (n, f)) => .inl (gC G 0, n, .inl f)
  | .inr (.inr (k, ids)) => .inl (gC G (k + 1), ids.length, .inr (.inr (.inr (.inr (fun i => (ids[i]?).bind (fun o => o.map (gA G)))))))
def wE (G : GG) (es : List EE) : va_W := es.mapIdx (fun i e => (gA G i, eE G e))
def LIN (G : GG) : Prop := ∀ c, c < 200 → gA G c = gA G 0 + c
def AZ (G : GG) : Nat → Prop := fun q => gA G 0 ≤ q
def HP (G : GG) (es : List EE) (H : Heap) : Prop := va_P (gD G) vwCl (wE G es) H ∧ H.size = gA G 0 + es.length ∧ es.length ≤ 163
theorem wE_get {G : GG} {es : List EE} {i : Nat} {e : EE} (h : es[i]? = some e) : (wE G es)[i]? = some (gA G i, eE G e) := by
  unfold wE
  rw [List.getElem?_mapIdx, h]
  rfl
theorem wE_at {G : GG} {es : List EE} {i : Nat} {q : Nat × va_E} (h : (wE G es)[i]? = some q) : ∃ e, es[i]? = some e ∧ q = (gA G i, eE G e) := by
  unfold wE at h
  rw [List.getElem?_mapIdx] at h
  obtain ⟨e, h1, h2⟩ := Option.map_eq_some_iff.mp h
  exact ⟨e, h1, h2.symm⟩
theorem wE_len (G : GG) (es : List EE) : (wE G es).length = es.length := by unfold wE; rw [List.length_mapIdx]
theorem wE_D {G : GG} {es : List EE} (hl : LIN G) (hn : es.length ≤ 163) : va_D (AZ G) (wE G es) := by
  refine ⟨fun i j p q hi hj hpq => ?_, fun k q hk => ?_⟩
  · obtain ⟨e1, h1, rfl⟩ := wE_at hi
    obtain ⟨e2, h2, rfl⟩ := wE_at hj
    have a1 := (List.getElem?_eq_some_iff.mp h1).1
    have a2 := (List.getElem?_eq_some_iff.mp h2).1
    have hpq : gA G i = gA G j := hpq
    rw [hl i (by omega), hl j (by omega)] at hpq
    omega
  · obtain ⟨e1, h1, rfl⟩ := wE_at hk
    have a1 := (List.getElem?_eq_some_iff.mp h1).1
    show gA G 0 ≤ gA G k
    rw [hl k (by omega)]
    omega
theorem wE_set {G : GG} {es : List EE} {i : Nat} {e : EE} (hi : i < es.length) : (wE G es).set i (gA G i, eE G e) = wE G (es.set i e) := by
  apply List.ext_getElem?
  intro j
  by_cases hj : j = i
  · subst hj
    rw [List.getElem?_set_self (by rw [wE_len]; exact hi)]
    exact (wE_get (List.getElem?_set_self hi)).symm
  · rw [List.getElem?_set_ne (Ne.symm hj)]
    unfold wE
    rw [List.getElem?_mapIdx, List.getElem?_mapIdx, List.getElem?_set_ne (Ne.symm hj)]
theorem wE_app {G : GG} {es : List EE} {e : EE} : wE G (es ++ [e]) = wE G es ++ [(gA G es.length, eE G e)] := by
  unfold wE
  rw [List.mapIdx_append]
  simp
def AOI (U : State) : Prop := (Cond.arrayOver (.array .int)).before #[] U = true
theorem AOI.moved {u U : State} (h : u.vm.Alike U.vm) (a : AOI u) : AOI U := Jvm.Stand.arrayOver_alikeB h a
def nwM : List (String × Nat × MethodName) := [("FirstAsleep", 9, yX8_init), ("FirstAsleep", 18, yX3_init), ("FirstAsleep", 28, yX5_init), ("FirstAsleep", 39, yX1_init), ("FirstAsleep", 49, yX7_init), ("FirstAsleep", 68, yX2_init), ("FirstAsleep", 75, yX0_init), ("FirstAsleep$Album", 18, yX2_init), ("FirstAsleep", 82, yX4_init)]
def EG (G : GG) (U : State) : Prop := EV G U ∧ va_AO "FirstAsleep$Law" U ∧ va_AO "FirstAsleep$History" U ∧ AOI U ∧ ∀ q ∈ nwM, va_Nw (.methodLinkNest q.1 q.2.1 q.2.2 "FirstAsleep") U
theorem EG.warm {G : GG} {s U : State} (hW : s.WarmedH U.vm) (h : EG G s) : EG G U := ⟨EV.warm hW h.1, va_AO.moved hW.alike h.2.1, va_AO.moved hW.alike h.2.2.1, AOI.moved hW.alike h.2.2.2.1, fun q hq => va_Nw.warmM hW (h.2.2.2.2 q hq)⟩
theorem EG.same {G : GG} {u U : State} (hv : U.vm = u.vm) (h : EG G u) : EG G U := ⟨EV.same hv h.1, va_AO.moved (by rw [hv]; exact Vm.Alike.refl u.vm) h.2.1, va_AO.moved (by rw [hv]; exact Vm.Alike.refl u.vm) h.2.2.1, AOI.moved (by rw [hv]; exact Vm.Alike.refl u.vm) h.2.2.2.1, fun q hq => va_Nw.same rfl hv.symm (h.2.2.2.2 q hq)⟩
def CG (M : MD) (G : GG) (p : Program) (l : Launch) (s : State) (m : MethodId) (args : Array Value) (meth : Method) (c : Code) : Prop :=
  p.tables.exec = Jvm.exec ∧ c.code = M.2.1 ∧ c.maxLocals = M.2.2.1 ∧ s.vm.findClass M.1.cls = some m.cls ∧ (∀ w ∈ WS, w.before args s = true) ∧ EG G s ∧ meth.sig.returnType = M.2.2.2 ∧ meth.locks = false ∧ LIN G ∧ Ext G (AZ G) s s.heap ∧ gA G 0 ≤ s.heap.size ∧ meth.name = M.1.name ∧ l.stackTraces = false
def QG (G : GG) (Post : Option Value → GG → Heap → Prop) : Array Value → State → Outcome → State → Prop := fun _ st oc t => (∃ v : Option Value, oc = .returned (v.map (tr G)) ∧ Post v G t.heap) ∧ va_F (AZ G) st t
def PreG (G : GG) (es : List EE) (U : State) : Prop := EG G U ∧ Ext G (AZ G) U U.heap ∧ HP G es U.heap
/-- a contract of a method that makes cells -/
def MG (M : MD) (d mc ms : Nat) (as : List Value) (es : List EE) (Post : Option Value → GG → Heap → Prop) : Prop :=
  ∀ (l : Launch) (G : GG), l.stackTraces = false → LIN G → Met l M.1 (.code M.1 M.2.1 M.2.2.1 M.2.2.2 :: WS) (RM d mc ms) (va_Pc (as.map (tr G)) (PreG G es)) (QG G Post) mc ms (AZ G)
def PG (M : MD) (R : Room) (mc ms : Nat) (Post : Option Value → GG → Heap → Prop) (pc : Nat) (L : List (Nat × Value)) (st : List Value) (es : List EE) (nc ns : Nat) : Prop :=
  ∀ (p : Program) (l : Launch) (e : Env) (s : State) (m : MethodId) (args : Array Value) (below : List Frame) (meth : Method) (c : Code) (G : GG) (H : Heap) (locs : List Loc) (ls : Array Slot),
    CG M G p l s m args meth c → HP G es H → va_S (AZ G) s.heap H locs → lv_has ls M.2.2.1 (trL G L) →
    W p l e R s m args below meth c H locs nc ns (MQ below (QG G Post) args s mc ms (AZ G)) (F0 m pc ls (st.map (tr G)))
theorem sl_tr (G : GG) : ∀ as : List Value, lg_sl (as.map (tr G)) = (lg_sl as).map (fun q => match q with | .val v => .val (tr G v) | z => z)
  | [] => rfl
  | v :: vs => by
    have e1 : lg_sl ((v :: vs).map (tr G)) = (if (tr G v).category = 2 then [.val (tr G v), .second] else [.val (tr G v)]) ++ lg_sl (vs.map (tr G)) := rfl
    have e2 : lg_sl (v :: vs) = (if v.category = 2 then [.val v, .second] else [.val v]) ++ lg_sl vs := rfl
    rw [e1, e2, sl_tr G vs, tr_cat]
    by_cases h2 : v.category = 2
    · simp [h2]
    · simp [h2]
set_option maxHeartbeats 2000000 in
theorem MG.of {M : MD} {d mc ms : Nat} {as : List Value} {es : List EE} {Post : Option Value → GG → Heap → Prop} (hy : plainName M.1.cls = true) (hn : (lg_sl as).length ≤ M.2.2.1)
    (h : PG M (RM d mc ms) mc ms Post 0 (lv_args 0 as) [] es 0 0) : MG M d mc ms as es Post := by
  intro l G hl hI
  refine Met.ofW (cc := M.2.1) (maxL := M.2.2.1) (ret := M.2.2.2) hy rfl ?_
  intro p e s m args below meth c s₁ B hml hP
  obtain ⟨rfl, hE, hX, hH⟩ := hP
  have hts := atoms_spec (ws := (.code M.1 M.2.1 M.2.2.1 M.2.2.2 :: WS)) B.pre
  have hlen : (lg_sl (as.map (tr G))).length ≤ M.2.2.1 := by rw [sl_tr, List.length_map]; exact hn
  have hls := lv_entry (as.map (tr G)) hlen
  have hw := h p l e s m (as.map (tr G)).toArray below meth c G s.heap [] _ ⟨B.exec, B.bytes, hml, findClass_of_methodNamed B.named, fun w hw => hts w (List.mem_cons_of_mem _ hw), hE, B.returns, B.notSynchronized, hI, hX, (by rw [hH.2.1]; omega), (name_of_methodNamed B.named B.method).1, hl⟩ hH va_S.rf (by rw [trL_args]; exact hls)
  rw [lg_entry_eq]
  exact hw
section GRows
variable {M : MD} {R : Room} {mc ms nc ns : Nat} {Post : Option Value → GG → Heap → Prop} {pc : Nat} {L : List (Nat × Value)} {st : List Value} {es : List EE}
theorem q_iconst {n : Int} {v : Int32} (hd : decode M.2.1 pc = .ok (.iconst n, 1)) (hv : Int32.ofInt n = v) (k : PG M R mc ms Post (pc + 1) L (.int v :: st) es nc ns) : PG M R mc ms Post pc L (st) es nc ns := by
  intro p l e s m args below meth c G H locs ls C hH hS hL
  exact lv_iconst C.1 C.2.1 hd hv (k p l e s m args below meth c G H locs ls C hH hS hL)
theorem q_bipush {n : Int} {v : Int32} (hd : decode M.2.1 pc = .ok (.bipush n, 2)) (hv : (Int8.ofInt n).toInt32 = v) (k : PG M R mc ms Post (pc + 2) L (.int v :: st) es nc ns) : PG M R mc ms Post pc L (st) es nc ns := by
  intro p l e s m args below meth c G H locs ls C hH hS hL
  exact lv_bipush C.1 C.2.1 hd hv (k p l e s m args below meth c G H locs ls C hH hS hL)
theorem q_sipush {n : Int} {v : Int32} (hd : decode M.2.1 pc = .ok (.sipush n, 3)) (hv : (Int16.ofInt n).toInt32 = v) (k : PG M R mc ms Post (pc + 3) L (.int v :: st) es nc ns) : PG M R mc ms Post pc L (st) es nc ns := by
  intro p l e s m args below meth c G H locs ls C hH hS hL
  exact lv_sipush C.1 C.2.1 hd hv (k p l e s m args below meth c G H locs ls C hH hS hL)
theorem q_iload_n {k9 : Fin 4} {i : Nat} {v : Int32} (hd : decode M.2.1 pc = .ok (.iload_n k9, 1)) (hi : (k9 : Nat) = i) (hv : lg L i = some (.int v)) (k : PG M R mc ms Post (pc + 1) L (.int v :: st) es nc ns) : PG M R mc ms Post pc L (st) es nc ns := by
  intro p l e s m args below meth c G H locs ls C hH hS hL
  exact lv_iload_n C.1 C.2.1 hd hi (lg_at hL hv) (k p l e s m args below meth c G H locs ls C hH hS hL)
theorem q_iload {i : Nat} {v : Int32} (hd : decode M.2.1 pc = .ok (.iload i, 2)) (hv : lg L i = some (.int v)) (k : PG M R mc ms Post (pc + 2) L (.int v :: st) es nc ns) : PG M R mc ms Post pc L (st) es nc ns := by
  intro p l e s m args below meth c G H locs ls C hH hS hL
  exact lv_iload C.1 C.2.1 hd (lg_at hL hv) (k p l e s m args below meth c G H locs ls C hH hS hL)
theorem q_aload_n {k9 : Fin 4} {i v : Nat} (hd : decode M.2.1 pc = .ok (.aload_n k9, 1)) (hi : (k9 : Nat) = i) (hv : lg L i = some (.ref v)) (k : PG M R mc ms Post (pc + 1) L (.ref v :: st) es nc ns) : PG M R mc ms Post pc L (st) es nc ns := by
  intro p l e s m args below meth c G H locs ls C hH hS hL
  exact lv_aload_n C.1 C.2.1 hd hi (lg_at hL hv) (k p l e s m args below meth c G H locs ls C hH hS hL)
theorem q_istore_n {k9 : Fin 4} {i : Nat} {v : Int32} (hd : decode M.2.1 pc = .ok (.istore_n k9, 1)) (hi : (k9 : Nat) = i) (hn : i < M.2.2.1) (k : PG M R mc ms Post (pc + 1) (l1 L i (.int v)) st es nc ns) : PG M R mc ms Post pc L (.int v :: st) es nc ns := by
  intro p l e s m args below meth c G H locs ls C hH hS hL
  exact lv_istore_n C.1 C.2.1 hd hi hL hn (trL_l1 G L i (.int v)) (fun ls2 hL2 => k p l e s m args below meth c G H locs ls2 C hH hS hL2)
theorem q_istore {i : Nat} {v : Int32} (hd : decode M.2.1 pc = .ok (.istore i, 2)) (hn : i < M.2.2.1) (k : PG M R mc ms Post (pc + 2) (l1 L i (.int v)) st es nc ns) : PG M R mc ms Post pc L (.int v :: st) es nc ns := by
  intro p l e s m args below meth c G H locs ls C hH hS hL
  exact lv_istore C.1 C.2.1 hd hL hn (trL_l1 G L i (.int v)) (fun ls2 hL2 => k p l e s m args below meth c G H locs ls2 C hH hS hL2)
theorem q_iinc {i : Nat} {n : Int} {v w : Int32} (hd : decode M.2.1 pc = .ok (.iinc i n, 3)) (hv : lg L i = some (.int v)) (hw : v + Int32.ofInt n = w) (hn : i < M.2.2.1) (k : PG M R mc ms Post (pc + 3) (l1 L i (.int w)) st es nc ns) : PG M R mc ms Post pc L st es nc ns := by
  intro p l e s m args below meth c G H locs ls C hH hS hL
  obtain ⟨j, hj⟩ := lg_idx hv
  exact lv_iinc (k := j) C.1 C.2.1 hd hL (by unfold trL; rw [List.getElem?_map, hj]; rfl) hw hn (trL_l1 G L i (.int w)) (fun ls2 hL2 => k p l e s m args below meth c G H locs ls2 C hH hS hL2)
theorem q_iadd {a b : Int32} (hd : decode M.2.1 pc = .ok (.iadd, 1)) (k : PG M R mc ms Post (pc + 1) L (.int (a + b) :: st) es nc ns) : PG M R mc ms Post pc L (.int b :: .int a :: st) es nc ns := by
  intro p l e s m args below meth c G H locs ls C hH hS hL
  exact lv_iadd C.1 C.2.1 hd (k p l e s m args below meth c G H locs ls C hH hS hL)
theorem q_dup {a : Value} (hd : decode M.2.1 pc = .ok (.dup, 1)) (ha : a.category = 1) (k : PG M R mc ms Post (pc + 1) L (a :: a :: st) es nc ns) : PG M R mc ms Post pc L (a :: st) es nc ns := by
  intro p l e s m args below meth c G H locs ls C hH hS hL
  exact lv_dup C.1 C.2.1 hd (by rw [tr_cat]; exact ha) (k p l e s m args below meth c G H locs ls C hH hS hL)
theorem q_icmp_ge {a b : Int32} {off : Int} {tgt : Nat} (hd : decode M.2.1 pc = .ok (.if_icmp .ge off, 3)) (ht : (pc : Int) + off = (tgt : Int)) (kt : b ≤ a → PG M R mc ms Post tgt L st es nc ns) (kf : ¬ b ≤ a → PG M R mc ms Post (pc + 3) L st es nc ns) : PG M R mc ms Post pc L (.int b :: .int a :: st) es nc ns := by
  intro p l e s m args below meth c G H locs ls C hH hS hL
  exact lv_icmp_ge C.1 C.2.1 hd ht (fun h => kt h p l e s m args below meth c G H locs ls C hH hS hL) (fun h => kf h p l e s m args below meth c G H locs ls C hH hS hL)
theorem q_goto {off : Int} {tgt : Nat} (hd : decode M.2.1 pc = .ok (.goto off, 3)) (ht : (pc : Int) + off = (tgt : Int)) (k : PG M R mc ms Post tgt L st es nc ns) : PG M R mc ms Post pc L st es nc ns := by
  intro p l e s m args below meth c G H locs ls C hH hS hL
  exact lv_goto C.1 C.2.1 hd ht (k p l e s m args below meth c G H locs ls C hH hS hL)
theorem PG.topi {v v' : Int32} (h : v = v') (k : PG M R mc ms Post pc L (.int v' :: st) es nc ns) : PG M R mc ms Post pc L (.int v :: st) es nc ns := by subst h; exact k
theorem PG.top {v v' : Value} (h : v = v') (k : PG M R mc ms Post pc L (v' :: st) es nc ns) : PG M R mc ms Post pc L (v :: st) es nc ns := by subst h; exact k
theorem PG.eseq {es' : List EE} (h : es = es') (k : PG M R mc ms Post pc L st es' nc ns) : PG M R mc ms Post pc L st es nc ns := by subst h; exact k
theorem PG.lc {L' : List (Nat × Value)} {es' : List EE} (h : L'.map (fun q => lg L q.1) = L'.map (fun q => some q.2)) (hx : es = es') (k : PG M R mc ms Post pc L' st es' nc ns) : PG M R mc ms Post pc L st es nc ns := by
  subst hx
  intro p l e s m args below meth c G H locs ls C hH hS hL
  refine k p l e s m args below meth c G H locs ls C hH hS ⟨hL.1, hL.2.1, fun q hq => ?_⟩
  obtain ⟨q9, h1, rfl⟩ := List.mem_map.mp hq
  have h2 : lg L q9.1 = some q9.2 := by
    obtain ⟨i, hi⟩ := List.getElem?_of_mem h1
    have h3 := congrArg (fun l => l[i]?) h
    simp only [List.getElem?_map, hi] at h3
    exact Option.some.inj h3
  exact lg_at hL h2
theorem q_ret (hr : M.2.2.2 = none) (hd : decode M.2.1 pc = .ok (.return_, 1)) (hc : nc ≤ mc) (hs : ns ≤ ms) (hp : ∀ G H, LIN G → HP G es H → Post none G H) : PG M R mc ms Post pc L [] es nc ns := by
  intro p l e s m args below meth c G H locs ls C hH hS hL
  have hlocks : meth.locks = false := C.2.2.2.2.2.2.2.1
  refine W.widen (k := mc) (n := ms) hc hs ?_
  exact W.vret C.1 C.2.1 (C.2.2.2.2.2.2.1.trans hr) (fun t ht hW => ⟨⟨none, rfl, by rw [ht]; exact hp G H C.2.2.2.2.2.2.2.2.1 hH⟩, hS.F ht⟩) hS.2.2 hd
theorem q_get {C9 : String} {T : u_T} {N ci idx i9 : Nat} {fs : List FE} {g : FE} {v : Value} (k9 : Nat) (hin : ∀ w ∈ u_ws C9 T N, w ∈ WS) (hw : Cond.fieldLink M.1.cls idx (T k9).1 (T k9).2.1 (T k9).2.2.1 ∈ WS) (hcl : vwCl[ci]? = some (C9, T, N)) (hk : k9 < N) (hd : decode M.2.1 pc = .ok (.getfield idx, 3)) (he : es[i9]? = some (.inl (ci, fs))) (hv : fs[k9]? = some g) (hg : fV g = v) (k : PG M R mc ms Post (pc + 3) L (v :: st) es nc ns) : PG M R mc ms Post pc L (.ref i9 :: st) es nc ns := by
  subst hg
  intro p l e s m args below meth c G H locs ls C hH hS hL
  refine va_get (ws := wE G es) (v := fE G g) C.1 C.2.1 C.2.2.2.2.1 hin C.2.2.2.1 C.2.2.2.2.2.1.1.1 hH.1 i9 (by rw [wE_get he]; rfl) hcl k9 hk (C.2.2.2.2.1 _ hw) (fun _ h9 => h9) (by rw [List.getElem?_map, hv]; rfl) hd ?_
  have hk9 := k p l e s m args below meth c G H locs ls C hH hS hL
  rw [List.map_cons, fV_tr] at hk9
  exact hk9
theorem set_fE (G : GG) (fs : List FE) (k : Nat) (g : FE) : (fs.map (fE G)).set k (fE G g) = (fs.set k g).map (fE G) := by rw [List.map_set]
/-- a field put anew, whether it is final or not -/
theorem q_put {C9 : String} {T : u_T} {N ci idx i9 : Nat} {fs : List FE} {g : FE} {v : Value} {ty : FieldType} (ty0 : Nat → FieldType) (k9 : Nat) (hin : ∀ w ∈ u_ws C9 T N, w ∈ WS) (hty : ∀ k, k < N → parseFieldDescriptor (T k).2.2.1 = some (ty0 k)) (hnm : ∀ a, a < N → ∀ b, b < N → a ≠ b → (T a).2.1 ≠ (T b).2.1) (hw : Cond.fieldLink M.1.cls idx (T k9).1 (T k9).2.1 (T k9).2.2.1 ∈ WS) (hcl : vwCl[ci]? = some (C9, T, N)) (hk : k9 < N) (hmf : (T k9).2.2.2 = true → M.1.name = "<init>" ∧ (T k9).1 = M.1.cls) (hpd : parseFieldDescriptor (T k9).2.2.1 = some ty) (hna : ∀ G, narrow ty (fE G g) = fE G g) (hfi : ∀ G, fits ty (fE G g) = true) (hd : decode M.2.1 pc = .ok (.putfield idx, 3)) (he : es[i9]? = some (.inl (ci, fs))) (hl : k9 < fs.length) (hg : fV g = v) (k : PG M R mc ms Post (pc + 3) L st (es.set i9 (.inl (ci, fs.set k9 g))) nc ns) : PG M R mc ms Post pc L (v :: .ref i9 :: st) es nc ns := by
  subst hg
  intro p l e s m args below meth c G H locs ls C hH hS hL
  have hK := C.2.2.2.2.2.1.1.1
  have hts := C.2.2.2.2.1
  have hi9 : i9 < es.length := (List.getElem?_eq_some_iff.mp he).1
  have hD := wE_D C.2.2.2.2.2.2.2.2.1 hH.2.2
  have hwe : (wE G es)[i9]? = some (gA G i9, .inr (ci, fs.map (fE G))) := wE_get he
  have hap := va_apart (own := M.1.cls) hts hin ty0 hty hnm hK hcl
  obtain ⟨r, h1, cell, q1, q2, q3, q4⟩ := hH.1 i9 _ hwe
  have hr : r = (C9, T, N) := Option.some.inj (h1.symm.trans hcl)
  subst hr
  obtain ⟨hSl, hfc, kC, hkC, hkind⟩ := hK.1 ci _ hcl
  obtain ⟨cf, kf, fi, f9, hi, hsl⟩ := hSl k9 hk
  have hlay := hts _ (hin _ (u_in_lay hk))
  have hst := (u_facts hfc hkC (u_lays hts hin hk) hi).1
  have hlen : k9 < (fs.map (fE G)).length := by rw [List.length_map]; exact hl
  have fin : ∀ (H' : Heap) (locs' : List Loc), H'[gA G i9]? = some (cell.setSlot ((gD G).2 ci k9) (fE G g)) → H'.size = H.size → (∀ q : Nat, q ≠ gA G i9 → H'[q]? = H[q]?) → va_S (AZ G) s.heap H' locs' → W p l e R s m args below meth c H' locs' nc ns (MQ below (QG G Post) args s mc ms (AZ G)) (F0 m (pc + 3) ls (st.map (tr G))) := fun H' locs' e1 e2 e3 hS1 => by
    have hP1 := hH.1.set hD hwe (e := .inr (ci, (fs.map (fE G)).set k9 (fE G g))) ⟨_, hcl, t_OB.to (V := updV (vp_V (fs.map (fE G))) k9 (fE G g)) ⟨_, e1, q2, q3, t_set q4 hap hk (fE G g)⟩ (fun j _ => vp_updV_set hlen (fE G g) j)⟩ e3
    rw [set_fE, show (.inr (ci, (fs.set k9 g).map (fE G)) : va_E) = eE G (.inl (ci, fs.set k9 g)) from rfl, wE_set hi9] at hP1
    exact k p l e s m args below meth c G H' locs' ls C ⟨hP1, by rw [e2, hH.2.1, List.length_set], by rw [List.length_set]; exact hH.2.2⟩ hS1 hL
  rw [List.map_cons, fV_tr]
  unfold u_lay at hlay
  by_cases hfin : (T k9).2.2.2 = true
  · rw [if_pos hfin] at hlay
    have hcf : m.cls = cf := by
      obtain ⟨_, _, c', _, _, _, -, -, hf', -, -, -, hown2, -⟩ := Cond.laysFinal_spec hlay
      have e1 : c' = cf := by have := hi.symm.trans hf'; simp at this; exact this.1.symm
      rw [(hmf hfin).2] at hown2
      rw [← e1]
      exact Option.some.inj (C.2.2.2.1.symm.trans hown2)
    have h6 := u_fits hfc hkC hkind (Or.inr hlay) hi hpd (hna G) (hfi G)
    refine W.putFinK C.1 C.2.1 C.2.2.2.1 (hts _ hw) hi hst hcf (C.2.2.2.2.2.2.2.2.2.2.2.1.trans (hmf hfin).1) (by rw [q2]; exact h6) q1 q3 (by rw [hsl]; exact k2_hasslot (q4 k9 hk)) rfl rfl hd fun H' e1 e2 e3 => ?_
    rw [hsl] at e1 ⊢
    exact fin H' _ e1 e2 e3 (hS.put e2 e3 (hD.2 i9 _ hwe))
  · rw [if_neg hfin] at hlay
    have h6 := u_store hfc hkC hkind hlay hi hpd (hna G) (hfi G)
    refine W.putK C.1 C.2.1 (f := f9) ⟨C.2.2.2.1, hts _ hw, ⟨_, _, _, hi⟩, hst⟩ (by rw [q2]; exact h6) q1 q3 (by rw [hsl]; exact k2_hasslot (q4 k9 hk)) rfl rfl hd fun H' e1 e2 e3 => ?_
    rw [hsl] at e1 ⊢
    exact fin H' _ e1 e2 e3 (hS.put e2 e3 (hD.2 i9 _ hwe))
end GRows
