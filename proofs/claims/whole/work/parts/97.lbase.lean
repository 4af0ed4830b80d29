/-! THE LAW'S LAYER: the picture, and beside it the row 'out' of one long (cell number 200), the script (cell number 201) -/
def AL (G : GG) (sz : Nat) : Nat → Prop := fun q => AA G sz q ∨ q = gA G 200
def IO (G : GG) : Prop := ∀ c, c < NC → gA G c ≠ gA G 200
def HO (G : GG) (x : XS) (w : Int64) (H : Heap) : Prop := Holds G x H ∧ ∃ f : Nat → Int64, f 0 = w ∧ H[gA G 200]? = some (vp_cell (gC G 4) (1, .inr (.inl f)))
/-- the tables, with the class of rows of longs, and that the two throwables aren't of each other's kind -/
def EL (G : GG) (U : State) : Prop := EV G U ∧ ArrOfT U (gC G 4) .long ∧ va_Nc thI thS U
theorem EL.warm {G : GG} {s U : State} (hW : s.WarmedH U.vm) (h : EL G s) : EL G U := ⟨EV.warm hW h.1, arrOfT_moved hW.alike h.2.1, va_Nc.moved hW.alike h.2.2⟩
theorem EL.same {G : GG} {u U : State} (hv : U.vm = u.vm) (h : EL G u) : EL G U := ⟨EV.same hv h.1, arrOfT_moved (by rw [hv]; exact Vm.Alike.refl u.vm) h.2.1, va_Nc.moved (by rw [hv]; exact Vm.Alike.refl u.vm) h.2.2⟩
theorem AL_sub {G : GG} {a b : Nat} (h : a ≤ b) : ∀ q, AL G b q → AL G a q := fun q hq => hq.elim (fun z => Or.inl (AA_sub h q z)) Or.inr
theorem AA_AL {G : GG} {a b : Nat} (h : a ≤ b) : ∀ q, AA G b q → AL G a q := fun q hq => Or.inl (AA_sub h q hq)
/-- the context of a walk: hh is the table of handlers -/
def CL (M : MD) (hh : List (Nat × Nat × Nat × Nat)) (G : GG) (p : Program) (l : Launch) (s : State) (m : MethodId) (args : Array Value) (meth : Method) (c : Code) : Prop :=
  p.tables.exec = Jvm.exec ∧ c.code = M.2.1 ∧ c.maxLocals = M.2.2.1 ∧ s.vm.findClass M.1.cls = some m.cls ∧ (∀ w ∈ WS, w.before args s = true) ∧ EL G s ∧ meth.sig.returnType = M.2.2.2 ∧ meth.locks = false ∧ Inj G ∧ IO G ∧ Ext G (AL G s.heap.size) s s.heap ∧ l.stackTraces = false ∧ c.exceptionTable.toList = tableOf hh
/-- a place in such a walk; Q is what is owed at the end -/
def PL (M : MD) (G : GG) (p : Program) (l : Launch) (e : Env) (R : Room) (s : State) (m : MethodId) (args : Array Value) (below : List Frame) (meth : Method) (c : Code) (Q : State → Prop) (pc : Nat) (L : List (Nat × Value)) (st : List Value) (x : XS) (w : Int64) (nc ns : Nat) : Prop :=
  ∀ (H : Heap) (locs : List Loc) (ls : Array Slot), HO G x w H → va_S (AL G s.heap.size) s.heap H locs → lv_has ls M.2.2.1 (trL G L) → W p l e R s m args below meth c H locs nc ns Q (F0 m pc ls (st.map (tr G)))
section LRows
variable {M M' : MD} {hh hh' : List (Nat × Nat × Nat × Nat)} {G : GG} {p : Program} {l : Launch} {e : Env} {R : Room} {s : State} {m : MethodId} {args : Array Value} {below : List Frame} {meth : Method} {c : Code} {Q : State → Prop} {pc : Nat} {L : List (Nat × Value)} {st rest : List Value} {x : XS} {w : Int64} {nc ns d' mc' ms' : Nat}
theorem PL.loc {L' : List (Nat × Value)} (h : lsub L' L) (k : PL M G p l e R s m args below meth c Q pc L' st x w nc ns) : PL M G p l e R s m args below meth c Q pc L st x w nc ns := fun H locs ls hH hS hL => k H locs ls hH hS (lsub_has hL h)
theorem PL.topi {v v' : Int32} (h : v = v') (k : PL M G p l e R s m args below meth c Q pc L (.int v' :: st) x w nc ns) : PL M G p l e R s m args below meth c Q pc L (.int v :: st) x w nc ns := by subst h; exact k
theorem PL.widen {k n : Nat} (h1 : nc ≤ k) (h2 : ns ≤ n) (kk : PL M G p l e R s m args below meth c Q pc L st x w k n) : PL M G p l e R s m args below meth c Q pc L st x w nc ns := fun H locs ls hH hS hL => W.widen h1 h2 (kk H locs ls hH hS hL)

theorem l_iconst {n : Int} {v : Int32} (C : CL M hh G p l s m args meth c) (hd : decode M.2.1 pc = .ok (.iconst n, 1)) (hv : Int32.ofInt n = v) (k : PL M G p l e R s m args below meth c Q (pc + 1) L (.int v :: st) x w nc ns) : PL M G p l e R s m args below meth c Q pc L (st) x w nc ns := by
  intro H locs ls hH hS hL
  exact lv_iconst C.1 C.2.1 hd hv (k H locs ls hH hS hL)
theorem l_bipush {n : Int} {v : Int32} (C : CL M hh G p l s m args meth c) (hd : decode M.2.1 pc = .ok (.bipush n, 2)) (hv : (Int8.ofInt n).toInt32 = v) (k : PL M G p l e R s m args below meth c Q (pc + 2) L (.int v :: st) x w nc ns) : PL M G p l e R s m args below meth c Q pc L (st) x w nc ns := by
  intro H locs ls hH hS hL
  exact lv_bipush C.1 C.2.1 hd hv (k H locs ls hH hS hL)
theorem l_lconst {n : Fin 2} {v : Int64} (C : CL M hh G p l s m args meth c) (hd : decode M.2.1 pc = .ok (.lconst n, 1)) (hv : Int64.ofNat (n : Nat) = v) (k : PL M G p l e R s m args below meth c Q (pc + 1) L (.long v :: st) x w nc ns) : PL M G p l e R s m args below meth c Q pc L (st) x w nc ns := by
  intro H locs ls hH hS hL
  exact lv_lconst C.1 C.2.1 hd hv (k H locs ls hH hS hL)
theorem l_iload_n {k9 : Fin 4} {i : Nat} {v : Int32} (C : CL M hh G p l s m args meth c) (hd : decode M.2.1 pc = .ok (.iload_n k9, 1)) (hi : (k9 : Nat) = i) (hv : lg L i = some (.int v)) (k : PL M G p l e R s m args below meth c Q (pc + 1) L (.int v :: st) x w nc ns) : PL M G p l e R s m args below meth c Q pc L (st) x w nc ns := by
  intro H locs ls hH hS hL
  exact lv_iload_n C.1 C.2.1 hd hi (lg_at hL hv) (k H locs ls hH hS hL)
theorem l_iload {i : Nat} {v : Int32} (C : CL M hh G p l s m args meth c) (hd : decode M.2.1 pc = .ok (.iload i, 2)) (hv : lg L i = some (.int v)) (k : PL M G p l e R s m args below meth c Q (pc + 2) L (.int v :: st) x w nc ns) : PL M G p l e R s m args below meth c Q pc L (st) x w nc ns := by
  intro H locs ls hH hS hL
  exact lv_iload C.1 C.2.1 hd (lg_at hL hv) (k H locs ls hH hS hL)
theorem l_aload_n {k9 : Fin 4} {i v : Nat} (C : CL M hh G p l s m args meth c) (hd : decode M.2.1 pc = .ok (.aload_n k9, 1)) (hi : (k9 : Nat) = i) (hv : lg L i = some (.ref v)) (k : PL M G p l e R s m args below meth c Q (pc + 1) L (.ref v :: st) x w nc ns) : PL M G p l e R s m args below meth c Q pc L (st) x w nc ns := by
  intro H locs ls hH hS hL
  exact lv_aload_n C.1 C.2.1 hd hi (lg_at hL hv) (k H locs ls hH hS hL)
theorem l_aload {i v : Nat} (C : CL M hh G p l s m args meth c) (hd : decode M.2.1 pc = .ok (.aload i, 2)) (hv : lg L i = some (.ref v)) (k : PL M G p l e R s m args below meth c Q (pc + 2) L (.ref v :: st) x w nc ns) : PL M G p l e R s m args below meth c Q pc L (st) x w nc ns := by
  intro H locs ls hH hS hL
  exact lv_aload C.1 C.2.1 hd (lg_at hL hv) (k H locs ls hH hS hL)
theorem l_istore {i : Nat} {v : Int32} (C : CL M hh G p l s m args meth c) (hd : decode M.2.1 pc = .ok (.istore i, 2)) (hn : i < M.2.2.1) (k : PL M G p l e R s m args below meth c Q (pc + 2) (l1 L i (.int v)) (st) x w nc ns) : PL M G p l e R s m args below meth c Q pc L (.int v :: st) x w nc ns := by
  intro H locs ls hH hS hL
  exact lv_istore C.1 C.2.1 hd hL hn (trL_l1 G L i (.int v)) (fun ls2 hL2 => k H locs ls2 hH hS hL2)
theorem l_iinc {i : Nat} {n : Int} {v v' : Int32} (C : CL M hh G p l s m args meth c) (hd : decode M.2.1 pc = .ok (.iinc i n, 3)) (hv : lg L i = some (.int v)) (hw : v + Int32.ofInt n = v') (hn : i < M.2.2.1) (k : PL M G p l e R s m args below meth c Q (pc + 3) (l1 L i (.int v')) st x w nc ns) : PL M G p l e R s m args below meth c Q pc L st x w nc ns := by
  intro H locs ls hH hS hL
  obtain ⟨j, hj⟩ := lg_idx hv
  exact lv_iinc (k := j) C.1 C.2.1 hd hL (by unfold trL; rw [List.getElem?_map, hj]; rfl) hw hn (trL_l1 G L i (.int v')) (fun ls2 hL2 => k H locs ls2 hH hS hL2)
theorem l_iadd {a b : Int32} (C : CL M hh G p l s m args meth c) (hd : decode M.2.1 pc = .ok (.iadd, 1)) (k : PL M G p l e R s m args below meth c Q (pc + 1) L (.int (a + b) :: st) x w nc ns) : PL M G p l e R s m args below meth c Q pc L (.int b :: .int a :: st) x w nc ns := by
  intro H locs ls hH hS hL
  exact lv_iadd C.1 C.2.1 hd (k H locs ls hH hS hL)
theorem l_isub {a b : Int32} (C : CL M hh G p l s m args meth c) (hd : decode M.2.1 pc = .ok (.isub, 1)) (k : PL M G p l e R s m args below meth c Q (pc + 1) L (.int (a - b) :: st) x w nc ns) : PL M G p l e R s m args below meth c Q pc L (.int b :: .int a :: st) x w nc ns := by
  intro H locs ls hH hS hL
  exact lv_isub C.1 C.2.1 hd (k H locs ls hH hS hL)
theorem l_iand {a b : Int32} (C : CL M hh G p l s m args meth c) (hd : decode M.2.1 pc = .ok (.iand, 1)) (k : PL M G p l e R s m args below meth c Q (pc + 1) L (.int (a &&& b) :: st) x w nc ns) : PL M G p l e R s m args below meth c Q pc L (.int b :: .int a :: st) x w nc ns := by
  intro H locs ls hH hS hL
  exact lv_iand C.1 C.2.1 hd (k H locs ls hH hS hL)
theorem l_i2l {a : Int32} (C : CL M hh G p l s m args meth c) (hd : decode M.2.1 pc = .ok (.i2l, 1)) (k : PL M G p l e R s m args below meth c Q (pc + 1) L (.long a.toInt64 :: st) x w nc ns) : PL M G p l e R s m args below meth c Q pc L (.int a :: st) x w nc ns := by
  intro H locs ls hH hS hL
  exact lv_i2l C.1 C.2.1 hd rfl (k H locs ls hH hS hL)
theorem l_lcmp {a b : Int64} (C : CL M hh G p l s m args meth c) (hd : decode M.2.1 pc = .ok (.lcmp, 1)) (k : PL M G p l e R s m args below meth c Q (pc + 1) L (.int (lg_cmp a b) :: st) x w nc ns) : PL M G p l e R s m args below meth c Q pc L (.long b :: .long a :: st) x w nc ns := by
  intro H locs ls hH hS hL
  exact W.lcmp C.1 C.2.1 hd (k H locs ls hH hS hL)
theorem l_goto {off : Int} {tgt : Nat} (C : CL M hh G p l s m args meth c) (hd : decode M.2.1 pc = .ok (.goto off, 3)) (ht : (pc : Int) + off = (tgt : Int)) (k : PL M G p l e R s m args below meth c Q tgt L st x w nc ns) : PL M G p l e R s m args below meth c Q pc L st x w nc ns := by
  intro H locs ls hH hS hL
  exact lv_goto C.1 C.2.1 hd ht (k H locs ls hH hS hL)
theorem l_if_eq {a : Int32} {off : Int} {tgt : Nat} (C : CL M hh G p l s m args meth c) (hd : decode M.2.1 pc = .ok (.ifCond .eq off, 3)) (ht : (pc : Int) + off = (tgt : Int)) (kt : a = 0 → PL M G p l e R s m args below meth c Q tgt L st x w nc ns) (kf : ¬ a = 0 → PL M G p l e R s m args below meth c Q (pc + 3) L st x w nc ns) : PL M G p l e R s m args below meth c Q pc L (.int a :: st) x w nc ns := by
  intro H locs ls hH hS hL
  exact lv_if_eq C.1 C.2.1 hd ht (fun h => kt h H locs ls hH hS hL) (fun h => kf h H locs ls hH hS hL)
theorem l_if_ne {a : Int32} {off : Int} {tgt : Nat} (C : CL M hh G p l s m args meth c) (hd : decode M.2.1 pc = .ok (.ifCond .ne off, 3)) (ht : (pc : Int) + off = (tgt : Int)) (kt : ¬ a = 0 → PL M G p l e R s m args below meth c Q tgt L st x w nc ns) (kf : a = 0 → PL M G p l e R s m args below meth c Q (pc + 3) L st x w nc ns) : PL M G p l e R s m args below meth c Q pc L (.int a :: st) x w nc ns := by
  intro H locs ls hH hS hL
  exact lv_if_ne C.1 C.2.1 hd ht (fun h => kt h H locs ls hH hS hL) (fun h => kf h H locs ls hH hS hL)
theorem l_icmp_eq {a b : Int32} {off : Int} {tgt : Nat} (C : CL M hh G p l s m args meth c) (hd : decode M.2.1 pc = .ok (.if_icmp .eq off, 3)) (ht : (pc : Int) + off = (tgt : Int)) (kt : a = b → PL M G p l e R s m args below meth c Q tgt L st x w nc ns) (kf : ¬ a = b → PL M G p l e R s m args below meth c Q (pc + 3) L st x w nc ns) : PL M G p l e R s m args below meth c Q pc L (.int b :: .int a :: st) x w nc ns := by
  intro H locs ls hH hS hL
  exact lv_icmp_eq C.1 C.2.1 hd ht (fun h => kt h H locs ls hH hS hL) (fun h => kf h H locs ls hH hS hL)
theorem l_icmp_gt {a b : Int32} {off : Int} {tgt : Nat} (C : CL M hh G p l s m args meth c) (hd : decode M.2.1 pc = .ok (.if_icmp .gt off, 3)) (ht : (pc : Int) + off = (tgt : Int)) (kt : b < a → PL M G p l e R s m args below meth c Q tgt L st x w nc ns) (kf : ¬ b < a → PL M G p l e R s m args below meth c Q (pc + 3) L st x w nc ns) : PL M G p l e R s m args below meth c Q pc L (.int b :: .int a :: st) x w nc ns := by
  intro H locs ls hH hS hL
  exact lv_icmp_gt C.1 C.2.1 hd ht (fun h => kt h H locs ls hH hS hL) (fun h => kf h H locs ls hH hS hL)
theorem l_tableIn {dflt lo hi : Int} {offs : Array Int} {len : Nat} {a : Int32} {off : Int} {tgt : Nat} (C : CL M hh G p l s m args meth c) (hd : decode M.2.1 pc = .ok (.tableswitch dflt lo hi offs, len)) (h1 : ¬ a.toInt < lo) (h2 : ¬ hi < a.toInt) (ho : offs[(a.toInt - lo).toNat]? = some off) (ht : (pc : Int) + off = (tgt : Int)) (k : PL M G p l e R s m args below meth c Q tgt L st x w nc ns) : PL M G p l e R s m args below meth c Q pc L (.int a :: st) x w nc ns := by
  intro H locs ls hH hS hL
  exact lv_tableIn C.1 C.2.1 hd h1 h2 ho ht (k H locs ls hH hS hL)
theorem l_tableOut {dflt lo hi : Int} {offs : Array Int} {len : Nat} {a : Int32} {tgt : Nat} (C : CL M hh G p l s m args meth c) (hd : decode M.2.1 pc = .ok (.tableswitch dflt lo hi offs, len)) (h : a.toInt < lo ∨ hi < a.toInt) (ht : (pc : Int) + dflt = (tgt : Int)) (k : PL M G p l e R s m args below meth c Q tgt L st x w nc ns) : PL M G p l e R s m args below meth c Q pc L (.int a :: st) x w nc ns := by
  intro H locs ls hH hS hL
  exact lv_tableOut C.1 C.2.1 hd h ht (k H locs ls hH hS hL)
theorem l_lald (C : CL M hh G p l s m args meth c) (hd : decode M.2.1 pc = .ok (.laload, 1)) (k : PL M G p l e R s m args below meth c Q (pc + 1) L (.long w :: st) x w nc ns) : PL M G p l e R s m args below meth c Q pc L (.int 0 :: .ref 200 :: st) x w nc ns := by
  intro H locs ls hH hS hL
  obtain ⟨hH1, f9, hf, hc9⟩ := hH
  subst hf
  exact W.lald (v := .long (f9 0)) C.1 C.2.1 hc9 (C.2.2.2.2.2.1.2.1 1 (fun j => .long (f9 j))) (fun q => by cases q) (by show ¬ ((0 : Int32) < 0 ∨ (arrV _ _ _).slots.size ≤ _); rw [arrV_size]; exact (by decide : ¬ ((0 : Int32) < 0 ∨ 1 ≤ Int32.toNatClampNeg 0))) (by show (arrV _ _ _).slots[_]? = _; rw [arrV_read _ _ (show Int32.toNatClampNeg 0 < 1 by decide)]; rfl) rfl rfl hd (k H locs ls ⟨hH1, f9, rfl, hc9⟩ hS hL)
theorem l_last {v : Int64} (C : CL M hh G p l s m args meth c) (hd : decode M.2.1 pc = .ok (.lastore, 1)) (k : PL M G p l e R s m args below meth c Q (pc + 1) L st x v nc ns) : PL M G p l e R s m args below meth c Q pc L (.long v :: .int 0 :: .ref 200 :: st) x w nc ns := by
  intro H locs ls hH hS hL
  obtain ⟨hH1, f9, hf, hc9⟩ := hH
  refine W.last C.1 C.2.1 hc9 (C.2.2.2.2.2.1.2.1 1 (fun j => .long (f9 j))) (fun q => by cases q) (by show ¬ ((0 : Int32) < 0 ∨ (arrV _ _ _).slots.size ≤ _); rw [arrV_size]; exact (by decide : ¬ ((0 : Int32) < 0 ∨ 1 ≤ Int32.toNatClampNeg 0))) rfl rfl hd fun H1 e9 z oq => ?_
  refine k H1 _ ls ⟨fun c9 hc9 => (hH1 c9 hc9).kept (oq _ (C.2.2.2.2.2.2.2.2.2.1 c9 hc9)), vp_updL f9 (Int32.toNatClampNeg 0) v, ?_, ?_⟩ (hS.put z oq (Or.inr rfl)) hL
  · rfl
  · rw [e9]
    show some _ = some (vp_cell _ _)
    rw [vp_cell_l, vp_cell_l, arrV_store]
    congr 2
    funext q
    simp only [updV, vp_updL]
    split <;> rfl
end LRows
