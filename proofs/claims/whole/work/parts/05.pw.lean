/-! THE JUDGEMENTS over the pure picture: MM, a contract of a method; PW, a place in its walk. -/
def strL : List (String × Nat × String) := [("FirstAsleep$House", 61, "sleeper wine cold plug owes wall over clock"), ("FirstAsleep$Law", 79, "snores wine cold depth tired heard light minute awake least most"), ("FirstAsleep$Plan", 55, "nudge turn room plug call minute again"), ("FirstAsleepModel", 214, "sleeper"), ("FirstAsleepModel", 185, "wine"), ("FirstAsleepModel", 194, "cold"), ("FirstAsleepModel", 196, "plug"), ("FirstAsleepModel", 198, "owes"), ("FirstAsleepModel", 200, "wall"), ("FirstAsleepModel", 201, "over"), ("FirstAsleepModel", 202, "clock"), ("FirstAsleepModel", 272, "least"), ("FirstAsleepModel", 277, "most"), ("FirstAsleepModel", 259, "snores"), ("FirstAsleepModel", 261, "depth"), ("FirstAsleepModel", 263, "tired"), ("FirstAsleepModel", 265, "heard"), ("FirstAsleepModel", 266, "light"), ("FirstAsleepModel", 268, "minute"), ("FirstAsleepModel", 270, "awake"), ("FirstAsleepModel", 296, "nudge"), ("FirstAsleepModel", 305, "turn"), ("FirstAsleepModel", 307, "room"), ("FirstAsleepModel", 309, "call"), ("FirstAsleepModel", 311, "again")]
def strN : List Nat := [43, 64, 38, 7, 4, 4, 4, 4, 4, 4, 5, 5, 4, 6, 5, 5, 5, 5, 6, 5, 5, 4, 4, 4, 5]
def strB : List (List Int32) := [[115, 108, 101, 101, 112, 101, 114, 32, 119, 105, 110, 101, 32, 99, 111, 108, 100, 32, 112, 108, 117, 103, 32, 111, 119, 101, 115, 32, 119, 97, 108, 108, 32, 111, 118, 101, 114, 32, 99, 108, 111, 99, 107], [115, 110, 111, 114, 101, 115, 32, 119, 105, 110, 101, 32, 99, 111, 108, 100, 32, 100, 101, 112, 116, 104, 32, 116, 105, 114, 101, 100, 32, 104, 101, 97, 114, 100, 32, 108, 105, 103, 104, 116, 32, 109, 105, 110, 117, 116, 101, 32, 97, 119, 97, 107, 101, 32, 108, 101, 97, 115, 116, 32, 109, 111, 115, 116], [110, 117, 100, 103, 101, 32, 116, 117, 114, 110, 32, 114, 111, 111, 109, 32, 112, 108, 117, 103, 32, 99, 97, 108, 108, 32, 109, 105, 110, 117, 116, 101, 32, 97, 103, 97, 105, 110], [115, 108, 101, 101, 112, 101, 114], [119, 105, 110, 101], [99, 111, 108, 100], [112, 108, 117, 103], [111, 119, 101, 115], [119, 97, 108, 108], [111, 118, 101, 114], [99, 108, 111, 99, 107], [108, 101, 97, 115, 116], [109, 111, 115, 116], [115, 110, 111, 114, 101, 115], [100, 101, 112, 116, 104], [116, 105, 114, 101, 100], [104, 101, 97, 114, 100], [108, 105, 103, 104, 116], [109, 105, 110, 117, 116, 101], [97, 119, 97, 107, 101], [110, 117, 100, 103, 101], [116, 117, 114, 110], [114, 111, 111, 109], [99, 97, 108, 108], [97, 103, 97, 105, 110]]
/-- words on the tables that aren't kept by themselves: what throwing needs -/
def nwL : List Cond := [.castable "java/lang/IllegalArgumentException" "java/lang/IllegalArgumentException", .castable "java/util/NoSuchElementException" "java/util/NoSuchElementException"]
def nwD : List MethodName := [⟨"java/lang/RuntimeException", "<init>", "()V"⟩, ⟨"java/lang/RuntimeException", "<init>", "(Ljava/lang/String;)V"⟩, ⟨"java/lang/Exception", "<init>", "()V"⟩, ⟨"java/lang/Exception", "<init>", "(Ljava/lang/String;)V"⟩, ⟨"java/lang/Throwable", "<init>", "()V"⟩, ⟨"java/lang/Throwable", "<init>", "(Ljava/lang/String;)V"⟩]
/-- what holds of the machine's tables wherever the program stands -/
def EV (G : GG) (U : State) : Prop := va_K (gD G) vwCl (tys G) U ∧ (∀ (i : Nat) (q : String × Nat × String), strL[i]? = some q → vk_R q.1 q.2.1 q.2.2 (gA G (1000 + i)) U) ∧ va_Nw (.castable "java/lang/IllegalArgumentException" "java/lang/IllegalArgumentException") U ∧ va_Nw (.castable "java/util/NoSuchElementException" "java/util/NoSuchElementException") U ∧ ∀ y ∈ nwD, va_Nw (.declares y) U
theorem EV.warm {G : GG} {s U : State} (hW : s.WarmedH U.vm) (h : EV G s) : EV G U := ⟨va_K.moved hW.alike h.1, fun i q hq => vk_R.warm hW (h.2.1 i q hq), va_Nw.warmC hW h.2.2.1, va_Nw.warmC hW h.2.2.2.1, fun y hy => va_Nw.warmD hW (h.2.2.2.2 y hy)⟩
theorem EV.same {G : GG} {u U : State} (hv : U.vm = u.vm) (h : EV G u) : EV G U := ⟨va_K.moved (by rw [hv]; exact Vm.Alike.refl u.vm) h.1, fun i q hq => vk_R.same hv (h.2.1 i q hq), va_Nw.same rfl hv.symm h.2.2.1, va_Nw.same rfl hv.symm h.2.2.2.1, fun y hy => va_Nw.same rfl hv.symm (h.2.2.2.2 y hy)⟩
def loudW : List Int32 := [1000, 2, 2002, 1001, 2000, 1002, 2000]
def fallsW : List Int32 := [1004, 4, 2003, 1005, 2001]
/-- what lies in the heap outside the picture: strings, static rows -/
def Ext (G : GG) (A : Nat → Prop) (U : State) (H : Heap) : Prop := vk_S 25 strN strB (fun i => gA G (1000 + i)) (fun i => gA G (1100 + i)) A U H ∧ va_Z "java/lang/String" "COMPACT_STRINGS" "Z" (.int 1) A U H ∧ (va_Z "jdk/internal/util/Preconditions" "SIOOBE_FORMATTER" "Ljava/util/function/BiFunction;" .null A U H ∨ va_Z "jdk/internal/util/Preconditions" "SIOOBE_FORMATTER" "Ljava/util/function/BiFunction;" (.ref (gA G 3000)) A U H) ∧
  va_Z "FirstAsleep$Law" "LOUD_WITHOUT" "[I" (.ref (gA G 2000)) A U H ∧ va_T .int (gA G 2000) 7 (fun j => .int (loudW.getD j 0)) A U H ∧ va_Z "FirstAsleep$Law" "FALLS_WITHOUT" "[I" (.ref (gA G 2001)) A U H ∧ va_T .int (gA G 2001) 5 (fun j => .int (fallsW.getD j 0)) A U H ∧
  vx_Zq Bundle.tN "UNASSIGNED_STACK" Bundle.steD A U H ∧ vx_Zq Bundle.tN "SUPPRESSED_SENTINEL" Bundle.listD A U H
theorem Ext.moved {G : GG} {A : Nat → Prop} {u U : State} {H : Heap} (hvm : u.vm.Alike U.vm) (h : Ext G A u H) : Ext G A U H := by
  obtain ⟨h1, h2, h3, h4, h5, h6, h7, h8, h9⟩ := h
  exact ⟨vk_S.moved hvm h1, va_Z.moved hvm h2, h3.elim (fun q => Or.inl (va_Z.moved hvm q)) (fun q => Or.inr (va_Z.moved hvm q)), va_Z.moved hvm h4, va_T.moved hvm h5, va_Z.moved hvm h6, va_T.moved hvm h7, vx_Zq.moved hvm h8, vx_Zq.moved hvm h9⟩
theorem Ext.kept {G : GG} {A : Nat → Prop} {U : State} {H H1 : Heap} (h : Ext G A U H) (hq : ∀ a : Nat, a < H.size → ¬ A a → H1[a]? = H[a]?) : Ext G A U H1 := by
  obtain ⟨h1, h2, h3, h4, h5, h6, h7, h8, h9⟩ := h
  exact ⟨h1.kept hq, h2.kept hq, h3.elim (fun q => Or.inl (q.kept hq)) (fun q => Or.inr (q.kept hq)), h4.kept hq, h5.kept hq, h6.kept hq, h7.kept hq, h8.kept hq, h9.kept hq⟩
theorem Ext.narrow {G : GG} {A B : Nat → Prop} {U : State} {H : Heap} (h : Ext G A U H) (hAB : ∀ q, B q → A q) : Ext G B U H := by
  obtain ⟨h1, h2, h3, h4, h5, h6, h7, h8, h9⟩ := h
  exact ⟨h1.narrow hAB, h2.narrow hAB, h3.elim (fun q => Or.inl (q.narrow hAB)) (fun q => Or.inr (q.narrow hAB)), h4.narrow hAB, h5.narrow hAB, h6.narrow hAB, h7.narrow hAB, h8.narrow hAB, h9.narrow hAB⟩
def tr (G : GG) (v : Value) : Value := match v with
  | .ref c => .ref (gA G c)
  | w => w
theorem tr_cat (G : GG) (v : Value) : (tr G v).category = v.category := by cases v <;> rfl
def trL (G : GG) (L : List (Nat × Value)) : List (Nat × Value) := L.map (fun q => (q.1, tr G q.2))
theorem trL_args (G : GG) : ∀ (as : List Value) (i : Nat), trL G (lv_args i as) = lv_args i (as.map (tr G))
  | [], _ => rfl
  | v :: vs, i => by
    show (i, tr G v) :: trL G (lv_args (if v.category = 2 then i + 2 else i + 1) vs) = (i, tr G v) :: lv_args (if (tr G v).category = 2 then i + 2 else i + 1) (vs.map (tr G))
    rw [trL_args G vs, tr_cat]
/-- a method: its name, its code, its locals, what it returns -/
abbrev MD : Type := MethodName × ByteArray × Nat × Option FieldType
def RM (d mc ms : Nat) : Room := { frames := d, cells := mc, slots := ms, locals := 64 * d }
def QQ (G : GG) (sz : Nat) (Post : Option Value → XS → Prop) : Array Value → State → Outcome → State → Prop := fun _ st oc t => (∃ (v : Option Value) (x' : XS), oc = .returned (v.map (tr G)) ∧ Post v x' ∧ Holds G x' t.heap) ∧ va_F (AA G sz) st t
def XQ (G : GG) (sz : Nat) (PT : String → XS → Prop) : String → State → State → Prop := fun E st t => (∃ x' : XS, PT E x' ∧ Holds G x' t.heap) ∧ va_F (AA G sz) st t
def Pre (G : GG) (sz : Nat) (x : XS) (U : State) : Prop := U.heap.size = sz ∧ EV G U ∧ Ext G (AA G sz) U U.heap ∧ Holds G x U.heap
/-- A CONTRACT: from the picture x, called with as, the method M returns v and leaves x' with 'Post v x'', or throws an E with 'PT E x''; d frames, at most mc new cells of ms slots -/
def MM (M : MD) (d mc ms : Nat) (as : List Value) (x : XS) (Post : Option Value → XS → Prop) (PT : String → XS → Prop) : Prop :=
  ∀ (l : Launch) (G : GG) (sz : Nat), l.stackTraces = false → Inj G → vx_Met l M.1 (.code M.1 M.2.1 M.2.2.1 M.2.2.2 :: WS) (RM d mc ms) (va_Pc (as.map (tr G)) (Pre G sz x)) (QQ G sz Post) (XQ G sz PT) mc ms (AA G sz)
def CX (M : MD) (G : GG) (p : Program) (l : Launch) (s : State) (m : MethodId) (args : Array Value) (meth : Method) (c : Code) : Prop :=
  p.tables.exec = Jvm.exec ∧ c.code = M.2.1 ∧ c.maxLocals = M.2.2.1 ∧ s.vm.findClass M.1.cls = some m.cls ∧ (∀ w ∈ WS, w.before args s = true) ∧ EV G s ∧ meth.sig.returnType = M.2.2.2 ∧ meth.locks = false ∧ Inj G ∧ Ext G (AA G s.heap.size) s s.heap ∧ l.stackTraces = false ∧ (∀ x ∈ c.exceptionTable.toList, False)
/-- A PLACE IN A WALK: at pc, with these locals, this stack, this picture, the method comes to its end as owed -/
def PW (M : MD) (R : Room) (mc ms : Nat) (Post : Option Value → XS → Prop) (PT : String → XS → Prop) (pc : Nat) (L : List (Nat × Value)) (st : List Value) (x : XS) : Prop :=
  ∀ (p : Program) (l : Launch) (e : Env) (s : State) (m : MethodId) (args : Array Value) (below : List Frame) (meth : Method) (c : Code) (G : GG) (H : Heap) (locs : List Loc) (ls : Array Slot),
    CX M G p l s m args meth c → Holds G x H → va_S (AA G s.heap.size) s.heap H locs → lv_has ls M.2.2.1 (trL G L) →
    W p l e R s m args below meth c H locs 0 0 (vx_MQ below (QQ G s.heap.size Post) (XQ G s.heap.size PT) args s mc ms (AA G s.heap.size)) (F0 m pc ls (st.map (tr G)))
theorem AA_sub {G : GG} {a b : Nat} (h : a ≤ b) : ∀ q, AA G b q → AA G a q := fun q hq => hq.elim Or.inl (fun h2 => Or.inr (Nat.le_trans h h2))
theorem ws_good : GoodIn WS WS := fun w hw => ⟨hw, good_of_word (List.mem_filter.mp hw).2⟩
theorem tables_empty {a : Array ExceptionTableEntry} (h : a.isEmpty = true) : ∀ x ∈ a.toList, False := by
  intro x hx
  have h2 : a = #[] := by simpa using h
  rw [h2] at hx
  cases hx
set_option maxHeartbeats 2000000 in
/-- a contract out of the walk from the entry -/
theorem MM.of {M : MD} {d mc ms : Nat} {as : List Value} {x : XS} {Post : Option Value → XS → Prop} {PT : String → XS → Prop} (hy : plainName M.1.cls = true) (hn : (lg_sl as).length ≤ M.2.2.1)
    (h : PW M (RM d mc ms) mc ms Post PT 0 (lv_args 0 as) [] x) : MM M d mc ms as x Post PT := by
  intro l G sz hl hI
  refine MetFree.of_bodyS (code := M.2.1) (maxLocals := M.2.2.1) (ret := M.2.2.2) hy ?_ ?_
  · intro args s m h hn
    obtain ⟨meth, c, h1, h2, h3, h4, h5, h6, -, -⟩ := Cond.code_spec hn (atoms_spec (ws := (.code M.1 M.2.1 M.2.2.1 M.2.2.2 :: WS)) h _ List.mem_cons_self)
    exact ⟨meth, c, h1, h2, h3, h4, h5, h6⟩
  · intro p e s m args below meth c s₁ B hml hP _
    obtain ⟨rfl, hsz, hE, hX, hH⟩ := hP
    have hh0 : s₁.heap = s.heap := by rw [B.state]; rfl
    have hts := atoms_spec (ws := (.code M.1 M.2.1 M.2.2.1 M.2.2.2 :: WS)) B.pre
    subst hsz
    have hsl : lg_sl (as.map (tr G)) = (lg_sl as).map (fun q => match q with | .val v => .val (tr G v) | z => z) := by
      clear hn h hX hH hE hts hh0 B
      induction as with
      | nil => rfl
      | cons v vs ih =>
        have e1 : lg_sl ((v :: vs).map (tr G)) = (if (tr G v).category = 2 then [.val (tr G v), .second] else [.val (tr G v)]) ++ lg_sl (vs.map (tr G)) := rfl
        have e2 : lg_sl (v :: vs) = (if v.category = 2 then [.val v, .second] else [.val v]) ++ lg_sl vs := rfl
        rw [e1, e2, ih, tr_cat]
        by_cases h2 : v.category = 2
        · simp [h2]
        · simp [h2]
    have hlen : (lg_sl (as.map (tr G))).length ≤ M.2.2.1 := by rw [hsl, List.length_map]; exact hn
    have hls := lv_entry (as.map (tr G)) hlen
    have hw := h p l e s m (as.map (tr G)).toArray below meth c G s.heap [] _ ⟨B.exec, B.bytes, hml, findClass_of_methodNamed B.named, fun w hw => hts w (List.mem_cons_of_mem _ hw), hE, B.returns, B.notSynchronized, hI, hX, hl, tables_empty (BodyLoose.noHandlers B (hts _ List.mem_cons_self))⟩ hH va_S.rf (by rw [trL_args]; exact hls)
    rw [lg_entry_eq]
    obtain ⟨t, a1, o, b1, b2, b3⟩ := hw s₁ hh0 (Stand.of_body B)
    exact ⟨t, o, a1, b1, b2, b3⟩
/-- a local's value -/
def lg (L : List (Nat × Value)) (k : Nat) : Option Value := match L with
  | [] => none
  | q :: r => if q.1 == k then some q.2 else lg r k
theorem lg_mem : ∀ {L : List (Nat × Value)} {k : Nat} {v : Value}, lg L k = some v → (k, v) ∈ L
  | [], _, _, h => by cases h
  | q :: r, k, v, h => by
    unfold lg at h
    by_cases e : (q.1 == k) = true
    · rw [if_pos e] at h
      cases h
      have : q.1 = k := by simpa using e
      rw [← this]
      exact List.mem_cons_self
    · rw [if_neg e] at h
      exact List.mem_cons_of_mem _ (lg_mem h)
theorem lg_at {G : GG} {ls : Array Slot} {n : Nat} {L : List (Nat × Value)} {k : Nat} {v : Value} (h : lv_has ls n (trL G L)) (hk : lg L k = some v) : ls[k]? = some (.val (tr G v)) := h.2.2 (k, tr G v) (List.mem_map.mpr ⟨(k, v), lg_mem hk, rfl⟩)
/-- a local stored anew -/
def l1 (L : List (Nat × Value)) (i : Nat) (v : Value) : List (Nat × Value) := (i, v) :: L.filter (fun q => !(q.1 == i) && !(q.1 + 1 == i && q.2.category == 2))
def l2 (L : List (Nat × Value)) (i : Nat) (v : Value) : List (Nat × Value) := (i, v) :: L.filter (fun q => !(q.1 == i) && (!(q.1 == i + 1) && !(q.1 + 1 == i && q.2.category == 2)))
theorem trL_filter (G : GG) (f : Nat → Nat → Bool) : ∀ L : List (Nat × Value), trL G (L.filter (fun q => f q.1 q.2.category)) = (trL G L).filter (fun q => f q.1 q.2.category)
  | [] => rfl
  | q :: r => by
    have ih := trL_filter G f r
    show trL G (List.filter _ (q :: r)) = List.filter _ ((q.1, tr G q.2) :: trL G r)
    rw [List.filter_cons, List.filter_cons]
    show trL G (if f q.1 q.2.category = true then _ else _) = if f q.1 (tr G q.2).category = true then _ else _
    rw [tr_cat]
    by_cases h : f q.1 q.2.category = true
    · rw [if_pos h, if_pos h]
      show (q.1, tr G q.2) :: trL G _ = _
      rw [ih]
    · rw [if_neg h, if_neg h]
      exact ih
theorem trL_l1 (G : GG) (L : List (Nat × Value)) (i : Nat) (v : Value) : (i, tr G v) :: (trL G L).filter (fun q => !(q.1 == i) && !(q.1 + 1 == i && q.2.category == 2)) = trL G (l1 L i v) := by
  show _ = (i, tr G v) :: trL G _
  rw [trL_filter G (fun a b => !(a == i) && !(a + 1 == i && b == 2))]
theorem trL_l2 (G : GG) (L : List (Nat × Value)) (i : Nat) (v : Value) : (i, tr G v) :: (trL G L).filter (fun q => !(q.1 == i) && (!(q.1 == i + 1) && !(q.1 + 1 == i && q.2.category == 2))) = trL G (l2 L i v) := by
  show _ = (i, tr G v) :: trL G _
  rw [trL_filter G (fun a b => !(a == i) && (!(a == i + 1) && !(a + 1 == i && b == 2)))]
/-- fewer locals -/
def lsub (L' L : List (Nat × Value)) : Prop := match L' with
  | [] => True
  | q :: r => lg L q.1 = some q.2 ∧ lsub r L
theorem lsub_has {G : GG} {ls : Array Slot} {n : Nat} {L : List (Nat × Value)} (h : lv_has ls n (trL G L)) : ∀ {L' : List (Nat × Value)}, lsub L' L → lv_has ls n (trL G L')
  | [], _ => ⟨h.1, h.2.1, fun _ hq => by cases hq⟩
  | q :: r, hs => by
    have ih := lsub_has h hs.2
    refine ⟨h.1, h.2.1, fun z hz => ?_⟩
    rcases List.mem_cons.mp hz with rfl | hz
    · exact lg_at h hs.1
    · exact ih.2.2 z hz
section Rows
variable {M : MD} {R : Room} {mc ms : Nat} {Post : Option Value → XS → Prop} {PT : String → XS → Prop} {pc : Nat} {L : List (Nat × Value)} {st : List Value} {x : XS}
theorem PW.loc {L' : List (Nat × Value)} (h : lsub L' L) (k : PW M R mc ms Post PT pc L' st x) : PW M R mc ms Post PT pc L st x := fun p l e s m args below meth c G H locs ls C hH hS hL => k p l e s m args below meth c G H locs ls C hH hS (lsub_has hL h)
theorem PW.xeq {x' : XS} (h : x = x') (k : PW M R mc ms Post PT pc L st x') : PW M R mc ms Post PT pc L st x := by subst h; exact k
theorem PW.top {v v' : Value} (h : v = v') (k : PW M R mc ms Post PT pc L (v' :: st) x) : PW M R mc ms Post PT pc L (v :: st) x := by subst h; exact k
theorem PW.topi {v v' : Int32} (h : v = v') (k : PW M R mc ms Post PT pc L (.int v' :: st) x) : PW M R mc ms Post PT pc L (.int v :: st) x := by subst h; exact k
theorem PW.post {Post' : Option Value → XS → Prop} {PT' : String → XS → Prop} (h : ∀ v x', Post' v x' → Post v x') (ht : ∀ E x', PT' E x' → PT E x') (k : PW M R mc ms Post' PT' pc L st x) : PW M R mc ms Post PT pc L st x := by
  intro p l e s m args below meth c G H locs ls C hH hS hL T hT X
  obtain ⟨t, a1, o, b1, b2, b3⟩ := k p l e s m args below meth c G H locs ls C hH hS hL T hT X
  refine ⟨t, a1, o, b1, b2, ?_⟩
  rcases b3 with ⟨⟨⟨v, x', h1, h2, h3⟩, h4⟩, h5⟩ | ⟨q, h1, E, ce, LL, ⟨⟨x', h2, h3⟩, h4⟩, h5⟩
  · exact Or.inl ⟨⟨⟨v, x', h1, h v x' h2, h3⟩, h4⟩, h5⟩
  · exact Or.inr ⟨q, h1, E, ce, LL, ⟨⟨x', ht E x' h2, h3⟩, h4⟩, h5⟩
theorem r_iconst {n : Int} {v : Int32} (hd : decode M.2.1 pc = .ok (.iconst n, 1)) (hv : Int32.ofInt n = v) (k : PW M R mc ms Post PT (pc + 1) L (.int v :: st) x) : PW M R mc ms Post PT pc L (st) x := by
  intro p l e s m args below meth c G H locs ls C hH hS hL
  exact lv_iconst C.1 C.2.1 hd hv (k p l e s m args below meth c G H locs ls C hH hS hL)
theorem r_bipush {n : Int} {v : Int32} (hd : decode M.2.1 pc = .ok (.bipush n, 2)) (hv : (Int8.ofInt n).toInt32 = v) (k : PW M R mc ms Post PT (pc + 2) L (.int v :: st) x) : PW M R mc ms Post PT pc L (st) x := by
  intro p l e s m args below meth c G H locs ls C hH hS hL
  exact lv_bipush C.1 C.2.1 hd hv (k p l e s m args below meth c G H locs ls C hH hS hL)
theorem r_sipush {n : Int} {v : Int32} (hd : decode M.2.1 pc = .ok (.sipush n, 3)) (hv : (Int16.ofInt n).toInt32 = v) (k : PW M R mc ms Post PT (pc + 3) L (.int v :: st) x) : PW M R mc ms Post PT pc L (st) x := by
  intro p l e s m args below meth c G H locs ls C hH hS hL
  exact lv_sipush C.1 C.2.1 hd hv (k p l e s m args below meth c G H locs ls C hH hS hL)
theorem r_lconst {n : Fin 2} {v : Int64} (hd : decode M.2.1 pc = .ok (.lconst n, 1)) (hv : Int64.ofNat (n : Nat) = v) (k : PW M R mc ms Post PT (pc + 1) L (.long v :: st) x) : PW M R mc ms Post PT pc L (st) x := by
  intro p l e s m args below meth c G H locs ls C hH hS hL
  exact lv_lconst C.1 C.2.1 hd hv (k p l e s m args below meth c G H locs ls C hH hS hL)
theorem r_iload_n {k9 : Fin 4} {i : Nat} {v : Int32} (hd : decode M.2.1 pc = .ok (.iload_n k9, 1)) (hi : (k9 : Nat) = i) (hv : lg L i = some (.int v)) (k : PW M R mc ms Post PT (pc + 1) L (.int v :: st) x) : PW M R mc ms Post PT pc L (st) x := by
  intro p l e s m args below meth c G H locs ls C hH hS hL
  exact lv_iload_n C.1 C.2.1 hd hi (lg_at hL hv) (k p l e s m args below meth c G H locs ls C hH hS hL)
theorem r_iload {i : Nat} {v : Int32} (hd : decode M.2.1 pc = .ok (.iload i, 2)) (hv : lg L i = some (.int v)) (k : PW M R mc ms Post PT (pc + 2) L (.int v :: st) x) : PW M R mc ms Post PT pc L (st) x := by
  intro p l e s m args below meth c G H locs ls C hH hS hL
  exact lv_iload C.1 C.2.1 hd (lg_at hL hv) (k p l e s m args below meth c G H locs ls C hH hS hL)
theorem r_lload_n {k9 : Fin 4} {i : Nat} {v : Int64} (hd : decode M.2.1 pc = .ok (.lload_n k9, 1)) (hi : (k9 : Nat) = i) (hv : lg L i = some (.long v)) (k : PW M R mc ms Post PT (pc + 1) L (.long v :: st) x) : PW M R mc ms Post PT pc L (st) x := by
  intro p l e s m args below meth c G H locs ls C hH hS hL
  exact lv_lload_n C.1 C.2.1 hd hi (lg_at hL hv) (k p l e s m args below meth c G H locs ls C hH hS hL)
theorem r_lload {i : Nat} {v : Int64} (hd : decode M.2.1 pc = .ok (.lload i, 2)) (hv : lg L i = some (.long v)) (k : PW M R mc ms Post PT (pc + 2) L (.long v :: st) x) : PW M R mc ms Post PT pc L (st) x := by
  intro p l e s m args below meth c G H locs ls C hH hS hL
  exact lv_lload C.1 C.2.1 hd (lg_at hL hv) (k p l e s m args below meth c G H locs ls C hH hS hL)
theorem r_aload_n {k9 : Fin 4} {i v : Nat} (hd : decode M.2.1 pc = .ok (.aload_n k9, 1)) (hi : (k9 : Nat) = i) (hv : lg L i = some (.ref v)) (k : PW M R mc ms Post PT (pc + 1) L (.ref v :: st) x) : PW M R mc ms Post PT pc L (st) x := by
  intro p l e s m args below meth c G H locs ls C hH hS hL
  exact lv_aload_n C.1 C.2.1 hd hi (lg_at hL hv) (k p l e s m args below meth c G H locs ls C hH hS hL)
theorem r_aload {i v : Nat} (hd : decode M.2.1 pc = .ok (.aload i, 2)) (hv : lg L i = some (.ref v)) (k : PW M R mc ms Post PT (pc + 2) L (.ref v :: st) x) : PW M R mc ms Post PT pc L (st) x := by
  intro p l e s m args below meth c G H locs ls C hH hS hL
  exact lv_aload C.1 C.2.1 hd (lg_at hL hv) (k p l e s m args below meth c G H locs ls C hH hS hL)
theorem r_istore_n {k9 : Fin 4} {i : Nat} {v : Int32} (hd : decode M.2.1 pc = .ok (.istore_n k9, 1)) (hi : (k9 : Nat) = i) (hn : i < M.2.2.1) (k : PW M R mc ms Post PT (pc + 1) (l1 L i (.int v)) st x) : PW M R mc ms Post PT pc L (.int v :: st) x := by
  intro p l e s m args below meth c G H locs ls C hH hS hL
  exact lv_istore_n C.1 C.2.1 hd hi hL hn (trL_l1 G L i (.int v)) (fun ls2 hL2 => k p l e s m args below meth c G H locs ls2 C hH hS hL2)
theorem r_istore {i : Nat} {v : Int32} (hd : decode M.2.1 pc = .ok (.istore i, 2)) (hn : i < M.2.2.1) (k : PW M R mc ms Post PT (pc + 2) (l1 L i (.int v)) st x) : PW M R mc ms Post PT pc L (.int v :: st) x := by
  intro p l e s m args below meth c G H locs ls C hH hS hL
  exact lv_istore C.1 C.2.1 hd hL hn (trL_l1 G L i (.int v)) (fun ls2 hL2 => k p l e s m args below meth c G H locs ls2 C hH hS hL2)
theorem r_lstore_n {k9 : Fin 4} {i : Nat} {v : Int64} (hd : decode M.2.1 pc = .ok (.lstore_n k9, 1)) (hi : (k9 : Nat) = i) (hn : i + 1 < M.2.2.1) (k : PW M R mc ms Post PT (pc + 1) (l2 L i (.long v)) st x) : PW M R mc ms Post PT pc L (.long v :: st) x := by
  intro p l e s m args below meth c G H locs ls C hH hS hL
  exact lv_lstore_n C.1 C.2.1 hd hi hL hn (trL_l2 G L i (.long v)) (fun ls2 hL2 => k p l e s m args below meth c G H locs ls2 C hH hS hL2)
theorem r_lstore {i : Nat} {v : Int64} (hd : decode M.2.1 pc = .ok (.lstore i, 2)) (hn : i + 1 < M.2.2.1) (k : PW M R mc ms Post PT (pc + 2) (l2 L i (.long v)) st x) : PW M R mc ms Post PT pc L (.long v :: st) x := by
  intro p l e s m args below meth c G H locs ls C hH hS hL
  exact lv_lstore C.1 C.2.1 hd hL hn (trL_l2 G L i (.long v)) (fun ls2 hL2 => k p l e s m args below meth c G H locs ls2 C hH hS hL2)
theorem r_astore_n {k9 : Fin 4} {i : Nat} {v : Nat} (hd : decode M.2.1 pc = .ok (.astore_n k9, 1)) (hi : (k9 : Nat) = i) (hn : i < M.2.2.1) (k : PW M R mc ms Post PT (pc + 1) (l1 L i (.ref v)) st x) : PW M R mc ms Post PT pc L (.ref v :: st) x := by
  intro p l e s m args below meth c G H locs ls C hH hS hL
  exact lv_astore_n C.1 C.2.1 hd hi hL hn (trL_l1 G L i (.ref v)) (fun ls2 hL2 => k p l e s m args below meth c G H locs ls2 C hH hS hL2)
theorem r_astore {i : Nat} {v : Nat} (hd : decode M.2.1 pc = .ok (.astore i, 2)) (hn : i < M.2.2.1) (k : PW M R mc ms Post PT (pc + 2) (l1 L i (.ref v)) st x) : PW M R mc ms Post PT pc L (.ref v :: st) x := by
  intro p l e s m args below meth c G H locs ls C hH hS hL
  exact lv_astore C.1 C.2.1 hd hL hn (trL_l1 G L i (.ref v)) (fun ls2 hL2 => k p l e s m args below meth c G H locs ls2 C hH hS hL2)
theorem lg_idx : ∀ {L : List (Nat × Value)} {k : Nat} {v : Value}, lg L k = some v → ∃ j : Nat, L[j]? = some (k, v) := fun h => List.getElem?_of_mem (lg_mem h)
theorem r_iinc {i : Nat} {n : Int} {v w : Int32} (hd : decode M.2.1 pc = .ok (.iinc i n, 3)) (hv : lg L i = some (.int v)) (hw : v + Int32.ofInt n = w) (hn : i < M.2.2.1) (k : PW M R mc ms Post PT (pc + 3) (l1 L i (.int w)) st x) : PW M R mc ms Post PT pc L st x := by
  intro p l e s m args below meth c G H locs ls C hH hS hL
  obtain ⟨j, hj⟩ := lg_idx hv
  exact lv_iinc (k := j) C.1 C.2.1 hd hL (by unfold trL; rw [List.getElem?_map, hj]; rfl) hw hn (trL_l1 G L i (.int w)) (fun ls2 hL2 => k p l e s m args below meth c G H locs ls2 C hH hS hL2)
theorem r_iadd {a b : Int32} (hd : decode M.2.1 pc = .ok (.iadd, 1)) (k : PW M R mc ms Post PT (pc + 1) L (.int (a + b) :: st) x) : PW M R mc ms Post PT pc L (.int b :: .int a :: st) x := by
  intro p l e s m args below meth c G H locs ls C hH hS hL
  exact lv_iadd C.1 C.2.1 hd (k p l e s m args below meth c G H locs ls C hH hS hL)
theorem r_isub {a b : Int32} (hd : decode M.2.1 pc = .ok (.isub, 1)) (k : PW M R mc ms Post PT (pc + 1) L (.int (a - b) :: st) x) : PW M R mc ms Post PT pc L (.int b :: .int a :: st) x := by
  intro p l e s m args below meth c G H locs ls C hH hS hL
  exact lv_isub C.1 C.2.1 hd (k p l e s m args below meth c G H locs ls C hH hS hL)
theorem r_imul {a b : Int32} (hd : decode M.2.1 pc = .ok (.imul, 1)) (k : PW M R mc ms Post PT (pc + 1) L (.int (a * b) :: st) x) : PW M R mc ms Post PT pc L (.int b :: .int a :: st) x := by
  intro p l e s m args below meth c G H locs ls C hH hS hL
  exact lv_imul C.1 C.2.1 hd (k p l e s m args below meth c G H locs ls C hH hS hL)
theorem r_iand {a b : Int32} (hd : decode M.2.1 pc = .ok (.iand, 1)) (k : PW M R mc ms Post PT (pc + 1) L (.int (a &&& b) :: st) x) : PW M R mc ms Post PT pc L (.int b :: .int a :: st) x := by
  intro p l e s m args below meth c G H locs ls C hH hS hL
  exact lv_iand C.1 C.2.1 hd (k p l e s m args below meth c G H locs ls C hH hS hL)
theorem r_ior {a b : Int32} (hd : decode M.2.1 pc = .ok (.ior, 1)) (k : PW M R mc ms Post PT (pc + 1) L (.int (a ||| b) :: st) x) : PW M R mc ms Post PT pc L (.int b :: .int a :: st) x := by
  intro p l e s m args below meth c G H locs ls C hH hS hL
  exact lv_ior C.1 C.2.1 hd (k p l e s m args below meth c G H locs ls C hH hS hL)
theorem r_ixor {a b : Int32} (hd : decode M.2.1 pc = .ok (.ixor, 1)) (k : PW M R mc ms Post PT (pc + 1) L (.int (a ^^^ b) :: st) x) : PW M R mc ms Post PT pc L (.int b :: .int a :: st) x := by
  intro p l e s m args below meth c G H locs ls C hH hS hL
  exact lv_ixor C.1 C.2.1 hd (k p l e s m args below meth c G H locs ls C hH hS hL)
theorem r_ishl {a b : Int32} (hd : decode M.2.1 pc = .ok (.ishl, 1)) (k : PW M R mc ms Post PT (pc + 1) L (.int (a <<< (b &&& 31)) :: st) x) : PW M R mc ms Post PT pc L (.int b :: .int a :: st) x := by
  intro p l e s m args below meth c G H locs ls C hH hS hL
  exact lv_ishl C.1 C.2.1 hd (k p l e s m args below meth c G H locs ls C hH hS hL)
theorem r_ishr {a b : Int32} (hd : decode M.2.1 pc = .ok (.ishr, 1)) (k : PW M R mc ms Post PT (pc + 1) L (.int (a >>> (b &&& 31)) :: st) x) : PW M R mc ms Post PT pc L (.int b :: .int a :: st) x := by
  intro p l e s m args below meth c G H locs ls C hH hS hL
  exact lv_ishr C.1 C.2.1 hd (k p l e s m args below meth c G H locs ls C hH hS hL)
theorem r_idiv {a b : Int32} (hd : decode M.2.1 pc = .ok (.idiv, 1)) (hne : ¬ b = 0) (k : PW M R mc ms Post PT (pc + 1) L (.int (a / b) :: st) x) : PW M R mc ms Post PT pc L (.int b :: .int a :: st) x := by
  intro p l e s m args below meth c G H locs ls C hH hS hL
  exact lv_idiv C.1 C.2.1 hd hne (k p l e s m args below meth c G H locs ls C hH hS hL)
theorem r_irem {a b : Int32} (hd : decode M.2.1 pc = .ok (.irem, 1)) (hne : ¬ b = 0) (k : PW M R mc ms Post PT (pc + 1) L (.int (a - a / b * b) :: st) x) : PW M R mc ms Post PT pc L (.int b :: .int a :: st) x := by
  intro p l e s m args below meth c G H locs ls C hH hS hL
  exact lv_irem C.1 C.2.1 hd hne (k p l e s m args below meth c G H locs ls C hH hS hL)
theorem r_ineg {a : Int32} (hd : decode M.2.1 pc = .ok (.ineg, 1)) (k : PW M R mc ms Post PT (pc + 1) L (.int (-a) :: st) x) : PW M R mc ms Post PT pc L (.int a :: st) x := by
  intro p l e s m args below meth c G H locs ls C hH hS hL
  exact lv_ineg C.1 C.2.1 hd (k p l e s m args below meth c G H locs ls C hH hS hL)
theorem r_iushr {a b v : Int32} (hd : decode M.2.1 pc = .ok (.iushr, 1)) (hv : (a.toUInt32 >>> (b.toUInt32 &&& Int32.toUInt32 31)).toInt32 = v) (k : PW M R mc ms Post PT (pc + 1) L (.int v :: st) x) : PW M R mc ms Post PT pc L (.int b :: .int a :: st) x := by
  intro p l e s m args below meth c G H locs ls C hH hS hL
  exact lv_iushr C.1 C.2.1 hd hv (k p l e s m args below meth c G H locs ls C hH hS hL)
theorem r_i2l {a : Int32} (hd : decode M.2.1 pc = .ok (.i2l, 1)) (k : PW M R mc ms Post PT (pc + 1) L (.long a.toInt64 :: st) x) : PW M R mc ms Post PT pc L (.int a :: st) x := by
  intro p l e s m args below meth c G H locs ls C hH hS hL
  exact lv_i2l C.1 C.2.1 hd rfl (k p l e s m args below meth c G H locs ls C hH hS hL)
theorem r_i2c {a v : Int32} (hd : decode M.2.1 pc = .ok (.i2c, 1)) (hv : (a.toUInt32 % 65536).toInt32 = v) (k : PW M R mc ms Post PT (pc + 1) L (.int v :: st) x) : PW M R mc ms Post PT pc L (.int a :: st) x := by
  intro p l e s m args below meth c G H locs ls C hH hS hL
  exact lv_i2c C.1 C.2.1 hd hv (k p l e s m args below meth c G H locs ls C hH hS hL)
theorem r_ladd {a b : Int64} (hd : decode M.2.1 pc = .ok (.ladd, 1)) (k : PW M R mc ms Post PT (pc + 1) L (.long (a + b) :: st) x) : PW M R mc ms Post PT pc L (.long b :: .long a :: st) x := by
  intro p l e s m args below meth c G H locs ls C hH hS hL
  exact lv_ladd C.1 C.2.1 hd (k p l e s m args below meth c G H locs ls C hH hS hL)
theorem r_lsub {a b : Int64} (hd : decode M.2.1 pc = .ok (.lsub, 1)) (k : PW M R mc ms Post PT (pc + 1) L (.long (a - b) :: st) x) : PW M R mc ms Post PT pc L (.long b :: .long a :: st) x := by
  intro p l e s m args below meth c G H locs ls C hH hS hL
  exact lv_lsub C.1 C.2.1 hd (k p l e s m args below meth c G H locs ls C hH hS hL)
theorem r_lmul {a b : Int64} (hd : decode M.2.1 pc = .ok (.lmul, 1)) (k : PW M R mc ms Post PT (pc + 1) L (.long (a * b) :: st) x) : PW M R mc ms Post PT pc L (.long b :: .long a :: st) x := by
  intro p l e s m args below meth c G H locs ls C hH hS hL
  exact lv_lmul C.1 C.2.1 hd (k p l e s m args below meth c G H locs ls C hH hS hL)
theorem r_ldiv {a b : Int64} (hd : decode M.2.1 pc = .ok (.ldiv, 1)) (hne : ¬ b = 0) (k : PW M R mc ms Post PT (pc + 1) L (.long (a / b) :: st) x) : PW M R mc ms Post PT pc L (.long b :: .long a :: st) x := by
  intro p l e s m args below meth c G H locs ls C hH hS hL
  exact lv_ldiv C.1 C.2.1 hd hne (k p l e s m args below meth c G H locs ls C hH hS hL)
theorem r_lrem {a b : Int64} (hd : decode M.2.1 pc = .ok (.lrem, 1)) (hne : ¬ b = 0) (k : PW M R mc ms Post PT (pc + 1) L (.long (a - a / b * b) :: st) x) : PW M R mc ms Post PT pc L (.long b :: .long a :: st) x := by
  intro p l e s m args below meth c G H locs ls C hH hS hL
  exact lv_lrem C.1 C.2.1 hd hne (k p l e s m args below meth c G H locs ls C hH hS hL)
theorem r_lshl {a v : Int64} {b : Int32} (hd : decode M.2.1 pc = .ok (.lshl, 1)) (hv : a <<< (b.toInt64 &&& 63) = v) (k : PW M R mc ms Post PT (pc + 1) L (.long v :: st) x) : PW M R mc ms Post PT pc L (.int b :: .long a :: st) x := by
  intro p l e s m args below meth c G H locs ls C hH hS hL
  exact lv_lshl C.1 C.2.1 hd hv (k p l e s m args below meth c G H locs ls C hH hS hL)
theorem r_lcmp {a b : Int64} (hd : decode M.2.1 pc = .ok (.lcmp, 1)) (k : PW M R mc ms Post PT (pc + 1) L (.int (lg_cmp a b) :: st) x) : PW M R mc ms Post PT pc L (.long b :: .long a :: st) x := by
  intro p l e s m args below meth c G H locs ls C hH hS hL
  exact W.lcmp C.1 C.2.1 hd (k p l e s m args below meth c G H locs ls C hH hS hL)
theorem r_dup {a : Value} (hd : decode M.2.1 pc = .ok (.dup, 1)) (ha : a.category = 1) (k : PW M R mc ms Post PT (pc + 1) L (a :: a :: st) x) : PW M R mc ms Post PT pc L (a :: st) x := by
  intro p l e s m args below meth c G H locs ls C hH hS hL
  exact lv_dup C.1 C.2.1 hd (by rw [tr_cat]; exact ha) (k p l e s m args below meth c G H locs ls C hH hS hL)
theorem r_pop {a : Value} (hd : decode M.2.1 pc = .ok (.pop, 1)) (ha : a.category = 1) (k : PW M R mc ms Post PT (pc + 1) L (st) x) : PW M R mc ms Post PT pc L (a :: st) x := by
  intro p l e s m args below meth c G H locs ls C hH hS hL
  exact lv_pop C.1 C.2.1 hd (by rw [tr_cat]; exact ha) (k p l e s m args below meth c G H locs ls C hH hS hL)
theorem r_dup_x1 {a b : Value} (hd : decode M.2.1 pc = .ok (.dup_x1, 1)) (ha : a.category = 1) (hb : b.category = 1) (k : PW M R mc ms Post PT (pc + 1) L (a :: b :: a :: st) x) : PW M R mc ms Post PT pc L (a :: b :: st) x := by
  intro p l e s m args below meth c G H locs ls C hH hS hL
  exact lv_dup_x1 C.1 C.2.1 hd (by rw [tr_cat]; exact ha) (by rw [tr_cat]; exact hb) (k p l e s m args below meth c G H locs ls C hH hS hL)
theorem r_dup_x2 {a b d : Value} (hd : decode M.2.1 pc = .ok (.dup_x2, 1)) (ha : a.category = 1) (hb : b.category = 1) (hd2 : d.category = 1) (k : PW M R mc ms Post PT (pc + 1) L (a :: b :: d :: a :: st) x) : PW M R mc ms Post PT pc L (a :: b :: d :: st) x := by
  intro p l e s m args below meth c G H locs ls C hH hS hL
  exact lv_dup_x2 C.1 C.2.1 hd (by rw [tr_cat]; exact ha) (by rw [tr_cat]; exact hb) (by rw [tr_cat]; exact hd2) (k p l e s m args below meth c G H locs ls C hH hS hL)
theorem r_dup2 {a b : Value} (hd : decode M.2.1 pc = .ok (.dup2, 1)) (ha : a.category = 1) (hb : b.category = 1) (k : PW M R mc ms Post PT (pc + 1) L (a :: b :: a :: b :: st) x) : PW M R mc ms Post PT pc L (a :: b :: st) x := by
  intro p l e s m args below meth c G H locs ls C hH hS hL
  exact lv_dup2_11 C.1 C.2.1 hd (by rw [tr_cat]; exact ha) (by rw [tr_cat]; exact hb) (k p l e s m args below meth c G H locs ls C hH hS hL)
theorem r_if_eq {a : Int32} {off : Int} {tgt : Nat} (hd : decode M.2.1 pc = .ok (.ifCond .eq off, 3)) (ht : (pc : Int) + off = (tgt : Int)) (kt : a = 0 → PW M R mc ms Post PT tgt L st x) (kf : ¬ a = 0 → PW M R mc ms Post PT (pc + 3) L st x) : PW M R mc ms Post PT pc L (.int a :: st) x := by
  intro p l e s m args below meth c G H locs ls C hH hS hL
  exact lv_if_eq C.1 C.2.1 hd ht (fun h => kt h p l e s m args below meth c G H locs ls C hH hS hL) (fun h => kf h p l e s m args below meth c G H locs ls C hH hS hL)
theorem r_icmp_eq {a b : Int32} {off : Int} {tgt : Nat} (hd : decode M.2.1 pc = .ok (.if_icmp .eq off, 3)) (ht : (pc : Int) + off = (tgt : Int)) (kt : a = b → PW M R mc ms Post PT tgt L st x) (kf : ¬ a = b → PW M R mc ms Post PT (pc + 3) L st x) : PW M R mc ms Post PT pc L (.int b :: .int a :: st) x := by
  intro p l e s m args below meth c G H locs ls C hH hS hL
  exact lv_icmp_eq C.1 C.2.1 hd ht (fun h => kt h p l e s m args below meth c G H locs ls C hH hS hL) (fun h => kf h p l e s m args below meth c G H locs ls C hH hS hL)
theorem r_if_ne {a : Int32} {off : Int} {tgt : Nat} (hd : decode M.2.1 pc = .ok (.ifCond .ne off, 3)) (ht : (pc : Int) + off = (tgt : Int)) (kt : ¬ a = 0 → PW M R mc ms Post PT tgt L st x) (kf : a = 0 → PW M R mc ms Post PT (pc + 3) L st x) : PW M R mc ms Post PT pc L (.int a :: st) x := by
  intro p l e s m args below meth c G H locs ls C hH hS hL
  exact lv_if_ne C.1 C.2.1 hd ht (fun h => kt h p l e s m args below meth c G H locs ls C hH hS hL) (fun h => kf h p l e s m args below meth c G H locs ls C hH hS hL)
theorem r_icmp_ne {a b : Int32} {off : Int} {tgt : Nat} (hd : decode M.2.1 pc = .ok (.if_icmp .ne off, 3)) (ht : (pc : Int) + off = (tgt : Int)) (kt : ¬ a = b → PW M R mc ms Post PT tgt L st x) (kf : a = b → PW M R mc ms Post PT (pc + 3) L st x) : PW M R mc ms Post PT pc L (.int b :: .int a :: st) x := by
  intro p l e s m args below meth c G H locs ls C hH hS hL
  exact lv_icmp_ne C.1 C.2.1 hd ht (fun h => kt h p l e s m args below meth c G H locs ls C hH hS hL) (fun h => kf h p l e s m args below meth c G H locs ls C hH hS hL)
theorem r_if_lt {a : Int32} {off : Int} {tgt : Nat} (hd : decode M.2.1 pc = .ok (.ifCond .lt off, 3)) (ht : (pc : Int) + off = (tgt : Int)) (kt : a < 0 → PW M R mc ms Post PT tgt L st x) (kf : ¬ a < 0 → PW M R mc ms Post PT (pc + 3) L st x) : PW M R mc ms Post PT pc L (.int a :: st) x := by
  intro p l e s m args below meth c G H locs ls C hH hS hL
  exact lv_if_lt C.1 C.2.1 hd ht (fun h => kt h p l e s m args below meth c G H locs ls C hH hS hL) (fun h => kf h p l e s m args below meth c G H locs ls C hH hS hL)
theorem r_icmp_lt {a b : Int32} {off : Int} {tgt : Nat} (hd : decode M.2.1 pc = .ok (.if_icmp .lt off, 3)) (ht : (pc : Int) + off = (tgt : Int)) (kt : a < b → PW M R mc ms Post PT tgt L st x) (kf : ¬ a < b → PW M R mc ms Post PT (pc + 3) L st x) : PW M R mc ms Post PT pc L (.int b :: .int a :: st) x := by
  intro p l e s m args below meth c G H locs ls C hH hS hL
  exact lv_icmp_lt C.1 C.2.1 hd ht (fun h => kt h p l e s m args below meth c G H locs ls C hH hS hL) (fun h => kf h p l e s m args below meth c G H locs ls C hH hS hL)
theorem r_if_ge {a : Int32} {off : Int} {tgt : Nat} (hd : decode M.2.1 pc = .ok (.ifCond .ge off, 3)) (ht : (pc : Int) + off = (tgt : Int)) (kt : 0 ≤ a → PW M R mc ms Post PT tgt L st x) (kf : ¬ 0 ≤ a → PW M R mc ms Post PT (pc + 3) L st x) : PW M R mc ms Post PT pc L (.int a :: st) x := by
  intro p l e s m args below meth c G H locs ls C hH hS hL
  exact lv_if_ge C.1 C.2.1 hd ht (fun h => kt h p l e s m args below meth c G H locs ls C hH hS hL) (fun h => kf h p l e s m args below meth c G H locs ls C hH hS hL)
theorem r_icmp_ge {a b : Int32} {off : Int} {tgt : Nat} (hd : decode M.2.1 pc = .ok (.if_icmp .ge off, 3)) (ht : (pc : Int) + off = (tgt : Int)) (kt : b ≤ a → PW M R mc ms Post PT tgt L st x) (kf : ¬ b ≤ a → PW M R mc ms Post PT (pc + 3) L st x) : PW M R mc ms Post PT pc L (.int b :: .int a :: st) x := by
  intro p l e s m args below meth c G H locs ls C hH hS hL
  exact lv_icmp_ge C.1 C.2.1 hd ht (fun h => kt h p l e s m args below meth c G H locs ls C hH hS hL) (fun h => kf h p l e s m args below meth c G H locs ls C hH hS hL)
theorem r_if_gt {a : Int32} {off : Int} {tgt : Nat} (hd : decode M.2.1 pc = .ok (.ifCond .gt off, 3)) (ht : (pc : Int) + off = (tgt : Int)) (kt : 0 < a → PW M R mc ms Post PT tgt L st x) (kf : ¬ 0 < a → PW M R mc ms Post PT (pc + 3) L st x) : PW M R mc ms Post PT pc L (.int a :: st) x := by
  intro p l e s m args below meth c G H locs ls C hH hS hL
  exact lv_if_gt C.1 C.2.1 hd ht (fun h => kt h p l e s m args below meth c G H locs ls C hH hS hL) (fun h => kf h p l e s m args below meth c G H locs ls C hH hS hL)
theorem r_icmp_gt {a b : Int32} {off : Int} {tgt : Nat} (hd : decode M.2.1 pc = .ok (.if_icmp .gt off, 3)) (ht : (pc : Int) + off = (tgt : Int)) (kt : b < a → PW M R mc ms Post PT tgt L st x) (kf : ¬ b < a → PW M R mc ms Post PT (pc + 3) L st x) : PW M R mc ms Post PT pc L (.int b :: .int a :: st) x := by
  intro p l e s m args below meth c G H locs ls C hH hS hL
  exact lv_icmp_gt C.1 C.2.1 hd ht (fun h => kt h p l e s m args below meth c G H locs ls C hH hS hL) (fun h => kf h p l e s m args below meth c G H locs ls C hH hS hL)
theorem r_if_le {a : Int32} {off : Int} {tgt : Nat} (hd : decode M.2.1 pc = .ok (.ifCond .le off, 3)) (ht : (pc : Int) + off = (tgt : Int)) (kt : a ≤ 0 → PW M R mc ms Post PT tgt L st x) (kf : ¬ a ≤ 0 → PW M R mc ms Post PT (pc + 3) L st x) : PW M R mc ms Post PT pc L (.int a :: st) x := by
  intro p l e s m args below meth c G H locs ls C hH hS hL
  exact lv_if_le C.1 C.2.1 hd ht (fun h => kt h p l e s m args below meth c G H locs ls C hH hS hL) (fun h => kf h p l e s m args below meth c G H locs ls C hH hS hL)
theorem r_icmp_le {a b : Int32} {off : Int} {tgt : Nat} (hd : decode M.2.1 pc = .ok (.if_icmp .le off, 3)) (ht : (pc : Int) + off = (tgt : Int)) (kt : a ≤ b → PW M R mc ms Post PT tgt L st x) (kf : ¬ a ≤ b → PW M R mc ms Post PT (pc + 3) L st x) : PW M R mc ms Post PT pc L (.int b :: .int a :: st) x := by
  intro p l e s m args below meth c G H locs ls C hH hS hL
  exact lv_icmp_le C.1 C.2.1 hd ht (fun h => kt h p l e s m args below meth c G H locs ls C hH hS hL) (fun h => kf h p l e s m args below meth c G H locs ls C hH hS hL)
theorem r_goto {off : Int} {tgt : Nat} (hd : decode M.2.1 pc = .ok (.goto off, 3)) (ht : (pc : Int) + off = (tgt : Int)) (k : PW M R mc ms Post PT tgt L st x) : PW M R mc ms Post PT pc L st x := by
  intro p l e s m args below meth c G H locs ls C hH hS hL
  exact lv_goto C.1 C.2.1 hd ht (k p l e s m args below meth c G H locs ls C hH hS hL)
theorem r_lookup {dflt : Int} {ps : Array (Int × Int)} {len : Nat} {a : Int32} {off : Int} {tgt : Nat} (hd : decode M.2.1 pc = .ok (.lookupswitch dflt ps, len)) (hp : (ps.toList.zip (ps.toList.drop 1)).all (fun (a, next) => a.1 < next.1) = true) (ho : Op.lookupswitch.offset ps.toList dflt a.toInt = off) (ht : (pc : Int) + off = (tgt : Int)) (k : PW M R mc ms Post PT tgt L st x) : PW M R mc ms Post PT pc L (.int a :: st) x := by
  intro p l e s m args below meth c G H locs ls C hH hS hL
  exact lv_lookup C.1 C.2.1 hd hp ho ht (k p l e s m args below meth c G H locs ls C hH hS hL)
theorem r_tableIn {dflt lo hi : Int} {offs : Array Int} {len : Nat} {a : Int32} {off : Int} {tgt : Nat} (hd : decode M.2.1 pc = .ok (.tableswitch dflt lo hi offs, len)) (h1 : ¬ a.toInt < lo) (h2 : ¬ hi < a.toInt) (ho : offs[(a.toInt - lo).toNat]? = some off) (ht : (pc : Int) + off = (tgt : Int)) (k : PW M R mc ms Post PT tgt L st x) : PW M R mc ms Post PT pc L (.int a :: st) x := by
  intro p l e s m args below meth c G H locs ls C hH hS hL
  exact lv_tableIn C.1 C.2.1 hd h1 h2 ho ht (k p l e s m args below meth c G H locs ls C hH hS hL)
theorem r_tableOut {dflt lo hi : Int} {offs : Array Int} {len : Nat} {a : Int32} {tgt : Nat} (hd : decode M.2.1 pc = .ok (.tableswitch dflt lo hi offs, len)) (h : a.toInt < lo ∨ hi < a.toInt) (ht : (pc : Int) + dflt = (tgt : Int)) (k : PW M R mc ms Post PT tgt L st x) : PW M R mc ms Post PT pc L (.int a :: st) x := by
  intro p l e s m args below meth c G H locs ls C hH hS hL
  exact lv_tableOut C.1 C.2.1 hd h ht (k p l e s m args below meth c G H locs ls C hH hS hL)
theorem r_ldc {i : Nat} {v : Int32} (hw : Cond.constant M.1.cls i v ∈ WS) (hd : decode M.2.1 pc = .ok (.ldc i, 2)) (k : PW M R mc ms Post PT (pc + 2) L (.int v :: st) x) : PW M R mc ms Post PT pc L st x := by
  intro p l e s m args below meth c G H locs ls C hH hS hL
  exact lv_ldc C.1 C.2.1 C.2.2.2.1 (C.2.2.2.2.1 _ hw) hd (k p l e s m args below meth c G H locs ls C hH hS hL)
theorem r_ldcw {i : Nat} {v : Int32} (hw : Cond.constant M.1.cls i v ∈ WS) (hd : decode M.2.1 pc = .ok (.ldc_w i, 3)) (k : PW M R mc ms Post PT (pc + 3) L (.int v :: st) x) : PW M R mc ms Post PT pc L st x := by
  intro p l e s m args below meth c G H locs ls C hH hS hL
  exact lv_ldcw C.1 C.2.1 C.2.2.2.1 (C.2.2.2.2.1 _ hw) hd (k p l e s m args below meth c G H locs ls C hH hS hL)
theorem r_ldc2 {i : Nat} {v : Int64} (hw : Cond.constantLong M.1.cls i v ∈ WS) (hd : decode M.2.1 pc = .ok (.ldc2_w i, 3)) (k : PW M R mc ms Post PT (pc + 3) L (.long v :: st) x) : PW M R mc ms Post PT pc L st x := by
  intro p l e s m args below meth c G H locs ls C hH hS hL
  exact lv_ldc2 C.1 C.2.1 C.2.2.2.1 (C.2.2.2.2.1 _ hw) hd (k p l e s m args below meth c G H locs ls C hH hS hL)
end Rows
section Rets
variable {M : MD} {R : Room} {Post : Option Value → XS → Prop} {PT : String → XS → Prop} {pc : Nat} {L : List (Nat × Value)} {st : List Value} {x : XS}
theorem r_iret {v : Int32} (hr : M.2.2.2 = some .int) (hd : decode M.2.1 pc = .ok (.ireturn, 1)) (hp : Post (some (.int v)) x) : PW M R 0 0 Post PT pc L [.int v] x := by
  intro p l e s m args below meth c G H locs ls C hH hS hL
  have hlocks : meth.locks = false := C.2.2.2.2.2.2.2.1
  exact vx_ret (W.iret C.1 C.2.1 (C.2.2.2.2.2.2.1.trans hr) (fun t ht hW => ⟨⟨some (.int v), x, rfl, hp, by rw [ht]; exact hH⟩, hS.F ht⟩) hS.2.2 hd)
theorem r_zret {v : Int32} (hr : M.2.2.2 = some .boolean) (hv : v = 0 ∨ v = 1) (hd : decode M.2.1 pc = .ok (.ireturn, 1)) (hp : Post (some (.int v)) x) : PW M R 0 0 Post PT pc L [.int v] x := by
  intro p l e s m args below meth c G H locs ls C hH hS hL
  have hlocks : meth.locks = false := C.2.2.2.2.2.2.2.1
  exact vx_ret (W.zret C.1 C.2.1 (C.2.2.2.2.2.2.1.trans hr) (by rcases hv with rfl | rfl <;> decide) (fun t ht hW => ⟨⟨some (.int v), x, rfl, hp, by rw [ht]; exact hH⟩, hS.F ht⟩) hS.2.2 hd)
theorem r_lret {v : Int64} (hr : M.2.2.2 = some .long) (hd : decode M.2.1 pc = .ok (.lreturn, 1)) (hp : Post (some (.long v)) x) : PW M R 0 0 Post PT pc L [.long v] x := by
  intro p l e s m args below meth c G H locs ls C hH hS hL
  have hlocks : meth.locks = false := C.2.2.2.2.2.2.2.1
  exact vx_ret (W.lret C.1 C.2.1 (C.2.2.2.2.2.2.1.trans hr) (fun t ht hW => ⟨⟨some (.long v), x, rfl, hp, by rw [ht]; exact hH⟩, hS.F ht⟩) hS.2.2 hd)
theorem r_ret (hr : M.2.2.2 = none) (hd : decode M.2.1 pc = .ok (.return_, 1)) (hp : Post none x) : PW M R 0 0 Post PT pc L [] x := by
  intro p l e s m args below meth c G H locs ls C hH hS hL
  have hlocks : meth.locks = false := C.2.2.2.2.2.2.2.1
  exact vx_ret (W.vret C.1 C.2.1 (C.2.2.2.2.2.2.1.trans hr) (fun t ht hW => ⟨⟨none, x, rfl, hp, by rw [ht]; exact hH⟩, hS.F ht⟩) hS.2.2 hd)
theorem r_aret {v : Nat} {n : String} (hr : M.2.2.2 = some (.object n)) (hd : decode M.2.1 pc = .ok (.areturn, 1)) (hp : Post (some (.ref v)) x) : PW M R 0 0 Post PT pc L [.ref v] x := by
  intro p l e s m args below meth c G H locs ls C hH hS hL
  have hlocks : meth.locks = false := C.2.2.2.2.2.2.2.1
  exact vx_ret (W.aret C.1 C.2.1 (C.2.2.2.2.2.2.1.trans hr) (Or.inl ⟨n, rfl⟩) (Or.inr ⟨_, rfl⟩) (fun t ht hW => ⟨⟨some (.ref v), x, rfl, hp, by rw [ht]; exact hH⟩, hS.F ht⟩) hS.2.2 hd)
end Rets
/-! one cell of the picture as a world of its own -/
theorem Holds.one {G : GG} {x : XS} {H : Heap} (h : Holds G x H) {c : Nat} (hc : c < NC) : va_P (gD G) vwCl [(gA G c, ent G x c)] H := by
  intro k q hk
  have h0 : k < 1 := (List.getElem?_eq_some_iff.mp hk).1
  rw [show k = 0 by omega] at hk
  cases hk
  exact h c hc
theorem one_D {G : GG} {A : Nat → Prop} {c : Nat} {e : va_E} (hA : A (gA G c)) : va_D A [(gA G c, e)] := by
  refine ⟨fun i j p q hi hj _ => ?_, fun k q hk => ?_⟩
  · have h1 : i < 1 := (List.getElem?_eq_some_iff.mp hi).1
    have h2 : j < 1 := (List.getElem?_eq_some_iff.mp hj).1
    omega
  · have h0 : k < 1 := (List.getElem?_eq_some_iff.mp hk).1
    rw [show k = 0 by omega] at hk
    cases hk
    exact hA
theorem AA_in {G : GG} {sz c : Nat} (hc : c < NC) : AA G sz (gA G c) := Or.inl ⟨c, hc, rfl⟩
/-- only the cell c has changed -/
theorem Holds.set {G : GG} {x x' : XS} {H H1 : Heap} (hI : Inj G) (h : Holds G x H) {c : Nat} (hc : c < NC) (h1 : va_at (gD G) vwCl (gA G c, ent G x' c) H1) (hx : ∀ j, j < NC → j ≠ c → ent G x' j = ent G x j) (hq : ∀ q : Nat, q ≠ gA G c → H1[q]? = H[q]?) : Holds G x' H1 := by
  intro j hj
  by_cases e : j = c
  · rw [e]; exact h1
  · rw [hx j hj e]
    exact (h j hj).kept (hq _ (fun z => e (hI j c hj hc z)))
theorem ent_xr {G : GG} {x : XS} {c j : Nat} {f : Nat → Int32} (h : j ≠ c) : ent G (xr x c f) j = ent G x j := by
  have e1 : xr x c f j = x j := xr_n h
  have e2 : fv G (xr x c f) j = fv G x j := by funext k o; cases o <;> simp [fv, e1]
  unfold ent
  rw [e1, e2]
theorem ent_obj {G : GG} {x : XS} {c ci : Nat} {t : List (Option Nat)} (h : lay c = .inl (ci, t)) : ent G x c = .inr (ci, t.mapIdx (fv G x c)) := by unfold ent; rw [h]
theorem ent_ints {G : GG} {x : XS} {c n : Nat} (h : lay c = .inr (.inl n)) : ent G x c = .inl (gC G 0, n, .inl (x c)) := by unfold ent; rw [h]
theorem ent_refs {G : GG} {x : XS} {c k : Nat} {ids : List Nat} (h : lay c = .inr (.inr (k, ids))) : ent G x c = .inl (gC G (k + 1), ids.length, .inr (.inr (.inr (.inr (fun i => (ids[i]?).map (gA G)))))) := by unfold ent; rw [h]
theorem nc_obj {c : Nat} {e : Nat × List (Option Nat)} (h : lay c = .inl e) : c < NC := by
  by_cases hc : c < layL.length
  · rw [← layL_len]; exact hc
  · exfalso
    unfold lay at h
    rw [List.getD_eq_getElem?_getD, List.getElem?_eq_none (by omega)] at h
    cases h
theorem nc_ints {c n : Nat} (h : lay c = .inr (.inl n)) (hn : 0 < n) : c < NC := by
  by_cases hc : c < layL.length
  · rw [← layL_len]; exact hc
  · exfalso
    unfold lay at h
    rw [List.getD_eq_getElem?_getD, List.getElem?_eq_none (by omega)] at h
    cases h
    omega
theorem nc_refs {c : Nat} {e : Nat × List Nat} (h : lay c = .inr (.inr e)) : c < NC := by
  by_cases hc : c < layL.length
  · rw [← layL_len]; exact hc
  · exfalso
    unfold lay at h
    rw [List.getD_eq_getElem?_getD, List.getElem?_eq_none (by omega)] at h
    cases h
/-- what a field of the cell c holds, in the picture's words -/
def fo (x : XS) (c k : Nat) (t : List (Option Nat)) : Option Value := match t[k]? with
  | none => none
  | some none => some (.int (x c k))
  | some (some d) => some (.ref d)
theorem fo_tr {G : GG} {x : XS} {c k : Nat} {t : List (Option Nat)} {v : Value} (h : fo x c k t = some v) : (t.mapIdx (fv G x c))[k]? = some (tr G v) := by
  rw [List.getElem?_mapIdx]
  unfold fo at h
  cases ht : t[k]? with
  | none => rw [ht] at h; cases h
  | some o =>
    rw [ht] at h
    cases o with
    | none => cases h; rfl
    | some d => cases h; rfl
theorem set_fv {G : GG} {x : XS} {c k : Nat} {t : List (Option Nat)} {v : Int32} (h : t[k]? = some none) : (t.mapIdx (fv G x c)).set k (.int v) = t.mapIdx (fv G (xu x c k v) c) := by
  apply List.ext_getElem?
  intro i
  rw [List.getElem?_mapIdx]
  by_cases e : i = k
  · subst e
    have hl : i < (t.mapIdx (fv G x c)).length := by rw [List.length_mapIdx]; exact (List.getElem?_eq_some_iff.mp h).1
    rw [List.getElem?_set_self hl, h]
    show some (Value.int v) = some (Value.int (xu x c i v c i))
    rw [xu_s]
  · rw [List.getElem?_set_ne (Ne.symm e), List.getElem?_mapIdx]
    cases ht : t[i]? with
    | none => rfl
    | some o =>
      cases o with
      | none =>
        show some (Value.int (x c i)) = some (Value.int (xu x c k v c i))
        rw [xu_k e]
      | some d => rfl
/-- the whole picture as a world -/
def wl (G : GG) (x : XS) : va_W := (List.range NC).map (fun c => (gA G c, ent G x c))
theorem wl_get {G : GG} {x : XS} {c : Nat} (h : c < NC) : (wl G x)[c]? = some (gA G c, ent G x c) := by
  unfold wl
  rw [List.getElem?_map, List.getElem?_range h]
  rfl
theorem wl_len (G : GG) (x : XS) : (wl G x).length = NC := by unfold wl; rw [List.length_map, List.length_range]
theorem wl_at {G : GG} {x : XS} {k : Nat} {q : Nat × va_E} (h : (wl G x)[k]? = some q) : k < NC ∧ q = (gA G k, ent G x k) := by
  have hk : k < NC := by rw [← wl_len G x]; exact (List.getElem?_eq_some_iff.mp h).1
  rw [wl_get hk] at h
  cases h
  exact ⟨hk, rfl⟩
theorem Holds.P {G : GG} {x : XS} {H : Heap} (h : Holds G x H) : va_P (gD G) vwCl (wl G x) H := by
  intro k q hk
  obtain ⟨h1, rfl⟩ := wl_at hk
  exact h k h1
theorem Holds.of {G : GG} {x : XS} {H : Heap} (h : va_P (gD G) vwCl (wl G x) H) : Holds G x H := fun c hc => h c _ (wl_get hc)
theorem wl_D {G : GG} {x : XS} {sz : Nat} (hI : Inj G) : va_D (AA G sz) (wl G x) := by
  refine ⟨fun i j p q hi hj hpq => ?_, fun k q hk => ?_⟩
  · obtain ⟨h1, rfl⟩ := wl_at hi
    obtain ⟨h2, rfl⟩ := wl_at hj
    exact hI i j h1 h2 hpq
  · obtain ⟨h1, rfl⟩ := wl_at hk
    exact AA_in h1
theorem wl_set {G : GG} {x x' : XS} {c : Nat} (hc : c < NC) (hx : ∀ j, j < NC → j ≠ c → ent G x' j = ent G x j) : (wl G x).set c (gA G c, ent G x' c) = wl G x' := by
  apply List.ext_getElem?
  intro i
  by_cases e : i = c
  · subst e
    rw [List.getElem?_set_self (by rw [wl_len]; exact hc), wl_get hc]
  · rw [List.getElem?_set_ne (Ne.symm e)]
    by_cases hi : i < NC
    · rw [wl_get hi, wl_get hi, hx i hi e]
    · rw [List.getElem?_eq_none (by rw [wl_len]; omega), List.getElem?_eq_none (by rw [wl_len]; omega)]
section Cells
variable {M : MD} {R : Room} {mc ms : Nat} {Post : Option Value → XS → Prop} {PT : String → XS → Prop} {pc : Nat} {L : List (Nat × Value)} {st : List Value} {x : XS}
theorem r_get {C9 : String} {T : u_T} {N ci idx : Nat} {c9 : Nat} {t : List (Option Nat)} {v : Value} (k9 : Nat) (hin : ∀ w ∈ u_ws C9 T N, w ∈ WS) (hw : Cond.fieldLink M.1.cls idx (T k9).1 (T k9).2.1 (T k9).2.2.1 ∈ WS) (hcl : vwCl[ci]? = some (C9, T, N)) (hk : k9 < N) (hd : decode M.2.1 pc = .ok (.getfield idx, 3)) (hlay : lay c9 = .inl (ci, t)) (hv : fo x c9 k9 t = some v) (k : PW M R mc ms Post PT (pc + 3) L (v :: st) x) : PW M R mc ms Post PT pc L (.ref c9 :: st) x := by
  intro p l e s m args below meth c G H locs ls C hH hS hL
  exact va_get (ws := [(gA G c9, ent G x c9)]) C.1 C.2.1 C.2.2.2.2.1 hin C.2.2.2.1 C.2.2.2.2.2.1.1 (hH.one (nc_obj hlay)) 0 (by rw [ent_obj hlay]; rfl) hcl k9 hk (C.2.2.2.2.1 _ hw) (fun _ h9 => h9) (fo_tr hv) hd (k p l e s m args below meth c G H locs ls C hH hS hL)
theorem r_put {C9 : String} {T : u_T} {N ci idx : Nat} {c9 : Nat} {t : List (Option Nat)} {v : Int32} (ty0 : Nat → FieldType) (k9 : Nat) (hin : ∀ w ∈ u_ws C9 T N, w ∈ WS) (hty : ∀ k, k < N → parseFieldDescriptor (T k).2.2.1 = some (ty0 k)) (hnm : ∀ a, a < N → ∀ b, b < N → a ≠ b → (T a).2.1 ≠ (T b).2.1) (hw : Cond.fieldLink M.1.cls idx (T k9).1 (T k9).2.1 (T k9).2.2.1 ∈ WS) (hcl : vwCl[ci]? = some (C9, T, N)) (hk : k9 < N) (hfin : (T k9).2.2.2 = false) (hpd : parseFieldDescriptor (T k9).2.2.1 = some .int) (hd : decode M.2.1 pc = .ok (.putfield idx, 3)) (hlay : lay c9 = .inl (ci, t)) (hv : t[k9]? = some none) (k : PW M R mc ms Post PT (pc + 3) L st (xu x c9 k9 v)) : PW M R mc ms Post PT pc L (.int v :: .ref c9 :: st) x := by
  intro p l e s m args below meth c G H locs ls C hH hS hL
  have hc := nc_obj hlay
  refine va_put (ws := wl G x) (v := .int v) (A := AA G s.heap.size) C.1 C.2.1 C.2.2.2.2.1 hin ty0 hty hnm C.2.2.2.1 C.2.2.2.2.2.1.1 hH.P (wl_D C.2.2.2.2.2.2.2.2.1) hS c9 (by rw [wl_get hc, ent_obj hlay]) hcl k9 hk (C.2.2.2.2.1 _ hw) (fun _ h9 => h9) hfin hpd rfl rfl (by rw [List.length_mapIdx]; exact (List.getElem?_eq_some_iff.mp hv).1) hd (fun H1 locs1 hP1 hD1 hS1 => ?_)
  rw [set_fv hv, ← ent_obj hlay (x := xu x c9 k9 v), wl_set (x' := xu x c9 k9 v) hc (fun j _ hj => ent_xr hj)] at hP1
  exact k p l e s m args below meth c G H1 locs1 ls C (Holds.of hP1) hS1 hL
theorem r_iald {c9 n : Nat} {i : Int32} (hd : decode M.2.1 pc = .ok (.iaload, 1)) (hlay : lay c9 = .inr (.inl n)) (hin : vp_in i n) (k : PW M R mc ms Post PT (pc + 1) L (.int (x c9 i.toNatClampNeg) :: st) x) : PW M R mc ms Post PT pc L (.int i :: .ref c9 :: st) x := by
  intro p l e s m args below meth c G H locs ls C hH hS hL
  have h0 : 0 < n := Nat.lt_of_le_of_lt (Nat.zero_le _) (Nat.not_le.mp fun q => hin (Or.inr q))
  exact va_iald (ws := wl G x) C.1 C.2.1 C.2.2.2.2.2.1.1 hH.P c9 0 (by rw [wl_get (nc_ints hlay h0), ent_ints hlay]) rfl hin hd (k p l e s m args below meth c G H locs ls C hH hS hL)
theorem r_iast {c9 n : Nat} {i v : Int32} (hd : decode M.2.1 pc = .ok (.iastore, 1)) (hlay : lay c9 = .inr (.inl n)) (hin : vp_in i n) (k : PW M R mc ms Post PT (pc + 1) L st (xu x c9 i.toNatClampNeg v)) : PW M R mc ms Post PT pc L (.int v :: .int i :: .ref c9 :: st) x := by
  intro p l e s m args below meth c G H locs ls C hH hS hL
  have h0 : 0 < n := Nat.lt_of_le_of_lt (Nat.zero_le _) (Nat.not_le.mp fun q => hin (Or.inr q))
  have hc := nc_ints hlay h0
  refine va_iast (ws := wl G x) (A := AA G s.heap.size) C.1 C.2.1 C.2.2.2.2.2.1.1 hH.P (wl_D C.2.2.2.2.2.2.2.2.1) hS c9 0 (by rw [wl_get hc, ent_ints hlay]) rfl hin hd (fun H1 locs1 hP1 hD1 hS1 => ?_)
  have e1 : (.inl (gC G 0, n, .inl (upd (x c9) i.toNatClampNeg v)) : va_E) = ent G (xu x c9 i.toNatClampNeg v) c9 := by rw [ent_ints hlay]; unfold xu; rw [xr_s]
  rw [e1, wl_set (x' := xu x c9 i.toNatClampNeg v) hc (fun j _ hj => ent_xr hj)] at hP1
  exact k p l e s m args below meth c G H1 locs1 ls C (Holds.of hP1) hS1 hL
theorem r_alen {c9 n : Nat} {v : Int32} (hd : decode M.2.1 pc = .ok (.arraylength, 1)) (hlay : lay c9 = .inr (.inl n)) (h0 : 0 < n) (hv : nI n = v) (k : PW M R mc ms Post PT (pc + 1) L (.int v :: st) x) : PW M R mc ms Post PT pc L (.ref c9 :: st) x := by
  intro p l e s m args below meth c G H locs ls C hH hS hL
  exact va_alen (ws := wl G x) (cA := gC G 0) (x := (n, .inl (x c9))) C.1 C.2.1 C.2.2.2.2.2.1.1 hH.P c9 0 (by rw [wl_get (nc_ints hlay h0), ent_ints hlay]) (ty := .int) rfl hv hd (k p l e s m args below meth c G H locs ls C hH hS hL)
theorem r_aaldL {c9 d9 : Nat} {ids : List Nat} {i : Int32} (hd : decode M.2.1 pc = .ok (.aaload, 1)) (hlay : lay c9 = .inr (.inr (1, ids))) (hin : vp_in i ids.length) (hv : ids[i.toNatClampNeg]? = some d9) (k : PW M R mc ms Post PT (pc + 1) L (.ref d9 :: st) x) : PW M R mc ms Post PT pc L (.int i :: .ref c9 :: st) x := by
  intro p l e s m args below meth c G H locs ls C hH hS hL
  refine va_aldq (ws := wl G x) C.1 C.2.1 C.2.2.2.2.2.1.1 hH.P c9 2 (by rw [wl_get (nc_refs hlay), ent_refs hlay]) (C := "FirstAsleep$Law") rfl hin hd ?_
  have e9 : va_rf ((fun i => (ids[i]?).map (gA G)) i.toNatClampNeg) = .ref (gA G d9) := by show va_rf ((ids[i.toNatClampNeg]?).map (gA G)) = _; rw [hv]; rfl
  rw [e9]
  exact (k p l e s m args below meth c G H locs ls C hH hS hL)
theorem r_aaldH {c9 d9 : Nat} {ids : List Nat} {i : Int32} (hd : decode M.2.1 pc = .ok (.aaload, 1)) (hlay : lay c9 = .inr (.inr (0, ids))) (hin : vp_in i ids.length) (hv : ids[i.toNatClampNeg]? = some d9) (k : PW M R mc ms Post PT (pc + 1) L (.ref d9 :: st) x) : PW M R mc ms Post PT pc L (.int i :: .ref c9 :: st) x := by
  intro p l e s m args below meth c G H locs ls C hH hS hL
  refine va_aldq (ws := wl G x) C.1 C.2.1 C.2.2.2.2.2.1.1 hH.P c9 1 (by rw [wl_get (nc_refs hlay), ent_refs hlay]) (C := "FirstAsleep$History") rfl hin hd ?_
  have e9 : va_rf ((fun i => (ids[i]?).map (gA G)) i.toNatClampNeg) = .ref (gA G d9) := by show va_rf ((ids[i.toNatClampNeg]?).map (gA G)) = _; rw [hv]; rfl
  rw [e9]
  exact (k p l e s m args below meth c G H locs ls C hH hS hL)
theorem r_aaldI {c9 d9 : Nat} {ids : List Nat} {i : Int32} (hd : decode M.2.1 pc = .ok (.aaload, 1)) (hlay : lay c9 = .inr (.inr (2, ids))) (hin : vp_in i ids.length) (hv : ids[i.toNatClampNeg]? = some d9) (k : PW M R mc ms Post PT (pc + 1) L (.ref d9 :: st) x) : PW M R mc ms Post PT pc L (.int i :: .ref c9 :: st) x := by
  intro p l e s m args below meth c G H locs ls C hH hS hL
  have hlt : i.toNatClampNeg < ids.length := Nat.not_le.mp fun q => hin (Or.inr q)
  have ha := hH.P c9 _ (by rw [wl_get (nc_refs hlay), ent_refs hlay])
  exact W.aald (v := .ref (gA G d9)) (ty := .array .int) C.1 C.2.1 ha ((C.2.2.2.2.2.1.1.2 3 _ rfl).1 ids.length (fun j => va_rf ((ids[j]?).map (gA G)))) rfl (fun q => by cases q) (by show ¬ (i < 0 ∨ (arrV _ _ _).slots.size ≤ _); rw [arrV_size]; exact hin) (by show (arrV _ _ _).slots[_]? = _; rw [arrV_read _ _ hlt]; show some (va_rf ((ids[i.toNatClampNeg]?).map (gA G))) = _; rw [hv]; rfl) rfl rfl hd (k p l e s m args below meth c G H locs ls C hH hS hL)
end Cells
