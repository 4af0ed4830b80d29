/-! rows over natural numbers; copying; throwing; strings; static rows -/
def bI (b : Bool) : Int32 := if b then 1 else 0
theorem bI_t : bI true = nI 1 := rfl
theorem bI_f : bI false = nI 0 := rfl
theorem bI_01 (b : Bool) : bI b = 0 ∨ bI b = 1 := by cases b <;> simp [bI]
section NRows
variable {M : MD} {R : Room} {mc ms : Nat} {Post : Option Value → XS → Prop} {PT : String → XS → Prop} {pc : Nat} {L : List (Nat × Value)} {st : List Value} {x : XS}
theorem r_iaddN {a b : Nat} (hd : decode M.2.1 pc = .ok (.iadd, 1)) (k : PW M R mc ms Post PT (pc + 1) L (.int (nI (a + b)) :: st) x) : PW M R mc ms Post PT pc L (.int (nI b) :: .int (nI a) :: st) x := r_iadd hd (by rw [nI_add]; exact k)
theorem r_imulN {a b : Nat} (hd : decode M.2.1 pc = .ok (.imul, 1)) (k : PW M R mc ms Post PT (pc + 1) L (.int (nI (a * b)) :: st) x) : PW M R mc ms Post PT pc L (.int (nI b) :: .int (nI a) :: st) x := r_imul hd (by rw [pk_mul]; exact k)
theorem r_isubN {a b : Nat} (hd : decode M.2.1 pc = .ok (.isub, 1)) (h : b ≤ a) (k : PW M R mc ms Post PT (pc + 1) L (.int (nI (a - b)) :: st) x) : PW M R mc ms Post PT pc L (.int (nI b) :: .int (nI a) :: st) x := r_isub hd (by rw [pk_sub h]; exact k)
theorem r_idivN {a b : Nat} (hd : decode M.2.1 pc = .ok (.idiv, 1)) (ha : a < 2 ^ 31) (h0 : 0 < b) (hb : b < 2 ^ 31) (k : PW M R mc ms Post PT (pc + 1) L (.int (nI (a / b)) :: st) x) : PW M R mc ms Post PT pc L (.int (nI b) :: .int (nI a) :: st) x := r_idiv hd (nI_ne0 h0 hb) (by rw [pk_div ha h0 hb]; exact k)
theorem r_iremN {a b : Nat} (hd : decode M.2.1 pc = .ok (.irem, 1)) (ha : a < 2 ^ 31) (h0 : 0 < b) (hb : b < 2 ^ 31) (k : PW M R mc ms Post PT (pc + 1) L (.int (nI (a % b)) :: st) x) : PW M R mc ms Post PT pc L (.int (nI b) :: .int (nI a) :: st) x := r_irem hd (nI_ne0 h0 hb) (by rw [pk_rem ha h0 hb]; exact k)
theorem r_iincN {i a : Nat} (hd : decode M.2.1 pc = .ok (.iinc i 1, 3)) (hv : lg L i = some (.int (nI a))) (hn : i < M.2.2.1) (k : PW M R mc ms Post PT (pc + 3) (l1 L i (.int (nI (a + 1)))) st x) : PW M R mc ms Post PT pc L st x := r_iinc hd hv (nI_1 a) hn k
theorem r_ialdN {c9 n j : Nat} (hd : decode M.2.1 pc = .ok (.iaload, 1)) (hlay : lay c9 = .inr (.inl n)) (hj : j < n) (hn : n < 2 ^ 31) (k : PW M R mc ms Post PT (pc + 1) L (.int (x c9 j) :: st) x) : PW M R mc ms Post PT pc L (.int (nI j) :: .ref c9 :: st) x := r_iald hd hlay (vp_in_nI hj hn) (by rw [nI_clamp (by omega)]; exact k)
theorem r_iastN {c9 n j : Nat} {v : Int32} (hd : decode M.2.1 pc = .ok (.iastore, 1)) (hlay : lay c9 = .inr (.inl n)) (hj : j < n) (hn : n < 2 ^ 31) (k : PW M R mc ms Post PT (pc + 1) L st (xu x c9 j v)) : PW M R mc ms Post PT pc L (.int v :: .int (nI j) :: .ref c9 :: st) x := r_iast hd hlay (vp_in_nI hj hn) (by rw [nI_clamp (by omega)]; exact k)
theorem r_aaldLN {c9 d9 j : Nat} {ids : List Nat} (hd : decode M.2.1 pc = .ok (.aaload, 1)) (hlay : lay c9 = .inr (.inr (1, ids))) (hv : ids[j]? = some d9) (hn : ids.length < 2 ^ 31) (k : PW M R mc ms Post PT (pc + 1) L (.ref d9 :: st) x) : PW M R mc ms Post PT pc L (.int (nI j) :: .ref c9 :: st) x := by
  have hj : j < ids.length := (List.getElem?_eq_some_iff.mp hv).1
  exact r_aaldL hd hlay (vp_in_nI hj hn) (by rw [nI_clamp (by omega)]; exact hv) k
theorem r_aaldHN {c9 d9 j : Nat} {ids : List Nat} (hd : decode M.2.1 pc = .ok (.aaload, 1)) (hlay : lay c9 = .inr (.inr (0, ids))) (hv : ids[j]? = some d9) (hn : ids.length < 2 ^ 31) (k : PW M R mc ms Post PT (pc + 1) L (.ref d9 :: st) x) : PW M R mc ms Post PT pc L (.int (nI j) :: .ref c9 :: st) x := by
  have hj : j < ids.length := (List.getElem?_eq_some_iff.mp hv).1
  exact r_aaldH hd hlay (vp_in_nI hj hn) (by rw [nI_clamp (by omega)]; exact hv) k
theorem r_aaldIN {c9 d9 j : Nat} {ids : List Nat} (hd : decode M.2.1 pc = .ok (.aaload, 1)) (hlay : lay c9 = .inr (.inr (2, ids))) (hv : ids[j]? = some d9) (hn : ids.length < 2 ^ 31) (k : PW M R mc ms Post PT (pc + 1) L (.ref d9 :: st) x) : PW M R mc ms Post PT pc L (.int (nI j) :: .ref c9 :: st) x := by
  have hj : j < ids.length := (List.getElem?_eq_some_iff.mp hv).1
  exact r_aaldI hd hlay (vp_in_nI hj hn) (by rw [nI_clamp (by omega)]; exact hv) k
theorem r_icmp_ltN {a b tgt : Nat} {off : Int} (hd : decode M.2.1 pc = .ok (.if_icmp .lt off, 3)) (ht : (pc : Int) + off = (tgt : Int)) (ha : a < 2 ^ 31) (hb : b < 2 ^ 31) (kt : a < b → PW M R mc ms Post PT tgt L st x) (kf : b ≤ a → PW M R mc ms Post PT (pc + 3) L st x) : PW M R mc ms Post PT pc L (.int (nI b) :: .int (nI a) :: st) x := r_icmp_lt hd ht (fun h => kt ((nI_ltI ha hb).mp h)) (fun h => kf (Nat.not_lt.mp (fun q => h ((nI_ltI ha hb).mpr q))))
theorem r_icmp_geN {a b tgt : Nat} {off : Int} (hd : decode M.2.1 pc = .ok (.if_icmp .ge off, 3)) (ht : (pc : Int) + off = (tgt : Int)) (ha : a < 2 ^ 31) (hb : b < 2 ^ 31) (kt : b ≤ a → PW M R mc ms Post PT tgt L st x) (kf : a < b → PW M R mc ms Post PT (pc + 3) L st x) : PW M R mc ms Post PT pc L (.int (nI b) :: .int (nI a) :: st) x := r_icmp_ge hd ht (fun h => kt ((nI_leI hb ha).mp h)) (fun h => kf (Nat.not_le.mp (fun q => h ((nI_leI hb ha).mpr q))))
theorem r_icmp_gtN {a b tgt : Nat} {off : Int} (hd : decode M.2.1 pc = .ok (.if_icmp .gt off, 3)) (ht : (pc : Int) + off = (tgt : Int)) (ha : a < 2 ^ 31) (hb : b < 2 ^ 31) (kt : b < a → PW M R mc ms Post PT tgt L st x) (kf : a ≤ b → PW M R mc ms Post PT (pc + 3) L st x) : PW M R mc ms Post PT pc L (.int (nI b) :: .int (nI a) :: st) x := r_icmp_gt hd ht (fun h => kt ((nI_ltI hb ha).mp h)) (fun h => kf (Nat.not_lt.mp (fun q => h ((nI_ltI hb ha).mpr q))))
theorem r_icmp_leN {a b tgt : Nat} {off : Int} (hd : decode M.2.1 pc = .ok (.if_icmp .le off, 3)) (ht : (pc : Int) + off = (tgt : Int)) (ha : a < 2 ^ 31) (hb : b < 2 ^ 31) (kt : a ≤ b → PW M R mc ms Post PT tgt L st x) (kf : b < a → PW M R mc ms Post PT (pc + 3) L st x) : PW M R mc ms Post PT pc L (.int (nI b) :: .int (nI a) :: st) x := r_icmp_le hd ht (fun h => kt ((nI_leI ha hb).mp h)) (fun h => kf (Nat.not_le.mp (fun q => h ((nI_leI ha hb).mpr q))))
theorem r_icmp_eqN {a b tgt : Nat} {off : Int} (hd : decode M.2.1 pc = .ok (.if_icmp .eq off, 3)) (ht : (pc : Int) + off = (tgt : Int)) (ha : a < 2 ^ 31) (hb : b < 2 ^ 31) (kt : a = b → PW M R mc ms Post PT tgt L st x) (kf : a ≠ b → PW M R mc ms Post PT (pc + 3) L st x) : PW M R mc ms Post PT pc L (.int (nI b) :: .int (nI a) :: st) x := r_icmp_eq hd ht (fun h => kt ((nI_eq ha hb).mp h)) (fun h => kf (fun q => h ((nI_eq ha hb).mpr q)))
theorem r_icmp_neN {a b tgt : Nat} {off : Int} (hd : decode M.2.1 pc = .ok (.if_icmp .ne off, 3)) (ht : (pc : Int) + off = (tgt : Int)) (ha : a < 2 ^ 31) (hb : b < 2 ^ 31) (kt : a ≠ b → PW M R mc ms Post PT tgt L st x) (kf : a = b → PW M R mc ms Post PT (pc + 3) L st x) : PW M R mc ms Post PT pc L (.int (nI b) :: .int (nI a) :: st) x := r_icmp_ne hd ht (fun h => kt (fun q => h ((nI_eq ha hb).mpr q))) (fun h => kf ((nI_eq ha hb).mp h))
theorem r_if_eqB {b : Bool} {tgt : Nat} {off : Int} (hd : decode M.2.1 pc = .ok (.ifCond .eq off, 3)) (ht : (pc : Int) + off = (tgt : Int)) (kt : b = false → PW M R mc ms Post PT tgt L st x) (kf : b = true → PW M R mc ms Post PT (pc + 3) L st x) : PW M R mc ms Post PT pc L (.int (bI b) :: st) x := r_if_eq hd ht (fun h => kt (by cases b <;> simp_all [bI])) (fun h => kf (by cases b <;> simp_all [bI]))
theorem r_if_neB {b : Bool} {tgt : Nat} {off : Int} (hd : decode M.2.1 pc = .ok (.ifCond .ne off, 3)) (ht : (pc : Int) + off = (tgt : Int)) (kt : b = true → PW M R mc ms Post PT tgt L st x) (kf : b = false → PW M R mc ms Post PT (pc + 3) L st x) : PW M R mc ms Post PT pc L (.int (bI b) :: st) x := r_if_ne hd ht (fun h => kt (by cases b <;> simp_all [bI])) (fun h => kf (by cases b <;> simp_all [bI]))
end NRows
section Copy
variable {M : MD} {d mc ms : Nat} {Post : Option Value → XS → Prop} {PT : String → XS → Prop} {pc : Nat} {L : List (Nat × Value)} {st : List Value} {x : XS}
/-- System.arraycopy of ints, from one row of the picture to another -/
theorem r_copy {idx sc dc n0 n1 sp dp n : Nat} (hw : Cond.methodLink M.1.cls idx arraycopyName ∈ WS) (hnat : Cond.native arraycopyName ∈ WS) (hstat : Cond.static arraycopyName ∈ WS) (hini : Cond.initialized "java/lang/System" ∈ WS) (hd : decode M.2.1 pc = .ok (.invokestatic idx, 3)) (h0 : lay sc = .inr (.inl n0)) (h1 : lay dc = .inr (.inl n1)) (z0 : 0 < n0) (z1 : 0 < n1) (hs : sp + n ≤ n0) (ht : dp + n ≤ n1) (b0 : n0 < 2 ^ 30) (b1 : n1 < 2 ^ 30) (hr : 1 ≤ d) (hst : (st.map fun v => v.category).sum ≤ 8) (k : PW M (RM d mc ms) mc ms Post PT (pc + 3) L st (xr x dc (va_cpy (x sc) (x dc) sp dp n))) : PW M (RM d mc ms) mc ms Post PT pc L (.int (nI n) :: .int (nI dp) :: .ref dc :: .int (nI sp) :: .ref sc :: st) x := by
  intro p l e s m args below meth c G H locs ls C hH hS hL
  have hc0 := nc_ints h0 z0
  have hc1 := nc_ints h1 z1
  have e9 : ((st.map (tr G)).map fun v => v.category) = st.map fun v => v.category := by rw [List.map_map]; exact List.map_congr_left (fun v _ => tr_cat G v)
  have h7 : nativeFrameWords "java/lang/System" "arraycopy" 5 = 7 := by decide +kernel
  refine va_copyi (ws := wl G x) (A := AA G s.heap.size) (rest := st.map (tr G)) (R := RM d mc ms) C.1 C.2.1 (C.2.2.1.trans hL.1.symm) C.2.2.2.1 (C.2.2.2.2.1 _ hw) (C.2.2.2.2.1 _ hnat) (C.2.2.2.2.1 _ hstat) (C.2.2.2.2.1 _ hini) C.2.2.2.2.2.1.1 hH.P (wl_D C.2.2.2.2.2.2.2.2.1) hS sc dc 0 0 (by rw [wl_get hc0, ent_ints h0]) (by rw [wl_get hc1, ent_ints h1]) rfl rfl rfl (nI_pos (by omega)) (nI_pos (by omega)) (nI_pos (by omega)) (by rw [nI_clamp (by omega), nI_clamp (by omega)]; exact hs) (by rw [nI_clamp (by omega), nI_clamp (by omega)]; exact ht) (fun i _ => rfl) hr (by rw [e9, h7]; show _ + (7 + 11) ≤ 64 * d; omega) hd (fun H1 locs1 hP1 hD1 hS1 => ?_)
  rw [nI_clamp (by omega), nI_clamp (by omega), nI_clamp (by omega)] at hP1
  have e1 : (.inl (gC G 0, n1, .inl (va_cpy (x sc) (x dc) sp dp n)) : va_E) = ent G (xr x dc (va_cpy (x sc) (x dc) sp dp n)) dc := by rw [ent_ints h1, xr_s]
  rw [e1, wl_set (x' := xr x dc (va_cpy (x sc) (x dc) sp dp n)) hc1 (fun j _ hj => ent_xr hj)] at hP1
  exact k p l e s m args below meth c G H1 locs1 ls C (Holds.of hP1) hS1 hL
/-- a string of the code -/
theorem r_ldcS {idx i : Nat} {tx : String} (hs : strL[i]? = some (M.1.cls, idx, tx)) (hd : decode M.2.1 pc = .ok (.ldc idx, 2)) (k : PW M (RM d mc ms) mc ms Post PT (pc + 2) L (.ref (1000 + i) :: st) x) : PW M (RM d mc ms) mc ms Post PT pc L st x := by
  intro p l e s m args below meth c G H locs ls C hH hS hL
  exact va_ldcS C.1 C.2.1 C.2.2.2.1 (C.2.2.2.2.2.1.2.1 i _ hs) hd (k p l e s m args below meth c G H locs ls C hH hS hL)
end Copy
theorem wsn_copy : Cond.native arraycopyName ∈ WS := ws_t 397 rfl rfl
theorem wss_copy : Cond.static arraycopyName ∈ WS := ws_t 396 rfl rfl
theorem wsi_sys : Cond.initialized "java/lang/System" ∈ WS := ws_t 21 rfl rfl
theorem lsub_of {L : List (Nat × Value)} : ∀ {L' : List (Nat × Value)}, L'.map (fun q => lg L q.1) = L'.map (fun q => some q.2) → lsub L' L
  | [], _ => trivial
  | q :: r, h => by
    have h2 : lg L q.1 :: r.map (fun q => lg L q.1) = some q.2 :: r.map (fun q => some q.2) := h
    injection h2 with a b
    exact ⟨a, lsub_of b⟩
section Loops
variable {M : MD} {R : Room} {mc ms : Nat} {Post : Option Value → XS → Prop} {PT : String → XS → Prop} {pc : Nat} {L : List (Nat × Value)} {st : List Value} {x : XS}
theorem PW.lc {L' : List (Nat × Value)} {x' : XS} (h : L'.map (fun q => lg L q.1) = L'.map (fun q => some q.2)) (hx : x = x') (k : PW M R mc ms Post PT pc L' st x') : PW M R mc ms Post PT pc L st x := by
  subst hx
  exact PW.loc (lsub_of h) k
theorem wf_loop {σ : Type} {P : σ → Prop} (μ : σ → Nat) (h : ∀ s, (∀ s', μ s' < μ s → P s') → P s) : ∀ s, P s := fun s => (measure μ).wf.induction s h
/-- a loop: its states by s, an invariant, a measure that falls -/
theorem PW.loop {σ : Type} (μ : σ → Nat) (Inv : σ → Prop) (LL : σ → List (Nat × Value)) (X : σ → XS) (s0 : σ) (h0 : Inv s0) (hl : (LL s0).map (fun q => lg L q.1) = (LL s0).map (fun q => some q.2)) (hx : x = X s0) (step : ∀ s, Inv s → (∀ s', Inv s' → μ s' < μ s → PW M R mc ms Post PT pc (LL s') st (X s')) → PW M R mc ms Post PT pc (LL s) st (X s)) : PW M R mc ms Post PT pc L st x := by
  refine PW.lc hl hx ?_
  exact wf_loop (P := fun s => Inv s → PW M R mc ms Post PT pc (LL s) st (X s)) μ (fun s ih hs => step s hs (fun s' h1 h2 => ih s' h2 h1)) s0 h0
/-- a join: what comes behind it is walked once -/
theorem PW.cut {P : Prop} (h : P) (k : P → PW M R mc ms Post PT pc L st x) : PW M R mc ms Post PT pc L st x := k h
end Loops
