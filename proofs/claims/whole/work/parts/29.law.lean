/-! A LAW'S TEXT -/
def xbn {α β : Type} : Except PE α → (α → Except PE β) → Except PE β
  | .ok a, f => f a
  | .error e, _ => .error e
theorem xbn_ok {α β : Type} (a : α) (f : α → Except PE β) : xbn (.ok a) f = f a := rfl
theorem xbn_err {α β : Type} (e : PE) (f : α → Except PE β) : xbn (.error e) f = .error e := rfl
theorem xbn_is {α β : Type} {r : Except PE α} {f : α → Except PE β} {b : β} (h : xbn r f = .ok b) : ∃ a, r = .ok a ∧ f a = .ok b := by
  cases r with
  | ok a => exact ⟨a, rfl, h⟩
  | error e => cases h
abbrev LR : Type := Except PE (List Nat × Nat)
def pLoop (g : Nat → Nat) (len : Nat) (u : Nat → LR) (s1 s2 c1 c2 : Nat) : Nat → Nat → LR
  | 0, a => .ok ([], a)
  | n + 1, a => if nxV g len a = nI s1 ∨ nxV g len a = nI s2 then xbn (u (skip g len a + 1)) (fun q => xbn (pLoop g len u s1 s2 c1 c2 n q.2) (fun r => .ok (q.1 ++ (if nxV g len a = nI s1 then c1 else c2) :: r.1, r.2))) else .ok ([], skip g len a)
def pChain (g : Nat → Nat) (len : Nat) (u : Nat → LR) (s1 s2 c1 c2 a : Nat) : LR := xbn (u a) (fun q => xbn (pLoop g len u s1 s2 c1 c2 150 q.2) (fun r => .ok (q.1 ++ r.1, r.2)))
def pSumOf (g : Nat → Nat) (len : Nat) (u : Nat → LR) : Nat → LR := pChain g len (pChain g len u 42 47 2002 2003) 43 45 2000 2001
def pNamed (g : Nat → Nat) (len : Nat) (s : Option (Nat → LR)) (a : Nat) : LR := xbn (pWord g len 1 a) (fun w => if w.1 < 9 then .ok ([1000 + w.1], w.2) else match s with
  | none => .error (3, skip g len a)
  | some f => xbn (pTake g len 91 w.2) (fun a1 => xbn (f a1) (fun q1 => xbn (pTake g len 44 q1.2) (fun a2 => xbn (f a2) (fun q2 => xbn (pTake g len 93 q2.2) (fun a3 => .ok (q1.1 ++ q2.1 ++ [if w.1 = 9 then 2004 else 2005], a3)))))))
def pU (g : Nat → Nat) (len : Nat) (s : Option (Nat → LR)) (a : Nat) : LR :=
  if nxV g len a = nI 40 then (match s with
    | none => .error (3, skip g len a)
    | some f => xbn (f (skip g len a + 1)) (fun q => xbn (pTake g len 41 q.2) (fun a2 => .ok (q.1, a2))))
  else if digB (nxV g len a) then xbn (pNum g len 0 1000 a) (fun q => .ok ([q.1], q.2))
  else pNamed g len s a
def pUnit (g : Nat → Nat) (len : Nat) : Nat → Nat → LR
  | 0 => pU g len none
  | lev + 1 => pU g len (some (pSumOf g len (pUnit g len lev)))
def pSum (g : Nat → Nat) (len lev : Nat) : Nat → LR := pSumOf g len (pUnit g len lev)
def pLaw (g : Nat → Nat) (len a : Nat) : LR := xbn (pSum g len 6 a) (fun q => xbn (pEnd g len q.2) (fun a2 => .ok (q.1, a2)))
/-- each code takes a byte at least -/
def LenOK (len : Nat) (u : Nat → LR) : Prop := ∀ a q, u a = .ok q → a + q.1.length ≤ q.2 ∧ 1 ≤ q.1.length
theorem pTake_ge {g : Nat → Nat} {len c a b : Nat} (h : pTake g len c a = .ok b) : a + 1 ≤ b ∧ b = skip g len a + 1 := by
  unfold pTake at h
  split at h
  · injection h with h
    have := skip_ge g len a
    omega
  · cases h
theorem dgs_ge (g : Nat → Nat) (len : Nat) : ∀ n b v, b ≤ (dgs g len n b v).1
  | 0, b, v => Nat.le_refl _
  | n + 1, b, v => by
    unfold dgs
    split
    · exact Nat.le_trans (Nat.le_succ b) (dgs_ge g len n _ _)
    · exact Nat.le_refl _
theorem pNum_ge {g : Nat → Nat} {len lo n a : Nat} {q : Nat × Nat} (hg : ∀ j, j < 600 → g j < 256) (hl : len ≤ 600) (h : pNum g len lo n a = .ok q) : a + 1 ≤ q.2 := by
  unfold pNum at h
  split at h
  · rename_i hd
    split at h
    · injection h with h
      subst h
      obtain ⟨h1, h2⟩ := nxV_dig hg hl hd
      show a + 1 ≤ (dg g len (skip g len a) 0).1
      rw [dg_s h1 h2]
      have := skip_ge g len a
      have := dgs_ge g len (len - (skip g len a + 1)) (skip g len a + 1) (if 0 < 100000 then 0 * 10 + g (skip g len a) - 48 else 0)
      unfold dg
      omega
    · cases h
  · cases h
theorem isW_len {g : Nat → Nat} {i b e f t : Nat} (h : isW g i b e f t = true) : t - f = e - b := by
  unfold isW at h
  simp at h
  exact h.1
theorem pWord1_ge {g : Nat → Nat} {len a : Nat} {q : Nat × Nat} (h : pWord g len 1 a = .ok q) : a + 1 ≤ q.2 ∧ q.1 < 11 ∧ q.2 = smE g len (skip g len a) := by
  unfold pWord at h
  cases hw : wrd g len 1 a with
  | none => rw [hw] at h; cases h
  | some w =>
    rw [hw] at h
    injection h with h
    subst h
    refine ⟨?_, w1_lt hw, rfl⟩
    show a + 1 ≤ smE g len (skip g len a)
    unfold wrd at hw
    rw [wkey1] at hw
    have h1 := skip_ge g len a
    repeat' split at hw
    all_goals first | (rename_i hq; have := isW_len hq; omega) | cases hw
theorem LenOK.loop {g : Nat → Nat} {len : Nat} {u : Nat → LR} {s1 s2 c1 c2 : Nat} (h : LenOK len u) : ∀ n a q, pLoop g len u s1 s2 c1 c2 n a = .ok q → a + q.1.length ≤ q.2
  | 0, a, q, hq => by
    injection hq with hq
    subst hq
    exact Nat.le_refl _
  | n + 1, a, q, hq => by
    have h1 := skip_ge g len a
    unfold pLoop at hq
    split at hq
    · obtain ⟨q1, e1, hq⟩ := xbn_is hq
      obtain ⟨r, e2, hq⟩ := xbn_is hq
      injection hq with hq
      subst hq
      have w1 := h _ _ e1
      have w2 := LenOK.loop h n _ _ e2
      show a + (q1.1 ++ _ :: r.1).length ≤ r.2
      rw [List.length_append, List.length_cons]
      omega
    · injection hq with hq
      subst hq
      exact h1
theorem LenOK.chain {g : Nat → Nat} {len : Nat} {u : Nat → LR} {s1 s2 c1 c2 : Nat} (h : LenOK len u) : LenOK len (pChain g len u s1 s2 c1 c2) := by
  intro a q hq
  obtain ⟨q1, e1, hq⟩ := xbn_is hq
  obtain ⟨r, e2, hq⟩ := xbn_is hq
  injection hq with hq
  subst hq
  have w1 := h _ _ e1
  have w2 := h.loop _ _ _ e2
  show a + (q1.1 ++ r.1).length ≤ r.2 ∧ 1 ≤ (q1.1 ++ r.1).length
  rw [List.length_append]
  omega
theorem LenOK.sumOf {g : Nat → Nat} {len : Nat} {u : Nat → LR} (h : LenOK len u) : LenOK len (pSumOf g len u) := h.chain.chain
theorem LenOK.named {g : Nat → Nat} {len : Nat} {s : Option (Nat → LR)} (h : ∀ f, s = some f → LenOK len f) : LenOK len (pNamed g len s) := by
  intro a q hq
  obtain ⟨w, e0, hq⟩ := xbn_is hq
  have w0 := pWord1_ge e0
  split at hq
  · injection hq with hq
    subst hq
    exact ⟨w0.1, Nat.le_refl _⟩
  · cases s with
    | none => cases hq
    | some f =>
      obtain ⟨a1, e1, hq⟩ := xbn_is hq
      obtain ⟨q1, e2, hq⟩ := xbn_is hq
      obtain ⟨a2, e3, hq⟩ := xbn_is hq
      obtain ⟨q2, e4, hq⟩ := xbn_is hq
      obtain ⟨a3, e5, hq⟩ := xbn_is hq
      injection hq with hq
      subst hq
      have w1 := pTake_ge e1
      have w2 := h f rfl _ _ e2
      have w3 := pTake_ge e3
      have w4 := h f rfl _ _ e4
      have w5 := pTake_ge e5
      show a + (q1.1 ++ q2.1 ++ [_]).length ≤ a3 ∧ 1 ≤ (q1.1 ++ q2.1 ++ [_]).length
      rw [List.length_append, List.length_append, List.length_singleton]
      omega
theorem LenOK.unit {g : Nat → Nat} {len : Nat} {s : Option (Nat → LR)} (hg : ∀ j, j < 600 → g j < 256) (hl : len ≤ 600) (h : ∀ f, s = some f → LenOK len f) : LenOK len (pU g len s) := by
  intro a q hq
  have h0 := skip_ge g len a
  unfold pU at hq
  split at hq
  · cases s with
    | none => cases hq
    | some f =>
      obtain ⟨q1, e1, hq⟩ := xbn_is hq
      obtain ⟨a2, e2, hq⟩ := xbn_is hq
      injection hq with hq
      subst hq
      have w1 := h f rfl _ _ e1
      have w2 := pTake_ge e2
      show a + q1.1.length ≤ a2 ∧ 1 ≤ q1.1.length
      omega
  · split at hq
    · obtain ⟨q1, e1, hq⟩ := xbn_is hq
      injection hq with hq
      subst hq
      exact ⟨pNum_ge hg hl e1, Nat.le_refl _⟩
    · exact LenOK.named h a q hq
theorem LenOK.all {g : Nat → Nat} {len : Nat} (hg : ∀ j, j < 600 → g j < 256) (hl : len ≤ 600) : ∀ lev, LenOK len (pUnit g len lev)
  | 0 => LenOK.unit hg hl (fun f h => by cases h)
  | lev + 1 => LenOK.unit hg hl (fun f h => by injection h with h; subst h; exact (LenOK.all hg hl lev).sumOf)
/-- codes written from place n on -/
def wrL (f : Nat → Int32) : Nat → List Nat → (Nat → Int32)
  | _, [] => f
  | n, c :: l => wrL (upd f n (nI c)) (n + 1) l
theorem wrL_app : ∀ (l1 l2 : List Nat) (f : Nat → Int32) (n : Nat), wrL f n (l1 ++ l2) = wrL (wrL f n l1) (n + l1.length) l2
  | [], _, _, _ => rfl
  | c :: l, l2, f, n => by
    show wrL (upd f n (nI c)) (n + 1) (l ++ l2) = wrL (wrL (upd f n (nI c)) (n + 1) l) (n + (l.length + 1)) l2
    rw [wrL_app l l2, show n + 1 + l.length = n + (l.length + 1) by omega]
def SL (c : Nat) : Prop := 30 ≤ c ∧ c ≤ 32
theorem SL_ {c : Nat} (h1 : 30 ≤ c) (h2 : c ≤ 32) : SL c := ⟨h1, h2⟩
/-- what a reader of a law's piece does: u the piece's reading -/
def LPq (g : Nat → Nat) (len : Nat) (u : Nat → LR) (a sz : Nat) (x : XS) : Option Value → XS → Prop := fun v x1 => v = some (.int (bI (okB (u a)))) ∧ PO SL x x1 g len (u a) (fun q => q.2) ∧ ∀ q, u a = .ok q → x1 30 1 = nI (sz + q.1.length) ∧ x1 31 = wrL (x 31) sz q.1
def LPc (g : Nat → Nat) (len : Nat) (M : MD) (d op : Nat) (u : Nat → LR) : Prop := ∀ (a sz : Nat) (x : XS), TP x g len a → x 30 1 = nI sz → sz ≤ a → MM M d 0 0 [.ref 30, .ref 1, .int (nI op)] x (LPq g len u a sz x) NoT
set_option maxHeartbeats 8000000 in
set_option maxRecDepth 20000 in
theorem c_X5_put {c sz : Nat} {x : XS} (hz : x 30 1 = nI sz) (hs : sz < 150) : MM mX5_put 0 0 0 [.ref 30, .int (nI c)] x (fun v x1 => v = none ∧ x1 = xu (xu x 31 sz (nI c)) 30 1 (nI (sz + 1))) NoT := by
  refine MM.of (by decide) (Nat.le_of_ble_eq_true rfl) ?_
  have y30 := lay_30
  have y31 := lay_31
  refine r_aload_n dX5_put_0 rfl (by rfl) ?_
  refine gf_X5_15 rfl dX5_put_1 (by first | assumption | rfl) (by rfl) ?_
  refine PW.topi hz ?_
  refine r_aload_n dX5_put_4 rfl (by rfl) ?_
  refine gf_X5_9 rfl dX5_put_5 (by first | assumption | rfl) (by rfl) ?_
  refine r_alen dX5_put_8 (by first | assumption | rfl) (by decide) rfl ?_
  refine r_icmp_geN (tgt := 32) dX5_put_9 (by decide) (by omega) (by omega) (fun h9 => by exfalso; omega) (fun _ => ?_)
  refine r_aload_n dX5_put_12 rfl (by rfl) ?_
  refine gf_X5_9 rfl dX5_put_13 (by first | assumption | rfl) (by rfl) ?_
  refine r_aload_n dX5_put_16 rfl (by rfl) ?_
  refine gf_X5_15 rfl dX5_put_17 (by first | assumption | rfl) (by rfl) ?_
  refine PW.topi hz ?_
  refine r_iload_n dX5_put_20 rfl (by rfl) ?_
  refine r_iastN dX5_put_21 (by first | assumption | rfl) (by omega) (by decide) ?_
  refine r_aload_n dX5_put_22 rfl (by rfl) ?_
  refine r_dup dX5_put_23 rfl ?_
  refine gf_X5_15 rfl dX5_put_24 (by first | assumption | rfl) (by rfl) ?_
  refine PW.topi (show _ = nI sz from hz) ?_
  refine r_iconst (v := nI 1) dX5_put_27 (by decide) ?_
  refine r_iaddN dX5_put_28 ?_
  refine pf_X5_15 rfl dX5_put_29 (by first | assumption | rfl) (by rfl) ?_
  refine r_ret rfl dX5_put_32 ?_
  exact ⟨rfl, rfl⟩
set_option maxHeartbeats 8000000 in
set_option maxRecDepth 20000 in
theorem c_X5_readSum {g : Nat → Nat} {len d op a sz : Nat} {u : Nat → LR} {x : XS} (hl : len ≤ 150) (hd : 1 ≤ d) (hu : LPc g len mX5_readProduct d op u) (hLen : LenOK len u) (hT : TP x g len a) (hz : x 30 1 = nI sz) (hsz : sz ≤ a) : MM mX5_readSum (d + 1) 0 0 [.ref 30, .ref 1, .int (nI op)] x (LPq g len (pChain g len u 43 45 2000 2001) a sz x) NoT := by
  refine MM.of (by decide) (Nat.le_of_ble_eq_true rfl) ?_
  have y1 := lay_1
  have y2 := lay_2
  have y30 := lay_30
  have y31 := lay_31
  refine r_aload_n dX5_readSum_0 rfl (by rfl) ?_
  refine r_aload_n dX5_readSum_1 rfl (by rfl) ?_
  refine r_iload_n dX5_readSum_2 rfl (by rfl) ?_
  refine r_callV (hu a sz x hT hz hsz) mv_X5_readProduct ml_X5_48 ⟨by omega, by decide⟩ dX5_readSum_3 (by first | assumption | rfl) rfl rfl rfl (Nat.le_of_ble_eq_true rfl) (fun v9 x3 h3 => ?_)
  obtain ⟨rfl, h3⟩ := h3
  refine r_if_neB (tgt := 11) dX5_readSum_6 (by decide) (fun h6 => ?_) (fun h6 => ?_)
  · obtain ⟨r3, e3⟩ := okB_t h6
    have B3 := (h3.1.ok e3).1
    have A3 := AC.rfl.of h3.1 e3
    obtain ⟨z3, k3⟩ := h3.2 r3 e3
    have w3 := hLen _ _ e3
    have p3 := B3.2.2.2.1
    refine r_iconst (v := nI 0) dX5_readSum_11 (by decide) ?_
    refine r_istore_n dX5_readSum_12 rfl (by decide) ?_
    refine PW.loop (σ := Nat × Nat × List Nat × XS) (fun s => 150 - s.1) (fun s => s.1 < s.2.1 ∧ AC SL x s.2.2.2 ∧ TP s.2.2.2 g len s.2.1 ∧ s.2.2.2 30 1 = nI (sz + s.2.2.1.length) ∧ s.2.2.2 31 = wrL (x 31) sz s.2.2.1 ∧ sz + s.2.2.1.length ≤ s.2.1 ∧ xbn (pLoop g len u 43 45 2000 2001 (150 - s.1) s.2.1) (fun r => .ok (s.2.2.1 ++ r.1, r.2)) = (pChain g len u 43 45 2000 2001) a) (fun s => [(0, .ref 30), (1, .ref 1), (2, .int (nI op)), (3, .int (nI s.1))]) (fun s => s.2.2.2) ((0, r3.2, r3.1, x3)) (⟨(show 0 < r3.2 by omega), A3, B3, z3, k3, (show sz + r3.1.length ≤ r3.2 by omega), (show xbn (pLoop g len u 43 45 2000 2001 150 r3.2) _ = (pChain g len u 43 45 2000 2001) a by unfold pChain; rw [e3, xbn_ok])⟩) rfl rfl (fun s hs sh => ?_)
    obtain ⟨hs0, hA, hTs, hzs, hks, hsa, hR⟩ := hs
    have hal := hTs.2.2.2.1
    refine r_iload_n dX5_readSum_13 rfl (by rfl) ?_
    refine r_sipush (v := nI 150) dX5_readSum_14 (by decide) ?_
    refine r_icmp_geN (tgt := 89) dX5_readSum_17 (by decide) (by omega) (by omega) (fun h17 => by exfalso; omega) (fun _ => ?_)
    refine r_aload_n dX5_readSum_20 rfl (by rfl) ?_
    refine r_callV (c_X8_next hTs) mv_X8_next ml_X5_51 ⟨by omega, by decide⟩ dX5_readSum_21 (by first | assumption | rfl) rfl rfl rfl (Nat.le_of_ble_eq_true rfl) (fun v9 x9 h9 => ?_)
    obtain ⟨rfl, h9⟩ := h9
    refine PW.xeq h9 ?_
    clear h9 x9
    refine r_istore dX5_readSum_24 (by decide) ?_
    have B0 : TP (atX s.2.2.2 (skip g len s.2.1)) g len (skip g len s.2.1) := hTs.at (skip_le hTs.2.2.2.1)
    refine r_iload dX5_readSum_26 (by rfl) ?_
    refine r_bipush (v := nI 43) dX5_readSum_28 (by decide) ?_
    refine r_icmp_eq (tgt := 42) dX5_readSum_30 (by decide) (fun h30 => ?_) (fun h30 => ?_)
    · have hsg : ∃ c, nxV g len s.2.1 = nI c ∧ (c = 43 ∨ c = 45) := by first | exact ⟨43, h30, Or.inl rfl⟩ | exact ⟨45, h37, Or.inr rfl⟩
      obtain ⟨sg, hs1, hs2⟩ := hsg
      rw [hs1]
      have hsg2 : sg < 2 ^ 31 := by omega
      have ht : pTake g len sg (skip g len s.2.1) = .ok (skip g len s.2.1 + 1) := by
        rw [pTake_skip]
        unfold pTake
        rw [if_pos hs1]
      have hor : nxV g len s.2.1 = nI 43 ∨ nxV g len s.2.1 = nI 45 := by rcases hs2 with rfl | rfl; exact Or.inl hs1; exact Or.inr hs1
      have hge := skip_ge g len s.2.1
      refine r_aload_n dX5_readSum_42 rfl (by rfl) ?_
      refine r_iload dX5_readSum_43 (by rfl) ?_
      refine r_i2c (v := nI sg) dX5_readSum_45 (by rcases hs2 with rfl | rfl <;> decide +kernel) ?_
      refine r_callV (c_X8_take B0) mv_X8_take ml_X5_55 ⟨by omega, by decide⟩ dX5_readSum_46 (by first | assumption | rfl) rfl rfl rfl (Nat.le_of_ble_eq_true rfl) (fun v9 x9 h9 => ?_)
      obtain ⟨rfl, h9⟩ := h9
      obtain ⟨v9, f1, e9, q1⟩ := tak_rel (x := atX s.2.2.2 (skip g len s.2.1)) (c := sg) B0
      have q1 := q1 (nI_ne1 hsg2)
      refine PW.topi (congrArg bI v9) ?_
      refine PW.xeq (h9.trans e9) ?_
      clear h9 x9 v9 e9
      refine r_if_eqB (tgt := 61) dX5_readSum_49 (by decide) (fun h49 => ?_) (fun h49 => ?_)
      · refine r_iconst (v := nI 0) dX5_readSum_61 (by decide) ?_
        refine r_zret rfl (by first | exact bI_01 _ | exact Or.inl rfl | exact Or.inr rfl) dX5_readSum_62 ?_
        first
          | (rw [ht] at h49; exact Bool.noConfusion (show true = false from h49))
          | (obtain ⟨er, e5⟩ := okB_f h58
             have w : (pChain g len u 43 45 2000 2001) a = .error er := by
               rw [← hR, show 150 - s.1 = (149 - s.1) + 1 by omega, pLoop, if_pos hor, e5, xbn_err, xbn_err]
             exact ⟨by rw [w]; rfl, A4.perr h5.1 e5 w, fun q hq => by rw [w] at hq; cases hq⟩)
      · have B4 : TP (xr (atX s.2.2.2 (skip g len s.2.1)) 1 f1) g len (skip g len s.2.1 + 1) := q1.tp B0 ht
        have A4 : AC SL x (xr (atX s.2.2.2 (skip g len s.2.1)) 1 f1) := hA.at.pf q1 ht
        refine r_aload_n dX5_readSum_52 rfl (by rfl) ?_
        refine r_aload_n dX5_readSum_53 rfl (by rfl) ?_
        refine r_iload_n dX5_readSum_54 rfl (by rfl) ?_
        refine r_callV (hu (skip g len s.2.1 + 1) (sz + s.2.2.1.length) (xr (atX s.2.2.2 (skip g len s.2.1)) 1 f1) B4 hzs (by omega)) mv_X5_readProduct ml_X5_48 ⟨by omega, by decide⟩ dX5_readSum_55 (by first | assumption | rfl) rfl rfl rfl (Nat.le_of_ble_eq_true rfl) (fun v9 x5 h5 => ?_)
        obtain ⟨rfl, h5⟩ := h5
        refine r_if_neB (tgt := 63) dX5_readSum_58 (by decide) (fun h58 => ?_) (fun h58 => ?_)
        · obtain ⟨r5, e5⟩ := okB_t h58
          have B5 := (h5.1.ok e5).1
          have A5 := A4.of h5.1 e5
          obtain ⟨z5, k5⟩ := h5.2 r5 e5
          have w5 := hLen _ _ e5
          have p5 := B5.2.2.2.1
          refine r_aload_n dX5_readSum_63 rfl (by rfl) ?_
          refine r_iload dX5_readSum_64 (by rfl) ?_
          refine r_bipush (v := nI 43) dX5_readSum_66 (by decide) ?_
          refine r_icmp_neN (tgt := 77) dX5_readSum_68 (by decide) (by omega) (by omega) (fun h68 => ?_) (fun h68 => ?_)
          · refine r_sipush (v := nI 2001) dX5_readSum_77 (by decide) ?_
            refine r_callV (c_X5_put z5 (by omega)) mv_X5_put ml_X5_59 ⟨by omega, by decide⟩ dX5_readSum_80 (by first | assumption | rfl) rfl rfl rfl (Nat.le_of_ble_eq_true rfl) (fun v9 x9 h9 => ?_)
            obtain ⟨rfl, h9⟩ := h9
            refine PW.xeq h9 ?_
            clear h9 x9
            refine r_iincN dX5_readSum_83 (by rfl) (by decide) ?_
            refine r_goto (tgt := 13) dX5_readSum_86 (by decide) ?_
            first
              | exact PW.lc (by rfl) rfl (sh (s.1 + 1, r5.2, (s.2.2.1 ++ (r5.1 ++ [2000])), xu (xu x5 31 (sz + s.2.2.1.length + r5.1.length) (nI 2000)) 30 1 (nI (sz + s.2.2.1.length + r5.1.length + 1))) ⟨(show s.1 + 1 < r5.2 by omega), (A5.puts (SL_ (by decide) (by decide)) (by decide)).puts (SL_ (by decide) (by decide)) (by decide), B5, (show nI _ = nI _ by congr 1; show _ = sz + (s.2.2.1 ++ (r5.1 ++ [2000])).length; rw [List.length_append, List.length_append, List.length_singleton]; omega), (by
                  show upd (x5 31) (sz + s.2.2.1.length + r5.1.length) (nI 2000) = wrL (x 31) sz (s.2.2.1 ++ (r5.1 ++ [2000]))
                  rw [wrL_app, wrL_app, ← hks, show sz + s.2.2.1.length + r5.1.length = (sz + s.2.2.1.length) + r5.1.length from rfl]
                  show upd (x5 31) _ _ = upd (wrL _ _ _) _ _
                  rw [k5]
                  rfl), (show sz + (s.2.2.1 ++ (r5.1 ++ [2000])).length ≤ r5.2 by rw [List.length_append, List.length_append, List.length_singleton]; omega), (by
                  rw [← hR, show 150 - s.1 = (150 - (s.1 + 1)) + 1 by omega, pLoop, if_pos hor, e5, xbn_ok, if_pos (show nxV g len s.2.1 = nI 43 by rw [hs1, h68])]
                  cases pLoop g len u 43 45 2000 2001 (150 - (s.1 + 1)) r5.2 with
                  | error e => rfl
                  | ok r => exact congrArg Except.ok (Prod.ext (show (s.2.2.1 ++ (r5.1 ++ [2000])) ++ r.1 = s.2.2.1 ++ (r5.1 ++ 2000 :: r.1) by simp) rfl))⟩ (show 150 - (s.1 + 1) < 150 - s.1 by omega))
              | exact PW.lc (by rfl) rfl (sh (s.1 + 1, r5.2, (s.2.2.1 ++ (r5.1 ++ [2001])), xu (xu x5 31 (sz + s.2.2.1.length + r5.1.length) (nI 2001)) 30 1 (nI (sz + s.2.2.1.length + r5.1.length + 1))) ⟨(show s.1 + 1 < r5.2 by omega), (A5.puts (SL_ (by decide) (by decide)) (by decide)).puts (SL_ (by decide) (by decide)) (by decide), B5, (show nI _ = nI _ by congr 1; show _ = sz + (s.2.2.1 ++ (r5.1 ++ [2001])).length; rw [List.length_append, List.length_append, List.length_singleton]; omega), (by
                  show upd (x5 31) (sz + s.2.2.1.length + r5.1.length) (nI 2001) = wrL (x 31) sz (s.2.2.1 ++ (r5.1 ++ [2001]))
                  rw [wrL_app, wrL_app, ← hks, show sz + s.2.2.1.length + r5.1.length = (sz + s.2.2.1.length) + r5.1.length from rfl]
                  show upd (x5 31) _ _ = upd (wrL _ _ _) _ _
                  rw [k5]
                  rfl), (show sz + (s.2.2.1 ++ (r5.1 ++ [2001])).length ≤ r5.2 by rw [List.length_append, List.length_append, List.length_singleton]; omega), (by
                  rw [← hR, show 150 - s.1 = (150 - (s.1 + 1)) + 1 by omega, pLoop, if_pos hor, e5, xbn_ok, if_neg (show ¬ nxV g len s.2.1 = nI 43 by rw [hs1]; intro q; exact h68 ((nI_eq (by omega) (by omega)).mp q))]
                  cases pLoop g len u 43 45 2000 2001 (150 - (s.1 + 1)) r5.2 with
                  | error e => rfl
                  | ok r => exact congrArg Except.ok (Prod.ext (show (s.2.2.1 ++ (r5.1 ++ [2001])) ++ r.1 = s.2.2.1 ++ (r5.1 ++ 2001 :: r.1) by simp) rfl))⟩ (show 150 - (s.1 + 1) < 150 - s.1 by omega))
          · refine r_sipush (v := nI 2000) dX5_readSum_71 (by decide) ?_
            refine r_goto (tgt := 80) dX5_readSum_74 (by decide) ?_
            refine r_callV (c_X5_put z5 (by omega)) mv_X5_put ml_X5_59 ⟨by omega, by decide⟩ dX5_readSum_80 (by first | assumption | rfl) rfl rfl rfl (Nat.le_of_ble_eq_true rfl) (fun v9 x9 h9 => ?_)
            obtain ⟨rfl, h9⟩ := h9
            refine PW.xeq h9 ?_
            clear h9 x9
            refine r_iincN dX5_readSum_83 (by rfl) (by decide) ?_
            refine r_goto (tgt := 13) dX5_readSum_86 (by decide) ?_
            first
              | exact PW.lc (by rfl) rfl (sh (s.1 + 1, r5.2, (s.2.2.1 ++ (r5.1 ++ [2000])), xu (xu x5 31 (sz + s.2.2.1.length + r5.1.length) (nI 2000)) 30 1 (nI (sz + s.2.2.1.length + r5.1.length + 1))) ⟨(show s.1 + 1 < r5.2 by omega), (A5.puts (SL_ (by decide) (by decide)) (by decide)).puts (SL_ (by decide) (by decide)) (by decide), B5, (show nI _ = nI _ by congr 1; show _ = sz + (s.2.2.1 ++ (r5.1 ++ [2000])).length; rw [List.length_append, List.length_append, List.length_singleton]; omega), (by
                  show upd (x5 31) (sz + s.2.2.1.length + r5.1.length) (nI 2000) = wrL (x 31) sz (s.2.2.1 ++ (r5.1 ++ [2000]))
                  rw [wrL_app, wrL_app, ← hks, show sz + s.2.2.1.length + r5.1.length = (sz + s.2.2.1.length) + r5.1.length from rfl]
                  show upd (x5 31) _ _ = upd (wrL _ _ _) _ _
                  rw [k5]
                  rfl), (show sz + (s.2.2.1 ++ (r5.1 ++ [2000])).length ≤ r5.2 by rw [List.length_append, List.length_append, List.length_singleton]; omega), (by
                  rw [← hR, show 150 - s.1 = (150 - (s.1 + 1)) + 1 by omega, pLoop, if_pos hor, e5, xbn_ok, if_pos (show nxV g len s.2.1 = nI 43 by rw [hs1, h68])]
                  cases pLoop g len u 43 45 2000 2001 (150 - (s.1 + 1)) r5.2 with
                  | error e => rfl
                  | ok r => exact congrArg Except.ok (Prod.ext (show (s.2.2.1 ++ (r5.1 ++ [2000])) ++ r.1 = s.2.2.1 ++ (r5.1 ++ 2000 :: r.1) by simp) rfl))⟩ (show 150 - (s.1 + 1) < 150 - s.1 by omega))
              | exact PW.lc (by rfl) rfl (sh (s.1 + 1, r5.2, (s.2.2.1 ++ (r5.1 ++ [2001])), xu (xu x5 31 (sz + s.2.2.1.length + r5.1.length) (nI 2001)) 30 1 (nI (sz + s.2.2.1.length + r5.1.length + 1))) ⟨(show s.1 + 1 < r5.2 by omega), (A5.puts (SL_ (by decide) (by decide)) (by decide)).puts (SL_ (by decide) (by decide)) (by decide), B5, (show nI _ = nI _ by congr 1; show _ = sz + (s.2.2.1 ++ (r5.1 ++ [2001])).length; rw [List.length_append, List.length_append, List.length_singleton]; omega), (by
                  show upd (x5 31) (sz + s.2.2.1.length + r5.1.length) (nI 2001) = wrL (x 31) sz (s.2.2.1 ++ (r5.1 ++ [2001]))
                  rw [wrL_app, wrL_app, ← hks, show sz + s.2.2.1.length + r5.1.length = (sz + s.2.2.1.length) + r5.1.length from rfl]
                  show upd (x5 31) _ _ = upd (wrL _ _ _) _ _
                  rw [k5]
                  rfl), (show sz + (s.2.2.1 ++ (r5.1 ++ [2001])).length ≤ r5.2 by rw [List.length_append, List.length_append, List.length_singleton]; omega), (by
                  rw [← hR, show 150 - s.1 = (150 - (s.1 + 1)) + 1 by omega, pLoop, if_pos hor, e5, xbn_ok, if_neg (show ¬ nxV g len s.2.1 = nI 43 by rw [hs1]; intro q; exact h68 ((nI_eq (by omega) (by omega)).mp q))]
                  cases pLoop g len u 43 45 2000 2001 (150 - (s.1 + 1)) r5.2 with
                  | error e => rfl
                  | ok r => exact congrArg Except.ok (Prod.ext (show (s.2.2.1 ++ (r5.1 ++ [2001])) ++ r.1 = s.2.2.1 ++ (r5.1 ++ 2001 :: r.1) by simp) rfl))⟩ (show 150 - (s.1 + 1) < 150 - s.1 by omega))
        · refine r_iconst (v := nI 0) dX5_readSum_61 (by decide) ?_
          refine r_zret rfl (by first | exact bI_01 _ | exact Or.inl rfl | exact Or.inr rfl) dX5_readSum_62 ?_
          first
            | (rw [ht] at h49; exact Bool.noConfusion (show true = false from h49))
            | (obtain ⟨er, e5⟩ := okB_f h58
               have w : (pChain g len u 43 45 2000 2001) a = .error er := by
                 rw [← hR, show 150 - s.1 = (149 - s.1) + 1 by omega, pLoop, if_pos hor, e5, xbn_err, xbn_err]
               exact ⟨by rw [w]; rfl, A4.perr h5.1 e5 w, fun q hq => by rw [w] at hq; cases hq⟩)
    · refine r_iload dX5_readSum_33 (by rfl) ?_
      refine r_bipush (v := nI 45) dX5_readSum_35 (by decide) ?_
      refine r_icmp_eq (tgt := 42) dX5_readSum_37 (by decide) (fun h37 => ?_) (fun h37 => ?_)
      · have hsg : ∃ c, nxV g len s.2.1 = nI c ∧ (c = 43 ∨ c = 45) := by first | exact ⟨43, h30, Or.inl rfl⟩ | exact ⟨45, h37, Or.inr rfl⟩
        obtain ⟨sg, hs1, hs2⟩ := hsg
        rw [hs1]
        have hsg2 : sg < 2 ^ 31 := by omega
        have ht : pTake g len sg (skip g len s.2.1) = .ok (skip g len s.2.1 + 1) := by
          rw [pTake_skip]
          unfold pTake
          rw [if_pos hs1]
        have hor : nxV g len s.2.1 = nI 43 ∨ nxV g len s.2.1 = nI 45 := by rcases hs2 with rfl | rfl; exact Or.inl hs1; exact Or.inr hs1
        have hge := skip_ge g len s.2.1
        refine r_aload_n dX5_readSum_42 rfl (by rfl) ?_
        refine r_iload dX5_readSum_43 (by rfl) ?_
        refine r_i2c (v := nI sg) dX5_readSum_45 (by rcases hs2 with rfl | rfl <;> decide +kernel) ?_
        refine r_callV (c_X8_take B0) mv_X8_take ml_X5_55 ⟨by omega, by decide⟩ dX5_readSum_46 (by first | assumption | rfl) rfl rfl rfl (Nat.le_of_ble_eq_true rfl) (fun v9 x9 h9 => ?_)
        obtain ⟨rfl, h9⟩ := h9
        obtain ⟨v9, f1, e9, q1⟩ := tak_rel (x := atX s.2.2.2 (skip g len s.2.1)) (c := sg) B0
        have q1 := q1 (nI_ne1 hsg2)
        refine PW.topi (congrArg bI v9) ?_
        refine PW.xeq (h9.trans e9) ?_
        clear h9 x9 v9 e9
        refine r_if_eqB (tgt := 61) dX5_readSum_49 (by decide) (fun h49 => ?_) (fun h49 => ?_)
        · refine r_iconst (v := nI 0) dX5_readSum_61 (by decide) ?_
          refine r_zret rfl (by first | exact bI_01 _ | exact Or.inl rfl | exact Or.inr rfl) dX5_readSum_62 ?_
          first
            | (rw [ht] at h49; exact Bool.noConfusion (show true = false from h49))
            | (obtain ⟨er, e5⟩ := okB_f h58
               have w : (pChain g len u 43 45 2000 2001) a = .error er := by
                 rw [← hR, show 150 - s.1 = (149 - s.1) + 1 by omega, pLoop, if_pos hor, e5, xbn_err, xbn_err]
               exact ⟨by rw [w]; rfl, A4.perr h5.1 e5 w, fun q hq => by rw [w] at hq; cases hq⟩)
        · have B4 : TP (xr (atX s.2.2.2 (skip g len s.2.1)) 1 f1) g len (skip g len s.2.1 + 1) := q1.tp B0 ht
          have A4 : AC SL x (xr (atX s.2.2.2 (skip g len s.2.1)) 1 f1) := hA.at.pf q1 ht
          refine r_aload_n dX5_readSum_52 rfl (by rfl) ?_
          refine r_aload_n dX5_readSum_53 rfl (by rfl) ?_
          refine r_iload_n dX5_readSum_54 rfl (by rfl) ?_
          refine r_callV (hu (skip g len s.2.1 + 1) (sz + s.2.2.1.length) (xr (atX s.2.2.2 (skip g len s.2.1)) 1 f1) B4 hzs (by omega)) mv_X5_readProduct ml_X5_48 ⟨by omega, by decide⟩ dX5_readSum_55 (by first | assumption | rfl) rfl rfl rfl (Nat.le_of_ble_eq_true rfl) (fun v9 x5 h5 => ?_)
          obtain ⟨rfl, h5⟩ := h5
          refine r_if_neB (tgt := 63) dX5_readSum_58 (by decide) (fun h58 => ?_) (fun h58 => ?_)
          · obtain ⟨r5, e5⟩ := okB_t h58
            have B5 := (h5.1.ok e5).1
            have A5 := A4.of h5.1 e5
            obtain ⟨z5, k5⟩ := h5.2 r5 e5
            have w5 := hLen _ _ e5
            have p5 := B5.2.2.2.1
            refine r_aload_n dX5_readSum_63 rfl (by rfl) ?_
            refine r_iload dX5_readSum_64 (by rfl) ?_
            refine r_bipush (v := nI 43) dX5_readSum_66 (by decide) ?_
            refine r_icmp_neN (tgt := 77) dX5_readSum_68 (by decide) (by omega) (by omega) (fun h68 => ?_) (fun h68 => ?_)
            · refine r_sipush (v := nI 2001) dX5_readSum_77 (by decide) ?_
              refine r_callV (c_X5_put z5 (by omega)) mv_X5_put ml_X5_59 ⟨by omega, by decide⟩ dX5_readSum_80 (by first | assumption | rfl) rfl rfl rfl (Nat.le_of_ble_eq_true rfl) (fun v9 x9 h9 => ?_)
              obtain ⟨rfl, h9⟩ := h9
              refine PW.xeq h9 ?_
              clear h9 x9
              refine r_iincN dX5_readSum_83 (by rfl) (by decide) ?_
              refine r_goto (tgt := 13) dX5_readSum_86 (by decide) ?_
              first
                | exact PW.lc (by rfl) rfl (sh (s.1 + 1, r5.2, (s.2.2.1 ++ (r5.1 ++ [2000])), xu (xu x5 31 (sz + s.2.2.1.length + r5.1.length) (nI 2000)) 30 1 (nI (sz + s.2.2.1.length + r5.1.length + 1))) ⟨(show s.1 + 1 < r5.2 by omega), (A5.puts (SL_ (by decide) (by decide)) (by decide)).puts (SL_ (by decide) (by decide)) (by decide), B5, (show nI _ = nI _ by congr 1; show _ = sz + (s.2.2.1 ++ (r5.1 ++ [2000])).length; rw [List.length_append, List.length_append, List.length_singleton]; omega), (by
                    show upd (x5 31) (sz + s.2.2.1.length + r5.1.length) (nI 2000) = wrL (x 31) sz (s.2.2.1 ++ (r5.1 ++ [2000]))
                    rw [wrL_app, wrL_app, ← hks, show sz + s.2.2.1.length + r5.1.length = (sz + s.2.2.1.length) + r5.1.length from rfl]
                    show upd (x5 31) _ _ = upd (wrL _ _ _) _ _
                    rw [k5]
                    rfl), (show sz + (s.2.2.1 ++ (r5.1 ++ [2000])).length ≤ r5.2 by rw [List.length_append, List.length_append, List.length_singleton]; omega), (by
                    rw [← hR, show 150 - s.1 = (150 - (s.1 + 1)) + 1 by omega, pLoop, if_pos hor, e5, xbn_ok, if_pos (show nxV g len s.2.1 = nI 43 by rw [hs1, h68])]
                    cases pLoop g len u 43 45 2000 2001 (150 - (s.1 + 1)) r5.2 with
                    | error e => rfl
                    | ok r => exact congrArg Except.ok (Prod.ext (show (s.2.2.1 ++ (r5.1 ++ [2000])) ++ r.1 = s.2.2.1 ++ (r5.1 ++ 2000 :: r.1) by simp) rfl))⟩ (show 150 - (s.1 + 1) < 150 - s.1 by omega))
                | exact PW.lc (by rfl) rfl (sh (s.1 + 1, r5.2, (s.2.2.1 ++ (r5.1 ++ [2001])), xu (xu x5 31 (sz + s.2.2.1.length + r5.1.length) (nI 2001)) 30 1 (nI (sz + s.2.2.1.length + r5.1.length + 1))) ⟨(show s.1 + 1 < r5.2 by omega), (A5.puts (SL_ (by decide) (by decide)) (by decide)).puts (SL_ (by decide) (by decide)) (by decide), B5, (show nI _ = nI _ by congr 1; show _ = sz + (s.2.2.1 ++ (r5.1 ++ [2001])).length; rw [List.length_append, List.length_append, List.length_singleton]; omega), (by
                    show upd (x5 31) (sz + s.2.2.1.length + r5.1.length) (nI 2001) = wrL (x 31) sz (s.2.2.1 ++ (r5.1 ++ [2001]))
                    rw [wrL_app, wrL_app, ← hks, show sz + s.2.2.1.length + r5.1.length = (sz + s.2.2.1.length) + r5.1.length from rfl]
                    show upd (x5 31) _ _ = upd (wrL _ _ _) _ _
                    rw [k5]
                    rfl), (show sz + (s.2.2.1 ++ (r5.1 ++ [2001])).length ≤ r5.2 by rw [List.length_append, List.length_append, List.length_singleton]; omega), (by
                    rw [← hR, show 150 - s.1 = (150 - (s.1 + 1)) + 1 by omega, pLoop, if_pos hor, e5, xbn_ok, if_neg (show ¬ nxV g len s.2.1 = nI 43 by rw [hs1]; intro q; exact h68 ((nI_eq (by omega) (by omega)).mp q))]
                    cases pLoop g len u 43 45 2000 2001 (150 - (s.1 + 1)) r5.2 with
                    | error e => rfl
                    | ok r => exact congrArg Except.ok (Prod.ext (show (s.2.2.1 ++ (r5.1 ++ [2001])) ++ r.1 = s.2.2.1 ++ (r5.1 ++ 2001 :: r.1) by simp) rfl))⟩ (show 150 - (s.1 + 1) < 150 - s.1 by omega))
            · refine r_sipush (v := nI 2000) dX5_readSum_71 (by decide) ?_
              refine r_goto (tgt := 80) dX5_readSum_74 (by decide) ?_
              refine r_callV (c_X5_put z5 (by omega)) mv_X5_put ml_X5_59 ⟨by omega, by decide⟩ dX5_readSum_80 (by first | assumption | rfl) rfl rfl rfl (Nat.le_of_ble_eq_true rfl) (fun v9 x9 h9 => ?_)
              obtain ⟨rfl, h9⟩ := h9
              refine PW.xeq h9 ?_
              clear h9 x9
              refine r_iincN dX5_readSum_83 (by rfl) (by decide) ?_
              refine r_goto (tgt := 13) dX5_readSum_86 (by decide) ?_
              first
                | exact PW.lc (by rfl) rfl (sh (s.1 + 1, r5.2, (s.2.2.1 ++ (r5.1 ++ [2000])), xu (xu x5 31 (sz + s.2.2.1.length + r5.1.length) (nI 2000)) 30 1 (nI (sz + s.2.2.1.length + r5.1.length + 1))) ⟨(show s.1 + 1 < r5.2 by omega), (A5.puts (SL_ (by decide) (by decide)) (by decide)).puts (SL_ (by decide) (by decide)) (by decide), B5, (show nI _ = nI _ by congr 1; show _ = sz + (s.2.2.1 ++ (r5.1 ++ [2000])).length; rw [List.length_append, List.length_append, List.length_singleton]; omega), (by
                    show upd (x5 31) (sz + s.2.2.1.length + r5.1.length) (nI 2000) = wrL (x 31) sz (s.2.2.1 ++ (r5.1 ++ [2000]))
                    rw [wrL_app, wrL_app, ← hks, show sz + s.2.2.1.length + r5.1.length = (sz + s.2.2.1.length) + r5.1.length from rfl]
                    show upd (x5 31) _ _ = upd (wrL _ _ _) _ _
                    rw [k5]
                    rfl), (show sz + (s.2.2.1 ++ (r5.1 ++ [2000])).length ≤ r5.2 by rw [List.length_append, List.length_append, List.length_singleton]; omega), (by
                    rw [← hR, show 150 - s.1 = (150 - (s.1 + 1)) + 1 by omega, pLoop, if_pos hor, e5, xbn_ok, if_pos (show nxV g len s.2.1 = nI 43 by rw [hs1, h68])]
                    cases pLoop g len u 43 45 2000 2001 (150 - (s.1 + 1)) r5.2 with
                    | error e => rfl
                    | ok r => exact congrArg Except.ok (Prod.ext (show (s.2.2.1 ++ (r5.1 ++ [2000])) ++ r.1 = s.2.2.1 ++ (r5.1 ++ 2000 :: r.1) by simp) rfl))⟩ (show 150 - (s.1 + 1) < 150 - s.1 by omega))
                | exact PW.lc (by rfl) rfl (sh (s.1 + 1, r5.2, (s.2.2.1 ++ (r5.1 ++ [2001])), xu (xu x5 31 (sz + s.2.2.1.length + r5.1.length) (nI 2001)) 30 1 (nI (sz + s.2.2.1.length + r5.1.length + 1))) ⟨(show s.1 + 1 < r5.2 by omega), (A5.puts (SL_ (by decide) (by decide)) (by decide)).puts (SL_ (by decide) (by decide)) (by decide), B5, (show nI _ = nI _ by congr 1; show _ = sz + (s.2.2.1 ++ (r5.1 ++ [2001])).length; rw [List.length_append, List.length_append, List.length_singleton]; omega), (by
                    show upd (x5 31) (sz + s.2.2.1.length + r5.1.length) (nI 2001) = wrL (x 31) sz (s.2.2.1 ++ (r5.1 ++ [2001]))
                    rw [wrL_app, wrL_app, ← hks, show sz + s.2.2.1.length + r5.1.length = (sz + s.2.2.1.length) + r5.1.length from rfl]
                    show upd (x5 31) _ _ = upd (wrL _ _ _) _ _
                    rw [k5]
                    rfl), (show sz + (s.2.2.1 ++ (r5.1 ++ [2001])).length ≤ r5.2 by rw [List.length_append, List.length_append, List.length_singleton]; omega), (by
                    rw [← hR, show 150 - s.1 = (150 - (s.1 + 1)) + 1 by omega, pLoop, if_pos hor, e5, xbn_ok, if_neg (show ¬ nxV g len s.2.1 = nI 43 by rw [hs1]; intro q; exact h68 ((nI_eq (by omega) (by omega)).mp q))]
                    cases pLoop g len u 43 45 2000 2001 (150 - (s.1 + 1)) r5.2 with
                    | error e => rfl
                    | ok r => exact congrArg Except.ok (Prod.ext (show (s.2.2.1 ++ (r5.1 ++ [2001])) ++ r.1 = s.2.2.1 ++ (r5.1 ++ 2001 :: r.1) by simp) rfl))⟩ (show 150 - (s.1 + 1) < 150 - s.1 by omega))
          · refine r_iconst (v := nI 0) dX5_readSum_61 (by decide) ?_
            refine r_zret rfl (by first | exact bI_01 _ | exact Or.inl rfl | exact Or.inr rfl) dX5_readSum_62 ?_
            first
              | (rw [ht] at h49; exact Bool.noConfusion (show true = false from h49))
              | (obtain ⟨er, e5⟩ := okB_f h58
                 have w : (pChain g len u 43 45 2000 2001) a = .error er := by
                   rw [← hR, show 150 - s.1 = (149 - s.1) + 1 by omega, pLoop, if_pos hor, e5, xbn_err, xbn_err]
                 exact ⟨by rw [w]; rfl, A4.perr h5.1 e5 w, fun q hq => by rw [w] at hq; cases hq⟩)
      · refine r_iconst (v := nI 1) dX5_readSum_40 (by decide) ?_
        refine r_zret rfl (by first | exact bI_01 _ | exact Or.inl rfl | exact Or.inr rfl) dX5_readSum_41 ?_
        have w : (pChain g len u 43 45 2000 2001) a = .ok (s.2.2.1, skip g len s.2.1) := by
          rw [← hR, show 150 - s.1 = (149 - s.1) + 1 by omega, pLoop, if_neg (by intro q; rcases q with q | q; exact h30 q; exact h37 q), xbn_ok, List.append_nil]
        exact ⟨by rw [w]; rfl, hA.at.fin (q := (s.2.2.1, skip g len s.2.1)) B0 w, fun q hq => by
          rw [w] at hq
          injection hq with hq
          subst hq
          exact ⟨hzs, hks⟩⟩
  · refine r_iconst (v := nI 0) dX5_readSum_9 (by decide) ?_
    refine r_zret rfl (by first | exact bI_01 _ | exact Or.inl rfl | exact Or.inr rfl) dX5_readSum_10 ?_
    obtain ⟨er, e3⟩ := okB_f h6
    have w : (pChain g len u 43 45 2000 2001) a = .error er := by unfold pChain; rw [e3, xbn_err]
    exact ⟨by rw [w]; rfl, h3.1.cut e3 w, fun q hq => by rw [w] at hq; cases hq⟩
set_option maxHeartbeats 8000000 in
set_option maxRecDepth 20000 in
theorem c_X5_readProduct {g : Nat → Nat} {len d op a sz : Nat} {u : Nat → LR} {x : XS} (hl : len ≤ 150) (hd : 1 ≤ d) (hu : LPc g len mX5_readUnit d op u) (hLen : LenOK len u) (hT : TP x g len a) (hz : x 30 1 = nI sz) (hsz : sz ≤ a) : MM mX5_readProduct (d + 1) 0 0 [.ref 30, .ref 1, .int (nI op)] x (LPq g len (pChain g len u 42 47 2002 2003) a sz x) NoT := by
  refine MM.of (by decide) (Nat.le_of_ble_eq_true rfl) ?_
  have y1 := lay_1
  have y2 := lay_2
  have y30 := lay_30
  have y31 := lay_31
  refine r_aload_n dX5_readProduct_0 rfl (by rfl) ?_
  refine r_aload_n dX5_readProduct_1 rfl (by rfl) ?_
  refine r_iload_n dX5_readProduct_2 rfl (by rfl) ?_
  refine r_callV (hu a sz x hT hz hsz) mv_X5_readUnit ml_X5_63 ⟨by omega, by decide⟩ dX5_readProduct_3 (by first | assumption | rfl) rfl rfl rfl (Nat.le_of_ble_eq_true rfl) (fun v9 x3 h3 => ?_)
  obtain ⟨rfl, h3⟩ := h3
  refine r_if_neB (tgt := 11) dX5_readProduct_6 (by decide) (fun h6 => ?_) (fun h6 => ?_)
  · obtain ⟨r3, e3⟩ := okB_t h6
    have B3 := (h3.1.ok e3).1
    have A3 := AC.rfl.of h3.1 e3
    obtain ⟨z3, k3⟩ := h3.2 r3 e3
    have w3 := hLen _ _ e3
    have p3 := B3.2.2.2.1
    refine r_iconst (v := nI 0) dX5_readProduct_11 (by decide) ?_
    refine r_istore_n dX5_readProduct_12 rfl (by decide) ?_
    refine PW.loop (σ := Nat × Nat × List Nat × XS) (fun s => 150 - s.1) (fun s => s.1 < s.2.1 ∧ AC SL x s.2.2.2 ∧ TP s.2.2.2 g len s.2.1 ∧ s.2.2.2 30 1 = nI (sz + s.2.2.1.length) ∧ s.2.2.2 31 = wrL (x 31) sz s.2.2.1 ∧ sz + s.2.2.1.length ≤ s.2.1 ∧ xbn (pLoop g len u 42 47 2002 2003 (150 - s.1) s.2.1) (fun r => .ok (s.2.2.1 ++ r.1, r.2)) = (pChain g len u 42 47 2002 2003) a) (fun s => [(0, .ref 30), (1, .ref 1), (2, .int (nI op)), (3, .int (nI s.1))]) (fun s => s.2.2.2) ((0, r3.2, r3.1, x3)) (⟨(show 0 < r3.2 by omega), A3, B3, z3, k3, (show sz + r3.1.length ≤ r3.2 by omega), (show xbn (pLoop g len u 42 47 2002 2003 150 r3.2) _ = (pChain g len u 42 47 2002 2003) a by unfold pChain; rw [e3, xbn_ok])⟩) rfl rfl (fun s hs sh => ?_)
    obtain ⟨hs0, hA, hTs, hzs, hks, hsa, hR⟩ := hs
    have hal := hTs.2.2.2.1
    refine r_iload_n dX5_readProduct_13 rfl (by rfl) ?_
    refine r_sipush (v := nI 150) dX5_readProduct_14 (by decide) ?_
    refine r_icmp_geN (tgt := 89) dX5_readProduct_17 (by decide) (by omega) (by omega) (fun h17 => by exfalso; omega) (fun _ => ?_)
    refine r_aload_n dX5_readProduct_20 rfl (by rfl) ?_
    refine r_callV (c_X8_next hTs) mv_X8_next ml_X5_51 ⟨by omega, by decide⟩ dX5_readProduct_21 (by first | assumption | rfl) rfl rfl rfl (Nat.le_of_ble_eq_true rfl) (fun v9 x9 h9 => ?_)
    obtain ⟨rfl, h9⟩ := h9
    refine PW.xeq h9 ?_
    clear h9 x9
    refine r_istore dX5_readProduct_24 (by decide) ?_
    have B0 : TP (atX s.2.2.2 (skip g len s.2.1)) g len (skip g len s.2.1) := hTs.at (skip_le hTs.2.2.2.1)
    refine r_iload dX5_readProduct_26 (by rfl) ?_
    refine r_bipush (v := nI 42) dX5_readProduct_28 (by decide) ?_
    refine r_icmp_eq (tgt := 42) dX5_readProduct_30 (by decide) (fun h30 => ?_) (fun h30 => ?_)
    · have hsg : ∃ c, nxV g len s.2.1 = nI c ∧ (c = 42 ∨ c = 47) := by first | exact ⟨42, h30, Or.inl rfl⟩ | exact ⟨47, h37, Or.inr rfl⟩
      obtain ⟨sg, hs1, hs2⟩ := hsg
      rw [hs1]
      have hsg2 : sg < 2 ^ 31 := by omega
      have ht : pTake g len sg (skip g len s.2.1) = .ok (skip g len s.2.1 + 1) := by
        rw [pTake_skip]
        unfold pTake
        rw [if_pos hs1]
      have hor : nxV g len s.2.1 = nI 42 ∨ nxV g len s.2.1 = nI 47 := by rcases hs2 with rfl | rfl; exact Or.inl hs1; exact Or.inr hs1
      have hge := skip_ge g len s.2.1
      refine r_aload_n dX5_readProduct_42 rfl (by rfl) ?_
      refine r_iload dX5_readProduct_43 (by rfl) ?_
      refine r_i2c (v := nI sg) dX5_readProduct_45 (by rcases hs2 with rfl | rfl <;> decide +kernel) ?_
      refine r_callV (c_X8_take B0) mv_X8_take ml_X5_55 ⟨by omega, by decide⟩ dX5_readProduct_46 (by first | assumption | rfl) rfl rfl rfl (Nat.le_of_ble_eq_true rfl) (fun v9 x9 h9 => ?_)
      obtain ⟨rfl, h9⟩ := h9
      obtain ⟨v9, f1, e9, q1⟩ := tak_rel (x := atX s.2.2.2 (skip g len s.2.1)) (c := sg) B0
      have q1 := q1 (nI_ne1 hsg2)
      refine PW.topi (congrArg bI v9) ?_
      refine PW.xeq (h9.trans e9) ?_
      clear h9 x9 v9 e9
      refine r_if_eqB (tgt := 61) dX5_readProduct_49 (by decide) (fun h49 => ?_) (fun h49 => ?_)
      · refine r_iconst (v := nI 0) dX5_readProduct_61 (by decide) ?_
        refine r_zret rfl (by first | exact bI_01 _ | exact Or.inl rfl | exact Or.inr rfl) dX5_readProduct_62 ?_
        first
          | (rw [ht] at h49; exact Bool.noConfusion (show true = false from h49))
          | (obtain ⟨er, e5⟩ := okB_f h58
             have w : (pChain g len u 42 47 2002 2003) a = .error er := by
               rw [← hR, show 150 - s.1 = (149 - s.1) + 1 by omega, pLoop, if_pos hor, e5, xbn_err, xbn_err]
             exact ⟨by rw [w]; rfl, A4.perr h5.1 e5 w, fun q hq => by rw [w] at hq; cases hq⟩)
      · have B4 : TP (xr (atX s.2.2.2 (skip g len s.2.1)) 1 f1) g len (skip g len s.2.1 + 1) := q1.tp B0 ht
        have A4 : AC SL x (xr (atX s.2.2.2 (skip g len s.2.1)) 1 f1) := hA.at.pf q1 ht
        refine r_aload_n dX5_readProduct_52 rfl (by rfl) ?_
        refine r_aload_n dX5_readProduct_53 rfl (by rfl) ?_
        refine r_iload_n dX5_readProduct_54 rfl (by rfl) ?_
        refine r_callV (hu (skip g len s.2.1 + 1) (sz + s.2.2.1.length) (xr (atX s.2.2.2 (skip g len s.2.1)) 1 f1) B4 hzs (by omega)) mv_X5_readUnit ml_X5_63 ⟨by omega, by decide⟩ dX5_readProduct_55 (by first | assumption | rfl) rfl rfl rfl (Nat.le_of_ble_eq_true rfl) (fun v9 x5 h5 => ?_)
        obtain ⟨rfl, h5⟩ := h5
        refine r_if_neB (tgt := 63) dX5_readProduct_58 (by decide) (fun h58 => ?_) (fun h58 => ?_)
        · obtain ⟨r5, e5⟩ := okB_t h58
          have B5 := (h5.1.ok e5).1
          have A5 := A4.of h5.1 e5
          obtain ⟨z5, k5⟩ := h5.2 r5 e5
          have w5 := hLen _ _ e5
          have p5 := B5.2.2.2.1
          refine r_aload_n dX5_readProduct_63 rfl (by rfl) ?_
          refine r_iload dX5_readProduct_64 (by rfl) ?_
          refine r_bipush (v := nI 42) dX5_readProduct_66 (by decide) ?_
          refine r_icmp_neN (tgt := 77) dX5_readProduct_68 (by decide) (by omega) (by omega) (fun h68 => ?_) (fun h68 => ?_)
          · refine r_sipush (v := nI 2003) dX5_readProduct_77 (by decide) ?_
            refine r_callV (c_X5_put z5 (by omega)) mv_X5_put ml_X5_59 ⟨by omega, by decide⟩ dX5_readProduct_80 (by first | assumption | rfl) rfl rfl rfl (Nat.le_of_ble_eq_true rfl) (fun v9 x9 h9 => ?_)
            obtain ⟨rfl, h9⟩ := h9
            refine PW.xeq h9 ?_
            clear h9 x9
            refine r_iincN dX5_readProduct_83 (by rfl) (by decide) ?_
            refine r_goto (tgt := 13) dX5_readProduct_86 (by decide) ?_
            first
              | exact PW.lc (by rfl) rfl (sh (s.1 + 1, r5.2, (s.2.2.1 ++ (r5.1 ++ [2002])), xu (xu x5 31 (sz + s.2.2.1.length + r5.1.length) (nI 2002)) 30 1 (nI (sz + s.2.2.1.length + r5.1.length + 1))) ⟨(show s.1 + 1 < r5.2 by omega), (A5.puts (SL_ (by decide) (by decide)) (by decide)).puts (SL_ (by decide) (by decide)) (by decide), B5, (show nI _ = nI _ by congr 1; show _ = sz + (s.2.2.1 ++ (r5.1 ++ [2002])).length; rw [List.length_append, List.length_append, List.length_singleton]; omega), (by
                  show upd (x5 31) (sz + s.2.2.1.length + r5.1.length) (nI 2002) = wrL (x 31) sz (s.2.2.1 ++ (r5.1 ++ [2002]))
                  rw [wrL_app, wrL_app, ← hks, show sz + s.2.2.1.length + r5.1.length = (sz + s.2.2.1.length) + r5.1.length from rfl]
                  show upd (x5 31) _ _ = upd (wrL _ _ _) _ _
                  rw [k5]
                  rfl), (show sz + (s.2.2.1 ++ (r5.1 ++ [2002])).length ≤ r5.2 by rw [List.length_append, List.length_append, List.length_singleton]; omega), (by
                  rw [← hR, show 150 - s.1 = (150 - (s.1 + 1)) + 1 by omega, pLoop, if_pos hor, e5, xbn_ok, if_pos (show nxV g len s.2.1 = nI 42 by rw [hs1, h68])]
                  cases pLoop g len u 42 47 2002 2003 (150 - (s.1 + 1)) r5.2 with
                  | error e => rfl
                  | ok r => exact congrArg Except.ok (Prod.ext (show (s.2.2.1 ++ (r5.1 ++ [2002])) ++ r.1 = s.2.2.1 ++ (r5.1 ++ 2002 :: r.1) by simp) rfl))⟩ (show 150 - (s.1 + 1) < 150 - s.1 by omega))
              | exact PW.lc (by rfl) rfl (sh (s.1 + 1, r5.2, (s.2.2.1 ++ (r5.1 ++ [2003])), xu (xu x5 31 (sz + s.2.2.1.length + r5.1.length) (nI 2003)) 30 1 (nI (sz + s.2.2.1.length + r5.1.length + 1))) ⟨(show s.1 + 1 < r5.2 by omega), (A5.puts (SL_ (by decide) (by decide)) (by decide)).puts (SL_ (by decide) (by decide)) (by decide), B5, (show nI _ = nI _ by congr 1; show _ = sz + (s.2.2.1 ++ (r5.1 ++ [2003])).length; rw [List.length_append, List.length_append, List.length_singleton]; omega), (by
                  show upd (x5 31) (sz + s.2.2.1.length + r5.1.length) (nI 2003) = wrL (x 31) sz (s.2.2.1 ++ (r5.1 ++ [2003]))
                  rw [wrL_app, wrL_app, ← hks, show sz + s.2.2.1.length + r5.1.length = (sz + s.2.2.1.length) + r5.1.length from rfl]
                  show upd (x5 31) _ _ = upd (wrL _ _ _) _ _
                  rw [k5]
                  rfl), (show sz + (s.2.2.1 ++ (r5.1 ++ [2003])).length ≤ r5.2 by rw [List.length_append, List.length_append, List.length_singleton]; omega), (by
                  rw [← hR, show 150 - s.1 = (150 - (s.1 + 1)) + 1 by omega, pLoop, if_pos hor, e5, xbn_ok, if_neg (show ¬ nxV g len s.2.1 = nI 42 by rw [hs1]; intro q; exact h68 ((nI_eq (by omega) (by omega)).mp q))]
                  cases pLoop g len u 42 47 2002 2003 (150 - (s.1 + 1)) r5.2 with
                  | error e => rfl
                  | ok r => exact congrArg Except.ok (Prod.ext (show (s.2.2.1 ++ (r5.1 ++ [2003])) ++ r.1 = s.2.2.1 ++ (r5.1 ++ 2003 :: r.1) by simp) rfl))⟩ (show 150 - (s.1 + 1) < 150 - s.1 by omega))
          · refine r_sipush (v := nI 2002) dX5_readProduct_71 (by decide) ?_
            refine r_goto (tgt := 80) dX5_readProduct_74 (by decide) ?_
            refine r_callV (c_X5_put z5 (by omega)) mv_X5_put ml_X5_59 ⟨by omega, by decide⟩ dX5_readProduct_80 (by first | assumption | rfl) rfl rfl rfl (Nat.le_of_ble_eq_true rfl) (fun v9 x9 h9 => ?_)
            obtain ⟨rfl, h9⟩ := h9
            refine PW.xeq h9 ?_
            clear h9 x9
            refine r_iincN dX5_readProduct_83 (by rfl) (by decide) ?_
            refine r_goto (tgt := 13) dX5_readProduct_86 (by decide) ?_
            first
              | exact PW.lc (by rfl) rfl (sh (s.1 + 1, r5.2, (s.2.2.1 ++ (r5.1 ++ [2002])), xu (xu x5 31 (sz + s.2.2.1.length + r5.1.length) (nI 2002)) 30 1 (nI (sz + s.2.2.1.length + r5.1.length + 1))) ⟨(show s.1 + 1 < r5.2 by omega), (A5.puts (SL_ (by decide) (by decide)) (by decide)).puts (SL_ (by decide) (by decide)) (by decide), B5, (show nI _ = nI _ by congr 1; show _ = sz + (s.2.2.1 ++ (r5.1 ++ [2002])).length; rw [List.length_append, List.length_append, List.length_singleton]; omega), (by
                  show upd (x5 31) (sz + s.2.2.1.length + r5.1.length) (nI 2002) = wrL (x 31) sz (s.2.2.1 ++ (r5.1 ++ [2002]))
                  rw [wrL_app, wrL_app, ← hks, show sz + s.2.2.1.length + r5.1.length = (sz + s.2.2.1.length) + r5.1.length from rfl]
                  show upd (x5 31) _ _ = upd (wrL _ _ _) _ _
                  rw [k5]
                  rfl), (show sz + (s.2.2.1 ++ (r5.1 ++ [2002])).length ≤ r5.2 by rw [List.length_append, List.length_append, List.length_singleton]; omega), (by
                  rw [← hR, show 150 - s.1 = (150 - (s.1 + 1)) + 1 by omega, pLoop, if_pos hor, e5, xbn_ok, if_pos (show nxV g len s.2.1 = nI 42 by rw [hs1, h68])]
                  cases pLoop g len u 42 47 2002 2003 (150 - (s.1 + 1)) r5.2 with
                  | error e => rfl
                  | ok r => exact congrArg Except.ok (Prod.ext (show (s.2.2.1 ++ (r5.1 ++ [2002])) ++ r.1 = s.2.2.1 ++ (r5.1 ++ 2002 :: r.1) by simp) rfl))⟩ (show 150 - (s.1 + 1) < 150 - s.1 by omega))
              | exact PW.lc (by rfl) rfl (sh (s.1 + 1, r5.2, (s.2.2.1 ++ (r5.1 ++ [2003])), xu (xu x5 31 (sz + s.2.2.1.length + r5.1.length) (nI 2003)) 30 1 (nI (sz + s.2.2.1.length + r5.1.length + 1))) ⟨(show s.1 + 1 < r5.2 by omega), (A5.puts (SL_ (by decide) (by decide)) (by decide)).puts (SL_ (by decide) (by decide)) (by decide), B5, (show nI _ = nI _ by congr 1; show _ = sz + (s.2.2.1 ++ (r5.1 ++ [2003])).length; rw [List.length_append, List.length_append, List.length_singleton]; omega), (by
                  show upd (x5 31) (sz + s.2.2.1.length + r5.1.length) (nI 2003) = wrL (x 31) sz (s.2.2.1 ++ (r5.1 ++ [2003]))
                  rw [wrL_app, wrL_app, ← hks, show sz + s.2.2.1.length + r5.1.length = (sz + s.2.2.1.length) + r5.1.length from rfl]
                  show upd (x5 31) _ _ = upd (wrL _ _ _) _ _
                  rw [k5]
                  rfl), (show sz + (s.2.2.1 ++ (r5.1 ++ [2003])).length ≤ r5.2 by rw [List.length_append, List.length_append, List.length_singleton]; omega), (by
                  rw [← hR, show 150 - s.1 = (150 - (s.1 + 1)) + 1 by omega, pLoop, if_pos hor, e5, xbn_ok, if_neg (show ¬ nxV g len s.2.1 = nI 42 by rw [hs1]; intro q; exact h68 ((nI_eq (by omega) (by omega)).mp q))]
                  cases pLoop g len u 42 47 2002 2003 (150 - (s.1 + 1)) r5.2 with
                  | error e => rfl
                  | ok r => exact congrArg Except.ok (Prod.ext (show (s.2.2.1 ++ (r5.1 ++ [2003])) ++ r.1 = s.2.2.1 ++ (r5.1 ++ 2003 :: r.1) by simp) rfl))⟩ (show 150 - (s.1 + 1) < 150 - s.1 by omega))
        · refine r_iconst (v := nI 0) dX5_readProduct_61 (by decide) ?_
          refine r_zret rfl (by first | exact bI_01 _ | exact Or.inl rfl | exact Or.inr rfl) dX5_readProduct_62 ?_
          first
            | (rw [ht] at h49; exact Bool.noConfusion (show true = false from h49))
            | (obtain ⟨er, e5⟩ := okB_f h58
               have w : (pChain g len u 42 47 2002 2003) a = .error er := by
                 rw [← hR, show 150 - s.1 = (149 - s.1) + 1 by omega, pLoop, if_pos hor, e5, xbn_err, xbn_err]
               exact ⟨by rw [w]; rfl, A4.perr h5.1 e5 w, fun q hq => by rw [w] at hq; cases hq⟩)
    · refine r_iload dX5_readProduct_33 (by rfl) ?_
      refine r_bipush (v := nI 47) dX5_readProduct_35 (by decide) ?_
      refine r_icmp_eq (tgt := 42) dX5_readProduct_37 (by decide) (fun h37 => ?_) (fun h37 => ?_)
      · have hsg : ∃ c, nxV g len s.2.1 = nI c ∧ (c = 42 ∨ c = 47) := by first | exact ⟨42, h30, Or.inl rfl⟩ | exact ⟨47, h37, Or.inr rfl⟩
        obtain ⟨sg, hs1, hs2⟩ := hsg
        rw [hs1]
        have hsg2 : sg < 2 ^ 31 := by omega
        have ht : pTake g len sg (skip g len s.2.1) = .ok (skip g len s.2.1 + 1) := by
          rw [pTake_skip]
          unfold pTake
          rw [if_pos hs1]
        have hor : nxV g len s.2.1 = nI 42 ∨ nxV g len s.2.1 = nI 47 := by rcases hs2 with rfl | rfl; exact Or.inl hs1; exact Or.inr hs1
        have hge := skip_ge g len s.2.1
        refine r_aload_n dX5_readProduct_42 rfl (by rfl) ?_
        refine r_iload dX5_readProduct_43 (by rfl) ?_
        refine r_i2c (v := nI sg) dX5_readProduct_45 (by rcases hs2 with rfl | rfl <;> decide +kernel) ?_
        refine r_callV (c_X8_take B0) mv_X8_take ml_X5_55 ⟨by omega, by decide⟩ dX5_readProduct_46 (by first | assumption | rfl) rfl rfl rfl (Nat.le_of_ble_eq_true rfl) (fun v9 x9 h9 => ?_)
        obtain ⟨rfl, h9⟩ := h9
        obtain ⟨v9, f1, e9, q1⟩ := tak_rel (x := atX s.2.2.2 (skip g len s.2.1)) (c := sg) B0
        have q1 := q1 (nI_ne1 hsg2)
        refine PW.topi (congrArg bI v9) ?_
        refine PW.xeq (h9.trans e9) ?_
        clear h9 x9 v9 e9
        refine r_if_eqB (tgt := 61) dX5_readProduct_49 (by decide) (fun h49 => ?_) (fun h49 => ?_)
        · refine r_iconst (v := nI 0) dX5_readProduct_61 (by decide) ?_
          refine r_zret rfl (by first | exact bI_01 _ | exact Or.inl rfl | exact Or.inr rfl) dX5_readProduct_62 ?_
          first
            | (rw [ht] at h49; exact Bool.noConfusion (show true = false from h49))
            | (obtain ⟨er, e5⟩ := okB_f h58
               have w : (pChain g len u 42 47 2002 2003) a = .error er := by
                 rw [← hR, show 150 - s.1 = (149 - s.1) + 1 by omega, pLoop, if_pos hor, e5, xbn_err, xbn_err]
               exact ⟨by rw [w]; rfl, A4.perr h5.1 e5 w, fun q hq => by rw [w] at hq; cases hq⟩)
        · have B4 : TP (xr (atX s.2.2.2 (skip g len s.2.1)) 1 f1) g len (skip g len s.2.1 + 1) := q1.tp B0 ht
          have A4 : AC SL x (xr (atX s.2.2.2 (skip g len s.2.1)) 1 f1) := hA.at.pf q1 ht
          refine r_aload_n dX5_readProduct_52 rfl (by rfl) ?_
          refine r_aload_n dX5_readProduct_53 rfl (by rfl) ?_
          refine r_iload_n dX5_readProduct_54 rfl (by rfl) ?_
          refine r_callV (hu (skip g len s.2.1 + 1) (sz + s.2.2.1.length) (xr (atX s.2.2.2 (skip g len s.2.1)) 1 f1) B4 hzs (by omega)) mv_X5_readUnit ml_X5_63 ⟨by omega, by decide⟩ dX5_readProduct_55 (by first | assumption | rfl) rfl rfl rfl (Nat.le_of_ble_eq_true rfl) (fun v9 x5 h5 => ?_)
          obtain ⟨rfl, h5⟩ := h5
          refine r_if_neB (tgt := 63) dX5_readProduct_58 (by decide) (fun h58 => ?_) (fun h58 => ?_)
          · obtain ⟨r5, e5⟩ := okB_t h58
            have B5 := (h5.1.ok e5).1
            have A5 := A4.of h5.1 e5
            obtain ⟨z5, k5⟩ := h5.2 r5 e5
            have w5 := hLen _ _ e5
            have p5 := B5.2.2.2.1
            refine r_aload_n dX5_readProduct_63 rfl (by rfl) ?_
            refine r_iload dX5_readProduct_64 (by rfl) ?_
            refine r_bipush (v := nI 42) dX5_readProduct_66 (by decide) ?_
            refine r_icmp_neN (tgt := 77) dX5_readProduct_68 (by decide) (by omega) (by omega) (fun h68 => ?_) (fun h68 => ?_)
            · refine r_sipush (v := nI 2003) dX5_readProduct_77 (by decide) ?_
              refine r_callV (c_X5_put z5 (by omega)) mv_X5_put ml_X5_59 ⟨by omega, by decide⟩ dX5_readProduct_80 (by first | assumption | rfl) rfl rfl rfl (Nat.le_of_ble_eq_true rfl) (fun v9 x9 h9 => ?_)
              obtain ⟨rfl, h9⟩ := h9
              refine PW.xeq h9 ?_
              clear h9 x9
              refine r_iincN dX5_readProduct_83 (by rfl) (by decide) ?_
              refine r_goto (tgt := 13) dX5_readProduct_86 (by decide) ?_
              first
                | exact PW.lc (by rfl) rfl (sh (s.1 + 1, r5.2, (s.2.2.1 ++ (r5.1 ++ [2002])), xu (xu x5 31 (sz + s.2.2.1.length + r5.1.length) (nI 2002)) 30 1 (nI (sz + s.2.2.1.length + r5.1.length + 1))) ⟨(show s.1 + 1 < r5.2 by omega), (A5.puts (SL_ (by decide) (by decide)) (by decide)).puts (SL_ (by decide) (by decide)) (by decide), B5, (show nI _ = nI _ by congr 1; show _ = sz + (s.2.2.1 ++ (r5.1 ++ [2002])).length; rw [List.length_append, List.length_append, List.length_singleton]; omega), (by
                    show upd (x5 31) (sz + s.2.2.1.length + r5.1.length) (nI 2002) = wrL (x 31) sz (s.2.2.1 ++ (r5.1 ++ [2002]))
                    rw [wrL_app, wrL_app, ← hks, show sz + s.2.2.1.length + r5.1.length = (sz + s.2.2.1.length) + r5.1.length from rfl]
                    show upd (x5 31) _ _ = upd (wrL _ _ _) _ _
                    rw [k5]
                    rfl), (show sz + (s.2.2.1 ++ (r5.1 ++ [2002])).length ≤ r5.2 by rw [List.length_append, List.length_append, List.length_singleton]; omega), (by
                    rw [← hR, show 150 - s.1 = (150 - (s.1 + 1)) + 1 by omega, pLoop, if_pos hor, e5, xbn_ok, if_pos (show nxV g len s.2.1 = nI 42 by rw [hs1, h68])]
                    cases pLoop g len u 42 47 2002 2003 (150 - (s.1 + 1)) r5.2 with
                    | error e => rfl
                    | ok r => exact congrArg Except.ok (Prod.ext (show (s.2.2.1 ++ (r5.1 ++ [2002])) ++ r.1 = s.2.2.1 ++ (r5.1 ++ 2002 :: r.1) by simp) rfl))⟩ (show 150 - (s.1 + 1) < 150 - s.1 by omega))
                | exact PW.lc (by rfl) rfl (sh (s.1 + 1, r5.2, (s.2.2.1 ++ (r5.1 ++ [2003])), xu (xu x5 31 (sz + s.2.2.1.length + r5.1.length) (nI 2003)) 30 1 (nI (sz + s.2.2.1.length + r5.1.length + 1))) ⟨(show s.1 + 1 < r5.2 by omega), (A5.puts (SL_ (by decide) (by decide)) (by decide)).puts (SL_ (by decide) (by decide)) (by decide), B5, (show nI _ = nI _ by congr 1; show _ = sz + (s.2.2.1 ++ (r5.1 ++ [2003])).length; rw [List.length_append, List.length_append, List.length_singleton]; omega), (by
                    show upd (x5 31) (sz + s.2.2.1.length + r5.1.length) (nI 2003) = wrL (x 31) sz (s.2.2.1 ++ (r5.1 ++ [2003]))
                    rw [wrL_app, wrL_app, ← hks, show sz + s.2.2.1.length + r5.1.length = (sz + s.2.2.1.length) + r5.1.length from rfl]
                    show upd (x5 31) _ _ = upd (wrL _ _ _) _ _
                    rw [k5]
                    rfl), (show sz + (s.2.2.1 ++ (r5.1 ++ [2003])).length ≤ r5.2 by rw [List.length_append, List.length_append, List.length_singleton]; omega), (by
                    rw [← hR, show 150 - s.1 = (150 - (s.1 + 1)) + 1 by omega, pLoop, if_pos hor, e5, xbn_ok, if_neg (show ¬ nxV g len s.2.1 = nI 42 by rw [hs1]; intro q; exact h68 ((nI_eq (by omega) (by omega)).mp q))]
                    cases pLoop g len u 42 47 2002 2003 (150 - (s.1 + 1)) r5.2 with
                    | error e => rfl
                    | ok r => exact congrArg Except.ok (Prod.ext (show (s.2.2.1 ++ (r5.1 ++ [2003])) ++ r.1 = s.2.2.1 ++ (r5.1 ++ 2003 :: r.1) by simp) rfl))⟩ (show 150 - (s.1 + 1) < 150 - s.1 by omega))
            · refine r_sipush (v := nI 2002) dX5_readProduct_71 (by decide) ?_
              refine r_goto (tgt := 80) dX5_readProduct_74 (by decide) ?_
              refine r_callV (c_X5_put z5 (by omega)) mv_X5_put ml_X5_59 ⟨by omega, by decide⟩ dX5_readProduct_80 (by first | assumption | rfl) rfl rfl rfl (Nat.le_of_ble_eq_true rfl) (fun v9 x9 h9 => ?_)
              obtain ⟨rfl, h9⟩ := h9
              refine PW.xeq h9 ?_
              clear h9 x9
              refine r_iincN dX5_readProduct_83 (by rfl) (by decide) ?_
              refine r_goto (tgt := 13) dX5_readProduct_86 (by decide) ?_
              first
                | exact PW.lc (by rfl) rfl (sh (s.1 + 1, r5.2, (s.2.2.1 ++ (r5.1 ++ [2002])), xu (xu x5 31 (sz + s.2.2.1.length + r5.1.length) (nI 2002)) 30 1 (nI (sz + s.2.2.1.length + r5.1.length + 1))) ⟨(show s.1 + 1 < r5.2 by omega), (A5.puts (SL_ (by decide) (by decide)) (by decide)).puts (SL_ (by decide) (by decide)) (by decide), B5, (show nI _ = nI _ by congr 1; show _ = sz + (s.2.2.1 ++ (r5.1 ++ [2002])).length; rw [List.length_append, List.length_append, List.length_singleton]; omega), (by
                    show upd (x5 31) (sz + s.2.2.1.length + r5.1.length) (nI 2002) = wrL (x 31) sz (s.2.2.1 ++ (r5.1 ++ [2002]))
                    rw [wrL_app, wrL_app, ← hks, show sz + s.2.2.1.length + r5.1.length = (sz + s.2.2.1.length) + r5.1.length from rfl]
                    show upd (x5 31) _ _ = upd (wrL _ _ _) _ _
                    rw [k5]
                    rfl), (show sz + (s.2.2.1 ++ (r5.1 ++ [2002])).length ≤ r5.2 by rw [List.length_append, List.length_append, List.length_singleton]; omega), (by
                    rw [← hR, show 150 - s.1 = (150 - (s.1 + 1)) + 1 by omega, pLoop, if_pos hor, e5, xbn_ok, if_pos (show nxV g len s.2.1 = nI 42 by rw [hs1, h68])]
                    cases pLoop g len u 42 47 2002 2003 (150 - (s.1 + 1)) r5.2 with
                    | error e => rfl
                    | ok r => exact congrArg Except.ok (Prod.ext (show (s.2.2.1 ++ (r5.1 ++ [2002])) ++ r.1 = s.2.2.1 ++ (r5.1 ++ 2002 :: r.1) by simp) rfl))⟩ (show 150 - (s.1 + 1) < 150 - s.1 by omega))
                | exact PW.lc (by rfl) rfl (sh (s.1 + 1, r5.2, (s.2.2.1 ++ (r5.1 ++ [2003])), xu (xu x5 31 (sz + s.2.2.1.length + r5.1.length) (nI 2003)) 30 1 (nI (sz + s.2.2.1.length + r5.1.length + 1))) ⟨(show s.1 + 1 < r5.2 by omega), (A5.puts (SL_ (by decide) (by decide)) (by decide)).puts (SL_ (by decide) (by decide)) (by decide), B5, (show nI _ = nI _ by congr 1; show _ = sz + (s.2.2.1 ++ (r5.1 ++ [2003])).length; rw [List.length_append, List.length_append, List.length_singleton]; omega), (by
                    show upd (x5 31) (sz + s.2.2.1.length + r5.1.length) (nI 2003) = wrL (x 31) sz (s.2.2.1 ++ (r5.1 ++ [2003]))
                    rw [wrL_app, wrL_app, ← hks, show sz + s.2.2.1.length + r5.1.length = (sz + s.2.2.1.length) + r5.1.length from rfl]
                    show upd (x5 31) _ _ = upd (wrL _ _ _) _ _
                    rw [k5]
                    rfl), (show sz + (s.2.2.1 ++ (r5.1 ++ [2003])).length ≤ r5.2 by rw [List.length_append, List.length_append, List.length_singleton]; omega), (by
                    rw [← hR, show 150 - s.1 = (150 - (s.1 + 1)) + 1 by omega, pLoop, if_pos hor, e5, xbn_ok, if_neg (show ¬ nxV g len s.2.1 = nI 42 by rw [hs1]; intro q; exact h68 ((nI_eq (by omega) (by omega)).mp q))]
                    cases pLoop g len u 42 47 2002 2003 (150 - (s.1 + 1)) r5.2 with
                    | error e => rfl
                    | ok r => exact congrArg Except.ok (Prod.ext (show (s.2.2.1 ++ (r5.1 ++ [2003])) ++ r.1 = s.2.2.1 ++ (r5.1 ++ 2003 :: r.1) by simp) rfl))⟩ (show 150 - (s.1 + 1) < 150 - s.1 by omega))
          · refine r_iconst (v := nI 0) dX5_readProduct_61 (by decide) ?_
            refine r_zret rfl (by first | exact bI_01 _ | exact Or.inl rfl | exact Or.inr rfl) dX5_readProduct_62 ?_
            first
              | (rw [ht] at h49; exact Bool.noConfusion (show true = false from h49))
              | (obtain ⟨er, e5⟩ := okB_f h58
                 have w : (pChain g len u 42 47 2002 2003) a = .error er := by
                   rw [← hR, show 150 - s.1 = (149 - s.1) + 1 by omega, pLoop, if_pos hor, e5, xbn_err, xbn_err]
                 exact ⟨by rw [w]; rfl, A4.perr h5.1 e5 w, fun q hq => by rw [w] at hq; cases hq⟩)
      · refine r_iconst (v := nI 1) dX5_readProduct_40 (by decide) ?_
        refine r_zret rfl (by first | exact bI_01 _ | exact Or.inl rfl | exact Or.inr rfl) dX5_readProduct_41 ?_
        have w : (pChain g len u 42 47 2002 2003) a = .ok (s.2.2.1, skip g len s.2.1) := by
          rw [← hR, show 150 - s.1 = (149 - s.1) + 1 by omega, pLoop, if_neg (by intro q; rcases q with q | q; exact h30 q; exact h37 q), xbn_ok, List.append_nil]
        exact ⟨by rw [w]; rfl, hA.at.fin (q := (s.2.2.1, skip g len s.2.1)) B0 w, fun q hq => by
          rw [w] at hq
          injection hq with hq
          subst hq
          exact ⟨hzs, hks⟩⟩
  · refine r_iconst (v := nI 0) dX5_readProduct_9 (by decide) ?_
    refine r_zret rfl (by first | exact bI_01 _ | exact Or.inl rfl | exact Or.inr rfl) dX5_readProduct_10 ?_
    obtain ⟨er, e3⟩ := okB_f h6
    have w : (pChain g len u 42 47 2002 2003) a = .error er := by unfold pChain; rw [e3, xbn_err]
    exact ⟨by rw [w]; rfl, h3.1.cut e3 w, fun q hq => by rw [w] at hq; cases hq⟩
