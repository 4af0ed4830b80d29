/-! WORK'S TEXT -/
abbrev ST : Type := Nat × Nat × Nat
abbrev SR : Type := Except PE (List ST × Nat)
/-- steps from place n on, each by st -/
def pSteps (g : Nat → Nat) (len : Nat) (st : Nat → Nat → SR) : Nat → Nat → Nat → SR
  | 0, _, a => .ok ([], a)
  | m + 1, n, a => if nxV g len a = -1 ∨ nxV g len a = nI 93 then .ok ([], skip g len a) else xbn (st n a) (fun q => xbn (pTake g len 59 q.2) (fun a2 => xbn (pSteps g len st m (n + q.1.length) a2) (fun r => .ok (q.1 ++ r.1, r.2))))
def pAgain (g : Nat → Nat) (len : Nat) (s : Option (Nat → Nat → SR)) (n b a : Nat) : SR := match s with
  | none => .error (3, b)
  | some F => xbn (pNum g len 0 61 a) (fun t => xbn (pTake g len 91 t.2) (fun a1 => xbn (F (n + 1) a1) (fun q => xbn (pTake g len 93 q.2) (fun a2 => .ok ((6, t.1, n + 1 + q.1.length) :: q.1, a2)))))
def pOne (g : Nat → Nat) (len ns : Nat) (s : Option (Nat → Nat → SR)) (n b w a : Nat) : SR :=
  if w = 0 then xbn (pTwo g len ns ns a) (fun q => .ok ([(0, q.1, q.2.1)], q.2.2))
  else if w = 3 then xbn (pTwo g len ns 21 a) (fun q => .ok ([(3, q.1, q.2.1)], q.2.2))
  else if w = 6 then pAgain g len s n b a
  else if w = 5 then .ok ([(5, 0, 0)], a)
  else xbn (pNum g len 0 ns a) (fun q => .ok ([(w, q.1, 0)], q.2))
def pStep (g : Nat → Nat) (len ns : Nat) (s : Option (Nat → Nat → SR)) (n a : Nat) : SR := xbn (pWord g len 2 a) (fun w => pOne g len ns s n (skip g len a) w.1 w.2)
def pStepL (g : Nat → Nat) (len ns : Nat) : Nat → Nat → Nat → SR
  | 0 => pStep g len ns none
  | lev + 1 => pStep g len ns (some (pSteps g len (pStepL g len ns lev) 151))
def pStepsL (g : Nat → Nat) (len ns lev : Nat) : Nat → Nat → SR := pSteps g len (pStepL g len ns lev) 151
def pWork (g : Nat → Nat) (len ns a : Nat) : SR := xbn (pStepsL g len ns 6 0 a) (fun q => xbn (pEnd g len q.2) (fun a2 => .ok (q.1, a2)))
def LenS (u : Nat → Nat → SR) : Prop := ∀ n a q, u n a = .ok q → a + 4 * q.1.length ≤ q.2 ∧ a ≤ q.2
theorem pWord2_ge {g : Nat → Nat} {len a : Nat} {q : Nat × Nat} (h : pWord g len 2 a = .ok q) : a + 4 ≤ q.2 ∧ q.1 < 7 ∧ q.2 = smE g len (skip g len a) := by
  unfold pWord at h
  cases hw : wrd g len 2 a with
  | none => rw [hw] at h; cases h
  | some w =>
    rw [hw] at h
    injection h with h
    subst h
    refine ⟨?_, w2_lt hw, rfl⟩
    show a + 4 ≤ smE g len (skip g len a)
    unfold wrd at hw
    rw [wkey2] at hw
    have h1 := skip_ge g len a
    repeat' split at hw
    all_goals first | (rename_i hq; have := isW_len hq; omega) | cases hw
theorem pNum_ge0 {g : Nat → Nat} {len lo n a : Nat} {q : Nat × Nat} (h : pNum g len lo n a = .ok q) : a ≤ q.2 := by
  unfold pNum at h
  split at h
  · split at h
    · injection h with h
      subst h
      have := skip_ge g len a
      have := dgs_ge g len (len - skip g len a) (skip g len a) 0
      show a ≤ (dg g len (skip g len a) 0).1
      unfold dg
      omega
    · cases h
  · cases h
theorem pTwo_ge {g : Nat → Nat} {len m n a : Nat} {q : Nat × Nat × Nat} (h : pTwo g len m n a = .ok q) : a ≤ q.2.2 := by
  unfold pTwo at h
  cases h1 : pNum g len 0 m a with
  | error e => rw [h1] at h; cases h
  | ok q1 =>
    rw [h1] at h
    cases h2 : pNum g len 0 n q1.2 with
    | error e => simp only [h2] at h; cases h
    | ok q2 =>
      simp only [h2] at h
      injection h with h
      subst h
      have := pNum_ge0 h1
      have := pNum_ge0 h2
      show a ≤ q2.2
      omega
theorem LenS.steps {g : Nat → Nat} {len : Nat} {st : Nat → Nat → SR} (h : LenS st) : ∀ m, LenS (pSteps g len st m)
  | 0, n, a, q, hq => by
    injection hq with hq
    subst hq
    exact ⟨Nat.le_refl _, Nat.le_refl _⟩
  | m + 1, n, a, q, hq => by
    have h1 := skip_ge g len a
    unfold pSteps at hq
    split at hq
    · injection hq with hq
      subst hq
      exact ⟨h1, h1⟩
    · obtain ⟨q1, e1, hq⟩ := xbn_is hq
      obtain ⟨a2, e2, hq⟩ := xbn_is hq
      obtain ⟨r, e3, hq⟩ := xbn_is hq
      injection hq with hq
      subst hq
      have w1 := h _ _ _ e1
      have w2 := pTake_ge e2
      have w3 := LenS.steps h m _ _ _ e3
      show a + 4 * (q1.1 ++ r.1).length ≤ r.2 ∧ a ≤ r.2
      rw [List.length_append]
      omega
theorem LenS.step {g : Nat → Nat} {len ns : Nat} {s : Option (Nat → Nat → SR)} (h : ∀ F, s = some F → LenS F) : LenS (pStep g len ns s) := by
  intro n a q hq
  obtain ⟨w, e0, hq⟩ := xbn_is hq
  have w0 := pWord2_ge e0
  unfold pOne at hq
  split at hq
  · obtain ⟨t, e1, hq⟩ := xbn_is hq
    injection hq with hq
    subst hq
    have := pTwo_ge e1
    show a + 4 * 1 ≤ t.2.2 ∧ a ≤ t.2.2
    omega
  · split at hq
    · obtain ⟨t, e1, hq⟩ := xbn_is hq
      injection hq with hq
      subst hq
      have := pTwo_ge e1
      show a + 4 * 1 ≤ t.2.2 ∧ a ≤ t.2.2
      omega
    · split at hq
      · unfold pAgain at hq
        cases s with
        | none => cases hq
        | some F =>
          obtain ⟨t, e1, hq⟩ := xbn_is hq
          obtain ⟨a1, e2, hq⟩ := xbn_is hq
          obtain ⟨q1, e3, hq⟩ := xbn_is hq
          obtain ⟨a2, e4, hq⟩ := xbn_is hq
          injection hq with hq
          subst hq
          have := pNum_ge0 e1
          have := pTake_ge e2
          have := h F rfl _ _ _ e3
          have := pTake_ge e4
          show a + 4 * (q1.1.length + 1) ≤ a2 ∧ a ≤ a2
          omega
      · split at hq
        · injection hq with hq
          subst hq
          show a + 4 * 1 ≤ w.2 ∧ a ≤ w.2
          omega
        · obtain ⟨t, e1, hq⟩ := xbn_is hq
          injection hq with hq
          subst hq
          have := pNum_ge0 e1
          show a + 4 * 1 ≤ t.2 ∧ a ≤ t.2
          omega
theorem LenS.all {g : Nat → Nat} {len ns : Nat} : ∀ lev, LenS (pStepL g len ns lev)
  | 0 => LenS.step (fun f h => by cases h)
  | lev + 1 => LenS.step (fun f h => by injection h with h; subst h; exact (LenS.all lev).steps 151)
theorem wrL_upd {k : Nat} {v : Int32} : ∀ (l : List Nat) (f : Nat → Int32) (n : Nat), k < n → upd (wrL f n l) k v = wrL (upd f k v) n l
  | [], _, _, _ => rfl
  | c :: l, f, n, h => by
    show upd (wrL (upd f n (nI c)) (n + 1) l) k v = wrL (upd (upd f k v) n (nI c)) (n + 1) l
    rw [wrL_upd l _ (n + 1) (by omega)]
    congr 1
    funext j
    by_cases e : j = k
    · subst e; rw [pk_us, pk_un (by omega), pk_us]
    · rw [pk_un e]
      by_cases e2 : j = n
      · subst e2; rw [pk_us, pk_us]
      · rw [pk_un e2, pk_un e2, pk_un e]
theorem upd_upd {f : Nat → Int32} {k : Nat} {v w : Int32} : upd (upd f k v) k w = upd f k w := by
  funext j
  by_cases e : j = k
  · subst e; rw [pk_us, pk_us]
  · rw [pk_un e, pk_un e, pk_un e]
def SS (c : Nat) : Prop := 39 ≤ c ∧ c ≤ 42
theorem SS_ {c : Nat} (h1 : 39 ≤ c) (h2 : c ≤ 42) : SS c := ⟨h1, h2⟩
/-- the plan's cells behind steps l written from n on -/
def WS3 (x x1 : XS) (n : Nat) (l : List ST) : Prop := x1 39 3 = nI (n + l.length) ∧ x1 40 = wrL (x 40) n (l.map (fun q => q.1)) ∧ x1 41 = wrL (x 41) n (l.map (fun q => q.2.1)) ∧ x1 42 = wrL (x 42) n (l.map (fun q => q.2.2)) ∧ ∀ k, k ≠ 3 → x1 39 k = x 39 k
theorem WS3.app {x x1 x2 : XS} {n : Nat} {l1 l2 : List ST} (h : WS3 x x1 n l1) (h2 : WS3 x1 x2 (n + l1.length) l2) : WS3 x x2 n (l1 ++ l2) := by
  refine ⟨by rw [h2.1, List.length_append, Nat.add_assoc], ?_, ?_, ?_, fun k hk => (h2.2.2.2.2 k hk).trans (h.2.2.2.2 k hk)⟩
  · rw [h2.2.1, h.2.1, List.map_append, wrL_app, List.length_map]
  · rw [h2.2.2.1, h.2.2.1, List.map_append, wrL_app, List.length_map]
  · rw [h2.2.2.2.1, h.2.2.2.1, List.map_append, wrL_app, List.length_map]
def SPq (g : Nat → Nat) (len : Nat) (u : Nat → Nat → SR) (n a : Nat) (x : XS) : Option Value → XS → Prop := fun v x1 => v = some (.int (bI (okB (u n a)))) ∧ PO SS x x1 g len (u n a) (fun q => q.2) ∧ ∀ q, u n a = .ok q → WS3 x x1 n q.1
def SPc (g : Nat → Nat) (len ns : Nat) (M : MD) (d op : Nat) (u : Nat → Nat → SR) : Prop := ∀ (n a : Nat) (x : XS), TP x g len a → x 39 3 = nI n → n ≤ a → MM M d 0 0 [.ref 39, .ref 1, .int (nI ns), .int (nI op)] x (SPq g len u n a x) NoT
def putS (x : XS) (n k o t : Nat) : XS := xu (xu (xu (xu x 40 n (nI k)) 41 n (nI o)) 42 n (nI t)) 39 3 (nI (n + 1))
theorem putS_W {x x0 : XS} {n k o t : Nat} (h40 : x 40 = x0 40) (h41 : x 41 = x0 41) (h42 : x 42 = x0 42) (h39 : x 39 = x0 39) : WS3 x0 (putS x n k o t) n [(k, o, t)] := by
  refine ⟨rfl, ?_, ?_, ?_, fun j hj => ?_⟩
  · show upd (x 40) n (nI k) = upd (x0 40) n (nI k)
    rw [h40]
  · show upd (x 41) n (nI o) = upd (x0 41) n (nI o)
    rw [h41]
  · show upd (x 42) n (nI t) = upd (x0 42) n (nI t)
    rw [h42]
  · show upd (x 39) 3 (nI (n + 1)) j = x0 39 j
    rw [pk_un hj, h39]
theorem putS_A {x X : XS} {n k o t : Nat} (h : AC SS x X) : AC SS x (putS X n k o t) := (((h.puts (SS_ (by decide) (by decide)) (by decide)).puts (SS_ (by decide) (by decide)) (by decide)).puts (SS_ (by decide) (by decide)) (by decide)).puts (SS_ (by decide) (by decide)) (by decide)
set_option maxHeartbeats 8000000 in
set_option maxRecDepth 20000 in
theorem c_X7_put {k o t n : Nat} {x : XS} (hz : x 39 3 = nI n) (hs : n < 150) : MM mX7_put 0 0 0 [.ref 39, .int (nI k), .int (nI o), .int (nI t)] x (fun v x1 => v = some (.int (bI true)) ∧ x1 = putS x n k o t) NoT := by
  refine MM.of (by decide) (Nat.le_of_ble_eq_true rfl) ?_
  have y1 := lay_1
  have y2 := lay_2
  have y39 := lay_39
  have y40 := lay_40
  have y41 := lay_41
  have y42 := lay_42
  refine r_aload_n dX7_put_0 rfl (by rfl) ?_
  refine gf_X7_21 rfl dX7_put_1 (by first | assumption | rfl) (by rfl) ?_
  refine PW.topi (show _ = nI n from hz) ?_
  refine r_aload_n dX7_put_4 rfl (by rfl) ?_
  refine gf_X7_9 rfl dX7_put_5 (by first | assumption | rfl) (by rfl) ?_
  refine r_alen dX7_put_8 (by first | assumption | rfl) (by decide) rfl ?_
  refine r_icmp_ltN (tgt := 14) dX7_put_9 (by decide) (by omega) (by omega) (fun _ => ?_) (fun h9 => by exfalso; omega)
  refine r_aload_n dX7_put_14 rfl (by rfl) ?_
  refine gf_X7_9 rfl dX7_put_15 (by first | assumption | rfl) (by rfl) ?_
  refine r_aload_n dX7_put_18 rfl (by rfl) ?_
  refine gf_X7_21 rfl dX7_put_19 (by first | assumption | rfl) (by rfl) ?_
  refine PW.topi (show _ = nI n from hz) ?_
  refine r_iload_n dX7_put_22 rfl (by rfl) ?_
  refine r_iastN dX7_put_23 (by first | assumption | rfl) (by omega) (by decide) ?_
  refine r_aload_n dX7_put_24 rfl (by rfl) ?_
  refine gf_X7_15 rfl dX7_put_25 (by first | assumption | rfl) (by rfl) ?_
  refine r_aload_n dX7_put_28 rfl (by rfl) ?_
  refine gf_X7_21 rfl dX7_put_29 (by first | assumption | rfl) (by rfl) ?_
  refine PW.topi (show _ = nI n from hz) ?_
  refine r_iload_n dX7_put_32 rfl (by rfl) ?_
  refine r_iastN dX7_put_33 (by first | assumption | rfl) (by omega) (by decide) ?_
  refine r_aload_n dX7_put_34 rfl (by rfl) ?_
  refine gf_X7_18 rfl dX7_put_35 (by first | assumption | rfl) (by rfl) ?_
  refine r_aload_n dX7_put_38 rfl (by rfl) ?_
  refine gf_X7_21 rfl dX7_put_39 (by first | assumption | rfl) (by rfl) ?_
  refine PW.topi (show _ = nI n from hz) ?_
  refine r_iload_n dX7_put_42 rfl (by rfl) ?_
  refine r_iastN dX7_put_43 (by first | assumption | rfl) (by omega) (by decide) ?_
  refine r_aload_n dX7_put_44 rfl (by rfl) ?_
  refine r_dup dX7_put_45 rfl ?_
  refine gf_X7_21 rfl dX7_put_46 (by first | assumption | rfl) (by rfl) ?_
  refine PW.topi (show _ = nI n from hz) ?_
  refine r_iconst (v := nI 1) dX7_put_49 (by decide) ?_
  refine r_iaddN dX7_put_50 ?_
  refine pf_X7_21 rfl dX7_put_51 (by first | assumption | rfl) (by rfl) ?_
  refine r_iconst (v := nI 1) dX7_put_54 (by decide) ?_
  refine r_zret rfl (by first | exact bI_01 _ | exact Or.inl rfl | exact Or.inr rfl) dX7_put_55 ?_
  exact ⟨rfl, rfl⟩
set_option maxHeartbeats 8000000 in
set_option maxRecDepth 20000 in
theorem c_X7_readPair {g : Nat → Nat} {len a k ns n m : Nat} {hv : Int32} {x : XS} (hT : TP x g len a) (hz : x 39 3 = nI m) (hm : m < 150) (hns : ns ≤ 5) (hn : n < 2 ^ 30) (hh : hv = nI n - nI 1) : MM mX7_readPair 2 0 0 [.ref 39, .ref 1, .int (nI k), .int (nI ns), .int hv] x (fun v x1 => v = some (.int (bI (okB (pTwo g len ns n a)))) ∧ ∃ f, PF x f len (pTwo g len ns n a) (fun q => q.2.2) ∧ x1 = (match pTwo g len ns n a with | .ok q => putS (xr x 1 f) m k q.1 q.2.1 | .error _ => xr x 1 f)) NoT := by
  refine MM.of (by decide) (Nat.le_of_ble_eq_true rfl) ?_
  have y1 := lay_1
  have y2 := lay_2
  have y39 := lay_39
  have y40 := lay_40
  have y41 := lay_41
  have y42 := lay_42
  refine r_aload_n dX7_readPair_0 rfl (by rfl) ?_
  refine r_iconst (v := nI 0) dX7_readPair_1 (by decide) ?_
  refine r_iload_n dX7_readPair_2 rfl (by rfl) ?_
  refine r_iconst (v := nI 1) dX7_readPair_3 (by decide) ?_
  refine r_isub dX7_readPair_4 ?_
  refine r_callV (c_X8_number hT (by decide)) mv_X8_number ml_X7_72 ⟨by decide, by decide⟩ dX7_readPair_5 (by first | assumption | rfl) rfl rfl rfl (Nat.le_of_ble_eq_true rfl) (fun v9 x9 h9 => ?_)
  obtain ⟨rfl, h9⟩ := h9
  obtain ⟨v9, f1, e9, q1, b1⟩ := num_rel (x := x) (lo := 0) (n := ns) hT (by decide) (by omega) rfl
  refine PW.topi v9 ?_
  refine PW.xeq (h9.trans e9) ?_
  clear h9 x9 v9 e9
  refine r_istore dX7_readPair_8 (by decide) ?_
  refine r_iload dX7_readPair_10 (by rfl) ?_
  refine r_iconst (v := -1) dX7_readPair_12 (by decide) ?_
  refine r_icmp_ne (tgt := 18) dX7_readPair_13 (by decide) (fun h13 => ?_) (fun h13 => ?_)
  · obtain ⟨p, a2, e1, hp⟩ := pI_ne h13
    rw [show pI (pNum g len 0 ns a) = nI p by rw [e1]; rfl]
    have T1 : TP (xr x 1 f1) g len a2 := q1.tp hT e1
    refine r_aload_n dX7_readPair_18 rfl (by rfl) ?_
    refine r_iconst (v := nI 0) dX7_readPair_19 (by decide) ?_
    refine r_iload dX7_readPair_20 (by rfl) ?_
    refine r_callV (c_X8_number T1 (by decide)) mv_X8_number ml_X7_72 ⟨by decide, by decide⟩ dX7_readPair_22 (by first | assumption | rfl) rfl rfl rfl (Nat.le_of_ble_eq_true rfl) (fun v9 x9 h9 => ?_)
    obtain ⟨rfl, h9⟩ := h9
    obtain ⟨v9, f2, e9, q2, b2⟩ := num_rel (x := (xr x 1 f1)) (lo := 0) (n := n) T1 (by decide) hn hh
    refine PW.topi v9 ?_
    refine PW.xeq (h9.trans e9) ?_
    clear h9 x9 v9 e9
    refine r_istore dX7_readPair_25 (by decide) ?_
    refine r_iload dX7_readPair_27 (by rfl) ?_
    refine r_iconst (v := -1) dX7_readPair_29 (by decide) ?_
    refine r_icmp_eq (tgt := 49) dX7_readPair_30 (by decide) (fun h30 => ?_) (fun h30 => ?_)
    · refine r_iconst (v := nI 0) dX7_readPair_49 (by decide) ?_
      refine r_zret rfl (by first | exact bI_01 _ | exact Or.inl rfl | exact Or.inr rfl) dX7_readPair_50 ?_
      first
        | (obtain ⟨er, e2⟩ := pI_eq (by omega) h30
           have w : pTwo g len ns n a = .error er := by unfold pTwo; rw [e1]; show (match pNum g len 0 n a2 with | .error e => _ | .ok r => _) = _; rw [e2]
           rw [w]
           refine ⟨rfl, f2, (q1.then e1 q2 rfl).cut e2 rfl, ?_⟩
           show xr (xr x 1 f1) 1 f2 = _
           rw [xr_xr])
        | exact Bool.noConfusion (show true = false from h42)
        | (have w : pTwo g len ns n a = .ok (p, o, a3) := by unfold pTwo; rw [e1]; show (match pNum g len 0 n a2 with | .error e => _ | .ok r => _) = _; rw [e2]
           rw [w]
           have q3 := (q1.then e1 q2 rfl).ok e2
           refine ⟨rfl, f2, q3, ?_⟩
           show putS (xr (xr x 1 f1) 1 f2) m k p o = _
           rw [xr_xr])
    · obtain ⟨o, a3, e2, ho⟩ := pI_ne h30
      rw [show pI (pNum g len 0 n a2) = nI o by rw [e2]; rfl]
      refine r_aload_n dX7_readPair_33 rfl (by rfl) ?_
      refine r_iload_n dX7_readPair_34 rfl (by rfl) ?_
      refine r_iload dX7_readPair_35 (by rfl) ?_
      refine r_iload dX7_readPair_37 (by rfl) ?_
      refine r_callV (c_X7_put (x := xr (xr x 1 f1) 1 f2) hz hm) mv_X7_put ml_X7_68 ⟨by decide, by decide⟩ dX7_readPair_39 (by first | assumption | rfl) rfl rfl rfl (Nat.le_of_ble_eq_true rfl) (fun v9 x9 h9 => ?_)
      obtain ⟨rfl, h9⟩ := h9
      refine PW.xeq h9 ?_
      clear h9 x9
      refine r_if_eqB (tgt := 49) dX7_readPair_42 (by decide) (fun h42 => ?_) (fun h42 => ?_)
      · refine r_iconst (v := nI 0) dX7_readPair_49 (by decide) ?_
        refine r_zret rfl (by first | exact bI_01 _ | exact Or.inl rfl | exact Or.inr rfl) dX7_readPair_50 ?_
        first
          | (obtain ⟨er, e2⟩ := pI_eq (by omega) h30
             have w : pTwo g len ns n a = .error er := by unfold pTwo; rw [e1]; show (match pNum g len 0 n a2 with | .error e => _ | .ok r => _) = _; rw [e2]
             rw [w]
             refine ⟨rfl, f2, (q1.then e1 q2 rfl).cut e2 rfl, ?_⟩
             show xr (xr x 1 f1) 1 f2 = _
             rw [xr_xr])
          | exact Bool.noConfusion (show true = false from h42)
          | (have w : pTwo g len ns n a = .ok (p, o, a3) := by unfold pTwo; rw [e1]; show (match pNum g len 0 n a2 with | .error e => _ | .ok r => _) = _; rw [e2]
             rw [w]
             have q3 := (q1.then e1 q2 rfl).ok e2
             refine ⟨rfl, f2, q3, ?_⟩
             show putS (xr (xr x 1 f1) 1 f2) m k p o = _
             rw [xr_xr])
      · refine r_iconst (v := nI 1) dX7_readPair_45 (by decide) ?_
        refine r_goto (tgt := 50) dX7_readPair_46 (by decide) ?_
        refine r_zret rfl (by first | exact bI_01 _ | exact Or.inl rfl | exact Or.inr rfl) dX7_readPair_50 ?_
        first
          | (obtain ⟨er, e2⟩ := pI_eq (by omega) h30
             have w : pTwo g len ns n a = .error er := by unfold pTwo; rw [e1]; show (match pNum g len 0 n a2 with | .error e => _ | .ok r => _) = _; rw [e2]
             rw [w]
             refine ⟨rfl, f2, (q1.then e1 q2 rfl).cut e2 rfl, ?_⟩
             show xr (xr x 1 f1) 1 f2 = _
             rw [xr_xr])
          | exact Bool.noConfusion (show true = false from h42)
          | (have w : pTwo g len ns n a = .ok (p, o, a3) := by unfold pTwo; rw [e1]; show (match pNum g len 0 n a2 with | .error e => _ | .ok r => _) = _; rw [e2]
             rw [w]
             have q3 := (q1.then e1 q2 rfl).ok e2
             refine ⟨rfl, f2, q3, ?_⟩
             show putS (xr (xr x 1 f1) 1 f2) m k p o = _
             rw [xr_xr])
  · refine r_iconst (v := nI 0) dX7_readPair_16 (by decide) ?_
    refine r_zret rfl (by first | exact bI_01 _ | exact Or.inl rfl | exact Or.inr rfl) dX7_readPair_17 ?_
    obtain ⟨er, e1⟩ := pI_eq (by omega) h13
    have w : pTwo g len ns n a = .error er := by unfold pTwo; rw [e1]
    rw [w]
    exact ⟨rfl, f1, q1.cut e1 rfl, rfl⟩
