/-! THE HOUSE'S TEXT -/
theorem PW.topB {M : MD} {R : Room} {mc ms : Nat} {Post : Option Value → XS → Prop} {PT : String → XS → Prop} {pc : Nat} {L : List (Nat × Value)} {st : List Value} {x : XS} {b b' : Bool} (h : b = b') (k : PW M R mc ms Post PT pc L (.int (bI b') :: st) x) : PW M R mc ms Post PT pc L (.int (bI b) :: st) x := by subst h; exact k
abbrev HS : Type := Nat × Nat × Nat × Nat × (Nat → Nat → Nat) × (Nat → Nat)
abbrev HS.n (h : HS) : Nat := h.1
abbrev HS.ck (h : HS) : Nat := h.2.1
abbrev HS.wall (h : HS) : Nat := h.2.2.1
abbrev HS.over (h : HS) : Nat := h.2.2.2.1
abbrev HS.row (h : HS) : Nat → Nat → Nat := h.2.2.2.2.1
abbrev HS.st (h : HS) : Nat → Nat := h.2.2.2.2.2
def updN (f : Nat → Nat) (k v : Nat) : Nat → Nat := fun j => if j = k then v else f j
def h0 : HS := (0, 0, 10, 9, fun _ _ => 0, fun _ => 0)
def HS.put (h : HS) (k p v : Nat) : HS := ((HS.n h), (HS.ck h), (HS.wall h), (HS.over h), (fun k' => if k' = k then updN ((HS.row h) k) p v else (HS.row h) k'), (HS.st h))
def pTwo (g : Nat → Nat) (len m n a : Nat) : Except PE (Nat × Nat × Nat) := match pNum g len 0 m a with
  | .error e => .error e
  | .ok q => (match pNum g len 0 n q.2 with
    | .error e => .error e
    | .ok r => .ok (q.1, r.1, r.2))
def pOf (g : Nat → Nat) (len k n : Nat) (h : HS) (a : Nat) : Except PE (HS × Nat) := match pTwo g len (HS.n h) n a with
  | .error e => .error e
  | .ok q => .ok (HS.put h k q.1 q.2.1, q.2.2)
def pFour (g : Nat → Nat) (len a : Nat) : Except PE ((Nat × Nat × Nat × Nat) × Nat) := match pNum g len 0 61 a with
  | .error e => .error e
  | .ok q0 => (match pNum g len 0 21 q0.2 with
    | .error e => .error e
    | .ok q1 => (match pNum g len 0 10 q1.2 with
      | .error e => .error e
      | .ok q2 => (match pNum g len 0 2 q2.2 with
        | .error e => .error e
        | .ok q3 => .ok ((q0.1, q1.1, q2.1, q3.1), q3.2))))
def HS.new (h : HS) (v : Nat × Nat × Nat × Nat) : HS := ((HS.n h) + 1, (HS.ck h), (HS.wall h), (HS.over h), (fun k p => if p = (HS.n h) then (if k = 0 then v.1 else if k = 1 then v.2.1 else if k = 2 then v.2.2.1 else if k = 3 then v.2.2.2 else 0) else (HS.row h) k p), (HS.st h))
def pSleeper (g : Nat → Nat) (len : Nat) (h : HS) (b a : Nat) : Except PE (HS × Nat) := if 5 ≤ (HS.n h) then .error (3, b) else match pFour g len a with
  | .error e => .error e
  | .ok q => .ok (HS.new h q.1, q.2)
def pClock (g : Nat → Nat) (len : Nat) (h : HS) (b a : Nat) : Except PE (HS × Nat) := if 6 ≤ (HS.ck h) then .error (3, b) else match pTwo g len 60 41 a with
  | .error e => .error e
  | .ok q => .ok (((HS.n h), (HS.ck h) + 1, (HS.wall h), (HS.over h), (HS.row h), updN (HS.st h) q.1 ((HS.st h) q.1 + q.2.1)), q.2.2)
def pClause (g : Nat → Nat) (len w : Nat) (h : HS) (b a : Nat) : Except PE (HS × Nat) :=
  if w = 0 then pSleeper g len h b a else if w = 1 then pOf g len 4 10 h a else if w = 2 then pOf g len 5 10 h a else if w = 3 then pOf g len 6 21 h a else if w = 4 then pOf g len 7 241 h a
  else if w = 5 then (match pNum g len 0 41 a with
    | .error e => .error e
    | .ok q => .ok (((HS.n h), (HS.ck h), q.1, (HS.over h), (HS.row h), (HS.st h)), q.2))
  else if w = 6 then (match pNum g len 1 61 a with
    | .error e => .error e
    | .ok q => .ok (((HS.n h), (HS.ck h), (HS.wall h), q.1, (HS.row h), (HS.st h)), q.2))
  else pClock g len h b a
/-- the house's text from the clause on with m more allowed -/
def pHouse (g : Nat → Nat) (len : Nat) : Nat → HS → Nat → Except PE (HS × Nat)
  | 0, h, a => .ok (h, skip g len a)
  | m + 1, h, a => if nxV g len a = -1 then .ok (h, skip g len a) else match pWord g len 0 a with
    | .error e => .error e
    | .ok w => if m = 0 then .error (3, skip g len a) else match pClause g len w.1 h (skip g len a) w.2 with
      | .error e => .error e
      | .ok q => (match pTake g len 59 q.2 with
        | .error e => .error e
        | .ok a2 => pHouse g len m q.1 a2)
def SH (c : Nat) : Prop := 13 ≤ c ∧ c ≤ 22
/-- the draft as it is told -/
def DI (x : XS) (h : HS) : Prop := x 13 0 = nI (HS.n h) ∧ x 13 10 = nI (HS.ck h) ∧ x 13 11 = nI (HS.wall h) ∧ x 13 12 = nI (HS.over h) ∧ (HS.n h) ≤ 5 ∧ (HS.ck h) ≤ 6 ∧ (∀ k, k < 8 → ∀ p, p < (HS.n h) → x (14 + k) p = nI ((HS.row h) k p)) ∧ ∀ m, m < 60 → x 22 m = nI ((HS.st h) m)
theorem DI.fr {x x1 : XS} {h : HS} (hd : DI x h) (hx : ∀ c, 13 ≤ c → c ≤ 22 → x1 c = x c) : DI x1 h := by
  have e13 := hx 13 (by decide) (by decide)
  refine ⟨by rw [e13]; exact hd.1, by rw [e13]; exact hd.2.1, by rw [e13]; exact hd.2.2.1, by rw [e13]; exact hd.2.2.2.1, hd.2.2.2.2.1, hd.2.2.2.2.2.1, fun k hk p hp => ?_, fun m hm => ?_⟩
  · rw [hx (14 + k) (by omega) (by omega)]
    exact hd.2.2.2.2.2.2.1 k hk p hp
  · rw [hx 22 (by decide) (by decide)]
    exact hd.2.2.2.2.2.2.2 m hm
theorem DI.one {x : XS} {h : HS} {f : Nat → Int32} (hd : DI x h) : DI (xr x 1 f) h := hd.fr (fun c h1 _ => xr_n (show c ≠ 1 by omega))
theorem DI.put {x : XS} {h : HS} {k p v : Nat} (hd : DI x h) (hk : k < 8) : DI (xu x (14 + k) p (nI v)) (HS.put h k p v) := by
  have e13 : xu x (14 + k) p (nI v) 13 = x 13 := xu_n (show 13 ≠ 14 + k by omega)
  refine ⟨by rw [e13]; exact hd.1, by rw [e13]; exact hd.2.1, by rw [e13]; exact hd.2.2.1, by rw [e13]; exact hd.2.2.2.1, hd.2.2.2.2.1, hd.2.2.2.2.2.1, fun k' hk' p' hp' => ?_, fun m hm => ?_⟩
  · show _ = nI ((if k' = k then updN ((HS.row h) k) p v else (HS.row h) k') p')
    by_cases q : k' = k
    · subst q
      rw [if_pos rfl]
      unfold updN
      by_cases q2 : p' = p
      · subst q2; rw [if_pos rfl, xu_s]
      · rw [if_neg q2, xu_k q2]; exact hd.2.2.2.2.2.2.1 k' hk' p' hp'
    · rw [if_neg q, xu_n (show 14 + k' ≠ 14 + k by omega)]; exact hd.2.2.2.2.2.2.1 k' hk' p' hp'
  · rw [xu_n (show 22 ≠ 14 + k by omega)]
    exact hd.2.2.2.2.2.2.2 m hm
set_option maxHeartbeats 8000000 in
set_option maxRecDepth 20000 in
theorem c_X3_readInto {g : Nat → Nat} {len a c p n : Nat} {hv : Int32} {x : XS} (hT : TP x g len a) (hc : lay c = .inr (.inl 5)) (hp : p < 5) (hn : n < 2 ^ 30) (hh : hv = nI n - nI 1) : MM mX3_readInto 2 0 0 [.ref 1, .ref c, .int (nI p), .int hv] x (fun v x1 => v = some (.int (bI (okB (pNum g len 0 n a)))) ∧ ∃ f, PF x f len (pNum g len 0 n a) (fun q => q.2) ∧ x1 = (match pNum g len 0 n a with | .ok q => xu (xr x 1 f) c p (nI q.1) | .error _ => xr x 1 f)) NoT := by
  refine MM.of (by decide) (Nat.le_of_ble_eq_true rfl) ?_
  have y1 := lay_1
  have y2 := lay_2
  refine r_aload_n dX3_readInto_0 rfl (by rfl) ?_
  refine r_iconst (v := nI 0) dX3_readInto_1 (by decide) ?_
  refine r_iload_n dX3_readInto_2 rfl (by rfl) ?_
  refine r_callV (c_X8_number hT (by decide)) mv_X8_number ml_X3_90 ⟨by decide, by decide⟩ dX3_readInto_3 (by first | assumption | rfl) rfl rfl rfl (Nat.le_of_ble_eq_true rfl) (fun v9 x9 h9 => ?_)
  obtain ⟨rfl, h9⟩ := h9
  obtain ⟨v9, f1, e9, q1, b1⟩ := num_rel (x := x) (lo := 0) (n := n) hT (by decide) hn hh
  refine PW.topi v9 ?_
  refine PW.xeq (h9.trans e9) ?_
  clear h9 x9 v9 e9
  refine r_istore dX3_readInto_6 (by decide) ?_
  refine r_iload dX3_readInto_8 (by rfl) ?_
  refine r_iconst (v := -1) dX3_readInto_10 (by decide) ?_
  refine r_icmp_eq (tgt := 24) dX3_readInto_11 (by decide) (fun h11 => ?_) (fun h11 => ?_)
  · refine r_iconst (v := nI 0) dX3_readInto_24 (by decide) ?_
    refine r_zret rfl (by first | exact bI_01 _ | exact Or.inl rfl | exact Or.inr rfl) dX3_readInto_25 ?_
    obtain ⟨e, he⟩ := pI_eq (by omega) h11
    refine ⟨by rw [he]; rfl, f1, q1, by rw [he]⟩
  · refine r_iload_n dX3_readInto_14 rfl (by rfl) ?_
    refine r_if_lt (tgt := 24) dX3_readInto_15 (by decide) (fun h15 => absurd h15 (nI_pos (by omega))) (fun _ => ?_)
    refine r_iload_n dX3_readInto_18 rfl (by rfl) ?_
    refine r_aload_n dX3_readInto_19 rfl (by rfl) ?_
    refine r_alen dX3_readInto_20 (by first | assumption | rfl) (by decide) rfl ?_
    refine r_icmp_ltN (tgt := 26) dX3_readInto_21 (by decide) (by omega) (by omega) (fun _ => ?_) (fun h21 => by exfalso; omega)
    refine r_aload_n dX3_readInto_26 rfl (by rfl) ?_
    refine r_iload_n dX3_readInto_27 rfl (by rfl) ?_
    refine r_iload dX3_readInto_28 (by rfl) ?_
    refine r_iastN dX3_readInto_30 (by first | assumption | rfl) (by omega) (by decide) ?_
    refine r_iconst (v := nI 1) dX3_readInto_31 (by decide) ?_
    refine r_zret rfl (by first | exact bI_01 _ | exact Or.inl rfl | exact Or.inr rfl) dX3_readInto_32 ?_
    obtain ⟨v, a2, he, _⟩ := pI_ne h11
    refine ⟨by rw [he]; rfl, f1, q1, by rw [he]; rfl⟩
set_option maxHeartbeats 8000000 in
set_option maxRecDepth 20000 in
theorem c_X3_readOf {g : Nat → Nat} {len a c m n : Nat} {hv : Int32} {x : XS} (hT : TP x g len a) (hc : lay c = .inr (.inl 5)) (hm : x 13 0 = nI m) (hm5 : m ≤ 5) (hn : n < 2 ^ 30) (hh : hv = nI n - nI 1) : MM mX3_readOf 3 0 0 [.ref 13, .ref 1, .ref c, .int hv] x (fun v x1 => v = some (.int (bI (okB (pTwo g len m n a)))) ∧ ∃ f, PF x f len (pTwo g len m n a) (fun q => q.2.2) ∧ x1 = (match pTwo g len m n a with | .ok q => xu (xr x 1 f) c q.1 (nI q.2.1) | .error _ => xr x 1 f)) NoT := by
  refine MM.of (by decide) (Nat.le_of_ble_eq_true rfl) ?_
  have y1 := lay_1
  have y2 := lay_2
  have y13 := lay_13
  have y14 := lay_14
  have y15 := lay_15
  have y16 := lay_16
  have y17 := lay_17
  have y18 := lay_18
  have y19 := lay_19
  have y20 := lay_20
  have y21 := lay_21
  have y22 := lay_22
  refine r_aload_n dX3_readOf_0 rfl (by rfl) ?_
  refine r_iconst (v := nI 0) dX3_readOf_1 (by decide) ?_
  refine r_aload_n dX3_readOf_2 rfl (by rfl) ?_
  refine gf_X3_9 rfl dX3_readOf_3 (by first | assumption | rfl) (by rfl) ?_
  refine PW.topi hm ?_
  refine r_iconst (v := nI 1) dX3_readOf_6 (by decide) ?_
  refine r_isub dX3_readOf_7 ?_
  refine r_callV (c_X8_number hT (by decide)) mv_X8_number ml_X3_90 ⟨by decide, by decide⟩ dX3_readOf_8 (by first | assumption | rfl) rfl rfl rfl (Nat.le_of_ble_eq_true rfl) (fun v9 x9 h9 => ?_)
  obtain ⟨rfl, h9⟩ := h9
  obtain ⟨v9, f1, e9, q1, b1⟩ := num_rel (x := x) (lo := 0) (n := m) hT (by decide) (by omega) rfl
  refine PW.topi v9 ?_
  refine PW.xeq (h9.trans e9) ?_
  clear h9 x9 v9 e9
  refine r_istore dX3_readOf_11 (by decide) ?_
  refine r_iload dX3_readOf_13 (by rfl) ?_
  refine r_iconst (v := -1) dX3_readOf_15 (by decide) ?_
  refine r_icmp_eq (tgt := 34) dX3_readOf_16 (by decide) (fun h16 => ?_) (fun h16 => ?_)
  · refine r_iconst (v := nI 0) dX3_readOf_34 (by decide) ?_
    refine r_zret rfl (by first | exact bI_01 _ | exact Or.inl rfl | exact Or.inr rfl) dX3_readOf_35 ?_
    first
      | (obtain ⟨e, he⟩ := pI_eq (by omega) h16
         have w : pTwo g len m n a = .error e := by unfold pTwo; rw [he]
         rw [w]
         exact ⟨rfl, f1, q1.cut he rfl, rfl⟩)
      | (obtain ⟨e, he2⟩ := okB_f h27
         have w : pTwo g len m n a = .error e := by unfold pTwo; rw [he]; show (match pNum g len 0 n a2 with | .error e => _ | .ok r => _) = _; rw [he2]
         rw [w]
         refine ⟨rfl, f2, (q1.then he q2 rfl).cut he2 rfl, ?_⟩
         rw [h9, he2]
         show xr (xr x 1 f1) 1 f2 = _
         rw [xr_xr])
      | (obtain ⟨r, he2⟩ := okB_t h27
         have w : pTwo g len m n a = .ok (p, r.1, r.2) := by unfold pTwo; rw [he]; show (match pNum g len 0 n a2 with | .error e => _ | .ok r => _) = _; rw [he2]
         have q3 := (q1.then he q2 rfl).ok he2
         rw [w]
         refine ⟨rfl, f2, q3, ?_⟩
         rw [h9, he2]
         show xu (xr (xr x 1 f1) 1 f2) c p _ = _
         rw [xr_xr])
  · obtain ⟨p, a2, he, hp⟩ := pI_ne h16
    have hT2 := q1.tp hT he
    refine r_aload_n dX3_readOf_19 rfl (by rfl) ?_
    refine r_aload_n dX3_readOf_20 rfl (by rfl) ?_
    refine r_iload dX3_readOf_21 (by rfl) ?_
    refine r_iload_n dX3_readOf_23 rfl (by rfl) ?_
    
    refine PW.cut (show (pI (pNum g len 0 m a)) = nI p by rw [he]; rfl) (fun hpp => ?_)
    rw [hpp]
    refine r_callS (c_X3_readInto hT2 hc (by omega) hn hh) ms_X3_readInto ml_X3_97 ⟨by decide, by decide⟩ dX3_readOf_24 rfl (Nat.le_of_ble_eq_true rfl) (fun v9 x9 h9 => ?_)
    obtain ⟨rfl, f2, q2, h9⟩ := h9
    refine r_if_eqB (tgt := 34) dX3_readOf_27 (by decide) (fun h27 => ?_) (fun h27 => ?_)
    · refine r_iconst (v := nI 0) dX3_readOf_34 (by decide) ?_
      refine r_zret rfl (by first | exact bI_01 _ | exact Or.inl rfl | exact Or.inr rfl) dX3_readOf_35 ?_
      first
        | (obtain ⟨e, he⟩ := pI_eq (by omega) h16
           have w : pTwo g len m n a = .error e := by unfold pTwo; rw [he]
           rw [w]
           exact ⟨rfl, f1, q1.cut he rfl, rfl⟩)
        | (obtain ⟨e, he2⟩ := okB_f h27
           have w : pTwo g len m n a = .error e := by unfold pTwo; rw [he]; show (match pNum g len 0 n a2 with | .error e => _ | .ok r => _) = _; rw [he2]
           rw [w]
           refine ⟨rfl, f2, (q1.then he q2 rfl).cut he2 rfl, ?_⟩
           rw [h9, he2]
           show xr (xr x 1 f1) 1 f2 = _
           rw [xr_xr])
        | (obtain ⟨r, he2⟩ := okB_t h27
           have w : pTwo g len m n a = .ok (p, r.1, r.2) := by unfold pTwo; rw [he]; show (match pNum g len 0 n a2 with | .error e => _ | .ok r => _) = _; rw [he2]
           have q3 := (q1.then he q2 rfl).ok he2
           rw [w]
           refine ⟨rfl, f2, q3, ?_⟩
           rw [h9, he2]
           show xu (xr (xr x 1 f1) 1 f2) c p _ = _
           rw [xr_xr])
    · refine r_iconst (v := nI 1) dX3_readOf_30 (by decide) ?_
      refine r_goto (tgt := 35) dX3_readOf_31 (by decide) ?_
      refine r_zret rfl (by first | exact bI_01 _ | exact Or.inl rfl | exact Or.inr rfl) dX3_readOf_35 ?_
      first
        | (obtain ⟨e, he⟩ := pI_eq (by omega) h16
           have w : pTwo g len m n a = .error e := by unfold pTwo; rw [he]
           rw [w]
           exact ⟨rfl, f1, q1.cut he rfl, rfl⟩)
        | (obtain ⟨e, he2⟩ := okB_f h27
           have w : pTwo g len m n a = .error e := by unfold pTwo; rw [he]; show (match pNum g len 0 n a2 with | .error e => _ | .ok r => _) = _; rw [he2]
           rw [w]
           refine ⟨rfl, f2, (q1.then he q2 rfl).cut he2 rfl, ?_⟩
           rw [h9, he2]
           show xr (xr x 1 f1) 1 f2 = _
           rw [xr_xr])
        | (obtain ⟨r, he2⟩ := okB_t h27
           have w : pTwo g len m n a = .ok (p, r.1, r.2) := by unfold pTwo; rw [he]; show (match pNum g len 0 n a2 with | .error e => _ | .ok r => _) = _; rw [he2]
           have q3 := (q1.then he q2 rfl).ok he2
           rw [w]
           refine ⟨rfl, f2, q3, ?_⟩
           rw [h9, he2]
           show xu (xr (xr x 1 f1) 1 f2) c p _ = _
           rw [xr_xr])
