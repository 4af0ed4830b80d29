/-! THE REFERENCE: the house's clauses -/
def DR (x : XS) (h : HS) : Prop := x 137 14 = nI (HS.n h) ∧ x 137 15 = nI (HS.ck h) ∧ x 137 16 = nI (HS.wall h) ∧ x 137 17 = nI (HS.over h) ∧ HS.n h ≤ 5 ∧ HS.ck h ≤ 6 ∧ (∀ k, k < 8 → ∀ p, p < HS.n h → x 140 (8 * p + k) = nI (HS.row h k p)) ∧ ∀ m, m < 60 → x 141 m = nI (HS.st h m)
def HK (x y : XS) : Prop := (∀ c, c ≠ 137 → c ≠ 140 → c ≠ 141 → y c = x c) ∧ ∀ k, ¬ (4 ≤ k ∧ k ≤ 6) → ¬ (14 ≤ k ∧ k ≤ 17) → y 137 k = x 137 k
theorem HK.rfl {x : XS} : HK x x := ⟨fun _ _ _ _ => _root_.rfl, fun _ _ _ => _root_.rfl⟩
theorem HK.trans {x y z : XS} (h : HK x y) (h2 : HK y z) : HK x z := ⟨fun c a b d => (h2.1 c a b d).trans (h.1 c a b d), fun k a b => (h2.2 k a b).trans (h.2 k a b)⟩
theorem CH.hk {x y : XS} (h : CH x y) : HK x y := ⟨fun c a _ _ => h.1 c a, fun k a _ => h.2 k (by omega) (by omega) (by omega)⟩
theorem HK.p0 {x y : XS} {k : Nat} {v : Int32} (h : HK x y) : HK x (xu y 140 k v) := ⟨fun c a b d => (xu_n b).trans (h.1 c a b d), fun j a b => by rw [xu_n (by decide)]; exact h.2 j a b⟩
theorem HK.p1 {x y : XS} {k : Nat} {v : Int32} (h : HK x y) : HK x (xu y 141 k v) := ⟨fun c a b d => (xu_n d).trans (h.1 c a b d), fun j a b => by rw [xu_n (by decide)]; exact h.2 j a b⟩
theorem HK.p7 {x y : XS} {k : Nat} {v : Int32} (h : HK x y) (hk : 14 ≤ k ∧ k ≤ 17) : HK x (xu y 137 k v) := ⟨fun c a b d => (xu_n a).trans (h.1 c a b d), fun j a b => by rw [xu_k (by omega)]; exact h.2 j a b⟩
theorem DR.fr {x y : XS} {h : HS} (hd : DR x h) (e7 : ∀ k, 14 ≤ k → k ≤ 17 → y 137 k = x 137 k) (e0 : y 140 = x 140) (e1 : y 141 = x 141) : DR y h := by
  unfold DR
  rw [e7 14 (by decide) (by decide), e7 15 (by decide) (by decide), e7 16 (by decide) (by decide), e7 17 (by decide) (by decide), e0, e1]
  exact hd
theorem DR.ch {x y : XS} {h : HS} (hd : DR x h) (c : CH x y) : DR y h := hd.fr (fun k _ _ => c.2 k (by omega) (by omega) (by omega)) (c.1 140 (by decide)) (c.1 141 (by decide))
theorem PSt.p0 {x : XS} {g : Nat → Nat} {len k : Nat} {v : Int32} {r : Except PE Nat} (h : PSt x g len r) : PSt (xu x 140 k v) g len r := h.ch (fun _ _ => rfl) rfl
theorem PSt.p1 {x : XS} {g : Nat → Nat} {len k : Nat} {v : Int32} {r : Except PE Nat} (h : PSt x g len r) : PSt (xu x 141 k v) g len r := h.ch (fun _ _ => rfl) rfl
theorem PSt.p7 {x : XS} {g : Nat → Nat} {len k : Nat} {v : Int32} {r : Except PE Nat} (h : PSt x g len r) (hk : 14 ≤ k) : PSt (xu x 137 k v) g len r := h.ch (fun _ _ => xu_k (by omega)) rfl
def xph : Except PE (HS × Nat) → Except PE Nat
  | .ok q => .ok q.2
  | .error e => .error e
def HL (x : XS) (g : Nat → Nat) (len : Nat) (r : Except PE (HS × Nat)) : Prop := PSt x g len (xph r) ∧ ∀ q, r = .ok q → DR x q.1
def xp3 : Except PE (Nat × Nat × Nat) → Except PE Nat
  | .ok q => .ok q.2.2
  | .error e => .error e
theorem two_T (g : Nat → Nat) (len n m a : Nat) : xmp (xbn (xmp (xbn (.ok a) (pNum g len 0 n))) (pNum g len 0 m)) = xp3 (pTwo g len n m a) := by
  rw [xbn_ok]
  unfold pTwo
  cases pNum g len 0 n a with
  | error e => rfl
  | ok q =>
    show xmp (pNum g len 0 m q.2) = xp3 (match pNum g len 0 m q.2 with | .error e => .error e | .ok r => .ok (q.1, r.1, r.2))
    cases pNum g len 0 m q.2 with
    | error e => rfl
    | ok r => rfl
theorem two_v {g : Nat → Nat} {len n m a : Nat} {q : Nat × Nat × Nat} (h : pTwo g len n m a = .ok q) : vI (xbn (.ok a) (pNum g len 0 n)) = nI q.1 ∧ vI (xbn (xmp (xbn (.ok a) (pNum g len 0 n))) (pNum g len 0 m)) = nI q.2.1 ∧ q.1 < n ∧ q.2.1 < m := by
  rw [xbn_ok]
  unfold pTwo at h
  cases h1 : pNum g len 0 n a with
  | error e => rw [h1] at h; cases h
  | ok p =>
    rw [h1] at h
    have h : (match pNum g len 0 m p.2 with | .error e => .error e | .ok r => .ok (p.1, r.1, r.2)) = (.ok q : Except PE (Nat × Nat × Nat)) := h
    show nI p.1 = _ ∧ vI (pNum g len 0 m p.2) = _ ∧ _
    cases h2 : pNum g len 0 m p.2 with
    | error e => rw [h2] at h; cases h
    | ok r =>
      rw [h2] at h
      injection h with h
      subst h
      exact ⟨rfl, rfl, (pNum_lt h1).2, (pNum_lt h2).2⟩
theorem two_q {g : Nat → Nat} {len n m a : Nat} (h : okB (xp3 (pTwo g len n m a)) = true) : ∃ q, pTwo g len n m a = .ok q := by
  cases h1 : pTwo g len n m a with
  | error e => rw [h1] at h; cases h
  | ok q => exact ⟨q, rfl⟩
theorem two_e {g : Nat → Nat} {len n m a : Nat} (h : okB (xp3 (pTwo g len n m a)) = false) : ∃ e, pTwo g len n m a = .error e := by
  cases h1 : pTwo g len n m a with
  | error e => exact ⟨e, rfl⟩
  | ok q => rw [h1] at h; cases h
theorem DR.put {x : XS} {h : HS} {k p v : Nat} (hd : DR x h) (hk : k < 8) : DR (xu x 140 (8 * p + k) (nI v)) (HS.put h k p v) := by
  obtain ⟨h1, h2, h3, h4, h5, h6, h7, h8⟩ := hd
  refine ⟨h1, h2, h3, h4, h5, h6, fun k9 hk9 p9 hp9 => ?_, h8⟩
  show upd (x 140) (8 * p + k) (nI v) (8 * p9 + k9) = nI ((if k9 = k then updN ((HS.row h) k) p v else (HS.row h) k9) p9)
  by_cases e : k9 = k
  · subst e
    rw [if_pos rfl]
    unfold updN
    by_cases e2 : p9 = p
    · subst e2
      rw [if_pos rfl, pk_us]
    · rw [if_neg e2, pk_un (by omega)]
      exact h7 k9 hk p9 hp9
  · rw [if_neg e, pk_un (by omega)]
    exact h7 k9 hk9 p9 hp9
set_option maxHeartbeats 8000000 in
set_option maxRecDepth 20000 in
theorem n_readOf {g : Nat → Nat} {len a k m : Nat} {h : HS} {x : XS} (hP : PSt x g len (.ok a)) (hd : DR x h) (hk : k < 8) (hm : m < 900) : MM mX10_readOf 2 0 0 [.ref 137, .int (nI k), .int (nI m)] x (fun v y => v = none ∧ HL y g len (pOf g len k (m + 1) h a) ∧ HK x y) NoT := by
  refine MM.of (by decide) (Nat.le_of_ble_eq_true rfl) ?_
  have y137 := lay_137
  have y140 := lay_140
  have h5 := hd.2.2.2.2.1
  refine r_aload_n dX10_readOf_0 rfl (by rfl) ?_
  refine r_iconst (v := nI 0) dX10_readOf_1 (by decide) ?_
  refine r_aload_n dX10_readOf_2 rfl (by rfl) ?_
  refine gf_X10_144 rfl dX10_readOf_3 (by first | assumption | rfl) (by rfl) ?_
  refine PW.topi hd.1 ?_
  refine r_iconst (v := nI 1) dX10_readOf_6 (by decide) ?_
  refine r_isub dX10_readOf_7 ?_
  refine r_callV (t_num (lo := 0) (n := HS.n h) hP (by decide) (by omega) (fun v hv => hv_N (by omega) hv)) mv_X10_readNumber ml_X10_181 ⟨by decide, by decide⟩ dX10_readOf_8 (by first | assumption | rfl) rfl rfl rfl (Nat.le_of_ble_eq_true rfl) (fun v9 y1 h9 => ?_)
  obtain ⟨rfl, P1, C1⟩ := h9
  refine r_istore_n dX10_readOf_11 rfl (by decide) ?_
  refine r_aload_n dX10_readOf_12 rfl (by rfl) ?_
  refine r_iconst (v := nI 0) dX10_readOf_13 (by decide) ?_
  refine r_iload_n dX10_readOf_14 rfl (by rfl) ?_
  refine r_callV (t_num (lo := 0) (n := m + 1) P1 (by decide) (by omega) (fun v hv => hv_C (by omega) hv)) mv_X10_readNumber ml_X10_181 ⟨by decide, by decide⟩ dX10_readOf_15 (by first | assumption | rfl) rfl rfl rfl (Nat.le_of_ble_eq_true rfl) (fun v9 y2 h9 => ?_)
  obtain ⟨rfl, P2, C2⟩ := h9
  rw [two_T] at P2
  refine r_istore dX10_readOf_18 (by decide) ?_
  refine r_aload_n dX10_readOf_20 rfl (by rfl) ?_
  refine r_callV (t_fine P2) mv_X10_fine ml_X10_130 ⟨by decide, by decide⟩ dX10_readOf_21 (by first | assumption | rfl) rfl rfl rfl (Nat.le_of_ble_eq_true rfl) (fun v9 x9 h9 => ?_)
  obtain ⟨rfl, h9⟩ := h9
  refine PW.xeq h9 ?_
  clear h9 x9
  refine r_if_eqB (tgt := 40) dX10_readOf_24 (by decide) (fun h24 => ?_) (fun h24 => ?_)
  · refine r_ret rfl dX10_readOf_40 ?_
    first
      | (obtain ⟨e, hT⟩ := two_e h24
         rw [hT] at P2
         refine ⟨rfl, ⟨?_, fun q hq => ?_⟩, (C1.trans C2).hk⟩
         · unfold pOf
           rw [hT]
           exact P2
         · unfold pOf at hq
           rw [hT] at hq
           cases hq)
      | (rw [hT] at P2
         refine ⟨rfl, ⟨?_, fun q9 hq => ?_⟩, ((C1.trans C2).hk).p0⟩
         · unfold pOf
           rw [hT]
           exact PSt.p0 (r := .ok q.2.2) P2
         · unfold pOf at hq
           rw [hT] at hq
           injection hq with hq
           subst hq
           exact DR.put (hd.ch (C1.trans C2)) hk)
  · obtain ⟨q, hT⟩ := two_q h24
    obtain ⟨v1, v2, hq1, hq2⟩ := two_v hT
    rw [v1, v2]
    refine PW.lc (L' := [(0, .ref 137), (1, .int (nI k)), (2, .int (nI m)), (3, .int (nI q.1)), (4, .int (nI q.2.1))]) (by rfl) rfl ?_
    refine r_aload_n dX10_readOf_27 rfl (by rfl) ?_
    refine gf_X10_23 rfl dX10_readOf_28 (by first | assumption | rfl) (by rfl) ?_
    refine r_bipush (v := nI 8) dX10_readOf_31 (by decide) ?_
    refine r_iload_n dX10_readOf_33 rfl (by rfl) ?_
    refine r_imulN dX10_readOf_34 ?_
    refine r_iload_n dX10_readOf_35 rfl (by rfl) ?_
    refine r_iaddN dX10_readOf_36 ?_
    refine r_iload dX10_readOf_37 (by rfl) ?_
    refine r_iastN dX10_readOf_39 (by first | assumption | rfl) (by omega) (by decide) ?_
    refine r_ret rfl dX10_readOf_40 ?_
    first
      | (obtain ⟨e, hT⟩ := two_e h24
         rw [hT] at P2
         refine ⟨rfl, ⟨?_, fun q hq => ?_⟩, (C1.trans C2).hk⟩
         · unfold pOf
           rw [hT]
           exact P2
         · unfold pOf at hq
           rw [hT] at hq
           cases hq)
      | (rw [hT] at P2
         refine ⟨rfl, ⟨?_, fun q9 hq => ?_⟩, ((C1.trans C2).hk).p0⟩
         · unfold pOf
           rw [hT]
           exact PSt.p0 (r := .ok q.2.2) P2
         · unfold pOf at hq
           rw [hT] at hq
           injection hq with hq
           subst hq
           exact DR.put (hd.ch (C1.trans C2)) hk)
def xp4 : Except PE ((Nat × Nat × Nat × Nat) × Nat) → Except PE Nat
  | .ok q => .ok q.2
  | .error e => .error e
theorem four_T (g : Nat → Nat) (len a : Nat) : xmp (xbn (xmp (xbn (xmp (xbn (xmp (xbn (.ok a) (pNum g len 0 61))) (pNum g len 0 21))) (pNum g len 0 10))) (pNum g len 0 2)) = xp4 (pFour g len a) := by
  rw [xbn_ok]
  unfold pFour
  cases pNum g len 0 61 a with
  | error e => rfl
  | ok q0 =>
    show xmp (xbn (xmp (xbn (xmp (pNum g len 0 21 q0.2)) _)) _) = xp4 (match pNum g len 0 21 q0.2 with | .error e => .error e | .ok q1 => _)
    cases pNum g len 0 21 q0.2 with
    | error e => rfl
    | ok q1 =>
      show xmp (xbn (xmp (pNum g len 0 10 q1.2)) _) = xp4 (match pNum g len 0 10 q1.2 with | .error e => .error e | .ok q2 => _)
      cases pNum g len 0 10 q1.2 with
      | error e => rfl
      | ok q2 =>
        show xmp (pNum g len 0 2 q2.2) = xp4 (match pNum g len 0 2 q2.2 with | .error e => .error e | .ok q3 => _)
        cases pNum g len 0 2 q2.2 with
        | error e => rfl
        | ok q3 => rfl
theorem four_v {g : Nat → Nat} {len a : Nat} {q : (Nat × Nat × Nat × Nat) × Nat} (h : pFour g len a = .ok q) : vI (xbn (.ok a) (pNum g len 0 61)) = nI q.1.1 ∧ vI (xbn (xmp (xbn (.ok a) (pNum g len 0 61))) (pNum g len 0 21)) = nI q.1.2.1 ∧ vI (xbn (xmp (xbn (xmp (xbn (.ok a) (pNum g len 0 61))) (pNum g len 0 21))) (pNum g len 0 10)) = nI q.1.2.2.1 ∧ vI (xbn (xmp (xbn (xmp (xbn (xmp (xbn (.ok a) (pNum g len 0 61))) (pNum g len 0 21))) (pNum g len 0 10))) (pNum g len 0 2)) = nI q.1.2.2.2 := by
  rw [xbn_ok]
  unfold pFour at h
  cases h1 : pNum g len 0 61 a with
  | error e => rw [h1] at h; cases h
  | ok q0 =>
    rw [h1] at h
    have h : (match pNum g len 0 21 q0.2 with | .error e => .error e | .ok q1 => (match pNum g len 0 10 q1.2 with | .error e => .error e | .ok q2 => (match pNum g len 0 2 q2.2 with | .error e => .error e | .ok q3 => .ok ((q0.1, q1.1, q2.1, q3.1), q3.2)))) = (.ok q : Except PE _) := h
    show nI q0.1 = _ ∧ vI (pNum g len 0 21 q0.2) = _ ∧ vI (xbn (xmp (pNum g len 0 21 q0.2)) _) = _ ∧ vI (xbn (xmp (xbn (xmp (pNum g len 0 21 q0.2)) _)) _) = _
    cases h2 : pNum g len 0 21 q0.2 with
    | error e => rw [h2] at h; cases h
    | ok q1 =>
      rw [h2] at h
      have h : (match pNum g len 0 10 q1.2 with | .error e => .error e | .ok q2 => (match pNum g len 0 2 q2.2 with | .error e => .error e | .ok q3 => .ok ((q0.1, q1.1, q2.1, q3.1), q3.2))) = (.ok q : Except PE _) := h
      show nI q0.1 = _ ∧ nI q1.1 = _ ∧ vI (pNum g len 0 10 q1.2) = _ ∧ vI (xbn (xmp (pNum g len 0 10 q1.2)) _) = _
      cases h3 : pNum g len 0 10 q1.2 with
      | error e => rw [h3] at h; cases h
      | ok q2 =>
        rw [h3] at h
        have h : (match pNum g len 0 2 q2.2 with | .error e => .error e | .ok q3 => .ok ((q0.1, q1.1, q2.1, q3.1), q3.2)) = (.ok q : Except PE _) := h
        show nI q0.1 = _ ∧ nI q1.1 = _ ∧ nI q2.1 = _ ∧ vI (pNum g len 0 2 q2.2) = _
        cases h4 : pNum g len 0 2 q2.2 with
        | error e => rw [h4] at h; cases h
        | ok q3 =>
          rw [h4] at h
          injection h with h
          subst h
          exact ⟨rfl, rfl, rfl, rfl⟩
def zs (y : XS) (q : Nat) : Nat → XS
  | 0 => y
  | i + 1 => xu (zs y q i) 140 (q + (4 + i)) (nI 0)
theorem zs_n {y : XS} {q c : Nat} (h : c ≠ 140) : ∀ i, zs y q i c = y c
  | 0 => rfl
  | i + 1 => (xu_n h).trans (zs_n h i)
theorem zs_row {y : XS} {q : Nat} : ∀ i j, zs y q i 140 j = if q + 4 ≤ j ∧ j < q + 4 + i then nI 0 else y 140 j
  | 0, j => by rw [if_neg (by omega)]; rfl
  | i + 1, j => by
    show upd (zs y q i 140) (q + (4 + i)) (nI 0) j = _
    by_cases e : j = q + (4 + i)
    · subst e
      rw [pk_us, if_pos (by omega)]
    · rw [pk_un e, zs_row i j]
      by_cases e2 : q + 4 ≤ j ∧ j < q + 4 + i
      · rw [if_pos e2, if_pos (by omega)]
      · rw [if_neg e2, if_neg (by omega)]
def pNew (g : Nat → Nat) (len : Nat) (h : HS) (a : Nat) : Except PE (HS × Nat) := match pFour g len a with
  | .error e => .error e
  | .ok q => .ok (HS.new h q.1, q.2)
theorem DR.new {x z : XS} {h : HS} {v : Nat × Nat × Nat × Nat} (hd : DR x h) (hn : HS.n h < 5) (e14 : z 137 14 = nI (HS.n h + 1)) (e7 : ∀ k, 15 ≤ k → k ≤ 17 → z 137 k = x 137 k) (e1 : z 141 = x 141) (h0 : ∀ j, (j < 8 * HS.n h ∨ 8 * HS.n h + 8 ≤ j) → z 140 j = x 140 j) (v0 : z 140 (8 * HS.n h + 0) = nI v.1) (v1 : z 140 (8 * HS.n h + 1) = nI v.2.1) (v2 : z 140 (8 * HS.n h + 2) = nI v.2.2.1) (v3 : z 140 (8 * HS.n h + 3) = nI v.2.2.2) (v4 : ∀ k, 4 ≤ k → k < 8 → z 140 (8 * HS.n h + k) = nI 0) : DR z (HS.new h v) := by
  obtain ⟨h1, h2, h3, h4, h5, h6, h7, h8⟩ := hd
  refine ⟨e14, (e7 15 (by decide) (by decide)).trans h2, (e7 16 (by decide) (by decide)).trans h3, (e7 17 (by decide) (by decide)).trans h4, hn, h6, fun k hk p hp => ?_, fun m hm => by rw [e1]; exact h8 m hm⟩
  have hp : p < HS.n h + 1 := hp
  show _ = nI (if p = HS.n h then (if k = 0 then v.1 else if k = 1 then v.2.1 else if k = 2 then v.2.2.1 else if k = 3 then v.2.2.2 else 0) else HS.row h k p)
  by_cases e : p = HS.n h
  · subst e
    rw [if_pos rfl]
    by_cases k0 : k = 0
    · subst k0; rw [if_pos rfl]; exact v0
    by_cases k1 : k = 1
    · subst k1; rw [if_neg (by decide), if_pos rfl]; exact v1
    by_cases k2 : k = 2
    · subst k2; rw [if_neg (by decide), if_neg (by decide), if_pos rfl]; exact v2
    by_cases k3 : k = 3
    · subst k3; rw [if_neg (by decide), if_neg (by decide), if_neg (by decide), if_pos rfl]; exact v3
    rw [if_neg k0, if_neg k1, if_neg k2, if_neg k3]
    exact v4 k (by omega) hk
  · rw [if_neg e, h0 _ (by omega)]
    exact h7 k hk p (by omega)
set_option maxHeartbeats 8000000 in
set_option maxRecDepth 20000 in
theorem n_readSleeper {g : Nat → Nat} {len a : Nat} {h : HS} {x : XS} (hP : PSt x g len (.ok a)) (hd : DR x h) (hn : HS.n h < 5) : MM mX10_readSleeper 2 0 0 [.ref 137] x (fun v y => v = none ∧ HL y g len (pNew g len h a) ∧ HK x y) NoT := by
  refine MM.of (by decide) (Nat.le_of_ble_eq_true rfl) ?_
  have y137 := lay_137
  have y140 := lay_140
  refine r_bipush (v := nI 8) dX10_readSleeper_0 (by decide) ?_
  refine r_aload_n dX10_readSleeper_2 rfl (by rfl) ?_
  refine gf_X10_144 rfl dX10_readSleeper_3 (by first | assumption | rfl) (by rfl) ?_
  refine PW.topi hd.1 ?_
  refine r_imulN dX10_readSleeper_6 ?_
  refine r_istore_n dX10_readSleeper_7 rfl (by decide) ?_
  refine r_aload_n dX10_readSleeper_8 rfl (by rfl) ?_
  refine gf_X10_23 rfl dX10_readSleeper_9 (by first | assumption | rfl) (by rfl) ?_
  refine r_iload_n dX10_readSleeper_12 rfl (by rfl) ?_
  refine r_iconst (v := nI 0) dX10_readSleeper_13 (by decide) ?_
  refine r_iaddN dX10_readSleeper_14 ?_
  refine r_aload_n dX10_readSleeper_15 rfl (by rfl) ?_
  refine r_iconst (v := nI 0) dX10_readSleeper_16 (by decide) ?_
  refine r_bipush (v := nI 60) dX10_readSleeper_17 (by decide) ?_
  refine r_callV (t_num (lo := 0) (n := 61) (hv := nI 60) hP (by decide) (by decide) (fun v hv => hv_C (by decide) hv)) mv_X10_readNumber ml_X10_181 ⟨by decide, by decide⟩ dX10_readSleeper_19 (by first | assumption | rfl) rfl rfl rfl (Nat.le_of_ble_eq_true rfl) (fun v9 y1 h9 => ?_)
  obtain ⟨rfl, P1, C1⟩ := h9
  refine r_iastN dX10_readSleeper_22 (by first | assumption | rfl) (by omega) (by decide) ?_
  refine r_aload_n dX10_readSleeper_23 rfl (by rfl) ?_
  refine gf_X10_23 rfl dX10_readSleeper_24 (by first | assumption | rfl) (by rfl) ?_
  refine r_iload_n dX10_readSleeper_27 rfl (by rfl) ?_
  refine r_iconst (v := nI 1) dX10_readSleeper_28 (by decide) ?_
  refine r_iaddN dX10_readSleeper_29 ?_
  refine r_aload_n dX10_readSleeper_30 rfl (by rfl) ?_
  refine r_iconst (v := nI 0) dX10_readSleeper_31 (by decide) ?_
  refine r_bipush (v := nI 20) dX10_readSleeper_32 (by decide) ?_
  refine r_callV (t_num (lo := 0) (n := 21) (hv := nI 20) P1.p0 (by decide) (by decide) (fun v hv => hv_C (by decide) hv)) mv_X10_readNumber ml_X10_181 ⟨by decide, by decide⟩ dX10_readSleeper_34 (by first | assumption | rfl) rfl rfl rfl (Nat.le_of_ble_eq_true rfl) (fun v9 y2 h9 => ?_)
  obtain ⟨rfl, P2, C2⟩ := h9
  refine r_iastN dX10_readSleeper_37 (by first | assumption | rfl) (by omega) (by decide) ?_
  refine r_aload_n dX10_readSleeper_38 rfl (by rfl) ?_
  refine gf_X10_23 rfl dX10_readSleeper_39 (by first | assumption | rfl) (by rfl) ?_
  refine r_iload_n dX10_readSleeper_42 rfl (by rfl) ?_
  refine r_iconst (v := nI 2) dX10_readSleeper_43 (by decide) ?_
  refine r_iaddN dX10_readSleeper_44 ?_
  refine r_aload_n dX10_readSleeper_45 rfl (by rfl) ?_
  refine r_iconst (v := nI 0) dX10_readSleeper_46 (by decide) ?_
  refine r_bipush (v := nI 9) dX10_readSleeper_47 (by decide) ?_
  refine r_callV (t_num (lo := 0) (n := 10) (hv := nI 9) P2.p0 (by decide) (by decide) (fun v hv => hv_C (by decide) hv)) mv_X10_readNumber ml_X10_181 ⟨by decide, by decide⟩ dX10_readSleeper_49 (by first | assumption | rfl) rfl rfl rfl (Nat.le_of_ble_eq_true rfl) (fun v9 y3 h9 => ?_)
  obtain ⟨rfl, P3, C3⟩ := h9
  refine r_iastN dX10_readSleeper_52 (by first | assumption | rfl) (by omega) (by decide) ?_
  refine r_aload_n dX10_readSleeper_53 rfl (by rfl) ?_
  refine gf_X10_23 rfl dX10_readSleeper_54 (by first | assumption | rfl) (by rfl) ?_
  refine r_iload_n dX10_readSleeper_57 rfl (by rfl) ?_
  refine r_iconst (v := nI 3) dX10_readSleeper_58 (by decide) ?_
  refine r_iaddN dX10_readSleeper_59 ?_
  refine r_aload_n dX10_readSleeper_60 rfl (by rfl) ?_
  refine r_iconst (v := nI 0) dX10_readSleeper_61 (by decide) ?_
  refine r_iconst (v := nI 1) dX10_readSleeper_62 (by decide) ?_
  refine r_callV (t_num (lo := 0) (n := 2) (hv := nI 1) P3.p0 (by decide) (by decide) (fun v hv => hv_C (by decide) hv)) mv_X10_readNumber ml_X10_181 ⟨by decide, by decide⟩ dX10_readSleeper_63 (by first | assumption | rfl) rfl rfl rfl (Nat.le_of_ble_eq_true rfl) (fun v9 y4 h9 => ?_)
  obtain ⟨rfl, P4, C4⟩ := h9
  rw [four_T] at P4
  refine r_iastN dX10_readSleeper_66 (by first | assumption | rfl) (by omega) (by decide) ?_
  refine r_iconst (v := nI 4) dX10_readSleeper_67 (by decide) ?_
  refine r_istore_n dX10_readSleeper_68 rfl (by decide) ?_
  refine PW.loop (σ := Nat) (fun i => 4 - i) (fun i => i ≤ 4) (fun i => [(0, .ref 137), (1, .int (nI (8 * HS.n h))), (2, .int (nI (4 + i)))]) (fun i => zs (xu y4 140 (8 * HS.n h + 3) (vI (xbn (xmp (xbn (xmp (xbn (xmp (xbn (.ok a) (pNum g len 0 61))) (pNum g len 0 21))) (pNum g len 0 10))) (pNum g len 0 2)))) (8 * HS.n h) i) (0) (Nat.zero_le _) rfl rfl (fun i hi ih => ?_)
  refine r_iload_n dX10_readSleeper_69 rfl (by rfl) ?_
  refine r_bipush (v := nI 7) dX10_readSleeper_70 (by decide) ?_
  refine r_icmp_gtN (tgt := 90) dX10_readSleeper_72 (by decide) (by omega) (by omega) (fun h72 => ?_) (fun h72 => ?_)
  · refine r_aload_n dX10_readSleeper_90 rfl (by rfl) ?_
    refine r_dup dX10_readSleeper_91 rfl ?_
    refine gf_X10_144 rfl dX10_readSleeper_92 (by first | assumption | rfl) (by rfl) ?_
    have hi4 : i = 4 := by omega
    subst hi4
    have e14 : zs (xu y4 140 (8 * HS.n h + 3) (vI (xbn (xmp (xbn (xmp (xbn (xmp (xbn (.ok a) (pNum g len 0 61))) (pNum g len 0 21))) (pNum g len 0 10))) (pNum g len 0 2)))) (8 * HS.n h) 4 137 14 = nI (HS.n h) := by
      rw [zs_n (by decide)]
      exact (C4.2 14 (by decide) (by decide) (by decide)).trans ((C3.2 14 (by decide) (by decide) (by decide)).trans ((C2.2 14 (by decide) (by decide) (by decide)).trans ((C1.2 14 (by decide) (by decide) (by decide)).trans hd.1)))
    refine PW.topi e14 ?_
    refine r_iconst (v := nI 1) dX10_readSleeper_95 (by decide) ?_
    refine r_iaddN dX10_readSleeper_96 ?_
    refine pf_X10_144 rfl dX10_readSleeper_97 (by first | assumption | rfl) (by rfl) ?_
    refine r_ret rfl dX10_readSleeper_100 ?_
    have e140 : ∀ j, zs (xu y4 140 (8 * HS.n h + 3) (vI (xbn (xmp (xbn (xmp (xbn (xmp (xbn (.ok a) (pNum g len 0 61))) (pNum g len 0 21))) (pNum g len 0 10))) (pNum g len 0 2)))) (8 * HS.n h) 4 140 j = if 8 * HS.n h + 4 ≤ j ∧ j < 8 * HS.n h + 4 + 4 then nI 0 else upd (upd (upd (upd (x 140) (8 * HS.n h + 0) (vI (xbn (.ok a) (pNum g len 0 61)))) (8 * HS.n h + 1) (vI (xbn (xmp (xbn (.ok a) (pNum g len 0 61))) (pNum g len 0 21)))) (8 * HS.n h + 2) (vI (xbn (xmp (xbn (xmp (xbn (.ok a) (pNum g len 0 61))) (pNum g len 0 21))) (pNum g len 0 10)))) (8 * HS.n h + 3) (vI (xbn (xmp (xbn (xmp (xbn (xmp (xbn (.ok a) (pNum g len 0 61))) (pNum g len 0 21))) (pNum g len 0 10))) (pNum g len 0 2))) j := fun j => by
      rw [zs_row]
      show (if _ then _ else upd (y4 140) _ _ j) = _
      rw [C4.1 140 (by decide)]
      show (if _ then _ else upd (upd (y3 140) _ _) _ _ j) = _
      rw [C3.1 140 (by decide)]
      show (if _ then _ else upd (upd (upd (y2 140) _ _) _ _) _ _ j) = _
      rw [C2.1 140 (by decide)]
      show (if _ then _ else upd (upd (upd (upd (y1 140) _ _) _ _) _ _) _ _ j) = _
      rw [C1.1 140 (by decide)]
    have K4 : HK x (xu y4 140 (8 * HS.n h + 3) (vI (xbn (xmp (xbn (xmp (xbn (xmp (xbn (.ok a) (pNum g len 0 61))) (pNum g len 0 21))) (pNum g len 0 10))) (pNum g len 0 2)))) := ((((((C1.hk).p0).trans C2.hk).p0.trans C3.hk).p0.trans C4.hk).p0)
    have KZ : HK x (xu (zs (xu y4 140 (8 * HS.n h + 3) (vI (xbn (xmp (xbn (xmp (xbn (xmp (xbn (.ok a) (pNum g len 0 61))) (pNum g len 0 21))) (pNum g len 0 10))) (pNum g len 0 2)))) (8 * HS.n h) 4) 137 14 (nI (HS.n h + 1))) := HK.p7 ⟨fun c a b d => (zs_n b 4).trans (K4.1 c a b d), fun j a b => by rw [zs_n (by decide)]; exact K4.2 j a b⟩ (by omega)
    have PZ : PSt (xu (zs (xu y4 140 (8 * HS.n h + 3) (vI (xbn (xmp (xbn (xmp (xbn (xmp (xbn (.ok a) (pNum g len 0 61))) (pNum g len 0 21))) (pNum g len 0 10))) (pNum g len 0 2)))) (8 * HS.n h) 4) 137 14 (nI (HS.n h + 1))) g len (xp4 (pFour g len a)) := PSt.p7 (PSt.ch P4 (fun k _ => by rw [zs_n (by decide)]; rfl) (zs_n (by decide) 4)) (by decide)
    refine ⟨rfl, ⟨?_, fun q9 hq => ?_⟩, KZ⟩
    · unfold pNew
      cases hf : pFour g len a with
      | error e => rw [hf] at PZ; exact PZ
      | ok q => rw [hf] at PZ; exact PZ
    · unfold pNew at hq
      cases hf : pFour g len a with
      | error e => rw [hf] at hq; cases hq
      | ok q =>
        rw [hf] at hq
        injection hq with hq
        subst hq
        obtain ⟨w1, w2, w3, w4⟩ := four_v hf
        have e9 : ∀ j, xu (zs (xu y4 140 (8 * HS.n h + 3) (vI (xbn (xmp (xbn (xmp (xbn (xmp (xbn (.ok a) (pNum g len 0 61))) (pNum g len 0 21))) (pNum g len 0 10))) (pNum g len 0 2)))) (8 * HS.n h) 4) 137 14 (nI (HS.n h + 1)) 140 j = zs (xu y4 140 (8 * HS.n h + 3) (vI (xbn (xmp (xbn (xmp (xbn (xmp (xbn (.ok a) (pNum g len 0 61))) (pNum g len 0 21))) (pNum g len 0 10))) (pNum g len 0 2)))) (8 * HS.n h) 4 140 j := fun j => by rw [xu_n (by decide)]
        refine DR.new hd hn xu_s (fun k a1 a2 => ?_) ?_ (fun j hj => ?_) ?_ ?_ ?_ ?_ (fun k a1 a2 => ?_)
        · rw [xu_k (by omega), zs_n (by decide)]
          exact (C4.2 k (by omega) (by omega) (by omega)).trans ((C3.2 k (by omega) (by omega) (by omega)).trans ((C2.2 k (by omega) (by omega) (by omega)).trans (C1.2 k (by omega) (by omega) (by omega))))
        · rw [xu_n (by decide), zs_n (by decide)]
          exact (C4.1 141 (by decide)).trans ((C3.1 141 (by decide)).trans ((C2.1 141 (by decide)).trans (C1.1 141 (by decide))))
        · rw [e9, e140, if_neg (by omega), pk_un (by omega), pk_un (by omega), pk_un (by omega), pk_un (by omega)]
        · rw [e9, e140, if_neg (by omega), pk_un (by omega), pk_un (by omega), pk_un (by omega), pk_us]
          exact w1
        · rw [e9, e140, if_neg (by omega), pk_un (by omega), pk_un (by omega), pk_us]
          exact w2
        · rw [e9, e140, if_neg (by omega), pk_un (by omega), pk_us]
          exact w3
        · rw [e9, e140, if_neg (by omega), pk_us]
          exact w4
        · rw [e9, e140, if_pos (by omega)]
  · refine r_aload_n dX10_readSleeper_75 rfl (by rfl) ?_
    refine gf_X10_23 rfl dX10_readSleeper_76 (by first | assumption | rfl) (by rfl) ?_
    refine r_iload_n dX10_readSleeper_79 rfl (by rfl) ?_
    refine r_iload_n dX10_readSleeper_80 rfl (by rfl) ?_
    refine r_iaddN dX10_readSleeper_81 ?_
    refine r_iconst (v := nI 0) dX10_readSleeper_82 (by decide) ?_
    refine r_iastN dX10_readSleeper_83 (by first | assumption | rfl) (by omega) (by decide) ?_
    refine r_iincN dX10_readSleeper_84 (by rfl) (by decide) ?_
    refine r_goto (tgt := 69) dX10_readSleeper_87 (by decide) ?_
    exact PW.lc (by rfl) rfl (ih (i + 1) (show i + 1 ≤ 4 by omega) (show 4 - (i + 1) < 4 - i by omega))
