/-! THE REFERENCE: a step -/
def onL (l : List ST) (r : Except PE (Nat × Nat)) : SR := xbn r (fun q => .ok (l, q.2))
def onC (k : Nat) (r : Except PE (Nat × Nat)) : ST := match r with
  | .ok q => (k, q.1, 0)
  | .error _ => (k, 0, 0)
def twL (l : List ST) (r : Except PE (Nat × Nat × Nat)) : SR := xbn r (fun q => .ok (l, q.2.2))
def twC (k : Nat) (r : Except PE (Nat × Nat × Nat)) : ST := match r with
  | .ok q => (k, q.1, q.2.1)
  | .error _ => (k, 0, 0)
theorem on_eq (l : List ST) (k : Nat) (r : Except PE (Nat × Nat)) : emS (onL l r) (onC k r) = xbn (xbn r (fun q => .ok ([(k, q.1, 0)], q.2))) (fun q => .ok (l ++ q.1, q.2)) := by
  cases r <;> rfl
theorem tw_eq (l : List ST) (k : Nat) (r : Except PE (Nat × Nat × Nat)) : emS (twL l r) (twC k r) = xbn (xbn r (fun q => .ok ([(k, q.1, q.2.1)], q.2.2))) (fun q => .ok (l ++ q.1, q.2)) := by
  cases r <;> rfl
theorem on_st {x y : XS} {g : Nat → Nat} {len o n b : Nat} {l : List ST} (G : WSt x g len o (.ok (l, b))) (C : CH x y) (hP : PSt y g len (xmp (xbn (.ok b) (pNum g len 0 n)))) : WSt y g len o (onL l (pNum g len 0 n b)) := by
  rw [xbn_ok] at hP
  cases hp : pNum g len 0 n b with
  | error e => rw [hp] at hP; exact G.er C hP
  | ok q =>
    rw [hp] at hP
    exact G.mv C hP (pNum_ge0 hp)
theorem tw_st {x y : XS} {g : Nat → Nat} {len o n m b : Nat} {l : List ST} (G : WSt x g len o (.ok (l, b))) (C : CH x y) (hP : PSt y g len (xp3 (pTwo g len n m b))) : WSt y g len o (twL l (pTwo g len n m b)) := by
  cases hp : pTwo g len n m b with
  | error e => rw [hp] at hP; exact G.er C hP
  | ok q =>
    rw [hp] at hP
    exact G.mv C hP (pTwo_ge hp)
theorem on_len {g : Nat → Nat} {len n b : Nat} {l : List ST} (hb : 4 * (l.length + 1) ≤ b) (p : List ST × Nat) (h : onL l (pNum g len 0 n b) = .ok p) : 4 * (p.1.length + 1) ≤ p.2 := by
  obtain ⟨q, h1, h2⟩ := xbn_is h
  injection h2 with h2
  subst h2
  have := pNum_ge0 h1
  show 4 * (l.length + 1) ≤ q.2
  omega
theorem tw_len {g : Nat → Nat} {len n m b : Nat} {l : List ST} (hb : 4 * (l.length + 1) ≤ b) (p : List ST × Nat) (h : twL l (pTwo g len n m b) = .ok p) : 4 * (p.1.length + 1) ≤ p.2 := by
  obtain ⟨q, h1, h2⟩ := xbn_is h
  injection h2 with h2
  subst h2
  have := pTwo_ge h1
  show 4 * (l.length + 1) ≤ q.2.2
  omega
theorem on_v {g : Nat → Nat} {len n b k : Nat} {l : List ST} (p : List ST × Nat) (h : onL l (pNum g len 0 n b) = .ok p) : nI k = nI (onC k (pNum g len 0 n b)).1 ∧ vI (xbn (.ok b) (pNum g len 0 n)) = nI (onC k (pNum g len 0 n b)).2.1 ∧ nI 0 = nI (tN (onC k (pNum g len 0 n b))) := by
  rw [xbn_ok]
  obtain ⟨q, h1, h2⟩ := xbn_is h
  rw [h1]
  refine ⟨rfl, rfl, ?_⟩
  show nI 0 = nI (if k = 6 then 3 * 0 else 0)
  split <;> rfl
theorem tw_v {g : Nat → Nat} {len n m b k : Nat} {l : List ST} (hk : k ≠ 6) (p : List ST × Nat) (h : twL l (pTwo g len n m b) = .ok p) : nI k = nI (twC k (pTwo g len n m b)).1 ∧ vI (xbn (.ok b) (pNum g len 0 n)) = nI (twC k (pTwo g len n m b)).2.1 ∧ vI (xbn (xmp (xbn (.ok b) (pNum g len 0 n))) (pNum g len 0 m)) = nI (tN (twC k (pTwo g len n m b))) := by
  obtain ⟨q, h1, h2⟩ := xbn_is h
  obtain ⟨v1, v2, _, _⟩ := two_v h1
  rw [v1, v2, h1]
  refine ⟨rfl, rfl, ?_⟩
  show nI q.2.1 = nI (if k = 6 then 3 * q.2.1 else q.2.1)
  rw [if_neg hk]
set_option maxHeartbeats 8000000 in
set_option maxRecDepth 20000 in
theorem step_end {g : Nat → Nat} {len d o : Nat} {r R : SR} {x0 x : XS} (hd : 4 ≤ d) (hL : WSt x g len o r) (hR : sgS g len 59 r = R) (K : VK x0 x) : PW mX10_readStep (RM (d + 1) 0 0) 0 0 (fun v z => v = none ∧ WSt z g len o R ∧ VK x0 z) NoT 282 [(0, .ref 137)] [] x := by
  have y137 := lay_137
  subst hR
  refine r_aload_n dX10_readStep_282 rfl (by rfl) ?_
  refine r_bipush (v := nI 59) dX10_readStep_283 (by decide) ?_
  refine r_callV (t_signS hL (by decide) (by decide)) mv_X10_sign ml_X10_234 ⟨by omega, by decide⟩ dX10_readStep_285 (by first | assumption | rfl) rfl rfl rfl (Nat.le_of_ble_eq_true rfl) (fun v9 z h9 => ?_)
  obtain ⟨rfl, L1, C1⟩ := h9
  refine r_ret rfl dX10_readStep_288 ?_
  exact ⟨rfl, L1, K.trans C1.vk⟩
set_option maxHeartbeats 8000000 in
set_option maxRecDepth 20000 in
theorem one_step {g : Nat → Nat} {len d o ns w k b : Nat} {l : List ST} {Post : Option Value → XS → Prop} {x : XS} (hd : 4 ≤ d) (hns : ns ≤ 5) (hs : x 137 18 = nI ns) (hL : WSt x g len o (.ok (l, b))) (hb : 4 * (l.length + 1) ≤ smE g len b) (hk : (w = ofW 21 ∧ k = 1) ∨ (w = ofW 22 ∧ k = 2) ∨ (w = ofW 23 ∧ k = 4)) (kk : ∀ z, WSt z g len o (emS (onL l (pNum g len 0 ns (smE g len b))) (onC k (pNum g len 0 ns (smE g len b)))) → VK x z → PW mX10_readStep (RM (d + 1) 0 0) 0 0 Post NoT 282 [(0, .ref 137)] [] z) : PW mX10_readStep (RM (d + 1) 0 0) 0 0 Post NoT 67 [(0, .ref 137), (1, .int (nI w))] [] x := by
  have y137 := lay_137
  have S : PSt x g len (.ok b) := hL.1
  have hbl : b ≤ len := S.2.2.1
  have hse := smE_le (g := g) hbl
  have hsg := smE_ge g len b
  have b21 := of_lt 21 (by decide) (by decide)
  have b22 := of_lt 22 (by decide) (by decide)
  have b23 := of_lt 23 (by decide) (by decide)
  have n12 : ofW 22 ≠ ofW 21 := of_ne 22 (by decide) (by decide) 21 (by decide) (by decide) (by decide)
  have n13 : ofW 23 ≠ ofW 21 := of_ne 23 (by decide) (by decide) 21 (by decide) (by decide) (by decide)
  have n23 : ofW 23 ≠ ofW 22 := of_ne 23 (by decide) (by decide) 22 (by decide) (by decide) (by decide)
  have L1 : WSt (gdX x (smE g len b)) g len o (.ok (l, smE g len b)) := hL.mv CH.gd (S.gd hse) hsg
  rcases hk with ⟨rfl, rfl⟩ | ⟨rfl, rfl⟩ | ⟨rfl, rfl⟩
  · refine r_aload_n dX10_readStep_67 rfl (by rfl) ?_
    refine r_callV (n_pass S.rp) mv_X10_pass ml_X10_225 ⟨by omega, by decide⟩ dX10_readStep_68 (by first | assumption | rfl) rfl rfl rfl (Nat.le_of_ble_eq_true rfl) (fun v9 x9 h9 => ?_)
    obtain ⟨rfl, h9⟩ := h9
    refine PW.xeq h9 ?_
    clear h9 x9
    refine r_aload_n dX10_readStep_71 rfl (by rfl) ?_
    refine r_iload_n dX10_readStep_72 rfl (by rfl) ?_
    refine r_ldcwS (i := 21) rfl dX10_readStep_73 ?_
    refine r_callS (n_of (i := 21) (by decide) (by decide)) ms_X10_of ml_X10_187 ⟨by omega, by decide⟩ dX10_readStep_76 rfl (Nat.le_of_ble_eq_true rfl) (fun v9 x9 h9 => ?_)
    obtain ⟨rfl, h9⟩ := h9
    refine PW.xeq h9 ?_
    clear h9 x9
    refine r_icmp_neN (tgt := 86) dX10_readStep_79 (by decide) (by omega) (by omega) (fun h9 => absurd rfl h9) (fun h9 => ?_)
    refine r_iconst (v := nI 1) dX10_readStep_82 (by decide) ?_
    refine r_goto (tgt := 101) dX10_readStep_83 (by decide) ?_
    refine r_aload_n dX10_readStep_101 rfl (by rfl) ?_
    refine r_callV (t_one (x := gdX x (smE g len b)) L1.1 hs hns) mv_X10_readOne ml_X10_298 ⟨by omega, by decide⟩ dX10_readStep_102 (by first | assumption | rfl) rfl rfl rfl (Nat.le_of_ble_eq_true rfl) (fun v9 y1 h9 => ?_)
    obtain ⟨rfl, P1, C1⟩ := h9
    have L2 := on_st L1 C1 P1
    refine r_iconst (v := nI 0) dX10_readStep_105 (by decide) ?_
    refine r_callV (t_tell L2 (on_len hb) (on_v)) mv_X10_tellsStep ml_X10_301 ⟨by omega, by decide⟩ dX10_readStep_106 (by first | assumption | rfl) rfl rfl rfl (Nat.le_of_ble_eq_true rfl) (fun v9 y2 h9 => ?_)
    obtain ⟨rfl, L3, K3⟩ := h9
    refine r_goto (tgt := 282) dX10_readStep_109 (by decide) ?_
    exact PW.lc (by rfl) rfl (kk y2 L3 ((CH.gd.vk.trans C1.vk).trans K3))
  · refine r_aload_n dX10_readStep_67 rfl (by rfl) ?_
    refine r_callV (n_pass S.rp) mv_X10_pass ml_X10_225 ⟨by omega, by decide⟩ dX10_readStep_68 (by first | assumption | rfl) rfl rfl rfl (Nat.le_of_ble_eq_true rfl) (fun v9 x9 h9 => ?_)
    obtain ⟨rfl, h9⟩ := h9
    refine PW.xeq h9 ?_
    clear h9 x9
    refine r_aload_n dX10_readStep_71 rfl (by rfl) ?_
    refine r_iload_n dX10_readStep_72 rfl (by rfl) ?_
    refine r_ldcwS (i := 21) rfl dX10_readStep_73 ?_
    refine r_callS (n_of (i := 21) (by decide) (by decide)) ms_X10_of ml_X10_187 ⟨by omega, by decide⟩ dX10_readStep_76 rfl (Nat.le_of_ble_eq_true rfl) (fun v9 x9 h9 => ?_)
    obtain ⟨rfl, h9⟩ := h9
    refine PW.xeq h9 ?_
    clear h9 x9
    refine r_icmp_neN (tgt := 86) dX10_readStep_79 (by decide) (by omega) (by omega) (fun h9 => ?_) (fun h9 => absurd h9 n12)
    refine r_iload_n dX10_readStep_86 rfl (by rfl) ?_
    refine r_ldcwS (i := 22) rfl dX10_readStep_87 ?_
    refine r_callS (n_of (i := 22) (by decide) (by decide)) ms_X10_of ml_X10_187 ⟨by omega, by decide⟩ dX10_readStep_90 rfl (Nat.le_of_ble_eq_true rfl) (fun v9 x9 h9 => ?_)
    obtain ⟨rfl, h9⟩ := h9
    refine PW.xeq h9 ?_
    clear h9 x9
    refine r_icmp_neN (tgt := 100) dX10_readStep_93 (by decide) (by omega) (by omega) (fun h9 => absurd rfl h9) (fun h9 => ?_)
    refine r_iconst (v := nI 2) dX10_readStep_96 (by decide) ?_
    refine r_goto (tgt := 101) dX10_readStep_97 (by decide) ?_
    refine r_aload_n dX10_readStep_101 rfl (by rfl) ?_
    refine r_callV (t_one (x := gdX x (smE g len b)) L1.1 hs hns) mv_X10_readOne ml_X10_298 ⟨by omega, by decide⟩ dX10_readStep_102 (by first | assumption | rfl) rfl rfl rfl (Nat.le_of_ble_eq_true rfl) (fun v9 y1 h9 => ?_)
    obtain ⟨rfl, P1, C1⟩ := h9
    have L2 := on_st L1 C1 P1
    refine r_iconst (v := nI 0) dX10_readStep_105 (by decide) ?_
    refine r_callV (t_tell L2 (on_len hb) (on_v)) mv_X10_tellsStep ml_X10_301 ⟨by omega, by decide⟩ dX10_readStep_106 (by first | assumption | rfl) rfl rfl rfl (Nat.le_of_ble_eq_true rfl) (fun v9 y2 h9 => ?_)
    obtain ⟨rfl, L3, K3⟩ := h9
    refine r_goto (tgt := 282) dX10_readStep_109 (by decide) ?_
    exact PW.lc (by rfl) rfl (kk y2 L3 ((CH.gd.vk.trans C1.vk).trans K3))
  · refine r_aload_n dX10_readStep_67 rfl (by rfl) ?_
    refine r_callV (n_pass S.rp) mv_X10_pass ml_X10_225 ⟨by omega, by decide⟩ dX10_readStep_68 (by first | assumption | rfl) rfl rfl rfl (Nat.le_of_ble_eq_true rfl) (fun v9 x9 h9 => ?_)
    obtain ⟨rfl, h9⟩ := h9
    refine PW.xeq h9 ?_
    clear h9 x9
    refine r_aload_n dX10_readStep_71 rfl (by rfl) ?_
    refine r_iload_n dX10_readStep_72 rfl (by rfl) ?_
    refine r_ldcwS (i := 21) rfl dX10_readStep_73 ?_
    refine r_callS (n_of (i := 21) (by decide) (by decide)) ms_X10_of ml_X10_187 ⟨by omega, by decide⟩ dX10_readStep_76 rfl (Nat.le_of_ble_eq_true rfl) (fun v9 x9 h9 => ?_)
    obtain ⟨rfl, h9⟩ := h9
    refine PW.xeq h9 ?_
    clear h9 x9
    refine r_icmp_neN (tgt := 86) dX10_readStep_79 (by decide) (by omega) (by omega) (fun h9 => ?_) (fun h9 => absurd h9 n13)
    refine r_iload_n dX10_readStep_86 rfl (by rfl) ?_
    refine r_ldcwS (i := 22) rfl dX10_readStep_87 ?_
    refine r_callS (n_of (i := 22) (by decide) (by decide)) ms_X10_of ml_X10_187 ⟨by omega, by decide⟩ dX10_readStep_90 rfl (Nat.le_of_ble_eq_true rfl) (fun v9 x9 h9 => ?_)
    obtain ⟨rfl, h9⟩ := h9
    refine PW.xeq h9 ?_
    clear h9 x9
    refine r_icmp_neN (tgt := 100) dX10_readStep_93 (by decide) (by omega) (by omega) (fun h9 => ?_) (fun h9 => absurd h9 n23)
    refine r_iconst (v := nI 4) dX10_readStep_100 (by decide) ?_
    refine r_aload_n dX10_readStep_101 rfl (by rfl) ?_
    refine r_callV (t_one (x := gdX x (smE g len b)) L1.1 hs hns) mv_X10_readOne ml_X10_298 ⟨by omega, by decide⟩ dX10_readStep_102 (by first | assumption | rfl) rfl rfl rfl (Nat.le_of_ble_eq_true rfl) (fun v9 y1 h9 => ?_)
    obtain ⟨rfl, P1, C1⟩ := h9
    have L2 := on_st L1 C1 P1
    refine r_iconst (v := nI 0) dX10_readStep_105 (by decide) ?_
    refine r_callV (t_tell L2 (on_len hb) (on_v)) mv_X10_tellsStep ml_X10_301 ⟨by omega, by decide⟩ dX10_readStep_106 (by first | assumption | rfl) rfl rfl rfl (Nat.le_of_ble_eq_true rfl) (fun v9 y2 h9 => ?_)
    obtain ⟨rfl, L3, K3⟩ := h9
    refine r_goto (tgt := 282) dX10_readStep_109 (by decide) ?_
    exact PW.lc (by rfl) rfl (kk y2 L3 ((CH.gd.vk.trans C1.vk).trans K3))
theorem ap_nil {p : List ST × Nat} {g : Nat → Nat} {len m : Nat} {u : Nat → Nat → SR} (h : nxV g len p.2 = -1 ∨ nxV g len p.2 = nI 93) : apS (.ok p) (pSteps g len u (m + 1)) = .ok (p.1, skip g len p.2) := by
  show xbn (if nxV g len p.2 = -1 ∨ nxV g len p.2 = nI 93 then _ else _) _ = _
  rw [if_pos h, xbn_ok, List.append_nil]
theorem ap_go {p : List ST × Nat} {g : Nat → Nat} {len m : Nat} {u : Nat → Nat → SR} (h : ¬ (nxV g len p.2 = -1 ∨ nxV g len p.2 = nI 93)) (hsk : ∀ n a, u n (skip g len a) = u n a) : apS (.ok p) (pSteps g len u (m + 1)) = apS (sgS g len 59 (apS (.ok (p.1, skip g len p.2)) u)) (pSteps g len u m) := by
  show xbn (if nxV g len p.2 = -1 ∨ nxV g len p.2 = nI 93 then _ else _) _ = xbn (xbn (xbn (u p.1.length (skip g len p.2)) _) _) _
  rw [if_neg h, hsk]
  cases u p.1.length p.2 with
  | error e => rfl
  | ok q =>
    rw [xbn_ok, xbn_ok, xbn_ok]
    cases pTake g len 59 q.2 with
    | error e => rfl
    | ok a2 =>
      rw [xbn_ok, xbn_ok, xbn_ok]
      show _ = xbn (pSteps g len u m (p.1 ++ q.1).length a2) (fun r => .ok ((p.1 ++ q.1) ++ r.1, r.2))
      rw [List.length_append]
      cases pSteps g len u m (p.1.length + q.1.length) a2 with
      | error e => rfl
      | ok r =>
        rw [xbn_ok, xbn_ok, xbn_ok]
        simp [List.append_assoc]
def SRC (g : Nat → Nat) (len ns d o : Nat) (u : Nat → Nat → SR) : Prop := ∀ (l : List ST) (a : Nat) (x : XS), x 137 18 = nI ns → WSt x g len o (.ok (l, a)) → MM mX10_readStep d 0 0 [.ref 137] x (fun v y => v = none ∧ WSt y g len o (sgS g len 59 (apS (.ok (l, a)) u)) ∧ VK x y) NoT
/-- what a step's reading is known to do -/
def USt (g : Nat → Nat) (len : Nat) (u : Nat → Nat → SR) : Prop := LenS u ∧ (∀ n a, u n (skip g len a) = u n a) ∧ (∀ n a, nxV g len a = -1 → u n a = .error (1, skip g len a)) ∧ ∀ n a, nxV g len a = nI 93 → u n a = .error (1, skip g len a)
theorem nx_skip (g : Nat → Nat) (len a : Nat) : nxV g len (skip g len a) = nxV g len a := by unfold nxV; rw [skip_skip]
theorem take_no {g : Nat → Nat} {len c a : Nat} (h : ¬ nxV g len a = nI c) : pTake g len c a = .error (1, skip g len a) := by
  unfold pTake
  rw [if_neg h]
theorem sg_end {g : Nat → Nat} {len m : Nat} {p : List ST × Nat} {u : Nat → Nat → SR} (hu : USt g len u) (h : nxV g len p.2 = -1) : sgS g len 93 (apS (.ok p) (pSteps g len u (m + 1))) = sgS g len 93 (apS (sgS g len 59 (apS (.ok (p.1, skip g len p.2)) u)) (pSteps g len u m)) := by
  rw [ap_nil (Or.inl h)]
  show xbn (pTake g len 93 (skip g len p.2)) _ = xbn (xbn (xbn (xbn (u p.1.length (skip g len p.2)) _) _) _) _
  rw [take_no (by rw [nx_skip, h]; decide +kernel), hu.2.1, hu.2.2.1 _ _ h, skip_skip]
  rfl
theorem st_pos {g : Nat → Nat} {len N a : Nat} {l : List ST} {u : Nat → Nat → SR} {p : List ST × Nat} (hu : LenS u) (h : sgS g len 59 (apS (.ok (l, a)) u) = .ok p) : a + 1 ≤ p.2 := by
  obtain ⟨w, h1, h2⟩ := xbn_is h
  obtain ⟨b, h3, h4⟩ := xbn_is h2
  obtain ⟨q, h5, h6⟩ := xbn_is (show xbn (u l.length a) (fun q => .ok (l ++ q.1, q.2)) = .ok w from h1)
  injection h4 with h4
  subst h4
  injection h6 with h6
  subst h6
  have q1 := (hu _ _ _ h5).2
  have q2 := (pTake_ge h3).1
  have q2 : q.2 + 1 ≤ b := q2
  show a + 1 ≤ b
  omega
set_option maxHeartbeats 8000000 in
set_option maxRecDepth 20000 in
theorem again_loop {g : Nat → Nat} {len d o ns N : Nat} {u : Nat → Nat → SR} {r0 : SR} {tv fv : Int32} {Post : Option Value → XS → Prop} {x : XS} (hd : 4 ≤ d) (hu : SRC g len ns d o u) (hU : USt g len u) (hs : x 137 18 = nI ns) (hL : WSt x g len o r0) (hN : ∀ p, r0 = .ok p → 151 ≤ N + p.2) (kk : ∀ z r, WSt z g len o r → sgS g len 93 r = sgS g len 93 (apS r0 (pSteps g len u N)) → VK x z → PW mX10_readStep (RM (d + 1) 0 0) 0 0 Post NoT 235 [(0, .ref 137), (2, .int tv), (3, .int fv)] [] z) : PW mX10_readStep (RM (d + 1) 0 0) 0 0 Post NoT 212 [(0, .ref 137), (2, .int tv), (3, .int fv)] [] x := by
  have y137 := lay_137
  refine PW.loop (σ := Nat × SR × XS) (fun s => s.1) (fun s => WSt s.2.2 g len o s.2.1 ∧ VK x s.2.2 ∧ sgS g len 93 (apS r0 (pSteps g len u N)) = sgS g len 93 (apS s.2.1 (pSteps g len u s.1)) ∧ ∀ p, s.2.1 = .ok p → 151 ≤ s.1 + p.2) (fun _ => [(0, .ref 137), (2, .int tv), (3, .int fv)]) (fun s => s.2.2) ((N, r0, x)) (⟨hL, VK.rfl, rfl, hN⟩) rfl rfl (fun s hs0 ih => ?_)
  obtain ⟨L2, K2, hq, hb⟩ := hs0
  refine r_aload_n dX10_readStep_212 rfl (by rfl) ?_
  refine r_callV (t_fine L2.1) mv_X10_fine ml_X10_130 ⟨by omega, by decide⟩ dX10_readStep_213 (by first | assumption | rfl) rfl rfl rfl (Nat.le_of_ble_eq_true rfl) (fun v9 x9 h9 => ?_)
  obtain ⟨rfl, h9⟩ := h9
  refine PW.xeq h9 ?_
  clear h9 x9
  refine r_if_eqB (tgt := 235) dX10_readStep_216 (by decide) (fun h216 => ?_) (fun h216 => ?_)
  · first
      | (obtain ⟨e, he⟩ := okS_f h216
         exact PW.lc (by rfl) rfl (kk s.2.2 s.2.1 L2 (by rw [hq, he]; rfl) K2))
      | (exact PW.lc (by rfl) rfl (kk _ (.ok (p.1, (skip g len p.2))) L4 (by rw [hq, hp, hm, ap_nil (Or.inr (N1.mpr h225))]) (K2.trans CH.gd.vk)))
  · obtain ⟨p, hp⟩ := okS h216
    have L3 := L2
    rw [hp] at L3
    have S3 : PSt s.2.2 g len (.ok p.2) := L3.1
    have h15 := L3.2.2.1
    have hp2 : p.2 ≤ len := S3.2.2.1
    have hb9 := hb p hp
    obtain ⟨m, hm⟩ : ∃ m, s.1 = m + 1 := ⟨s.1 - 1, by omega⟩
    have hsk := skip_ge g len p.2
    have hsl := skip_le (g := g) hp2
    have hr9 := hrN_lt (a := p.2) S3.rp
    have N1 := hrN_nx (len := len) (a := p.2) (c := 93) S3.gg (by omega) (by decide) (by decide)
    have L4 : WSt (gdX s.2.2 (skip g len p.2)) g len o (.ok (p.1, (skip g len p.2))) := L3.mv CH.gd (S3.gd hsl) hsk
    have hs3 : gdX s.2.2 (skip g len p.2) 137 18 = nI ns := (xu_k (by decide)).trans ((K2.2 18 (by omega) (by decide)).trans hs)
    refine r_aload_n dX10_readStep_219 rfl (by rfl) ?_
    refine r_callV (n_here S3.rp) mv_X10_here ml_X10_113 ⟨by omega, by decide⟩ dX10_readStep_220 (by first | assumption | rfl) rfl rfl rfl (Nat.le_of_ble_eq_true rfl) (fun v9 x9 h9 => ?_)
    obtain ⟨rfl, h9⟩ := h9
    refine PW.xeq h9 ?_
    clear h9 x9
    refine r_bipush (v := nI 93) dX10_readStep_223 (by decide) ?_
    refine r_icmp_eqN (tgt := 235) dX10_readStep_225 (by decide) (by omega) (by omega) (fun h225 => ?_) (fun h225 => ?_)
    · first
        | (obtain ⟨e, he⟩ := okS_f h216
           exact PW.lc (by rfl) rfl (kk s.2.2 s.2.1 L2 (by rw [hq, he]; rfl) K2))
        | (exact PW.lc (by rfl) rfl (kk _ (.ok (p.1, (skip g len p.2))) L4 (by rw [hq, hp, hm, ap_nil (Or.inr (N1.mpr h225))]) (K2.trans CH.gd.vk)))
    · refine r_aload_n dX10_readStep_228 rfl (by rfl) ?_
      refine r_callV (hu p.1 (skip g len p.2) (gdX s.2.2 (skip g len p.2)) hs3 L4) mv_X10_readStep ml_X10_313 ⟨by omega, by decide⟩ dX10_readStep_229 (by first | assumption | rfl) rfl rfl rfl (Nat.le_of_ble_eq_true rfl) (fun v9 y5 h9 => ?_)
      obtain ⟨rfl, L5, K5⟩ := h9
      refine r_goto (tgt := 212) dX10_readStep_232 (by decide) ?_
      have hqq : sgS g len 93 (apS r0 (pSteps g len u N)) = sgS g len 93 (apS (sgS g len 59 (apS (.ok (p.1, (skip g len p.2))) u)) (pSteps g len u m)) := by
        rw [hq, hp, hm]
        by_cases hx : nxV g len p.2 = -1
        · exact sg_end hU hx
        · rw [ap_go (fun q => q.elim hx (fun q => h225 (N1.mp q))) hU.2.1]
      exact PW.lc (by rfl) rfl (ih (m, sgS g len 59 (apS (.ok (p.1, (skip g len p.2))) u), y5) ⟨L5, (K2.trans CH.gd.vk).trans K5, hqq, (fun p9 e9 => by
        have := st_pos (N := N) hU.1 e9
        show 151 ≤ m + p9.2
        omega)⟩ (show m < s.1 by omega))
