/-! THE REFERENCE reads work: what is read so far -/
def xps : SR → Except PE Nat
  | .ok q => .ok q.2
  | .error e => .error e
def tN (q : ST) : Nat := if q.1 = 6 then 3 * q.2.2 else q.2.2
def WSt (x : XS) (g : Nat → Nat) (len o : Nat) (r : SR) : Prop := PSt x g len (xps r) ∧ x 137 7 = nI o ∧ len ≤ 150 ∧ ∀ p, r = .ok p → x 137 31 = nI (3 * p.1.length) ∧ 4 * p.1.length ≤ p.2 ∧ ∀ i q, p.1[i]? = some q → x 151 (3 * i) = nI q.1 ∧ x 151 (3 * i + 1) = nI q.2.1 ∧ x 151 (3 * i + 2) = nI (tN q)
def VK (x y : XS) : Prop := (∀ c, c ≠ 137 → c ≠ 151 → y c = x c) ∧ ∀ k, ¬ (4 ≤ k ∧ k ≤ 7) → k ≠ 31 → y 137 k = x 137 k
theorem VK.rfl {x : XS} : VK x x := ⟨fun _ _ _ => _root_.rfl, fun _ _ _ => _root_.rfl⟩
theorem VK.trans {x y z : XS} (h : VK x y) (h2 : VK y z) : VK x z := ⟨fun c a b => (h2.1 c a b).trans (h.1 c a b), fun k a b => (h2.2 k a b).trans (h.2 k a b)⟩
theorem CH.vk {x y : XS} (h : CH x y) : VK x y := ⟨fun c a _ => h.1 c a, fun k a _ => h.2 k (by omega) (by omega) (by omega)⟩
theorem VK.op {x : XS} {k : Nat} : VK x (xu x 137 7 (nI k)) := ⟨fun c a _ => xu_n a, fun j a _ => xu_k (by omega)⟩
theorem VK.p1 {x : XS} {k : Nat} {v : Int32} : VK x (xu x 151 k v) := ⟨fun c _ b => xu_n b, fun j _ _ => by rw [xu_n (by decide)]⟩
theorem okS {r : SR} (h : okB (xps r) = true) : ∃ p, r = .ok p := by
  cases r with
  | ok p => exact ⟨p, rfl⟩
  | error e => cases h
theorem okS_f {r : SR} (h : okB (xps r) = false) : ∃ e, r = .error e := by
  cases r with
  | ok p => cases h
  | error e => exact ⟨e, rfl⟩
theorem WSt.mv {x y : XS} {g : Nat → Nat} {len o a b : Nat} {l : List ST} (h : WSt x g len o (.ok (l, a))) (c : CH x y) (hp : PSt y g len (.ok b)) (hb : a ≤ b) : WSt y g len o (.ok (l, b)) := by
  obtain ⟨_, h2, h3, h4⟩ := h
  refine ⟨hp, (c.2 7 (by decide) (by decide) (by decide)).trans h2, h3, fun p e => ?_⟩
  injection e with e
  subst e
  obtain ⟨q1, q2, q3⟩ := h4 _ rfl
  refine ⟨(c.2 31 (by decide) (by decide) (by decide)).trans q1, Nat.le_trans q2 hb, ?_⟩
  rw [c.1 151 (by decide)]
  exact q3
theorem WSt.er {x y : XS} {g : Nat → Nat} {len o : Nat} {r : SR} {e : PE} (h : WSt x g len o r) (c : CH x y) (hp : PSt y g len (.error e)) : WSt y g len o (.error e) := ⟨hp, (c.2 7 (by decide) (by decide) (by decide)).trans h.2.1, h.2.2.1, fun p e => by cases e⟩
theorem WSt.op {x : XS} {g : Nat → Nat} {len o k : Nat} {r : SR} (h : WSt x g len o r) : WSt (xu x 137 7 (nI k)) g len k r := by
  obtain ⟨h1, _, h3, h4⟩ := h
  refine ⟨h1.ch (fun j hj => xu_k (by omega)) (xu_n (by decide)), xu_s, h3, fun p e => ?_⟩
  obtain ⟨q1, q2, q3⟩ := h4 p e
  exact ⟨(xu_k (by decide)).trans q1, q2, q3⟩
def emS (r : SR) (c : ST) : SR := xbn r (fun p => .ok (p.1 ++ [c], p.2))
def sgS (g : Nat → Nat) (len c : Nat) (r : SR) : SR := xbn r (fun p => xbn (pTake g len c p.2) (fun b => .ok (p.1, b)))
def apS (r : SR) (u : Nat → Nat → SR) : SR := xbn r (fun p => xbn (u p.1.length p.2) (fun q => .ok (p.1 ++ q.1, q.2)))
theorem t_signS {x : XS} {g : Nat → Nat} {len c o : Nat} {r : SR} (h : WSt x g len o r) (hc : 1 ≤ c) (hc2 : c < 256) : MM mX10_sign 1 0 0 [.ref 137, .int (nI c)] x (fun v y => v = none ∧ WSt y g len o (sgS g len c r) ∧ CH x y) NoT := by
  refine MM.imp (t_sign h.1 hc hc2) (fun v y q => ?_)
  obtain ⟨rfl, P1, C1⟩ := q
  refine ⟨rfl, ?_, C1⟩
  cases r with
  | error e => exact h.er C1 P1
  | ok p =>
    have P1 : PSt y g len (pTake g len c p.2) := P1
    show WSt y g len o (xbn (pTake g len c p.2) (fun b => .ok (p.1, b)))
    cases ht : pTake g len c p.2 with
    | error e => rw [ht] at P1; exact h.er C1 P1
    | ok b =>
      rw [ht] at P1
      have := (pTake_ge ht).1
      exact WSt.mv (l := p.1) (a := p.2) h C1 P1 (by omega)
set_option maxHeartbeats 8000000 in
set_option maxRecDepth 20000 in
theorem n_tell {m : Nat} {w u v : Int32} {x : XS} (h5 : x 137 5 = -1) (hn : x 137 31 = nI m) (hm : m + 2 < 150) : MM mX10_tellsStep 1 0 0 [.ref 137, .int w, .int u, .int v] x (fun r y => r = none ∧ y = xu (xu (xu (xu x 151 m w) 151 (m + 1) u) 151 (m + 2) v) 137 31 (nI (m + 3))) NoT := by
  refine MM.of (by decide) (Nat.le_of_ble_eq_true rfl) ?_
  have y137 := lay_137
  have y151 := lay_151
  refine r_aload_n dX10_tellsStep_0 rfl (by rfl) ?_
  refine r_callV (n_fine_t h5) mv_X10_fine ml_X10_130 ⟨by decide, by decide⟩ dX10_tellsStep_1 (by first | assumption | rfl) rfl rfl rfl (Nat.le_of_ble_eq_true rfl) (fun v9 x9 h9 => ?_)
  obtain ⟨rfl, h9⟩ := h9
  refine PW.xeq h9 ?_
  clear h9 x9
  refine r_if_neB (tgt := 8) dX10_tellsStep_4 (by decide) (fun h4 => ?_) (fun h4 => ?_)
  · refine r_aload_n dX10_tellsStep_8 rfl (by rfl) ?_
    refine gf_X10_56 rfl dX10_tellsStep_9 (by first | assumption | rfl) (by rfl) ?_
    refine r_aload_n dX10_tellsStep_12 rfl (by rfl) ?_
    refine gf_X10_293 rfl dX10_tellsStep_13 (by first | assumption | rfl) (by rfl) ?_
    refine PW.topi (show _ = nI m from hn) ?_
    refine r_iload_n dX10_tellsStep_16 rfl (by rfl) ?_
    refine r_iastN dX10_tellsStep_17 (by first | assumption | rfl) (by omega) (by decide) ?_
    refine r_aload_n dX10_tellsStep_18 rfl (by rfl) ?_
    refine gf_X10_56 rfl dX10_tellsStep_19 (by first | assumption | rfl) (by rfl) ?_
    refine r_aload_n dX10_tellsStep_22 rfl (by rfl) ?_
    refine gf_X10_293 rfl dX10_tellsStep_23 (by first | assumption | rfl) (by rfl) ?_
    refine PW.topi (show _ = nI m from hn) ?_
    refine r_iconst (v := nI 1) dX10_tellsStep_26 (by decide) ?_
    refine r_iaddN dX10_tellsStep_27 ?_
    refine r_iload_n dX10_tellsStep_28 rfl (by rfl) ?_
    refine r_iastN dX10_tellsStep_29 (by first | assumption | rfl) (by omega) (by decide) ?_
    refine r_aload_n dX10_tellsStep_30 rfl (by rfl) ?_
    refine gf_X10_56 rfl dX10_tellsStep_31 (by first | assumption | rfl) (by rfl) ?_
    refine r_aload_n dX10_tellsStep_34 rfl (by rfl) ?_
    refine gf_X10_293 rfl dX10_tellsStep_35 (by first | assumption | rfl) (by rfl) ?_
    refine PW.topi (show _ = nI m from hn) ?_
    refine r_iconst (v := nI 2) dX10_tellsStep_38 (by decide) ?_
    refine r_iaddN dX10_tellsStep_39 ?_
    refine r_iload_n dX10_tellsStep_40 rfl (by rfl) ?_
    refine r_iastN dX10_tellsStep_41 (by first | assumption | rfl) (by omega) (by decide) ?_
    refine r_aload_n dX10_tellsStep_42 rfl (by rfl) ?_
    refine r_dup dX10_tellsStep_43 rfl ?_
    refine gf_X10_293 rfl dX10_tellsStep_44 (by first | assumption | rfl) (by rfl) ?_
    refine PW.topi (show _ = nI m from hn) ?_
    refine r_iconst (v := nI 3) dX10_tellsStep_47 (by decide) ?_
    refine r_iaddN dX10_tellsStep_48 ?_
    refine pf_X10_293 rfl dX10_tellsStep_49 (by first | assumption | rfl) (by rfl) ?_
    refine r_ret rfl dX10_tellsStep_52 ?_
    exact ⟨rfl, rfl⟩
  · exact absurd h4 (by decide)
set_option maxHeartbeats 8000000 in
set_option maxRecDepth 20000 in
theorem n_tell_b {w u v : Int32} {x : XS} (h5 : ¬ x 137 5 = -1) : MM mX10_tellsStep 1 0 0 [.ref 137, .int w, .int u, .int v] x (fun r y => r = none ∧ y = x) NoT := by
  refine MM.of (by decide) (Nat.le_of_ble_eq_true rfl) ?_
  have y137 := lay_137
  refine r_aload_n dX10_tellsStep_0 rfl (by rfl) ?_
  refine r_callV (n_fine_f h5) mv_X10_fine ml_X10_130 ⟨by decide, by decide⟩ dX10_tellsStep_1 (by first | assumption | rfl) rfl rfl rfl (Nat.le_of_ble_eq_true rfl) (fun v9 x9 h9 => ?_)
  obtain ⟨rfl, h9⟩ := h9
  refine PW.xeq h9 ?_
  clear h9 x9
  refine r_if_neB (tgt := 8) dX10_tellsStep_4 (by decide) (fun h4 => ?_) (fun h4 => ?_)
  · exact absurd h4 (by decide)
  · refine r_ret rfl dX10_tellsStep_7 ?_
    exact ⟨rfl, rfl⟩
theorem t_tell {x : XS} {g : Nat → Nat} {len o : Nat} {c : ST} {r : SR} {w u v : Int32} (h : WSt x g len o r) (hr : ∀ p, r = .ok p → 4 * (p.1.length + 1) ≤ p.2) (hv : ∀ p, r = .ok p → w = nI c.1 ∧ u = nI c.2.1 ∧ v = nI (tN c)) : MM mX10_tellsStep 1 0 0 [.ref 137, .int w, .int u, .int v] x (fun q y => q = none ∧ WSt y g len o (emS r c) ∧ VK x y) NoT := by
  cases r with
  | error e =>
    refine MM.imp (n_tell_b (PSt.bad (e := e) h.1)) (fun q y h9 => ?_)
    obtain ⟨rfl, rfl⟩ := h9
    exact ⟨rfl, h, VK.rfl⟩
  | ok p =>
    obtain ⟨h1, h2, h3, h4⟩ := h
    obtain ⟨q1, q2, q3⟩ := h4 p rfl
    have hp := hr p rfl
    have ha : p.2 ≤ len := h1.2.2.1
    obtain ⟨rfl, rfl, rfl⟩ := hv p rfl
    refine MM.imp (n_tell (m := 3 * p.1.length) h1.2.2.2 q1 (by omega)) (fun q y h9 => ?_)
    obtain ⟨rfl, rfl⟩ := h9
    refine ⟨rfl, ⟨?_, ?_, h3, fun p9 e => ?_⟩, ?_⟩
    · exact PSt.ch (r := .ok p.2) h1 (fun k hk => by rw [xu_k (by omega), xu_n (by decide), xu_n (by decide), xu_n (by decide)]) (by rw [xu_n (by decide), xu_n (by decide), xu_n (by decide), xu_n (by decide)])
    · rw [xu_k (by decide), xu_n (by decide), xu_n (by decide), xu_n (by decide)]; exact h2
    · injection e with e
      subst e
      refine ⟨by rw [xu_s, List.length_append]; rfl, by show 4 * (p.1 ++ [c]).length ≤ p.2; rw [List.length_append]; exact hp, fun i q hq => ?_⟩
      show upd (upd (upd (x 151) _ _) _ _) _ _ (3 * i) = _ ∧ upd (upd (upd (x 151) _ _) _ _) _ _ (3 * i + 1) = _ ∧ upd (upd (upd (x 151) _ _) _ _) _ _ (3 * i + 2) = _
      by_cases hi : i < p.1.length
      · rw [List.getElem?_append_left hi] at hq
        rw [pk_un (by omega), pk_un (by omega), pk_un (by omega), pk_un (by omega), pk_un (by omega), pk_un (by omega), pk_un (by omega), pk_un (by omega), pk_un (by omega)]
        exact q3 i q hq
      · by_cases e : i = p.1.length
        · subst e
          rw [List.getElem?_append_right (Nat.le_refl _), Nat.sub_self] at hq
          injection hq with hq
          subst hq
          exact ⟨by rw [pk_un (by omega), pk_un (by omega), pk_us], by rw [pk_un (by omega), pk_us], pk_us⟩
        · rw [List.getElem?_append_right (by omega), show i - p.1.length = (i - p.1.length - 1) + 1 by omega] at hq
          cases hq
    · exact ⟨fun d a1 a2 => by rw [xu_n a1, xu_n a2, xu_n a2, xu_n a2], fun j a1 a2 => by rw [xu_k a2, xu_n (by decide), xu_n (by decide), xu_n (by decide)]⟩
set_option maxHeartbeats 8000000 in
set_option maxRecDepth 20000 in
theorem t_one {x : XS} {g : Nat → Nat} {len ns : Nat} {r : Except PE Nat} (h : PSt x g len r) (hs : x 137 18 = nI ns) (hns : ns ≤ 5) : MM mX10_readOne 2 0 0 [.ref 137] x (fun v y => v = some (.int (vI (xbn r (pNum g len 0 ns)))) ∧ PSt y g len (xmp (xbn r (pNum g len 0 ns))) ∧ CH x y) NoT := by
  refine MM.of (by decide) (Nat.le_of_ble_eq_true rfl) ?_
  have y137 := lay_137
  refine r_aload_n dX10_readOne_0 rfl (by rfl) ?_
  refine r_iconst (v := nI 0) dX10_readOne_1 (by decide) ?_
  refine r_aload_n dX10_readOne_2 rfl (by rfl) ?_
  refine gf_X10_156 rfl dX10_readOne_3 (by first | assumption | rfl) (by rfl) ?_
  refine PW.topi hs ?_
  refine r_iconst (v := nI 1) dX10_readOne_6 (by decide) ?_
  refine r_isub dX10_readOne_7 ?_
  refine r_callV (t_num (lo := 0) (n := ns) h (by decide) (by omega) (fun v hv => hv_N (by omega) hv)) mv_X10_readNumber ml_X10_181 ⟨by decide, by decide⟩ dX10_readOne_8 (by first | assumption | rfl) rfl rfl rfl (Nat.le_of_ble_eq_true rfl) (fun v9 y1 h9 => ?_)
  obtain ⟨rfl, P1, C1⟩ := h9
  refine r_iret rfl dX10_readOne_11 ?_
  exact ⟨rfl, P1, C1⟩
set_option maxRecDepth 100000 in
theorem w2_nudge (g : Nat → Nat) (len a : Nat) : (wdN g len a = ofW 20) ↔ isW g 2 (skip g len a) (smE g len (skip g len a)) 0 5 = true := wd_is (by decide) (by decide) (by decide +kernel) (by decide +kernel)
set_option maxRecDepth 100000 in
theorem w2_turn (g : Nat → Nat) (len a : Nat) : (wdN g len a = ofW 21) ↔ isW g 2 (skip g len a) (smE g len (skip g len a)) 6 10 = true := wd_is (by decide) (by decide) (by decide +kernel) (by decide +kernel)
set_option maxRecDepth 100000 in
theorem w2_room (g : Nat → Nat) (len a : Nat) : (wdN g len a = ofW 22) ↔ isW g 2 (skip g len a) (smE g len (skip g len a)) 11 15 = true := wd_is (by decide) (by decide) (by decide +kernel) (by decide +kernel)
set_option maxRecDepth 100000 in
theorem w2_plug (g : Nat → Nat) (len a : Nat) : (wdN g len a = ofW 6) ↔ isW g 2 (skip g len a) (smE g len (skip g len a)) 16 20 = true := wd_is (by decide) (by decide) (by decide +kernel) (by decide +kernel)
set_option maxRecDepth 100000 in
theorem w2_call (g : Nat → Nat) (len a : Nat) : (wdN g len a = ofW 23) ↔ isW g 2 (skip g len a) (smE g len (skip g len a)) 21 25 = true := wd_is (by decide) (by decide) (by decide +kernel) (by decide +kernel)
set_option maxRecDepth 100000 in
theorem w2_minute (g : Nat → Nat) (len a : Nat) : (wdN g len a = ofW 18) ↔ isW g 2 (skip g len a) (smE g len (skip g len a)) 26 32 = true := wd_is (by decide) (by decide) (by decide +kernel) (by decide +kernel)
set_option maxRecDepth 100000 in
theorem w2_again (g : Nat → Nat) (len a : Nat) : (wdN g len a = ofW 24) ↔ isW g 2 (skip g len a) (smE g len (skip g len a)) 33 38 = true := wd_is (by decide) (by decide) (by decide +kernel) (by decide +kernel)
theorem p2_nudge {g : Nat → Nat} {len a : Nat} (e : wdN g len a = ofW 20) : pWord g len 2 a = .ok (0, smE g len (skip g len a)) ∧ smE g len (skip g len a) = skip g len a + 5 := by
  have h1 := (w2_nudge g len a).mp e
  refine ⟨?_, ?_⟩
  · unfold pWord wrd
    rw [wkey2, if_pos h1]
  · unfold isW at h1
    rw [Bool.and_eq_true, decide_eq_true_eq] at h1
    have := h1.1
    have := smE_ge g len (skip g len a)
    omega
theorem p2_turn {g : Nat → Nat} {len a : Nat} (e : wdN g len a = ofW 21) : pWord g len 2 a = .ok (1, smE g len (skip g len a)) ∧ smE g len (skip g len a) = skip g len a + 4 := by
  have h1 := (w2_turn g len a).mp e
  refine ⟨?_, ?_⟩
  · unfold pWord wrd
    rw [wkey2, if_neg (fun q => of_ne 21 (by decide) (by decide) 20 (by decide) (by decide) (by decide) (e.symm.trans ((w2_nudge g len a).mpr q))), if_pos h1]
  · unfold isW at h1
    rw [Bool.and_eq_true, decide_eq_true_eq] at h1
    have := h1.1
    have := smE_ge g len (skip g len a)
    omega
theorem p2_room {g : Nat → Nat} {len a : Nat} (e : wdN g len a = ofW 22) : pWord g len 2 a = .ok (2, smE g len (skip g len a)) ∧ smE g len (skip g len a) = skip g len a + 4 := by
  have h1 := (w2_room g len a).mp e
  refine ⟨?_, ?_⟩
  · unfold pWord wrd
    rw [wkey2, if_neg (fun q => of_ne 22 (by decide) (by decide) 20 (by decide) (by decide) (by decide) (e.symm.trans ((w2_nudge g len a).mpr q))), if_neg (fun q => of_ne 22 (by decide) (by decide) 21 (by decide) (by decide) (by decide) (e.symm.trans ((w2_turn g len a).mpr q))), if_pos h1]
  · unfold isW at h1
    rw [Bool.and_eq_true, decide_eq_true_eq] at h1
    have := h1.1
    have := smE_ge g len (skip g len a)
    omega
theorem p2_plug {g : Nat → Nat} {len a : Nat} (e : wdN g len a = ofW 6) : pWord g len 2 a = .ok (3, smE g len (skip g len a)) ∧ smE g len (skip g len a) = skip g len a + 4 := by
  have h1 := (w2_plug g len a).mp e
  refine ⟨?_, ?_⟩
  · unfold pWord wrd
    rw [wkey2, if_neg (fun q => of_ne 6 (by decide) (by decide) 20 (by decide) (by decide) (by decide) (e.symm.trans ((w2_nudge g len a).mpr q))), if_neg (fun q => of_ne 6 (by decide) (by decide) 21 (by decide) (by decide) (by decide) (e.symm.trans ((w2_turn g len a).mpr q))), if_neg (fun q => of_ne 6 (by decide) (by decide) 22 (by decide) (by decide) (by decide) (e.symm.trans ((w2_room g len a).mpr q))), if_pos h1]
  · unfold isW at h1
    rw [Bool.and_eq_true, decide_eq_true_eq] at h1
    have := h1.1
    have := smE_ge g len (skip g len a)
    omega
theorem p2_call {g : Nat → Nat} {len a : Nat} (e : wdN g len a = ofW 23) : pWord g len 2 a = .ok (4, smE g len (skip g len a)) ∧ smE g len (skip g len a) = skip g len a + 4 := by
  have h1 := (w2_call g len a).mp e
  refine ⟨?_, ?_⟩
  · unfold pWord wrd
    rw [wkey2, if_neg (fun q => of_ne 23 (by decide) (by decide) 20 (by decide) (by decide) (by decide) (e.symm.trans ((w2_nudge g len a).mpr q))), if_neg (fun q => of_ne 23 (by decide) (by decide) 21 (by decide) (by decide) (by decide) (e.symm.trans ((w2_turn g len a).mpr q))), if_neg (fun q => of_ne 23 (by decide) (by decide) 22 (by decide) (by decide) (by decide) (e.symm.trans ((w2_room g len a).mpr q))), if_neg (fun q => of_ne 23 (by decide) (by decide) 6 (by decide) (by decide) (by decide) (e.symm.trans ((w2_plug g len a).mpr q))), if_pos h1]
  · unfold isW at h1
    rw [Bool.and_eq_true, decide_eq_true_eq] at h1
    have := h1.1
    have := smE_ge g len (skip g len a)
    omega
theorem p2_minute {g : Nat → Nat} {len a : Nat} (e : wdN g len a = ofW 18) : pWord g len 2 a = .ok (5, smE g len (skip g len a)) ∧ smE g len (skip g len a) = skip g len a + 6 := by
  have h1 := (w2_minute g len a).mp e
  refine ⟨?_, ?_⟩
  · unfold pWord wrd
    rw [wkey2, if_neg (fun q => of_ne 18 (by decide) (by decide) 20 (by decide) (by decide) (by decide) (e.symm.trans ((w2_nudge g len a).mpr q))), if_neg (fun q => of_ne 18 (by decide) (by decide) 21 (by decide) (by decide) (by decide) (e.symm.trans ((w2_turn g len a).mpr q))), if_neg (fun q => of_ne 18 (by decide) (by decide) 22 (by decide) (by decide) (by decide) (e.symm.trans ((w2_room g len a).mpr q))), if_neg (fun q => of_ne 18 (by decide) (by decide) 6 (by decide) (by decide) (by decide) (e.symm.trans ((w2_plug g len a).mpr q))), if_neg (fun q => of_ne 18 (by decide) (by decide) 23 (by decide) (by decide) (by decide) (e.symm.trans ((w2_call g len a).mpr q))), if_pos h1]
  · unfold isW at h1
    rw [Bool.and_eq_true, decide_eq_true_eq] at h1
    have := h1.1
    have := smE_ge g len (skip g len a)
    omega
theorem p2_again {g : Nat → Nat} {len a : Nat} (e : wdN g len a = ofW 24) : pWord g len 2 a = .ok (6, smE g len (skip g len a)) ∧ smE g len (skip g len a) = skip g len a + 5 := by
  have h1 := (w2_again g len a).mp e
  refine ⟨?_, ?_⟩
  · unfold pWord wrd
    rw [wkey2, if_neg (fun q => of_ne 24 (by decide) (by decide) 20 (by decide) (by decide) (by decide) (e.symm.trans ((w2_nudge g len a).mpr q))), if_neg (fun q => of_ne 24 (by decide) (by decide) 21 (by decide) (by decide) (by decide) (e.symm.trans ((w2_turn g len a).mpr q))), if_neg (fun q => of_ne 24 (by decide) (by decide) 22 (by decide) (by decide) (by decide) (e.symm.trans ((w2_room g len a).mpr q))), if_neg (fun q => of_ne 24 (by decide) (by decide) 6 (by decide) (by decide) (by decide) (e.symm.trans ((w2_plug g len a).mpr q))), if_neg (fun q => of_ne 24 (by decide) (by decide) 23 (by decide) (by decide) (by decide) (e.symm.trans ((w2_call g len a).mpr q))), if_neg (fun q => of_ne 24 (by decide) (by decide) 18 (by decide) (by decide) (by decide) (e.symm.trans ((w2_minute g len a).mpr q))), if_pos h1]
  · unfold isW at h1
    rw [Bool.and_eq_true, decide_eq_true_eq] at h1
    have := h1.1
    have := smE_ge g len (skip g len a)
    omega
theorem p2_none {g : Nat → Nat} {len a : Nat} (h0 : wdN g len a ≠ ofW 20) (h1 : wdN g len a ≠ ofW 21) (h2 : wdN g len a ≠ ofW 22) (h3 : wdN g len a ≠ ofW 6) (h4 : wdN g len a ≠ ofW 23) (h5 : wdN g len a ≠ ofW 18) (h6 : wdN g len a ≠ ofW 24) : pWord g len 2 a = .error (1, skip g len a) := by
  unfold pWord wrd
  rw [wkey2, if_neg (fun q => h0 ((w2_nudge g len a).mpr q)), if_neg (fun q => h1 ((w2_turn g len a).mpr q)), if_neg (fun q => h2 ((w2_room g len a).mpr q)), if_neg (fun q => h3 ((w2_plug g len a).mpr q)), if_neg (fun q => h4 ((w2_call g len a).mpr q)), if_neg (fun q => h5 ((w2_minute g len a).mpr q)), if_neg (fun q => h6 ((w2_again g len a).mpr q))]
