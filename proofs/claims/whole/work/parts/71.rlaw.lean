/-! THE REFERENCE reads a law: what is read so far -/
def xpo : LR → Except PE Nat
  | .ok q => .ok q.2
  | .error e => .error e
def LSt (x : XS) (g : Nat → Nat) (len o : Nat) (r : LR) : Prop := PSt x g len (xpo r) ∧ x 137 7 = nI o ∧ len ≤ 150 ∧ ∀ p, r = .ok p → x 137 27 = nI p.1.length ∧ p.1.length ≤ p.2 ∧ ∀ i q, p.1[i]? = some q → x 144 i = nI (kdN q) ∧ x 145 i = nI (ofN q)
def LK (x y : XS) : Prop := (∀ c, c ≠ 137 → c ≠ 144 → c ≠ 145 → y c = x c) ∧ ∀ k, ¬ (4 ≤ k ∧ k ≤ 7) → k ≠ 27 → y 137 k = x 137 k
theorem LK.rfl {x : XS} : LK x x := ⟨fun _ _ _ _ => _root_.rfl, fun _ _ _ => _root_.rfl⟩
theorem LK.trans {x y z : XS} (h : LK x y) (h2 : LK y z) : LK x z := ⟨fun c a b d => (h2.1 c a b d).trans (h.1 c a b d), fun k a b => (h2.2 k a b).trans (h.2 k a b)⟩
theorem CH.lk {x y : XS} (h : CH x y) : LK x y := ⟨fun c a _ _ => h.1 c a, fun k a _ => h.2 k (by omega) (by omega) (by omega)⟩
theorem okB_po (r : LR) : okB (xpo r) = okB r := by cases r <;> rfl
def app (r : LR) (u : Nat → LR) : LR := xbn r (fun p => xbn (u p.2) (fun q => .ok (p.1 ++ q.1, q.2)))
def emi (r : LR) (c : Nat) : LR := xbn r (fun p => .ok (p.1 ++ [c], p.2))
/-- the state behind a reading that tells no code -/
theorem LSt.mv {x y : XS} {g : Nat → Nat} {len o a b : Nat} {l : List Nat} (h : LSt x g len o (.ok (l, a))) (c : CH x y) (hp : PSt y g len (.ok b)) (hb : a ≤ b) : LSt y g len o (.ok (l, b)) := by
  obtain ⟨_, h2, h3, h4⟩ := h
  refine ⟨hp, (c.2 7 (by decide) (by decide) (by decide)).trans h2, h3, fun p e => ?_⟩
  injection e with e
  subst e
  obtain ⟨q1, q2, q3⟩ := h4 _ rfl
  refine ⟨(c.2 27 (by decide) (by decide) (by decide)).trans q1, Nat.le_trans q2 hb, ?_⟩
  rw [c.1 144 (by decide), c.1 145 (by decide)]
  exact q3
theorem LSt.er {x y : XS} {g : Nat → Nat} {len o : Nat} {r : LR} {e : PE} (h : LSt x g len o r) (c : CH x y) (hp : PSt y g len (.error e)) : LSt y g len o (.error e) := ⟨hp, (c.2 7 (by decide) (by decide) (by decide)).trans h.2.1, h.2.2.1, fun p e => by cases e⟩
set_option maxHeartbeats 8000000 in
set_option maxRecDepth 20000 in
theorem n_emit {k : Nat} {w v : Int32} {x : XS} (h5 : x 137 5 = -1) (hn : x 137 27 = nI k) (hk : k < 150) : MM mX10_emit 1 0 0 [.ref 137, .int w, .int v] x (fun r y => r = none ∧ y = xu (xu (xu x 144 k w) 145 k v) 137 27 (nI (k + 1))) NoT := by
  refine MM.of (by decide) (Nat.le_of_ble_eq_true rfl) ?_
  have y137 := lay_137
  have y144 := lay_144
  have y145 := lay_145
  refine r_aload_n dX10_emit_0 rfl (by rfl) ?_
  refine r_callV (n_fine_t h5) mv_X10_fine ml_X10_130 ⟨by decide, by decide⟩ dX10_emit_1 (by first | assumption | rfl) rfl rfl rfl (Nat.le_of_ble_eq_true rfl) (fun v9 x9 h9 => ?_)
  obtain ⟨rfl, h9⟩ := h9
  refine PW.xeq h9 ?_
  clear h9 x9
  refine r_if_neB (tgt := 8) dX10_emit_4 (by decide) (fun h4 => ?_) (fun h4 => ?_)
  · refine r_aload_n dX10_emit_8 rfl (by rfl) ?_
    refine gf_X10_35 rfl dX10_emit_9 (by first | assumption | rfl) (by rfl) ?_
    refine r_aload_n dX10_emit_12 rfl (by rfl) ?_
    refine gf_X10_241 rfl dX10_emit_13 (by first | assumption | rfl) (by rfl) ?_
    refine PW.topi hn ?_
    refine r_iload_n dX10_emit_16 rfl (by rfl) ?_
    refine r_iastN dX10_emit_17 (by first | assumption | rfl) (by omega) (by decide) ?_
    refine r_aload_n dX10_emit_18 rfl (by rfl) ?_
    refine gf_X10_38 rfl dX10_emit_19 (by first | assumption | rfl) (by rfl) ?_
    refine r_aload_n dX10_emit_22 rfl (by rfl) ?_
    refine gf_X10_241 rfl dX10_emit_23 (by first | assumption | rfl) (by rfl) ?_
    refine PW.topi (show _ = nI k from hn) ?_
    refine r_iload_n dX10_emit_26 rfl (by rfl) ?_
    refine r_iastN dX10_emit_27 (by first | assumption | rfl) (by omega) (by decide) ?_
    refine r_aload_n dX10_emit_28 rfl (by rfl) ?_
    refine r_dup dX10_emit_29 rfl ?_
    refine gf_X10_241 rfl dX10_emit_30 (by first | assumption | rfl) (by rfl) ?_
    refine PW.topi (show _ = nI k from hn) ?_
    refine r_iconst (v := nI 1) dX10_emit_33 (by decide) ?_
    refine r_iaddN dX10_emit_34 ?_
    refine pf_X10_241 rfl dX10_emit_35 (by first | assumption | rfl) (by rfl) ?_
    refine r_ret rfl dX10_emit_38 ?_
    exact ⟨rfl, rfl⟩
  · exact absurd h4 (by decide)
set_option maxHeartbeats 8000000 in
set_option maxRecDepth 20000 in
theorem n_emit_b {w v : Int32} {x : XS} (h5 : ¬ x 137 5 = -1) : MM mX10_emit 1 0 0 [.ref 137, .int w, .int v] x (fun r y => r = none ∧ y = x) NoT := by
  refine MM.of (by decide) (Nat.le_of_ble_eq_true rfl) ?_
  have y137 := lay_137
  refine r_aload_n dX10_emit_0 rfl (by rfl) ?_
  refine r_callV (n_fine_f h5) mv_X10_fine ml_X10_130 ⟨by decide, by decide⟩ dX10_emit_1 (by first | assumption | rfl) rfl rfl rfl (Nat.le_of_ble_eq_true rfl) (fun v9 x9 h9 => ?_)
  obtain ⟨rfl, h9⟩ := h9
  refine PW.xeq h9 ?_
  clear h9 x9
  refine r_if_neB (tgt := 8) dX10_emit_4 (by decide) (fun h4 => ?_) (fun h4 => ?_)
  · exact absurd h4 (by decide)
  · refine r_ret rfl dX10_emit_7 ?_
    exact ⟨rfl, rfl⟩
theorem t_emit {x : XS} {g : Nat → Nat} {len o c : Nat} {r : LR} {w v : Int32} (h : LSt x g len o r) (hr : ∀ p, r = .ok p → p.1.length + 1 ≤ p.2) (hw : w = nI (kdN c)) (hv : ∀ p, r = .ok p → v = nI (ofN c)) : MM mX10_emit 1 0 0 [.ref 137, .int w, .int v] x (fun q y => q = none ∧ LSt y g len o (emi r c) ∧ LK x y) NoT := by
  cases r with
  | error e =>
    refine MM.imp (n_emit_b (PSt.bad (e := e) h.1)) (fun q y h9 => ?_)
    obtain ⟨rfl, rfl⟩ := h9
    exact ⟨rfl, h, LK.rfl⟩
  | ok p =>
    obtain ⟨h1, h2, h3, h4⟩ := h
    obtain ⟨q1, q2, q3⟩ := h4 p rfl
    have hp := hr p rfl
    have ha : p.2 ≤ len := h1.2.2.1
    refine MM.imp (n_emit (k := p.1.length) h1.2.2.2 q1 (by omega)) (fun q y h9 => ?_)
    obtain ⟨rfl, rfl⟩ := h9
    rw [hw, hv p rfl]
    refine ⟨rfl, ⟨?_, ?_, h3, fun p9 e => ?_⟩, ?_⟩
    · exact PSt.ch (r := .ok p.2) h1 (fun k hk => by rw [xu_k (by omega), xu_n (by decide), xu_n (by decide)]) (by rw [xu_n (by decide), xu_n (by decide), xu_n (by decide)])
    · rw [xu_k (by decide), xu_n (by decide), xu_n (by decide)]; exact h2
    · injection e with e
      subst e
      refine ⟨by rw [xu_s, List.length_append]; rfl, by show (p.1 ++ [c]).length ≤ p.2; rw [List.length_append]; exact hp, fun i q hq => ?_⟩
      show upd (x 144) _ _ i = _ ∧ upd (x 145) _ _ i = _
      by_cases hi : i < p.1.length
      · rw [List.getElem?_append_left hi] at hq
        rw [pk_un (by omega), pk_un (by omega)]
        exact q3 i q hq
      · by_cases e : i = p.1.length
        · subst e
          rw [List.getElem?_append_right (Nat.le_refl _), Nat.sub_self] at hq
          injection hq with hq
          subst hq
          exact ⟨pk_us, pk_us⟩
        · rw [List.getElem?_append_right (by omega), show i - p.1.length = (i - p.1.length - 1) + 1 by omega] at hq
          cases hq
    · exact ⟨fun d a1 a2 a3 => by rw [xu_n a1, xu_n a3, xu_n a2], fun j a1 a2 => by rw [xu_k a2, xu_n (by decide), xu_n (by decide)]⟩
def LPR (g : Nat → Nat) (len : Nat) (M : MD) (d o : Nat) (u : Nat → LR) : Prop := ∀ (r : LR) (x : XS), LSt x g len o r → MM M d 0 0 [.ref 137] x (fun v y => v = none ∧ LSt y g len o (app r u) ∧ LK x y) NoT
theorem app_step {g : Nat → Nat} {len s1 s2 c1 c2 m c : Nat} {u : Nat → LR} {p : List Nat × Nat} (h : nxV g len p.2 = nI s1 ∨ nxV g len p.2 = nI s2) (hc : c = if nxV g len p.2 = nI s1 then c1 else c2) : app (.ok p) (pLoop g len u s1 s2 c1 c2 (m + 1)) = app (emi (app (.ok (p.1, skip g len p.2 + 1)) u) c) (pLoop g len u s1 s2 c1 c2 m) := by
  show xbn (pLoop g len u s1 s2 c1 c2 (m + 1) p.2) _ = xbn (xbn (xbn (u (skip g len p.2 + 1)) _) _) _
  rw [pLoop, if_pos h, ← hc]
  cases u (skip g len p.2 + 1) with
  | error e => rfl
  | ok q =>
    rw [xbn_ok, xbn_ok, xbn_ok, xbn_ok]
    cases pLoop g len u s1 s2 c1 c2 m q.2 with
    | error e => rfl
    | ok r =>
      rw [xbn_ok, xbn_ok, xbn_ok]
      simp [List.append_assoc]
theorem app_end {g : Nat → Nat} {len s1 s2 c1 c2 m : Nat} {u : Nat → LR} {p : List Nat × Nat} (h : ¬ (nxV g len p.2 = nI s1 ∨ nxV g len p.2 = nI s2)) : app (.ok p) (pLoop g len u s1 s2 c1 c2 (m + 1)) = .ok (p.1, skip g len p.2) := by
  show xbn (pLoop g len u s1 s2 c1 c2 (m + 1) p.2) _ = _
  rw [pLoop, if_neg h, xbn_ok, List.append_nil]
theorem app_chain {g : Nat → Nat} {len s1 s2 c1 c2 : Nat} {u : Nat → LR} (r : LR) : app r (pChain g len u s1 s2 c1 c2) = app (app r u) (pLoop g len u s1 s2 c1 c2 150) := by
  cases r with
  | error e => rfl
  | ok p =>
    show xbn (xbn (u p.2) _) _ = xbn (xbn (u p.2) _) _
    cases u p.2 with
    | error e => rfl
    | ok q =>
      rw [xbn_ok, xbn_ok, xbn_ok]
      cases pLoop g len u s1 s2 c1 c2 150 q.2 with
      | error e => rfl
      | ok r =>
        rw [xbn_ok, xbn_ok, xbn_ok]
        simp [List.append_assoc]
theorem n_here2 {x : XS} {g : Nat → Nat} {len a : Nat} (hS : RPs x g len a) : MM mX10_here 0 0 0 [.ref 137] (gdX x (skip g len a)) (fun v y => v = some (.int (nI (hrN g len a))) ∧ y = gdX x (skip g len a)) NoT := by
  refine MM.imp (n_here (hS.gd (skip_le hS.2.2.2.1))) (fun v y h => ?_)
  obtain ⟨rfl, rfl⟩ := h
  refine ⟨?_, ?_⟩
  · unfold hrN
    rw [skip_skip]
  · rw [skip_skip]
    exact xu_xu _ _ _ _ _
theorem okL {r : LR} (h : okB (xpo r) = true) : ∃ p, r = .ok p := by
  cases r with
  | ok p => exact ⟨p, rfl⟩
  | error e => cases h
theorem app_len {len a : Nat} {l : List Nat} {u : Nat → LR} {p : List Nat × Nat} (hL : LenOK len u) (h : app (.ok (l, a)) u = .ok p) (hl : l.length + 1 ≤ a) : p.1.length + 1 ≤ p.2 ∧ a ≤ p.2 := by
  obtain ⟨q, h1, h2⟩ := xbn_is (show xbn (u a) (fun q => .ok (l ++ q.1, q.2)) = .ok p from h)
  injection h2 with h2
  subst h2
  have := hL a q h1
  show (l ++ q.1).length + 1 ≤ q.2 ∧ a ≤ q.2
  rw [List.length_append]
  omega
theorem app_pos {len : Nat} {r : LR} {u : Nat → LR} {p : List Nat × Nat} (hL : LenOK len u) (h : app r u = .ok p) : 151 ≤ 150 + p.2 := by
  obtain ⟨w, h0, h⟩ := xbn_is h
  obtain ⟨q, h1, h2⟩ := xbn_is h
  injection h2 with h2
  subst h2
  have := hL w.2 q h1
  show 151 ≤ 150 + q.2
  omega
set_option maxHeartbeats 8000000 in
set_option maxRecDepth 20000 in
theorem n_readSum {g : Nat → Nat} {len d o : Nat} {u : Nat → LR} {r : LR} {x : XS} (hd : 1 ≤ d) (hu : LPR g len mX10_readProduct d o u) (hLen : LenOK len u) (hL : LSt x g len o r) : MM mX10_readSum (d + 1) 0 0 [.ref 137] x (fun v y => v = none ∧ LSt y g len o (app r (pChain g len u 43 45 2000 2001)) ∧ LK x y) NoT := by
  refine MM.of (by decide) (Nat.le_of_ble_eq_true rfl) ?_
  have y137 := lay_137
  refine r_aload_n dX10_readSum_0 rfl (by rfl) ?_
  refine r_callV (hu r x hL) mv_X10_readProduct ml_X10_244 ⟨by omega, by decide⟩ dX10_readSum_1 (by first | assumption | rfl) rfl rfl rfl (Nat.le_of_ble_eq_true rfl) (fun v9 y1 h9 => ?_)
  obtain ⟨rfl, L1, K1⟩ := h9
  refine PW.loop (σ := Nat × LR × XS) (fun s => s.1) (fun s => LSt s.2.2 g len o s.2.1 ∧ LK x s.2.2 ∧ app r (pChain g len u 43 45 2000 2001) = app s.2.1 (pLoop g len u 43 45 2000 2001 s.1) ∧ ∀ p, s.2.1 = .ok p → 151 ≤ s.1 + p.2) (fun _ => [(0, .ref 137)]) (fun s => s.2.2) ((150, app r u, y1)) (⟨L1, K1, app_chain r, fun p9 e9 => app_pos hLen e9⟩) rfl rfl (fun s hs ih => ?_)
  obtain ⟨L2, K2, hq, hb⟩ := hs
  refine r_aload_n dX10_readSum_4 rfl (by rfl) ?_
  refine r_callV (t_fine L2.1) mv_X10_fine ml_X10_130 ⟨by omega, by decide⟩ dX10_readSum_5 (by first | assumption | rfl) rfl rfl rfl (Nat.le_of_ble_eq_true rfl) (fun v9 x9 h9 => ?_)
  obtain ⟨rfl, h9⟩ := h9
  refine PW.xeq h9 ?_
  clear h9 x9
  refine r_if_eqB (tgt := 67) dX10_readSum_8 (by decide) (fun h8 => ?_) (fun h8 => ?_)
  · refine r_ret rfl dX10_readSum_67 ?_
    first
      | (have hs9 : ∃ e, s.2.1 = .error e := okB_f (by rw [← okB_po]; exact h8)
         obtain ⟨e, he⟩ := hs9
         refine ⟨rfl, ?_, K2⟩
         rw [hq, he]
         rw [he] at L2
         exact L2)
      | (refine ⟨rfl, ?_, K2.trans CH.gd.lk⟩
         rw [hq, hp, hm, app_end (fun q => q.elim (fun q => h17 (N1.mp q)) (fun q => h26 (N2.mp q)))]
         exact L3.mv CH.gd (S3.gd hsl) hsk)
  · obtain ⟨p, hp⟩ := okL h8
    have L3 := L2
    rw [hp] at L3
    have S3 : PSt s.2.2 g len (.ok p.2) := L3.1
    have l3 := (L3.2.2.2 p rfl).2.1
    have h15 := L3.2.2.1
    have hp2 : p.2 ≤ len := S3.2.2.1
    have hb9 := hb p hp
    obtain ⟨m, hm⟩ : ∃ m, s.1 = m + 1 := ⟨s.1 - 1, by omega⟩
    have hsk := skip_ge g len p.2
    have hsl := skip_le (g := g) hp2
    have hr9 := hrN_lt (a := p.2) S3.rp
    have N1 := hrN_nx (len := len) (a := p.2) (c := 43) S3.gg (by omega) (by decide) (by decide)
    have N2 := hrN_nx (len := len) (a := p.2) (c := 45) S3.gg (by omega) (by decide) (by decide)
    refine r_aload_n dX10_readSum_11 rfl (by rfl) ?_
    refine r_callV (n_here S3.rp) mv_X10_here ml_X10_113 ⟨by omega, by decide⟩ dX10_readSum_12 (by first | assumption | rfl) rfl rfl rfl (Nat.le_of_ble_eq_true rfl) (fun v9 x9 h9 => ?_)
    obtain ⟨rfl, h9⟩ := h9
    refine PW.xeq h9 ?_
    clear h9 x9
    refine r_bipush (v := nI 43) dX10_readSum_15 (by decide) ?_
    refine r_icmp_eqN (tgt := 29) dX10_readSum_17 (by decide) (by omega) (by omega) (fun h17 => ?_) (fun h17 => ?_)
    · have hlt : skip g len p.2 < len := by
        by_cases q : skip g len p.2 < len
        · exact q
        · have e0 : hrN g len p.2 = 0 := by unfold hrN; rw [if_neg q]
          exfalso
          first
            | omega
      have L4 : LSt (gdX s.2.2 (skip g len p.2 + 1)) g len o (.ok (p.1, skip g len p.2 + 1)) := L3.mv CH.gd (S3.gd (by omega)) (by omega)
      refine r_aload_n dX10_readSum_29 rfl (by rfl) ?_
      refine r_callV (n_here2 S3.rp) mv_X10_here ml_X10_113 ⟨by omega, by decide⟩ dX10_readSum_30 (by first | assumption | rfl) rfl rfl rfl (Nat.le_of_ble_eq_true rfl) (fun v9 x9 h9 => ?_)
      obtain ⟨rfl, h9⟩ := h9
      refine PW.xeq h9 ?_
      clear h9 x9
      refine r_bipush (v := nI 43) dX10_readSum_33 (by decide) ?_
      refine r_icmp_neN (tgt := 42) dX10_readSum_35 (by decide) (by omega) (by omega) (fun h35 => ?_) (fun h35 => ?_)
      · refine r_iconst (v := nI 3) dX10_readSum_42 (by decide) ?_
        refine r_istore_n dX10_readSum_43 rfl (by decide) ?_
        refine r_aload_n dX10_readSum_44 rfl (by rfl) ?_
        refine r_dup dX10_readSum_45 rfl ?_
        refine gf_X10_107 rfl dX10_readSum_46 (by first | assumption | rfl) (by rfl) ?_
        refine PW.topi (show _ = nI (skip g len p.2) from xu_s) ?_
        refine r_iconst (v := nI 1) dX10_readSum_49 (by decide) ?_
        refine r_iaddN dX10_readSum_50 ?_
        refine pf_X10_107 rfl dX10_readSum_51 (by first | assumption | rfl) (by rfl) ?_
        refine PW.xeq (xu_xu _ _ _ _ _) ?_
        refine r_aload_n dX10_readSum_54 rfl (by rfl) ?_
        refine r_callV (hu (.ok (p.1, skip g len p.2 + 1)) (gdX s.2.2 (skip g len p.2 + 1)) L4) mv_X10_readProduct ml_X10_244 ⟨by omega, by decide⟩ dX10_readSum_55 (by first | assumption | rfl) rfl rfl rfl (Nat.le_of_ble_eq_true rfl) (fun v9 y5 h9 => ?_)
        obtain ⟨rfl, L5, K5⟩ := h9
        refine r_aload_n dX10_readSum_58 rfl (by rfl) ?_
        refine r_iload_n dX10_readSum_59 rfl (by rfl) ?_
        refine r_iconst (v := nI 0) dX10_readSum_60 (by decide) ?_
        refine r_callV (t_emit (c := (if nxV g len p.2 = nI 43 then 2000 else 2001)) L5 (fun p9 e9 => (app_len hLen e9 (show p.1.length + 1 ≤ skip g len p.2 + 1 by omega)).1) (by first | (rw [if_pos (N1.mpr h35)]; rfl) | (rw [if_neg (fun q => h35 (N1.mp q))]; rfl)) (fun _ _ => by split <;> rfl)) mv_X10_emit ml_X10_247 ⟨by omega, by decide⟩ dX10_readSum_61 (by first | assumption | rfl) rfl rfl rfl (Nat.le_of_ble_eq_true rfl) (fun v9 y6 h9 => ?_)
        obtain ⟨rfl, L6, K6⟩ := h9
        refine r_goto (tgt := 4) dX10_readSum_64 (by decide) ?_
        exact PW.lc (by rfl) rfl (ih (m, emi (app (.ok (p.1, skip g len p.2 + 1)) u) (if nxV g len p.2 = nI 43 then 2000 else 2001), y6) ⟨L6, ((K2.trans CH.gd.lk).trans K5).trans K6, (by rw [hq, hp, hm]; exact app_step (by first | exact Or.inl (N1.mpr h17) | exact Or.inr (N2.mpr h26)) rfl), (fun p9 e9 => by
          obtain ⟨w9, e1, e2⟩ := xbn_is (show xbn (app (.ok (p.1, skip g len p.2 + 1)) u) _ = .ok p9 from e9)
          injection e2 with e2
          subst e2
          have := (app_len hLen e1 (show p.1.length + 1 ≤ skip g len p.2 + 1 by omega)).2
          show 151 ≤ m + w9.2
          omega)⟩ (show m < s.1 by omega))
      · refine r_iconst (v := nI 2) dX10_readSum_38 (by decide) ?_
        refine r_goto (tgt := 43) dX10_readSum_39 (by decide) ?_
        refine r_istore_n dX10_readSum_43 rfl (by decide) ?_
        refine r_aload_n dX10_readSum_44 rfl (by rfl) ?_
        refine r_dup dX10_readSum_45 rfl ?_
        refine gf_X10_107 rfl dX10_readSum_46 (by first | assumption | rfl) (by rfl) ?_
        refine PW.topi (show _ = nI (skip g len p.2) from xu_s) ?_
        refine r_iconst (v := nI 1) dX10_readSum_49 (by decide) ?_
        refine r_iaddN dX10_readSum_50 ?_
        refine pf_X10_107 rfl dX10_readSum_51 (by first | assumption | rfl) (by rfl) ?_
        refine PW.xeq (xu_xu _ _ _ _ _) ?_
        refine r_aload_n dX10_readSum_54 rfl (by rfl) ?_
        refine r_callV (hu (.ok (p.1, skip g len p.2 + 1)) (gdX s.2.2 (skip g len p.2 + 1)) L4) mv_X10_readProduct ml_X10_244 ⟨by omega, by decide⟩ dX10_readSum_55 (by first | assumption | rfl) rfl rfl rfl (Nat.le_of_ble_eq_true rfl) (fun v9 y5 h9 => ?_)
        obtain ⟨rfl, L5, K5⟩ := h9
        refine r_aload_n dX10_readSum_58 rfl (by rfl) ?_
        refine r_iload_n dX10_readSum_59 rfl (by rfl) ?_
        refine r_iconst (v := nI 0) dX10_readSum_60 (by decide) ?_
        refine r_callV (t_emit (c := (if nxV g len p.2 = nI 43 then 2000 else 2001)) L5 (fun p9 e9 => (app_len hLen e9 (show p.1.length + 1 ≤ skip g len p.2 + 1 by omega)).1) (by first | (rw [if_pos (N1.mpr h35)]; rfl) | (rw [if_neg (fun q => h35 (N1.mp q))]; rfl)) (fun _ _ => by split <;> rfl)) mv_X10_emit ml_X10_247 ⟨by omega, by decide⟩ dX10_readSum_61 (by first | assumption | rfl) rfl rfl rfl (Nat.le_of_ble_eq_true rfl) (fun v9 y6 h9 => ?_)
        obtain ⟨rfl, L6, K6⟩ := h9
        refine r_goto (tgt := 4) dX10_readSum_64 (by decide) ?_
        exact PW.lc (by rfl) rfl (ih (m, emi (app (.ok (p.1, skip g len p.2 + 1)) u) (if nxV g len p.2 = nI 43 then 2000 else 2001), y6) ⟨L6, ((K2.trans CH.gd.lk).trans K5).trans K6, (by rw [hq, hp, hm]; exact app_step (by first | exact Or.inl (N1.mpr h17) | exact Or.inr (N2.mpr h26)) rfl), (fun p9 e9 => by
          obtain ⟨w9, e1, e2⟩ := xbn_is (show xbn (app (.ok (p.1, skip g len p.2 + 1)) u) _ = .ok p9 from e9)
          injection e2 with e2
          subst e2
          have := (app_len hLen e1 (show p.1.length + 1 ≤ skip g len p.2 + 1 by omega)).2
          show 151 ≤ m + w9.2
          omega)⟩ (show m < s.1 by omega))
    · refine r_aload_n dX10_readSum_20 rfl (by rfl) ?_
      refine r_callV (n_here2 S3.rp) mv_X10_here ml_X10_113 ⟨by omega, by decide⟩ dX10_readSum_21 (by first | assumption | rfl) rfl rfl rfl (Nat.le_of_ble_eq_true rfl) (fun v9 x9 h9 => ?_)
      obtain ⟨rfl, h9⟩ := h9
      refine PW.xeq h9 ?_
      clear h9 x9
      refine r_bipush (v := nI 45) dX10_readSum_24 (by decide) ?_
      refine r_icmp_neN (tgt := 67) dX10_readSum_26 (by decide) (by omega) (by omega) (fun h26 => ?_) (fun h26 => ?_)
      · refine r_ret rfl dX10_readSum_67 ?_
        first
          | (have hs9 : ∃ e, s.2.1 = .error e := okB_f (by rw [← okB_po]; exact h8)
             obtain ⟨e, he⟩ := hs9
             refine ⟨rfl, ?_, K2⟩
             rw [hq, he]
             rw [he] at L2
             exact L2)
          | (refine ⟨rfl, ?_, K2.trans CH.gd.lk⟩
             rw [hq, hp, hm, app_end (fun q => q.elim (fun q => h17 (N1.mp q)) (fun q => h26 (N2.mp q)))]
             exact L3.mv CH.gd (S3.gd hsl) hsk)
      · have hlt : skip g len p.2 < len := by
          by_cases q : skip g len p.2 < len
          · exact q
          · have e0 : hrN g len p.2 = 0 := by unfold hrN; rw [if_neg q]
            exfalso
            first
              | omega
        have L4 : LSt (gdX s.2.2 (skip g len p.2 + 1)) g len o (.ok (p.1, skip g len p.2 + 1)) := L3.mv CH.gd (S3.gd (by omega)) (by omega)
        refine r_aload_n dX10_readSum_29 rfl (by rfl) ?_
        refine r_callV (n_here2 S3.rp) mv_X10_here ml_X10_113 ⟨by omega, by decide⟩ dX10_readSum_30 (by first | assumption | rfl) rfl rfl rfl (Nat.le_of_ble_eq_true rfl) (fun v9 x9 h9 => ?_)
        obtain ⟨rfl, h9⟩ := h9
        refine PW.xeq h9 ?_
        clear h9 x9
        refine r_bipush (v := nI 43) dX10_readSum_33 (by decide) ?_
        refine r_icmp_neN (tgt := 42) dX10_readSum_35 (by decide) (by omega) (by omega) (fun h35 => ?_) (fun h35 => ?_)
        · refine r_iconst (v := nI 3) dX10_readSum_42 (by decide) ?_
          refine r_istore_n dX10_readSum_43 rfl (by decide) ?_
          refine r_aload_n dX10_readSum_44 rfl (by rfl) ?_
          refine r_dup dX10_readSum_45 rfl ?_
          refine gf_X10_107 rfl dX10_readSum_46 (by first | assumption | rfl) (by rfl) ?_
          refine PW.topi (show _ = nI (skip g len p.2) from xu_s) ?_
          refine r_iconst (v := nI 1) dX10_readSum_49 (by decide) ?_
          refine r_iaddN dX10_readSum_50 ?_
          refine pf_X10_107 rfl dX10_readSum_51 (by first | assumption | rfl) (by rfl) ?_
          refine PW.xeq (xu_xu _ _ _ _ _) ?_
          refine r_aload_n dX10_readSum_54 rfl (by rfl) ?_
          refine r_callV (hu (.ok (p.1, skip g len p.2 + 1)) (gdX s.2.2 (skip g len p.2 + 1)) L4) mv_X10_readProduct ml_X10_244 ⟨by omega, by decide⟩ dX10_readSum_55 (by first | assumption | rfl) rfl rfl rfl (Nat.le_of_ble_eq_true rfl) (fun v9 y5 h9 => ?_)
          obtain ⟨rfl, L5, K5⟩ := h9
          refine r_aload_n dX10_readSum_58 rfl (by rfl) ?_
          refine r_iload_n dX10_readSum_59 rfl (by rfl) ?_
          refine r_iconst (v := nI 0) dX10_readSum_60 (by decide) ?_
          refine r_callV (t_emit (c := (if nxV g len p.2 = nI 43 then 2000 else 2001)) L5 (fun p9 e9 => (app_len hLen e9 (show p.1.length + 1 ≤ skip g len p.2 + 1 by omega)).1) (by first | (rw [if_pos (N1.mpr h35)]; rfl) | (rw [if_neg (fun q => h35 (N1.mp q))]; rfl)) (fun _ _ => by split <;> rfl)) mv_X10_emit ml_X10_247 ⟨by omega, by decide⟩ dX10_readSum_61 (by first | assumption | rfl) rfl rfl rfl (Nat.le_of_ble_eq_true rfl) (fun v9 y6 h9 => ?_)
          obtain ⟨rfl, L6, K6⟩ := h9
          refine r_goto (tgt := 4) dX10_readSum_64 (by decide) ?_
          exact PW.lc (by rfl) rfl (ih (m, emi (app (.ok (p.1, skip g len p.2 + 1)) u) (if nxV g len p.2 = nI 43 then 2000 else 2001), y6) ⟨L6, ((K2.trans CH.gd.lk).trans K5).trans K6, (by rw [hq, hp, hm]; exact app_step (by first | exact Or.inl (N1.mpr h17) | exact Or.inr (N2.mpr h26)) rfl), (fun p9 e9 => by
            obtain ⟨w9, e1, e2⟩ := xbn_is (show xbn (app (.ok (p.1, skip g len p.2 + 1)) u) _ = .ok p9 from e9)
            injection e2 with e2
            subst e2
            have := (app_len hLen e1 (show p.1.length + 1 ≤ skip g len p.2 + 1 by omega)).2
            show 151 ≤ m + w9.2
            omega)⟩ (show m < s.1 by omega))
        · refine r_iconst (v := nI 2) dX10_readSum_38 (by decide) ?_
          refine r_goto (tgt := 43) dX10_readSum_39 (by decide) ?_
          refine r_istore_n dX10_readSum_43 rfl (by decide) ?_
          refine r_aload_n dX10_readSum_44 rfl (by rfl) ?_
          refine r_dup dX10_readSum_45 rfl ?_
          refine gf_X10_107 rfl dX10_readSum_46 (by first | assumption | rfl) (by rfl) ?_
          refine PW.topi (show _ = nI (skip g len p.2) from xu_s) ?_
          refine r_iconst (v := nI 1) dX10_readSum_49 (by decide) ?_
          refine r_iaddN dX10_readSum_50 ?_
          refine pf_X10_107 rfl dX10_readSum_51 (by first | assumption | rfl) (by rfl) ?_
          refine PW.xeq (xu_xu _ _ _ _ _) ?_
          refine r_aload_n dX10_readSum_54 rfl (by rfl) ?_
          refine r_callV (hu (.ok (p.1, skip g len p.2 + 1)) (gdX s.2.2 (skip g len p.2 + 1)) L4) mv_X10_readProduct ml_X10_244 ⟨by omega, by decide⟩ dX10_readSum_55 (by first | assumption | rfl) rfl rfl rfl (Nat.le_of_ble_eq_true rfl) (fun v9 y5 h9 => ?_)
          obtain ⟨rfl, L5, K5⟩ := h9
          refine r_aload_n dX10_readSum_58 rfl (by rfl) ?_
          refine r_iload_n dX10_readSum_59 rfl (by rfl) ?_
          refine r_iconst (v := nI 0) dX10_readSum_60 (by decide) ?_
          refine r_callV (t_emit (c := (if nxV g len p.2 = nI 43 then 2000 else 2001)) L5 (fun p9 e9 => (app_len hLen e9 (show p.1.length + 1 ≤ skip g len p.2 + 1 by omega)).1) (by first | (rw [if_pos (N1.mpr h35)]; rfl) | (rw [if_neg (fun q => h35 (N1.mp q))]; rfl)) (fun _ _ => by split <;> rfl)) mv_X10_emit ml_X10_247 ⟨by omega, by decide⟩ dX10_readSum_61 (by first | assumption | rfl) rfl rfl rfl (Nat.le_of_ble_eq_true rfl) (fun v9 y6 h9 => ?_)
          obtain ⟨rfl, L6, K6⟩ := h9
          refine r_goto (tgt := 4) dX10_readSum_64 (by decide) ?_
          exact PW.lc (by rfl) rfl (ih (m, emi (app (.ok (p.1, skip g len p.2 + 1)) u) (if nxV g len p.2 = nI 43 then 2000 else 2001), y6) ⟨L6, ((K2.trans CH.gd.lk).trans K5).trans K6, (by rw [hq, hp, hm]; exact app_step (by first | exact Or.inl (N1.mpr h17) | exact Or.inr (N2.mpr h26)) rfl), (fun p9 e9 => by
            obtain ⟨w9, e1, e2⟩ := xbn_is (show xbn (app (.ok (p.1, skip g len p.2 + 1)) u) _ = .ok p9 from e9)
            injection e2 with e2
            subst e2
            have := (app_len hLen e1 (show p.1.length + 1 ≤ skip g len p.2 + 1 by omega)).2
            show 151 ≤ m + w9.2
            omega)⟩ (show m < s.1 by omega))
set_option maxHeartbeats 8000000 in
set_option maxRecDepth 20000 in
theorem n_readProduct {g : Nat → Nat} {len d o : Nat} {u : Nat → LR} {r : LR} {x : XS} (hd : 1 ≤ d) (hu : LPR g len mX10_readUnit d o u) (hLen : LenOK len u) (hL : LSt x g len o r) : MM mX10_readProduct (d + 1) 0 0 [.ref 137] x (fun v y => v = none ∧ LSt y g len o (app r (pChain g len u 42 47 2002 2003)) ∧ LK x y) NoT := by
  refine MM.of (by decide) (Nat.le_of_ble_eq_true rfl) ?_
  have y137 := lay_137
  refine r_aload_n dX10_readProduct_0 rfl (by rfl) ?_
  refine r_callV (hu r x hL) mv_X10_readUnit ml_X10_250 ⟨by omega, by decide⟩ dX10_readProduct_1 (by first | assumption | rfl) rfl rfl rfl (Nat.le_of_ble_eq_true rfl) (fun v9 y1 h9 => ?_)
  obtain ⟨rfl, L1, K1⟩ := h9
  refine PW.loop (σ := Nat × LR × XS) (fun s => s.1) (fun s => LSt s.2.2 g len o s.2.1 ∧ LK x s.2.2 ∧ app r (pChain g len u 42 47 2002 2003) = app s.2.1 (pLoop g len u 42 47 2002 2003 s.1) ∧ ∀ p, s.2.1 = .ok p → 151 ≤ s.1 + p.2) (fun _ => [(0, .ref 137)]) (fun s => s.2.2) ((150, app r u, y1)) (⟨L1, K1, app_chain r, fun p9 e9 => app_pos hLen e9⟩) rfl rfl (fun s hs ih => ?_)
  obtain ⟨L2, K2, hq, hb⟩ := hs
  refine r_aload_n dX10_readProduct_4 rfl (by rfl) ?_
  refine r_callV (t_fine L2.1) mv_X10_fine ml_X10_130 ⟨by omega, by decide⟩ dX10_readProduct_5 (by first | assumption | rfl) rfl rfl rfl (Nat.le_of_ble_eq_true rfl) (fun v9 x9 h9 => ?_)
  obtain ⟨rfl, h9⟩ := h9
  refine PW.xeq h9 ?_
  clear h9 x9
  refine r_if_eqB (tgt := 67) dX10_readProduct_8 (by decide) (fun h8 => ?_) (fun h8 => ?_)
  · refine r_ret rfl dX10_readProduct_67 ?_
    first
      | (have hs9 : ∃ e, s.2.1 = .error e := okB_f (by rw [← okB_po]; exact h8)
         obtain ⟨e, he⟩ := hs9
         refine ⟨rfl, ?_, K2⟩
         rw [hq, he]
         rw [he] at L2
         exact L2)
      | (refine ⟨rfl, ?_, K2.trans CH.gd.lk⟩
         rw [hq, hp, hm, app_end (fun q => q.elim (fun q => h17 (N1.mp q)) (fun q => h26 (N2.mp q)))]
         exact L3.mv CH.gd (S3.gd hsl) hsk)
  · obtain ⟨p, hp⟩ := okL h8
    have L3 := L2
    rw [hp] at L3
    have S3 : PSt s.2.2 g len (.ok p.2) := L3.1
    have l3 := (L3.2.2.2 p rfl).2.1
    have h15 := L3.2.2.1
    have hp2 : p.2 ≤ len := S3.2.2.1
    have hb9 := hb p hp
    obtain ⟨m, hm⟩ : ∃ m, s.1 = m + 1 := ⟨s.1 - 1, by omega⟩
    have hsk := skip_ge g len p.2
    have hsl := skip_le (g := g) hp2
    have hr9 := hrN_lt (a := p.2) S3.rp
    have N1 := hrN_nx (len := len) (a := p.2) (c := 42) S3.gg (by omega) (by decide) (by decide)
    have N2 := hrN_nx (len := len) (a := p.2) (c := 47) S3.gg (by omega) (by decide) (by decide)
    refine r_aload_n dX10_readProduct_11 rfl (by rfl) ?_
    refine r_callV (n_here S3.rp) mv_X10_here ml_X10_113 ⟨by omega, by decide⟩ dX10_readProduct_12 (by first | assumption | rfl) rfl rfl rfl (Nat.le_of_ble_eq_true rfl) (fun v9 x9 h9 => ?_)
    obtain ⟨rfl, h9⟩ := h9
    refine PW.xeq h9 ?_
    clear h9 x9
    refine r_bipush (v := nI 42) dX10_readProduct_15 (by decide) ?_
    refine r_icmp_eqN (tgt := 29) dX10_readProduct_17 (by decide) (by omega) (by omega) (fun h17 => ?_) (fun h17 => ?_)
    · have hlt : skip g len p.2 < len := by
        by_cases q : skip g len p.2 < len
        · exact q
        · have e0 : hrN g len p.2 = 0 := by unfold hrN; rw [if_neg q]
          exfalso
          first
            | omega
      have L4 : LSt (gdX s.2.2 (skip g len p.2 + 1)) g len o (.ok (p.1, skip g len p.2 + 1)) := L3.mv CH.gd (S3.gd (by omega)) (by omega)
      refine r_aload_n dX10_readProduct_29 rfl (by rfl) ?_
      refine r_callV (n_here2 S3.rp) mv_X10_here ml_X10_113 ⟨by omega, by decide⟩ dX10_readProduct_30 (by first | assumption | rfl) rfl rfl rfl (Nat.le_of_ble_eq_true rfl) (fun v9 x9 h9 => ?_)
      obtain ⟨rfl, h9⟩ := h9
      refine PW.xeq h9 ?_
      clear h9 x9
      refine r_bipush (v := nI 42) dX10_readProduct_33 (by decide) ?_
      refine r_icmp_neN (tgt := 42) dX10_readProduct_35 (by decide) (by omega) (by omega) (fun h35 => ?_) (fun h35 => ?_)
      · refine r_iconst (v := nI 5) dX10_readProduct_42 (by decide) ?_
        refine r_istore_n dX10_readProduct_43 rfl (by decide) ?_
        refine r_aload_n dX10_readProduct_44 rfl (by rfl) ?_
        refine r_dup dX10_readProduct_45 rfl ?_
        refine gf_X10_107 rfl dX10_readProduct_46 (by first | assumption | rfl) (by rfl) ?_
        refine PW.topi (show _ = nI (skip g len p.2) from xu_s) ?_
        refine r_iconst (v := nI 1) dX10_readProduct_49 (by decide) ?_
        refine r_iaddN dX10_readProduct_50 ?_
        refine pf_X10_107 rfl dX10_readProduct_51 (by first | assumption | rfl) (by rfl) ?_
        refine PW.xeq (xu_xu _ _ _ _ _) ?_
        refine r_aload_n dX10_readProduct_54 rfl (by rfl) ?_
        refine r_callV (hu (.ok (p.1, skip g len p.2 + 1)) (gdX s.2.2 (skip g len p.2 + 1)) L4) mv_X10_readUnit ml_X10_250 ⟨by omega, by decide⟩ dX10_readProduct_55 (by first | assumption | rfl) rfl rfl rfl (Nat.le_of_ble_eq_true rfl) (fun v9 y5 h9 => ?_)
        obtain ⟨rfl, L5, K5⟩ := h9
        refine r_aload_n dX10_readProduct_58 rfl (by rfl) ?_
        refine r_iload_n dX10_readProduct_59 rfl (by rfl) ?_
        refine r_iconst (v := nI 0) dX10_readProduct_60 (by decide) ?_
        refine r_callV (t_emit (c := (if nxV g len p.2 = nI 42 then 2002 else 2003)) L5 (fun p9 e9 => (app_len hLen e9 (show p.1.length + 1 ≤ skip g len p.2 + 1 by omega)).1) (by first | (rw [if_pos (N1.mpr h35)]; rfl) | (rw [if_neg (fun q => h35 (N1.mp q))]; rfl)) (fun _ _ => by split <;> rfl)) mv_X10_emit ml_X10_247 ⟨by omega, by decide⟩ dX10_readProduct_61 (by first | assumption | rfl) rfl rfl rfl (Nat.le_of_ble_eq_true rfl) (fun v9 y6 h9 => ?_)
        obtain ⟨rfl, L6, K6⟩ := h9
        refine r_goto (tgt := 4) dX10_readProduct_64 (by decide) ?_
        exact PW.lc (by rfl) rfl (ih (m, emi (app (.ok (p.1, skip g len p.2 + 1)) u) (if nxV g len p.2 = nI 42 then 2002 else 2003), y6) ⟨L6, ((K2.trans CH.gd.lk).trans K5).trans K6, (by rw [hq, hp, hm]; exact app_step (by first | exact Or.inl (N1.mpr h17) | exact Or.inr (N2.mpr h26)) rfl), (fun p9 e9 => by
          obtain ⟨w9, e1, e2⟩ := xbn_is (show xbn (app (.ok (p.1, skip g len p.2 + 1)) u) _ = .ok p9 from e9)
          injection e2 with e2
          subst e2
          have := (app_len hLen e1 (show p.1.length + 1 ≤ skip g len p.2 + 1 by omega)).2
          show 151 ≤ m + w9.2
          omega)⟩ (show m < s.1 by omega))
      · refine r_iconst (v := nI 4) dX10_readProduct_38 (by decide) ?_
        refine r_goto (tgt := 43) dX10_readProduct_39 (by decide) ?_
        refine r_istore_n dX10_readProduct_43 rfl (by decide) ?_
        refine r_aload_n dX10_readProduct_44 rfl (by rfl) ?_
        refine r_dup dX10_readProduct_45 rfl ?_
        refine gf_X10_107 rfl dX10_readProduct_46 (by first | assumption | rfl) (by rfl) ?_
        refine PW.topi (show _ = nI (skip g len p.2) from xu_s) ?_
        refine r_iconst (v := nI 1) dX10_readProduct_49 (by decide) ?_
        refine r_iaddN dX10_readProduct_50 ?_
        refine pf_X10_107 rfl dX10_readProduct_51 (by first | assumption | rfl) (by rfl) ?_
        refine PW.xeq (xu_xu _ _ _ _ _) ?_
        refine r_aload_n dX10_readProduct_54 rfl (by rfl) ?_
        refine r_callV (hu (.ok (p.1, skip g len p.2 + 1)) (gdX s.2.2 (skip g len p.2 + 1)) L4) mv_X10_readUnit ml_X10_250 ⟨by omega, by decide⟩ dX10_readProduct_55 (by first | assumption | rfl) rfl rfl rfl (Nat.le_of_ble_eq_true rfl) (fun v9 y5 h9 => ?_)
        obtain ⟨rfl, L5, K5⟩ := h9
        refine r_aload_n dX10_readProduct_58 rfl (by rfl) ?_
        refine r_iload_n dX10_readProduct_59 rfl (by rfl) ?_
        refine r_iconst (v := nI 0) dX10_readProduct_60 (by decide) ?_
        refine r_callV (t_emit (c := (if nxV g len p.2 = nI 42 then 2002 else 2003)) L5 (fun p9 e9 => (app_len hLen e9 (show p.1.length + 1 ≤ skip g len p.2 + 1 by omega)).1) (by first | (rw [if_pos (N1.mpr h35)]; rfl) | (rw [if_neg (fun q => h35 (N1.mp q))]; rfl)) (fun _ _ => by split <;> rfl)) mv_X10_emit ml_X10_247 ⟨by omega, by decide⟩ dX10_readProduct_61 (by first | assumption | rfl) rfl rfl rfl (Nat.le_of_ble_eq_true rfl) (fun v9 y6 h9 => ?_)
        obtain ⟨rfl, L6, K6⟩ := h9
        refine r_goto (tgt := 4) dX10_readProduct_64 (by decide) ?_
        exact PW.lc (by rfl) rfl (ih (m, emi (app (.ok (p.1, skip g len p.2 + 1)) u) (if nxV g len p.2 = nI 42 then 2002 else 2003), y6) ⟨L6, ((K2.trans CH.gd.lk).trans K5).trans K6, (by rw [hq, hp, hm]; exact app_step (by first | exact Or.inl (N1.mpr h17) | exact Or.inr (N2.mpr h26)) rfl), (fun p9 e9 => by
          obtain ⟨w9, e1, e2⟩ := xbn_is (show xbn (app (.ok (p.1, skip g len p.2 + 1)) u) _ = .ok p9 from e9)
          injection e2 with e2
          subst e2
          have := (app_len hLen e1 (show p.1.length + 1 ≤ skip g len p.2 + 1 by omega)).2
          show 151 ≤ m + w9.2
          omega)⟩ (show m < s.1 by omega))
    · refine r_aload_n dX10_readProduct_20 rfl (by rfl) ?_
      refine r_callV (n_here2 S3.rp) mv_X10_here ml_X10_113 ⟨by omega, by decide⟩ dX10_readProduct_21 (by first | assumption | rfl) rfl rfl rfl (Nat.le_of_ble_eq_true rfl) (fun v9 x9 h9 => ?_)
      obtain ⟨rfl, h9⟩ := h9
      refine PW.xeq h9 ?_
      clear h9 x9
      refine r_bipush (v := nI 47) dX10_readProduct_24 (by decide) ?_
      refine r_icmp_neN (tgt := 67) dX10_readProduct_26 (by decide) (by omega) (by omega) (fun h26 => ?_) (fun h26 => ?_)
      · refine r_ret rfl dX10_readProduct_67 ?_
        first
          | (have hs9 : ∃ e, s.2.1 = .error e := okB_f (by rw [← okB_po]; exact h8)
             obtain ⟨e, he⟩ := hs9
             refine ⟨rfl, ?_, K2⟩
             rw [hq, he]
             rw [he] at L2
             exact L2)
          | (refine ⟨rfl, ?_, K2.trans CH.gd.lk⟩
             rw [hq, hp, hm, app_end (fun q => q.elim (fun q => h17 (N1.mp q)) (fun q => h26 (N2.mp q)))]
             exact L3.mv CH.gd (S3.gd hsl) hsk)
      · have hlt : skip g len p.2 < len := by
          by_cases q : skip g len p.2 < len
          · exact q
          · have e0 : hrN g len p.2 = 0 := by unfold hrN; rw [if_neg q]
            exfalso
            first
              | omega
        have L4 : LSt (gdX s.2.2 (skip g len p.2 + 1)) g len o (.ok (p.1, skip g len p.2 + 1)) := L3.mv CH.gd (S3.gd (by omega)) (by omega)
        refine r_aload_n dX10_readProduct_29 rfl (by rfl) ?_
        refine r_callV (n_here2 S3.rp) mv_X10_here ml_X10_113 ⟨by omega, by decide⟩ dX10_readProduct_30 (by first | assumption | rfl) rfl rfl rfl (Nat.le_of_ble_eq_true rfl) (fun v9 x9 h9 => ?_)
        obtain ⟨rfl, h9⟩ := h9
        refine PW.xeq h9 ?_
        clear h9 x9
        refine r_bipush (v := nI 42) dX10_readProduct_33 (by decide) ?_
        refine r_icmp_neN (tgt := 42) dX10_readProduct_35 (by decide) (by omega) (by omega) (fun h35 => ?_) (fun h35 => ?_)
        · refine r_iconst (v := nI 5) dX10_readProduct_42 (by decide) ?_
          refine r_istore_n dX10_readProduct_43 rfl (by decide) ?_
          refine r_aload_n dX10_readProduct_44 rfl (by rfl) ?_
          refine r_dup dX10_readProduct_45 rfl ?_
          refine gf_X10_107 rfl dX10_readProduct_46 (by first | assumption | rfl) (by rfl) ?_
          refine PW.topi (show _ = nI (skip g len p.2) from xu_s) ?_
          refine r_iconst (v := nI 1) dX10_readProduct_49 (by decide) ?_
          refine r_iaddN dX10_readProduct_50 ?_
          refine pf_X10_107 rfl dX10_readProduct_51 (by first | assumption | rfl) (by rfl) ?_
          refine PW.xeq (xu_xu _ _ _ _ _) ?_
          refine r_aload_n dX10_readProduct_54 rfl (by rfl) ?_
          refine r_callV (hu (.ok (p.1, skip g len p.2 + 1)) (gdX s.2.2 (skip g len p.2 + 1)) L4) mv_X10_readUnit ml_X10_250 ⟨by omega, by decide⟩ dX10_readProduct_55 (by first | assumption | rfl) rfl rfl rfl (Nat.le_of_ble_eq_true rfl) (fun v9 y5 h9 => ?_)
          obtain ⟨rfl, L5, K5⟩ := h9
          refine r_aload_n dX10_readProduct_58 rfl (by rfl) ?_
          refine r_iload_n dX10_readProduct_59 rfl (by rfl) ?_
          refine r_iconst (v := nI 0) dX10_readProduct_60 (by decide) ?_
          refine r_callV (t_emit (c := (if nxV g len p.2 = nI 42 then 2002 else 2003)) L5 (fun p9 e9 => (app_len hLen e9 (show p.1.length + 1 ≤ skip g len p.2 + 1 by omega)).1) (by first | (rw [if_pos (N1.mpr h35)]; rfl) | (rw [if_neg (fun q => h35 (N1.mp q))]; rfl)) (fun _ _ => by split <;> rfl)) mv_X10_emit ml_X10_247 ⟨by omega, by decide⟩ dX10_readProduct_61 (by first | assumption | rfl) rfl rfl rfl (Nat.le_of_ble_eq_true rfl) (fun v9 y6 h9 => ?_)
          obtain ⟨rfl, L6, K6⟩ := h9
          refine r_goto (tgt := 4) dX10_readProduct_64 (by decide) ?_
          exact PW.lc (by rfl) rfl (ih (m, emi (app (.ok (p.1, skip g len p.2 + 1)) u) (if nxV g len p.2 = nI 42 then 2002 else 2003), y6) ⟨L6, ((K2.trans CH.gd.lk).trans K5).trans K6, (by rw [hq, hp, hm]; exact app_step (by first | exact Or.inl (N1.mpr h17) | exact Or.inr (N2.mpr h26)) rfl), (fun p9 e9 => by
            obtain ⟨w9, e1, e2⟩ := xbn_is (show xbn (app (.ok (p.1, skip g len p.2 + 1)) u) _ = .ok p9 from e9)
            injection e2 with e2
            subst e2
            have := (app_len hLen e1 (show p.1.length + 1 ≤ skip g len p.2 + 1 by omega)).2
            show 151 ≤ m + w9.2
            omega)⟩ (show m < s.1 by omega))
        · refine r_iconst (v := nI 4) dX10_readProduct_38 (by decide) ?_
          refine r_goto (tgt := 43) dX10_readProduct_39 (by decide) ?_
          refine r_istore_n dX10_readProduct_43 rfl (by decide) ?_
          refine r_aload_n dX10_readProduct_44 rfl (by rfl) ?_
          refine r_dup dX10_readProduct_45 rfl ?_
          refine gf_X10_107 rfl dX10_readProduct_46 (by first | assumption | rfl) (by rfl) ?_
          refine PW.topi (show _ = nI (skip g len p.2) from xu_s) ?_
          refine r_iconst (v := nI 1) dX10_readProduct_49 (by decide) ?_
          refine r_iaddN dX10_readProduct_50 ?_
          refine pf_X10_107 rfl dX10_readProduct_51 (by first | assumption | rfl) (by rfl) ?_
          refine PW.xeq (xu_xu _ _ _ _ _) ?_
          refine r_aload_n dX10_readProduct_54 rfl (by rfl) ?_
          refine r_callV (hu (.ok (p.1, skip g len p.2 + 1)) (gdX s.2.2 (skip g len p.2 + 1)) L4) mv_X10_readUnit ml_X10_250 ⟨by omega, by decide⟩ dX10_readProduct_55 (by first | assumption | rfl) rfl rfl rfl (Nat.le_of_ble_eq_true rfl) (fun v9 y5 h9 => ?_)
          obtain ⟨rfl, L5, K5⟩ := h9
          refine r_aload_n dX10_readProduct_58 rfl (by rfl) ?_
          refine r_iload_n dX10_readProduct_59 rfl (by rfl) ?_
          refine r_iconst (v := nI 0) dX10_readProduct_60 (by decide) ?_
          refine r_callV (t_emit (c := (if nxV g len p.2 = nI 42 then 2002 else 2003)) L5 (fun p9 e9 => (app_len hLen e9 (show p.1.length + 1 ≤ skip g len p.2 + 1 by omega)).1) (by first | (rw [if_pos (N1.mpr h35)]; rfl) | (rw [if_neg (fun q => h35 (N1.mp q))]; rfl)) (fun _ _ => by split <;> rfl)) mv_X10_emit ml_X10_247 ⟨by omega, by decide⟩ dX10_readProduct_61 (by first | assumption | rfl) rfl rfl rfl (Nat.le_of_ble_eq_true rfl) (fun v9 y6 h9 => ?_)
          obtain ⟨rfl, L6, K6⟩ := h9
          refine r_goto (tgt := 4) dX10_readProduct_64 (by decide) ?_
          exact PW.lc (by rfl) rfl (ih (m, emi (app (.ok (p.1, skip g len p.2 + 1)) u) (if nxV g len p.2 = nI 42 then 2002 else 2003), y6) ⟨L6, ((K2.trans CH.gd.lk).trans K5).trans K6, (by rw [hq, hp, hm]; exact app_step (by first | exact Or.inl (N1.mpr h17) | exact Or.inr (N2.mpr h26)) rfl), (fun p9 e9 => by
            obtain ⟨w9, e1, e2⟩ := xbn_is (show xbn (app (.ok (p.1, skip g len p.2 + 1)) u) _ = .ok p9 from e9)
            injection e2 with e2
            subst e2
            have := (app_len hLen e1 (show p.1.length + 1 ≤ skip g len p.2 + 1 by omega)).2
            show 151 ≤ m + w9.2
            omega)⟩ (show m < s.1 by omega))
