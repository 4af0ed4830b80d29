/-! THE REFERENCE: what opens and closes -/
set_option maxHeartbeats 8000000 in
set_option maxRecDepth 20000 in
theorem n_open {a b o : Nat} {x : XS} (h5 : x 137 5 = -1) (ha : x 137 4 = nI a) (ho : x 137 7 = nI o) (ho6 : o < 6) : MM mX10_opensOne 1 0 0 [.ref 137, .int (nI b)] x (fun v y => v = none ∧ y = xu (gdX x (a + b)) 137 7 (nI (o + 1))) NoT := by
  refine MM.of (by decide) (Nat.le_of_ble_eq_true rfl) ?_
  have y137 := lay_137
  refine r_aload_n dX10_opensOne_0 rfl (by rfl) ?_
  refine r_callV (n_fine_t h5) mv_X10_fine ml_X10_130 ⟨by decide, by decide⟩ dX10_opensOne_1 (by first | assumption | rfl) rfl rfl rfl (Nat.le_of_ble_eq_true rfl) (fun v9 x9 h9 => ?_)
  obtain ⟨rfl, h9⟩ := h9
  refine PW.xeq h9 ?_
  clear h9 x9
  refine r_if_eqB (tgt := 25) dX10_opensOne_4 (by decide) (fun h4 => absurd h4 (by decide)) (fun h4 => ?_)
  refine r_aload_n dX10_opensOne_7 rfl (by rfl) ?_
  refine gf_X10_141 rfl dX10_opensOne_8 (by first | assumption | rfl) (by rfl) ?_
  refine PW.topi ho ?_
  refine r_bipush (v := nI 6) dX10_opensOne_11 (by decide) ?_
  refine r_icmp_neN (tgt := 25) dX10_opensOne_13 (by decide) (by omega) (by omega) (fun h13 => ?_) (fun h13 => ?_)
  · refine r_aload_n dX10_opensOne_25 rfl (by rfl) ?_
    refine r_callV (n_fine_t h5) mv_X10_fine ml_X10_130 ⟨by decide, by decide⟩ dX10_opensOne_26 (by first | assumption | rfl) rfl rfl rfl (Nat.le_of_ble_eq_true rfl) (fun v9 x9 h9 => ?_)
    obtain ⟨rfl, h9⟩ := h9
    refine PW.xeq h9 ?_
    clear h9 x9
    refine r_if_eqB (tgt := 42) dX10_opensOne_29 (by decide) (fun h29 => absurd h29 (by decide)) (fun h29 => ?_)
    refine r_aload_n dX10_opensOne_32 rfl (by rfl) ?_
    refine r_dup dX10_opensOne_33 rfl ?_
    refine gf_X10_107 rfl dX10_opensOne_34 (by first | assumption | rfl) (by rfl) ?_
    refine PW.topi ha ?_
    refine r_iload_n dX10_opensOne_37 rfl (by rfl) ?_
    refine r_iaddN dX10_opensOne_38 ?_
    refine pf_X10_107 rfl dX10_opensOne_39 (by first | assumption | rfl) (by rfl) ?_
    refine r_aload_n dX10_opensOne_42 rfl (by rfl) ?_
    refine r_dup dX10_opensOne_43 rfl ?_
    refine gf_X10_141 rfl dX10_opensOne_44 (by first | assumption | rfl) (by rfl) ?_
    refine PW.topi (show _ = nI o from ho) ?_
    refine r_iconst (v := nI 1) dX10_opensOne_47 (by decide) ?_
    refine r_iaddN dX10_opensOne_48 ?_
    refine pf_X10_141 rfl dX10_opensOne_49 (by first | assumption | rfl) (by rfl) ?_
    refine r_ret rfl dX10_opensOne_52 ?_
    exact ⟨rfl, rfl⟩
  · exfalso
    omega
set_option maxHeartbeats 8000000 in
set_option maxRecDepth 20000 in
theorem n_open6 {a b : Nat} {x : XS} (h5 : x 137 5 = -1) (ha : x 137 4 = nI a) (ha6 : a ≤ 600) (ho : x 137 7 = nI 6) : MM mX10_opensOne 1 0 0 [.ref 137, .int (nI b)] x (fun v y => v = none ∧ y = xu (wrX x 3 a) 137 7 (nI 7)) NoT := by
  refine MM.of (by decide) (Nat.le_of_ble_eq_true rfl) ?_
  have y137 := lay_137
  have hb5 : ¬ wrX x 3 a 137 5 = -1 := nI_ne1 (show a < 2 ^ 31 by omega)
  refine r_aload_n dX10_opensOne_0 rfl (by rfl) ?_
  refine r_callV (n_fine_t h5) mv_X10_fine ml_X10_130 ⟨by decide, by decide⟩ dX10_opensOne_1 (by first | assumption | rfl) rfl rfl rfl (Nat.le_of_ble_eq_true rfl) (fun v9 x9 h9 => ?_)
  obtain ⟨rfl, h9⟩ := h9
  refine PW.xeq h9 ?_
  clear h9 x9
  refine r_if_eqB (tgt := 25) dX10_opensOne_4 (by decide) (fun h4 => absurd h4 (by decide)) (fun h4 => ?_)
  refine r_aload_n dX10_opensOne_7 rfl (by rfl) ?_
  refine gf_X10_141 rfl dX10_opensOne_8 (by first | assumption | rfl) (by rfl) ?_
  refine PW.topi ho ?_
  refine r_bipush (v := nI 6) dX10_opensOne_11 (by decide) ?_
  refine r_icmp_neN (tgt := 25) dX10_opensOne_13 (by decide) (by decide) (by decide) (fun h13 => absurd rfl h13) (fun h13 => ?_)
  refine r_aload_n dX10_opensOne_16 rfl (by rfl) ?_
  refine r_iconst (v := nI 3) dX10_opensOne_17 (by decide) ?_
  refine r_aload_n dX10_opensOne_18 rfl (by rfl) ?_
  refine gf_X10_107 rfl dX10_opensOne_19 (by first | assumption | rfl) (by rfl) ?_
  refine PW.topi ha ?_
  refine r_callV (n_wrong (x := x) h5) mv_X10_wrong ml_X10_137 ⟨by decide, by decide⟩ dX10_opensOne_22 (by first | assumption | rfl) rfl rfl rfl (Nat.le_of_ble_eq_true rfl) (fun v9 x9 h9 => ?_)
  obtain ⟨rfl, h9⟩ := h9
  refine PW.xeq h9 ?_
  clear h9 x9
  refine r_aload_n dX10_opensOne_25 rfl (by rfl) ?_
  refine r_callV (n_fine_f hb5) mv_X10_fine ml_X10_130 ⟨by decide, by decide⟩ dX10_opensOne_26 (by first | assumption | rfl) rfl rfl rfl (Nat.le_of_ble_eq_true rfl) (fun v9 x9 h9 => ?_)
  obtain ⟨rfl, h9⟩ := h9
  refine PW.xeq h9 ?_
  clear h9 x9
  refine r_if_eqB (tgt := 42) dX10_opensOne_29 (by decide) (fun h29 => ?_) (fun h29 => absurd h29 (by decide))
  have h9x := h29
  refine r_aload_n dX10_opensOne_42 rfl (by rfl) ?_
  refine r_dup dX10_opensOne_43 rfl ?_
  refine gf_X10_141 rfl dX10_opensOne_44 (by first | assumption | rfl) (by rfl) ?_
  refine PW.topi (show _ = nI 6 from ho) ?_
  refine r_iconst (v := nI 1) dX10_opensOne_47 (by decide) ?_
  refine r_iaddN dX10_opensOne_48 ?_
  refine pf_X10_141 rfl dX10_opensOne_49 (by first | assumption | rfl) (by rfl) ?_
  refine r_ret rfl dX10_opensOne_52 ?_
  exact ⟨rfl, rfl⟩
set_option maxHeartbeats 8000000 in
set_option maxRecDepth 20000 in
theorem n_unit_b {x : XS} (h5 : ¬ x 137 5 = -1) : MM mX10_readUnit 1 0 0 [.ref 137] x (fun v y => v = none ∧ y = x) NoT := by
  refine MM.of (by decide) (Nat.le_of_ble_eq_true rfl) ?_
  have y137 := lay_137
  refine r_aload_n dX10_readUnit_0 rfl (by rfl) ?_
  refine r_callV (n_fine_f h5) mv_X10_fine ml_X10_130 ⟨by decide, by decide⟩ dX10_readUnit_1 (by first | assumption | rfl) rfl rfl rfl (Nat.le_of_ble_eq_true rfl) (fun v9 x9 h9 => ?_)
  obtain ⟨rfl, h9⟩ := h9
  refine PW.xeq h9 ?_
  clear h9 x9
  refine r_if_neB (tgt := 8) dX10_readUnit_4 (by decide) (fun h4 => ?_) (fun h4 => ?_)
  · exact absurd h4 (by decide)
  · refine r_ret rfl dX10_readUnit_7 ?_
    exact ⟨rfl, rfl⟩
set_option maxHeartbeats 8000000 in
set_option maxRecDepth 20000 in
theorem n_Product_b {x : XS} (h5 : ¬ x 137 5 = -1) : MM mX10_readProduct 2 0 0 [.ref 137] x (fun v y => v = none ∧ y = x) NoT := by
  refine MM.of (by decide) (Nat.le_of_ble_eq_true rfl) ?_
  have y137 := lay_137
  refine r_aload_n dX10_readProduct_0 rfl (by rfl) ?_
  refine r_callV (n_unit_b h5) mv_X10_readUnit ml_X10_250 ⟨by decide, by decide⟩ dX10_readProduct_1 (by first | assumption | rfl) rfl rfl rfl (Nat.le_of_ble_eq_true rfl) (fun v9 x9 h9 => ?_)
  obtain ⟨rfl, h9⟩ := h9
  refine PW.xeq h9 ?_
  clear h9 x9
  refine r_aload_n dX10_readProduct_4 rfl (by rfl) ?_
  refine r_callV (n_fine_f h5) mv_X10_fine ml_X10_130 ⟨by decide, by decide⟩ dX10_readProduct_5 (by first | assumption | rfl) rfl rfl rfl (Nat.le_of_ble_eq_true rfl) (fun v9 x9 h9 => ?_)
  obtain ⟨rfl, h9⟩ := h9
  refine PW.xeq h9 ?_
  clear h9 x9
  refine r_if_eqB (tgt := 67) dX10_readProduct_8 (by decide) (fun h8 => ?_) (fun h8 => absurd h8 (by decide))
  have h9x := h8
  refine r_ret rfl dX10_readProduct_67 ?_
  exact ⟨rfl, rfl⟩
set_option maxHeartbeats 8000000 in
set_option maxRecDepth 20000 in
theorem n_Sum_b {x : XS} (h5 : ¬ x 137 5 = -1) : MM mX10_readSum 3 0 0 [.ref 137] x (fun v y => v = none ∧ y = x) NoT := by
  refine MM.of (by decide) (Nat.le_of_ble_eq_true rfl) ?_
  have y137 := lay_137
  refine r_aload_n dX10_readSum_0 rfl (by rfl) ?_
  refine r_callV (n_Product_b h5) mv_X10_readProduct ml_X10_244 ⟨by decide, by decide⟩ dX10_readSum_1 (by first | assumption | rfl) rfl rfl rfl (Nat.le_of_ble_eq_true rfl) (fun v9 x9 h9 => ?_)
  obtain ⟨rfl, h9⟩ := h9
  refine PW.xeq h9 ?_
  clear h9 x9
  refine r_aload_n dX10_readSum_4 rfl (by rfl) ?_
  refine r_callV (n_fine_f h5) mv_X10_fine ml_X10_130 ⟨by decide, by decide⟩ dX10_readSum_5 (by first | assumption | rfl) rfl rfl rfl (Nat.le_of_ble_eq_true rfl) (fun v9 x9 h9 => ?_)
  obtain ⟨rfl, h9⟩ := h9
  refine PW.xeq h9 ?_
  clear h9 x9
  refine r_if_eqB (tgt := 67) dX10_readSum_8 (by decide) (fun h8 => ?_) (fun h8 => absurd h8 (by decide))
  have h9x := h8
  refine r_ret rfl dX10_readSum_67 ?_
  exact ⟨rfl, rfl⟩
def sgn (g : Nat → Nat) (len c : Nat) (r : LR) : LR := xbn r (fun p => xbn (pTake g len c p.2) (fun b => .ok (p.1, b)))
theorem t_signL {x : XS} {g : Nat → Nat} {len c o : Nat} {r : LR} (h : LSt x g len o r) (hc : 1 ≤ c) (hc2 : c < 256) : MM mX10_sign 1 0 0 [.ref 137, .int (nI c)] x (fun v y => v = none ∧ LSt y g len o (sgn g len c r) ∧ LK x y) NoT := by
  refine MM.imp (t_sign h.1 hc hc2) (fun v y q => ?_)
  obtain ⟨rfl, P1, C1⟩ := q
  refine ⟨rfl, ?_, C1.lk⟩
  cases r with
  | error e => exact h.er C1 P1
  | ok p =>
    have P1 : PSt y g len (pTake g len c p.2) := P1
    show LSt y g len o (xbn (pTake g len c p.2) (fun b => .ok (p.1, b)))
    cases ht : pTake g len c p.2 with
    | error e => rw [ht] at P1; exact h.er C1 P1
    | ok b =>
      rw [ht] at P1
      have := (pTake_ge ht).1
      exact LSt.mv (l := p.1) (a := p.2) h C1 P1 (by omega)
theorem sgn_len {x : XS} {g : Nat → Nat} {len c o : Nat} {r : LR} (h : LSt x g len o r) : ∀ p, sgn g len c r = .ok p → p.1.length + 1 ≤ p.2 := by
  intro p e
  obtain ⟨w, h1, h2⟩ := xbn_is e
  obtain ⟨b, h3, h4⟩ := xbn_is h2
  injection h4 with h4
  subst h4
  have q1 := (h.2.2.2 w h1).2.1
  have q2 := (pTake_ge h3).1
  show w.1.length + 1 ≤ b
  omega
/-- opens changes, the rest stays -/
theorem LSt.op {x : XS} {g : Nat → Nat} {len o k : Nat} {r : LR} (h : LSt x g len o r) : LSt (xu x 137 7 (nI k)) g len k r := by
  obtain ⟨h1, _, h3, h4⟩ := h
  refine ⟨h1.ch (fun j hj => xu_k (by omega)) (xu_n (by decide)), xu_s, h3, fun p e => ?_⟩
  obtain ⟨q1, q2, q3⟩ := h4 p e
  exact ⟨(xu_k (by decide)).trans q1, q2, q3⟩
theorem LK.op {x : XS} {k : Nat} : LK x (xu x 137 7 (nI k)) := ⟨fun c a _ _ => xu_n a, fun j a _ => xu_k (by omega)⟩
def two (g : Nat → Nat) (len c : Nat) (F : Nat → LR) (r : LR) : LR := emi (sgn g len 93 (app (sgn g len 44 (app (sgn g len 91 r) F)) F)) c
set_option maxHeartbeats 8000000 in
set_option maxRecDepth 20000 in
theorem n_two {g : Nat → Nat} {len a b o d c : Nat} {l : List Nat} {F : Nat → LR} {w : Int32} {x : XS} (hd : 2 ≤ d) (hF : LPR g len mX10_readSum d (o + 1) F) (hL : LSt x g len o (.ok (l, a))) (hb : a + b ≤ len) (ho : o < 6) (hw : w = nI (kdN c)) (hc : nI 0 = nI (ofN c)) : MM mX10_readTwo (d + 1) 0 0 [.ref 137, .int (nI b), .int w] x (fun v y => v = none ∧ LSt y g len o (two g len c F (.ok (l, a + b))) ∧ LK x y) NoT := by
  refine MM.of (by decide) (Nat.le_of_ble_eq_true rfl) ?_
  have y137 := lay_137
  refine r_aload_n dX10_readTwo_0 rfl (by rfl) ?_
  refine r_iload_n dX10_readTwo_1 rfl (by rfl) ?_
  refine r_callV (n_open (a := a) (o := o) hL.1.2.2.2 hL.1.2.1 hL.2.1 ho) mv_X10_opensOne ml_X10_253 ⟨by omega, by decide⟩ dX10_readTwo_2 (by first | assumption | rfl) rfl rfl rfl (Nat.le_of_ble_eq_true rfl) (fun v9 y0 h9 => ?_)
  obtain ⟨rfl, rfl⟩ := h9
  have L1 : LSt (xu (gdX x (a + b)) 137 7 (nI (o + 1))) g len (o + 1) (.ok (l, a + b)) := (hL.mv CH.gd (PSt.gd (a := a) hL.1 hb) (by omega)).op
  have K1 : LK x (xu (gdX x (a + b)) 137 7 (nI (o + 1))) := CH.gd.lk.trans LK.op
  refine r_aload_n dX10_readTwo_5 rfl (by rfl) ?_
  refine r_bipush (v := nI 91) dX10_readTwo_6 (by decide) ?_
  refine r_callV (t_signL L1 (by decide) (by decide)) mv_X10_sign ml_X10_234 ⟨by omega, by decide⟩ dX10_readTwo_8 (by first | assumption | rfl) rfl rfl rfl (Nat.le_of_ble_eq_true rfl) (fun v9 y1 h9 => ?_)
  obtain ⟨rfl, L2, K2⟩ := h9
  refine r_aload_n dX10_readTwo_11 rfl (by rfl) ?_
  refine r_callV (hF _ _ L2) mv_X10_readSum ml_X10_256 ⟨by omega, by decide⟩ dX10_readTwo_12 (by first | assumption | rfl) rfl rfl rfl (Nat.le_of_ble_eq_true rfl) (fun v9 y2 h9 => ?_)
  obtain ⟨rfl, L3, K3⟩ := h9
  refine r_aload_n dX10_readTwo_15 rfl (by rfl) ?_
  refine r_bipush (v := nI 44) dX10_readTwo_16 (by decide) ?_
  refine r_callV (t_signL L3 (by decide) (by decide)) mv_X10_sign ml_X10_234 ⟨by omega, by decide⟩ dX10_readTwo_18 (by first | assumption | rfl) rfl rfl rfl (Nat.le_of_ble_eq_true rfl) (fun v9 y3 h9 => ?_)
  obtain ⟨rfl, L4, K4⟩ := h9
  refine r_aload_n dX10_readTwo_21 rfl (by rfl) ?_
  refine r_callV (hF _ _ L4) mv_X10_readSum ml_X10_256 ⟨by omega, by decide⟩ dX10_readTwo_22 (by first | assumption | rfl) rfl rfl rfl (Nat.le_of_ble_eq_true rfl) (fun v9 y4 h9 => ?_)
  obtain ⟨rfl, L5, K5⟩ := h9
  refine r_aload_n dX10_readTwo_25 rfl (by rfl) ?_
  refine r_bipush (v := nI 93) dX10_readTwo_26 (by decide) ?_
  refine r_callV (t_signL L5 (by decide) (by decide)) mv_X10_sign ml_X10_234 ⟨by omega, by decide⟩ dX10_readTwo_28 (by first | assumption | rfl) rfl rfl rfl (Nat.le_of_ble_eq_true rfl) (fun v9 y5 h9 => ?_)
  obtain ⟨rfl, L6, K6⟩ := h9
  refine r_aload_n dX10_readTwo_31 rfl (by rfl) ?_
  refine r_dup dX10_readTwo_32 rfl ?_
  refine gf_X10_141 rfl dX10_readTwo_33 (by first | assumption | rfl) (by rfl) ?_
  refine PW.topi L6.2.1 ?_
  refine r_iconst (v := nI 1) dX10_readTwo_36 (by decide) ?_
  refine r_isubN dX10_readTwo_37 (by omega) ?_
  refine pf_X10_141 rfl dX10_readTwo_38 (by first | assumption | rfl) (by rfl) ?_
  refine r_aload_n dX10_readTwo_41 rfl (by rfl) ?_
  refine r_iload_n dX10_readTwo_42 rfl (by rfl) ?_
  refine r_iconst (v := nI 0) dX10_readTwo_43 (by decide) ?_
  refine r_callV (t_emit (c := c) (LSt.op (k := o) L6) (sgn_len L5) hw (fun _ _ => hc)) mv_X10_emit ml_X10_247 ⟨by omega, by decide⟩ dX10_readTwo_44 (by first | assumption | rfl) rfl rfl rfl (Nat.le_of_ble_eq_true rfl) (fun v9 y6 h9 => ?_)
  obtain ⟨rfl, L7, K7⟩ := h9
  refine r_ret rfl dX10_readTwo_47 ?_
  exact ⟨rfl, L7, (((((K1.trans K2).trans K3).trans K4).trans K5).trans K6).trans (LK.op.trans K7)⟩
set_option maxHeartbeats 8000000 in
set_option maxRecDepth 20000 in
theorem n_two6 {g : Nat → Nat} {len a b d : Nat} {l : List Nat} {w : Int32} {x : XS} (hd : 3 ≤ d) (hL : LSt x g len 6 (.ok (l, a))) : MM mX10_readTwo (d + 1) 0 0 [.ref 137, .int (nI b), .int w] x (fun v y => v = none ∧ LSt y g len 6 (.error (3, a)) ∧ LK x y) NoT := by
  refine MM.of (by decide) (Nat.le_of_ble_eq_true rfl) ?_
  have y137 := lay_137
  have ha6 : a ≤ 600 := Nat.le_trans hL.1.2.2.1 hL.1.1.2.1
  have hb5 : ¬ xu (wrX x 3 a) 137 7 (nI 7) 137 5 = -1 := nI_ne1 (show a < 2 ^ 31 by omega)
  refine r_aload_n dX10_readTwo_0 rfl (by rfl) ?_
  refine r_iload_n dX10_readTwo_1 rfl (by rfl) ?_
  refine r_callV (n_open6 (a := a) hL.1.2.2.2 hL.1.2.1 ha6 hL.2.1) mv_X10_opensOne ml_X10_253 ⟨by omega, by decide⟩ dX10_readTwo_2 (by first | assumption | rfl) rfl rfl rfl (Nat.le_of_ble_eq_true rfl) (fun v9 x9 h9 => ?_)
  obtain ⟨rfl, h9⟩ := h9
  refine PW.xeq h9 ?_
  clear h9 x9
  refine r_aload_n dX10_readTwo_5 rfl (by rfl) ?_
  refine r_bipush (v := nI 91) dX10_readTwo_6 (by decide) ?_
  refine r_callV (n_sign_b hb5) mv_X10_sign ml_X10_234 ⟨by omega, by decide⟩ dX10_readTwo_8 (by first | assumption | rfl) rfl rfl rfl (Nat.le_of_ble_eq_true rfl) (fun v9 x9 h9 => ?_)
  obtain ⟨rfl, h9⟩ := h9
  refine PW.xeq h9 ?_
  clear h9 x9
  refine r_aload_n dX10_readTwo_11 rfl (by rfl) ?_
  refine r_callV (n_Sum_b hb5) mv_X10_readSum ml_X10_256 ⟨by omega, by decide⟩ dX10_readTwo_12 (by first | assumption | rfl) rfl rfl rfl (Nat.le_of_ble_eq_true rfl) (fun v9 x9 h9 => ?_)
  obtain ⟨rfl, h9⟩ := h9
  refine PW.xeq h9 ?_
  clear h9 x9
  refine r_aload_n dX10_readTwo_15 rfl (by rfl) ?_
  refine r_bipush (v := nI 44) dX10_readTwo_16 (by decide) ?_
  refine r_callV (n_sign_b hb5) mv_X10_sign ml_X10_234 ⟨by omega, by decide⟩ dX10_readTwo_18 (by first | assumption | rfl) rfl rfl rfl (Nat.le_of_ble_eq_true rfl) (fun v9 x9 h9 => ?_)
  obtain ⟨rfl, h9⟩ := h9
  refine PW.xeq h9 ?_
  clear h9 x9
  refine r_aload_n dX10_readTwo_21 rfl (by rfl) ?_
  refine r_callV (n_Sum_b hb5) mv_X10_readSum ml_X10_256 ⟨by omega, by decide⟩ dX10_readTwo_22 (by first | assumption | rfl) rfl rfl rfl (Nat.le_of_ble_eq_true rfl) (fun v9 x9 h9 => ?_)
  obtain ⟨rfl, h9⟩ := h9
  refine PW.xeq h9 ?_
  clear h9 x9
  refine r_aload_n dX10_readTwo_25 rfl (by rfl) ?_
  refine r_bipush (v := nI 93) dX10_readTwo_26 (by decide) ?_
  refine r_callV (n_sign_b hb5) mv_X10_sign ml_X10_234 ⟨by omega, by decide⟩ dX10_readTwo_28 (by first | assumption | rfl) rfl rfl rfl (Nat.le_of_ble_eq_true rfl) (fun v9 x9 h9 => ?_)
  obtain ⟨rfl, h9⟩ := h9
  refine PW.xeq h9 ?_
  clear h9 x9
  refine r_aload_n dX10_readTwo_31 rfl (by rfl) ?_
  refine r_dup dX10_readTwo_32 rfl ?_
  refine gf_X10_141 rfl dX10_readTwo_33 (by first | assumption | rfl) (by rfl) ?_
  refine PW.topi (show _ = nI 7 from rfl) ?_
  refine r_iconst (v := nI 1) dX10_readTwo_36 (by decide) ?_
  refine r_isubN dX10_readTwo_37 (by omega) ?_
  refine pf_X10_141 rfl dX10_readTwo_38 (by first | assumption | rfl) (by rfl) ?_
  refine r_aload_n dX10_readTwo_41 rfl (by rfl) ?_
  refine r_iload_n dX10_readTwo_42 rfl (by rfl) ?_
  refine r_iconst (v := nI 0) dX10_readTwo_43 (by decide) ?_
  refine r_callV (n_emit_b (x := xu (xu (wrX x 3 a) 137 7 (nI 7)) 137 7 (nI 6)) hb5) mv_X10_emit ml_X10_247 ⟨by omega, by decide⟩ dX10_readTwo_44 (by first | assumption | rfl) rfl rfl rfl (Nat.le_of_ble_eq_true rfl) (fun v9 x9 h9 => ?_)
  obtain ⟨rfl, h9⟩ := h9
  refine PW.xeq h9 ?_
  clear h9 x9
  refine r_ret rfl dX10_readTwo_47 ?_
  refine ⟨rfl, ?_, ⟨fun c a1 _ _ => (xu_n a1).trans ((xu_n a1).trans ((xu_n a1).trans (xu_n a1))), fun k a1 _ => (xu_k (by omega)).trans ((xu_k (by omega)).trans ((xu_k (by omega)).trans (xu_k (by omega))))⟩⟩
  exact ⟨⟨hL.1.1, rfl, rfl, ha6, a, hL.1.2.2.1, hL.1.2.1⟩, xu_s, hL.2.2.1, fun p e => by cases e⟩
