/-! TAPE: reading -/
theorem xu_same {x : XS} {c k : Nat} {v : Int32} (h : x c k = v) : x = xu x c k v := by
  subst h
  funext j
  unfold xu
  by_cases e : j = c
  · subst e
    rw [xr_s]
    funext i
    by_cases e2 : i = k
    · subst e2; rw [pk_us]
    · rw [pk_un e2]
  · rw [xr_n e]
theorem xu_xu (x : XS) (c k : Nat) (v w : Int32) : xu (xu x c k v) c k w = xu x c k w := by
  unfold xu
  rw [xr_s, xr_xr]
  congr 1
  funext i
  by_cases e : i = k
  · subst e; rw [pk_us, pk_us]
  · rw [pk_un e, pk_un e, pk_un e]
/-- the tape: bytes g, a text of len of them, read up to a -/
def TP (x : XS) (g : Nat → Nat) (len a : Nat) : Prop := x 1 2 = nI len ∧ len ≤ 600 ∧ x 1 3 = nI a ∧ a ≤ len ∧ ∀ j, j < 600 → x 2 j = nI (g j) ∧ g j < 256
def skp (g : Nat → Nat) (len : Nat) : Nat → Nat → Nat
  | 0, a => a
  | n + 1, a => if a < len ∧ g a = 32 then skp g len n (a + 1) else a
/-- the next byte that is no blank -/
def skip (g : Nat → Nat) (len a : Nat) : Nat := skp g len (len - a) a
theorem skip_s {g : Nat → Nat} {len a : Nat} (h : a < len) (h2 : g a = 32) : skip g len a = skip g len (a + 1) := by
  unfold skip
  rw [show len - a = (len - (a + 1)) + 1 by omega]
  show (if _ then _ else _) = _
  rw [if_pos ⟨h, h2⟩]
theorem skip_e {g : Nat → Nat} {len a : Nat} (h : ¬ (a < len ∧ g a = 32)) : skip g len a = a := by
  unfold skip
  cases len - a with
  | zero => rfl
  | succ n =>
    show (if _ then _ else _) = _
    rw [if_neg h]
theorem skp_le (g : Nat → Nat) (len : Nat) : ∀ n a, a ≤ len → skp g len n a ≤ len
  | 0, _, h => h
  | n + 1, a, h => by
    unfold skp
    split
    · exact skp_le g len n (a + 1) (by omega)
    · exact h
theorem skip_le {g : Nat → Nat} {len a : Nat} (h : a ≤ len) : skip g len a ≤ len := skp_le g len _ a h
theorem skp_ge (g : Nat → Nat) (len : Nat) : ∀ n a, a ≤ skp g len n a
  | 0, _ => Nat.le_refl _
  | n + 1, a => by
    unfold skp
    split
    · exact Nat.le_trans (Nat.le_succ a) (skp_ge g len n (a + 1))
    · exact Nat.le_refl _
theorem skip_ge (g : Nat → Nat) (len a : Nat) : a ≤ skip g len a := skp_ge g len _ a
def atX (x : XS) (a : Nat) : XS := xu x 1 3 (nI a)
def nxV (g : Nat → Nat) (len a : Nat) : Int32 := if skip g len a < len then nI (g (skip g len a)) else -1
def failX (x : XS) (kind place : Nat) : XS := xu (xu x 1 4 (nI kind)) 1 5 (nI place)
def digB (v : Int32) : Bool := decide (nI 48 ≤ v) && decide (v ≤ nI 57)
theorem TP.at {x : XS} {g : Nat → Nat} {len a b : Nat} (h : TP x g len a) (hb : b ≤ len) : TP (atX x b) g len b := ⟨by unfold atX; rw [xu_k (by decide)]; exact h.1, h.2.1, xu_s, hb, fun j hj => by unfold atX; rw [xu_n (by decide)]; exact h.2.2.2.2 j hj⟩
set_option maxHeartbeats 8000000 in
set_option maxRecDepth 20000 in
theorem c_X8_hasRoom {h : Nat} {x : XS} (hh : x 1 1 = nI h) (h6 : h ≤ 600) : MM mX8_hasRoom 0 0 0 [.ref 1] x (fun v x1 => v = some (.int (bI (decide (h + 20 ≤ 600)))) ∧ x1 = x) NoT := by
  refine MM.of (by decide) (Nat.le_of_ble_eq_true rfl) ?_
  have y1 := lay_1
  have y2 := lay_2
  refine r_aload_n dX8_hasRoom_0 rfl (by rfl) ?_
  refine gf_X8_15 rfl dX8_hasRoom_1 (by first | assumption | rfl) (by rfl) ?_
  refine PW.topi hh ?_
  refine r_bipush (v := nI 20) dX8_hasRoom_4 (by decide) ?_
  refine r_iaddN dX8_hasRoom_6 ?_
  refine r_sipush (v := nI 600) dX8_hasRoom_7 (by decide) ?_
  refine r_icmp_gtN (tgt := 17) dX8_hasRoom_10 (by decide) (by omega) (by omega) (fun h10 => ?_) (fun h10 => ?_)
  · refine r_iconst (v := nI 0) dX8_hasRoom_17 (by decide) ?_
    refine r_zret rfl (by first | exact bI_01 _ | exact Or.inl rfl | exact Or.inr rfl) dX8_hasRoom_18 ?_
    refine ⟨?_, rfl⟩
    first | (rw [decide_eq_true h10]; rfl) | (rw [decide_eq_false (by omega)]; rfl)
  · refine r_iconst (v := nI 1) dX8_hasRoom_13 (by decide) ?_
    refine r_goto (tgt := 18) dX8_hasRoom_14 (by decide) ?_
    refine r_zret rfl (by first | exact bI_01 _ | exact Or.inl rfl | exact Or.inr rfl) dX8_hasRoom_18 ?_
    refine ⟨?_, rfl⟩
    first | (rw [decide_eq_true h10]; rfl) | (rw [decide_eq_false (by omega)]; rfl)
def shv : Nat → Int32
  | 0 => nI 24
  | 1 => nI 16
  | 2 => nI 8
  | 3 => nI 0
  | _ => -8
def byteV (four : Int32) (i : Nat) : Int32 := (four.toUInt32 >>> ((shv i).toUInt32 &&& Int32.toUInt32 31)).toInt32 &&& nI 255
def apX (x : XS) (four : Int32) (h : Nat) : Nat → XS
  | 0 => x
  | i + 1 => xu (xu (apX x four h i) 2 (h + i) (byteV four i)) 1 1 (nI (h + i + 1))
theorem apX_h {x : XS} {four : Int32} {h : Nat} (hh : x 1 1 = nI h) : ∀ i, apX x four h i 1 1 = nI (h + i)
  | 0 => hh
  | i + 1 => xu_s
set_option maxHeartbeats 8000000 in
set_option maxRecDepth 20000 in
theorem c_X8_append {h : Nat} {four : Int32} {x : XS} (hh : x 1 1 = nI h) (h6 : h ≤ 596) : MM mX8_append 0 0 0 [.ref 1, .int four] x (fun v x1 => v = none ∧ x1 = apX x four h 4) NoT := by
  refine MM.of (by decide) (Nat.le_of_ble_eq_true rfl) ?_
  have y1 := lay_1
  have y2 := lay_2
  refine r_bipush (v := nI 24) dX8_append_0 (by decide) ?_
  refine r_istore_n dX8_append_2 rfl (by decide) ?_
  refine PW.loop (σ := Nat) (fun i => 4 - i) (fun i => i ≤ 4) (fun i => [(0, .ref 1), (1, .int four), (2, .int (shv i))]) (fun i => apX x four h i) (0) (Nat.zero_le _) rfl rfl (fun i hi ih => ?_)
  have hq : i = 0 ∨ i = 1 ∨ i = 2 ∨ i = 3 ∨ i = 4 := by omega
  rcases hq with rfl | rfl | rfl | rfl | rfl
  · refine r_iload_n dX8_append_3 rfl (by rfl) ?_
    refine r_if_lt (tgt := 58) dX8_append_4 (by decide) (fun h4 => absurd h4 (by decide +kernel)) (fun _ => ?_)
    refine r_aload_n dX8_append_7 rfl (by rfl) ?_
    refine gf_X8_15 rfl dX8_append_8 (by first | assumption | rfl) (by rfl) ?_
    refine PW.topi (apX_h hh 0) ?_
    refine r_if_lt (tgt := 52) dX8_append_11 (by decide) (fun h11 => absurd h11 (nI_pos (by omega))) (fun _ => ?_)
    refine r_aload_n dX8_append_14 rfl (by rfl) ?_
    refine gf_X8_15 rfl dX8_append_15 (by first | assumption | rfl) (by rfl) ?_
    refine PW.topi (apX_h hh 0) ?_
    refine r_aload_n dX8_append_18 rfl (by rfl) ?_
    refine gf_X8_9 rfl dX8_append_19 (by first | assumption | rfl) (by rfl) ?_
    refine r_alen dX8_append_22 (by first | assumption | rfl) (by decide) rfl ?_
    refine r_icmp_geN (tgt := 52) dX8_append_23 (by decide) (by omega) (by omega) (fun h23 => by exfalso; omega) (fun _ => ?_)
    refine r_aload_n dX8_append_26 rfl (by rfl) ?_
    refine gf_X8_9 rfl dX8_append_27 (by first | assumption | rfl) (by rfl) ?_
    refine r_aload_n dX8_append_30 rfl (by rfl) ?_
    refine gf_X8_15 rfl dX8_append_31 (by first | assumption | rfl) (by rfl) ?_
    refine PW.topi (apX_h hh 0) ?_
    refine r_iload_n dX8_append_34 rfl (by rfl) ?_
    refine r_iload_n dX8_append_35 rfl (by rfl) ?_
    refine r_iushr dX8_append_36 rfl ?_
    refine r_sipush (v := nI 255) dX8_append_37 (by decide) ?_
    refine r_iand dX8_append_40 ?_
    refine r_iastN dX8_append_41 (by first | assumption | rfl) (by omega) (by decide) ?_
    refine r_aload_n dX8_append_42 rfl (by rfl) ?_
    refine r_dup dX8_append_43 rfl ?_
    refine gf_X8_15 rfl dX8_append_44 y1 (by rfl) ?_
    refine PW.topi (show _ = nI (h + 0) by rw [xu_n (by decide)]; exact apX_h hh 0) ?_
    refine r_iconst (v := nI 1) dX8_append_47 (by decide) ?_
    refine r_iaddN dX8_append_48 ?_
    refine pf_X8_15 rfl dX8_append_49 (by first | assumption | rfl) (by rfl) ?_
    refine r_iinc (w := shv 1) dX8_append_52 (by rfl) (by decide +kernel) (by decide) ?_
    refine r_goto (tgt := 3) dX8_append_55 (by decide) ?_
    exact PW.lc (by rfl) rfl (ih 1 (by omega) (by omega))
  · refine r_iload_n dX8_append_3 rfl (by rfl) ?_
    refine r_if_lt (tgt := 58) dX8_append_4 (by decide) (fun h4 => absurd h4 (by decide +kernel)) (fun _ => ?_)
    refine r_aload_n dX8_append_7 rfl (by rfl) ?_
    refine gf_X8_15 rfl dX8_append_8 (by first | assumption | rfl) (by rfl) ?_
    refine PW.topi (apX_h hh 1) ?_
    refine r_if_lt (tgt := 52) dX8_append_11 (by decide) (fun h11 => absurd h11 (nI_pos (by omega))) (fun _ => ?_)
    refine r_aload_n dX8_append_14 rfl (by rfl) ?_
    refine gf_X8_15 rfl dX8_append_15 (by first | assumption | rfl) (by rfl) ?_
    refine PW.topi (apX_h hh 1) ?_
    refine r_aload_n dX8_append_18 rfl (by rfl) ?_
    refine gf_X8_9 rfl dX8_append_19 (by first | assumption | rfl) (by rfl) ?_
    refine r_alen dX8_append_22 (by first | assumption | rfl) (by decide) rfl ?_
    refine r_icmp_geN (tgt := 52) dX8_append_23 (by decide) (by omega) (by omega) (fun h23 => by exfalso; omega) (fun _ => ?_)
    refine r_aload_n dX8_append_26 rfl (by rfl) ?_
    refine gf_X8_9 rfl dX8_append_27 (by first | assumption | rfl) (by rfl) ?_
    refine r_aload_n dX8_append_30 rfl (by rfl) ?_
    refine gf_X8_15 rfl dX8_append_31 (by first | assumption | rfl) (by rfl) ?_
    refine PW.topi (apX_h hh 1) ?_
    refine r_iload_n dX8_append_34 rfl (by rfl) ?_
    refine r_iload_n dX8_append_35 rfl (by rfl) ?_
    refine r_iushr dX8_append_36 rfl ?_
    refine r_sipush (v := nI 255) dX8_append_37 (by decide) ?_
    refine r_iand dX8_append_40 ?_
    refine r_iastN dX8_append_41 (by first | assumption | rfl) (by omega) (by decide) ?_
    refine r_aload_n dX8_append_42 rfl (by rfl) ?_
    refine r_dup dX8_append_43 rfl ?_
    refine gf_X8_15 rfl dX8_append_44 y1 (by rfl) ?_
    refine PW.topi (show _ = nI (h + 1) by rw [xu_n (by decide)]; exact apX_h hh 1) ?_
    refine r_iconst (v := nI 1) dX8_append_47 (by decide) ?_
    refine r_iaddN dX8_append_48 ?_
    refine pf_X8_15 rfl dX8_append_49 (by first | assumption | rfl) (by rfl) ?_
    refine r_iinc (w := shv 2) dX8_append_52 (by rfl) (by decide +kernel) (by decide) ?_
    refine r_goto (tgt := 3) dX8_append_55 (by decide) ?_
    exact PW.lc (by rfl) rfl (ih 2 (by omega) (by omega))
  · refine r_iload_n dX8_append_3 rfl (by rfl) ?_
    refine r_if_lt (tgt := 58) dX8_append_4 (by decide) (fun h4 => absurd h4 (by decide +kernel)) (fun _ => ?_)
    refine r_aload_n dX8_append_7 rfl (by rfl) ?_
    refine gf_X8_15 rfl dX8_append_8 (by first | assumption | rfl) (by rfl) ?_
    refine PW.topi (apX_h hh 2) ?_
    refine r_if_lt (tgt := 52) dX8_append_11 (by decide) (fun h11 => absurd h11 (nI_pos (by omega))) (fun _ => ?_)
    refine r_aload_n dX8_append_14 rfl (by rfl) ?_
    refine gf_X8_15 rfl dX8_append_15 (by first | assumption | rfl) (by rfl) ?_
    refine PW.topi (apX_h hh 2) ?_
    refine r_aload_n dX8_append_18 rfl (by rfl) ?_
    refine gf_X8_9 rfl dX8_append_19 (by first | assumption | rfl) (by rfl) ?_
    refine r_alen dX8_append_22 (by first | assumption | rfl) (by decide) rfl ?_
    refine r_icmp_geN (tgt := 52) dX8_append_23 (by decide) (by omega) (by omega) (fun h23 => by exfalso; omega) (fun _ => ?_)
    refine r_aload_n dX8_append_26 rfl (by rfl) ?_
    refine gf_X8_9 rfl dX8_append_27 (by first | assumption | rfl) (by rfl) ?_
    refine r_aload_n dX8_append_30 rfl (by rfl) ?_
    refine gf_X8_15 rfl dX8_append_31 (by first | assumption | rfl) (by rfl) ?_
    refine PW.topi (apX_h hh 2) ?_
    refine r_iload_n dX8_append_34 rfl (by rfl) ?_
    refine r_iload_n dX8_append_35 rfl (by rfl) ?_
    refine r_iushr dX8_append_36 rfl ?_
    refine r_sipush (v := nI 255) dX8_append_37 (by decide) ?_
    refine r_iand dX8_append_40 ?_
    refine r_iastN dX8_append_41 (by first | assumption | rfl) (by omega) (by decide) ?_
    refine r_aload_n dX8_append_42 rfl (by rfl) ?_
    refine r_dup dX8_append_43 rfl ?_
    refine gf_X8_15 rfl dX8_append_44 y1 (by rfl) ?_
    refine PW.topi (show _ = nI (h + 2) by rw [xu_n (by decide)]; exact apX_h hh 2) ?_
    refine r_iconst (v := nI 1) dX8_append_47 (by decide) ?_
    refine r_iaddN dX8_append_48 ?_
    refine pf_X8_15 rfl dX8_append_49 (by first | assumption | rfl) (by rfl) ?_
    refine r_iinc (w := shv 3) dX8_append_52 (by rfl) (by decide +kernel) (by decide) ?_
    refine r_goto (tgt := 3) dX8_append_55 (by decide) ?_
    exact PW.lc (by rfl) rfl (ih 3 (by omega) (by omega))
  · refine r_iload_n dX8_append_3 rfl (by rfl) ?_
    refine r_if_lt (tgt := 58) dX8_append_4 (by decide) (fun h4 => absurd h4 (by decide +kernel)) (fun _ => ?_)
    refine r_aload_n dX8_append_7 rfl (by rfl) ?_
    refine gf_X8_15 rfl dX8_append_8 (by first | assumption | rfl) (by rfl) ?_
    refine PW.topi (apX_h hh 3) ?_
    refine r_if_lt (tgt := 52) dX8_append_11 (by decide) (fun h11 => absurd h11 (nI_pos (by omega))) (fun _ => ?_)
    refine r_aload_n dX8_append_14 rfl (by rfl) ?_
    refine gf_X8_15 rfl dX8_append_15 (by first | assumption | rfl) (by rfl) ?_
    refine PW.topi (apX_h hh 3) ?_
    refine r_aload_n dX8_append_18 rfl (by rfl) ?_
    refine gf_X8_9 rfl dX8_append_19 (by first | assumption | rfl) (by rfl) ?_
    refine r_alen dX8_append_22 (by first | assumption | rfl) (by decide) rfl ?_
    refine r_icmp_geN (tgt := 52) dX8_append_23 (by decide) (by omega) (by omega) (fun h23 => by exfalso; omega) (fun _ => ?_)
    refine r_aload_n dX8_append_26 rfl (by rfl) ?_
    refine gf_X8_9 rfl dX8_append_27 (by first | assumption | rfl) (by rfl) ?_
    refine r_aload_n dX8_append_30 rfl (by rfl) ?_
    refine gf_X8_15 rfl dX8_append_31 (by first | assumption | rfl) (by rfl) ?_
    refine PW.topi (apX_h hh 3) ?_
    refine r_iload_n dX8_append_34 rfl (by rfl) ?_
    refine r_iload_n dX8_append_35 rfl (by rfl) ?_
    refine r_iushr dX8_append_36 rfl ?_
    refine r_sipush (v := nI 255) dX8_append_37 (by decide) ?_
    refine r_iand dX8_append_40 ?_
    refine r_iastN dX8_append_41 (by first | assumption | rfl) (by omega) (by decide) ?_
    refine r_aload_n dX8_append_42 rfl (by rfl) ?_
    refine r_dup dX8_append_43 rfl ?_
    refine gf_X8_15 rfl dX8_append_44 y1 (by rfl) ?_
    refine PW.topi (show _ = nI (h + 3) by rw [xu_n (by decide)]; exact apX_h hh 3) ?_
    refine r_iconst (v := nI 1) dX8_append_47 (by decide) ?_
    refine r_iaddN dX8_append_48 ?_
    refine pf_X8_15 rfl dX8_append_49 (by first | assumption | rfl) (by rfl) ?_
    refine r_iinc (w := shv 4) dX8_append_52 (by rfl) (by decide +kernel) (by decide) ?_
    refine r_goto (tgt := 3) dX8_append_55 (by decide) ?_
    exact PW.lc (by rfl) rfl (ih 4 (by omega) (by omega))
  · refine r_iload_n dX8_append_3 rfl (by rfl) ?_
    refine r_if_lt (tgt := 58) dX8_append_4 (by decide) (fun _ => ?_) (fun h4 => absurd (show (-8 : Int32) < 0 by decide +kernel) h4)
    refine r_ret rfl dX8_append_58 ?_
    exact ⟨rfl, rfl⟩
set_option maxHeartbeats 8000000 in
set_option maxRecDepth 20000 in
theorem c_X8_open {n : Nat} {x : XS} (h6 : n ≤ 600) : MM mX8_open 1 0 0 [.ref 1, .int (nI n)] x (fun v x1 => v = none ∧ x1 = xu (xu (xu (xu (xu x 1 2 (nI n)) 1 3 (nI 0)) 1 1 (nI 0)) 1 4 (nI 0)) 1 5 (-1)) NoT := by
  refine MM.of (by decide) (Nat.le_of_ble_eq_true rfl) ?_
  have y1 := lay_1
  have y2 := lay_2
  refine r_aload_n dX8_open_0 rfl (by rfl) ?_
  refine r_iload_n dX8_open_1 rfl (by rfl) ?_
  refine r_aload_n dX8_open_2 rfl (by rfl) ?_
  refine gf_X8_9 rfl dX8_open_3 (by first | assumption | rfl) (by rfl) ?_
  refine r_alen dX8_open_6 (by first | assumption | rfl) (by decide) rfl ?_
  refine r_callS c_min ms_J9_min_7cf53 ml_X8_34 ⟨by decide, by decide⟩ dX8_open_7 rfl (Nat.le_of_ble_eq_true rfl) (fun v9 x9 h9 => ?_)
  obtain ⟨rfl, h9⟩ := h9
  refine PW.xeq h9 ?_
  clear h9 x9
  refine PW.topi (show _ = nI n by rw [imin_N (by omega) (by omega)]; congr 1; omega) ?_
  refine pf_X8_19 rfl dX8_open_10 (by first | assumption | rfl) (by rfl) ?_
  refine r_aload_n dX8_open_13 rfl (by rfl) ?_
  refine r_iconst (v := nI 0) dX8_open_14 (by decide) ?_
  refine pf_X8_22 rfl dX8_open_15 (by first | assumption | rfl) (by rfl) ?_
  refine r_aload_n dX8_open_18 rfl (by rfl) ?_
  refine r_iconst (v := nI 0) dX8_open_19 (by decide) ?_
  refine pf_X8_15 rfl dX8_open_20 (by first | assumption | rfl) (by rfl) ?_
  refine r_aload_n dX8_open_23 rfl (by rfl) ?_
  refine r_iconst (v := nI 0) dX8_open_24 (by decide) ?_
  refine pf_X8_25 rfl dX8_open_25 (by first | assumption | rfl) (by rfl) ?_
  refine r_aload_n dX8_open_28 rfl (by rfl) ?_
  refine r_iconst (v := -1) dX8_open_29 (by decide) ?_
  refine pf_X8_28 rfl dX8_open_30 (by first | assumption | rfl) (by rfl) ?_
  refine r_ret rfl dX8_open_33 ?_
  exact ⟨rfl, rfl⟩
set_option maxHeartbeats 8000000 in
set_option maxRecDepth 20000 in
theorem c_X8_fail {kd pl : Nat} {x : XS} : MM mX8_fail 0 0 0 [.ref 1, .int (nI kd), .int (nI pl)] x (fun v x1 => v = some (.int (bI false)) ∧ x1 = failX x kd pl) NoT := by
  refine MM.of (by decide) (Nat.le_of_ble_eq_true rfl) ?_
  have y1 := lay_1
  have y2 := lay_2
  refine r_aload_n dX8_fail_0 rfl (by rfl) ?_
  refine r_iload_n dX8_fail_1 rfl (by rfl) ?_
  refine pf_X8_25 rfl dX8_fail_2 (by first | assumption | rfl) (by rfl) ?_
  refine r_aload_n dX8_fail_5 rfl (by rfl) ?_
  refine r_iload_n dX8_fail_6 rfl (by rfl) ?_
  refine pf_X8_28 rfl dX8_fail_7 (by first | assumption | rfl) (by rfl) ?_
  refine r_iconst (v := nI 0) dX8_fail_10 (by decide) ?_
  refine r_zret rfl (by first | exact bI_01 _ | exact Or.inl rfl | exact Or.inr rfl) dX8_fail_11 ?_
  exact ⟨rfl, rfl⟩
set_option maxHeartbeats 8000000 in
set_option maxRecDepth 20000 in
theorem c_X8_failHere {kd a : Nat} {x : XS} (ha : x 1 3 = nI a) : MM mX8_failHere 1 0 0 [.ref 1, .int (nI kd)] x (fun v x1 => v = some (.int (bI false)) ∧ x1 = failX x kd a) NoT := by
  refine MM.of (by decide) (Nat.le_of_ble_eq_true rfl) ?_
  have y1 := lay_1
  have y2 := lay_2
  refine r_aload_n dX8_failHere_0 rfl (by rfl) ?_
  refine r_iload_n dX8_failHere_1 rfl (by rfl) ?_
  refine r_aload_n dX8_failHere_2 rfl (by rfl) ?_
  refine gf_X8_22 rfl dX8_failHere_3 (by first | assumption | rfl) (by rfl) ?_
  refine PW.topi ha ?_
  refine r_callV c_X8_fail mv_X8_fail ml_X8_40 ⟨by decide, by decide⟩ dX8_failHere_6 (by first | assumption | rfl) rfl rfl rfl (Nat.le_of_ble_eq_true rfl) (fun v9 x9 h9 => ?_)
  obtain ⟨rfl, h9⟩ := h9
  refine PW.xeq h9 ?_
  clear h9 x9
  refine r_zret rfl (by first | exact bI_01 _ | exact Or.inl rfl | exact Or.inr rfl) dX8_failHere_9 ?_
  exact ⟨rfl, rfl⟩
set_option maxHeartbeats 8000000 in
set_option maxRecDepth 20000 in
theorem c_X8_next {g : Nat → Nat} {len a : Nat} {x : XS} (hT : TP x g len a) : MM mX8_next 0 0 0 [.ref 1] x (fun v x1 => v = some (.int (nxV g len a)) ∧ x1 = atX x (skip g len a)) NoT := by
  refine MM.of (by decide) (Nat.le_of_ble_eq_true rfl) ?_
  have y1 := lay_1
  have y2 := lay_2
  refine PW.loop (σ := Nat) (fun b => len - b) (fun b => b ≤ len ∧ skip g len b = skip g len a) (fun b => [(0, .ref 1)]) (fun b => atX x b) (a) (⟨hT.2.2.2.1, rfl⟩) rfl (xu_same hT.2.2.1) (fun b hb bh => ?_)
  have hb1 := hb.1
  have hl := hT.2.1
  refine r_aload_n dX8_next_0 rfl (by rfl) ?_
  refine gf_X8_22 rfl dX8_next_1 (by first | assumption | rfl) (by rfl) ?_
  refine PW.topi (show _ = nI b from xu_s) ?_
  refine r_aload_n dX8_next_4 rfl (by rfl) ?_
  refine gf_X8_19 rfl dX8_next_5 (by first | assumption | rfl) (by rfl) ?_
  refine PW.topi (show _ = nI len by unfold atX; rw [xu_k (by decide)]; exact hT.1) ?_
  refine r_icmp_geN (tgt := 38) dX8_next_8 (by decide) (by omega) (by omega) (fun h8 => ?_) (fun h8 => ?_)
  · refine r_aload_n dX8_next_38 rfl (by rfl) ?_
    refine gf_X8_22 rfl dX8_next_39 (by first | assumption | rfl) (by rfl) ?_
    refine PW.topi (show _ = nI b from xu_s) ?_
    refine r_aload_n dX8_next_42 rfl (by rfl) ?_
    refine gf_X8_19 rfl dX8_next_43 (by first | assumption | rfl) (by rfl) ?_
    refine PW.topi (show _ = nI len by unfold atX; rw [xu_k (by decide)]; exact hT.1) ?_
    refine r_icmp_geN (tgt := 61) dX8_next_46 (by decide) (by omega) (by omega) (fun h46 => ?_) (fun h46 => ?_)
    · refine r_iconst (v := -1) dX8_next_61 (by decide) ?_
      refine r_iret rfl dX8_next_62 ?_
      have e : skip g len a = b := by
        rw [← hb.2]
        exact skip_e (by omega)
      refine ⟨?_, by rw [e]⟩
      unfold nxV
      rw [e]
      first
        | (rw [if_pos (by omega)]; done)
        | (rw [if_neg (by omega)]; done)
    · refine r_aload_n dX8_next_49 rfl (by rfl) ?_
      refine gf_X8_9 rfl dX8_next_50 (by first | assumption | rfl) (by rfl) ?_
      refine r_aload_n dX8_next_53 rfl (by rfl) ?_
      refine gf_X8_22 rfl dX8_next_54 (by first | assumption | rfl) (by rfl) ?_
      refine PW.topi (show _ = nI b from xu_s) ?_
      refine r_ialdN dX8_next_57 (by first | assumption | rfl) (by omega) (by decide) ?_
      refine PW.topi (show _ = nI (g b) by unfold atX; rw [xu_n (by decide)]; exact (hT.2.2.2.2 b (by omega)).1) ?_
      refine r_goto (tgt := 62) dX8_next_58 (by decide) ?_
      refine r_iret rfl dX8_next_62 ?_
      have e : skip g len a = b := by
        rw [← hb.2]
        exact skip_e (by omega)
      refine ⟨?_, by rw [e]⟩
      unfold nxV
      rw [e]
      first
        | (rw [if_pos (by omega)]; done)
        | (rw [if_neg (by omega)]; done)
  · refine r_aload_n dX8_next_11 rfl (by rfl) ?_
    refine gf_X8_9 rfl dX8_next_12 (by first | assumption | rfl) (by rfl) ?_
    refine r_aload_n dX8_next_15 rfl (by rfl) ?_
    refine gf_X8_22 rfl dX8_next_16 (by first | assumption | rfl) (by rfl) ?_
    refine PW.topi (show _ = nI b from xu_s) ?_
    refine r_ialdN dX8_next_19 (by first | assumption | rfl) (by omega) (by decide) ?_
    refine PW.topi (show _ = nI (g b) by unfold atX; rw [xu_n (by decide)]; exact (hT.2.2.2.2 b (by omega)).1) ?_
    have g6 := (hT.2.2.2.2 b (by omega)).2
    refine r_bipush (v := nI 32) dX8_next_20 (by decide) ?_
    refine r_icmp_neN (tgt := 38) dX8_next_22 (by decide) (by omega) (by omega) (fun h22 => ?_) (fun h22 => ?_)
    · refine r_aload_n dX8_next_38 rfl (by rfl) ?_
      refine gf_X8_22 rfl dX8_next_39 (by first | assumption | rfl) (by rfl) ?_
      refine PW.topi (show _ = nI b from xu_s) ?_
      refine r_aload_n dX8_next_42 rfl (by rfl) ?_
      refine gf_X8_19 rfl dX8_next_43 (by first | assumption | rfl) (by rfl) ?_
      refine PW.topi (show _ = nI len by unfold atX; rw [xu_k (by decide)]; exact hT.1) ?_
      refine r_icmp_geN (tgt := 61) dX8_next_46 (by decide) (by omega) (by omega) (fun h46 => ?_) (fun h46 => ?_)
      · refine r_iconst (v := -1) dX8_next_61 (by decide) ?_
        refine r_iret rfl dX8_next_62 ?_
        have e : skip g len a = b := by
          rw [← hb.2]
          exact skip_e (by omega)
        refine ⟨?_, by rw [e]⟩
        unfold nxV
        rw [e]
        first
          | (rw [if_pos (by omega)]; done)
          | (rw [if_neg (by omega)]; done)
      · refine r_aload_n dX8_next_49 rfl (by rfl) ?_
        refine gf_X8_9 rfl dX8_next_50 (by first | assumption | rfl) (by rfl) ?_
        refine r_aload_n dX8_next_53 rfl (by rfl) ?_
        refine gf_X8_22 rfl dX8_next_54 (by first | assumption | rfl) (by rfl) ?_
        refine PW.topi (show _ = nI b from xu_s) ?_
        refine r_ialdN dX8_next_57 (by first | assumption | rfl) (by omega) (by decide) ?_
        refine PW.topi (show _ = nI (g b) by unfold atX; rw [xu_n (by decide)]; exact (hT.2.2.2.2 b (by omega)).1) ?_
        refine r_goto (tgt := 62) dX8_next_58 (by decide) ?_
        refine r_iret rfl dX8_next_62 ?_
        have e : skip g len a = b := by
          rw [← hb.2]
          exact skip_e (by omega)
        refine ⟨?_, by rw [e]⟩
        unfold nxV
        rw [e]
        first
          | (rw [if_pos (by omega)]; done)
          | (rw [if_neg (by omega)]; done)
    · refine r_aload_n dX8_next_25 rfl (by rfl) ?_
      refine r_dup dX8_next_26 rfl ?_
      refine gf_X8_22 rfl dX8_next_27 (by first | assumption | rfl) (by rfl) ?_
      refine PW.topi (show _ = nI b from xu_s) ?_
      refine r_iconst (v := nI 1) dX8_next_30 (by decide) ?_
      refine r_iaddN dX8_next_31 ?_
      refine pf_X8_22 rfl dX8_next_32 (by first | assumption | rfl) (by rfl) ?_
      refine r_goto (tgt := 0) dX8_next_35 (by decide) ?_
      exact PW.lc (by rfl) (by unfold atX; rw [xu_xu]) (bh (b + 1) ⟨by omega, by rw [← skip_s (by omega) h22]; exact hb.2⟩ (by omega))
set_option maxHeartbeats 8000000 in
set_option maxRecDepth 20000 in
theorem c_X8_isDigit {w : Int32} {x : XS} : MM mX8_isDigit 0 0 0 [.int w] x (fun v x1 => v = some (.int (bI (digB w))) ∧ x1 = x) NoT := by
  refine MM.of (by decide) (Nat.le_of_ble_eq_true rfl) ?_
  refine r_iload_n dX8_isDigit_0 rfl (by rfl) ?_
  refine r_bipush (v := nI 48) dX8_isDigit_1 (by decide) ?_
  refine r_icmp_lt (tgt := 16) dX8_isDigit_3 (by decide) (fun h3 => ?_) (fun h3 => ?_)
  · refine r_iconst (v := nI 0) dX8_isDigit_16 (by decide) ?_
    refine r_zret rfl (by first | exact bI_01 _ | exact Or.inl rfl | exact Or.inr rfl) dX8_isDigit_17 ?_
    refine ⟨?_, rfl⟩
    unfold digB
    first
      | (rw [decide_eq_false (Int32.not_le.mpr h3)]; rfl)
      | (rw [decide_eq_true (Int32.not_lt.mp h3), decide_eq_false (Int32.not_le.mpr h9)]; rfl)
      | (rw [decide_eq_true (Int32.not_lt.mp h3), decide_eq_true (Int32.not_lt.mp h9)]; rfl)
  · refine r_iload_n dX8_isDigit_6 rfl (by rfl) ?_
    refine r_bipush (v := nI 57) dX8_isDigit_7 (by decide) ?_
    refine r_icmp_gt (tgt := 16) dX8_isDigit_9 (by decide) (fun h9 => ?_) (fun h9 => ?_)
    · refine r_iconst (v := nI 0) dX8_isDigit_16 (by decide) ?_
      refine r_zret rfl (by first | exact bI_01 _ | exact Or.inl rfl | exact Or.inr rfl) dX8_isDigit_17 ?_
      refine ⟨?_, rfl⟩
      unfold digB
      first
        | (rw [decide_eq_false (Int32.not_le.mpr h3)]; rfl)
        | (rw [decide_eq_true (Int32.not_lt.mp h3), decide_eq_false (Int32.not_le.mpr h9)]; rfl)
        | (rw [decide_eq_true (Int32.not_lt.mp h3), decide_eq_true (Int32.not_lt.mp h9)]; rfl)
    · refine r_iconst (v := nI 1) dX8_isDigit_12 (by decide) ?_
      refine r_goto (tgt := 17) dX8_isDigit_13 (by decide) ?_
      refine r_zret rfl (by first | exact bI_01 _ | exact Or.inl rfl | exact Or.inr rfl) dX8_isDigit_17 ?_
      refine ⟨?_, rfl⟩
      unfold digB
      first
        | (rw [decide_eq_false (Int32.not_le.mpr h3)]; rfl)
        | (rw [decide_eq_true (Int32.not_lt.mp h3), decide_eq_false (Int32.not_le.mpr h9)]; rfl)
        | (rw [decide_eq_true (Int32.not_lt.mp h3), decide_eq_true (Int32.not_lt.mp h9)]; rfl)
/-- a sign taken -/
def takB (g : Nat → Nat) (len a : Nat) (c : Int32) : Bool := decide (nxV g len a = c)
def takX (x : XS) (g : Nat → Nat) (len a : Nat) (c : Int32) : XS := if nxV g len a = c then atX x (skip g len a + 1) else failX (atX x (skip g len a)) 1 (skip g len a)
set_option maxHeartbeats 8000000 in
set_option maxRecDepth 20000 in
theorem c_X8_take {g : Nat → Nat} {len a : Nat} {c : Int32} {x : XS} (hT : TP x g len a) : MM mX8_take 1 0 0 [.ref 1, .int c] x (fun v x1 => v = some (.int (bI (takB g len a c))) ∧ x1 = takX x g len a c) NoT := by
  refine MM.of (by decide) (Nat.le_of_ble_eq_true rfl) ?_
  have y1 := lay_1
  have y2 := lay_2
  refine r_aload_n dX8_take_0 rfl (by rfl) ?_
  refine r_callV (c_X8_next hT) mv_X8_next ml_X8_44 ⟨by decide, by decide⟩ dX8_take_1 (by first | assumption | rfl) rfl rfl rfl (Nat.le_of_ble_eq_true rfl) (fun v9 x9 h9 => ?_)
  obtain ⟨rfl, h9⟩ := h9
  refine PW.xeq h9 ?_
  clear h9 x9
  refine r_iload_n dX8_take_4 rfl (by rfl) ?_
  refine r_icmp_eq (tgt := 18) dX8_take_5 (by decide) (fun h5 => ?_) (fun h5 => ?_)
  · refine r_aload_n dX8_take_18 rfl (by rfl) ?_
    refine r_dup dX8_take_19 rfl ?_
    refine gf_X8_22 rfl dX8_take_20 (by first | assumption | rfl) (by rfl) ?_
    refine PW.topi (show _ = nI (skip g len a) from xu_s) ?_
    refine r_iconst (v := nI 1) dX8_take_23 (by decide) ?_
    refine r_iaddN dX8_take_24 ?_
    refine pf_X8_22 rfl dX8_take_25 (by first | assumption | rfl) (by rfl) ?_
    refine r_iconst (v := nI 1) dX8_take_28 (by decide) ?_
    refine r_zret rfl (by first | exact bI_01 _ | exact Or.inl rfl | exact Or.inr rfl) dX8_take_29 ?_
    refine ⟨?_, ?_⟩
    · unfold takB
      rw [decide_eq_true h5]
      rfl
    · unfold takX
      rw [if_pos h5]
      unfold atX
      rw [xu_xu]
  · refine r_aload_n dX8_take_8 rfl (by rfl) ?_
    refine r_iconst (v := nI 1) dX8_take_9 (by decide) ?_
    refine r_aload_n dX8_take_10 rfl (by rfl) ?_
    refine gf_X8_22 rfl dX8_take_11 (by first | assumption | rfl) (by rfl) ?_
    refine PW.topi (show _ = nI (skip g len a) from xu_s) ?_
    refine r_callV c_X8_fail mv_X8_fail ml_X8_40 ⟨by decide, by decide⟩ dX8_take_14 (by first | assumption | rfl) rfl rfl rfl (Nat.le_of_ble_eq_true rfl) (fun v9 x9 h9 => ?_)
    obtain ⟨rfl, h9⟩ := h9
    refine PW.xeq h9 ?_
    clear h9 x9
    refine r_zret rfl (by first | exact bI_01 _ | exact Or.inl rfl | exact Or.inr rfl) dX8_take_17 ?_
    refine ⟨?_, ?_⟩
    · unfold takB
      rw [decide_eq_false h5]
    · unfold takX
      rw [if_neg h5]
def nmB (g : Nat → Nat) (len a : Nat) : Bool := decide (nxV g len a = -1)
def nmX (x : XS) (g : Nat → Nat) (len a : Nat) : XS := if nxV g len a = -1 then atX x (skip g len a) else failX (atX x (skip g len a)) 1 (skip g len a)
set_option maxHeartbeats 8000000 in
set_option maxRecDepth 20000 in
theorem c_X8_nothingMore {g : Nat → Nat} {len a : Nat} {x : XS} (hT : TP x g len a) : MM mX8_nothingMore 1 0 0 [.ref 1] x (fun v x1 => v = some (.int (bI (nmB g len a))) ∧ x1 = nmX x g len a) NoT := by
  refine MM.of (by decide) (Nat.le_of_ble_eq_true rfl) ?_
  have y1 := lay_1
  have y2 := lay_2
  refine r_aload_n dX8_nothingMore_0 rfl (by rfl) ?_
  refine r_callV (c_X8_next hT) mv_X8_next ml_X8_44 ⟨by decide, by decide⟩ dX8_nothingMore_1 (by first | assumption | rfl) rfl rfl rfl (Nat.le_of_ble_eq_true rfl) (fun v9 x9 h9 => ?_)
  obtain ⟨rfl, h9⟩ := h9
  refine PW.xeq h9 ?_
  clear h9 x9
  refine r_iconst (v := -1) dX8_nothingMore_4 (by decide) ?_
  refine r_icmp_eq (tgt := 20) dX8_nothingMore_5 (by decide) (fun h5 => ?_) (fun h5 => ?_)
  · refine r_iconst (v := nI 1) dX8_nothingMore_20 (by decide) ?_
    refine r_goto (tgt := 25) dX8_nothingMore_21 (by decide) ?_
    refine r_zret rfl (by first | exact bI_01 _ | exact Or.inl rfl | exact Or.inr rfl) dX8_nothingMore_25 ?_
    first
      | exact absurd h17 (by decide)
      | (refine ⟨?_, ?_⟩
         · unfold nmB
           first | (rw [decide_eq_false h5]; done) | (rw [decide_eq_true h5]; rfl) | (rw [decide_eq_false h5]; rfl)
         · unfold nmX
           first | rw [if_neg h5] | rw [if_pos h5])
  · refine r_aload_n dX8_nothingMore_8 rfl (by rfl) ?_
    refine r_iconst (v := nI 1) dX8_nothingMore_9 (by decide) ?_
    refine r_aload_n dX8_nothingMore_10 rfl (by rfl) ?_
    refine gf_X8_22 rfl dX8_nothingMore_11 (by first | assumption | rfl) (by rfl) ?_
    refine PW.topi (show _ = nI (skip g len a) from xu_s) ?_
    refine r_callV c_X8_fail mv_X8_fail ml_X8_40 ⟨by decide, by decide⟩ dX8_nothingMore_14 (by first | assumption | rfl) rfl rfl rfl (Nat.le_of_ble_eq_true rfl) (fun v9 x9 h9 => ?_)
    obtain ⟨rfl, h9⟩ := h9
    refine PW.xeq h9 ?_
    clear h9 x9
    refine r_if_eqB (tgt := 24) dX8_nothingMore_17 (by decide) (fun h17 => ?_) (fun h17 => ?_)
    · refine r_iconst (v := nI 0) dX8_nothingMore_24 (by decide) ?_
      refine r_zret rfl (by first | exact bI_01 _ | exact Or.inl rfl | exact Or.inr rfl) dX8_nothingMore_25 ?_
      first
        | exact absurd h17 (by decide)
        | (refine ⟨?_, ?_⟩
           · unfold nmB
             first | (rw [decide_eq_false h5]; done) | (rw [decide_eq_true h5]; rfl) | (rw [decide_eq_false h5]; rfl)
           · unfold nmX
             first | rw [if_neg h5] | rw [if_pos h5])
    · refine r_iconst (v := nI 1) dX8_nothingMore_20 (by decide) ?_
      refine r_goto (tgt := 25) dX8_nothingMore_21 (by decide) ?_
      refine r_zret rfl (by first | exact bI_01 _ | exact Or.inl rfl | exact Or.inr rfl) dX8_nothingMore_25 ?_
      first
        | exact absurd h17 (by decide)
        | (refine ⟨?_, ?_⟩
           · unfold nmB
             first | (rw [decide_eq_false h5]; done) | (rw [decide_eq_true h5]; rfl) | (rw [decide_eq_false h5]; rfl)
           · unfold nmX
             first | rw [if_neg h5] | rw [if_pos h5])
