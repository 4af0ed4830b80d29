/-! HISTORY, ALBUM -/
def IsH (h : Nat) : Prop := h = 55 ∨ h = 79 ∨ h = 97 ∨ h = 115
def hrows (h : Nat) : List Nat := [h + 2, h + 3, h + 4, h + 5, h + 6, h + 7, h + 8, h + 9, h + 10, h + 11, h + 12, h + 13, h + 14, h + 15, h + 16, h + 17]
theorem h_o {h : Nat} (hh : IsH h) : lay h = .inl (2, [some (h + 1), none]) := by rcases hh with rfl | rfl | rfl | rfl <;> rfl
theorem h_1 {h : Nat} (hh : IsH h) : lay (h + 1) = .inr (.inr (2, hrows h)) := by rcases hh with rfl | rfl | rfl | rfl <;> rfl
theorem lt16 {P : Nat → Prop} (h : P 0 ∧ P 1 ∧ P 2 ∧ P 3 ∧ P 4 ∧ P 5 ∧ P 6 ∧ P 7 ∧ P 8 ∧ P 9 ∧ P 10 ∧ P 11 ∧ P 12 ∧ P 13 ∧ P 14 ∧ P 15) {i : Nat} (hi : i < 16) : P i := by
  obtain ⟨h0, h1, h2, h3, h4, h5, h6, h7, h8, h9, h10, h11, h12, h13, h14, h15⟩ := h
  have q : i = 0 ∨ i = 1 ∨ i = 2 ∨ i = 3 ∨ i = 4 ∨ i = 5 ∨ i = 6 ∨ i = 7 ∨ i = 8 ∨ i = 9 ∨ i = 10 ∨ i = 11 ∨ i = 12 ∨ i = 13 ∨ i = 14 ∨ i = 15 := by omega
  rcases q with rfl | rfl | rfl | rfl | rfl | rfl | rfl | rfl | rfl | rfl | rfl | rfl | rfl | rfl | rfl | rfl <;> assumption
theorem h_i {h i : Nat} (hi : i < 16) : (hrows h)[i]? = some (h + 2 + i) := lt16 (P := fun i => (hrows h)[i]? = some (h + 2 + i)) ⟨rfl, rfl, rfl, rfl, rfl, rfl, rfl, rfl, rfl, rfl, rfl, rfl, rfl, rfl, rfl, rfl⟩ hi
theorem h_r {h i : Nat} (hh : IsH h) (hi : i < 16) : lay (h + 2 + i) = .inr (.inl 42) := by
  rcases hh with rfl | rfl | rfl | rfl
  · exact lt16 (P := fun i => lay (55 + 2 + i) = .inr (.inl 42)) ⟨rfl, rfl, rfl, rfl, rfl, rfl, rfl, rfl, rfl, rfl, rfl, rfl, rfl, rfl, rfl, rfl⟩ hi
  · exact lt16 (P := fun i => lay (79 + 2 + i) = .inr (.inl 42)) ⟨rfl, rfl, rfl, rfl, rfl, rfl, rfl, rfl, rfl, rfl, rfl, rfl, rfl, rfl, rfl, rfl⟩ hi
  · exact lt16 (P := fun i => lay (97 + 2 + i) = .inr (.inl 42)) ⟨rfl, rfl, rfl, rfl, rfl, rfl, rfl, rfl, rfl, rfl, rfl, rfl, rfl, rfl, rfl, rfl⟩ hi
  · exact lt16 (P := fun i => lay (115 + 2 + i) = .inr (.inl 42)) ⟨rfl, rfl, rfl, rfl, rfl, rfl, rfl, rfl, rfl, rfl, rfl, rfl, rfl, rfl, rfl, rfl⟩ hi
set_option maxRecDepth 100000 in
theorem ml_X2_20c : Cond.methodLink RX2 20 arraycopyName ∈ WS := ws_t 395 rfl rfl
set_option maxRecDepth 100000 in
theorem ml_X0_27c : Cond.methodLink RX0 27 arraycopyName ∈ WS := ws_t 406 rfl rfl
/-- a row copied whole -/
def cp42 (x : XS) (d s : Nat) : XS := xr x d (va_cpy (x s) (x d) 0 0 42)
def hkeepX (x : XS) (s : Nat) : XS := xu (cp42 x (55 + 2 + s) 44) 55 1 (x 55 1 + nI 1)
def hbackX (x : XS) (s : Nat) : XS := cp42 (xu x 55 1 (x 55 1 - nI 1)) 44 (55 + 2 + s)
def hcpX (x : XS) (hd hs : Nat) : Nat → XS
  | 0 => xu x hd 1 (x hs 1)
  | i + 1 => cp42 (hcpX x hd hs i) (hd + 2 + i) (hs + 2 + i)
theorem hcpX_n {x : XS} {hd hs j : Nat} (h0 : j ≠ hd) : ∀ i, (∀ k, k < i → j ≠ hd + 2 + k) → hcpX x hd hs i j = x j
  | 0, _ => xu_n h0
  | i + 1, h => by
    have ih := hcpX_n (x := x) (hs := hs) h0 i (fun k hk => h k (by omega))
    show cp42 _ _ _ j = _
    unfold cp42
    rw [xr_n (h i (by omega)), ih]
theorem hcpX_1 {x : XS} {hd hs : Nat} : ∀ i, hcpX x hd hs i hd 1 = x hs 1
  | 0 => xu_s
  | i + 1 => by
    show cp42 _ _ _ hd 1 = _
    unfold cp42
    rw [xr_n (by omega), hcpX_1 i]
set_option maxHeartbeats 8000000 in
set_option maxRecDepth 20000 in
theorem c_X2_isFull {h s : Nat} {x : XS} (hH : IsH h) (hs : x h 1 = nI s) (hs16 : s ≤ 16) : MM mX2_isFull 0 0 0 [.ref h] x (fun v x1 => v = some (.int (bI (decide (16 ≤ s)))) ∧ x1 = x) NoT := by
  refine MM.of (by decide) (Nat.le_of_ble_eq_true rfl) ?_
  have a0 := h_o hH
  have a1 := h_1 hH
  refine r_aload_n dX2_isFull_0 rfl (by rfl) ?_
  refine gf_X2_16 rfl dX2_isFull_1 (by first | assumption | rfl) (by rfl) ?_
  refine PW.topi hs ?_
  refine r_bipush (v := nI 16) dX2_isFull_4 (by decide) ?_
  refine r_icmp_ltN (tgt := 13) dX2_isFull_6 (by decide) (by omega) (by omega) (fun h6 => ?_) (fun h6 => ?_)
  · refine r_iconst (v := nI 0) dX2_isFull_13 (by decide) ?_
    refine r_zret rfl (by first | exact bI_01 _ | exact Or.inl rfl | exact Or.inr rfl) dX2_isFull_14 ?_
    refine ⟨?_, rfl⟩
    first | (rw [decide_eq_true h6]; rfl) | (rw [decide_eq_false (by omega)]; rfl)
  · refine r_iconst (v := nI 1) dX2_isFull_9 (by decide) ?_
    refine r_goto (tgt := 14) dX2_isFull_10 (by decide) ?_
    refine r_zret rfl (by first | exact bI_01 _ | exact Or.inl rfl | exact Or.inr rfl) dX2_isFull_14 ?_
    refine ⟨?_, rfl⟩
    first | (rw [decide_eq_true h6]; rfl) | (rw [decide_eq_false (by omega)]; rfl)
set_option maxHeartbeats 8000000 in
set_option maxRecDepth 20000 in
theorem c_X2_keep {s : Nat} {x : XS} (hs : x 55 1 = nI s) (hs16 : s < 16) : MM mX2_keep 1 0 0 [.ref 55, .ref 44] x (fun v x1 => v = none ∧ x1 = hkeepX x s) NoT := by
  refine MM.of (by decide) (Nat.le_of_ble_eq_true rfl) ?_
  have hH : IsH 55 := Or.inl rfl
  have a0 := h_o hH
  have a1 := h_1 hH
  have y44 := lay_44
  refine r_aload_n dX2_keep_0 rfl (by rfl) ?_
  refine gf_X2_16 rfl dX2_keep_1 (by first | assumption | rfl) (by rfl) ?_
  refine PW.topi hs ?_
  refine r_bipush (v := nI 16) dX2_keep_4 (by decide) ?_
  refine r_icmp_geN (tgt := 36) dX2_keep_6 (by decide) (by omega) (by omega) (fun h6 => ?_) (fun h6 => ?_)
  · refine r_ret rfl dX2_keep_36 ?_
    first | (exfalso; omega) | (refine ⟨rfl, ?_⟩; unfold hkeepX cp42; rw [show xr x (55 + 2 + s) _ 55 1 = x 55 1 by rw [xr_n (by omega)]])
  · refine r_aload_n dX2_keep_9 rfl (by rfl) ?_
    refine r_iconst (v := nI 0) dX2_keep_10 (by decide) ?_
    refine r_aload_n dX2_keep_11 rfl (by rfl) ?_
    refine gf_X2_13 rfl dX2_keep_12 (by first | assumption | rfl) (by rfl) ?_
    refine r_aload_n dX2_keep_15 rfl (by rfl) ?_
    refine gf_X2_16 rfl dX2_keep_16 (by first | assumption | rfl) (by rfl) ?_
    refine PW.topi hs ?_
    refine r_aaldIN dX2_keep_19 a1 (h_i hs16) (by show (16 : Nat) < 2 ^ 31; decide) ?_
    refine r_iconst (v := nI 0) dX2_keep_20 (by decide) ?_
    refine r_bipush (v := nI 42) dX2_keep_21 (by decide) ?_
    refine r_copy ml_X2_20c wsn_copy wss_copy wsi_sys dX2_keep_23 (y44) (h_r hH hs16) (by decide) (by decide) (by decide) (by decide) (by decide) (by decide) (by decide) (Nat.le_of_ble_eq_true rfl) ?_
    refine r_aload_n dX2_keep_26 rfl (by rfl) ?_
    refine r_dup dX2_keep_27 rfl ?_
    refine gf_X2_16 rfl dX2_keep_28 (by first | assumption | rfl) (by rfl) ?_
    refine r_iconst (v := nI 1) dX2_keep_31 (by decide) ?_
    refine r_iadd dX2_keep_32 ?_
    refine pf_X2_16 rfl dX2_keep_33 (by first | assumption | rfl) (by rfl) ?_
    refine r_ret rfl dX2_keep_36 ?_
    first | (exfalso; omega) | (refine ⟨rfl, ?_⟩; unfold hkeepX cp42; rw [show xr x (55 + 2 + s) _ 55 1 = x 55 1 by rw [xr_n (by omega)]])
set_option maxHeartbeats 8000000 in
set_option maxRecDepth 20000 in
theorem c_X2_takeBack {s : Nat} {x : XS} (hs : x 55 1 = nI (s + 1)) (hs16 : s < 16) : MM mX2_takeBack 1 0 0 [.ref 55, .ref 44] x (fun v x1 => v = none ∧ x1 = hbackX x s) NoT := by
  refine MM.of (by decide) (Nat.le_of_ble_eq_true rfl) ?_
  have hH : IsH 55 := Or.inl rfl
  have a0 := h_o hH
  have a1 := h_1 hH
  have y44 := lay_44
  have e1 : x 55 1 - nI 1 = nI s := by rw [hs]; exact nI_pred s
  refine r_aload_n dX2_takeBack_0 rfl (by rfl) ?_
  refine gf_X2_16 rfl dX2_takeBack_1 (by first | assumption | rfl) (by rfl) ?_
  refine r_if_le (tgt := 34) dX2_takeBack_4 (by decide) (fun h4 => ?_) (fun h4 => ?_)
  · refine r_ret rfl dX2_takeBack_34 ?_
    first | exact ⟨rfl, rfl⟩ | exact absurd (hs ▸ h4) (nI_nle (by omega) (by omega))
  · refine r_aload_n dX2_takeBack_7 rfl (by rfl) ?_
    refine r_dup dX2_takeBack_8 rfl ?_
    refine gf_X2_16 rfl dX2_takeBack_9 (by first | assumption | rfl) (by rfl) ?_
    refine r_iconst (v := nI 1) dX2_takeBack_12 (by decide) ?_
    refine r_isub dX2_takeBack_13 ?_
    refine pf_X2_16 rfl dX2_takeBack_14 (by first | assumption | rfl) (by rfl) ?_
    refine r_aload_n dX2_takeBack_17 rfl (by rfl) ?_
    refine gf_X2_13 rfl dX2_takeBack_18 (by first | assumption | rfl) (by rfl) ?_
    refine r_aload_n dX2_takeBack_21 rfl (by rfl) ?_
    refine gf_X2_16 rfl dX2_takeBack_22 (by first | assumption | rfl) (by rfl) ?_
    refine PW.topi (show xu x 55 1 (x 55 1 - nI 1) 55 1 = nI s by rw [xu_s]; exact e1) ?_
    refine r_aaldIN dX2_takeBack_25 a1 (h_i hs16) (by show (16 : Nat) < 2 ^ 31; decide) ?_
    refine r_iconst (v := nI 0) dX2_takeBack_26 (by decide) ?_
    refine r_aload_n dX2_takeBack_27 rfl (by rfl) ?_
    refine r_iconst (v := nI 0) dX2_takeBack_28 (by decide) ?_
    refine r_bipush (v := nI 42) dX2_takeBack_29 (by decide) ?_
    refine r_copy ml_X2_20c wsn_copy wss_copy wsi_sys dX2_takeBack_31 (h_r hH hs16) (y44) (by decide) (by decide) (by decide) (by decide) (by decide) (by decide) (by decide) (Nat.le_of_ble_eq_true rfl) ?_
    refine r_ret rfl dX2_takeBack_34 ?_
    first | exact ⟨rfl, rfl⟩ | exact absurd (hs ▸ h4) (nI_nle (by omega) (by omega))
set_option maxHeartbeats 8000000 in
set_option maxRecDepth 20000 in
theorem c_X2_copy {hd hs s : Nat} {x : XS} (hD : IsH hd) (hS : IsH hs) (hne : hd + 18 ≤ hs ∨ hs + 18 ≤ hd) (hz : x hs 1 = nI s) (hs16 : s ≤ 16) : MM mX2_copy 1 0 0 [.ref hd, .ref hs] x (fun v x1 => v = none ∧ x1 = hcpX x hd hs s) NoT := by
  refine MM.of (by decide) (Nat.le_of_ble_eq_true rfl) ?_
  have d0 := h_o hD
  have d1 := h_1 hD
  have s0 := h_o hS
  have s1 := h_1 hS
  refine r_aload_n dX2_copy_0 rfl (by rfl) ?_
  refine r_aload_n dX2_copy_1 rfl (by rfl) ?_
  refine gf_X2_16 rfl dX2_copy_2 (by first | assumption | rfl) (by rfl) ?_
  refine pf_X2_16 rfl dX2_copy_5 (by first | assumption | rfl) (by rfl) ?_
  refine r_iconst (v := nI 0) dX2_copy_8 (by decide) ?_
  refine r_istore_n dX2_copy_9 rfl (by decide) ?_
  refine PW.loop (σ := Nat) (fun i => s - i) (fun i => i ≤ s) (fun i => [(0, .ref hd), (1, .ref hs), (2, .int (nI i))]) (fun i => hcpX x hd hs i) (0) (Nat.zero_le _) rfl rfl (fun i hi ih => ?_)
  refine r_iload_n dX2_copy_10 rfl (by rfl) ?_
  refine r_aload_n dX2_copy_11 rfl (by rfl) ?_
  refine gf_X2_16 rfl dX2_copy_12 (by first | assumption | rfl) (by rfl) ?_
  refine PW.topi (show hcpX x hd hs i hd 1 = nI s by rw [hcpX_1]; exact hz) ?_
  refine r_icmp_geN (tgt := 43) dX2_copy_15 (by decide) (by omega) (by omega) (fun h15 => ?_) (fun h15 => ?_)
  · refine r_ret rfl dX2_copy_43 ?_
    have e : i = s := by omega
    subst e
    exact ⟨rfl, rfl⟩
  · refine r_aload_n dX2_copy_18 rfl (by rfl) ?_
    refine gf_X2_13 rfl dX2_copy_19 (by first | assumption | rfl) (by rfl) ?_
    refine r_iload_n dX2_copy_22 rfl (by rfl) ?_
    refine r_aaldIN dX2_copy_23 s1 (h_i (by omega)) (by show (16 : Nat) < 2 ^ 31; decide) ?_
    refine r_iconst (v := nI 0) dX2_copy_24 (by decide) ?_
    refine r_aload_n dX2_copy_25 rfl (by rfl) ?_
    refine gf_X2_13 rfl dX2_copy_26 (by first | assumption | rfl) (by rfl) ?_
    refine r_iload_n dX2_copy_29 rfl (by rfl) ?_
    refine r_aaldIN dX2_copy_30 d1 (h_i (by omega)) (by show (16 : Nat) < 2 ^ 31; decide) ?_
    refine r_iconst (v := nI 0) dX2_copy_31 (by decide) ?_
    refine r_bipush (v := nI 42) dX2_copy_32 (by decide) ?_
    refine r_copy ml_X2_20c wsn_copy wss_copy wsi_sys dX2_copy_34 (h_r hS (by omega)) (h_r hD (by omega)) (by decide) (by decide) (by decide) (by decide) (by decide) (by decide) (by decide) (Nat.le_of_ble_eq_true rfl) ?_
    refine r_iincN dX2_copy_37 (by rfl) (by decide) ?_
    refine r_goto (tgt := 10) dX2_copy_40 (by decide) ?_
    exact PW.lc (by rfl) rfl (ih (i + 1) (by omega) (by omega))
/-- the row and the history of image i -/
def alr (i : Nat) : Nat := 75 + i
def alh (i : Nat) : Nat := 79 + 18 * i
theorem alh_H {i : Nat} (h : i < 3) : IsH (alh i) := by
  match i, h with
  | 0, _ => exact Or.inr (Or.inl rfl)
  | 1, _ => exact Or.inr (Or.inr (Or.inl rfl))
  | 2, _ => exact Or.inr (Or.inr (Or.inr rfl))
theorem al_r {i : Nat} (h : i < 3) : ([75, 76, 77] : List Nat)[i]? = some (alr i) := by
  match i, h with
  | 0, _ => rfl
  | 1, _ => rfl
  | 2, _ => rfl
theorem al_h {i : Nat} (h : i < 3) : ([79, 97, 115] : List Nat)[i]? = some (alh i) := by
  match i, h with
  | 0, _ => rfl
  | 1, _ => rfl
  | 2, _ => rfl
theorem alr_l {i : Nat} (h : i < 3) : lay (alr i) = .inr (.inl 42) := by
  match i, h with
  | 0, _ => rfl
  | 1, _ => rfl
  | 2, _ => rfl
def akeepX (x : XS) (i s : Nat) : XS := xu (hcpX (cp42 x (alr i) 44) (alh i) 55 s) 73 2 (x 73 2 + nI 1)
def abackX (x : XS) (i s : Nat) : XS := hcpX (cp42 (xu x 73 2 (x 73 2 - nI 1)) 44 (alr i)) 55 (alh i) s
set_option maxHeartbeats 8000000 in
set_option maxRecDepth 20000 in
theorem c_X0_keep {i s : Nat} {x : XS} (hi : x 73 2 = nI i) (hi3 : i ≤ 3) (hs : x 55 1 = nI s) (hs16 : s ≤ 16) : MM mX0_keep 2 0 0 [.ref 73, .ref 44, .ref 55] x (fun v x1 => v = some (.int (bI (decide (i < 3)))) ∧ x1 = if i < 3 then akeepX x i s else x) NoT := by
  refine MM.of (by decide) (Nat.le_of_ble_eq_true rfl) ?_
  have y73 := lay_73
  have y74 := lay_74
  have y78 := lay_78
  have y44 := lay_44
  refine r_aload_n dX0_keep_0 rfl (by rfl) ?_
  refine gf_X0_23 rfl dX0_keep_1 (by first | assumption | rfl) (by rfl) ?_
  refine PW.topi hi ?_
  refine r_iconst (v := nI 3) dX0_keep_4 (by decide) ?_
  refine r_icmp_ltN (tgt := 10) dX0_keep_5 (by decide) (by omega) (by omega) (fun h5 => ?_) (fun h5 => ?_)
  · refine r_aload_n dX0_keep_10 rfl (by rfl) ?_
    refine r_iconst (v := nI 0) dX0_keep_11 (by decide) ?_
    refine r_aload_n dX0_keep_12 rfl (by rfl) ?_
    refine gf_X0_13 rfl dX0_keep_13 (by first | assumption | rfl) (by rfl) ?_
    refine r_aload_n dX0_keep_16 rfl (by rfl) ?_
    refine gf_X0_23 rfl dX0_keep_17 (by first | assumption | rfl) (by rfl) ?_
    refine PW.topi hi ?_
    refine r_aaldIN dX0_keep_20 y74 (al_r h5) (by decide) ?_
    refine r_iconst (v := nI 0) dX0_keep_21 (by decide) ?_
    refine r_bipush (v := nI 42) dX0_keep_22 (by decide) ?_
    refine r_copy ml_X0_27c wsn_copy wss_copy wsi_sys dX0_keep_24 (y44) (alr_l h5) (by decide) (by decide) (by decide) (by decide) (by decide) (by decide) (by decide) (Nat.le_of_ble_eq_true rfl) ?_
    refine r_aload_n dX0_keep_27 rfl (by rfl) ?_
    refine gf_X0_19 rfl dX0_keep_28 (by first | assumption | rfl) (by rfl) ?_
    refine r_aload_n dX0_keep_31 rfl (by rfl) ?_
    refine gf_X0_23 rfl dX0_keep_32 (by first | assumption | rfl) (by rfl) ?_
    refine PW.topi (show _ = nI i by rw [xr_n (by unfold alr; omega)]; exact hi) ?_
    refine r_aaldHN dX0_keep_35 y78 (al_h h5) (by decide) ?_
    refine r_aload_n dX0_keep_36 rfl (by rfl) ?_
    refine r_callV (c_X2_copy (s := s) (alh_H h5) (Or.inl rfl) (by unfold alh; omega) (by rw [xr_n (by unfold alr; omega)]; exact hs) hs16) mv_X2_copy ml_X0_33 ⟨by decide, by decide⟩ dX0_keep_37 (h_o (alh_H h5)) rfl rfl rfl (Nat.le_of_ble_eq_true rfl) (fun v9 x9 h9 => ?_)
    obtain ⟨rfl, h9⟩ := h9
    refine PW.xeq h9 ?_
    clear h9 x9
    refine r_aload_n dX0_keep_40 rfl (by rfl) ?_
    refine r_dup dX0_keep_41 rfl ?_
    refine gf_X0_23 rfl dX0_keep_42 (by first | assumption | rfl) (by rfl) ?_
    refine r_iconst (v := nI 1) dX0_keep_45 (by decide) ?_
    refine r_iadd dX0_keep_46 ?_
    refine pf_X0_23 rfl dX0_keep_47 (by first | assumption | rfl) (by rfl) ?_
    refine r_iconst (v := nI 1) dX0_keep_50 (by decide) ?_
    refine r_zret rfl (by first | exact bI_01 _ | exact Or.inl rfl | exact Or.inr rfl) dX0_keep_51 ?_
    refine ⟨by rw [decide_eq_true h5]; rfl, ?_⟩
    rw [if_pos h5]
    unfold akeepX
    have e9 : hcpX (cp42 x (alr i) 44) (alh i) 55 s 73 2 = x 73 2 := by
      rw [hcpX_n (by unfold alh; omega) s (by intro k hk; unfold alh; omega)]
      unfold cp42
      rw [xr_n (by unfold alr; omega)]
    show xu (hcpX (cp42 x (alr i) 44) (alh i) 55 s) 73 2 (hcpX (cp42 x (alr i) 44) (alh i) 55 s 73 2 + nI 1) = _
    rw [e9]
  · refine r_iconst (v := nI 0) dX0_keep_8 (by decide) ?_
    refine r_zret rfl (by first | exact bI_01 _ | exact Or.inl rfl | exact Or.inr rfl) dX0_keep_9 ?_
    exact ⟨by rw [decide_eq_false (by omega)]; rfl, by rw [if_neg (by omega)]⟩
set_option maxHeartbeats 8000000 in
set_option maxRecDepth 20000 in
theorem c_X0_takeBack {i s : Nat} {x : XS} (hi : x 73 2 = nI i) (hi3 : i ≤ 3) (hs : 0 < i → x (alh (i - 1)) 1 = nI s) (hs16 : s ≤ 16) : MM mX0_takeBack 2 0 0 [.ref 73, .ref 44, .ref 55] x (fun v x1 => v = some (.int (bI (decide (0 < i)))) ∧ x1 = if 0 < i then abackX x (i - 1) s else x) NoT := by
  refine MM.of (by decide) (Nat.le_of_ble_eq_true rfl) ?_
  have y73 := lay_73
  have y74 := lay_74
  have y78 := lay_78
  have y44 := lay_44
  refine r_aload_n dX0_takeBack_0 rfl (by rfl) ?_
  refine gf_X0_23 rfl dX0_takeBack_1 (by first | assumption | rfl) (by rfl) ?_
  refine PW.topi hi ?_
  refine r_if_gt (tgt := 9) dX0_takeBack_4 (by decide) (fun h4 => ?_) (fun h4 => ?_)
  · have h4 : 0 < i := by
      rcases Nat.eq_zero_or_pos i with z | z
      · subst z; exact absurd h4 (by decide +kernel)
      · exact z
    have e1 : x 73 2 - nI 1 = nI (i - 1) := by rw [hi]; exact pk_sub h4
    refine r_aload_n dX0_takeBack_9 rfl (by rfl) ?_
    refine r_dup dX0_takeBack_10 rfl ?_
    refine gf_X0_23 rfl dX0_takeBack_11 (by first | assumption | rfl) (by rfl) ?_
    refine r_iconst (v := nI 1) dX0_takeBack_14 (by decide) ?_
    refine r_isub dX0_takeBack_15 ?_
    refine pf_X0_23 rfl dX0_takeBack_16 (by first | assumption | rfl) (by rfl) ?_
    refine r_aload_n dX0_takeBack_19 rfl (by rfl) ?_
    refine gf_X0_13 rfl dX0_takeBack_20 (by first | assumption | rfl) (by rfl) ?_
    refine r_aload_n dX0_takeBack_23 rfl (by rfl) ?_
    refine gf_X0_23 rfl dX0_takeBack_24 (by first | assumption | rfl) (by rfl) ?_
    refine PW.topi (show xu x 73 2 (x 73 2 - nI 1) 73 2 = nI (i - 1) by rw [xu_s]; exact e1) ?_
    refine r_aaldIN dX0_takeBack_27 y74 (al_r (by omega)) (by decide) ?_
    refine r_iconst (v := nI 0) dX0_takeBack_28 (by decide) ?_
    refine r_aload_n dX0_takeBack_29 rfl (by rfl) ?_
    refine r_iconst (v := nI 0) dX0_takeBack_30 (by decide) ?_
    refine r_bipush (v := nI 42) dX0_takeBack_31 (by decide) ?_
    refine r_copy ml_X0_27c wsn_copy wss_copy wsi_sys dX0_takeBack_33 (alr_l (by omega)) (y44) (by decide) (by decide) (by decide) (by decide) (by decide) (by decide) (by decide) (Nat.le_of_ble_eq_true rfl) ?_
    refine r_aload_n dX0_takeBack_36 rfl (by rfl) ?_
    refine r_aload_n dX0_takeBack_37 rfl (by rfl) ?_
    refine gf_X0_19 rfl dX0_takeBack_38 (by first | assumption | rfl) (by rfl) ?_
    refine r_aload_n dX0_takeBack_41 rfl (by rfl) ?_
    refine gf_X0_23 rfl dX0_takeBack_42 (by first | assumption | rfl) (by rfl) ?_
    refine PW.topi (show _ = nI (i - 1) by rw [xr_n (by decide), xu_s]; exact e1) ?_
    refine r_aaldHN dX0_takeBack_45 y78 (al_h (by omega)) (by decide) ?_
    refine r_callV (c_X2_copy (s := s) (Or.inl rfl) (alh_H (by omega)) (by unfold alh; omega) (by rw [xr_n (by unfold alh; omega), xu_n (by unfold alh; omega)]; exact hs h4) hs16) mv_X2_copy ml_X0_33 ⟨by decide, by decide⟩ dX0_takeBack_46 lay_55 rfl rfl rfl (Nat.le_of_ble_eq_true rfl) (fun v9 x9 h9 => ?_)
    obtain ⟨rfl, h9⟩ := h9
    refine PW.xeq h9 ?_
    clear h9 x9
    refine r_iconst (v := nI 1) dX0_takeBack_49 (by decide) ?_
    refine r_zret rfl (by first | exact bI_01 _ | exact Or.inl rfl | exact Or.inr rfl) dX0_takeBack_50 ?_
    exact ⟨by rw [decide_eq_true h4]; rfl, by rw [if_pos h4]; rfl⟩
  · have h4 : i = 0 := by
      rcases Nat.eq_zero_or_pos i with z | z
      · exact z
      · exact absurd (Int32.not_le.mp (nI_nle z (by omega))) h4
    refine r_iconst (v := nI 0) dX0_takeBack_7 (by decide) ?_
    refine r_zret rfl (Or.inl rfl) dX0_takeBack_8 ?_
    exact ⟨by rw [decide_eq_false (by omega)]; rfl, by rw [if_neg (by omega)]⟩
