/-! LAW: codes taken; HOUSE: copy, clear -/
section Stat
variable {M : MD} {R : Room} {mc ms : Nat} {Post : Option Value → XS → Prop} {PT : String → XS → Prop} {pc : Nat} {L : List (Nat × Value)} {st : List Value} {x : XS}
theorem r_getsL {idx : Nat} (hw : Cond.fieldLink M.1.cls idx "FirstAsleep$Law" "LOUD_WITHOUT" "[I" ∈ WS) (hd : decode M.2.1 pc = .ok (.getstatic idx, 3)) (k : PW M R mc ms Post PT (pc + 3) L (.ref 2000 :: st) x) : PW M R mc ms Post PT pc L st x := by
  intro p l e s m args below meth c G H locs ls C hH hS hL
  exact va_gets C.1 C.2.1 C.2.2.2.2.2.2.2.2.2.1.2.2.2.1 hS C.2.2.2.1 (C.2.2.2.2.1 _ hw) (fun _ h => h) hd (k p l e s m args below meth c G H locs ls C hH hS hL)
theorem r_getsF {idx : Nat} (hw : Cond.fieldLink M.1.cls idx "FirstAsleep$Law" "FALLS_WITHOUT" "[I" ∈ WS) (hd : decode M.2.1 pc = .ok (.getstatic idx, 3)) (k : PW M R mc ms Post PT (pc + 3) L (.ref 2001 :: st) x) : PW M R mc ms Post PT pc L st x := by
  intro p l e s m args below meth c G H locs ls C hH hS hL
  exact va_gets C.1 C.2.1 C.2.2.2.2.2.2.2.2.2.1.2.2.2.2.2.1 hS C.2.2.2.1 (C.2.2.2.2.1 _ hw) (fun _ h => h) hd (k p l e s m args below meth c G H locs ls C hH hS hL)
/-- a static row: its number, its length, its contents -/
def IsT (t N : Nat) (g : Nat → Int32) : Prop := (t = 2000 ∧ N = 7 ∧ g = fun j => loudW.getD j 0) ∨ (t = 2001 ∧ N = 5 ∧ g = fun j => fallsW.getD j 0)
theorem IsT.at {t N : Nat} {g : Nat → Int32} (h : IsT t N g) {G : GG} {A : Nat → Prop} {U : State} {H : Heap} (hX : Ext G A U H) : va_T .int (gA G t) N (fun j => .int (g j)) A U H := by
  rcases h with ⟨rfl, rfl, rfl⟩ | ⟨rfl, rfl, rfl⟩
  · exact hX.2.2.2.2.1
  · exact hX.2.2.2.2.2.2.1
theorem r_alenT {t N : Nat} {g : Nat → Int32} (hT : IsT t N g) (hd : decode M.2.1 pc = .ok (.arraylength, 1)) (k : PW M R mc ms Post PT (pc + 1) L (.int (nI N) :: st) x) : PW M R mc ms Post PT pc L (.ref t :: st) x := by
  intro p l e s m args below meth c G H locs ls C hH hS hL
  exact va_tlen C.1 C.2.1 (hT.at C.2.2.2.2.2.2.2.2.2.1) hS rfl hd (k p l e s m args below meth c G H locs ls C hH hS hL)
theorem r_ialdT {t N j : Nat} {g : Nat → Int32} (hT : IsT t N g) (hd : decode M.2.1 pc = .ok (.iaload, 1)) (hj : j < N) (hN : N < 2 ^ 31) (k : PW M R mc ms Post PT (pc + 1) L (.int (g j) :: st) x) : PW M R mc ms Post PT pc L (.int (nI j) :: .ref t :: st) x := by
  intro p l e s m args below meth c G H locs ls C hH hS hL
  exact va_ti C.1 C.2.1 (hT.at C.2.2.2.2.2.2.2.2.2.1) hS (vp_in_nI hj hN) (by show Value.int (g _) = .int (g j); rw [nI_clamp (by omega)]) hd (k p l e s m args below meth c G H locs ls C hH hS hL)
end Stat
theorem imin_N {a b : Nat} (ha : a < 2 ^ 31) (hb : b < 2 ^ 31) : imin (nI a) (nI b) = nI (min a b) := by
  unfold imin
  by_cases h : b < a
  · rw [if_pos ((nI_ltI hb ha).mpr h), show min a b = b by omega]
  · rw [if_neg (fun q => h ((nI_ltI hb ha).mp q)), show min a b = a by omega]
theorem imax_N {a b : Nat} (ha : a < 2 ^ 31) (hb : b < 2 ^ 31) : imax (nI a) (nI b) = nI (max a b) := by
  unfold imax
  by_cases h : a < b
  · rw [if_pos ((nI_ltI ha hb).mpr h), show max a b = b by omega]
  · rw [if_neg (fun q => h ((nI_ltI ha hb).mp q)), show max a b = a by omega]
/-- a law takes a code -/
def tkX (x : XS) (c0 : Nat) (g : Nat → Int32) (s : Nat) : XS := xr (xu x c0 1 (nI s)) (c0 + 1) (cpR (x (c0 + 1)) g s)
set_option maxHeartbeats 8000000 in
set_option maxRecDepth 20000 in
theorem c_X5_takeCode {c0 s : Nat} {x : XS} (hL : IsL c0) (h30 : c0 < 30) (hs : s ≤ 150) : MM mX5_takeCode 1 0 0 [.ref c0, .ref 31, .int (nI s)] x (fun v x1 => v = none ∧ x1 = tkX x c0 (x 31) s) NoT := by
  refine MM.of (by decide) (Nat.le_of_ble_eq_true rfl) ?_
  have l0 := l_o hL
  have l1 := l_1 hL
  have y31 := lay_31
  refine r_aload_n dX5_takeCode_0 rfl (by rfl) ?_
  refine r_iload_n dX5_takeCode_1 rfl (by rfl) ?_
  refine r_aload_n dX5_takeCode_2 rfl (by rfl) ?_
  refine r_alen dX5_takeCode_3 (by first | assumption | rfl) (by decide) rfl ?_
  refine r_callS c_min ms_J9_min_7cf53 ml_X5_32 ⟨by decide, by decide⟩ dX5_takeCode_4 rfl (Nat.le_of_ble_eq_true rfl) (fun v9 x9 h9 => ?_)
  obtain ⟨rfl, h9⟩ := h9
  refine PW.xeq h9 ?_
  clear h9 x9
  refine r_aload_n dX5_takeCode_7 rfl (by rfl) ?_
  refine gf_X5_9 rfl dX5_takeCode_8 (by first | assumption | rfl) (by rfl) ?_
  refine r_alen dX5_takeCode_11 (by first | assumption | rfl) (by decide) rfl ?_
  refine r_callS c_min ms_J9_min_7cf53 ml_X5_32 ⟨by decide, by decide⟩ dX5_takeCode_12 rfl (Nat.le_of_ble_eq_true rfl) (fun v9 x9 h9 => ?_)
  obtain ⟨rfl, h9⟩ := h9
  refine PW.xeq h9 ?_
  clear h9 x9
  refine PW.topi (show _ = nI s by rw [imin_N (by omega) (by omega), imin_N (by omega) (by omega)]; congr 1; omega) ?_
  refine pf_X5_15 rfl dX5_takeCode_15 (by first | assumption | rfl) (by rfl) ?_
  refine r_iconst (v := nI 0) dX5_takeCode_18 (by decide) ?_
  refine r_istore_n dX5_takeCode_19 rfl (by decide) ?_
  refine PW.loop (σ := Nat) (fun i => s - i) (fun i => i ≤ s) (fun i => [(0, .ref c0), (1, .ref 31), (3, .int (nI i))]) (fun i => xr (xu x c0 1 (nI s)) (c0 + 1) (cpR (x (c0 + 1)) (x 31) i)) (0) (Nat.zero_le _) rfl (by show _ = xr (xu x c0 1 (nI s)) (c0 + 1) (x (c0 + 1)); have e9 := xr_id (xu x c0 1 (nI s)) (c0 + 1); rw [xu_n (by omega)] at e9; exact e9.symm) (fun i hi ih => ?_)
  refine r_iload_n dX5_takeCode_20 rfl (by rfl) ?_
  refine r_aload_n dX5_takeCode_21 rfl (by rfl) ?_
  refine gf_X5_15 rfl dX5_takeCode_22 (by first | assumption | rfl) (by rfl) ?_
  refine PW.topi (show xr (xu x c0 1 (nI s)) (c0 + 1) (cpR (x (c0 + 1)) (x 31) i) c0 1 = nI s by rw [xr_n (by omega), xu_s]) ?_
  refine r_icmp_geN (tgt := 43) dX5_takeCode_25 (by decide) (by omega) (by omega) (fun h25 => ?_) (fun h25 => ?_)
  · refine r_ret rfl dX5_takeCode_43 ?_
    have e : i = s := by omega
    subst e
    exact ⟨rfl, rfl⟩
  · refine r_aload_n dX5_takeCode_28 rfl (by rfl) ?_
    refine gf_X5_9 rfl dX5_takeCode_29 (by first | assumption | rfl) (by rfl) ?_
    refine r_iload_n dX5_takeCode_32 rfl (by rfl) ?_
    refine r_aload_n dX5_takeCode_33 rfl (by rfl) ?_
    refine r_iload_n dX5_takeCode_34 rfl (by rfl) ?_
    refine r_ialdN dX5_takeCode_35 (by first | assumption | rfl) (by omega) (by decide) ?_
    refine r_iastN dX5_takeCode_36 (by first | assumption | rfl) (by omega) (by decide) ?_
    refine r_iincN dX5_takeCode_37 (by rfl) (by decide) ?_
    refine r_goto (tgt := 20) dX5_takeCode_40 (by decide) ?_
    exact PW.lc (by rfl) (by rw [xu_xr, xr_n (by omega), xu_n (by omega)]; rfl) (ih (i + 1) (by omega) (by omega))
set_option maxHeartbeats 8000000 in
set_option maxRecDepth 20000 in
theorem c_X5_takeCodeT {c0 s t : Nat} {g : Nat → Int32} {x : XS} (hL : IsL c0) (hT : IsT t s g) (hs : s ≤ 150) : MM mX5_takeCode 1 0 0 [.ref c0, .ref t, .int (nI s)] x (fun v x1 => v = none ∧ x1 = tkX x c0 g s) NoT := by
  refine MM.of (by decide) (Nat.le_of_ble_eq_true rfl) ?_
  have l0 := l_o hL
  have l1 := l_1 hL
  refine r_aload_n dX5_takeCode_0 rfl (by rfl) ?_
  refine r_iload_n dX5_takeCode_1 rfl (by rfl) ?_
  refine r_aload_n dX5_takeCode_2 rfl (by rfl) ?_
  refine r_alenT hT dX5_takeCode_3 ?_
  refine r_callS c_min ms_J9_min_7cf53 ml_X5_32 ⟨by decide, by decide⟩ dX5_takeCode_4 rfl (Nat.le_of_ble_eq_true rfl) (fun v9 x9 h9 => ?_)
  obtain ⟨rfl, h9⟩ := h9
  refine PW.xeq h9 ?_
  clear h9 x9
  refine r_aload_n dX5_takeCode_7 rfl (by rfl) ?_
  refine gf_X5_9 rfl dX5_takeCode_8 (by first | assumption | rfl) (by rfl) ?_
  refine r_alen dX5_takeCode_11 (by first | assumption | rfl) (by decide) rfl ?_
  refine r_callS c_min ms_J9_min_7cf53 ml_X5_32 ⟨by decide, by decide⟩ dX5_takeCode_12 rfl (Nat.le_of_ble_eq_true rfl) (fun v9 x9 h9 => ?_)
  obtain ⟨rfl, h9⟩ := h9
  refine PW.xeq h9 ?_
  clear h9 x9
  refine PW.topi (show _ = nI s by rw [imin_N (by omega) (by omega), imin_N (by omega) (by omega)]; congr 1; omega) ?_
  refine pf_X5_15 rfl dX5_takeCode_15 (by first | assumption | rfl) (by rfl) ?_
  refine r_iconst (v := nI 0) dX5_takeCode_18 (by decide) ?_
  refine r_istore_n dX5_takeCode_19 rfl (by decide) ?_
  refine PW.loop (σ := Nat) (fun i => s - i) (fun i => i ≤ s) (fun i => [(0, .ref c0), (1, .ref t), (3, .int (nI i))]) (fun i => xr (xu x c0 1 (nI s)) (c0 + 1) (cpR (x (c0 + 1)) g i)) (0) (Nat.zero_le _) rfl (by show _ = xr (xu x c0 1 (nI s)) (c0 + 1) (x (c0 + 1)); have e9 := xr_id (xu x c0 1 (nI s)) (c0 + 1); rw [xu_n (by omega)] at e9; exact e9.symm) (fun i hi ih => ?_)
  refine r_iload_n dX5_takeCode_20 rfl (by rfl) ?_
  refine r_aload_n dX5_takeCode_21 rfl (by rfl) ?_
  refine gf_X5_15 rfl dX5_takeCode_22 (by first | assumption | rfl) (by rfl) ?_
  refine PW.topi (show xr (xu x c0 1 (nI s)) (c0 + 1) (cpR (x (c0 + 1)) g i) c0 1 = nI s by rw [xr_n (by omega), xu_s]) ?_
  refine r_icmp_geN (tgt := 43) dX5_takeCode_25 (by decide) (by omega) (by omega) (fun h25 => ?_) (fun h25 => ?_)
  · refine r_ret rfl dX5_takeCode_43 ?_
    have e : i = s := by omega
    subst e
    exact ⟨rfl, rfl⟩
  · refine r_aload_n dX5_takeCode_28 rfl (by rfl) ?_
    refine gf_X5_9 rfl dX5_takeCode_29 (by first | assumption | rfl) (by rfl) ?_
    refine r_iload_n dX5_takeCode_32 rfl (by rfl) ?_
    refine r_aload_n dX5_takeCode_33 rfl (by rfl) ?_
    refine r_iload_n dX5_takeCode_34 rfl (by rfl) ?_
    refine r_ialdT hT dX5_takeCode_35 (by omega) (by omega) ?_
    refine r_iastN dX5_takeCode_36 (by first | assumption | rfl) (by omega) (by decide) ?_
    refine r_iincN dX5_takeCode_37 (by rfl) (by decide) ?_
    refine r_goto (tgt := 20) dX5_takeCode_40 (by decide) ?_
    exact PW.lc (by rfl) (by rw [xu_xr]; rfl) (ih (i + 1) (by omega) (by omega))
set_option maxRecDepth 100000 in
theorem fl_X5_22 : Cond.fieldLink RX5 22 "FirstAsleep$Law" "LOUD_WITHOUT" "[I" ∈ WS := ws_t 300 rfl rfl
set_option maxRecDepth 100000 in
theorem fl_X5_29 : Cond.fieldLink RX5 29 "FirstAsleep$Law" "FALLS_WITHOUT" "[I" ∈ WS := ws_t 313 rfl rfl
set_option maxHeartbeats 8000000 in
set_option maxRecDepth 20000 in
theorem c_X5_takeLoudWithout {c0 : Nat} {x : XS} (hL : IsL c0) : MM mX5_takeLoudWithout 2 0 0 [.ref c0] x (fun v x1 => v = none ∧ x1 = tkX x c0 (fun j => loudW.getD j 0) 7) NoT := by
  refine MM.of (by decide) (Nat.le_of_ble_eq_true rfl) ?_
  have l0 := l_o hL
  have l1 := l_1 hL
  refine r_aload_n dX5_takeLoudWithout_0 rfl (by rfl) ?_
  refine r_getsL fl_X5_22 dX5_takeLoudWithout_1 ?_
  refine r_getsL fl_X5_22 dX5_takeLoudWithout_4 ?_
  refine r_alenT (Or.inl ⟨rfl, rfl, rfl⟩) dX5_takeLoudWithout_7 ?_
  refine r_callV (c_X5_takeCodeT hL (Or.inl ⟨rfl, rfl, rfl⟩) (by decide)) mv_X5_takeCode ml_X5_25 ⟨by decide, by decide⟩ dX5_takeLoudWithout_8 (by first | assumption | rfl) rfl rfl rfl (Nat.le_of_ble_eq_true rfl) (fun v9 x9 h9 => ?_)
  obtain ⟨rfl, h9⟩ := h9
  refine PW.xeq h9 ?_
  clear h9 x9
  refine r_ret rfl dX5_takeLoudWithout_11 ?_
  exact ⟨rfl, rfl⟩
set_option maxHeartbeats 8000000 in
set_option maxRecDepth 20000 in
theorem c_X5_takeFallsWithout {c0 : Nat} {x : XS} (hL : IsL c0) : MM mX5_takeFallsWithout 2 0 0 [.ref c0] x (fun v x1 => v = none ∧ x1 = tkX x c0 (fun j => fallsW.getD j 0) 5) NoT := by
  refine MM.of (by decide) (Nat.le_of_ble_eq_true rfl) ?_
  have l0 := l_o hL
  have l1 := l_1 hL
  refine r_aload_n dX5_takeFallsWithout_0 rfl (by rfl) ?_
  refine r_getsF fl_X5_29 dX5_takeFallsWithout_1 ?_
  refine r_getsF fl_X5_29 dX5_takeFallsWithout_4 ?_
  refine r_alenT (Or.inr ⟨rfl, rfl, rfl⟩) dX5_takeFallsWithout_7 ?_
  refine r_callV (c_X5_takeCodeT hL (Or.inr ⟨rfl, rfl, rfl⟩) (by decide)) mv_X5_takeCode ml_X5_25 ⟨by decide, by decide⟩ dX5_takeFallsWithout_8 (by first | assumption | rfl) rfl rfl rfl (Nat.le_of_ble_eq_true rfl) (fun v9 x9 h9 => ?_)
  obtain ⟨rfl, h9⟩ := h9
  refine PW.xeq h9 ?_
  clear h9 x9
  refine r_ret rfl dX5_takeFallsWithout_11 ?_
  exact ⟨rfl, rfl⟩
set_option maxHeartbeats 8000000 in
set_option maxRecDepth 20000 in
theorem c_X5_copy {c0 s : Nat} {x : XS} (hL : IsL c0) (h30 : c0 < 30) (hz : x 30 1 = nI s) (hs : s ≤ 150) : MM mX5_copy 2 0 0 [.ref c0, .ref 30] x (fun v x1 => v = none ∧ x1 = tkX x c0 (x 31) s) NoT := by
  refine MM.of (by decide) (Nat.le_of_ble_eq_true rfl) ?_
  have l0 := l_o hL
  have l1 := l_1 hL
  have y30 := lay_30
  refine r_aload_n dX5_copy_0 rfl (by rfl) ?_
  refine r_aload_n dX5_copy_1 rfl (by rfl) ?_
  refine gf_X5_9 rfl dX5_copy_2 (by first | assumption | rfl) (by rfl) ?_
  refine r_aload_n dX5_copy_5 rfl (by rfl) ?_
  refine gf_X5_15 rfl dX5_copy_6 (by first | assumption | rfl) (by rfl) ?_
  refine PW.topi hz ?_
  refine r_callV (c_X5_takeCode hL h30 hs) mv_X5_takeCode ml_X5_25 ⟨by decide, by decide⟩ dX5_copy_9 (by first | assumption | rfl) rfl rfl rfl (Nat.le_of_ble_eq_true rfl) (fun v9 x9 h9 => ?_)
  obtain ⟨rfl, h9⟩ := h9
  refine PW.xeq h9 ?_
  clear h9 x9
  refine r_ret rfl dX5_copy_12 ?_
  exact ⟨rfl, rfl⟩
def hcA (x : XS) : Nat → XS
  | 0 => xu (xu (xu (xu x 3 0 (x 13 0)) 3 10 (x 13 10)) 3 11 (x 13 11)) 3 12 (x 13 12)
  | i + 1 => xu (xu (xu (xu (xu (xu (xu (xu (hcA x i) 4 i (hcA x i 14 i)) 5 i (hcA x i 15 i)) 6 i (hcA x i 16 i)) 7 i (hcA x i 17 i)) 8 i (hcA x i 18 i)) 9 i (hcA x i 19 i)) 10 i (hcA x i 20 i)) 11 i (hcA x i 21 i)
def hcB (y : XS) : Nat → XS
  | 0 => y
  | m + 1 => xu (hcB y m) 12 m (hcB y m 22 m)
def clearX (x : XS) : XS := xr (xu (xu (xu (xu x 13 0 (nI 0)) 13 10 (nI 0)) 13 11 (nI 10)) 13 12 (nI 9)) 22 (zfill (x 22) 60)
set_option maxHeartbeats 8000000 in
set_option maxRecDepth 20000 in
theorem c_X3_copy {x : XS} : MM mX3_copy 0 0 0 [.ref 3, .ref 13] x (fun v x1 => v = none ∧ x1 = hcB (hcA x 5) 60) NoT := by
  refine MM.of (by decide) (Nat.le_of_ble_eq_true rfl) ?_
  have y3 := lay_3
  have y4 := lay_4
  have y5 := lay_5
  have y6 := lay_6
  have y7 := lay_7
  have y8 := lay_8
  have y9 := lay_9
  have y10 := lay_10
  have y11 := lay_11
  have y12 := lay_12
  have y13 := lay_13
  have y14 := lay_14
  have y15 := lay_15
  have y16 := lay_16
  have y17 := lay_17
  have y18 := lay_18
  have y19 := lay_19
  have y20 := lay_20
  have y21 := lay_21
  have y22 := lay_22
  refine r_aload_n dX3_copy_0 rfl (by rfl) ?_
  refine r_aload_n dX3_copy_1 rfl (by rfl) ?_
  refine gf_X3_9 rfl dX3_copy_2 (by first | assumption | rfl) (by rfl) ?_
  refine pf_X3_9 rfl dX3_copy_5 (by first | assumption | rfl) (by rfl) ?_
  refine r_aload_n dX3_copy_8 rfl (by rfl) ?_
  refine r_aload_n dX3_copy_9 rfl (by rfl) ?_
  refine gf_X3_43 rfl dX3_copy_10 (by first | assumption | rfl) (by rfl) ?_
  refine pf_X3_43 rfl dX3_copy_13 (by first | assumption | rfl) (by rfl) ?_
  refine r_aload_n dX3_copy_16 rfl (by rfl) ?_
  refine r_aload_n dX3_copy_17 rfl (by rfl) ?_
  refine gf_X3_46 rfl dX3_copy_18 (by first | assumption | rfl) (by rfl) ?_
  refine pf_X3_46 rfl dX3_copy_21 (by first | assumption | rfl) (by rfl) ?_
  refine r_aload_n dX3_copy_24 rfl (by rfl) ?_
  refine r_aload_n dX3_copy_25 rfl (by rfl) ?_
  refine gf_X3_49 rfl dX3_copy_26 (by first | assumption | rfl) (by rfl) ?_
  refine pf_X3_49 rfl dX3_copy_29 (by first | assumption | rfl) (by rfl) ?_
  refine r_iconst (v := nI 0) dX3_copy_32 (by decide) ?_
  refine r_istore_n dX3_copy_33 rfl (by decide) ?_
  refine PW.loop (σ := Nat) (fun i => 5 - i) (fun i => i ≤ 5) (fun i => [(0, .ref 3), (1, .ref 13), (2, .int (nI i))]) (fun i => hcA x i) (0) (Nat.zero_le _) rfl rfl (fun i hi ih => ?_)
  refine r_iload_n dX3_copy_34 rfl (by rfl) ?_
  refine r_iconst (v := nI 5) dX3_copy_35 (by decide) ?_
  refine r_icmp_geN (tgt := 141) dX3_copy_36 (by decide) (by omega) (by omega) (fun h36 => ?_) (fun h36 => ?_)
  · refine PW.lc (L' := [(0, .ref 3), (1, .ref 13)]) (x' := hcA x 5) rfl (by rw [show i = 5 by omega]) ?_
    refine r_iconst (v := nI 0) dX3_copy_141 (by decide) ?_
    refine r_istore_n dX3_copy_142 rfl (by decide) ?_
    refine PW.loop (σ := Nat) (fun m => 60 - m) (fun m => m ≤ 60) (fun m => [(0, .ref 3), (1, .ref 13), (2, .int (nI m))]) (fun m => hcB (hcA x 5) m) (0) (Nat.zero_le _) rfl rfl (fun m hm mh => ?_)
    refine r_iload_n dX3_copy_143 rfl (by rfl) ?_
    refine r_bipush (v := nI 60) dX3_copy_144 (by decide) ?_
    refine r_icmp_geN (tgt := 167) dX3_copy_146 (by decide) (by omega) (by omega) (fun h146 => ?_) (fun h146 => ?_)
    · refine r_ret rfl dX3_copy_167 ?_
      have e : m = 60 := by omega
      subst e
      exact ⟨rfl, rfl⟩
    · refine r_aload_n dX3_copy_149 rfl (by rfl) ?_
      refine gf_X3_40 rfl dX3_copy_150 (by first | assumption | rfl) (by rfl) ?_
      refine r_iload_n dX3_copy_153 rfl (by rfl) ?_
      refine r_aload_n dX3_copy_154 rfl (by rfl) ?_
      refine gf_X3_40 rfl dX3_copy_155 (by first | assumption | rfl) (by rfl) ?_
      refine r_iload_n dX3_copy_158 rfl (by rfl) ?_
      refine r_ialdN dX3_copy_159 (by first | assumption | rfl) (by omega) (by decide) ?_
      refine r_iastN dX3_copy_160 (by first | assumption | rfl) (by omega) (by decide) ?_
      refine r_iincN dX3_copy_161 (by rfl) (by decide) ?_
      refine r_goto (tgt := 143) dX3_copy_164 (by decide) ?_
      exact PW.lc (by rfl) rfl (mh (m + 1) (by omega) (by omega))
  · refine r_aload_n dX3_copy_39 rfl (by rfl) ?_
    refine gf_X3_15 rfl dX3_copy_40 (by first | assumption | rfl) (by rfl) ?_
    refine r_iload_n dX3_copy_43 rfl (by rfl) ?_
    refine r_aload_n dX3_copy_44 rfl (by rfl) ?_
    refine gf_X3_15 rfl dX3_copy_45 (by first | assumption | rfl) (by rfl) ?_
    refine r_iload_n dX3_copy_48 rfl (by rfl) ?_
    refine r_ialdN dX3_copy_49 (by first | assumption | rfl) (by omega) (by decide) ?_
    refine r_iastN dX3_copy_50 (by first | assumption | rfl) (by omega) (by decide) ?_
    refine r_aload_n dX3_copy_51 rfl (by rfl) ?_
    refine gf_X3_19 rfl dX3_copy_52 (by first | assumption | rfl) (by rfl) ?_
    refine r_iload_n dX3_copy_55 rfl (by rfl) ?_
    refine r_aload_n dX3_copy_56 rfl (by rfl) ?_
    refine gf_X3_19 rfl dX3_copy_57 (by first | assumption | rfl) (by rfl) ?_
    refine r_iload_n dX3_copy_60 rfl (by rfl) ?_
    refine r_ialdN dX3_copy_61 (by first | assumption | rfl) (by omega) (by decide) ?_
    refine r_iastN dX3_copy_62 (by first | assumption | rfl) (by omega) (by decide) ?_
    refine r_aload_n dX3_copy_63 rfl (by rfl) ?_
    refine gf_X3_22 rfl dX3_copy_64 (by first | assumption | rfl) (by rfl) ?_
    refine r_iload_n dX3_copy_67 rfl (by rfl) ?_
    refine r_aload_n dX3_copy_68 rfl (by rfl) ?_
    refine gf_X3_22 rfl dX3_copy_69 (by first | assumption | rfl) (by rfl) ?_
    refine r_iload_n dX3_copy_72 rfl (by rfl) ?_
    refine r_ialdN dX3_copy_73 (by first | assumption | rfl) (by omega) (by decide) ?_
    refine r_iastN dX3_copy_74 (by first | assumption | rfl) (by omega) (by decide) ?_
    refine r_aload_n dX3_copy_75 rfl (by rfl) ?_
    refine gf_X3_25 rfl dX3_copy_76 (by first | assumption | rfl) (by rfl) ?_
    refine r_iload_n dX3_copy_79 rfl (by rfl) ?_
    refine r_aload_n dX3_copy_80 rfl (by rfl) ?_
    refine gf_X3_25 rfl dX3_copy_81 (by first | assumption | rfl) (by rfl) ?_
    refine r_iload_n dX3_copy_84 rfl (by rfl) ?_
    refine r_ialdN dX3_copy_85 (by first | assumption | rfl) (by omega) (by decide) ?_
    refine r_iastN dX3_copy_86 (by first | assumption | rfl) (by omega) (by decide) ?_
    refine r_aload_n dX3_copy_87 rfl (by rfl) ?_
    refine gf_X3_28 rfl dX3_copy_88 (by first | assumption | rfl) (by rfl) ?_
    refine r_iload_n dX3_copy_91 rfl (by rfl) ?_
    refine r_aload_n dX3_copy_92 rfl (by rfl) ?_
    refine gf_X3_28 rfl dX3_copy_93 (by first | assumption | rfl) (by rfl) ?_
    refine r_iload_n dX3_copy_96 rfl (by rfl) ?_
    refine r_ialdN dX3_copy_97 (by first | assumption | rfl) (by omega) (by decide) ?_
    refine r_iastN dX3_copy_98 (by first | assumption | rfl) (by omega) (by decide) ?_
    refine r_aload_n dX3_copy_99 rfl (by rfl) ?_
    refine gf_X3_31 rfl dX3_copy_100 (by first | assumption | rfl) (by rfl) ?_
    refine r_iload_n dX3_copy_103 rfl (by rfl) ?_
    refine r_aload_n dX3_copy_104 rfl (by rfl) ?_
    refine gf_X3_31 rfl dX3_copy_105 (by first | assumption | rfl) (by rfl) ?_
    refine r_iload_n dX3_copy_108 rfl (by rfl) ?_
    refine r_ialdN dX3_copy_109 (by first | assumption | rfl) (by omega) (by decide) ?_
    refine r_iastN dX3_copy_110 (by first | assumption | rfl) (by omega) (by decide) ?_
    refine r_aload_n dX3_copy_111 rfl (by rfl) ?_
    refine gf_X3_34 rfl dX3_copy_112 (by first | assumption | rfl) (by rfl) ?_
    refine r_iload_n dX3_copy_115 rfl (by rfl) ?_
    refine r_aload_n dX3_copy_116 rfl (by rfl) ?_
    refine gf_X3_34 rfl dX3_copy_117 (by first | assumption | rfl) (by rfl) ?_
    refine r_iload_n dX3_copy_120 rfl (by rfl) ?_
    refine r_ialdN dX3_copy_121 (by first | assumption | rfl) (by omega) (by decide) ?_
    refine r_iastN dX3_copy_122 (by first | assumption | rfl) (by omega) (by decide) ?_
    refine r_aload_n dX3_copy_123 rfl (by rfl) ?_
    refine gf_X3_37 rfl dX3_copy_124 (by first | assumption | rfl) (by rfl) ?_
    refine r_iload_n dX3_copy_127 rfl (by rfl) ?_
    refine r_aload_n dX3_copy_128 rfl (by rfl) ?_
    refine gf_X3_37 rfl dX3_copy_129 (by first | assumption | rfl) (by rfl) ?_
    refine r_iload_n dX3_copy_132 rfl (by rfl) ?_
    refine r_ialdN dX3_copy_133 (by first | assumption | rfl) (by omega) (by decide) ?_
    refine r_iastN dX3_copy_134 (by first | assumption | rfl) (by omega) (by decide) ?_
    refine r_iincN dX3_copy_135 (by rfl) (by decide) ?_
    refine r_goto (tgt := 34) dX3_copy_138 (by decide) ?_
    exact PW.lc (by rfl) rfl (ih (i + 1) (by omega) (by omega))
set_option maxHeartbeats 8000000 in
set_option maxRecDepth 20000 in
theorem c_X3_clear {x : XS} : MM mX3_clear 0 0 0 [.ref 13] x (fun v x1 => v = none ∧ x1 = clearX x) NoT := by
  refine MM.of (by decide) (Nat.le_of_ble_eq_true rfl) ?_
  have y13 := lay_13
  have y22 := lay_22
  refine r_aload_n dX3_clear_0 rfl (by rfl) ?_
  refine r_iconst (v := nI 0) dX3_clear_1 (by decide) ?_
  refine pf_X3_9 rfl dX3_clear_2 (by first | assumption | rfl) (by rfl) ?_
  refine r_aload_n dX3_clear_5 rfl (by rfl) ?_
  refine r_iconst (v := nI 0) dX3_clear_6 (by decide) ?_
  refine pf_X3_43 rfl dX3_clear_7 (by first | assumption | rfl) (by rfl) ?_
  refine r_aload_n dX3_clear_10 rfl (by rfl) ?_
  refine r_bipush (v := nI 10) dX3_clear_11 (by decide) ?_
  refine pf_X3_46 rfl dX3_clear_13 (by first | assumption | rfl) (by rfl) ?_
  refine r_aload_n dX3_clear_16 rfl (by rfl) ?_
  refine r_bipush (v := nI 9) dX3_clear_17 (by decide) ?_
  refine pf_X3_49 rfl dX3_clear_19 (by first | assumption | rfl) (by rfl) ?_
  refine r_iconst (v := nI 0) dX3_clear_22 (by decide) ?_
  refine r_istore_n dX3_clear_23 rfl (by decide) ?_
  refine PW.loop (σ := Nat) (fun i => 60 - i) (fun i => i ≤ 60) (fun i => [(0, .ref 13), (1, .int (nI i))]) (fun i => xr (xu (xu (xu (xu x 13 0 (nI 0)) 13 10 (nI 0)) 13 11 (nI 10)) 13 12 (nI 9)) 22 (zfill (x 22) i)) (0) (Nat.zero_le _) rfl (xr_id (xu (xu (xu (xu x 13 0 (nI 0)) 13 10 (nI 0)) 13 11 (nI 10)) 13 12 (nI 9)) 22).symm (fun i hi ih => ?_)
  refine r_iload_n dX3_clear_24 rfl (by rfl) ?_
  refine r_bipush (v := nI 60) dX3_clear_25 (by decide) ?_
  refine r_icmp_geN (tgt := 43) dX3_clear_27 (by decide) (by omega) (by omega) (fun h27 => ?_) (fun h27 => ?_)
  · refine r_ret rfl dX3_clear_43 ?_
    have e : i = 60 := by omega
    subst e
    exact ⟨rfl, rfl⟩
  · refine r_aload_n dX3_clear_30 rfl (by rfl) ?_
    refine gf_X3_40 rfl dX3_clear_31 (by first | assumption | rfl) (by rfl) ?_
    refine r_iload_n dX3_clear_34 rfl (by rfl) ?_
    refine r_iconst (v := nI 0) dX3_clear_35 (by decide) ?_
    refine r_iastN dX3_clear_36 (by first | assumption | rfl) (by omega) (by decide) ?_
    refine r_iincN dX3_clear_37 (by rfl) (by decide) ?_
    refine r_goto (tgt := 24) dX3_clear_40 (by decide) ?_
    exact PW.lc (by rfl) (by rw [xu_xr]; rfl) (ih (i + 1) (by omega) (by omega))
