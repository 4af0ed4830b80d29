/-! NIGHT: rows of the night; what single methods do -/
theorem xr_xr (x : XS) (c : Nat) (f g : Nat → Int32) : xr (xr x c f) c g = xr x c g := by
  funext j
  by_cases h : j = c
  · subst h; rw [xr_s, xr_s]
  · rw [xr_n h, xr_n h, xr_n h]
theorem xu1 (x : XS) (c k : Nat) (v : Int32) : xu x c k v = xr x c (upd (x c) k v) := rfl
/-- one wakes -/
def wakeR (f : Nat → Int32) (p : Nat) : Nat → Int32 :=
  let g := upd (upd (upd f (10 + p) (nI 0)) (15 + p) (nI 0)) (30 + p) (nI 0)
  upd g 41 (g 41 + nI 1)
/-- one is told to the law -/
def giveR (x : XS) (g : Nat → Int32) (p : Nat) : Nat → Int32 := upd (upd (upd (upd (upd (upd g 0 (x 6 p)) 1 (x 8 p)) 2 (x 9 p)) 6 (x 5 p)) 5 (nI 0)) 8 (nI 0)
def bnd (v : Int32) : Int32 := imax (nI 0) (imin (nI 40) v)
def lawv (x : XS) (cl cg sz : Nat) : Int32 := valC (x (cl + 1)) (x cg) (x (cl + 2)) sz
def lawx (x : XS) (cl cg sz : Nat) : XS := xr x (cl + 2) (runC (x (cl + 1)) (x cg) (x (cl + 2)) sz).2
def gvLoud (x : XS) (c0 p : Nat) : XS := xr x (c0 + 5) (upd (upd (upd (giveR x (x (c0 + 5)) p) 3 (x (c0 + 1) (10 + p))) 4 (x (c0 + 1) (0 + p))) 7 (x (c0 + 1) 40))
def gvBy (x : XS) (c0 : Nat) (sn wi co de ti : Int32) : XS := xr x (c0 + 5) (upd (upd (upd (upd (upd (upd (upd (upd (upd (x (c0 + 5)) 0 sn) 1 wi) 2 co) 6 (nI 0)) 5 (nI 0)) 8 (nI 0)) 3 de) 4 ti) 7 (nI 0))
def gvHad (x : XS) (c0 p : Nat) (sn : Int32) (m : Nat) : XS := xr x (c0 + 5) (upd (upd (upd (upd (giveR x (x (c0 + 5)) p) 0 sn) 3 (imin (nI 9) (nI (m + 1)))) 4 (imax (nI 0) (x 4 p - nI m))) 7 (nI m))
def gvFall (x : XS) (c0 p : Nat) : XS := xr x (c0 + 5) (upd (upd (upd (upd (upd (giveR x (x (c0 + 5)) p) 3 (nI 0)) 4 (x (c0 + 1) (0 + p))) 5 (x (c0 + 4) p)) 7 (x (c0 + 1) 40)) 8 (x (c0 + 1) (30 + p)))
def reachV (x : XS) (c0 p q : Nat) : Int32 := if p = q then nI 0 else if x (c0 + 1) (5 + p) = x (c0 + 1) (5 + q) then x (c0 + 3) q else imax (nI 0) (x (c0 + 3) q - x c0 7)
def callR (f : Nat → Int32) (p : Nat) : Nat → Int32 := if asl f p then wakeR f p else f
/-- a nudge: is it done, and the row behind it -/
def nudgeB (f : Nat → Int32) (p q : Nat) : Bool := !asl f p && asl f q && decide (f (5 + p) = f (5 + q)) && !decide (f (15 + q) = nI 1)
def nudgeR (f : Nat → Int32) (p q : Nat) : Nat → Int32 := if nudgeB f p q then (if nI 2 < f (10 + q) then upd (upd (upd f (10 + q) (f (10 + q) - nI 2)) (15 + q) (nI 1)) (20 + q) (nI 0) else wakeR f q) else f
def sleepR (x : XS) (f : Nat → Int32) (p : Nat) (hears : Int32) : Nat → Int32 :=
  if hears ≤ x 5 p + f (10 + p) then
    let f1 := upd f (10 + p) (imin (nI 9) (f (10 + p) + nI 1))
    let f2 := upd f1 (0 + p) (imax (nI 0) (f1 (0 + p) - nI 1))
    let f3 := upd f2 (25 + p) (f2 (25 + p) + nI 1)
    if f3 (15 + p) = nI 1 then
      let f4 := upd f3 (20 + p) (f3 (20 + p) + nI 1)
      if f4 (20 + p) < x 3 12 then f4 else upd f4 (15 + p) (nI 0)
    else f3
  else wakeR f p
def stayR (f : Nat → Int32) (p : Nat) (b : Bool) : Nat → Int32 :=
  if b then upd (upd (upd f (10 + p) (nI 1)) (20 + p) (nI 0)) (30 + p) (nI 0)
  else
    let f1 := upd f (0 + p) (imin (nI 99) (f (0 + p) + nI 1))
    upd f1 (30 + p) (f1 (30 + p) + nI 1)

set_option maxHeartbeats 8000000 in
set_option maxRecDepth 20000 in
theorem c_X3_strikesIn {t : Nat} {x : XS} (ht : t < 2 ^ 31) : MM mX3_strikesIn 0 0 0 [.ref 3, .int (nI t)] x (fun v x1 => v = some (.int (x 12 (t % 60))) ∧ x1 = x) NoT := by
  refine MM.of (by decide) (Nat.le_of_ble_eq_true rfl) ?_
  refine r_iload_n dX3_strikesIn_0 rfl (by rfl) ?_
  refine r_if_lt (tgt := 16) dX3_strikesIn_1 (by decide) (fun h1 => ?_) (fun h1 => ?_)
  · refine r_iconst (v := nI 0) dX3_strikesIn_16 (by decide) ?_
    refine r_iret rfl dX3_strikesIn_17 ?_
    first | exact ⟨rfl, rfl⟩ | exact absurd h1 (nI_pos ht)
  · refine r_aload_n dX3_strikesIn_4 rfl (by rfl) ?_
    refine gf_X3_40 rfl dX3_strikesIn_5 (by first | assumption | rfl) (by rfl) ?_
    refine r_iload_n dX3_strikesIn_8 rfl (by rfl) ?_
    refine r_bipush (v := nI 60) dX3_strikesIn_9 (by decide) ?_
    refine r_iremN dX3_strikesIn_11 (by omega) (by omega) (by omega) ?_
    refine r_ialdN dX3_strikesIn_12 (by first | assumption | rfl) (Nat.mod_lt _ (by decide)) (by decide) ?_
    refine r_goto (tgt := 17) dX3_strikesIn_13 (by decide) ?_
    refine r_iret rfl dX3_strikesIn_17 ?_
    first | exact ⟨rfl, rfl⟩ | exact absurd h1 (nI_pos ht)
set_option maxHeartbeats 8000000 in
set_option maxRecDepth 20000 in
theorem c_X6_giveTold {c0 p : Nat} {x : XS} (hN : IsN c0) (hp : p < 5) : MM mX6_giveTold 0 0 0 [.ref c0, .int (nI p)] x (fun v x1 => v = none ∧ x1 = xr x (c0 + 5) (giveR x (x (c0 + 5)) p)) NoT := by
  refine MM.of (by decide) (Nat.le_of_ble_eq_true rfl) ?_
  have hN0 := hN
  have n0 := n_o hN
  have n1 := n_1 hN
  have n2 := n_2 hN
  have n3 := n_3 hN
  have n4 := n_4 hN
  have n5 := n_5 hN
  have y3 := lay_3
  have y4 := lay_4
  have y5 := lay_5
  have y6 := lay_6
  have y7 := lay_7
  have y8 := lay_8
  have y9 := lay_9
  have y10 := lay_10
  have y11 := lay_11
  have y12 := lay_12
  have y23 := lay_23
  rcases hN with rfl | rfl
  all_goals
    refine r_aload_n dX6_giveTold_0 rfl (by rfl) ?_
    refine gf_X6_26 rfl dX6_giveTold_1 (by first | assumption | rfl) (by rfl) ?_
    refine r_iconst (v := nI 0) dX6_giveTold_4 (by decide) ?_
    refine r_aload_n dX6_giveTold_5 rfl (by rfl) ?_
    refine gf_X6_36 rfl dX6_giveTold_6 (by first | assumption | rfl) (by rfl) ?_
    refine gf_X6_92 rfl dX6_giveTold_9 (by first | assumption | rfl) (by rfl) ?_
    refine r_iload_n dX6_giveTold_12 rfl (by rfl) ?_
    refine r_ialdN dX6_giveTold_13 (by first | assumption | rfl) (by omega) (by decide) ?_
    refine r_iastN dX6_giveTold_14 (by first | assumption | rfl) (by omega) (by decide) ?_
    refine r_aload_n dX6_giveTold_15 rfl (by rfl) ?_
    refine gf_X6_26 rfl dX6_giveTold_16 (by first | assumption | rfl) (by rfl) ?_
    refine r_iconst (v := nI 1) dX6_giveTold_19 (by decide) ?_
    refine r_aload_n dX6_giveTold_20 rfl (by rfl) ?_
    refine gf_X6_36 rfl dX6_giveTold_21 (by first | assumption | rfl) (by rfl) ?_
    refine gf_X6_95 rfl dX6_giveTold_24 (by first | assumption | rfl) (by rfl) ?_
    refine r_iload_n dX6_giveTold_27 rfl (by rfl) ?_
    refine r_ialdN dX6_giveTold_28 (by first | assumption | rfl) (by omega) (by decide) ?_
    refine r_iastN dX6_giveTold_29 (by first | assumption | rfl) (by omega) (by decide) ?_
    refine r_aload_n dX6_giveTold_30 rfl (by rfl) ?_
    refine gf_X6_26 rfl dX6_giveTold_31 (by first | assumption | rfl) (by rfl) ?_
    refine r_iconst (v := nI 2) dX6_giveTold_34 (by decide) ?_
    refine r_aload_n dX6_giveTold_35 rfl (by rfl) ?_
    refine gf_X6_36 rfl dX6_giveTold_36 (by first | assumption | rfl) (by rfl) ?_
    refine gf_X6_98 rfl dX6_giveTold_39 (by first | assumption | rfl) (by rfl) ?_
    refine r_iload_n dX6_giveTold_42 rfl (by rfl) ?_
    refine r_ialdN dX6_giveTold_43 (by first | assumption | rfl) (by omega) (by decide) ?_
    refine r_iastN dX6_giveTold_44 (by first | assumption | rfl) (by omega) (by decide) ?_
    refine r_aload_n dX6_giveTold_45 rfl (by rfl) ?_
    refine gf_X6_26 rfl dX6_giveTold_46 (by first | assumption | rfl) (by rfl) ?_
    refine r_bipush (v := nI 6) dX6_giveTold_49 (by decide) ?_
    refine r_aload_n dX6_giveTold_51 rfl (by rfl) ?_
    refine gf_X6_36 rfl dX6_giveTold_52 (by first | assumption | rfl) (by rfl) ?_
    refine gf_X6_101 rfl dX6_giveTold_55 (by first | assumption | rfl) (by rfl) ?_
    refine r_iload_n dX6_giveTold_58 rfl (by rfl) ?_
    refine r_ialdN dX6_giveTold_59 (by first | assumption | rfl) (by omega) (by decide) ?_
    refine r_iastN dX6_giveTold_60 (by first | assumption | rfl) (by omega) (by decide) ?_
    refine r_aload_n dX6_giveTold_61 rfl (by rfl) ?_
    refine gf_X6_26 rfl dX6_giveTold_62 (by first | assumption | rfl) (by rfl) ?_
    refine r_iconst (v := nI 5) dX6_giveTold_65 (by decide) ?_
    refine r_iconst (v := nI 0) dX6_giveTold_66 (by decide) ?_
    refine r_iastN dX6_giveTold_67 (by first | assumption | rfl) (by omega) (by decide) ?_
    refine r_aload_n dX6_giveTold_68 rfl (by rfl) ?_
    refine gf_X6_26 rfl dX6_giveTold_69 (by first | assumption | rfl) (by rfl) ?_
    refine r_bipush (v := nI 8) dX6_giveTold_72 (by decide) ?_
    refine r_iconst (v := nI 0) dX6_giveTold_74 (by decide) ?_
    refine r_iastN dX6_giveTold_75 (by first | assumption | rfl) (by omega) (by decide) ?_
    refine r_ret rfl dX6_giveTold_76 ?_
    refine ⟨rfl, ?_⟩
    simp only [xu1, xr_xr, xr_s]
    rfl
set_option maxHeartbeats 8000000 in
set_option maxRecDepth 20000 in
theorem c_X6_bounded {v0 : Int32} {x : XS} : MM mX6_bounded 1 0 0 [.int v0] x (fun v x1 => v = some (.int (bnd v0)) ∧ x1 = x) NoT := by
  refine MM.of (by decide) (Nat.le_of_ble_eq_true rfl) ?_
  refine r_iconst (v := nI 0) dX6_bounded_0 (by decide) ?_
  refine r_bipush (v := nI 40) dX6_bounded_1 (by decide) ?_
  refine r_iload_n dX6_bounded_3 rfl (by rfl) ?_
  refine r_callS c_min ms_J9_min_7cf53 ml_X6_83 ⟨by decide, by decide⟩ dX6_bounded_4 rfl (Nat.le_of_ble_eq_true rfl) (fun v9 x9 h9 => ?_)
  obtain ⟨rfl, h9⟩ := h9
  refine PW.xeq h9 ?_
  clear h9 x9
  refine r_callS c_max ms_J9_max_7cf53 ml_X6_89 ⟨by decide, by decide⟩ dX6_bounded_7 rfl (Nat.le_of_ble_eq_true rfl) (fun v9 x9 h9 => ?_)
  obtain ⟨rfl, h9⟩ := h9
  refine PW.xeq h9 ?_
  clear h9 x9
  refine r_iret rfl dX6_bounded_10 ?_
  exact ⟨rfl, rfl⟩
set_option maxHeartbeats 8000000 in
set_option maxRecDepth 20000 in
theorem c_X6_loudOf {c0 p sz : Nat} {x : XS} (hN : IsN c0) (hp : p < 5) (hz : x 24 1 = nI sz) (hs : sz ≤ 150) : MM mX6_loudOf 2 0 0 [.ref c0, .int (nI p)] x (fun v x1 => v = some (.int (bnd (lawv (gvLoud x c0 p) 24 (c0 + 5) sz))) ∧ x1 = lawx (gvLoud x c0 p) 24 (c0 + 5) sz) NoT := by
  refine MM.of (by decide) (Nat.le_of_ble_eq_true rfl) ?_
  have hN0 := hN
  have n0 := n_o hN
  have n1 := n_1 hN
  have n2 := n_2 hN
  have n3 := n_3 hN
  have n4 := n_4 hN
  have n5 := n_5 hN
  have y3 := lay_3
  have y4 := lay_4
  have y5 := lay_5
  have y6 := lay_6
  have y7 := lay_7
  have y8 := lay_8
  have y9 := lay_9
  have y10 := lay_10
  have y11 := lay_11
  have y12 := lay_12
  have y23 := lay_23
  rcases hN with rfl | rfl
  all_goals
    refine r_aload_n dX6_loudOf_0 rfl (by rfl) ?_
    refine r_iload_n dX6_loudOf_1 rfl (by rfl) ?_
    refine r_callV (c_X6_giveTold hN0 hp) mv_X6_giveTold ml_X6_71 ⟨by decide, by decide⟩ dX6_loudOf_2 (by first | assumption | rfl) rfl rfl rfl (Nat.le_of_ble_eq_true rfl) (fun v9 x9 h9 => ?_)
    obtain ⟨rfl, h9⟩ := h9
    refine PW.xeq h9 ?_
    clear h9 x9
    refine r_aload_n dX6_loudOf_5 rfl (by rfl) ?_
    refine gf_X6_26 rfl dX6_loudOf_6 (by first | assumption | rfl) (by rfl) ?_
    refine r_iconst (v := nI 3) dX6_loudOf_9 (by decide) ?_
    refine r_aload_n dX6_loudOf_10 rfl (by rfl) ?_
    refine gf_X6_11 rfl dX6_loudOf_11 (by first | assumption | rfl) (by rfl) ?_
    refine r_bipush (v := nI 10) dX6_loudOf_14 (by decide) ?_
    refine r_iload_n dX6_loudOf_16 rfl (by rfl) ?_
    refine r_iaddN dX6_loudOf_17 ?_
    refine r_ialdN dX6_loudOf_18 (by first | assumption | rfl) (by omega) (by decide) ?_
    refine r_iastN dX6_loudOf_19 (by first | assumption | rfl) (by omega) (by decide) ?_
    refine r_aload_n dX6_loudOf_20 rfl (by rfl) ?_
    refine gf_X6_26 rfl dX6_loudOf_21 (by first | assumption | rfl) (by rfl) ?_
    refine r_iconst (v := nI 4) dX6_loudOf_24 (by decide) ?_
    refine r_aload_n dX6_loudOf_25 rfl (by rfl) ?_
    refine gf_X6_11 rfl dX6_loudOf_26 (by first | assumption | rfl) (by rfl) ?_
    refine r_iconst (v := nI 0) dX6_loudOf_29 (by decide) ?_
    refine r_iload_n dX6_loudOf_30 rfl (by rfl) ?_
    refine r_iaddN dX6_loudOf_31 ?_
    refine r_ialdN dX6_loudOf_32 (by first | assumption | rfl) (by omega) (by decide) ?_
    refine r_iastN dX6_loudOf_33 (by first | assumption | rfl) (by omega) (by decide) ?_
    refine r_aload_n dX6_loudOf_34 rfl (by rfl) ?_
    refine gf_X6_26 rfl dX6_loudOf_35 (by first | assumption | rfl) (by rfl) ?_
    refine r_bipush (v := nI 7) dX6_loudOf_38 (by decide) ?_
    refine r_aload_n dX6_loudOf_40 rfl (by rfl) ?_
    refine gf_X6_11 rfl dX6_loudOf_41 (by first | assumption | rfl) (by rfl) ?_
    refine r_bipush (v := nI 40) dX6_loudOf_44 (by decide) ?_
    refine r_ialdN dX6_loudOf_46 (by first | assumption | rfl) (by omega) (by decide) ?_
    refine r_iastN dX6_loudOf_47 (by first | assumption | rfl) (by omega) (by decide) ?_
    refine PW.xeq (x' := gvLoud x _ p) (by simp only [xu1, xr_xr, xr_s]; rfl) ?_
    refine r_aload_n dX6_loudOf_48 rfl (by rfl) ?_
    refine gf_X6_40 rfl dX6_loudOf_49 (by first | assumption | rfl) (by rfl) ?_
    refine r_iconst (v := nI 0) dX6_loudOf_52 (by decide) ?_
    refine r_aaldLN dX6_loudOf_53 (by rfl) (by rfl) (by decide) ?_
    refine r_aload_n dX6_loudOf_54 rfl (by rfl) ?_
    refine gf_X6_26 rfl dX6_loudOf_55 (by first | assumption | rfl) (by rfl) ?_
    refine r_callV (c_X5_value (c0 := 24) (sz := sz) (Or.inl rfl) (by first | assumption | rfl) (by decide) (by exact hz) hs) mv_X5_value ml_X6_75 ⟨by decide, by decide⟩ dX6_loudOf_58 (by first | assumption | rfl) rfl rfl rfl (Nat.le_of_ble_eq_true rfl) (fun v9 x9 h9 => ?_)
    obtain ⟨rfl, h9⟩ := h9
    refine PW.xeq h9 ?_
    clear h9 x9
    refine r_callS c_X6_bounded ms_X6_bounded ml_X6_79 ⟨by decide, by decide⟩ dX6_loudOf_61 rfl (Nat.le_of_ble_eq_true rfl) (fun v9 x9 h9 => ?_)
    obtain ⟨rfl, h9⟩ := h9
    refine PW.xeq h9 ?_
    clear h9 x9
    refine r_iret rfl dX6_loudOf_64 ?_
    exact ⟨rfl, rfl⟩
set_option maxHeartbeats 8000000 in
set_option maxRecDepth 20000 in
theorem c_X6_loudBy {c0 sz : Nat} {sn wi co de ti : Int32} {x : XS} (hN : IsN c0) (hz : x 24 1 = nI sz) (hs : sz ≤ 150) : MM mX6_loudBy 2 0 0 [.ref c0, .int sn, .int wi, .int co, .int de, .int ti] x (fun v x1 => v = some (.int (bnd (lawv (gvBy x c0 sn wi co de ti) 24 (c0 + 5) sz))) ∧ x1 = lawx (gvBy x c0 sn wi co de ti) 24 (c0 + 5) sz) NoT := by
  refine MM.of (by decide) (Nat.le_of_ble_eq_true rfl) ?_
  have hN0 := hN
  have n0 := n_o hN
  have n1 := n_1 hN
  have n2 := n_2 hN
  have n3 := n_3 hN
  have n4 := n_4 hN
  have n5 := n_5 hN
  have y3 := lay_3
  have y4 := lay_4
  have y5 := lay_5
  have y6 := lay_6
  have y7 := lay_7
  have y8 := lay_8
  have y9 := lay_9
  have y10 := lay_10
  have y11 := lay_11
  have y12 := lay_12
  have y23 := lay_23
  rcases hN with rfl | rfl
  all_goals
    refine r_aload_n dX6_loudBy_0 rfl (by rfl) ?_
    refine gf_X6_26 rfl dX6_loudBy_1 (by first | assumption | rfl) (by rfl) ?_
    refine r_iconst (v := nI 0) dX6_loudBy_4 (by decide) ?_
    refine r_iload_n dX6_loudBy_5 rfl (by rfl) ?_
    refine r_iastN dX6_loudBy_6 (by first | assumption | rfl) (by omega) (by decide) ?_
    refine r_aload_n dX6_loudBy_7 rfl (by rfl) ?_
    refine gf_X6_26 rfl dX6_loudBy_8 (by first | assumption | rfl) (by rfl) ?_
    refine r_iconst (v := nI 1) dX6_loudBy_11 (by decide) ?_
    refine r_iload_n dX6_loudBy_12 rfl (by rfl) ?_
    refine r_iastN dX6_loudBy_13 (by first | assumption | rfl) (by omega) (by decide) ?_
    refine r_aload_n dX6_loudBy_14 rfl (by rfl) ?_
    refine gf_X6_26 rfl dX6_loudBy_15 (by first | assumption | rfl) (by rfl) ?_
    refine r_iconst (v := nI 2) dX6_loudBy_18 (by decide) ?_
    refine r_iload_n dX6_loudBy_19 rfl (by rfl) ?_
    refine r_iastN dX6_loudBy_20 (by first | assumption | rfl) (by omega) (by decide) ?_
    refine r_aload_n dX6_loudBy_21 rfl (by rfl) ?_
    refine gf_X6_26 rfl dX6_loudBy_22 (by first | assumption | rfl) (by rfl) ?_
    refine r_bipush (v := nI 6) dX6_loudBy_25 (by decide) ?_
    refine r_iconst (v := nI 0) dX6_loudBy_27 (by decide) ?_
    refine r_iastN dX6_loudBy_28 (by first | assumption | rfl) (by omega) (by decide) ?_
    refine r_aload_n dX6_loudBy_29 rfl (by rfl) ?_
    refine gf_X6_26 rfl dX6_loudBy_30 (by first | assumption | rfl) (by rfl) ?_
    refine r_iconst (v := nI 5) dX6_loudBy_33 (by decide) ?_
    refine r_iconst (v := nI 0) dX6_loudBy_34 (by decide) ?_
    refine r_iastN dX6_loudBy_35 (by first | assumption | rfl) (by omega) (by decide) ?_
    refine r_aload_n dX6_loudBy_36 rfl (by rfl) ?_
    refine gf_X6_26 rfl dX6_loudBy_37 (by first | assumption | rfl) (by rfl) ?_
    refine r_bipush (v := nI 8) dX6_loudBy_40 (by decide) ?_
    refine r_iconst (v := nI 0) dX6_loudBy_42 (by decide) ?_
    refine r_iastN dX6_loudBy_43 (by first | assumption | rfl) (by omega) (by decide) ?_
    refine r_aload_n dX6_loudBy_44 rfl (by rfl) ?_
    refine gf_X6_26 rfl dX6_loudBy_45 (by first | assumption | rfl) (by rfl) ?_
    refine r_iconst (v := nI 3) dX6_loudBy_48 (by decide) ?_
    refine r_iload dX6_loudBy_49 (by rfl) ?_
    refine r_iastN dX6_loudBy_51 (by first | assumption | rfl) (by omega) (by decide) ?_
    refine r_aload_n dX6_loudBy_52 rfl (by rfl) ?_
    refine gf_X6_26 rfl dX6_loudBy_53 (by first | assumption | rfl) (by rfl) ?_
    refine r_iconst (v := nI 4) dX6_loudBy_56 (by decide) ?_
    refine r_iload dX6_loudBy_57 (by rfl) ?_
    refine r_iastN dX6_loudBy_59 (by first | assumption | rfl) (by omega) (by decide) ?_
    refine r_aload_n dX6_loudBy_60 rfl (by rfl) ?_
    refine gf_X6_26 rfl dX6_loudBy_61 (by first | assumption | rfl) (by rfl) ?_
    refine r_bipush (v := nI 7) dX6_loudBy_64 (by decide) ?_
    refine r_iconst (v := nI 0) dX6_loudBy_66 (by decide) ?_
    refine r_iastN dX6_loudBy_67 (by first | assumption | rfl) (by omega) (by decide) ?_
    refine PW.xeq (x' := gvBy x _ sn wi co de ti) (by simp only [xu1, xr_xr, xr_s]; rfl) ?_
    refine r_aload_n dX6_loudBy_68 rfl (by rfl) ?_
    refine gf_X6_40 rfl dX6_loudBy_69 (by first | assumption | rfl) (by rfl) ?_
    refine r_iconst (v := nI 0) dX6_loudBy_72 (by decide) ?_
    refine r_aaldLN dX6_loudBy_73 (by rfl) (by rfl) (by decide) ?_
    refine r_aload_n dX6_loudBy_74 rfl (by rfl) ?_
    refine gf_X6_26 rfl dX6_loudBy_75 (by first | assumption | rfl) (by rfl) ?_
    refine r_callV (c_X5_value (c0 := 24) (sz := sz) (Or.inl rfl) (by first | assumption | rfl) (by decide) (by exact hz) hs) mv_X5_value ml_X6_75 ⟨by decide, by decide⟩ dX6_loudBy_78 (by first | assumption | rfl) rfl rfl rfl (Nat.le_of_ble_eq_true rfl) (fun v9 x9 h9 => ?_)
    obtain ⟨rfl, h9⟩ := h9
    refine PW.xeq h9 ?_
    clear h9 x9
    refine r_callS c_X6_bounded ms_X6_bounded ml_X6_79 ⟨by decide, by decide⟩ dX6_loudBy_81 rfl (Nat.le_of_ble_eq_true rfl) (fun v9 x9 h9 => ?_)
    obtain ⟨rfl, h9⟩ := h9
    refine PW.xeq h9 ?_
    clear h9 x9
    refine r_iret rfl dX6_loudBy_84 ?_
    exact ⟨rfl, rfl⟩
set_option maxHeartbeats 8000000 in
set_option maxRecDepth 20000 in
theorem c_X6_loudHad {c0 p m sz : Nat} {sn : Int32} {x : XS} (hN : IsN c0) (hp : p < 5) (hz : x 24 1 = nI sz) (hs : sz ≤ 150) : MM mX6_loudHad 2 0 0 [.ref c0, .int (nI p), .int sn, .int (nI m)] x (fun v x1 => v = some (.int (bnd (lawv (gvHad x c0 p sn m) 24 (c0 + 5) sz))) ∧ x1 = lawx (gvHad x c0 p sn m) 24 (c0 + 5) sz) NoT := by
  refine MM.of (by decide) (Nat.le_of_ble_eq_true rfl) ?_
  have hN0 := hN
  have n0 := n_o hN
  have n1 := n_1 hN
  have n2 := n_2 hN
  have n3 := n_3 hN
  have n4 := n_4 hN
  have n5 := n_5 hN
  have y3 := lay_3
  have y4 := lay_4
  have y5 := lay_5
  have y6 := lay_6
  have y7 := lay_7
  have y8 := lay_8
  have y9 := lay_9
  have y10 := lay_10
  have y11 := lay_11
  have y12 := lay_12
  have y23 := lay_23
  rcases hN with rfl | rfl
  all_goals
    refine r_aload_n dX6_loudHad_0 rfl (by rfl) ?_
    refine r_iload_n dX6_loudHad_1 rfl (by rfl) ?_
    refine r_callV (c_X6_giveTold hN0 hp) mv_X6_giveTold ml_X6_71 ⟨by decide, by decide⟩ dX6_loudHad_2 (by first | assumption | rfl) rfl rfl rfl (Nat.le_of_ble_eq_true rfl) (fun v9 x9 h9 => ?_)
    obtain ⟨rfl, h9⟩ := h9
    refine PW.xeq h9 ?_
    clear h9 x9
    refine r_aload_n dX6_loudHad_5 rfl (by rfl) ?_
    refine gf_X6_26 rfl dX6_loudHad_6 (by first | assumption | rfl) (by rfl) ?_
    refine r_iconst (v := nI 0) dX6_loudHad_9 (by decide) ?_
    refine r_iload_n dX6_loudHad_10 rfl (by rfl) ?_
    refine r_iastN dX6_loudHad_11 (by first | assumption | rfl) (by omega) (by decide) ?_
    refine r_aload_n dX6_loudHad_12 rfl (by rfl) ?_
    refine gf_X6_26 rfl dX6_loudHad_13 (by first | assumption | rfl) (by rfl) ?_
    refine r_iconst (v := nI 3) dX6_loudHad_16 (by decide) ?_
    refine r_bipush (v := nI 9) dX6_loudHad_17 (by decide) ?_
    refine r_iload_n dX6_loudHad_19 rfl (by rfl) ?_
    refine r_iconst (v := nI 1) dX6_loudHad_20 (by decide) ?_
    refine r_iaddN dX6_loudHad_21 ?_
    refine r_callS c_min ms_J9_min_7cf53 ml_X6_83 ⟨by decide, by decide⟩ dX6_loudHad_22 rfl (Nat.le_of_ble_eq_true rfl) (fun v9 x9 h9 => ?_)
    obtain ⟨rfl, h9⟩ := h9
    refine PW.xeq h9 ?_
    clear h9 x9
    refine r_iastN dX6_loudHad_25 (by first | assumption | rfl) (by omega) (by decide) ?_
    refine r_aload_n dX6_loudHad_26 rfl (by rfl) ?_
    refine gf_X6_26 rfl dX6_loudHad_27 (by first | assumption | rfl) (by rfl) ?_
    refine r_iconst (v := nI 4) dX6_loudHad_30 (by decide) ?_
    refine r_iconst (v := nI 0) dX6_loudHad_31 (by decide) ?_
    refine r_aload_n dX6_loudHad_32 rfl (by rfl) ?_
    refine gf_X6_36 rfl dX6_loudHad_33 (by first | assumption | rfl) (by rfl) ?_
    refine gf_X6_49 rfl dX6_loudHad_36 (by first | assumption | rfl) (by rfl) ?_
    refine r_iload_n dX6_loudHad_39 rfl (by rfl) ?_
    refine r_ialdN dX6_loudHad_40 (by first | assumption | rfl) (by omega) (by decide) ?_
    refine r_iload_n dX6_loudHad_41 rfl (by rfl) ?_
    refine r_isub dX6_loudHad_42 ?_
    refine r_callS c_max ms_J9_max_7cf53 ml_X6_89 ⟨by decide, by decide⟩ dX6_loudHad_43 rfl (Nat.le_of_ble_eq_true rfl) (fun v9 x9 h9 => ?_)
    obtain ⟨rfl, h9⟩ := h9
    refine PW.xeq h9 ?_
    clear h9 x9
    refine r_iastN dX6_loudHad_46 (by first | assumption | rfl) (by omega) (by decide) ?_
    refine r_aload_n dX6_loudHad_47 rfl (by rfl) ?_
    refine gf_X6_26 rfl dX6_loudHad_48 (by first | assumption | rfl) (by rfl) ?_
    refine r_bipush (v := nI 7) dX6_loudHad_51 (by decide) ?_
    refine r_iload_n dX6_loudHad_53 rfl (by rfl) ?_
    refine r_iastN dX6_loudHad_54 (by first | assumption | rfl) (by omega) (by decide) ?_
    refine PW.xeq (x' := gvHad x _ p sn m) (by simp only [xu1, xr_xr, xr_s]; rfl) ?_
    refine r_aload_n dX6_loudHad_55 rfl (by rfl) ?_
    refine gf_X6_40 rfl dX6_loudHad_56 (by first | assumption | rfl) (by rfl) ?_
    refine r_iconst (v := nI 0) dX6_loudHad_59 (by decide) ?_
    refine r_aaldLN dX6_loudHad_60 (by rfl) (by rfl) (by decide) ?_
    refine r_aload_n dX6_loudHad_61 rfl (by rfl) ?_
    refine gf_X6_26 rfl dX6_loudHad_62 (by first | assumption | rfl) (by rfl) ?_
    refine r_callV (c_X5_value (c0 := 24) (sz := sz) (Or.inl rfl) (by first | assumption | rfl) (by decide) (by exact hz) hs) mv_X5_value ml_X6_75 ⟨by decide, by decide⟩ dX6_loudHad_65 (by first | assumption | rfl) rfl rfl rfl (Nat.le_of_ble_eq_true rfl) (fun v9 x9 h9 => ?_)
    obtain ⟨rfl, h9⟩ := h9
    refine PW.xeq h9 ?_
    clear h9 x9
    refine r_callS c_X6_bounded ms_X6_bounded ml_X6_79 ⟨by decide, by decide⟩ dX6_loudHad_68 rfl (Nat.le_of_ble_eq_true rfl) (fun v9 x9 h9 => ?_)
    obtain ⟨rfl, h9⟩ := h9
    refine PW.xeq h9 ?_
    clear h9 x9
    refine r_iret rfl dX6_loudHad_71 ?_
    exact ⟨rfl, rfl⟩
set_option maxHeartbeats 8000000 in
set_option maxRecDepth 20000 in
theorem c_X6_falls {c0 p sz : Nat} {x : XS} (hN : IsN c0) (hp : p < 5) (hz : x 27 1 = nI sz) (hs : sz ≤ 150) : MM mX6_falls 2 0 0 [.ref c0, .int (nI p)] x (fun v x1 => v = some (.int (bI (decide (0 < lawv (gvFall x c0 p) 27 (c0 + 5) sz)))) ∧ x1 = lawx (gvFall x c0 p) 27 (c0 + 5) sz) NoT := by
  refine MM.of (by decide) (Nat.le_of_ble_eq_true rfl) ?_
  have hN0 := hN
  have n0 := n_o hN
  have n1 := n_1 hN
  have n2 := n_2 hN
  have n3 := n_3 hN
  have n4 := n_4 hN
  have n5 := n_5 hN
  have y3 := lay_3
  have y4 := lay_4
  have y5 := lay_5
  have y6 := lay_6
  have y7 := lay_7
  have y8 := lay_8
  have y9 := lay_9
  have y10 := lay_10
  have y11 := lay_11
  have y12 := lay_12
  have y23 := lay_23
  rcases hN with rfl | rfl
  all_goals
    refine r_aload_n dX6_falls_0 rfl (by rfl) ?_
    refine r_iload_n dX6_falls_1 rfl (by rfl) ?_
    refine r_callV (c_X6_giveTold hN0 hp) mv_X6_giveTold ml_X6_71 ⟨by decide, by decide⟩ dX6_falls_2 (by first | assumption | rfl) rfl rfl rfl (Nat.le_of_ble_eq_true rfl) (fun v9 x9 h9 => ?_)
    obtain ⟨rfl, h9⟩ := h9
    refine PW.xeq h9 ?_
    clear h9 x9
    refine r_aload_n dX6_falls_5 rfl (by rfl) ?_
    refine gf_X6_26 rfl dX6_falls_6 (by first | assumption | rfl) (by rfl) ?_
    refine r_iconst (v := nI 3) dX6_falls_9 (by decide) ?_
    refine r_iconst (v := nI 0) dX6_falls_10 (by decide) ?_
    refine r_iastN dX6_falls_11 (by first | assumption | rfl) (by omega) (by decide) ?_
    refine r_aload_n dX6_falls_12 rfl (by rfl) ?_
    refine gf_X6_26 rfl dX6_falls_13 (by first | assumption | rfl) (by rfl) ?_
    refine r_iconst (v := nI 4) dX6_falls_16 (by decide) ?_
    refine r_aload_n dX6_falls_17 rfl (by rfl) ?_
    refine gf_X6_11 rfl dX6_falls_18 (by first | assumption | rfl) (by rfl) ?_
    refine r_iconst (v := nI 0) dX6_falls_21 (by decide) ?_
    refine r_iload_n dX6_falls_22 rfl (by rfl) ?_
    refine r_iaddN dX6_falls_23 ?_
    refine r_ialdN dX6_falls_24 (by first | assumption | rfl) (by omega) (by decide) ?_
    refine r_iastN dX6_falls_25 (by first | assumption | rfl) (by omega) (by decide) ?_
    refine r_aload_n dX6_falls_26 rfl (by rfl) ?_
    refine gf_X6_26 rfl dX6_falls_27 (by first | assumption | rfl) (by rfl) ?_
    refine r_iconst (v := nI 5) dX6_falls_30 (by decide) ?_
    refine r_aload_n dX6_falls_31 rfl (by rfl) ?_
    refine gf_X6_21 rfl dX6_falls_32 (by first | assumption | rfl) (by rfl) ?_
    refine r_iload_n dX6_falls_35 rfl (by rfl) ?_
    refine r_ialdN dX6_falls_36 (by first | assumption | rfl) (by omega) (by decide) ?_
    refine r_iastN dX6_falls_37 (by first | assumption | rfl) (by omega) (by decide) ?_
    refine r_aload_n dX6_falls_38 rfl (by rfl) ?_
    refine gf_X6_26 rfl dX6_falls_39 (by first | assumption | rfl) (by rfl) ?_
    refine r_bipush (v := nI 7) dX6_falls_42 (by decide) ?_
    refine r_aload_n dX6_falls_44 rfl (by rfl) ?_
    refine gf_X6_11 rfl dX6_falls_45 (by first | assumption | rfl) (by rfl) ?_
    refine r_bipush (v := nI 40) dX6_falls_48 (by decide) ?_
    refine r_ialdN dX6_falls_50 (by first | assumption | rfl) (by omega) (by decide) ?_
    refine r_iastN dX6_falls_51 (by first | assumption | rfl) (by omega) (by decide) ?_
    refine r_aload_n dX6_falls_52 rfl (by rfl) ?_
    refine gf_X6_26 rfl dX6_falls_53 (by first | assumption | rfl) (by rfl) ?_
    refine r_bipush (v := nI 8) dX6_falls_56 (by decide) ?_
    refine r_aload_n dX6_falls_58 rfl (by rfl) ?_
    refine gf_X6_11 rfl dX6_falls_59 (by first | assumption | rfl) (by rfl) ?_
    refine r_bipush (v := nI 30) dX6_falls_62 (by decide) ?_
    refine r_iload_n dX6_falls_64 rfl (by rfl) ?_
    refine r_iaddN dX6_falls_65 ?_
    refine r_ialdN dX6_falls_66 (by first | assumption | rfl) (by omega) (by decide) ?_
    refine r_iastN dX6_falls_67 (by first | assumption | rfl) (by omega) (by decide) ?_
    refine PW.xeq (x' := gvFall x _ p) (by simp only [xu1, xr_xr, xr_s]; rfl) ?_
    refine r_aload_n dX6_falls_68 rfl (by rfl) ?_
    refine gf_X6_40 rfl dX6_falls_69 (by first | assumption | rfl) (by rfl) ?_
    refine r_iconst (v := nI 1) dX6_falls_72 (by decide) ?_
    refine r_aaldLN dX6_falls_73 (by rfl) (by rfl) (by decide) ?_
    refine r_aload_n dX6_falls_74 rfl (by rfl) ?_
    refine gf_X6_26 rfl dX6_falls_75 (by first | assumption | rfl) (by rfl) ?_
    refine r_callV (c_X5_value (c0 := 27) (sz := sz) (Or.inr (Or.inl rfl)) (by first | assumption | rfl) (by decide) (by exact hz) hs) mv_X5_value ml_X6_75 ⟨by decide, by decide⟩ dX6_falls_78 (by first | assumption | rfl) rfl rfl rfl (Nat.le_of_ble_eq_true rfl) (fun v9 x9 h9 => ?_)
    obtain ⟨rfl, h9⟩ := h9
    refine PW.xeq h9 ?_
    clear h9 x9
    refine r_if_le (tgt := 88) dX6_falls_81 (by decide) (fun h81 => ?_) (fun h81 => ?_)
    · refine r_iconst (v := nI 0) dX6_falls_88 (by decide) ?_
      refine r_zret rfl (by first | exact bI_01 _ | exact Or.inl rfl | exact Or.inr rfl) dX6_falls_89 ?_
      refine ⟨?_, rfl⟩
      unfold lawv
      first | rw [decide_eq_false (Int32.not_lt.mpr h81)]; rfl | rw [decide_eq_true (Int32.not_le.mp h81)]; rfl
    · refine r_iconst (v := nI 1) dX6_falls_84 (by decide) ?_
      refine r_goto (tgt := 89) dX6_falls_85 (by decide) ?_
      refine r_zret rfl (by first | exact bI_01 _ | exact Or.inl rfl | exact Or.inr rfl) dX6_falls_89 ?_
      refine ⟨?_, rfl⟩
      unfold lawv
      first | rw [decide_eq_false (Int32.not_lt.mpr h81)]; rfl | rw [decide_eq_true (Int32.not_le.mp h81)]; rfl
set_option maxHeartbeats 8000000 in
set_option maxRecDepth 20000 in
theorem c_X6_reaching {c0 p q : Nat} {x : XS} (hN : IsN c0) (hp : p < 5) (hq : q < 5) : MM mX6_reaching 1 0 0 [.ref c0, .int (nI p), .int (nI q)] x (fun v x1 => v = some (.int (reachV x c0 p q)) ∧ x1 = x) NoT := by
  refine MM.of (by decide) (Nat.le_of_ble_eq_true rfl) ?_
  have hN0 := hN
  have n0 := n_o hN
  have n1 := n_1 hN
  have n2 := n_2 hN
  have n3 := n_3 hN
  have n4 := n_4 hN
  have n5 := n_5 hN
  have y3 := lay_3
  have y4 := lay_4
  have y5 := lay_5
  have y6 := lay_6
  have y7 := lay_7
  have y8 := lay_8
  have y9 := lay_9
  have y10 := lay_10
  have y11 := lay_11
  have y12 := lay_12
  have y23 := lay_23
  rcases hN with rfl | rfl
  all_goals
    refine r_iload_n dX6_reaching_0 rfl (by rfl) ?_
    refine r_iload_n dX6_reaching_1 rfl (by rfl) ?_
    refine r_icmp_neN (tgt := 7) dX6_reaching_2 (by decide) (by omega) (by omega) (fun h2 => ?_) (fun h2 => ?_)
    · refine r_aload_n dX6_reaching_7 rfl (by rfl) ?_
      refine gf_X6_11 rfl dX6_reaching_8 (by first | assumption | rfl) (by rfl) ?_
      refine r_iconst (v := nI 5) dX6_reaching_11 (by decide) ?_
      refine r_iload_n dX6_reaching_12 rfl (by rfl) ?_
      refine r_iaddN dX6_reaching_13 ?_
      refine r_ialdN dX6_reaching_14 (by first | assumption | rfl) (by omega) (by decide) ?_
      refine r_aload_n dX6_reaching_15 rfl (by rfl) ?_
      refine gf_X6_11 rfl dX6_reaching_16 (by first | assumption | rfl) (by rfl) ?_
      refine r_iconst (v := nI 5) dX6_reaching_19 (by decide) ?_
      refine r_iload_n dX6_reaching_20 rfl (by rfl) ?_
      refine r_iaddN dX6_reaching_21 ?_
      refine r_ialdN dX6_reaching_22 (by first | assumption | rfl) (by omega) (by decide) ?_
      refine r_icmp_ne (tgt := 30) dX6_reaching_23 (by decide) (fun h23 => ?_) (fun h23 => ?_)
      · refine r_iconst (v := nI 0) dX6_reaching_30 (by decide) ?_
        refine r_istore_n dX6_reaching_31 rfl (by decide) ?_
        refine r_iload_n dX6_reaching_32 rfl (by rfl) ?_
        refine r_if_eq (tgt := 45) dX6_reaching_33 (by decide) (fun h33 => ?_) (fun h33 => ?_)
        · refine r_iconst (v := nI 0) dX6_reaching_45 (by decide) ?_
          refine r_aload_n dX6_reaching_46 rfl (by rfl) ?_
          refine gf_X6_18 rfl dX6_reaching_47 (by first | assumption | rfl) (by rfl) ?_
          refine r_iload_n dX6_reaching_50 rfl (by rfl) ?_
          refine r_ialdN dX6_reaching_51 (by first | assumption | rfl) (by omega) (by decide) ?_
          refine r_aload_n dX6_reaching_52 rfl (by rfl) ?_
          refine gf_X6_29 rfl dX6_reaching_53 (by first | assumption | rfl) (by rfl) ?_
          refine r_isub dX6_reaching_56 ?_
          refine r_callS c_max ms_J9_max_7cf53 ml_X6_89 ⟨by decide, by decide⟩ dX6_reaching_57 rfl (Nat.le_of_ble_eq_true rfl) (fun v9 x9 h9 => ?_)
          obtain ⟨rfl, h9⟩ := h9
          refine PW.xeq h9 ?_
          clear h9 x9
          refine r_iret rfl dX6_reaching_60 ?_
          refine ⟨?_, rfl⟩
          unfold reachV
          first | (rw [if_pos h2]; done) | (rw [if_neg h2, if_pos h23]; done) | (rw [if_neg h2, if_neg h23]; done) | exact absurd h33 (by decide) | exact absurd (show nI 0 = 0 from rfl) h33
        · refine r_aload_n dX6_reaching_36 rfl (by rfl) ?_
          refine gf_X6_18 rfl dX6_reaching_37 (by first | assumption | rfl) (by rfl) ?_
          refine r_iload_n dX6_reaching_40 rfl (by rfl) ?_
          refine r_ialdN dX6_reaching_41 (by first | assumption | rfl) (by omega) (by decide) ?_
          refine r_goto (tgt := 60) dX6_reaching_42 (by decide) ?_
          refine r_iret rfl dX6_reaching_60 ?_
          refine ⟨?_, rfl⟩
          unfold reachV
          first | (rw [if_pos h2]; done) | (rw [if_neg h2, if_pos h23]; done) | (rw [if_neg h2, if_neg h23]; done) | exact absurd h33 (by decide) | exact absurd (show nI 0 = 0 from rfl) h33
      · refine r_iconst (v := nI 1) dX6_reaching_26 (by decide) ?_
        refine r_goto (tgt := 31) dX6_reaching_27 (by decide) ?_
        refine r_istore_n dX6_reaching_31 rfl (by decide) ?_
        refine r_iload_n dX6_reaching_32 rfl (by rfl) ?_
        refine r_if_eq (tgt := 45) dX6_reaching_33 (by decide) (fun h33 => ?_) (fun h33 => ?_)
        · refine r_iconst (v := nI 0) dX6_reaching_45 (by decide) ?_
          refine r_aload_n dX6_reaching_46 rfl (by rfl) ?_
          refine gf_X6_18 rfl dX6_reaching_47 (by first | assumption | rfl) (by rfl) ?_
          refine r_iload_n dX6_reaching_50 rfl (by rfl) ?_
          refine r_ialdN dX6_reaching_51 (by first | assumption | rfl) (by omega) (by decide) ?_
          refine r_aload_n dX6_reaching_52 rfl (by rfl) ?_
          refine gf_X6_29 rfl dX6_reaching_53 (by first | assumption | rfl) (by rfl) ?_
          refine r_isub dX6_reaching_56 ?_
          refine r_callS c_max ms_J9_max_7cf53 ml_X6_89 ⟨by decide, by decide⟩ dX6_reaching_57 rfl (Nat.le_of_ble_eq_true rfl) (fun v9 x9 h9 => ?_)
          obtain ⟨rfl, h9⟩ := h9
          refine PW.xeq h9 ?_
          clear h9 x9
          refine r_iret rfl dX6_reaching_60 ?_
          refine ⟨?_, rfl⟩
          unfold reachV
          first | (rw [if_pos h2]; done) | (rw [if_neg h2, if_pos h23]; done) | (rw [if_neg h2, if_neg h23]; done) | exact absurd h33 (by decide) | exact absurd (show nI 0 = 0 from rfl) h33
        · refine r_aload_n dX6_reaching_36 rfl (by rfl) ?_
          refine gf_X6_18 rfl dX6_reaching_37 (by first | assumption | rfl) (by rfl) ?_
          refine r_iload_n dX6_reaching_40 rfl (by rfl) ?_
          refine r_ialdN dX6_reaching_41 (by first | assumption | rfl) (by omega) (by decide) ?_
          refine r_goto (tgt := 60) dX6_reaching_42 (by decide) ?_
          refine r_iret rfl dX6_reaching_60 ?_
          refine ⟨?_, rfl⟩
          unfold reachV
          first | (rw [if_pos h2]; done) | (rw [if_neg h2, if_pos h23]; done) | (rw [if_neg h2, if_neg h23]; done) | exact absurd h33 (by decide) | exact absurd (show nI 0 = 0 from rfl) h33
    · refine r_iconst (v := nI 0) dX6_reaching_5 (by decide) ?_
      refine r_iret rfl dX6_reaching_6 ?_
      refine ⟨?_, rfl⟩
      unfold reachV
      first | (rw [if_pos h2]; done) | (rw [if_neg h2, if_pos h23]; done) | (rw [if_neg h2, if_neg h23]; done) | exact absurd h33 (by decide) | exact absurd (show nI 0 = 0 from rfl) h33
set_option maxHeartbeats 8000000 in
set_option maxRecDepth 20000 in
theorem c_X6_wake {c0 p : Nat} {x : XS} (hN : IsN c0) (hp : p < 5) : MM mX6_wake 0 0 0 [.ref c0, .int (nI p)] x (fun v x1 => v = none ∧ x1 = xr x (c0 + 1) (wakeR (x (c0 + 1)) p)) NoT := by
  refine MM.of (by decide) (Nat.le_of_ble_eq_true rfl) ?_
  have hN0 := hN
  have n0 := n_o hN
  have n1 := n_1 hN
  have n2 := n_2 hN
  have n3 := n_3 hN
  have n4 := n_4 hN
  have n5 := n_5 hN
  have y3 := lay_3
  have y4 := lay_4
  have y5 := lay_5
  have y6 := lay_6
  have y7 := lay_7
  have y8 := lay_8
  have y9 := lay_9
  have y10 := lay_10
  have y11 := lay_11
  have y12 := lay_12
  have y23 := lay_23
  rcases hN with rfl | rfl
  all_goals
    refine r_aload_n dX6_wake_0 rfl (by rfl) ?_
    refine gf_X6_11 rfl dX6_wake_1 (by first | assumption | rfl) (by rfl) ?_
    refine r_bipush (v := nI 10) dX6_wake_4 (by decide) ?_
    refine r_iload_n dX6_wake_6 rfl (by rfl) ?_
    refine r_iaddN dX6_wake_7 ?_
    refine r_iconst (v := nI 0) dX6_wake_8 (by decide) ?_
    refine r_iastN dX6_wake_9 (by first | assumption | rfl) (by omega) (by decide) ?_
    refine r_aload_n dX6_wake_10 rfl (by rfl) ?_
    refine gf_X6_11 rfl dX6_wake_11 (by first | assumption | rfl) (by rfl) ?_
    refine r_bipush (v := nI 15) dX6_wake_14 (by decide) ?_
    refine r_iload_n dX6_wake_16 rfl (by rfl) ?_
    refine r_iaddN dX6_wake_17 ?_
    refine r_iconst (v := nI 0) dX6_wake_18 (by decide) ?_
    refine r_iastN dX6_wake_19 (by first | assumption | rfl) (by omega) (by decide) ?_
    refine r_aload_n dX6_wake_20 rfl (by rfl) ?_
    refine gf_X6_11 rfl dX6_wake_21 (by first | assumption | rfl) (by rfl) ?_
    refine r_bipush (v := nI 30) dX6_wake_24 (by decide) ?_
    refine r_iload_n dX6_wake_26 rfl (by rfl) ?_
    refine r_iaddN dX6_wake_27 ?_
    refine r_iconst (v := nI 0) dX6_wake_28 (by decide) ?_
    refine r_iastN dX6_wake_29 (by first | assumption | rfl) (by omega) (by decide) ?_
    refine r_aload_n dX6_wake_30 rfl (by rfl) ?_
    refine gf_X6_11 rfl dX6_wake_31 (by first | assumption | rfl) (by rfl) ?_
    refine r_bipush (v := nI 41) dX6_wake_34 (by decide) ?_
    refine r_dup2 dX6_wake_36 rfl rfl ?_
    refine r_ialdN dX6_wake_37 (by first | assumption | rfl) (by omega) (by decide) ?_
    refine r_iconst (v := nI 1) dX6_wake_38 (by decide) ?_
    refine r_iadd dX6_wake_39 ?_
    refine r_iastN dX6_wake_40 (by first | assumption | rfl) (by omega) (by decide) ?_
    refine r_ret rfl dX6_wake_41 ?_
    refine ⟨rfl, ?_⟩
    simp only [xu1, xr_xr, xr_s]
    rfl
set_option maxHeartbeats 8000000 in
set_option maxRecDepth 20000 in
theorem c_X6_call {c0 p : Nat} {x : XS} (hN : IsN c0) (hp : p < 5) : MM mX6_call 1 0 0 [.ref c0, .int (nI p)] x (fun v x1 => v = some (.int (bI (asl (x (c0 + 1)) p))) ∧ x1 = xr x (c0 + 1) (callR (x (c0 + 1)) p)) NoT := by
  refine MM.of (by decide) (Nat.le_of_ble_eq_true rfl) ?_
  have hN0 := hN
  have n0 := n_o hN
  have n1 := n_1 hN
  have n2 := n_2 hN
  have n3 := n_3 hN
  have n4 := n_4 hN
  have n5 := n_5 hN
  have y3 := lay_3
  have y4 := lay_4
  have y5 := lay_5
  have y6 := lay_6
  have y7 := lay_7
  have y8 := lay_8
  have y9 := lay_9
  have y10 := lay_10
  have y11 := lay_11
  have y12 := lay_12
  have y23 := lay_23
  rcases hN with rfl | rfl
  all_goals
    refine r_aload_n dX6_call_0 rfl (by rfl) ?_
    refine r_iload_n dX6_call_1 rfl (by rfl) ?_
    refine r_callV (c_X6_isAsleep hN0 (by omega)) mv_X6_isAsleep ml_X6_67 ⟨by decide, by decide⟩ dX6_call_2 (by first | assumption | rfl) rfl rfl rfl (Nat.le_of_ble_eq_true rfl) (fun v9 x9 h9 => ?_)
    obtain ⟨rfl, h9⟩ := h9
    refine PW.xeq h9 ?_
    clear h9 x9
    refine r_if_neB (tgt := 10) dX6_call_5 (by decide) (fun h5 => ?_) (fun h5 => ?_)
    · refine r_aload_n dX6_call_10 rfl (by rfl) ?_
      refine r_iload_n dX6_call_11 rfl (by rfl) ?_
      refine r_callV (c_X6_wake hN0 (by omega)) mv_X6_wake ml_X6_125 ⟨by decide, by decide⟩ dX6_call_12 (by first | assumption | rfl) rfl rfl rfl (Nat.le_of_ble_eq_true rfl) (fun v9 x9 h9 => ?_)
      obtain ⟨rfl, h9⟩ := h9
      refine PW.xeq h9 ?_
      clear h9 x9
      refine r_iconst (v := nI 1) dX6_call_15 (by decide) ?_
      refine r_zret rfl (by first | exact bI_01 _ | exact Or.inl rfl | exact Or.inr rfl) dX6_call_16 ?_
      unfold callR
      rw [h5]
      first | exact ⟨rfl, (xr_id x _).symm⟩ | exact ⟨rfl, rfl⟩
    · refine r_iconst (v := nI 0) dX6_call_8 (by decide) ?_
      refine r_zret rfl (by first | exact bI_01 _ | exact Or.inl rfl | exact Or.inr rfl) dX6_call_9 ?_
      unfold callR
      rw [h5]
      first | exact ⟨rfl, (xr_id x _).symm⟩ | exact ⟨rfl, rfl⟩
set_option maxHeartbeats 8000000 in
set_option maxRecDepth 20000 in
theorem c_X6_keepAwake {c0 p : Nat} {k : Int32} {x : XS} (hN : IsN c0) (hp : p < 5) : MM mX6_keepAwake 0 0 0 [.ref c0, .int (nI p), .int k] x (fun v x1 => v = none ∧ x1 = xu x (c0 + 2) p (x (c0 + 1) 40 + k)) NoT := by
  refine MM.of (by decide) (Nat.le_of_ble_eq_true rfl) ?_
  have hN0 := hN
  have n0 := n_o hN
  have n1 := n_1 hN
  have n2 := n_2 hN
  have n3 := n_3 hN
  have n4 := n_4 hN
  have n5 := n_5 hN
  have y3 := lay_3
  have y4 := lay_4
  have y5 := lay_5
  have y6 := lay_6
  have y7 := lay_7
  have y8 := lay_8
  have y9 := lay_9
  have y10 := lay_10
  have y11 := lay_11
  have y12 := lay_12
  have y23 := lay_23
  rcases hN with rfl | rfl
  all_goals
    refine r_aload_n dX6_keepAwake_0 rfl (by rfl) ?_
    refine gf_X6_15 rfl dX6_keepAwake_1 (by first | assumption | rfl) (by rfl) ?_
    refine r_iload_n dX6_keepAwake_4 rfl (by rfl) ?_
    refine r_aload_n dX6_keepAwake_5 rfl (by rfl) ?_
    refine gf_X6_11 rfl dX6_keepAwake_6 (by first | assumption | rfl) (by rfl) ?_
    refine r_bipush (v := nI 40) dX6_keepAwake_9 (by decide) ?_
    refine r_ialdN dX6_keepAwake_11 (by first | assumption | rfl) (by omega) (by decide) ?_
    refine r_iload_n dX6_keepAwake_12 rfl (by rfl) ?_
    refine r_iadd dX6_keepAwake_13 ?_
    refine r_iastN dX6_keepAwake_14 (by first | assumption | rfl) (by omega) (by decide) ?_
    refine r_ret rfl dX6_keepAwake_15 ?_
    exact ⟨rfl, rfl⟩
set_option maxHeartbeats 8000000 in
set_option maxRecDepth 20000 in
theorem c_X6_sleptSince {c0 c1 p : Nat} {x : XS} (hN : IsN c0) (hN1 : IsN c1) (hp : p < 5) : MM mX6_sleptSince 0 0 0 [.ref c0, .ref c1, .int (nI p)] x (fun v x1 => v = some (.int (x (c0 + 1) (25 + p) - x (c1 + 1) (25 + p))) ∧ x1 = x) NoT := by
  refine MM.of (by decide) (Nat.le_of_ble_eq_true rfl) ?_
  have n0 := n_o hN
  have n1 := n_1 hN
  have m0 := n_o hN1
  have m1 := n_1 hN1
  refine r_aload_n dX6_sleptSince_0 rfl (by rfl) ?_
  refine gf_X6_11 rfl dX6_sleptSince_1 (by first | assumption | rfl) (by rfl) ?_
  refine r_bipush (v := nI 25) dX6_sleptSince_4 (by decide) ?_
  refine r_iload_n dX6_sleptSince_6 rfl (by rfl) ?_
  refine r_iaddN dX6_sleptSince_7 ?_
  refine r_ialdN dX6_sleptSince_8 (by first | assumption | rfl) (by omega) (by decide) ?_
  refine r_aload_n dX6_sleptSince_9 rfl (by rfl) ?_
  refine gf_X6_11 rfl dX6_sleptSince_10 (by first | assumption | rfl) (by rfl) ?_
  refine r_bipush (v := nI 25) dX6_sleptSince_13 (by decide) ?_
  refine r_iload_n dX6_sleptSince_15 rfl (by rfl) ?_
  refine r_iaddN dX6_sleptSince_16 ?_
  refine r_ialdN dX6_sleptSince_17 (by first | assumption | rfl) (by omega) (by decide) ?_
  refine r_isub dX6_sleptSince_18 ?_
  refine r_iret rfl dX6_sleptSince_19 ?_
  exact ⟨rfl, rfl⟩
