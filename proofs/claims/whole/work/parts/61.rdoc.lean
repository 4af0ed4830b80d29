/-! THE REFERENCE: the doctor; counts; undoing, images -/
set_option maxHeartbeats 8000000 in
set_option maxRecDepth 20000 in
theorem n_power {b n : Nat} {x : XS} (hn : n ≤ 10) : MM mX10_power 0 0 0 [.long (lN b), .int (nI n)] x (fun v y => v = some (.long (lN (b ^ n))) ∧ y = x) NoT := by
  refine MM.of (by decide) (Nat.le_of_ble_eq_true rfl) ?_
  refine r_lconst (v := 1) dX10_power_0 (by decide) ?_
  refine r_lstore_n dX10_power_1 rfl (by decide) ?_
  refine r_iconst (v := nI 0) dX10_power_2 (by decide) ?_
  refine r_istore dX10_power_3 (by decide) ?_
  refine PW.loop (σ := Nat) (fun i => n - i) (fun i => i ≤ n) (fun i => [(0, .long (lN b)), (2, .int (nI n)), (3, .long (lN (b ^ i))), (5, .int (nI i))]) (fun _ => x) (0) (Nat.zero_le n) rfl rfl (fun i hi ih => ?_)
  refine r_iload dX10_power_5 (by rfl) ?_
  refine r_iload_n dX10_power_7 rfl (by rfl) ?_
  refine r_icmp_geN (tgt := 21) dX10_power_8 (by decide) (by omega) (by omega) (fun h8 => ?_) (fun h8 => ?_)
  · refine r_lload_n dX10_power_21 rfl (by rfl) ?_
    refine r_lret rfl dX10_power_22 ?_
    exact ⟨by rw [show n = i by omega], rfl⟩
  · refine r_lload_n dX10_power_11 rfl (by rfl) ?_
    refine r_lload_n dX10_power_12 rfl (by rfl) ?_
    refine r_lmul dX10_power_13 ?_
    refine PW.top (v' := .long (lN (b ^ (i + 1)))) (congrArg Value.long (by rw [lN_mul, ← Nat.pow_succ])) ?_
    refine r_lstore_n dX10_power_14 rfl (by decide) ?_
    refine r_iincN dX10_power_15 (by rfl) (by decide) ?_
    refine r_goto (tgt := 5) dX10_power_18 (by decide) ?_
    exact PW.lc (by rfl) rfl (ih (i + 1) (by omega) (by omega))
set_option maxHeartbeats 8000000 in
set_option maxRecDepth 20000 in
theorem n_meanOf {q k n : Nat} {x : XS} (hq : q ≤ 16) (hk : k ≤ 4) (hn : n ≤ 12) : MM mX10_meanOf 1 0 0 [.int (nI q), .int (nI k), .int (nI n)] x (fun v y => v = some (.long (lN (upN q k n))) ∧ y = x) NoT := by
  refine MM.of (by decide) (Nat.le_of_ble_eq_true rfl) ?_
  refine r_iload_n dX10_meanOf_0 rfl (by rfl) ?_
  refine r_iload_n dX10_meanOf_1 rfl (by rfl) ?_
  refine r_icmp_geN (tgt := 9) dX10_meanOf_2 (by decide) (by omega) (by omega) (fun h2 => ?_) (fun h2 => ?_)
  · refine r_iload_n dX10_meanOf_9 rfl (by rfl) ?_
    refine r_i2l dX10_meanOf_10 ?_
    refine PW.top (congrArg Value.long (nI_l (by omega))) ?_
    refine r_iload_n dX10_meanOf_11 rfl (by rfl) ?_
    refine r_callS (n_power (by omega)) ms_X10_power ml_X10_432 ⟨by decide, by decide⟩ dX10_meanOf_12 rfl (Nat.le_of_ble_eq_true rfl) (fun v9 x9 h9 => ?_)
    obtain ⟨rfl, h9⟩ := h9
    refine PW.xeq h9 ?_
    clear h9 x9
    refine r_bipush (v := nI 16) dX10_meanOf_15 (by decide) ?_
    refine r_iload_n dX10_meanOf_17 rfl (by rfl) ?_
    refine r_iload_n dX10_meanOf_18 rfl (by rfl) ?_
    refine r_isubN dX10_meanOf_19 (by omega) ?_
    refine r_bipush (v := nI 16) dX10_meanOf_20 (by decide) ?_
    refine r_iload_n dX10_meanOf_22 rfl (by rfl) ?_
    refine r_isubN dX10_meanOf_23 (by omega) ?_
    refine r_imulN dX10_meanOf_24 ?_
    refine r_iaddN dX10_meanOf_25 ?_
    refine r_i2l dX10_meanOf_26 ?_
    refine PW.top (congrArg Value.long (nI_l (by have : (n - k) * (16 - q) ≤ 12 * 16 := Nat.mul_le_mul (by omega) (by omega); omega))) ?_
    refine r_lmul dX10_meanOf_27 ?_
    first | refine PW.top (congrArg Value.long (show _ = lN (upN q k n) by rw [lN_mul]; unfold upN; rw [if_neg (by omega), Nat.mul_comm])) ?_ | refine PW.top (congrArg Value.long (show (0 : Int64) = lN (upN q k n) by unfold upN; rw [if_pos (by omega)]; rfl)) ?_
    refine r_lret rfl dX10_meanOf_28 ?_
    exact ⟨rfl, rfl⟩
  · refine r_lconst (v := 0) dX10_meanOf_5 (by decide) ?_
    refine r_goto (tgt := 28) dX10_meanOf_6 (by decide) ?_
    first | refine PW.top (congrArg Value.long (show _ = lN (upN q k n) by rw [lN_mul]; unfold upN; rw [if_neg (by omega), Nat.mul_comm])) ?_ | refine PW.top (congrArg Value.long (show (0 : Int64) = lN (upN q k n) by unfold upN; rw [if_pos (by omega)]; rfl)) ?_
    refine r_lret rfl dX10_meanOf_28 ?_
    exact ⟨rfl, rfl⟩
theorem gcd_ne {a b : Nat} (h : 0 < b) : Nat.gcd a b ≠ 0 := Nat.pos_iff_ne_zero.mp (Nat.gcd_pos_of_pos_right _ h)
set_option maxHeartbeats 8000000 in
set_option maxRecDepth 20000 in
theorem n_least {a b u : Nat} {x : XS} (ha : a < 2 ^ 30) (hb : b < 2 ^ 30) (hb0 : 0 < b) (hu : u < 2) : MM mX10_least 0 0 0 [.long (lN a), .long (lN b), .int (nI u)] x (fun v y => v = some (.long (lN (if nI u = nI 0 then a / Nat.gcd a b else b / Nat.gcd a b))) ∧ y = x) NoT := by
  refine MM.of (by decide) (Nat.le_of_ble_eq_true rfl) ?_
  refine r_lload_n dX10_least_0 rfl (by rfl) ?_
  refine r_lstore dX10_least_1 (by decide) ?_
  refine r_lload_n dX10_least_3 rfl (by rfl) ?_
  refine r_lstore dX10_least_4 (by decide) ?_
  refine PW.loop (σ := Nat × Nat) (fun s => s.2) (fun s => s.1 < 2 ^ 30 ∧ s.2 < 2 ^ 30 ∧ Nat.gcd s.1 s.2 = Nat.gcd a b) (fun s => [(0, .long (lN a)), (2, .long (lN b)), (4, .int (nI u)), (5, .long (lN s.1)), (7, .long (lN s.2))]) (fun _ => x) ((a, b)) (⟨ha, hb, rfl⟩) rfl rfl (fun s hs ih => ?_)
  obtain ⟨hsa, hsb, hg⟩ := hs
  refine r_lload dX10_least_6 (by rfl) ?_
  refine r_lconst (v := 0) dX10_least_8 (by decide) ?_
  refine r_lcmp dX10_least_9 ?_
  refine r_if_eq (tgt := 31) dX10_least_10 (by decide) (fun h10 => ?_) (fun h10 => ?_)
  · have b0 : s.2 = 0 := (lN_eq (by omega) (by decide)).mp ((lg_cmp_eq _ _).mp h10)
    rw [b0, Nat.gcd_zero_right] at hg
    have g0 : 0 < Nat.gcd a b := Nat.gcd_pos_of_pos_right _ hb0
    have g1 : Nat.gcd a b ≤ b := Nat.gcd_le_right _ hb0
    refine PW.lc (L' := [(0, .long (lN a)), (2, .long (lN b)), (4, .int (nI u)), (5, .long (lN (Nat.gcd a b)))]) (by rw [← hg]; rfl) rfl ?_
    refine r_iload dX10_least_31 (by rfl) ?_
    refine r_if_ne (tgt := 40) dX10_least_33 (by decide) (fun h33 => ?_) (fun h33 => ?_)
    · refine r_lload_n dX10_least_40 rfl (by rfl) ?_
      refine r_lload dX10_least_41 (by rfl) ?_
      refine r_ldiv dX10_least_43 (lN_ne (by omega) (by omega)) ?_
      refine PW.top (congrArg Value.long (pk_lDiv (by omega) (by omega) (by omega))) ?_
      refine r_lret rfl dX10_least_44 ?_
      refine ⟨congrArg some (congrArg Value.long (congrArg lN ?_)), rfl⟩
      first
        | (rw [if_pos (show nI u = nI 0 from h33)]; done)
        | (rw [if_neg (show ¬ nI u = nI 0 from h33)]; done)
    · refine r_lload_n dX10_least_36 rfl (by rfl) ?_
      refine r_goto (tgt := 41) dX10_least_37 (by decide) ?_
      refine r_lload dX10_least_41 (by rfl) ?_
      refine r_ldiv dX10_least_43 (lN_ne (by omega) (by omega)) ?_
      refine PW.top (congrArg Value.long (pk_lDiv (by omega) (by omega) (by omega))) ?_
      refine r_lret rfl dX10_least_44 ?_
      refine ⟨congrArg some (congrArg Value.long (congrArg lN ?_)), rfl⟩
      first
        | (rw [if_pos (show nI u = nI 0 from h33)]; done)
        | (rw [if_neg (show ¬ nI u = nI 0 from h33)]; done)
  · refine r_lload dX10_least_13 (by rfl) ?_
    refine r_lload dX10_least_15 (by rfl) ?_
    have hb1 : s.2 ≠ 0 := fun e => h10 ((lg_cmp_eq _ _).mpr (by rw [e]; rfl))
    refine r_lrem dX10_least_17 (lN_ne hb1 (by omega)) ?_
    refine PW.top (v' := .long (lN (s.1 % s.2))) (congrArg Value.long (pk_lRem (by omega) (by omega) (by omega))) ?_
    refine r_lstore dX10_least_18 (by decide) ?_
    refine r_lload dX10_least_20 (by rfl) ?_
    refine r_lstore dX10_least_22 (by decide) ?_
    refine r_lload dX10_least_24 (by rfl) ?_
    refine r_lstore dX10_least_26 (by decide) ?_
    refine r_goto (tgt := 6) dX10_least_28 (by decide) ?_
    have m1 := Nat.mod_lt s.1 (Nat.pos_of_ne_zero hb1)
    exact PW.lc (by rfl) rfl (ih (s.2, s.1 % s.2) ⟨(show s.2 < 2 ^ 30 by omega), (show s.1 % s.2 < 2 ^ 30 by omega), (gcd_step hb1).trans hg⟩ m1)
def RPX (x : XS) (r : Except Nat Int32) (a' : AS) (c1 : Nat) (val : Int64) : Option Value → XS → Prop := fun v y => RRf y a' ∧ LO x y ∧ (match r with
  | .ok _ => v = some (.long val) ∧ y 137 0 = nI 0
  | .error k => (∃ u, v = some (.long u)) ∧ y 137 0 = nI (if k = 0 then 1 else c1))
theorem ref_badL {x y : XS} {a : AS} {r : Except Nat Int32} {u val : Int64} {c1 : Nat} (hR : RRf x a) (hy : y = mayX (th0 x) c1 1) (h : r = .error 1) : RPX x r (bmp a r) c1 val (some (.long u)) y := by
  have w := ref_bad (u := 0) (r := r) (c1 := c1) hR hy h
  subst h
  exact ⟨w.1, w.2.1, ⟨u, rfl⟩, w.2.2.2⟩
set_option maxHeartbeats 8000000 in
set_option maxRecDepth 20000 in
theorem g_pauses {a : AS} {x : XS} {q9 k9 n9 u9 : Int32} (hR : RRf x a) : MM mX10_pauses 40 0 0 [.ref 137, .int q9, .int k9, .int n9, .int u9] x (RPX x (oPauses q9 k9 n9 u9) (bmp a (oPauses q9 k9 n9 u9)) 1 (pauV q9 k9 n9 u9)) NoT := by
  refine MM.of (by decide) (Nat.le_of_ble_eq_true rfl) ?_
  have y137 := lay_137
  refine r_aload_n dX10_pauses_0 rfl (by rfl) ?_
  refine r_iconst (v := nI 0) dX10_pauses_1 (by decide) ?_
  refine pf_X10_3 rfl dX10_pauses_2 (by first | assumption | rfl) (by rfl) ?_
  refine r_aload_n dX10_pauses_5 rfl (by rfl) ?_
  refine r_iload_n dX10_pauses_6 rfl (by rfl) ?_
  refine r_iconst (v := nI 0) dX10_pauses_7 (by decide) ?_
  refine r_bipush (v := nI 16) dX10_pauses_8 (by decide) ?_
  refine r_callS c_within10 ms_X10_within ml_X10_282 ⟨by decide, by decide⟩ dX10_pauses_10 rfl (Nat.le_of_ble_eq_true rfl) (fun v9 x9 h9 => ?_)
  obtain ⟨rfl, h9⟩ := h9
  refine PW.xeq h9 ?_
  clear h9 x9
  refine r_if_eqB (tgt := 49) dX10_pauses_13 (by decide) (fun h13 => ?_) (fun h13 => ?_)
  · refine r_iconst (v := nI 0) dX10_pauses_49 (by decide) ?_
    refine r_iconst (v := nI 1) dX10_pauses_50 (by decide) ?_
    refine r_iconst (v := nI 1) dX10_pauses_51 (by decide) ?_
    refine r_callV (c_may_0 xu_s (by decide) (by decide)) mv_X10_may ml_X10_203 ⟨by decide, by decide⟩ dX10_pauses_52 lay_137 rfl rfl rfl (Nat.le_of_ble_eq_true rfl) (fun v9 x9 h9 => ?_)
    obtain ⟨rfl, h9⟩ := h9
    refine PW.xeq h9 ?_
    clear h9 x9
    refine r_if_neB (tgt := 60) dX10_pauses_55 (by decide) (fun h => by cases h) (fun _ => ?_)
    refine r_lconst (v := 0) dX10_pauses_58 (by decide) ?_
    refine r_lret rfl dX10_pauses_59 ?_
    exact ref_badL hR rfl (by rw [oPauses, rq_f h13])
  · refine r_iload_n dX10_pauses_16 rfl (by rfl) ?_
    refine r_iconst (v := nI 1) dX10_pauses_17 (by decide) ?_
    refine r_iconst (v := nI 4) dX10_pauses_18 (by decide) ?_
    refine r_callS c_within10 ms_X10_within ml_X10_282 ⟨by decide, by decide⟩ dX10_pauses_19 rfl (Nat.le_of_ble_eq_true rfl) (fun v9 x9 h9 => ?_)
    obtain ⟨rfl, h9⟩ := h9
    refine PW.xeq h9 ?_
    clear h9 x9
    refine r_if_eqB (tgt := 49) dX10_pauses_22 (by decide) (fun h22 => ?_) (fun h22 => ?_)
    · refine r_iconst (v := nI 0) dX10_pauses_49 (by decide) ?_
      refine r_iconst (v := nI 1) dX10_pauses_50 (by decide) ?_
      refine r_iconst (v := nI 1) dX10_pauses_51 (by decide) ?_
      refine r_callV (c_may_0 xu_s (by decide) (by decide)) mv_X10_may ml_X10_203 ⟨by decide, by decide⟩ dX10_pauses_52 lay_137 rfl rfl rfl (Nat.le_of_ble_eq_true rfl) (fun v9 x9 h9 => ?_)
      obtain ⟨rfl, h9⟩ := h9
      refine PW.xeq h9 ?_
      clear h9 x9
      refine r_if_neB (tgt := 60) dX10_pauses_55 (by decide) (fun h => by cases h) (fun _ => ?_)
      refine r_lconst (v := 0) dX10_pauses_58 (by decide) ?_
      refine r_lret rfl dX10_pauses_59 ?_
      exact ref_badL hR rfl (by rw [oPauses, rq_t h13, rq_f h22])
    · refine r_iload_n dX10_pauses_25 rfl (by rfl) ?_
      refine r_iconst (v := nI 0) dX10_pauses_26 (by decide) ?_
      refine r_bipush (v := nI 12) dX10_pauses_27 (by decide) ?_
      refine r_callS c_within10 ms_X10_within ml_X10_282 ⟨by decide, by decide⟩ dX10_pauses_29 rfl (Nat.le_of_ble_eq_true rfl) (fun v9 x9 h9 => ?_)
      obtain ⟨rfl, h9⟩ := h9
      refine PW.xeq h9 ?_
      clear h9 x9
      refine r_if_eqB (tgt := 49) dX10_pauses_32 (by decide) (fun h32 => ?_) (fun h32 => ?_)
      · refine r_iconst (v := nI 0) dX10_pauses_49 (by decide) ?_
        refine r_iconst (v := nI 1) dX10_pauses_50 (by decide) ?_
        refine r_iconst (v := nI 1) dX10_pauses_51 (by decide) ?_
        refine r_callV (c_may_0 xu_s (by decide) (by decide)) mv_X10_may ml_X10_203 ⟨by decide, by decide⟩ dX10_pauses_52 lay_137 rfl rfl rfl (Nat.le_of_ble_eq_true rfl) (fun v9 x9 h9 => ?_)
        obtain ⟨rfl, h9⟩ := h9
        refine PW.xeq h9 ?_
        clear h9 x9
        refine r_if_neB (tgt := 60) dX10_pauses_55 (by decide) (fun h => by cases h) (fun _ => ?_)
        refine r_lconst (v := 0) dX10_pauses_58 (by decide) ?_
        refine r_lret rfl dX10_pauses_59 ?_
        exact ref_badL hR rfl (by rw [oPauses, rq_t h13, rq_t h22, rq_f h32])
      · refine r_iload dX10_pauses_35 (by rfl) ?_
        refine r_iconst (v := nI 0) dX10_pauses_37 (by decide) ?_
        refine r_iconst (v := nI 1) dX10_pauses_38 (by decide) ?_
        refine r_callS c_within10 ms_X10_within ml_X10_282 ⟨by decide, by decide⟩ dX10_pauses_39 rfl (Nat.le_of_ble_eq_true rfl) (fun v9 x9 h9 => ?_)
        obtain ⟨rfl, h9⟩ := h9
        refine PW.xeq h9 ?_
        clear h9 x9
        refine r_if_eqB (tgt := 49) dX10_pauses_42 (by decide) (fun h42 => ?_) (fun h42 => ?_)
        · refine r_iconst (v := nI 0) dX10_pauses_49 (by decide) ?_
          refine r_iconst (v := nI 1) dX10_pauses_50 (by decide) ?_
          refine r_iconst (v := nI 1) dX10_pauses_51 (by decide) ?_
          refine r_callV (c_may_0 xu_s (by decide) (by decide)) mv_X10_may ml_X10_203 ⟨by decide, by decide⟩ dX10_pauses_52 lay_137 rfl rfl rfl (Nat.le_of_ble_eq_true rfl) (fun v9 x9 h9 => ?_)
          obtain ⟨rfl, h9⟩ := h9
          refine PW.xeq h9 ?_
          clear h9 x9
          refine r_if_neB (tgt := 60) dX10_pauses_55 (by decide) (fun h => by cases h) (fun _ => ?_)
          refine r_lconst (v := 0) dX10_pauses_58 (by decide) ?_
          refine r_lret rfl dX10_pauses_59 ?_
          exact ref_badL hR rfl (by rw [oPauses, rq_t h13, rq_t h22, rq_t h32, rq_f h42])
        · refine r_iconst (v := nI 1) dX10_pauses_45 (by decide) ?_
          refine r_goto (tgt := 50) dX10_pauses_46 (by decide) ?_
          refine r_iconst (v := nI 1) dX10_pauses_50 (by decide) ?_
          refine r_iconst (v := nI 1) dX10_pauses_51 (by decide) ?_
          refine r_callV (c_may_1 xu_s) mv_X10_may ml_X10_203 ⟨by decide, by decide⟩ dX10_pauses_52 lay_137 rfl rfl rfl (Nat.le_of_ble_eq_true rfl) (fun v9 x9 h9 => ?_)
          obtain ⟨rfl, h9⟩ := h9
          refine PW.xeq h9 ?_
          clear h9 x9
          refine r_if_neB (tgt := 60) dX10_pauses_55 (by decide) (fun _ => ?_) (fun h => by cases h)
          obtain ⟨q, _, hq, rfl⟩ := inB_is (lo := 0) (hi := 16) h13 (by decide) (by decide)
          obtain ⟨k, hk1, hk, rfl⟩ := inB_is (lo := 1) (hi := 4) h22 (by decide) (by decide)
          obtain ⟨n, _, hn, rfl⟩ := inB_is (lo := 0) (hi := 12) h32 (by decide) (by decide)
          obtain ⟨u, _, hu, rfl⟩ := inB_is (lo := 0) (hi := 1) h42 (by decide) (by decide)
          have ul := upN_lt hq hk hn
          have bl := blN_lt hk
          refine r_iload_n dX10_pauses_60 rfl (by rfl) ?_
          refine r_iload_n dX10_pauses_61 rfl (by rfl) ?_
          refine r_iload_n dX10_pauses_62 rfl (by rfl) ?_
          refine r_callS (n_meanOf hq (by omega) hn) ms_X10_meanOf ml_X10_436 ⟨by decide, by decide⟩ dX10_pauses_63 rfl (Nat.le_of_ble_eq_true rfl) (fun v9 x9 h9 => ?_)
          obtain ⟨rfl, h9⟩ := h9
          refine PW.xeq h9 ?_
          clear h9 x9
          refine r_ldc2 kc_X10_440 dX10_pauses_66 ?_
          refine r_iload_n dX10_pauses_69 rfl (by rfl) ?_
          refine r_iconst (v := nI 1) dX10_pauses_70 (by decide) ?_
          refine r_iaddN dX10_pauses_71 ?_
          refine r_callS (n_power (b := 16) (by omega)) ms_X10_power ml_X10_432 ⟨by decide, by decide⟩ dX10_pauses_72 rfl (Nat.le_of_ble_eq_true rfl) (fun v9 x9 h9 => ?_)
          obtain ⟨rfl, h9⟩ := h9
          refine PW.xeq h9 ?_
          clear h9 x9
          refine r_iload dX10_pauses_75 (by rfl) ?_
          refine r_callS (n_least (a := upN q k n) (b := blN k) (by omega) (by omega) (by omega) (by omega)) ms_X10_least ml_X10_442 ⟨by decide, by decide⟩ dX10_pauses_77 rfl (Nat.le_of_ble_eq_true rfl) (fun v9 x9 h9 => ?_)
          obtain ⟨rfl, h9⟩ := h9
          refine PW.xeq h9 ?_
          clear h9 x9
          refine r_lret rfl dX10_pauses_80 ?_
          have e9 : oPauses (nI q) (nI k) (nI n) (nI u) = .ok (nI 0) := by rw [oPauses, rq_t h13, rq_t h22, rq_t h32, rq_t h42]
          rw [e9]
          refine ⟨hR.th, (th0_qf x).lo, ?_, rfl⟩
          refine congrArg some (congrArg Value.long ?_)
          unfold pauV
          rw [nN_nI (by omega), nN_nI (by omega), nN_nI (by omega)]
set_option maxHeartbeats 8000000 in
set_option maxRecDepth 20000 in
theorem g_doctor {a : AS} {x : XS} {k9 n9 : Int32} (hR : RRf x a) (hA : AI a) : RASK mX10_doctor [.ref 137, .int k9, .int n9] x a (oDoctor a k9 n9) 1 := by
  refine MM.of (by decide) (Nat.le_of_ble_eq_true rfl) ?_
  have y137 := lay_137
  refine r_aload_n dX10_doctor_0 rfl (by rfl) ?_
  refine r_iconst (v := nI 0) dX10_doctor_1 (by decide) ?_
  refine pf_X10_3 rfl dX10_doctor_2 (by first | assumption | rfl) (by rfl) ?_
  refine r_aload_n dX10_doctor_5 rfl (by rfl) ?_
  refine r_iload_n dX10_doctor_6 rfl (by rfl) ?_
  refine r_iconst (v := nI 1) dX10_doctor_7 (by decide) ?_
  refine r_iconst (v := nI 4) dX10_doctor_8 (by decide) ?_
  refine r_callS c_within10 ms_X10_within ml_X10_282 ⟨by decide, by decide⟩ dX10_doctor_9 rfl (Nat.le_of_ble_eq_true rfl) (fun v9 x9 h9 => ?_)
  obtain ⟨rfl, h9⟩ := h9
  refine PW.xeq h9 ?_
  clear h9 x9
  refine r_if_eqB (tgt := 29) dX10_doctor_12 (by decide) (fun h12 => ?_) (fun h12 => ?_)
  · refine r_iconst (v := nI 0) dX10_doctor_29 (by decide) ?_
    refine r_iconst (v := nI 1) dX10_doctor_30 (by decide) ?_
    refine r_iconst (v := nI 1) dX10_doctor_31 (by decide) ?_
    refine r_callV (c_may_0 xu_s (by decide) (by decide)) mv_X10_may ml_X10_203 ⟨by decide, by decide⟩ dX10_doctor_32 lay_137 rfl rfl rfl (Nat.le_of_ble_eq_true rfl) (fun v9 x9 h9 => ?_)
    obtain ⟨rfl, h9⟩ := h9
    refine PW.xeq h9 ?_
    clear h9 x9
    refine r_if_neB (tgt := 40) dX10_doctor_35 (by decide) (fun h => by cases h) (fun _ => ?_)
    refine r_iconst (v := nI 0) dX10_doctor_38 (by decide) ?_
    refine r_iret rfl dX10_doctor_39 ?_
    exact ref_bad hR rfl (by rw [oDoctor, rq_f h12])
  · refine r_iload_n dX10_doctor_15 rfl (by rfl) ?_
    refine r_iconst (v := nI 0) dX10_doctor_16 (by decide) ?_
    refine r_bipush (v := nI 12) dX10_doctor_17 (by decide) ?_
    refine r_callS c_within10 ms_X10_within ml_X10_282 ⟨by decide, by decide⟩ dX10_doctor_19 rfl (Nat.le_of_ble_eq_true rfl) (fun v9 x9 h9 => ?_)
    obtain ⟨rfl, h9⟩ := h9
    refine PW.xeq h9 ?_
    clear h9 x9
    refine r_if_eqB (tgt := 29) dX10_doctor_22 (by decide) (fun h22 => ?_) (fun h22 => ?_)
    · refine r_iconst (v := nI 0) dX10_doctor_29 (by decide) ?_
      refine r_iconst (v := nI 1) dX10_doctor_30 (by decide) ?_
      refine r_iconst (v := nI 1) dX10_doctor_31 (by decide) ?_
      refine r_callV (c_may_0 xu_s (by decide) (by decide)) mv_X10_may ml_X10_203 ⟨by decide, by decide⟩ dX10_doctor_32 lay_137 rfl rfl rfl (Nat.le_of_ble_eq_true rfl) (fun v9 x9 h9 => ?_)
      obtain ⟨rfl, h9⟩ := h9
      refine PW.xeq h9 ?_
      clear h9 x9
      refine r_if_neB (tgt := 40) dX10_doctor_35 (by decide) (fun h => by cases h) (fun _ => ?_)
      refine r_iconst (v := nI 0) dX10_doctor_38 (by decide) ?_
      refine r_iret rfl dX10_doctor_39 ?_
      exact ref_bad hR rfl (by rw [oDoctor, rq_t h12, rq_f h22])
    · refine r_iconst (v := nI 1) dX10_doctor_25 (by decide) ?_
      refine r_goto (tgt := 30) dX10_doctor_26 (by decide) ?_
      refine r_iconst (v := nI 1) dX10_doctor_30 (by decide) ?_
      refine r_iconst (v := nI 1) dX10_doctor_31 (by decide) ?_
      refine r_callV (c_may_1 xu_s) mv_X10_may ml_X10_203 ⟨by decide, by decide⟩ dX10_doctor_32 lay_137 rfl rfl rfl (Nat.le_of_ble_eq_true rfl) (fun v9 x9 h9 => ?_)
      obtain ⟨rfl, h9⟩ := h9
      refine PW.xeq h9 ?_
      clear h9 x9
      refine r_if_neB (tgt := 40) dX10_doctor_35 (by decide) (fun _ => ?_) (fun h => by cases h)
      obtain ⟨k, hk1, hk, rfl⟩ := inB_is (lo := 1) (hi := 4) h12 (by decide) (by decide)
      obtain ⟨n, _, hn, rfl⟩ := inB_is (lo := 0) (hi := 12) h22 (by decide) (by decide)
      refine r_iconst (v := nI 0) dX10_doctor_40 (by decide) ?_
      refine r_istore_n dX10_doctor_41 rfl (by decide) ?_
      refine PW.loop (σ := Nat) (fun s => 17 - s) (fun s => s ≤ 17 ∧ soonF (docF k n) (17 - s) s = soonF (docF k n) 17 0) (fun s => [(0, .ref 137), (1, .int (nI k)), (2, .int (nI n)), (3, .int (nI s))]) (fun _ => th0 x) (0) (⟨Nat.zero_le _, rfl⟩) rfl rfl (fun s hs ih => ?_)
      obtain ⟨hs1, hL⟩ := hs
      have bl := blN_lt hk
      have ul : s ≤ 16 → upN s k n < 2 ^ 30 := fun h => upN_lt h hk hn
      refine r_iload_n dX10_doctor_42 rfl (by rfl) ?_
      refine r_bipush (v := nI 16) dX10_doctor_43 (by decide) ?_
      refine r_icmp_gtN (tgt := 75) dX10_doctor_45 (by decide) (by omega) (by omega) (fun h45 => ?_) (fun h45 => ?_)
      · refine r_iconst (v := -1) dX10_doctor_75 (by decide) ?_
        refine r_iret rfl dX10_doctor_76 ?_
        refine ref_ok hR (th0_qf x) rfl ?_
        rw [oDoctor, rq_t h12, rq_t h22, nN_nI (by omega), nN_nI (by omega), ← hL, show 17 - s = 0 by omega, soonF]
      · refine r_iload_n dX10_doctor_48 rfl (by rfl) ?_
        refine r_iload_n dX10_doctor_49 rfl (by rfl) ?_
        refine r_iload_n dX10_doctor_50 rfl (by rfl) ?_
        refine r_callS (n_meanOf (by omega) (by omega) hn) ms_X10_meanOf ml_X10_436 ⟨by decide, by decide⟩ dX10_doctor_51 rfl (Nat.le_of_ble_eq_true rfl) (fun v9 x9 h9 => ?_)
        obtain ⟨rfl, h9⟩ := h9
        refine PW.xeq h9 ?_
        clear h9 x9
        refine r_ldc2 kc_X10_440 dX10_doctor_54 ?_
        refine r_iload_n dX10_doctor_57 rfl (by rfl) ?_
        refine r_iconst (v := nI 1) dX10_doctor_58 (by decide) ?_
        refine r_iaddN dX10_doctor_59 ?_
        refine r_callS (n_power (b := 16) (by omega)) ms_X10_power ml_X10_432 ⟨by decide, by decide⟩ dX10_doctor_60 rfl (Nat.le_of_ble_eq_true rfl) (fun v9 x9 h9 => ?_)
        obtain ⟨rfl, h9⟩ := h9
        refine PW.xeq h9 ?_
        clear h9 x9
        refine PW.top (show _ = Value.long (lN (blN k)) from rfl) ?_
        refine r_lcmp dX10_doctor_63 ?_
        refine r_if_lt (tgt := 69) dX10_doctor_64 (by decide) (fun h64 => ?_) (fun h64 => ?_)
        · refine r_iincN dX10_doctor_69 (by rfl) (by decide) ?_
          refine r_goto (tgt := 42) dX10_doctor_72 (by decide) ?_
          exact PW.lc (by rfl) rfl (ih (s + 1) ⟨(show s + 1 ≤ 17 by omega), (by
            rw [← hL, show 17 - s = (17 - (s + 1)) + 1 by omega, soonF, if_neg (by
              have h9 := (lN_lt (by omega) (by omega)).mp ((lg_cmp_lt _ _).mp h64)
              show ¬ decide _ = true
              rw [decide_eq_false (by omega)]
              decide)])⟩ (by omega))
        · refine r_iload_n dX10_doctor_67 rfl (by rfl) ?_
          refine r_iret rfl dX10_doctor_68 ?_
          refine ref_ok hR (th0_qf x) rfl ?_
          rw [oDoctor, rq_t h12, rq_t h22, nN_nI (by omega), nN_nI (by omega), ← hL, show 17 - s = (16 - s) + 1 by omega, soonF, if_pos (show docF k n s = true from decide_eq_true ((lN_le (by omega) (by omega)).mp ((lg_cmp_ge _ _).mp (Int32.not_lt.mp h64))))]
set_option maxHeartbeats 8000000 in
set_option maxRecDepth 20000 in
theorem g_status {a : AS} {x : XS} {v : Int32} (hR : RRf x a) (hA : AI a) : RASK mX10_status [.ref 137, .int v] x a (oStatus a v) 1 := by
  refine MM.of (by decide) (Nat.le_of_ble_eq_true rfl) ?_
  have y137 := lay_137
  have y138 := lay_138
  refine r_aload_n dX10_status_0 rfl (by rfl) ?_
  refine r_iconst (v := nI 0) dX10_status_1 (by decide) ?_
  refine pf_X10_3 rfl dX10_status_2 (by first | assumption | rfl) (by rfl) ?_
  refine r_iload_n dX10_status_5 rfl (by rfl) ?_
  refine r_iconst (v := nI 0) dX10_status_6 (by decide) ?_
  refine r_iconst (v := nI 1) dX10_status_7 (by decide) ?_
  refine r_callS c_within10 ms_X10_within ml_X10_282 ⟨by decide, by decide⟩ dX10_status_8 rfl (Nat.le_of_ble_eq_true rfl) (fun v9 x9 h9 => ?_)
  obtain ⟨rfl, h9⟩ := h9
  refine PW.xeq h9 ?_
  clear h9 x9
  refine r_if_eqB (tgt := 23) dX10_status_11 (by decide) (fun h11 => ?_) (fun h11 => ?_)
  · refine r_iconst (v := -1) dX10_status_23 (by decide) ?_
    refine r_iret rfl dX10_status_24 ?_
    refine ref_ok hR (th0_qf x) rfl ?_
    unfold oStatus
    first
      | (rcases (show k = 0 ∨ k = 1 by omega) with rfl | rfl
         · exact congrArg Except.ok hR.2.2.2.2.2.2.2.2.1.symm
         · exact congrArg Except.ok hR.2.2.2.2.2.2.2.2.2.symm)
      | (have v0 : ¬ v = nI 0 := fun e => by rw [e] at h11; exact absurd h11 (by decide +kernel)
         have v1 : ¬ v = nI 1 := fun e => by rw [e] at h11; exact absurd h11 (by decide +kernel)
         rw [if_neg v0, if_neg v1])
  · obtain ⟨k, _, hk, rfl⟩ := inB_is (lo := 0) (hi := 1) h11 (by decide) (by decide)
    refine r_aload_n dX10_status_14 rfl (by rfl) ?_
    refine gf_X10_7 rfl dX10_status_15 (by first | assumption | rfl) (by rfl) ?_
    refine r_iload_n dX10_status_18 rfl (by rfl) ?_
    refine r_ialdN dX10_status_19 (by first | assumption | rfl) (by omega) (by decide) ?_
    refine r_goto (tgt := 24) dX10_status_20 (by decide) ?_
    refine r_iret rfl dX10_status_24 ?_
    refine ref_ok hR (th0_qf x) rfl ?_
    unfold oStatus
    first
      | (rcases (show k = 0 ∨ k = 1 by omega) with rfl | rfl
         · exact congrArg Except.ok hR.2.2.2.2.2.2.2.2.1.symm
         · exact congrArg Except.ok hR.2.2.2.2.2.2.2.2.2.symm)
      | (have v0 : ¬ v = nI 0 := fun e => by rw [e] at h11; exact absurd h11 (by decide +kernel)
         have v1 : ¬ v = nI 1 := fun e => by rw [e] at h11; exact absurd h11 (by decide +kernel)
         rw [if_neg v0, if_neg v1])
set_option maxHeartbeats 8000000 in
set_option maxRecDepth 20000 in
theorem g_count {a : AS} {x : XS} {v : Int32} (hR : RRf x a) (hA : AI a) : RASK mX10_count [.ref 137, .int v] x a (oCount a v) 1 := by
  refine MM.of (by decide) (Nat.le_of_ble_eq_true rfl) ?_
  have y137 := lay_137
  refine r_aload_n dX10_count_0 rfl (by rfl) ?_
  refine r_iconst (v := nI 0) dX10_count_1 (by decide) ?_
  refine pf_X10_3 rfl dX10_count_2 (by first | assumption | rfl) (by rfl) ?_
  refine r_iload_n dX10_count_5 rfl (by rfl) ?_
  refine r_if_ne (tgt := 16) dX10_count_6 (by decide) (fun h6 => ?_) (fun h6 => ?_)
  · refine r_iload_n dX10_count_16 rfl (by rfl) ?_
    refine r_iconst (v := nI 1) dX10_count_17 (by decide) ?_
    refine r_icmp_ne (tgt := 28) dX10_count_18 (by decide) (fun h18 => ?_) (fun h18 => ?_)
    · refine r_iload_n dX10_count_28 rfl (by rfl) ?_
      refine r_iconst (v := nI 2) dX10_count_29 (by decide) ?_
      refine r_icmp_ne (tgt := 40) dX10_count_30 (by decide) (fun h30 => ?_) (fun h30 => ?_)
      · refine r_iconst (v := -1) dX10_count_40 (by decide) ?_
        refine r_iret rfl dX10_count_41 ?_
        refine ref_ok hR (th0_qf x) rfl ?_
        unfold oCount
        first
          | (rw [if_pos (show v = nI 0 from h6)]
             exact congrArg Except.ok hR.2.2.2.2.2.2.1.1.symm)
          | (rw [if_neg (show ¬ v = nI 0 from h6), if_pos h18]
             exact congrArg Except.ok hR.2.2.2.1.1.symm)
          | (rw [if_neg (show ¬ v = nI 0 from h6), if_neg h18, if_pos h30]
             exact congrArg Except.ok hR.2.2.2.2.2.1.1.symm)
          | (rw [if_neg (show ¬ v = nI 0 from h6), if_neg h18, if_neg h30])
      · refine r_aload_n dX10_count_33 rfl (by rfl) ?_
        refine gf_X10_172 rfl dX10_count_34 (by first | assumption | rfl) (by rfl) ?_
        refine r_goto (tgt := 41) dX10_count_37 (by decide) ?_
        refine r_iret rfl dX10_count_41 ?_
        refine ref_ok hR (th0_qf x) rfl ?_
        unfold oCount
        first
          | (rw [if_pos (show v = nI 0 from h6)]
             exact congrArg Except.ok hR.2.2.2.2.2.2.1.1.symm)
          | (rw [if_neg (show ¬ v = nI 0 from h6), if_pos h18]
             exact congrArg Except.ok hR.2.2.2.1.1.symm)
          | (rw [if_neg (show ¬ v = nI 0 from h6), if_neg h18, if_pos h30]
             exact congrArg Except.ok hR.2.2.2.2.2.1.1.symm)
          | (rw [if_neg (show ¬ v = nI 0 from h6), if_neg h18, if_neg h30])
    · refine r_aload_n dX10_count_21 rfl (by rfl) ?_
      refine gf_X10_98 rfl dX10_count_22 (by first | assumption | rfl) (by rfl) ?_
      refine r_goto (tgt := 41) dX10_count_25 (by decide) ?_
      refine r_iret rfl dX10_count_41 ?_
      refine ref_ok hR (th0_qf x) rfl ?_
      unfold oCount
      first
        | (rw [if_pos (show v = nI 0 from h6)]
           exact congrArg Except.ok hR.2.2.2.2.2.2.1.1.symm)
        | (rw [if_neg (show ¬ v = nI 0 from h6), if_pos h18]
           exact congrArg Except.ok hR.2.2.2.1.1.symm)
        | (rw [if_neg (show ¬ v = nI 0 from h6), if_neg h18, if_pos h30]
           exact congrArg Except.ok hR.2.2.2.2.2.1.1.symm)
        | (rw [if_neg (show ¬ v = nI 0 from h6), if_neg h18, if_neg h30])
  · refine r_aload_n dX10_count_9 rfl (by rfl) ?_
    refine gf_X10_175 rfl dX10_count_10 (by first | assumption | rfl) (by rfl) ?_
    refine r_goto (tgt := 41) dX10_count_13 (by decide) ?_
    refine r_iret rfl dX10_count_41 ?_
    refine ref_ok hR (th0_qf x) rfl ?_
    unfold oCount
    first
      | (rw [if_pos (show v = nI 0 from h6)]
         exact congrArg Except.ok hR.2.2.2.2.2.2.1.1.symm)
      | (rw [if_neg (show ¬ v = nI 0 from h6), if_pos h18]
         exact congrArg Except.ok hR.2.2.2.1.1.symm)
      | (rw [if_neg (show ¬ v = nI 0 from h6), if_neg h18, if_pos h30]
         exact congrArg Except.ok hR.2.2.2.2.2.1.1.symm)
      | (rw [if_neg (show ¬ v = nI 0 from h6), if_neg h18, if_neg h30])
def RCHG (M : MD) (as : List Value) (x : XS) (ra : Except Nat Int32 × AS) (c1 : Nat) : Prop := MM M 40 0 0 as x (RP x ra.1 ra.2 c1) NoT
theorem rchg_ok {x y : XS} {ra : Except Nat Int32 × AS} {w : Int32} {b : AS} {c1 : Nat} (h : ra = (.ok w, b)) (hR : RRf y b) (lo : LO x y) (h0 : y 137 0 = nI 0) : RP x ra.1 ra.2 c1 (some (.int w)) y := by
  subst h
  exact ⟨hR, lo, rfl, h0⟩
theorem rchg_er {x y : XS} {ra : Except Nat Int32 × AS} {a : AS} {u : Int32} {c1 : Nat} (hR : RRf x a) (hy : y = mayX (th0 x) c1 1) (h : ra = (.error 1, bmX a)) : RP x ra.1 ra.2 c1 (some (.int u)) y := by
  subst h
  exact ref_bad (r := .error 1) hR hy rfl
def und (x : XS) (w i : Nat) (j : Nat) : Int32 := if j < i then x 155 (42 * w + j) else x 153 j
def undX (x : XS) (w : Nat) : XS := xu (xr (xu (th0 x) 137 32 (nI w)) 153 (fun j => x 155 (42 * w + j))) 137 33 (nI 0)
theorem undo_RR {x : XS} {a : AS} {w : Nat} (hR : RRf x a) (hw : aWn a = w + 1) : RRf (undX x w) (oUndo a).2 := by
  obtain ⟨h1, h2, h3, h4, h5, h6, h7, h8, h9, h10⟩ := hR
  unfold oUndo
  rw [if_neg (by omega)]
  refine ⟨h1.fr (fun c hc => by unfold undX th0; rw [xu_n (by omega), xr_n (by omega), xu_n (by omega), xu_n (by omega)]) rfl rfl, h2, ?_, h4, h5, ⟨?_, by show aWn a - 1 ≤ 16; omega, fun i hi => ?_⟩, h7, rfl, h9, h10⟩
  · show RRow (aW a (aWn a - 1)) (fun j => x 155 (42 * w + j))
    rw [hw]
    exact h6.2.2 w (by omega)
  · show nI w = nI (aWn a - 1)
    rw [hw]
    rfl
  · have hi : i < aWn a - 1 := hi
    exact h6.2.2 i (by omega)
theorem und_0 (x : XS) (w : Nat) : xu (th0 x) 137 32 (nI w) = xr (xu (th0 x) 137 32 (nI w)) 153 (und x w 0) := by
  have e : und x w 0 = xu (th0 x) 137 32 (nI w) 153 := by
    funext j
    unfold und
    rw [if_neg (Nat.not_lt_zero _)]
    rfl
  rw [e, xr_id]
set_option maxHeartbeats 8000000 in
set_option maxRecDepth 20000 in
theorem g_undo {a : AS} {x : XS} (hR : RRf x a) (hA : AI a) : RCHG mX10_undo [.ref 137] x (oUndo a) 1 := by
  refine MM.of (by decide) (Nat.le_of_ble_eq_true rfl) ?_
  have y137 := lay_137
  have y153 := lay_153
  have y155 := lay_155
  have hw0 : th0 x 137 32 = nI (aWn a) := hR.2.2.2.2.2.1.1
  have h16 := hR.2.2.2.2.2.1.2.1
  refine r_aload_n dX10_undo_0 rfl (by rfl) ?_
  refine r_iconst (v := nI 0) dX10_undo_1 (by decide) ?_
  refine pf_X10_3 rfl dX10_undo_2 (by first | assumption | rfl) (by rfl) ?_
  refine r_aload_n dX10_undo_5 rfl (by rfl) ?_
  refine gf_X10_172 rfl dX10_undo_6 (by first | assumption | rfl) (by rfl) ?_
  refine PW.topi hw0 ?_
  refine r_if_ne (tgt := 14) dX10_undo_9 (by decide) (fun h9 => ?_) (fun h9 => ?_)
  · obtain ⟨w, hw⟩ : ∃ w, aWn a = w + 1 := ⟨aWn a - 1, by
      by_cases e : aWn a = 0
      · exact absurd (by rw [e]; rfl) h9
      · omega⟩
    refine r_aload_n dX10_undo_14 rfl (by rfl) ?_
    refine r_dup dX10_undo_15 rfl ?_
    refine gf_X10_172 rfl dX10_undo_16 (by first | assumption | rfl) (by rfl) ?_
    refine r_iconst (v := nI 1) dX10_undo_19 (by decide) ?_
    refine r_isub dX10_undo_20 ?_
    refine PW.topi (show _ = nI w by rw [show xu x 137 0 (nI 0) 137 32 = nI (w + 1) from (hw0.trans (by rw [hw]))]; exact nI_pred w) ?_
    refine pf_X10_172 rfl dX10_undo_21 (by first | assumption | rfl) (by rfl) ?_
    refine r_iconst (v := nI 0) dX10_undo_24 (by decide) ?_
    refine r_istore_n dX10_undo_25 rfl (by decide) ?_
    refine PW.loop (σ := Nat) (fun i => 42 - i) (fun i => i ≤ 42) (fun i => [(0, .ref 137), (1, .int (nI i))]) (fun i => xr (xu (th0 x) 137 32 (nI w)) 153 (und x w i)) (0) (Nat.zero_le _) rfl (und_0 x w) (fun i hi ih => ?_)
    have w16 : w < 16 := by omega
    refine r_iload_n dX10_undo_26 rfl (by rfl) ?_
    refine r_bipush (v := nI 42) dX10_undo_27 (by decide) ?_
    refine r_icmp_geN (tgt := 58) dX10_undo_29 (by decide) (by omega) (by omega) (fun h29 => ?_) (fun h29 => ?_)
    · refine PW.agr (x' := xr (xu (th0 x) 137 32 (nI w)) 153 (fun j => x 155 (42 * w + j))) (fun c k hk => ?_) ?_
      · by_cases hc : c = 153
        · subst hc
          rw [csz_153.1] at hk
          rw [xr_s, xr_s]
          unfold und
          rw [if_pos (by omega)]
        · rw [xr_n hc, xr_n hc]
      refine r_aload_n dX10_undo_58 rfl (by rfl) ?_
      refine r_iconst (v := nI 0) dX10_undo_59 (by decide) ?_
      refine pf_X10_178 rfl dX10_undo_60 (by first | assumption | rfl) (by rfl) ?_
      refine r_aload_n dX10_undo_63 rfl (by rfl) ?_
      refine gf_X10_172 rfl dX10_undo_64 (by first | assumption | rfl) (by rfl) ?_
      refine r_iret rfl dX10_undo_67 ?_
      refine rchg_ok (b := (oUndo a).2) (by unfold oUndo; rw [if_neg (by omega), hw]; rfl) (undo_RR hR hw) (fun c hc => ?_) rfl
      unfold th0
      rw [xu_n (by omega), xr_n (by omega), xu_n (by omega), xu_n (by omega)]
    · refine r_aload_n dX10_undo_32 rfl (by rfl) ?_
      refine gf_X10_62 rfl dX10_undo_33 (by first | assumption | rfl) (by rfl) ?_
      refine r_iload_n dX10_undo_36 rfl (by rfl) ?_
      refine r_aload_n dX10_undo_37 rfl (by rfl) ?_
      refine gf_X10_68 rfl dX10_undo_38 (by first | assumption | rfl) (by rfl) ?_
      refine r_bipush (v := nI 42) dX10_undo_41 (by decide) ?_
      refine r_aload_n dX10_undo_43 rfl (by rfl) ?_
      refine gf_X10_172 rfl dX10_undo_44 (by first | assumption | rfl) (by rfl) ?_
      refine PW.topi (show _ = nI w from rfl) ?_
      refine r_imulN dX10_undo_47 ?_
      refine r_iload_n dX10_undo_48 rfl (by rfl) ?_
      refine r_iaddN dX10_undo_49 ?_
      refine r_ialdN dX10_undo_50 (by first | assumption | rfl) (by omega) (by decide) ?_
      refine r_iastN dX10_undo_51 (by first | assumption | rfl) (by omega) (by decide) ?_
      refine r_iincN dX10_undo_52 (by rfl) (by decide) ?_
      refine r_goto (tgt := 26) dX10_undo_55 (by decide) ?_
      refine PW.lc (by rfl) ?_ (ih (i + 1) (by omega) (by omega))
      rw [xu_xr]
      congr 1
      funext j
      unfold upd und
      by_cases e : j = i
      · rw [if_pos e, if_pos (by omega), e]
        rfl
      · rw [if_neg e]
        by_cases e2 : j < i
        · rw [if_pos e2, if_pos (by omega)]
        · rw [if_neg e2, if_neg (by omega)]
  · refine r_iconst (v := -1) dX10_undo_12 (by decide) ?_
    refine r_iret rfl dX10_undo_13 ?_
    have e0 : aWn a = 0 := (nI_eq (by omega) (by decide)).mp (show nI (aWn a) = nI 0 from h9)
    exact rchg_ok (by unfold oUndo; rw [if_pos e0]) hR.th (th0_qf x).lo rfl
