/-! THE REFERENCE: both who hurry -/
set_option maxHeartbeats 8000000 in
set_option maxRecDepth 20000 in
theorem n_mine {w a b : Nat} {x : XS} (hw : w ≤ 1) (ha : a < 9) (hb : b < 9) : MM mX10_mine 0 0 0 [.ref 137, .int (nI w), .int (nI a), .int (nI b)] x (fun v y => v = some (.int (x 160 (2 * (9 * a + b) + w))) ∧ y = x) NoT := by
  refine MM.of (by decide) (Nat.le_of_ble_eq_true rfl) ?_
  have y137 := lay_137
  have y160 := lay_160
  refine r_aload_n dX10_mine_0 rfl (by rfl) ?_
  refine gf_X10_83 rfl dX10_mine_1 (by first | assumption | rfl) (by rfl) ?_
  refine r_iconst (v := nI 2) dX10_mine_4 (by decide) ?_
  refine r_bipush (v := nI 9) dX10_mine_5 (by decide) ?_
  refine r_iload_n dX10_mine_7 rfl (by rfl) ?_
  refine r_imulN dX10_mine_8 ?_
  refine r_iload_n dX10_mine_9 rfl (by rfl) ?_
  refine r_iaddN dX10_mine_10 ?_
  refine r_imulN dX10_mine_11 ?_
  refine r_iload_n dX10_mine_12 rfl (by rfl) ?_
  refine r_iaddN dX10_mine_13 ?_
  refine r_ialdN dX10_mine_14 (by first | assumption | rfl) (by omega) (by decide) ?_
  refine r_iret rfl dX10_mine_15 ?_
  exact ⟨rfl, rfl⟩
def rsR (x : XS) (a b : Nat) : Nat → Bool
  | 0 => true
  | c + 1 => rsR x a b c && (decide (x 160 (2 * (9 * c + b) + 0) ≤ x 160 (2 * (9 * a + b) + 0)) && decide (x 160 (2 * (9 * a + c) + 1) ≤ x 160 (2 * (9 * a + b) + 1)))
theorem rsR_f {x : XS} {a b c : Nat} (h : rsR x a b c = false) : ∀ j, rsR x a b (c + j) = false
  | 0 => h
  | j + 1 => by
    show (rsR x a b (c + j) && _) = false
    rw [rsR_f h j]
    rfl
theorem rsR_e {x : XS} {a b c n : Nat} (h : rsR x a b c = false) (hn : c ≤ n) : rsR x a b n = false := by
  have := rsR_f h (n - c)
  rwa [show c + (n - c) = n by omega] at this
def HTr (z : XS) (T1 T2 : Nat → Nat → Int32) (k : Nat) : Prop := ∀ a b, a ≤ k → b ≤ k → z 160 (2 * (9 * a + b)) = T1 a b ∧ z 160 (2 * (9 * a + b) + 1) = T2 a b
theorem rsR_P {z : XS} {T1 T2 : Nat → Nat → Int32} {k a b : Nat} (h : HTr z T1 T2 k) (ha : a ≤ k) (hb : b ≤ k) : ∀ c, c ≤ k + 1 → rsR z a b c = rsP T1 T2 a b c
  | 0, _ => rfl
  | c + 1, hc => by
    show (rsR z a b c && (decide (z 160 (2 * (9 * c + b)) ≤ z 160 (2 * (9 * a + b))) && decide (z 160 (2 * (9 * a + c) + 1) ≤ z 160 (2 * (9 * a + b) + 1)))) = _
    rw [rsR_P h ha hb c (by omega), (h c b (by omega) hb).1, (h a b ha hb).1, (h a c ha (by omega)).2, (h a b ha hb).2]
    rfl
def HH (T1 T2 : Nat → Nat → Int32) (k m : Nat) (s : Nat × Int32 × Int32) : Prop := s.1 ≤ m ∧ ((s.1 = 0 ∧ s.2.1 = -1 ∧ s.2.2 = nI 0) ∨ (0 < s.1 ∧ ∃ a b, a ≤ k ∧ b ≤ k ∧ s.2.1 = nI (100 * a + b) ∧ s.2.2 = T1 a b + T2 a b))
theorem huS_H {T1 T2 : Nat → Nat → Int32} {k a b m : Nat} {s : Nat × Int32 × Int32} (ha : a ≤ k) (hb : b ≤ k) (h : HH T1 T2 k m s) : HH T1 T2 k (m + 1) (huS T1 T2 k a b s) := by
  obtain ⟨h1, h2⟩ := h
  unfold huS
  split
  · split
    · exact ⟨by show s.1 + 1 ≤ m + 1; omega, Or.inr ⟨Nat.succ_pos _, a, b, ha, hb, rfl, rfl⟩⟩
    · rename_i e
      rcases h2 with h2 | ⟨_, h2⟩
      · exact absurd h2.1 e
      · exact ⟨by show s.1 + 1 ≤ m + 1; omega, Or.inr ⟨Nat.succ_pos _, h2⟩⟩
  · exact ⟨by omega, h2⟩
theorem huI_H {T1 T2 : Nat → Nat → Int32} {k a m : Nat} {s : Nat × Int32 × Int32} (ha : a ≤ k) (h : HH T1 T2 k m s) : ∀ b, b ≤ k + 1 → HH T1 T2 k (m + b) (huI T1 T2 k a s b)
  | 0, _ => h
  | b + 1, hb => huS_H ha (by omega) (huI_H ha h b (by omega))
theorem huO_H {T1 T2 : Nat → Nat → Int32} {k : Nat} : ∀ a, a ≤ k + 1 → HH T1 T2 k (a * (k + 1)) (huO T1 T2 k a)
  | 0, _ => ⟨Nat.zero_le _, Or.inl ⟨rfl, rfl, rfl⟩⟩
  | a + 1, ha => by
    have w := huI_H (show a ≤ k by omega) (huO_H (T1 := T1) (T2 := T2) (k := k) a (by omega)) (k + 1) (Nat.le_refl _)
    rw [Nat.succ_mul]
    exact w
theorem hh_0 {T1 T2 : Nat → Nat → Int32} {k m : Nat} {s : Nat × Int32 × Int32} (hk : k ≤ 8) (h : HH T1 T2 k m s) (e : s.2.1 = -1) : s.1 = 0 := by
  rcases h.2 with h2 | ⟨_, a, b, ha, hb, h2, _⟩
  · exact h2.1
  · exact absurd (h2.symm.trans e) (nI_ne1 (by omega))
theorem hh_1 {T1 T2 : Nat → Nat → Int32} {k m : Nat} {s : Nat × Int32 × Int32} (h : HH T1 T2 k m s) (e : ¬ s.2.1 = -1) : ¬ s.1 = 0 := by
  rcases h.2 with h2 | ⟨h3, _⟩
  · exact absurd h2.2.1 e
  · omega
set_option maxHeartbeats 8000000 in
set_option maxRecDepth 20000 in
theorem n_isRest {a b k : Nat} {x : XS} (ha : a < 9) (hb : b < 9) (hk : k < 9) : MM mX10_isRest 1 0 0 [.ref 137, .int (nI a), .int (nI b), .int (nI k)] x (fun v y => v = some (.int (bI (rsR x a b (k + 1)))) ∧ y = x) NoT := by
  refine MM.of (by decide) (Nat.le_of_ble_eq_true rfl) ?_
  have y137 := lay_137
  refine r_iconst (v := nI 0) dX10_isRest_0 (by decide) ?_
  refine r_istore dX10_isRest_1 (by decide) ?_
  refine PW.loop (σ := Nat) (fun c => k + 1 - c) (fun c => c ≤ k + 1 ∧ rsR x a b c = true) (fun c => [(0, .ref 137), (1, .int (nI a)), (2, .int (nI b)), (3, .int (nI k)), (4, .int (nI c))]) (fun _ => x) (0) (⟨Nat.zero_le _, rfl⟩) rfl rfl (fun c hc ch => ?_)
  have hc1 := hc.1
  refine r_iload dX10_isRest_3 (by rfl) ?_
  refine r_iload_n dX10_isRest_5 rfl (by rfl) ?_
  refine r_icmp_gtN (tgt := 53) dX10_isRest_6 (by decide) (by omega) (by omega) (fun h6 => ?_) (fun h6 => ?_)
  · refine r_iconst (v := nI 1) dX10_isRest_53 (by decide) ?_
    refine r_zret rfl (by first | exact bI_01 _ | exact Or.inl rfl | exact Or.inr rfl) dX10_isRest_54 ?_
    have e : c = k + 1 := by omega
    subst e
    exact ⟨by rw [hc.2]; rfl, rfl⟩
  · refine r_aload_n dX10_isRest_9 rfl (by rfl) ?_
    refine r_iconst (v := nI 0) dX10_isRest_10 (by decide) ?_
    refine r_iload dX10_isRest_11 (by rfl) ?_
    refine r_iload_n dX10_isRest_13 rfl (by rfl) ?_
    refine r_callV (n_mine (by omega) (by omega) (by omega)) mv_X10_mine ml_X10_398 ⟨by decide, by decide⟩ dX10_isRest_14 (by first | assumption | rfl) rfl rfl rfl (Nat.le_of_ble_eq_true rfl) (fun v9 x9 h9 => ?_)
    obtain ⟨rfl, h9⟩ := h9
    refine PW.xeq h9 ?_
    clear h9 x9
    refine r_aload_n dX10_isRest_17 rfl (by rfl) ?_
    refine r_iconst (v := nI 0) dX10_isRest_18 (by decide) ?_
    refine r_iload_n dX10_isRest_19 rfl (by rfl) ?_
    refine r_iload_n dX10_isRest_20 rfl (by rfl) ?_
    refine r_callV (n_mine (by omega) (by omega) (by omega)) mv_X10_mine ml_X10_398 ⟨by decide, by decide⟩ dX10_isRest_21 (by first | assumption | rfl) rfl rfl rfl (Nat.le_of_ble_eq_true rfl) (fun v9 x9 h9 => ?_)
    obtain ⟨rfl, h9⟩ := h9
    refine PW.xeq h9 ?_
    clear h9 x9
    refine r_icmp_gt (tgt := 45) dX10_isRest_24 (by decide) (fun h24 => ?_) (fun h24 => ?_)
    · refine r_iconst (v := nI 0) dX10_isRest_45 (by decide) ?_
      refine r_zret rfl (by first | exact bI_01 _ | exact Or.inl rfl | exact Or.inr rfl) dX10_isRest_46 ?_
      refine ⟨?_, rfl⟩
      have e : rsR x a b (c + 1) = false := by
        show (rsR x a b c && (_ && _)) = false
        first
          | (rw [decide_eq_false h24]; simp; done)
          | (rw [decide_eq_false (Int32.not_le.mpr h24)]; simp; done)
          | (rw [decide_eq_false h42]; simp; done)
          | (rw [decide_eq_false (Int32.not_le.mpr h42)]; simp; done)
      rw [rsR_e e (by omega)]
      rfl
    · refine r_aload_n dX10_isRest_27 rfl (by rfl) ?_
      refine r_iconst (v := nI 1) dX10_isRest_28 (by decide) ?_
      refine r_iload_n dX10_isRest_29 rfl (by rfl) ?_
      refine r_iload dX10_isRest_30 (by rfl) ?_
      refine r_callV (n_mine (by omega) (by omega) (by omega)) mv_X10_mine ml_X10_398 ⟨by decide, by decide⟩ dX10_isRest_32 (by first | assumption | rfl) rfl rfl rfl (Nat.le_of_ble_eq_true rfl) (fun v9 x9 h9 => ?_)
      obtain ⟨rfl, h9⟩ := h9
      refine PW.xeq h9 ?_
      clear h9 x9
      refine r_aload_n dX10_isRest_35 rfl (by rfl) ?_
      refine r_iconst (v := nI 1) dX10_isRest_36 (by decide) ?_
      refine r_iload_n dX10_isRest_37 rfl (by rfl) ?_
      refine r_iload_n dX10_isRest_38 rfl (by rfl) ?_
      refine r_callV (n_mine (by omega) (by omega) (by omega)) mv_X10_mine ml_X10_398 ⟨by decide, by decide⟩ dX10_isRest_39 (by first | assumption | rfl) rfl rfl rfl (Nat.le_of_ble_eq_true rfl) (fun v9 x9 h9 => ?_)
      obtain ⟨rfl, h9⟩ := h9
      refine PW.xeq h9 ?_
      clear h9 x9
      refine r_icmp_le (tgt := 47) dX10_isRest_42 (by decide) (fun h42 => ?_) (fun h42 => ?_)
      · refine r_iincN dX10_isRest_47 (by rfl) (by decide) ?_
        refine r_goto (tgt := 3) dX10_isRest_50 (by decide) ?_
        have e : rsR x a b (c + 1) = true := by
          show (rsR x a b c && (_ && _)) = true
          rw [hc.2]
          first
            | (rw [decide_eq_true h24, decide_eq_true h42]; rfl)
            | (rw [decide_eq_true (Int32.not_lt.mp h24), decide_eq_true h42]; rfl)
            | (rw [decide_eq_true (Int32.not_lt.mp h24), decide_eq_true (Int32.not_lt.mp h42)]; rfl)
        exact PW.lc (by rfl) rfl (ch (c + 1) ⟨by omega, e⟩ (by omega))
      · refine r_iconst (v := nI 0) dX10_isRest_45 (by decide) ?_
        refine r_zret rfl (by first | exact bI_01 _ | exact Or.inl rfl | exact Or.inr rfl) dX10_isRest_46 ?_
        refine ⟨?_, rfl⟩
        have e : rsR x a b (c + 1) = false := by
          show (rsR x a b c && (_ && _)) = false
          first
            | (rw [decide_eq_false h24]; simp; done)
            | (rw [decide_eq_false (Int32.not_le.mpr h24)]; simp; done)
            | (rw [decide_eq_false h42]; simp; done)
            | (rw [decide_eq_false (Int32.not_le.mpr h42)]; simp; done)
        rw [rsR_e e (by omega)]
        rfl
set_option maxHeartbeats 8000000 in
set_option maxRecDepth 20000 in
theorem g_hurry {a : AS} {x : XS} {v w k9 n9 u9 : Int32} (hR : RRf x a) (hA : AI a) : RASK mX10_hurry [.ref 137, .int v, .int w, .int k9, .int n9, .int u9] x a (oHurry a v w k9 n9 u9) 2 := by
  refine MM.of (by decide) (Nat.le_of_ble_eq_true rfl) ?_
  have y137 := lay_137
  have y153 := lay_153
  have y154 := lay_154
  have y160 := lay_160
  obtain ⟨t, ht2, ht⟩ := hA.t
  refine r_aload_n dX10_hurry_0 rfl (by rfl) ?_
  refine r_iconst (v := nI 0) dX10_hurry_1 (by decide) ?_
  refine pf_X10_3 rfl dX10_hurry_2 (by first | assumption | rfl) (by rfl) ?_
  refine r_aload_n dX10_hurry_5 rfl (by rfl) ?_
  refine r_iload_n dX10_hurry_6 rfl (by rfl) ?_
  refine r_iconst (v := nI 1) dX10_hurry_7 (by decide) ?_
  by_cases q8 : nobody v (eN (aE a)) = true
  · refine r_callV (c_isS_f hR.th.1.1 xu_s q8) mv_X10_isSleeper ml_X10_383 ⟨by decide, by decide⟩ dX10_hurry_8 lay_137 rfl rfl rfl (Nat.le_of_ble_eq_true rfl) (fun v9 x9 h9 => ?_)
    obtain ⟨rfl, h9⟩ := h9
    refine PW.xeq h9 ?_
    clear h9 x9
    refine r_if_eqB (tgt := 70) dX10_hurry_11 (by decide) (fun _ => ?_) (fun h => by cases h)
    refine r_iconst (v := nI 0) dX10_hurry_70 (by decide) ?_
    refine r_iret rfl dX10_hurry_71 ?_
    exact ref_nob hR rfl (by rw [oHurry, rqS_t q8])
  · have q8 := Bool.eq_false_iff.mpr q8
    obtain ⟨p, hp, rfl⟩ := nobody_f hR.1.2.1 q8
    have hp5 : p < 5 := Nat.lt_of_lt_of_le hp hR.1.2.1
    refine r_callV (c_isS_t hR.th.1.1 hR.1.2.1 xu_s hp) mv_X10_isSleeper ml_X10_383 ⟨by decide, by decide⟩ dX10_hurry_8 lay_137 rfl rfl rfl (Nat.le_of_ble_eq_true rfl) (fun v9 x9 h9 => ?_)
    obtain ⟨rfl, h9⟩ := h9
    refine PW.xeq h9 ?_
    clear h9 x9
    refine r_if_eqB (tgt := 70) dX10_hurry_11 (by decide) (fun h => by cases h) (fun _ => ?_)
    refine r_aload_n dX10_hurry_14 rfl (by rfl) ?_
    refine r_iload_n dX10_hurry_15 rfl (by rfl) ?_
    refine r_iconst (v := nI 1) dX10_hurry_16 (by decide) ?_
    by_cases q17 : nobody w (eN (aE a)) = true
    · refine r_callV (c_isS_f hR.th.1.1 xu_s q17) mv_X10_isSleeper ml_X10_383 ⟨by decide, by decide⟩ dX10_hurry_17 lay_137 rfl rfl rfl (Nat.le_of_ble_eq_true rfl) (fun v9 x9 h9 => ?_)
      obtain ⟨rfl, h9⟩ := h9
      refine PW.xeq h9 ?_
      clear h9 x9
      refine r_if_eqB (tgt := 70) dX10_hurry_20 (by decide) (fun _ => ?_) (fun h => by cases h)
      refine r_iconst (v := nI 0) dX10_hurry_70 (by decide) ?_
      refine r_iret rfl dX10_hurry_71 ?_
      exact ref_nob hR rfl (by rw [oHurry, rqS_f q8, rqS_t q17])
    · have q17 := Bool.eq_false_iff.mpr q17
      obtain ⟨q, hq, rfl⟩ := nobody_f hR.1.2.1 q17
      have hq5 : q < 5 := Nat.lt_of_lt_of_le hq hR.1.2.1
      refine r_callV (c_isS_t hR.th.1.1 hR.1.2.1 xu_s hq) mv_X10_isSleeper ml_X10_383 ⟨by decide, by decide⟩ dX10_hurry_17 lay_137 rfl rfl rfl (Nat.le_of_ble_eq_true rfl) (fun v9 x9 h9 => ?_)
      obtain ⟨rfl, h9⟩ := h9
      refine PW.xeq h9 ?_
      clear h9 x9
      refine r_if_eqB (tgt := 70) dX10_hurry_20 (by decide) (fun h => by cases h) (fun _ => ?_)
      refine r_aload_n dX10_hurry_23 rfl (by rfl) ?_
      refine r_iload_n dX10_hurry_24 rfl (by rfl) ?_
      refine r_iload_n dX10_hurry_25 rfl (by rfl) ?_
      refine r_icmp_eqN (tgt := 61) dX10_hurry_26 (by decide) (by omega) (by omega) (fun h26 => ?_) (fun h26 => ?_)
      · refine r_iconst (v := nI 0) dX10_hurry_61 (by decide) ?_
        refine r_iconst (v := nI 2) dX10_hurry_62 (by decide) ?_
        refine r_iconst (v := nI 1) dX10_hurry_63 (by decide) ?_
        refine r_callV (c_may_0 xu_s (by decide) (by decide)) mv_X10_may ml_X10_203 ⟨by decide, by decide⟩ dX10_hurry_64 lay_137 rfl rfl rfl (Nat.le_of_ble_eq_true rfl) (fun v9 x9 h9 => ?_)
        obtain ⟨rfl, h9⟩ := h9
        refine PW.xeq h9 ?_
        clear h9 x9
        refine r_if_neB (tgt := 72) dX10_hurry_67 (by decide) (fun h => by cases h) (fun _ => ?_)
        refine r_iconst (v := nI 0) dX10_hurry_70 (by decide) ?_
        refine r_iret rfl dX10_hurry_71 ?_
        exact ref_bad hR rfl (by rw [oHurry, rqS_f q8, rqS_f q17, rqN_f h26])
      · refine r_iload_n dX10_hurry_29 rfl (by rfl) ?_
        refine r_iconst (v := nI 0) dX10_hurry_30 (by decide) ?_
        refine r_bipush (v := nI 8) dX10_hurry_31 (by decide) ?_
        refine r_callS c_within10 ms_X10_within ml_X10_282 ⟨by decide, by decide⟩ dX10_hurry_33 rfl (Nat.le_of_ble_eq_true rfl) (fun v9 x9 h9 => ?_)
        obtain ⟨rfl, h9⟩ := h9
        refine PW.xeq h9 ?_
        clear h9 x9
        refine r_if_eqB (tgt := 61) dX10_hurry_36 (by decide) (fun h36 => ?_) (fun h36 => ?_)
        · refine r_iconst (v := nI 0) dX10_hurry_61 (by decide) ?_
          refine r_iconst (v := nI 2) dX10_hurry_62 (by decide) ?_
          refine r_iconst (v := nI 1) dX10_hurry_63 (by decide) ?_
          refine r_callV (c_may_0 xu_s (by decide) (by decide)) mv_X10_may ml_X10_203 ⟨by decide, by decide⟩ dX10_hurry_64 lay_137 rfl rfl rfl (Nat.le_of_ble_eq_true rfl) (fun v9 x9 h9 => ?_)
          obtain ⟨rfl, h9⟩ := h9
          refine PW.xeq h9 ?_
          clear h9 x9
          refine r_if_neB (tgt := 72) dX10_hurry_67 (by decide) (fun h => by cases h) (fun _ => ?_)
          refine r_iconst (v := nI 0) dX10_hurry_70 (by decide) ?_
          refine r_iret rfl dX10_hurry_71 ?_
          exact ref_bad hR rfl (by rw [oHurry, rqS_f q8, rqS_f q17, rqN_t hp5 hq5 h26, rq_f h36])
        · refine r_iload dX10_hurry_39 (by rfl) ?_
          refine r_callS c_isFew ms_X10_isFew ml_X10_401 ⟨by decide, by decide⟩ dX10_hurry_41 rfl (Nat.le_of_ble_eq_true rfl) (fun v9 x9 h9 => ?_)
          obtain ⟨rfl, h9⟩ := h9
          refine PW.xeq h9 ?_
          clear h9 x9
          refine r_if_eqB (tgt := 61) dX10_hurry_44 (by decide) (fun h44 => ?_) (fun h44 => ?_)
          · refine r_iconst (v := nI 0) dX10_hurry_61 (by decide) ?_
            refine r_iconst (v := nI 2) dX10_hurry_62 (by decide) ?_
            refine r_iconst (v := nI 1) dX10_hurry_63 (by decide) ?_
            refine r_callV (c_may_0 xu_s (by decide) (by decide)) mv_X10_may ml_X10_203 ⟨by decide, by decide⟩ dX10_hurry_64 lay_137 rfl rfl rfl (Nat.le_of_ble_eq_true rfl) (fun v9 x9 h9 => ?_)
            obtain ⟨rfl, h9⟩ := h9
            refine PW.xeq h9 ?_
            clear h9 x9
            refine r_if_neB (tgt := 72) dX10_hurry_67 (by decide) (fun h => by cases h) (fun _ => ?_)
            refine r_iconst (v := nI 0) dX10_hurry_70 (by decide) ?_
            refine r_iret rfl dX10_hurry_71 ?_
            exact ref_bad hR rfl (by rw [oHurry, rqS_f q8, rqS_f q17, rqN_t hp5 hq5 h26, rq_t h36, rq_f h44])
          · refine r_iload dX10_hurry_47 (by rfl) ?_
            refine r_iconst (v := nI 0) dX10_hurry_49 (by decide) ?_
            refine r_iconst (v := nI 2) dX10_hurry_50 (by decide) ?_
            refine r_callS c_within10 ms_X10_within ml_X10_282 ⟨by decide, by decide⟩ dX10_hurry_51 rfl (Nat.le_of_ble_eq_true rfl) (fun v9 x9 h9 => ?_)
            obtain ⟨rfl, h9⟩ := h9
            refine PW.xeq h9 ?_
            clear h9 x9
            refine r_if_eqB (tgt := 61) dX10_hurry_54 (by decide) (fun h54 => ?_) (fun h54 => ?_)
            · refine r_iconst (v := nI 0) dX10_hurry_61 (by decide) ?_
              refine r_iconst (v := nI 2) dX10_hurry_62 (by decide) ?_
              refine r_iconst (v := nI 1) dX10_hurry_63 (by decide) ?_
              refine r_callV (c_may_0 xu_s (by decide) (by decide)) mv_X10_may ml_X10_203 ⟨by decide, by decide⟩ dX10_hurry_64 lay_137 rfl rfl rfl (Nat.le_of_ble_eq_true rfl) (fun v9 x9 h9 => ?_)
              obtain ⟨rfl, h9⟩ := h9
              refine PW.xeq h9 ?_
              clear h9 x9
              refine r_if_neB (tgt := 72) dX10_hurry_67 (by decide) (fun h => by cases h) (fun _ => ?_)
              refine r_iconst (v := nI 0) dX10_hurry_70 (by decide) ?_
              refine r_iret rfl dX10_hurry_71 ?_
              exact ref_bad hR rfl (by rw [oHurry, rqS_f q8, rqS_f q17, rqN_t hp5 hq5 h26, rq_t h36, rq_t h44, rq_f h54])
            · refine r_iconst (v := nI 1) dX10_hurry_57 (by decide) ?_
              refine r_goto (tgt := 62) dX10_hurry_58 (by decide) ?_
              refine r_iconst (v := nI 2) dX10_hurry_62 (by decide) ?_
              refine r_iconst (v := nI 1) dX10_hurry_63 (by decide) ?_
              refine r_callV (c_may_1 xu_s) mv_X10_may ml_X10_203 ⟨by decide, by decide⟩ dX10_hurry_64 lay_137 rfl rfl rfl (Nat.le_of_ble_eq_true rfl) (fun v9 x9 h9 => ?_)
              obtain ⟨rfl, h9⟩ := h9
              refine PW.xeq h9 ?_
              clear h9 x9
              refine r_if_neB (tgt := 72) dX10_hurry_67 (by decide) (fun _ => ?_) (fun h => by cases h)
              obtain ⟨k, _, hk, rfl⟩ := inB_is (lo := 0) (hi := 8) h36 (by decide) (by decide)
              obtain ⟨n, _, hn, rfl⟩ := inB_is (lo := 0) (hi := 120) h44 (by decide) (by decide)
              obtain ⟨u, _, hu, rfl⟩ := inB_is (lo := 0) (hi := 2) h54 (by decide) (by decide)
              refine r_iconst (v := nI 0) dX10_hurry_72 (by decide) ?_
              refine r_istore dX10_hurry_73 (by decide) ?_
              refine PW.loop (σ := Nat × XS) (fun o => k + 1 - o.1) (fun o => o.1 ≤ k + 1 ∧ QF x o.2 ∧ o.2 137 0 = nI 0 ∧ (∀ a9 b9, a9 < o.1 → b9 ≤ k → o.2 160 (2 * (9 * a9 + b9)) = (hT1 (aE a) (aR a) p q n) a9 b9 ∧ o.2 160 (2 * (9 * a9 + b9) + 1) = (hT2 (aE a) (aR a) p q n) a9 b9)) (fun o => [(0, .ref 137), (1, .int (nI p)), (2, .int (nI q)), (3, .int (nI k)), (4, .int (nI n)), (5, .int (nI u)), (6, .int (nI o.1))]) (fun o => o.2) ((0, th0 x)) (⟨Nat.zero_le _, th0_qf x, rfl, fun a9 b9 h9 => absurd h9 (Nat.not_lt_zero _)⟩) rfl rfl (fun o ho oh => ?_)
              obtain ⟨ho1, hF, z0, hL⟩ := ho
              refine r_iload dX10_hurry_75 (by rfl) ?_
              refine r_iload_n dX10_hurry_77 rfl (by rfl) ?_
              refine r_icmp_gtN (tgt := 184) dX10_hurry_78 (by decide) (by omega) (by omega) (fun h78 => ?_) (fun h78 => ?_)
              · refine r_iconst (v := nI 0) dX10_hurry_184 (by decide) ?_
                refine r_istore dX10_hurry_185 (by decide) ?_
                refine r_iconst (v := -1) dX10_hurry_187 (by decide) ?_
                refine r_istore dX10_hurry_188 (by decide) ?_
                refine r_iconst (v := nI 0) dX10_hurry_190 (by decide) ?_
                refine r_istore dX10_hurry_191 (by decide) ?_
                replace hL : HTr o.2 (hT1 (aE a) (aR a) p q n) (hT2 (aE a) (aR a) p q n) k := fun a9 b9 h1 h2 => hL a9 b9 (by omega) h2
                refine PW.loop (σ := Nat) (fun u2 => k + 1 - u2) (fun u2 => u2 ≤ k + 1) (fun u2 => [(0, .ref 137), (1, .int (nI p)), (2, .int (nI q)), (3, .int (nI k)), (4, .int (nI n)), (5, .int (nI u)), (6, .int (nI (huO (hT1 (aE a) (aR a) p q n) (hT2 (aE a) (aR a) p q n) k u2).1)), (7, .int (huO (hT1 (aE a) (aR a) p q n) (hT2 (aE a) (aR a) p q n) k u2).2.1), (8, .int (nI u2))]) (fun _ => o.2) (0) (Nat.zero_le _) rfl rfl (fun u2 hu2 oh2 => ?_)
                refine r_iload dX10_hurry_193 (by rfl) ?_
                refine r_iload_n dX10_hurry_195 rfl (by rfl) ?_
                refine r_icmp_gtN (tgt := 259) dX10_hurry_196 (by decide) (by omega) (by omega) (fun h196 => ?_) (fun h196 => ?_)
                · refine r_iload dX10_hurry_259 (by rfl) ?_
                  refine r_if_ne (tgt := 269) dX10_hurry_261 (by decide) (fun h261 => ?_) (fun h261 => ?_)
                  · refine r_iload dX10_hurry_269 (by rfl) ?_
                    refine r_iconst (v := nI 1) dX10_hurry_271 (by decide) ?_
                    refine r_icmp_neN (tgt := 280) dX10_hurry_272 (by decide) (by omega) (by omega) (fun h272 => ?_) (fun h272 => ?_)
                    · refine r_iload dX10_hurry_280 (by rfl) ?_
                      refine r_iconst (v := -1) dX10_hurry_282 (by decide) ?_
                      refine r_icmp_ne (tgt := 290) dX10_hurry_283 (by decide) (fun h283 => ?_) (fun h283 => ?_)
                      · have hH := huO_H (T1 := (hT1 (aE a) (aR a) p q n)) (T2 := (hT2 (aE a) (aR a) p q n)) (k := k) u2 hu2
                        obtain ⟨a9, b9, ha9, hb9, e9, f9⟩ : ∃ a9 b9, a9 ≤ k ∧ b9 ≤ k ∧ (huO (hT1 (aE a) (aR a) p q n) (hT2 (aE a) (aR a) p q n) k u2).2.1 = nI (100 * a9 + b9) ∧ (huO (hT1 (aE a) (aR a) p q n) (hT2 (aE a) (aR a) p q n) k u2).2.2 = (hT1 (aE a) (aR a) p q n) a9 b9 + (hT2 (aE a) (aR a) p q n) a9 b9 := by
                          rcases hH.2 with h2 | ⟨_, h2⟩
                          · exact absurd h2.2.1 h283
                          · exact h2
                        rw [e9]
                        refine r_aload_n dX10_hurry_290 rfl (by rfl) ?_
                        refine r_iconst (v := nI 0) dX10_hurry_291 (by decide) ?_
                        refine r_iload dX10_hurry_292 (by rfl) ?_
                        refine r_bipush (v := nI 100) dX10_hurry_294 (by decide) ?_
                        refine r_idivN dX10_hurry_296 (by omega) (by omega) (by omega) ?_
                        refine r_iload dX10_hurry_297 (by rfl) ?_
                        refine r_bipush (v := nI 100) dX10_hurry_299 (by decide) ?_
                        refine r_iremN dX10_hurry_301 (by omega) (by omega) (by omega) ?_
                        refine r_callV (n_mine (by omega) (by omega) (by omega)) mv_X10_mine ml_X10_398 ⟨by decide, by decide⟩ dX10_hurry_302 (by first | assumption | rfl) rfl rfl rfl (Nat.le_of_ble_eq_true rfl) (fun v9 x9 h9 => ?_)
                        obtain ⟨rfl, h9⟩ := h9
                        refine PW.xeq h9 ?_
                        clear h9 x9
                        refine r_aload_n dX10_hurry_305 rfl (by rfl) ?_
                        refine r_iconst (v := nI 1) dX10_hurry_306 (by decide) ?_
                        refine r_iload dX10_hurry_307 (by rfl) ?_
                        refine r_bipush (v := nI 100) dX10_hurry_309 (by decide) ?_
                        refine r_idivN dX10_hurry_311 (by omega) (by omega) (by omega) ?_
                        refine r_iload dX10_hurry_312 (by rfl) ?_
                        refine r_bipush (v := nI 100) dX10_hurry_314 (by decide) ?_
                        refine r_iremN dX10_hurry_316 (by omega) (by omega) (by omega) ?_
                        refine r_callV (n_mine (by omega) (by omega) (by omega)) mv_X10_mine ml_X10_398 ⟨by decide, by decide⟩ dX10_hurry_317 (by first | assumption | rfl) rfl rfl rfl (Nat.le_of_ble_eq_true rfl) (fun v9 x9 h9 => ?_)
                        obtain ⟨rfl, h9⟩ := h9
                        refine PW.xeq h9 ?_
                        clear h9 x9
                        refine r_iadd dX10_hurry_320 ?_
                        refine r_iret rfl dX10_hurry_321 ?_
                        refine ref_ok hR hF z0 ?_
                        have eu : u2 = k + 1 := by omega
                        subst eu
                        rw [oHurry, rqS_f q8, rqS_f q17, rqN_t hp5 hq5 h26, rq_t h36, rq_t h44, rq_t h54, nN_nI (by omega), nN_nI (by omega), nN_nI (by omega), nN_nI (by omega)]
                        dsimp only
                        congr 1
                        first
                          | (rw [if_pos (show nI u = nI 0 from h261)]; done)
                          | (rw [if_neg (show ¬ nI u = nI 0 from h261), if_pos (by rw [h272])]; done)
                          | (rw [if_neg (show ¬ nI u = nI 0 from h261), if_neg (show ¬ nI u = nI 1 from (by rw [show u = 2 from (by have : u ≠ 0 := fun e => h261 (by rw [e]; rfl); omega)]; decide)), f9, show (100 * a9 + b9) / 100 = a9 by omega, show (100 * a9 + b9) % 100 = b9 by omega, Nat.add_zero, (hL a9 b9 ha9 hb9).1, (hL a9 b9 ha9 hb9).2]; done)
                          | (rw [if_neg (show ¬ nI u = nI 0 from h261), if_neg (show ¬ nI u = nI 1 from (by rw [show u = 2 from (by have : u ≠ 0 := fun e => h261 (by rw [e]; rfl); omega)]; decide))]
                             have hH := huO_H (T1 := (hT1 (aE a) (aR a) p q n)) (T2 := (hT2 (aE a) (aR a) p q n)) (k := k) (k + 1) (Nat.le_refl _)
                             rcases hH.2 with h2 | ⟨hp9, _⟩
                             · exact h2.2.2
                             · exact absurd (hh_0 (by omega) hH h283) (by omega))
                      · refine r_iconst (v := nI 0) dX10_hurry_286 (by decide) ?_
                        refine r_goto (tgt := 321) dX10_hurry_287 (by decide) ?_
                        refine r_iret rfl dX10_hurry_321 ?_
                        refine ref_ok hR hF z0 ?_
                        have eu : u2 = k + 1 := by omega
                        subst eu
                        rw [oHurry, rqS_f q8, rqS_f q17, rqN_t hp5 hq5 h26, rq_t h36, rq_t h44, rq_t h54, nN_nI (by omega), nN_nI (by omega), nN_nI (by omega), nN_nI (by omega)]
                        dsimp only
                        congr 1
                        first
                          | (rw [if_pos (show nI u = nI 0 from h261)]; done)
                          | (rw [if_neg (show ¬ nI u = nI 0 from h261), if_pos (by rw [h272])]; done)
                          | (rw [if_neg (show ¬ nI u = nI 0 from h261), if_neg (show ¬ nI u = nI 1 from (by rw [show u = 2 from (by have : u ≠ 0 := fun e => h261 (by rw [e]; rfl); omega)]; decide)), f9, show (100 * a9 + b9) / 100 = a9 by omega, show (100 * a9 + b9) % 100 = b9 by omega, Nat.add_zero, (hL a9 b9 ha9 hb9).1, (hL a9 b9 ha9 hb9).2]; done)
                          | (rw [if_neg (show ¬ nI u = nI 0 from h261), if_neg (show ¬ nI u = nI 1 from (by rw [show u = 2 from (by have : u ≠ 0 := fun e => h261 (by rw [e]; rfl); omega)]; decide))]
                             have hH := huO_H (T1 := (hT1 (aE a) (aR a) p q n)) (T2 := (hT2 (aE a) (aR a) p q n)) (k := k) (k + 1) (Nat.le_refl _)
                             rcases hH.2 with h2 | ⟨hp9, _⟩
                             · exact h2.2.2
                             · exact absurd (hh_0 (by omega) hH h283) (by omega))
                    · refine r_iload dX10_hurry_275 (by rfl) ?_
                      refine r_goto (tgt := 321) dX10_hurry_277 (by decide) ?_
                      refine r_iret rfl dX10_hurry_321 ?_
                      refine ref_ok hR hF z0 ?_
                      have eu : u2 = k + 1 := by omega
                      subst eu
                      rw [oHurry, rqS_f q8, rqS_f q17, rqN_t hp5 hq5 h26, rq_t h36, rq_t h44, rq_t h54, nN_nI (by omega), nN_nI (by omega), nN_nI (by omega), nN_nI (by omega)]
                      dsimp only
                      congr 1
                      first
                        | (rw [if_pos (show nI u = nI 0 from h261)]; done)
                        | (rw [if_neg (show ¬ nI u = nI 0 from h261), if_pos (by rw [h272])]; done)
                        | (rw [if_neg (show ¬ nI u = nI 0 from h261), if_neg (show ¬ nI u = nI 1 from (by rw [show u = 2 from (by have : u ≠ 0 := fun e => h261 (by rw [e]; rfl); omega)]; decide)), f9, show (100 * a9 + b9) / 100 = a9 by omega, show (100 * a9 + b9) % 100 = b9 by omega, Nat.add_zero, (hL a9 b9 ha9 hb9).1, (hL a9 b9 ha9 hb9).2]; done)
                        | (rw [if_neg (show ¬ nI u = nI 0 from h261), if_neg (show ¬ nI u = nI 1 from (by rw [show u = 2 from (by have : u ≠ 0 := fun e => h261 (by rw [e]; rfl); omega)]; decide))]
                           have hH := huO_H (T1 := (hT1 (aE a) (aR a) p q n)) (T2 := (hT2 (aE a) (aR a) p q n)) (k := k) (k + 1) (Nat.le_refl _)
                           rcases hH.2 with h2 | ⟨hp9, _⟩
                           · exact h2.2.2
                           · exact absurd (hh_0 (by omega) hH h283) (by omega))
                  · refine r_iload dX10_hurry_264 (by rfl) ?_
                    refine r_goto (tgt := 321) dX10_hurry_266 (by decide) ?_
                    refine r_iret rfl dX10_hurry_321 ?_
                    refine ref_ok hR hF z0 ?_
                    have eu : u2 = k + 1 := by omega
                    subst eu
                    rw [oHurry, rqS_f q8, rqS_f q17, rqN_t hp5 hq5 h26, rq_t h36, rq_t h44, rq_t h54, nN_nI (by omega), nN_nI (by omega), nN_nI (by omega), nN_nI (by omega)]
                    dsimp only
                    congr 1
                    first
                      | (rw [if_pos (show nI u = nI 0 from h261)]; done)
                      | (rw [if_neg (show ¬ nI u = nI 0 from h261), if_pos (by rw [h272])]; done)
                      | (rw [if_neg (show ¬ nI u = nI 0 from h261), if_neg (show ¬ nI u = nI 1 from (by rw [show u = 2 from (by have : u ≠ 0 := fun e => h261 (by rw [e]; rfl); omega)]; decide)), f9, show (100 * a9 + b9) / 100 = a9 by omega, show (100 * a9 + b9) % 100 = b9 by omega, Nat.add_zero, (hL a9 b9 ha9 hb9).1, (hL a9 b9 ha9 hb9).2]; done)
                      | (rw [if_neg (show ¬ nI u = nI 0 from h261), if_neg (show ¬ nI u = nI 1 from (by rw [show u = 2 from (by have : u ≠ 0 := fun e => h261 (by rw [e]; rfl); omega)]; decide))]
                         have hH := huO_H (T1 := (hT1 (aE a) (aR a) p q n)) (T2 := (hT2 (aE a) (aR a) p q n)) (k := k) (k + 1) (Nat.le_refl _)
                         rcases hH.2 with h2 | ⟨hp9, _⟩
                         · exact h2.2.2
                         · exact absurd (hh_0 (by omega) hH h283) (by omega))
                · refine r_iconst (v := nI 0) dX10_hurry_199 (by decide) ?_
                  refine r_istore dX10_hurry_200 (by decide) ?_
                  refine PW.loop (σ := Nat) (fun s2 => k + 1 - s2) (fun s2 => s2 ≤ k + 1) (fun s2 => [(0, .ref 137), (1, .int (nI p)), (2, .int (nI q)), (3, .int (nI k)), (4, .int (nI n)), (5, .int (nI u)), (6, .int (nI (huI (hT1 (aE a) (aR a) p q n) (hT2 (aE a) (aR a) p q n) k u2 (huO (hT1 (aE a) (aR a) p q n) (hT2 (aE a) (aR a) p q n) k u2) s2).1)), (7, .int (huI (hT1 (aE a) (aR a) p q n) (hT2 (aE a) (aR a) p q n) k u2 (huO (hT1 (aE a) (aR a) p q n) (hT2 (aE a) (aR a) p q n) k u2) s2).2.1), (8, .int (nI u2)), (9, .int (nI s2))]) (fun _ => o.2) (0) (Nat.zero_le _) rfl rfl (fun s2 hs2 ih2 => ?_)
                  refine r_iload dX10_hurry_202 (by rfl) ?_
                  refine r_iload_n dX10_hurry_204 rfl (by rfl) ?_
                  refine r_icmp_gtN (tgt := 253) dX10_hurry_205 (by decide) (by omega) (by omega) (fun h205 => ?_) (fun h205 => ?_)
                  · refine r_iincN dX10_hurry_253 (by rfl) (by decide) ?_
                    refine r_goto (tgt := 193) dX10_hurry_256 (by decide) ?_
                    have es : s2 = k + 1 := by omega
                    subst es
                    exact PW.lc (by rfl) rfl (oh2 (u2 + 1) (by omega) (by omega))
                  · refine r_aload_n dX10_hurry_208 rfl (by rfl) ?_
                    refine r_iload dX10_hurry_209 (by rfl) ?_
                    refine r_iload dX10_hurry_211 (by rfl) ?_
                    refine r_iload_n dX10_hurry_213 rfl (by rfl) ?_
                    refine r_callV (n_isRest (by omega) (by omega) (by omega)) mv_X10_isRest ml_X10_408 ⟨by decide, by decide⟩ dX10_hurry_214 (by first | assumption | rfl) rfl rfl rfl (Nat.le_of_ble_eq_true rfl) (fun v9 x9 h9 => ?_)
                    obtain ⟨rfl, h9⟩ := h9
                    refine PW.xeq h9 ?_
                    clear h9 x9
                    refine r_if_neB (tgt := 223) dX10_hurry_217 (by decide) (fun h217 => ?_) (fun h217 => ?_)
                    · refine r_iincN dX10_hurry_223 (by rfl) (by decide) ?_
                      refine r_iload dX10_hurry_226 (by rfl) ?_
                      refine r_iconst (v := -1) dX10_hurry_228 (by decide) ?_
                      refine r_icmp_ne (tgt := 243) dX10_hurry_229 (by decide) (fun h229 => ?_) (fun h229 => ?_)
                      · refine r_iload dX10_hurry_243 (by rfl) ?_
                        refine r_istore dX10_hurry_245 (by decide) ?_
                        refine r_iincN dX10_hurry_247 (by rfl) (by decide) ?_
                        refine r_goto (tgt := 202) dX10_hurry_250 (by decide) ?_
                        have hH := huI_H (T1 := (hT1 (aE a) (aR a) p q n)) (T2 := (hT2 (aE a) (aR a) p q n)) (k := k) (show u2 ≤ k by omega) (huO_H u2 (by omega)) s2 (by omega)
                        have e : huI (hT1 (aE a) (aR a) p q n) (hT2 (aE a) (aR a) p q n) k u2 (huO (hT1 (aE a) (aR a) p q n) (hT2 (aE a) (aR a) p q n) k u2) (s2 + 1) = huS (hT1 (aE a) (aR a) p q n) (hT2 (aE a) (aR a) p q n) k u2 s2 (huI (hT1 (aE a) (aR a) p q n) (hT2 (aE a) (aR a) p q n) k u2 (huO (hT1 (aE a) (aR a) p q n) (hT2 (aE a) (aR a) p q n) k u2) s2) := rfl
                        rw [rsR_P hL (show u2 ≤ k by omega) (show s2 ≤ k by omega) (k + 1) (Nat.le_refl _)] at h217
                        unfold huS at e
                        rw [h217] at e
                        first
                          | (rw [if_neg (by decide)] at e; exact PW.lc (by (try dsimp only); rw [e]; rfl) rfl (ih2 (s2 + 1) (by omega) (by omega)))
                          | (rw [if_pos rfl, if_pos (hh_0 (by omega) hH h229)] at e; exact PW.lc (by (try dsimp only); rw [e]; rfl) rfl (ih2 (s2 + 1) (by omega) (by omega)))
                          | (rw [if_pos rfl, if_neg (hh_1 hH h229)] at e; exact PW.lc (by (try dsimp only); rw [e]; rfl) rfl (ih2 (s2 + 1) (by omega) (by omega)))
                      · refine r_bipush (v := nI 100) dX10_hurry_232 (by decide) ?_
                        refine r_iload dX10_hurry_234 (by rfl) ?_
                        refine r_imulN dX10_hurry_236 ?_
                        refine r_iload dX10_hurry_237 (by rfl) ?_
                        refine r_iaddN dX10_hurry_239 ?_
                        refine r_goto (tgt := 245) dX10_hurry_240 (by decide) ?_
                        refine r_istore dX10_hurry_245 (by decide) ?_
                        refine r_iincN dX10_hurry_247 (by rfl) (by decide) ?_
                        refine r_goto (tgt := 202) dX10_hurry_250 (by decide) ?_
                        have hH := huI_H (T1 := (hT1 (aE a) (aR a) p q n)) (T2 := (hT2 (aE a) (aR a) p q n)) (k := k) (show u2 ≤ k by omega) (huO_H u2 (by omega)) s2 (by omega)
                        have e : huI (hT1 (aE a) (aR a) p q n) (hT2 (aE a) (aR a) p q n) k u2 (huO (hT1 (aE a) (aR a) p q n) (hT2 (aE a) (aR a) p q n) k u2) (s2 + 1) = huS (hT1 (aE a) (aR a) p q n) (hT2 (aE a) (aR a) p q n) k u2 s2 (huI (hT1 (aE a) (aR a) p q n) (hT2 (aE a) (aR a) p q n) k u2 (huO (hT1 (aE a) (aR a) p q n) (hT2 (aE a) (aR a) p q n) k u2) s2) := rfl
                        rw [rsR_P hL (show u2 ≤ k by omega) (show s2 ≤ k by omega) (k + 1) (Nat.le_refl _)] at h217
                        unfold huS at e
                        rw [h217] at e
                        first
                          | (rw [if_neg (by decide)] at e; exact PW.lc (by (try dsimp only); rw [e]; rfl) rfl (ih2 (s2 + 1) (by omega) (by omega)))
                          | (rw [if_pos rfl, if_pos (hh_0 (by omega) hH h229)] at e; exact PW.lc (by (try dsimp only); rw [e]; rfl) rfl (ih2 (s2 + 1) (by omega) (by omega)))
                          | (rw [if_pos rfl, if_neg (hh_1 hH h229)] at e; exact PW.lc (by (try dsimp only); rw [e]; rfl) rfl (ih2 (s2 + 1) (by omega) (by omega)))
                    · refine r_goto (tgt := 247) dX10_hurry_220 (by decide) ?_
                      refine r_iincN dX10_hurry_247 (by rfl) (by decide) ?_
                      refine r_goto (tgt := 202) dX10_hurry_250 (by decide) ?_
                      have hH := huI_H (T1 := (hT1 (aE a) (aR a) p q n)) (T2 := (hT2 (aE a) (aR a) p q n)) (k := k) (show u2 ≤ k by omega) (huO_H u2 (by omega)) s2 (by omega)
                      have e : huI (hT1 (aE a) (aR a) p q n) (hT2 (aE a) (aR a) p q n) k u2 (huO (hT1 (aE a) (aR a) p q n) (hT2 (aE a) (aR a) p q n) k u2) (s2 + 1) = huS (hT1 (aE a) (aR a) p q n) (hT2 (aE a) (aR a) p q n) k u2 s2 (huI (hT1 (aE a) (aR a) p q n) (hT2 (aE a) (aR a) p q n) k u2 (huO (hT1 (aE a) (aR a) p q n) (hT2 (aE a) (aR a) p q n) k u2) s2) := rfl
                      rw [rsR_P hL (show u2 ≤ k by omega) (show s2 ≤ k by omega) (k + 1) (Nat.le_refl _)] at h217
                      unfold huS at e
                      rw [h217] at e
                      first
                        | (rw [if_neg (by decide)] at e; exact PW.lc (by (try dsimp only); rw [e]; rfl) rfl (ih2 (s2 + 1) (by omega) (by omega)))
                        | (rw [if_pos rfl, if_pos (hh_0 (by omega) hH h229)] at e; exact PW.lc (by (try dsimp only); rw [e]; rfl) rfl (ih2 (s2 + 1) (by omega) (by omega)))
                        | (rw [if_pos rfl, if_neg (hh_1 hH h229)] at e; exact PW.lc (by (try dsimp only); rw [e]; rfl) rfl (ih2 (s2 + 1) (by omega) (by omega)))
              · refine r_iconst (v := nI 0) dX10_hurry_81 (by decide) ?_
                refine r_istore dX10_hurry_82 (by decide) ?_
                refine PW.loop (σ := Nat × XS) (fun s => k + 1 - s.1) (fun s => s.1 ≤ k + 1 ∧ QF x s.2 ∧ s.2 137 0 = nI 0 ∧ (∀ a9 b9, ((a9 < o.1 ∧ b9 ≤ k) ∨ (a9 = o.1 ∧ b9 < s.1)) → s.2 160 (2 * (9 * a9 + b9)) = (hT1 (aE a) (aR a) p q n) a9 b9 ∧ s.2 160 (2 * (9 * a9 + b9) + 1) = (hT2 (aE a) (aR a) p q n) a9 b9)) (fun s => [(0, .ref 137), (1, .int (nI p)), (2, .int (nI q)), (3, .int (nI k)), (4, .int (nI n)), (5, .int (nI u)), (6, .int (nI o.1)), (7, .int (nI s.1))]) (fun s => s.2) ((0, o.2)) (⟨Nat.zero_le _, hF, z0, fun a9 b9 h9 => hL a9 b9 (by omega) (by omega)⟩) rfl rfl (fun s hs ih => ?_)
                obtain ⟨hs1, hG, z02, hL⟩ := hs
                refine r_iload dX10_hurry_84 (by rfl) ?_
                refine r_iload_n dX10_hurry_86 rfl (by rfl) ?_
                refine r_icmp_gtN (tgt := 178) dX10_hurry_87 (by decide) (by omega) (by omega) (fun h87 => ?_) (fun h87 => ?_)
                · refine r_iincN dX10_hurry_178 (by rfl) (by decide) ?_
                  refine r_goto (tgt := 75) dX10_hurry_181 (by decide) ?_
                  exact PW.lc (by rfl) rfl (oh (o.1 + 1, s.2) ⟨(show o.1 + 1 ≤ k + 1 by omega), hG, z02, (fun a9 b9 h1 h2 => hL a9 b9 (by have h1 : a9 < o.1 + 1 := h1; omega))⟩ (show k + 1 - (o.1 + 1) < k + 1 - o.1 by omega))
                · refine r_aload_n dX10_hurry_90 rfl (by rfl) ?_
                  refine r_iload_n dX10_hurry_91 rfl (by rfl) ?_
                  refine r_iload_n dX10_hurry_92 rfl (by rfl) ?_
                  refine r_iload dX10_hurry_93 (by rfl) ?_
                  refine r_iload dX10_hurry_95 (by rfl) ?_
                  refine r_iload dX10_hurry_97 (by rfl) ?_
                  refine r_callV (n_readsFor (hR.qf hG) hA ht ht2 (by omega) (by omega) (by omega) hp5 hq5) mv_X10_readsFor ml_X10_404 ⟨by decide, by decide⟩ dX10_hurry_99 (by first | assumption | rfl) rfl rfl rfl (Nat.le_of_ble_eq_true rfl) (fun v9 y h9 => ?_)
                  obtain ⟨rfl, T1, F1, z1, w1⟩ := h9
                  have R1 := (hR.qf hG).qf F1
                  refine r_aload_n dX10_hurry_102 rfl (by rfl) ?_
                  refine gf_X10_83 rfl dX10_hurry_103 (by first | assumption | rfl) (by rfl) ?_
                  refine r_iconst (v := nI 2) dX10_hurry_106 (by decide) ?_
                  refine r_bipush (v := nI 9) dX10_hurry_107 (by decide) ?_
                  refine r_iload dX10_hurry_109 (by rfl) ?_
                  refine r_imulN dX10_hurry_111 ?_
                  refine r_iload dX10_hurry_112 (by rfl) ?_
                  refine r_iaddN dX10_hurry_114 ?_
                  refine r_imulN dX10_hurry_115 ?_
                  refine r_aload_n dX10_hurry_116 rfl (by rfl) ?_
                  refine gf_X10_65 rfl dX10_hurry_117 (by first | assumption | rfl) (by rfl) ?_
                  refine r_bipush (v := nI 30) dX10_hurry_120 (by decide) ?_
                  refine r_iload_n dX10_hurry_122 rfl (by rfl) ?_
                  refine r_iaddN dX10_hurry_123 ?_
                  refine r_ialdN dX10_hurry_124 (by first | assumption | rfl) (by omega) (by decide) ?_
                  refine PW.topi (show _ = (itP (aE a) (eW (aE a)) (rdPQ (aR a) p q o.1 s.1) (aR a) n (25 + p)) from (T1.1 p hp5).2.2.2.2.2.1) ?_
                  refine r_aload_n dX10_hurry_125 rfl (by rfl) ?_
                  refine gf_X10_62 rfl dX10_hurry_126 (by first | assumption | rfl) (by rfl) ?_
                  refine r_bipush (v := nI 30) dX10_hurry_129 (by decide) ?_
                  refine r_iload_n dX10_hurry_131 rfl (by rfl) ?_
                  refine r_iaddN dX10_hurry_132 ?_
                  refine r_ialdN dX10_hurry_133 (by first | assumption | rfl) (by omega) (by decide) ?_
                  refine PW.topi (show _ = aR a (25 + p) from (R1.2.2.1.1 p hp5).2.2.2.2.2.1) ?_
                  refine r_isub dX10_hurry_134 ?_
                  refine r_iastN dX10_hurry_135 (by first | assumption | rfl) (by omega) (by decide) ?_
                  refine r_aload_n dX10_hurry_136 rfl (by rfl) ?_
                  refine gf_X10_83 rfl dX10_hurry_137 (by first | assumption | rfl) (by rfl) ?_
                  refine r_iconst (v := nI 2) dX10_hurry_140 (by decide) ?_
                  refine r_bipush (v := nI 9) dX10_hurry_141 (by decide) ?_
                  refine r_iload dX10_hurry_143 (by rfl) ?_
                  refine r_imulN dX10_hurry_145 ?_
                  refine r_iload dX10_hurry_146 (by rfl) ?_
                  refine r_iaddN dX10_hurry_148 ?_
                  refine r_imulN dX10_hurry_149 ?_
                  refine r_iconst (v := nI 1) dX10_hurry_150 (by decide) ?_
                  refine r_iaddN dX10_hurry_151 ?_
                  refine r_aload_n dX10_hurry_152 rfl (by rfl) ?_
                  refine gf_X10_65 rfl dX10_hurry_153 (by first | assumption | rfl) (by rfl) ?_
                  refine r_bipush (v := nI 30) dX10_hurry_156 (by decide) ?_
                  refine r_iload_n dX10_hurry_158 rfl (by rfl) ?_
                  refine r_iaddN dX10_hurry_159 ?_
                  refine r_ialdN dX10_hurry_160 (by first | assumption | rfl) (by omega) (by decide) ?_
                  refine PW.topi (show _ = (itP (aE a) (eW (aE a)) (rdPQ (aR a) p q o.1 s.1) (aR a) n (25 + q)) from (T1.1 q hq5).2.2.2.2.2.1) ?_
                  refine r_aload_n dX10_hurry_161 rfl (by rfl) ?_
                  refine gf_X10_62 rfl dX10_hurry_162 (by first | assumption | rfl) (by rfl) ?_
                  refine r_bipush (v := nI 30) dX10_hurry_165 (by decide) ?_
                  refine r_iload_n dX10_hurry_167 rfl (by rfl) ?_
                  refine r_iaddN dX10_hurry_168 ?_
                  refine r_ialdN dX10_hurry_169 (by first | assumption | rfl) (by omega) (by decide) ?_
                  refine PW.topi (show _ = aR a (25 + q) from (R1.2.2.1.1 q hq5).2.2.2.2.2.1) ?_
                  refine r_isub dX10_hurry_170 ?_
                  refine r_iastN dX10_hurry_171 (by first | assumption | rfl) (by omega) (by decide) ?_
                  refine r_iincN dX10_hurry_172 (by rfl) (by decide) ?_
                  refine r_goto (tgt := 84) dX10_hurry_175 (by decide) ?_
                  exact PW.lc (by rfl) rfl (ih (s.1 + 1, (xu (xu y 160 (2 * (9 * o.1 + s.1)) ((itP (aE a) (eW (aE a)) (rdPQ (aR a) p q o.1 s.1) (aR a) n (25 + p)) - aR a (25 + p))) 160 (2 * (9 * o.1 + s.1) + 1) ((itP (aE a) (eW (aE a)) (rdPQ (aR a) p q o.1 s.1) (aR a) n (25 + q)) - aR a (25 + q)))) ⟨(show s.1 + 1 ≤ k + 1 by omega), ((hG.trans F1).put (by omega)).put (by omega), (show y 137 0 = nI 0 from z1.trans z02), (fun a9 b9 h9 => by
                    show upd (upd (y 160) _ _) _ _ _ = _ ∧ upd (upd (y 160) _ _) _ _ _ = _
                    by_cases e9 : a9 = o.1 ∧ b9 = s.1
                    · obtain ⟨rfl, rfl⟩ := e9
                      rw [pk_un (by omega), pk_us, pk_us]
                      exact ⟨rfl, rfl⟩
                    · rw [pk_un (by omega), pk_un (by omega), pk_un (by omega), pk_un (by omega), w1]
                      exact hL a9 b9 (by omega))⟩ (show k + 1 - (s.1 + 1) < k + 1 - s.1 by omega))
