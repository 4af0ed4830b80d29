/-! THE REFERENCE: rooms, cars, both who hurry -/
theorem bit_is {sv i : Nat} (h : sv < 64) (hi : i < 6) : ∃ k, k ≤ 1 ∧ bitV (nI sv) i = nI k := ⟨sv / 2 ^ i % 2, by omega, bitV_N h hi⟩
theorem set_RO {f : Nat → Int32} {sv : Nat} (h : RO f) (hs : sv < 64) : ∀ i, i ≤ 5 → RO (setl f (nI sv) i).2
  | 0, _ => h
  | i + 1, hi => by
    have ih := set_RO h hs i (by omega)
    unfold setl
    split
    · split
      · exact ih
      · exact ih.room (by omega) (bit_is hs (by omega))
    · exact ih
set_option maxHeartbeats 8000000 in
set_option maxRecDepth 20000 in
theorem g_rooms {a : AS} {x : XS} {n9 u9 : Int32} (hR : RRf x a) (hA : AI a) : RASK mX10_rooms [.ref 137, .int n9, .int u9] x a (oRooms a n9 u9) 1 := by
  refine MM.of (by decide) (Nat.le_of_ble_eq_true rfl) ?_
  have y137 := lay_137
  have y154 := lay_154
  obtain ⟨t, ht2, ht⟩ := hA.t
  refine r_aload_n dX10_rooms_0 rfl (by rfl) ?_
  refine r_iconst (v := nI 0) dX10_rooms_1 (by decide) ?_
  refine pf_X10_3 rfl dX10_rooms_2 (by first | assumption | rfl) (by rfl) ?_
  refine r_aload_n dX10_rooms_5 rfl (by rfl) ?_
  refine r_iload_n dX10_rooms_6 rfl (by rfl) ?_
  refine r_callS c_isFew ms_X10_isFew ml_X10_401 ⟨by decide, by decide⟩ dX10_rooms_7 rfl (Nat.le_of_ble_eq_true rfl) (fun v9 x9 h9 => ?_)
  obtain ⟨rfl, h9⟩ := h9
  refine PW.xeq h9 ?_
  clear h9 x9
  refine r_if_eqB (tgt := 26) dX10_rooms_10 (by decide) (fun h10 => ?_) (fun h10 => ?_)
  · refine r_iconst (v := nI 0) dX10_rooms_26 (by decide) ?_
    refine r_iconst (v := nI 1) dX10_rooms_27 (by decide) ?_
    refine r_iconst (v := nI 1) dX10_rooms_28 (by decide) ?_
    refine r_callV (c_may_0 xu_s (by decide) (by decide)) mv_X10_may ml_X10_203 ⟨by decide, by decide⟩ dX10_rooms_29 lay_137 rfl rfl rfl (Nat.le_of_ble_eq_true rfl) (fun v9 x9 h9 => ?_)
    obtain ⟨rfl, h9⟩ := h9
    refine PW.xeq h9 ?_
    clear h9 x9
    refine r_if_neB (tgt := 37) dX10_rooms_32 (by decide) (fun h => by cases h) (fun _ => ?_)
    refine r_iconst (v := nI 0) dX10_rooms_35 (by decide) ?_
    refine r_iret rfl dX10_rooms_36 ?_
    exact ref_bad hR rfl (by rw [oRooms, rq_f h10])
  · refine r_iload_n dX10_rooms_13 rfl (by rfl) ?_
    refine r_iconst (v := nI 0) dX10_rooms_14 (by decide) ?_
    refine r_iconst (v := nI 1) dX10_rooms_15 (by decide) ?_
    refine r_callS c_within10 ms_X10_within ml_X10_282 ⟨by decide, by decide⟩ dX10_rooms_16 rfl (Nat.le_of_ble_eq_true rfl) (fun v9 x9 h9 => ?_)
    obtain ⟨rfl, h9⟩ := h9
    refine PW.xeq h9 ?_
    clear h9 x9
    refine r_if_eqB (tgt := 26) dX10_rooms_19 (by decide) (fun h19 => ?_) (fun h19 => ?_)
    · refine r_iconst (v := nI 0) dX10_rooms_26 (by decide) ?_
      refine r_iconst (v := nI 1) dX10_rooms_27 (by decide) ?_
      refine r_iconst (v := nI 1) dX10_rooms_28 (by decide) ?_
      refine r_callV (c_may_0 xu_s (by decide) (by decide)) mv_X10_may ml_X10_203 ⟨by decide, by decide⟩ dX10_rooms_29 lay_137 rfl rfl rfl (Nat.le_of_ble_eq_true rfl) (fun v9 x9 h9 => ?_)
      obtain ⟨rfl, h9⟩ := h9
      refine PW.xeq h9 ?_
      clear h9 x9
      refine r_if_neB (tgt := 37) dX10_rooms_32 (by decide) (fun h => by cases h) (fun _ => ?_)
      refine r_iconst (v := nI 0) dX10_rooms_35 (by decide) ?_
      refine r_iret rfl dX10_rooms_36 ?_
      exact ref_bad hR rfl (by rw [oRooms, rq_t h10, rq_f h19])
    · refine r_iconst (v := nI 1) dX10_rooms_22 (by decide) ?_
      refine r_goto (tgt := 27) dX10_rooms_23 (by decide) ?_
      refine r_iconst (v := nI 1) dX10_rooms_27 (by decide) ?_
      refine r_iconst (v := nI 1) dX10_rooms_28 (by decide) ?_
      refine r_callV (c_may_1 xu_s) mv_X10_may ml_X10_203 ⟨by decide, by decide⟩ dX10_rooms_29 lay_137 rfl rfl rfl (Nat.le_of_ble_eq_true rfl) (fun v9 x9 h9 => ?_)
      obtain ⟨rfl, h9⟩ := h9
      refine PW.xeq h9 ?_
      clear h9 x9
      refine r_if_neB (tgt := 37) dX10_rooms_32 (by decide) (fun _ => ?_) (fun h => by cases h)
      obtain ⟨m, _, hm, rfl⟩ := inB_is (lo := 0) (hi := 120) h10 (by decide) (by decide)
      obtain ⟨k, _, hk, rfl⟩ := inB_is (lo := 0) (hi := 1) h19 (by decide) (by decide)
      refine r_iconst (v := nI 0) dX10_rooms_37 (by decide) ?_
      refine r_istore_n dX10_rooms_38 rfl (by decide) ?_
      refine r_iconst (v := -1) dX10_rooms_39 (by decide) ?_
      refine r_istore dX10_rooms_40 (by decide) ?_
      refine r_iconst (v := nI 0) dX10_rooms_42 (by decide) ?_
      refine r_istore dX10_rooms_43 (by decide) ?_
      refine PW.loop (σ := Nat × XS) (fun o => 2 ^ eN (aE a) - o.1) (fun o => o.1 ≤ 2 ^ eN (aE a) ∧ QF x o.2 ∧ o.2 137 0 = nI 0) (fun o => [(0, .ref 137), (1, .int (nI m)), (2, .int (nI k)), (3, .int (amo (rooS (aE a) (aR a) m) o.1).2), (4, .int (amo (rooS (aE a) (aR a) m) o.1).1), (5, .int (nI o.1))]) (fun o => o.2) ((0, th0 x)) (⟨Nat.zero_le _, th0_qf x, rfl⟩) rfl rfl (fun o ho oh => ?_)
      obtain ⟨ho1, hF, z0⟩ := ho
      have T6 := take_RT (hR.qf hF) hA ht ht2
      have p5 := pow5 hR.1.2.1
      refine r_iload dX10_rooms_45 (by rfl) ?_
      refine r_iconst (v := nI 1) dX10_rooms_47 (by decide) ?_
      refine r_aload_n dX10_rooms_48 rfl (by rfl) ?_
      refine gf_X10_156 rfl dX10_rooms_49 (by first | assumption | rfl) (by rfl) ?_
      refine PW.topi (hR.qf hF).1.1 ?_
      refine r_ishl dX10_rooms_52 ?_
      refine PW.topi (shl_n hR.1.2.1) ?_
      refine r_icmp_geN (tgt := 175) dX10_rooms_53 (by decide) (by omega) (by omega) (fun h53 => ?_) (fun h53 => ?_)
      · refine r_iload_n dX10_rooms_175 rfl (by rfl) ?_
        refine r_if_ne (tgt := 184) dX10_rooms_176 (by decide) (fun h176 => ?_) (fun h176 => ?_)
        · refine r_iload_n dX10_rooms_184 rfl (by rfl) ?_
          refine r_iret rfl dX10_rooms_185 ?_
          refine ref_ok hR hF z0 ?_
          rw [oRooms, rq_t h10, rq_t h19, nN_nI (by omega), show 2 ^ eN (aE a) = o.1 by omega]
          dsimp only
          first
            | (have hk0 : k = 0 := by
                 by_cases e : k = 0
                 · exact e
                 · exact absurd h176 (nI_ne0 (by omega) (by omega))
               subst hk0
               rfl)
            | (rw [if_neg (show ¬ nI k = nI 0 from h176)])
        · refine r_iload dX10_rooms_179 (by rfl) ?_
          refine r_goto (tgt := 185) dX10_rooms_181 (by decide) ?_
          refine r_iret rfl dX10_rooms_185 ?_
          refine ref_ok hR hF z0 ?_
          rw [oRooms, rq_t h10, rq_t h19, nN_nI (by omega), show 2 ^ eN (aE a) = o.1 by omega]
          dsimp only
          first
            | (have hk0 : k = 0 := by
                 by_cases e : k = 0
                 · exact e
                 · exact absurd h176 (nI_ne0 (by omega) (by omega))
               subst hk0
               rfl)
            | (rw [if_neg (show ¬ nI k = nI 0 from h176)])
      · refine r_aload_n dX10_rooms_56 rfl (by rfl) ?_
        refine r_callV c_take mv_X10_take ml_X10_316 ⟨by decide, by decide⟩ dX10_rooms_57 (by first | assumption | rfl) rfl rfl rfl (Nat.le_of_ble_eq_true rfl) (fun v9 x9 h9 => ?_)
        obtain ⟨rfl, h9⟩ := h9
        refine PW.xeq h9 ?_
        clear h9 x9
        refine r_iconst (v := nI 1) dX10_rooms_60 (by decide) ?_
        refine r_istore dX10_rooms_61 (by decide) ?_
        refine r_iconst (v := nI 0) dX10_rooms_63 (by decide) ?_
        refine r_istore dX10_rooms_64 (by decide) ?_
        refine PW.loop (σ := Nat × XS) (fun s => eN (aE a) - s.1) (fun s => s.1 ≤ eN (aE a) ∧ xr (tkR o.2) 154 (s.2 154) = s.2 ∧ ((setl (aR a) (nI o.1) s.1).1 = true → RRow (setl (aR a) (nI o.1) s.1).2 (s.2 154))) (fun s => [(0, .ref 137), (1, .int (nI m)), (2, .int (nI k)), (3, .int (amo (rooS (aE a) (aR a) m) o.1).2), (4, .int (amo (rooS (aE a) (aR a) m) o.1).1), (5, .int (nI o.1)), (6, .int (bI (setl (aR a) (nI o.1) s.1).1)), (7, .int (nI s.1))]) (fun s => s.2) ((0, tkR o.2)) (⟨Nat.zero_le _, xr_id _ _, fun _ => T6.1.2.2.2.1⟩) rfl rfl (fun s hs ih => ?_)
        obtain ⟨hs1, hs9, hI⟩ := hs
        have n5 := hR.1.2.1
        have hF2 : QF x s.2 := by
          have w := ((hF.trans (take_QF o.2)).row (c := 154) (r := s.2 154) (by omega))
          rw [hs9] at w
          exact w
        have z02 : s.2 137 0 = nI 0 := by rw [← hs9]; exact z0
        refine r_iload dX10_rooms_66 (by rfl) ?_
        refine r_aload_n dX10_rooms_68 rfl (by rfl) ?_
        refine gf_X10_156 rfl dX10_rooms_69 (by first | assumption | rfl) (by rfl) ?_
        refine PW.topi (hR.qf hF2).1.1 ?_
        refine r_icmp_geN (tgt := 137) dX10_rooms_72 (by decide) (by omega) (by omega) (fun h72 => ?_) (fun h72 => ?_)
        · refine r_iload dX10_rooms_137 (by rfl) ?_
          refine r_if_neB (tgt := 145) dX10_rooms_139 (by decide) (fun h139 => ?_) (fun h139 => ?_)
          · have es : s.1 = eN (aE a) := by omega
            have hI9 := hI h139
            rw [es] at hI9 h139
            have T9 : RT s.2 (aE a) (eW (aE a)) (nI 0) (setl (aR a) (nI o.1) (eN (aE a))).2 t rd0 := by
              have w := T6.row hI9 (set_RO hA.2.1 (by omega) _ hR.1.2.1) ((setl_40 _ _ _ hR.1.2.1).trans ht)
              rw [hs9] at w
              exact w
            refine r_aload_n dX10_rooms_145 rfl (by rfl) ?_
            refine r_iload_n dX10_rooms_146 rfl (by rfl) ?_
            refine r_callV (n_goesOn T9 (by omega)) mv_X10_goesOn ml_X10_389 ⟨by decide, by decide⟩ dX10_rooms_147 (by first | assumption | rfl) rfl rfl rfl (Nat.le_of_ble_eq_true rfl) (fun v9 y h9 => ?_)
            obtain ⟨rfl, T1, F1⟩ := h9
            refine r_istore dX10_rooms_150 (by decide) ?_
            refine r_iload dX10_rooms_152 (by rfl) ?_
            refine r_iload dX10_rooms_154 (by rfl) ?_
            refine r_icmp_gt (tgt := 162) dX10_rooms_156 (by decide) (fun h156 => ?_) (fun h156 => ?_)
            · refine r_iload dX10_rooms_162 (by rfl) ?_
              refine r_istore_n dX10_rooms_164 rfl (by decide) ?_
              refine r_iload dX10_rooms_165 (by rfl) ?_
              refine r_istore dX10_rooms_167 (by decide) ?_
              refine r_iincN dX10_rooms_169 (by rfl) (by decide) ?_
              refine r_goto (tgt := 45) dX10_rooms_172 (by decide) ?_
              first
                | (have e := amo_le (show (rooS (aE a) (aR a) m) o.1 = some _ by unfold rooS; rw [if_pos h139]; rfl) (Int32.not_lt.mp h156)
                   exact PW.lc (by (try dsimp only); rw [e]; rfl) rfl (oh (o.1 + 1, y) ⟨(show o.1 + 1 ≤ 2 ^ eN (aE a) by omega), hF2.trans F1.qf, (show y 137 0 = nI 0 by rw [F1.th]; exact z02)⟩ (show 2 ^ eN (aE a) - (o.1 + 1) < 2 ^ eN (aE a) - o.1 by omega)))
                | (have e := amo_gt (show (rooS (aE a) (aR a) m) o.1 = some _ by unfold rooS; rw [if_pos h139]; rfl) (Int32.not_le.mpr h156)
                   exact PW.lc (by (try dsimp only); rw [e]; rfl) rfl (oh (o.1 + 1, y) ⟨(show o.1 + 1 ≤ 2 ^ eN (aE a) by omega), hF2.trans F1.qf, (show y 137 0 = nI 0 by rw [F1.th]; exact z02)⟩ (show 2 ^ eN (aE a) - (o.1 + 1) < 2 ^ eN (aE a) - o.1 by omega)))
                | (have e := amo_n (show (rooS (aE a) (aR a) m) o.1 = none by unfold rooS; rw [show eN (aE a) = s.1 by omega, if_neg (by rw [h139]; decide)])
                   exact PW.lc (by (try dsimp only); rw [e]; rfl) rfl (oh (o.1 + 1, s.2) ⟨(show o.1 + 1 ≤ 2 ^ eN (aE a) by omega), hF2, z02⟩ (show 2 ^ eN (aE a) - (o.1 + 1) < 2 ^ eN (aE a) - o.1 by omega)))
            · refine r_goto (tgt := 169) dX10_rooms_159 (by decide) ?_
              refine r_iincN dX10_rooms_169 (by rfl) (by decide) ?_
              refine r_goto (tgt := 45) dX10_rooms_172 (by decide) ?_
              first
                | (have e := amo_le (show (rooS (aE a) (aR a) m) o.1 = some _ by unfold rooS; rw [if_pos h139]; rfl) (Int32.not_lt.mp h156)
                   exact PW.lc (by (try dsimp only); rw [e]; rfl) rfl (oh (o.1 + 1, y) ⟨(show o.1 + 1 ≤ 2 ^ eN (aE a) by omega), hF2.trans F1.qf, (show y 137 0 = nI 0 by rw [F1.th]; exact z02)⟩ (show 2 ^ eN (aE a) - (o.1 + 1) < 2 ^ eN (aE a) - o.1 by omega)))
                | (have e := amo_gt (show (rooS (aE a) (aR a) m) o.1 = some _ by unfold rooS; rw [if_pos h139]; rfl) (Int32.not_le.mpr h156)
                   exact PW.lc (by (try dsimp only); rw [e]; rfl) rfl (oh (o.1 + 1, y) ⟨(show o.1 + 1 ≤ 2 ^ eN (aE a) by omega), hF2.trans F1.qf, (show y 137 0 = nI 0 by rw [F1.th]; exact z02)⟩ (show 2 ^ eN (aE a) - (o.1 + 1) < 2 ^ eN (aE a) - o.1 by omega)))
                | (have e := amo_n (show (rooS (aE a) (aR a) m) o.1 = none by unfold rooS; rw [show eN (aE a) = s.1 by omega, if_neg (by rw [h139]; decide)])
                   exact PW.lc (by (try dsimp only); rw [e]; rfl) rfl (oh (o.1 + 1, s.2) ⟨(show o.1 + 1 ≤ 2 ^ eN (aE a) by omega), hF2, z02⟩ (show 2 ^ eN (aE a) - (o.1 + 1) < 2 ^ eN (aE a) - o.1 by omega)))
          · refine r_goto (tgt := 169) dX10_rooms_142 (by decide) ?_
            refine r_iincN dX10_rooms_169 (by rfl) (by decide) ?_
            refine r_goto (tgt := 45) dX10_rooms_172 (by decide) ?_
            first
              | (have e := amo_le (show (rooS (aE a) (aR a) m) o.1 = some _ by unfold rooS; rw [if_pos h139]; rfl) (Int32.not_lt.mp h156)
                 exact PW.lc (by (try dsimp only); rw [e]; rfl) rfl (oh (o.1 + 1, y) ⟨(show o.1 + 1 ≤ 2 ^ eN (aE a) by omega), hF2.trans F1.qf, (show y 137 0 = nI 0 by rw [F1.th]; exact z02)⟩ (show 2 ^ eN (aE a) - (o.1 + 1) < 2 ^ eN (aE a) - o.1 by omega)))
              | (have e := amo_gt (show (rooS (aE a) (aR a) m) o.1 = some _ by unfold rooS; rw [if_pos h139]; rfl) (Int32.not_le.mpr h156)
                 exact PW.lc (by (try dsimp only); rw [e]; rfl) rfl (oh (o.1 + 1, y) ⟨(show o.1 + 1 ≤ 2 ^ eN (aE a) by omega), hF2.trans F1.qf, (show y 137 0 = nI 0 by rw [F1.th]; exact z02)⟩ (show 2 ^ eN (aE a) - (o.1 + 1) < 2 ^ eN (aE a) - o.1 by omega)))
              | (have e := amo_n (show (rooS (aE a) (aR a) m) o.1 = none by unfold rooS; rw [show eN (aE a) = s.1 by omega, if_neg (by rw [h139]; decide)])
                 exact PW.lc (by (try dsimp only); rw [e]; rfl) rfl (oh (o.1 + 1, s.2) ⟨(show o.1 + 1 ≤ 2 ^ eN (aE a) by omega), hF2, z02⟩ (show 2 ^ eN (aE a) - (o.1 + 1) < 2 ^ eN (aE a) - o.1 by omega)))
        · refine r_iload dX10_rooms_75 (by rfl) ?_
          refine r_if_eqB (tgt := 112) dX10_rooms_77 (by decide) (fun h77 => ?_) (fun h77 => ?_)
          · refine r_iconst (v := nI 0) dX10_rooms_112 (by decide) ?_
            refine r_istore dX10_rooms_113 (by decide) ?_
            refine r_aload_n dX10_rooms_115 rfl (by rfl) ?_
            refine gf_X10_65 rfl dX10_rooms_116 (by first | assumption | rfl) (by rfl) ?_
            refine r_iconst (v := nI 5) dX10_rooms_119 (by decide) ?_
            refine r_iload dX10_rooms_120 (by rfl) ?_
            refine r_iaddN dX10_rooms_122 ?_
            refine r_iload dX10_rooms_123 (by rfl) ?_
            refine r_iload dX10_rooms_125 (by rfl) ?_
            refine r_ishr dX10_rooms_127 ?_
            refine r_iconst (v := nI 1) dX10_rooms_128 (by decide) ?_
            refine r_iand dX10_rooms_129 ?_
            refine PW.topi (show _ = bitV (nI o.1) s.1 from rfl) ?_
            refine r_iastN dX10_rooms_130 (by first | assumption | rfl) (by omega) (by decide) ?_
            refine r_iincN dX10_rooms_131 (by rfl) (by decide) ?_
            refine r_goto (tgt := 66) dX10_rooms_134 (by decide) ?_
            first
              | (have e : (setl (aR a) (nI o.1) (s.1 + 1)) = (true, upd (setl (aR a) (nI o.1) s.1).2 (5 + s.1) (bitV (nI o.1) s.1)) := by
                   show (if (setl (aR a) (nI o.1) s.1).1 then _ else _) = _
                   rw [if_pos h77, h86]; rfl
                 exact PW.lc (by (try dsimp only); rw [e]; rfl) rfl (ih (s.1 + 1, (xu s.2 154 (5 + s.1) (bitV (nI o.1) s.1))) ⟨(show s.1 + 1 ≤ eN (aE a) by omega), (show xr (tkR o.2) 154 ((xu s.2 154 (5 + s.1) (bitV (nI o.1) s.1)) 154) = (xu s.2 154 (5 + s.1) (bitV (nI o.1) s.1)) from (by rw [← hs9]; simp only [xu1, xr_xr, xr_s])), (by rw [e]; exact fun _ => (hI h77).room (by omega))⟩ (show eN (aE a) - (s.1 + 1) < eN (aE a) - s.1 by omega)))
              | (have e : (setl (aR a) (nI o.1) (s.1 + 1)) = (true, upd (setl (aR a) (nI o.1) s.1).2 (5 + s.1) (bitV (nI o.1) s.1)) := by
                   show (if (setl (aR a) (nI o.1) s.1).1 then _ else _) = _
                   rw [if_pos h77, h86, decide_eq_true (show (setl (aR a) (nI o.1) s.1).2 (5 + s.1) = bitV (nI o.1) s.1 from ((hI h77).1 s.1 (by omega)).2.1.symm.trans h105)]; rfl
                 exact PW.lc (by (try dsimp only); rw [e]; rfl) rfl (ih (s.1 + 1, (xu s.2 154 (5 + s.1) (bitV (nI o.1) s.1))) ⟨(show s.1 + 1 ≤ eN (aE a) by omega), (show xr (tkR o.2) 154 ((xu s.2 154 (5 + s.1) (bitV (nI o.1) s.1)) 154) = (xu s.2 154 (5 + s.1) (bitV (nI o.1) s.1)) from (by rw [← hs9]; simp only [xu1, xr_xr, xr_s])), (by rw [e]; exact fun _ => (hI h77).room (by omega))⟩ (show eN (aE a) - (s.1 + 1) < eN (aE a) - s.1 by omega)))
              | (have e : (setl (aR a) (nI o.1) (s.1 + 1)) = (false, (setl (aR a) (nI o.1) s.1).2) := by
                   show (if (setl (aR a) (nI o.1) s.1).1 then _ else _) = _
                   rw [if_pos h77, h86, decide_eq_false (show ¬ (setl (aR a) (nI o.1) s.1).2 (5 + s.1) = bitV (nI o.1) s.1 from fun q => h105 (((hI h77).1 s.1 (by omega)).2.1.trans q))]; rfl
                 exact PW.lc (by (try dsimp only); rw [e]; rfl) rfl (ih (s.1 + 1, (xu s.2 154 (5 + s.1) (bitV (nI o.1) s.1))) ⟨(show s.1 + 1 ≤ eN (aE a) by omega), (show xr (tkR o.2) 154 ((xu s.2 154 (5 + s.1) (bitV (nI o.1) s.1)) 154) = (xu s.2 154 (5 + s.1) (bitV (nI o.1) s.1)) from (by rw [← hs9]; simp only [xu1, xr_xr, xr_s])), (by rw [e]; exact fun q => absurd (show false = true from q) (by decide))⟩ (show eN (aE a) - (s.1 + 1) < eN (aE a) - s.1 by omega)))
              | (have e : (setl (aR a) (nI o.1) (s.1 + 1)) = (false, (setl (aR a) (nI o.1) s.1).2) := by
                   show (if (setl (aR a) (nI o.1) s.1).1 then _ else _) = _
                   rw [if_neg (by rw [h77]; decide)]; exact Prod.ext h77 rfl
                 exact PW.lc (by (try dsimp only); rw [e]; rfl) rfl (ih (s.1 + 1, (xu s.2 154 (5 + s.1) (bitV (nI o.1) s.1))) ⟨(show s.1 + 1 ≤ eN (aE a) by omega), (show xr (tkR o.2) 154 ((xu s.2 154 (5 + s.1) (bitV (nI o.1) s.1)) 154) = (xu s.2 154 (5 + s.1) (bitV (nI o.1) s.1)) from (by rw [← hs9]; simp only [xu1, xr_xr, xr_s])), (by rw [e]; exact fun q => absurd (show false = true from q) (by decide))⟩ (show eN (aE a) - (s.1 + 1) < eN (aE a) - s.1 by omega)))
          · refine r_aload_n dX10_rooms_80 rfl (by rfl) ?_
            refine r_iload dX10_rooms_81 (by rfl) ?_
            refine r_callV (n_isAsleep (hI h77) (by omega)) mv_X10_isAsleep ml_X10_343 ⟨by decide, by decide⟩ dX10_rooms_83 (by first | assumption | rfl) rfl rfl rfl (Nat.le_of_ble_eq_true rfl) (fun v9 x9 h9 => ?_)
            obtain ⟨rfl, h9⟩ := h9
            refine PW.xeq h9 ?_
            clear h9 x9
            refine r_if_eqB (tgt := 108) dX10_rooms_86 (by decide) (fun h86 => ?_) (fun h86 => ?_)
            · refine r_iconst (v := nI 1) dX10_rooms_108 (by decide) ?_
              refine r_goto (tgt := 113) dX10_rooms_109 (by decide) ?_
              refine r_istore dX10_rooms_113 (by decide) ?_
              refine r_aload_n dX10_rooms_115 rfl (by rfl) ?_
              refine gf_X10_65 rfl dX10_rooms_116 (by first | assumption | rfl) (by rfl) ?_
              refine r_iconst (v := nI 5) dX10_rooms_119 (by decide) ?_
              refine r_iload dX10_rooms_120 (by rfl) ?_
              refine r_iaddN dX10_rooms_122 ?_
              refine r_iload dX10_rooms_123 (by rfl) ?_
              refine r_iload dX10_rooms_125 (by rfl) ?_
              refine r_ishr dX10_rooms_127 ?_
              refine r_iconst (v := nI 1) dX10_rooms_128 (by decide) ?_
              refine r_iand dX10_rooms_129 ?_
              refine PW.topi (show _ = bitV (nI o.1) s.1 from rfl) ?_
              refine r_iastN dX10_rooms_130 (by first | assumption | rfl) (by omega) (by decide) ?_
              refine r_iincN dX10_rooms_131 (by rfl) (by decide) ?_
              refine r_goto (tgt := 66) dX10_rooms_134 (by decide) ?_
              first
                | (have e : (setl (aR a) (nI o.1) (s.1 + 1)) = (true, upd (setl (aR a) (nI o.1) s.1).2 (5 + s.1) (bitV (nI o.1) s.1)) := by
                     show (if (setl (aR a) (nI o.1) s.1).1 then _ else _) = _
                     rw [if_pos h77, h86]; rfl
                   exact PW.lc (by (try dsimp only); rw [e]; rfl) rfl (ih (s.1 + 1, (xu s.2 154 (5 + s.1) (bitV (nI o.1) s.1))) ⟨(show s.1 + 1 ≤ eN (aE a) by omega), (show xr (tkR o.2) 154 ((xu s.2 154 (5 + s.1) (bitV (nI o.1) s.1)) 154) = (xu s.2 154 (5 + s.1) (bitV (nI o.1) s.1)) from (by rw [← hs9]; simp only [xu1, xr_xr, xr_s])), (by rw [e]; exact fun _ => (hI h77).room (by omega))⟩ (show eN (aE a) - (s.1 + 1) < eN (aE a) - s.1 by omega)))
                | (have e : (setl (aR a) (nI o.1) (s.1 + 1)) = (true, upd (setl (aR a) (nI o.1) s.1).2 (5 + s.1) (bitV (nI o.1) s.1)) := by
                     show (if (setl (aR a) (nI o.1) s.1).1 then _ else _) = _
                     rw [if_pos h77, h86, decide_eq_true (show (setl (aR a) (nI o.1) s.1).2 (5 + s.1) = bitV (nI o.1) s.1 from ((hI h77).1 s.1 (by omega)).2.1.symm.trans h105)]; rfl
                   exact PW.lc (by (try dsimp only); rw [e]; rfl) rfl (ih (s.1 + 1, (xu s.2 154 (5 + s.1) (bitV (nI o.1) s.1))) ⟨(show s.1 + 1 ≤ eN (aE a) by omega), (show xr (tkR o.2) 154 ((xu s.2 154 (5 + s.1) (bitV (nI o.1) s.1)) 154) = (xu s.2 154 (5 + s.1) (bitV (nI o.1) s.1)) from (by rw [← hs9]; simp only [xu1, xr_xr, xr_s])), (by rw [e]; exact fun _ => (hI h77).room (by omega))⟩ (show eN (aE a) - (s.1 + 1) < eN (aE a) - s.1 by omega)))
                | (have e : (setl (aR a) (nI o.1) (s.1 + 1)) = (false, (setl (aR a) (nI o.1) s.1).2) := by
                     show (if (setl (aR a) (nI o.1) s.1).1 then _ else _) = _
                     rw [if_pos h77, h86, decide_eq_false (show ¬ (setl (aR a) (nI o.1) s.1).2 (5 + s.1) = bitV (nI o.1) s.1 from fun q => h105 (((hI h77).1 s.1 (by omega)).2.1.trans q))]; rfl
                   exact PW.lc (by (try dsimp only); rw [e]; rfl) rfl (ih (s.1 + 1, (xu s.2 154 (5 + s.1) (bitV (nI o.1) s.1))) ⟨(show s.1 + 1 ≤ eN (aE a) by omega), (show xr (tkR o.2) 154 ((xu s.2 154 (5 + s.1) (bitV (nI o.1) s.1)) 154) = (xu s.2 154 (5 + s.1) (bitV (nI o.1) s.1)) from (by rw [← hs9]; simp only [xu1, xr_xr, xr_s])), (by rw [e]; exact fun q => absurd (show false = true from q) (by decide))⟩ (show eN (aE a) - (s.1 + 1) < eN (aE a) - s.1 by omega)))
                | (have e : (setl (aR a) (nI o.1) (s.1 + 1)) = (false, (setl (aR a) (nI o.1) s.1).2) := by
                     show (if (setl (aR a) (nI o.1) s.1).1 then _ else _) = _
                     rw [if_neg (by rw [h77]; decide)]; exact Prod.ext h77 rfl
                   exact PW.lc (by (try dsimp only); rw [e]; rfl) rfl (ih (s.1 + 1, (xu s.2 154 (5 + s.1) (bitV (nI o.1) s.1))) ⟨(show s.1 + 1 ≤ eN (aE a) by omega), (show xr (tkR o.2) 154 ((xu s.2 154 (5 + s.1) (bitV (nI o.1) s.1)) 154) = (xu s.2 154 (5 + s.1) (bitV (nI o.1) s.1)) from (by rw [← hs9]; simp only [xu1, xr_xr, xr_s])), (by rw [e]; exact fun q => absurd (show false = true from q) (by decide))⟩ (show eN (aE a) - (s.1 + 1) < eN (aE a) - s.1 by omega)))
            · refine r_aload_n dX10_rooms_89 rfl (by rfl) ?_
              refine gf_X10_65 rfl dX10_rooms_90 (by first | assumption | rfl) (by rfl) ?_
              refine r_iconst (v := nI 5) dX10_rooms_93 (by decide) ?_
              refine r_iload dX10_rooms_94 (by rfl) ?_
              refine r_iaddN dX10_rooms_96 ?_
              refine r_ialdN dX10_rooms_97 (by first | assumption | rfl) (by omega) (by decide) ?_
              refine r_iload dX10_rooms_98 (by rfl) ?_
              refine r_iload dX10_rooms_100 (by rfl) ?_
              refine r_ishr dX10_rooms_102 ?_
              refine r_iconst (v := nI 1) dX10_rooms_103 (by decide) ?_
              refine r_iand dX10_rooms_104 ?_
              refine PW.topi (show _ = bitV (nI o.1) s.1 from rfl) ?_
              refine r_icmp_ne (tgt := 112) dX10_rooms_105 (by decide) (fun h105 => ?_) (fun h105 => ?_)
              · refine r_iconst (v := nI 0) dX10_rooms_112 (by decide) ?_
                refine r_istore dX10_rooms_113 (by decide) ?_
                refine r_aload_n dX10_rooms_115 rfl (by rfl) ?_
                refine gf_X10_65 rfl dX10_rooms_116 (by first | assumption | rfl) (by rfl) ?_
                refine r_iconst (v := nI 5) dX10_rooms_119 (by decide) ?_
                refine r_iload dX10_rooms_120 (by rfl) ?_
                refine r_iaddN dX10_rooms_122 ?_
                refine r_iload dX10_rooms_123 (by rfl) ?_
                refine r_iload dX10_rooms_125 (by rfl) ?_
                refine r_ishr dX10_rooms_127 ?_
                refine r_iconst (v := nI 1) dX10_rooms_128 (by decide) ?_
                refine r_iand dX10_rooms_129 ?_
                refine PW.topi (show _ = bitV (nI o.1) s.1 from rfl) ?_
                refine r_iastN dX10_rooms_130 (by first | assumption | rfl) (by omega) (by decide) ?_
                refine r_iincN dX10_rooms_131 (by rfl) (by decide) ?_
                refine r_goto (tgt := 66) dX10_rooms_134 (by decide) ?_
                first
                  | (have e : (setl (aR a) (nI o.1) (s.1 + 1)) = (true, upd (setl (aR a) (nI o.1) s.1).2 (5 + s.1) (bitV (nI o.1) s.1)) := by
                       show (if (setl (aR a) (nI o.1) s.1).1 then _ else _) = _
                       rw [if_pos h77, h86]; rfl
                     exact PW.lc (by (try dsimp only); rw [e]; rfl) rfl (ih (s.1 + 1, (xu s.2 154 (5 + s.1) (bitV (nI o.1) s.1))) ⟨(show s.1 + 1 ≤ eN (aE a) by omega), (show xr (tkR o.2) 154 ((xu s.2 154 (5 + s.1) (bitV (nI o.1) s.1)) 154) = (xu s.2 154 (5 + s.1) (bitV (nI o.1) s.1)) from (by rw [← hs9]; simp only [xu1, xr_xr, xr_s])), (by rw [e]; exact fun _ => (hI h77).room (by omega))⟩ (show eN (aE a) - (s.1 + 1) < eN (aE a) - s.1 by omega)))
                  | (have e : (setl (aR a) (nI o.1) (s.1 + 1)) = (true, upd (setl (aR a) (nI o.1) s.1).2 (5 + s.1) (bitV (nI o.1) s.1)) := by
                       show (if (setl (aR a) (nI o.1) s.1).1 then _ else _) = _
                       rw [if_pos h77, h86, decide_eq_true (show (setl (aR a) (nI o.1) s.1).2 (5 + s.1) = bitV (nI o.1) s.1 from ((hI h77).1 s.1 (by omega)).2.1.symm.trans h105)]; rfl
                     exact PW.lc (by (try dsimp only); rw [e]; rfl) rfl (ih (s.1 + 1, (xu s.2 154 (5 + s.1) (bitV (nI o.1) s.1))) ⟨(show s.1 + 1 ≤ eN (aE a) by omega), (show xr (tkR o.2) 154 ((xu s.2 154 (5 + s.1) (bitV (nI o.1) s.1)) 154) = (xu s.2 154 (5 + s.1) (bitV (nI o.1) s.1)) from (by rw [← hs9]; simp only [xu1, xr_xr, xr_s])), (by rw [e]; exact fun _ => (hI h77).room (by omega))⟩ (show eN (aE a) - (s.1 + 1) < eN (aE a) - s.1 by omega)))
                  | (have e : (setl (aR a) (nI o.1) (s.1 + 1)) = (false, (setl (aR a) (nI o.1) s.1).2) := by
                       show (if (setl (aR a) (nI o.1) s.1).1 then _ else _) = _
                       rw [if_pos h77, h86, decide_eq_false (show ¬ (setl (aR a) (nI o.1) s.1).2 (5 + s.1) = bitV (nI o.1) s.1 from fun q => h105 (((hI h77).1 s.1 (by omega)).2.1.trans q))]; rfl
                     exact PW.lc (by (try dsimp only); rw [e]; rfl) rfl (ih (s.1 + 1, (xu s.2 154 (5 + s.1) (bitV (nI o.1) s.1))) ⟨(show s.1 + 1 ≤ eN (aE a) by omega), (show xr (tkR o.2) 154 ((xu s.2 154 (5 + s.1) (bitV (nI o.1) s.1)) 154) = (xu s.2 154 (5 + s.1) (bitV (nI o.1) s.1)) from (by rw [← hs9]; simp only [xu1, xr_xr, xr_s])), (by rw [e]; exact fun q => absurd (show false = true from q) (by decide))⟩ (show eN (aE a) - (s.1 + 1) < eN (aE a) - s.1 by omega)))
                  | (have e : (setl (aR a) (nI o.1) (s.1 + 1)) = (false, (setl (aR a) (nI o.1) s.1).2) := by
                       show (if (setl (aR a) (nI o.1) s.1).1 then _ else _) = _
                       rw [if_neg (by rw [h77]; decide)]; exact Prod.ext h77 rfl
                     exact PW.lc (by (try dsimp only); rw [e]; rfl) rfl (ih (s.1 + 1, (xu s.2 154 (5 + s.1) (bitV (nI o.1) s.1))) ⟨(show s.1 + 1 ≤ eN (aE a) by omega), (show xr (tkR o.2) 154 ((xu s.2 154 (5 + s.1) (bitV (nI o.1) s.1)) 154) = (xu s.2 154 (5 + s.1) (bitV (nI o.1) s.1)) from (by rw [← hs9]; simp only [xu1, xr_xr, xr_s])), (by rw [e]; exact fun q => absurd (show false = true from q) (by decide))⟩ (show eN (aE a) - (s.1 + 1) < eN (aE a) - s.1 by omega)))
              · refine r_iconst (v := nI 1) dX10_rooms_108 (by decide) ?_
                refine r_goto (tgt := 113) dX10_rooms_109 (by decide) ?_
                refine r_istore dX10_rooms_113 (by decide) ?_
                refine r_aload_n dX10_rooms_115 rfl (by rfl) ?_
                refine gf_X10_65 rfl dX10_rooms_116 (by first | assumption | rfl) (by rfl) ?_
                refine r_iconst (v := nI 5) dX10_rooms_119 (by decide) ?_
                refine r_iload dX10_rooms_120 (by rfl) ?_
                refine r_iaddN dX10_rooms_122 ?_
                refine r_iload dX10_rooms_123 (by rfl) ?_
                refine r_iload dX10_rooms_125 (by rfl) ?_
                refine r_ishr dX10_rooms_127 ?_
                refine r_iconst (v := nI 1) dX10_rooms_128 (by decide) ?_
                refine r_iand dX10_rooms_129 ?_
                refine PW.topi (show _ = bitV (nI o.1) s.1 from rfl) ?_
                refine r_iastN dX10_rooms_130 (by first | assumption | rfl) (by omega) (by decide) ?_
                refine r_iincN dX10_rooms_131 (by rfl) (by decide) ?_
                refine r_goto (tgt := 66) dX10_rooms_134 (by decide) ?_
                first
                  | (have e : (setl (aR a) (nI o.1) (s.1 + 1)) = (true, upd (setl (aR a) (nI o.1) s.1).2 (5 + s.1) (bitV (nI o.1) s.1)) := by
                       show (if (setl (aR a) (nI o.1) s.1).1 then _ else _) = _
                       rw [if_pos h77, h86]; rfl
                     exact PW.lc (by (try dsimp only); rw [e]; rfl) rfl (ih (s.1 + 1, (xu s.2 154 (5 + s.1) (bitV (nI o.1) s.1))) ⟨(show s.1 + 1 ≤ eN (aE a) by omega), (show xr (tkR o.2) 154 ((xu s.2 154 (5 + s.1) (bitV (nI o.1) s.1)) 154) = (xu s.2 154 (5 + s.1) (bitV (nI o.1) s.1)) from (by rw [← hs9]; simp only [xu1, xr_xr, xr_s])), (by rw [e]; exact fun _ => (hI h77).room (by omega))⟩ (show eN (aE a) - (s.1 + 1) < eN (aE a) - s.1 by omega)))
                  | (have e : (setl (aR a) (nI o.1) (s.1 + 1)) = (true, upd (setl (aR a) (nI o.1) s.1).2 (5 + s.1) (bitV (nI o.1) s.1)) := by
                       show (if (setl (aR a) (nI o.1) s.1).1 then _ else _) = _
                       rw [if_pos h77, h86, decide_eq_true (show (setl (aR a) (nI o.1) s.1).2 (5 + s.1) = bitV (nI o.1) s.1 from ((hI h77).1 s.1 (by omega)).2.1.symm.trans h105)]; rfl
                     exact PW.lc (by (try dsimp only); rw [e]; rfl) rfl (ih (s.1 + 1, (xu s.2 154 (5 + s.1) (bitV (nI o.1) s.1))) ⟨(show s.1 + 1 ≤ eN (aE a) by omega), (show xr (tkR o.2) 154 ((xu s.2 154 (5 + s.1) (bitV (nI o.1) s.1)) 154) = (xu s.2 154 (5 + s.1) (bitV (nI o.1) s.1)) from (by rw [← hs9]; simp only [xu1, xr_xr, xr_s])), (by rw [e]; exact fun _ => (hI h77).room (by omega))⟩ (show eN (aE a) - (s.1 + 1) < eN (aE a) - s.1 by omega)))
                  | (have e : (setl (aR a) (nI o.1) (s.1 + 1)) = (false, (setl (aR a) (nI o.1) s.1).2) := by
                       show (if (setl (aR a) (nI o.1) s.1).1 then _ else _) = _
                       rw [if_pos h77, h86, decide_eq_false (show ¬ (setl (aR a) (nI o.1) s.1).2 (5 + s.1) = bitV (nI o.1) s.1 from fun q => h105 (((hI h77).1 s.1 (by omega)).2.1.trans q))]; rfl
                     exact PW.lc (by (try dsimp only); rw [e]; rfl) rfl (ih (s.1 + 1, (xu s.2 154 (5 + s.1) (bitV (nI o.1) s.1))) ⟨(show s.1 + 1 ≤ eN (aE a) by omega), (show xr (tkR o.2) 154 ((xu s.2 154 (5 + s.1) (bitV (nI o.1) s.1)) 154) = (xu s.2 154 (5 + s.1) (bitV (nI o.1) s.1)) from (by rw [← hs9]; simp only [xu1, xr_xr, xr_s])), (by rw [e]; exact fun q => absurd (show false = true from q) (by decide))⟩ (show eN (aE a) - (s.1 + 1) < eN (aE a) - s.1 by omega)))
                  | (have e : (setl (aR a) (nI o.1) (s.1 + 1)) = (false, (setl (aR a) (nI o.1) s.1).2) := by
                       show (if (setl (aR a) (nI o.1) s.1).1 then _ else _) = _
                       rw [if_neg (by rw [h77]; decide)]; exact Prod.ext h77 rfl
                     exact PW.lc (by (try dsimp only); rw [e]; rfl) rfl (ih (s.1 + 1, (xu s.2 154 (5 + s.1) (bitV (nI o.1) s.1))) ⟨(show s.1 + 1 ≤ eN (aE a) by omega), (show xr (tkR o.2) 154 ((xu s.2 154 (5 + s.1) (bitV (nI o.1) s.1)) 154) = (xu s.2 154 (5 + s.1) (bitV (nI o.1) s.1)) from (by rw [← hs9]; simp only [xu1, xr_xr, xr_s])), (by rw [e]; exact fun q => absurd (show false = true from q) (by decide))⟩ (show eN (aE a) - (s.1 + 1) < eN (aE a) - s.1 by omega)))
set_option maxHeartbeats 8000000 in
set_option maxRecDepth 20000 in
theorem n_draws {s : Int32} {i : Nat} {x : XS} (h : x 137 49 = drw s i) : MM mX10_draws 0 0 0 [.ref 137] x (fun v y => v = some (.int (dr16 (drw s (i + 1)))) ∧ y = xu x 137 49 (drw s (i + 1))) NoT := by
  refine MM.of (by decide) (Nat.le_of_ble_eq_true rfl) ?_
  have y137 := lay_137
  refine r_aload_n dX10_draws_0 rfl (by rfl) ?_
  refine r_aload_n dX10_draws_1 rfl (by rfl) ?_
  refine gf_X10_445 rfl dX10_draws_2 (by first | assumption | rfl) (by rfl) ?_
  refine PW.topi h ?_
  refine r_ldcw kc_X10_448 dX10_draws_5 ?_
  refine r_imul dX10_draws_8 ?_
  refine r_sipush (v := nI 12345) dX10_draws_9 (by decide) ?_
  refine r_iadd dX10_draws_12 ?_
  refine PW.topi (show _ = drw s (i + 1) from rfl) ?_
  refine pf_X10_445 rfl dX10_draws_13 (by first | assumption | rfl) (by rfl) ?_
  refine r_aload_n dX10_draws_16 rfl (by rfl) ?_
  refine gf_X10_445 rfl dX10_draws_17 (by first | assumption | rfl) (by rfl) ?_
  refine PW.topi (show _ = drw s (i + 1) from xu_s) ?_
  refine r_bipush (v := nI 16) dX10_draws_20 (by decide) ?_
  refine r_ishr dX10_draws_22 ?_
  refine r_sipush (v := nI 32767) dX10_draws_23 (by decide) ?_
  refine r_iand dX10_draws_26 ?_
  refine PW.topi (shr_and _) ?_
  refine r_bipush (v := nI 16) dX10_draws_27 (by decide) ?_
  refine r_irem dX10_draws_29 (by decide +kernel) ?_
  refine r_iret rfl dX10_draws_30 ?_
  exact ⟨rfl, rfl⟩
set_option maxHeartbeats 8000000 in
set_option maxRecDepth 20000 in
theorem n_isNight {q l n : Int32} {x : XS} : MM mX10_isNight 0 0 0 [.int q, .int l, .int n] x (fun v y => v = some (.int (bI (carOK q l n))) ∧ y = x) NoT := by
  refine MM.of (by decide) (Nat.le_of_ble_eq_true rfl) ?_
  refine r_iload_n dX10_isNight_0 rfl (by rfl) ?_
  refine r_if_lt (tgt := 36) dX10_isNight_1 (by decide) (fun h1 => ?_) (fun h1 => ?_)
  · refine r_iconst (v := nI 0) dX10_isNight_36 (by decide) ?_
    refine r_zret rfl (by first | exact bI_01 _ | exact Or.inl rfl | exact Or.inr rfl) dX10_isNight_37 ?_
    refine ⟨?_, rfl⟩
    unfold carOK inB
    first
      | (rw [decide_eq_false (show ¬ nI 0 ≤ q from Int32.not_le.mpr h1)]; rfl)
      | (rw [decide_eq_true (show nI 0 ≤ q from Int32.not_lt.mp h1), decide_eq_false (Int32.not_le.mpr h7)]; rfl)
      | (rw [decide_eq_true (show nI 0 ≤ q from Int32.not_lt.mp h1), decide_eq_true (Int32.not_lt.mp h7), decide_eq_false (show ¬ nI 0 ≤ l from Int32.not_le.mpr h11)]; rfl)
      | (rw [decide_eq_true (show nI 0 ≤ q from Int32.not_lt.mp h1), decide_eq_true (Int32.not_lt.mp h7), decide_eq_true (show nI 0 ≤ l from Int32.not_lt.mp h11), decide_eq_false (Int32.not_le.mpr h17)]; rfl)
      | (rw [decide_eq_true (show nI 0 ≤ q from Int32.not_lt.mp h1), decide_eq_true (Int32.not_lt.mp h7), decide_eq_true (show nI 0 ≤ l from Int32.not_lt.mp h11), decide_eq_true (Int32.not_lt.mp h17), decide_eq_false (Int32.not_le.mpr h22)]; rfl)
      | (rw [decide_eq_true (show nI 0 ≤ q from Int32.not_lt.mp h1), decide_eq_true (Int32.not_lt.mp h7), decide_eq_true (show nI 0 ≤ l from Int32.not_lt.mp h11), decide_eq_true (Int32.not_lt.mp h17), decide_eq_true (Int32.not_lt.mp h22), decide_eq_false (Int32.not_le.mpr h29)]; rfl)
      | (rw [decide_eq_true (show nI 0 ≤ q from Int32.not_lt.mp h1), decide_eq_true (Int32.not_lt.mp h7), decide_eq_true (show nI 0 ≤ l from Int32.not_lt.mp h11), decide_eq_true (Int32.not_lt.mp h17), decide_eq_true (Int32.not_lt.mp h22), decide_eq_true (Int32.not_lt.mp h29)]; rfl)
  · refine r_iload_n dX10_isNight_4 rfl (by rfl) ?_
    refine r_bipush (v := nI 16) dX10_isNight_5 (by decide) ?_
    refine r_icmp_gt (tgt := 36) dX10_isNight_7 (by decide) (fun h7 => ?_) (fun h7 => ?_)
    · refine r_iconst (v := nI 0) dX10_isNight_36 (by decide) ?_
      refine r_zret rfl (by first | exact bI_01 _ | exact Or.inl rfl | exact Or.inr rfl) dX10_isNight_37 ?_
      refine ⟨?_, rfl⟩
      unfold carOK inB
      first
        | (rw [decide_eq_false (show ¬ nI 0 ≤ q from Int32.not_le.mpr h1)]; rfl)
        | (rw [decide_eq_true (show nI 0 ≤ q from Int32.not_lt.mp h1), decide_eq_false (Int32.not_le.mpr h7)]; rfl)
        | (rw [decide_eq_true (show nI 0 ≤ q from Int32.not_lt.mp h1), decide_eq_true (Int32.not_lt.mp h7), decide_eq_false (show ¬ nI 0 ≤ l from Int32.not_le.mpr h11)]; rfl)
        | (rw [decide_eq_true (show nI 0 ≤ q from Int32.not_lt.mp h1), decide_eq_true (Int32.not_lt.mp h7), decide_eq_true (show nI 0 ≤ l from Int32.not_lt.mp h11), decide_eq_false (Int32.not_le.mpr h17)]; rfl)
        | (rw [decide_eq_true (show nI 0 ≤ q from Int32.not_lt.mp h1), decide_eq_true (Int32.not_lt.mp h7), decide_eq_true (show nI 0 ≤ l from Int32.not_lt.mp h11), decide_eq_true (Int32.not_lt.mp h17), decide_eq_false (Int32.not_le.mpr h22)]; rfl)
        | (rw [decide_eq_true (show nI 0 ≤ q from Int32.not_lt.mp h1), decide_eq_true (Int32.not_lt.mp h7), decide_eq_true (show nI 0 ≤ l from Int32.not_lt.mp h11), decide_eq_true (Int32.not_lt.mp h17), decide_eq_true (Int32.not_lt.mp h22), decide_eq_false (Int32.not_le.mpr h29)]; rfl)
        | (rw [decide_eq_true (show nI 0 ≤ q from Int32.not_lt.mp h1), decide_eq_true (Int32.not_lt.mp h7), decide_eq_true (show nI 0 ≤ l from Int32.not_lt.mp h11), decide_eq_true (Int32.not_lt.mp h17), decide_eq_true (Int32.not_lt.mp h22), decide_eq_true (Int32.not_lt.mp h29)]; rfl)
    · refine r_iload_n dX10_isNight_10 rfl (by rfl) ?_
      refine r_if_lt (tgt := 36) dX10_isNight_11 (by decide) (fun h11 => ?_) (fun h11 => ?_)
      · refine r_iconst (v := nI 0) dX10_isNight_36 (by decide) ?_
        refine r_zret rfl (by first | exact bI_01 _ | exact Or.inl rfl | exact Or.inr rfl) dX10_isNight_37 ?_
        refine ⟨?_, rfl⟩
        unfold carOK inB
        first
          | (rw [decide_eq_false (show ¬ nI 0 ≤ q from Int32.not_le.mpr h1)]; rfl)
          | (rw [decide_eq_true (show nI 0 ≤ q from Int32.not_lt.mp h1), decide_eq_false (Int32.not_le.mpr h7)]; rfl)
          | (rw [decide_eq_true (show nI 0 ≤ q from Int32.not_lt.mp h1), decide_eq_true (Int32.not_lt.mp h7), decide_eq_false (show ¬ nI 0 ≤ l from Int32.not_le.mpr h11)]; rfl)
          | (rw [decide_eq_true (show nI 0 ≤ q from Int32.not_lt.mp h1), decide_eq_true (Int32.not_lt.mp h7), decide_eq_true (show nI 0 ≤ l from Int32.not_lt.mp h11), decide_eq_false (Int32.not_le.mpr h17)]; rfl)
          | (rw [decide_eq_true (show nI 0 ≤ q from Int32.not_lt.mp h1), decide_eq_true (Int32.not_lt.mp h7), decide_eq_true (show nI 0 ≤ l from Int32.not_lt.mp h11), decide_eq_true (Int32.not_lt.mp h17), decide_eq_false (Int32.not_le.mpr h22)]; rfl)
          | (rw [decide_eq_true (show nI 0 ≤ q from Int32.not_lt.mp h1), decide_eq_true (Int32.not_lt.mp h7), decide_eq_true (show nI 0 ≤ l from Int32.not_lt.mp h11), decide_eq_true (Int32.not_lt.mp h17), decide_eq_true (Int32.not_lt.mp h22), decide_eq_false (Int32.not_le.mpr h29)]; rfl)
          | (rw [decide_eq_true (show nI 0 ≤ q from Int32.not_lt.mp h1), decide_eq_true (Int32.not_lt.mp h7), decide_eq_true (show nI 0 ≤ l from Int32.not_lt.mp h11), decide_eq_true (Int32.not_lt.mp h17), decide_eq_true (Int32.not_lt.mp h22), decide_eq_true (Int32.not_lt.mp h29)]; rfl)
      · refine r_iload_n dX10_isNight_14 rfl (by rfl) ?_
        refine r_bipush (v := nI 40) dX10_isNight_15 (by decide) ?_
        refine r_icmp_gt (tgt := 36) dX10_isNight_17 (by decide) (fun h17 => ?_) (fun h17 => ?_)
        · refine r_iconst (v := nI 0) dX10_isNight_36 (by decide) ?_
          refine r_zret rfl (by first | exact bI_01 _ | exact Or.inl rfl | exact Or.inr rfl) dX10_isNight_37 ?_
          refine ⟨?_, rfl⟩
          unfold carOK inB
          first
            | (rw [decide_eq_false (show ¬ nI 0 ≤ q from Int32.not_le.mpr h1)]; rfl)
            | (rw [decide_eq_true (show nI 0 ≤ q from Int32.not_lt.mp h1), decide_eq_false (Int32.not_le.mpr h7)]; rfl)
            | (rw [decide_eq_true (show nI 0 ≤ q from Int32.not_lt.mp h1), decide_eq_true (Int32.not_lt.mp h7), decide_eq_false (show ¬ nI 0 ≤ l from Int32.not_le.mpr h11)]; rfl)
            | (rw [decide_eq_true (show nI 0 ≤ q from Int32.not_lt.mp h1), decide_eq_true (Int32.not_lt.mp h7), decide_eq_true (show nI 0 ≤ l from Int32.not_lt.mp h11), decide_eq_false (Int32.not_le.mpr h17)]; rfl)
            | (rw [decide_eq_true (show nI 0 ≤ q from Int32.not_lt.mp h1), decide_eq_true (Int32.not_lt.mp h7), decide_eq_true (show nI 0 ≤ l from Int32.not_lt.mp h11), decide_eq_true (Int32.not_lt.mp h17), decide_eq_false (Int32.not_le.mpr h22)]; rfl)
            | (rw [decide_eq_true (show nI 0 ≤ q from Int32.not_lt.mp h1), decide_eq_true (Int32.not_lt.mp h7), decide_eq_true (show nI 0 ≤ l from Int32.not_lt.mp h11), decide_eq_true (Int32.not_lt.mp h17), decide_eq_true (Int32.not_lt.mp h22), decide_eq_false (Int32.not_le.mpr h29)]; rfl)
            | (rw [decide_eq_true (show nI 0 ≤ q from Int32.not_lt.mp h1), decide_eq_true (Int32.not_lt.mp h7), decide_eq_true (show nI 0 ≤ l from Int32.not_lt.mp h11), decide_eq_true (Int32.not_lt.mp h17), decide_eq_true (Int32.not_lt.mp h22), decide_eq_true (Int32.not_lt.mp h29)]; rfl)
        · refine r_iload_n dX10_isNight_20 rfl (by rfl) ?_
          refine r_iconst (v := nI 1) dX10_isNight_21 (by decide) ?_
          refine r_icmp_lt (tgt := 36) dX10_isNight_22 (by decide) (fun h22 => ?_) (fun h22 => ?_)
          · refine r_iconst (v := nI 0) dX10_isNight_36 (by decide) ?_
            refine r_zret rfl (by first | exact bI_01 _ | exact Or.inl rfl | exact Or.inr rfl) dX10_isNight_37 ?_
            refine ⟨?_, rfl⟩
            unfold carOK inB
            first
              | (rw [decide_eq_false (show ¬ nI 0 ≤ q from Int32.not_le.mpr h1)]; rfl)
              | (rw [decide_eq_true (show nI 0 ≤ q from Int32.not_lt.mp h1), decide_eq_false (Int32.not_le.mpr h7)]; rfl)
              | (rw [decide_eq_true (show nI 0 ≤ q from Int32.not_lt.mp h1), decide_eq_true (Int32.not_lt.mp h7), decide_eq_false (show ¬ nI 0 ≤ l from Int32.not_le.mpr h11)]; rfl)
              | (rw [decide_eq_true (show nI 0 ≤ q from Int32.not_lt.mp h1), decide_eq_true (Int32.not_lt.mp h7), decide_eq_true (show nI 0 ≤ l from Int32.not_lt.mp h11), decide_eq_false (Int32.not_le.mpr h17)]; rfl)
              | (rw [decide_eq_true (show nI 0 ≤ q from Int32.not_lt.mp h1), decide_eq_true (Int32.not_lt.mp h7), decide_eq_true (show nI 0 ≤ l from Int32.not_lt.mp h11), decide_eq_true (Int32.not_lt.mp h17), decide_eq_false (Int32.not_le.mpr h22)]; rfl)
              | (rw [decide_eq_true (show nI 0 ≤ q from Int32.not_lt.mp h1), decide_eq_true (Int32.not_lt.mp h7), decide_eq_true (show nI 0 ≤ l from Int32.not_lt.mp h11), decide_eq_true (Int32.not_lt.mp h17), decide_eq_true (Int32.not_lt.mp h22), decide_eq_false (Int32.not_le.mpr h29)]; rfl)
              | (rw [decide_eq_true (show nI 0 ≤ q from Int32.not_lt.mp h1), decide_eq_true (Int32.not_lt.mp h7), decide_eq_true (show nI 0 ≤ l from Int32.not_lt.mp h11), decide_eq_true (Int32.not_lt.mp h17), decide_eq_true (Int32.not_lt.mp h22), decide_eq_true (Int32.not_lt.mp h29)]; rfl)
          · refine r_iload_n dX10_isNight_25 rfl (by rfl) ?_
            refine r_sipush (v := nI 240) dX10_isNight_26 (by decide) ?_
            refine r_icmp_gt (tgt := 36) dX10_isNight_29 (by decide) (fun h29 => ?_) (fun h29 => ?_)
            · refine r_iconst (v := nI 0) dX10_isNight_36 (by decide) ?_
              refine r_zret rfl (by first | exact bI_01 _ | exact Or.inl rfl | exact Or.inr rfl) dX10_isNight_37 ?_
              refine ⟨?_, rfl⟩
              unfold carOK inB
              first
                | (rw [decide_eq_false (show ¬ nI 0 ≤ q from Int32.not_le.mpr h1)]; rfl)
                | (rw [decide_eq_true (show nI 0 ≤ q from Int32.not_lt.mp h1), decide_eq_false (Int32.not_le.mpr h7)]; rfl)
                | (rw [decide_eq_true (show nI 0 ≤ q from Int32.not_lt.mp h1), decide_eq_true (Int32.not_lt.mp h7), decide_eq_false (show ¬ nI 0 ≤ l from Int32.not_le.mpr h11)]; rfl)
                | (rw [decide_eq_true (show nI 0 ≤ q from Int32.not_lt.mp h1), decide_eq_true (Int32.not_lt.mp h7), decide_eq_true (show nI 0 ≤ l from Int32.not_lt.mp h11), decide_eq_false (Int32.not_le.mpr h17)]; rfl)
                | (rw [decide_eq_true (show nI 0 ≤ q from Int32.not_lt.mp h1), decide_eq_true (Int32.not_lt.mp h7), decide_eq_true (show nI 0 ≤ l from Int32.not_lt.mp h11), decide_eq_true (Int32.not_lt.mp h17), decide_eq_false (Int32.not_le.mpr h22)]; rfl)
                | (rw [decide_eq_true (show nI 0 ≤ q from Int32.not_lt.mp h1), decide_eq_true (Int32.not_lt.mp h7), decide_eq_true (show nI 0 ≤ l from Int32.not_lt.mp h11), decide_eq_true (Int32.not_lt.mp h17), decide_eq_true (Int32.not_lt.mp h22), decide_eq_false (Int32.not_le.mpr h29)]; rfl)
                | (rw [decide_eq_true (show nI 0 ≤ q from Int32.not_lt.mp h1), decide_eq_true (Int32.not_lt.mp h7), decide_eq_true (show nI 0 ≤ l from Int32.not_lt.mp h11), decide_eq_true (Int32.not_lt.mp h17), decide_eq_true (Int32.not_lt.mp h22), decide_eq_true (Int32.not_lt.mp h29)]; rfl)
            · refine r_iconst (v := nI 1) dX10_isNight_32 (by decide) ?_
              refine r_goto (tgt := 37) dX10_isNight_33 (by decide) ?_
              refine r_zret rfl (by first | exact bI_01 _ | exact Or.inl rfl | exact Or.inr rfl) dX10_isNight_37 ?_
              refine ⟨?_, rfl⟩
              unfold carOK inB
              first
                | (rw [decide_eq_false (show ¬ nI 0 ≤ q from Int32.not_le.mpr h1)]; rfl)
                | (rw [decide_eq_true (show nI 0 ≤ q from Int32.not_lt.mp h1), decide_eq_false (Int32.not_le.mpr h7)]; rfl)
                | (rw [decide_eq_true (show nI 0 ≤ q from Int32.not_lt.mp h1), decide_eq_true (Int32.not_lt.mp h7), decide_eq_false (show ¬ nI 0 ≤ l from Int32.not_le.mpr h11)]; rfl)
                | (rw [decide_eq_true (show nI 0 ≤ q from Int32.not_lt.mp h1), decide_eq_true (Int32.not_lt.mp h7), decide_eq_true (show nI 0 ≤ l from Int32.not_lt.mp h11), decide_eq_false (Int32.not_le.mpr h17)]; rfl)
                | (rw [decide_eq_true (show nI 0 ≤ q from Int32.not_lt.mp h1), decide_eq_true (Int32.not_lt.mp h7), decide_eq_true (show nI 0 ≤ l from Int32.not_lt.mp h11), decide_eq_true (Int32.not_lt.mp h17), decide_eq_false (Int32.not_le.mpr h22)]; rfl)
                | (rw [decide_eq_true (show nI 0 ≤ q from Int32.not_lt.mp h1), decide_eq_true (Int32.not_lt.mp h7), decide_eq_true (show nI 0 ≤ l from Int32.not_lt.mp h11), decide_eq_true (Int32.not_lt.mp h17), decide_eq_true (Int32.not_lt.mp h22), decide_eq_false (Int32.not_le.mpr h29)]; rfl)
                | (rw [decide_eq_true (show nI 0 ≤ q from Int32.not_lt.mp h1), decide_eq_true (Int32.not_lt.mp h7), decide_eq_true (show nI 0 ≤ l from Int32.not_lt.mp h11), decide_eq_true (Int32.not_lt.mp h17), decide_eq_true (Int32.not_lt.mp h22), decide_eq_true (Int32.not_lt.mp h29)]; rfl)
theorem RT.pass {x : XS} {E : NE} {w k k' : Int32} {f rd : Nat → Int32} {t : Nat} (h : RT x E w k f t rd) : RT (xu x 137 42 k') E w k' f t rd := ⟨⟨h.1.1.fr (fun c hc => xu_n (by omega)) (xu_k (by decide)) (xu_k (by decide)), (xu_k (by decide)).trans h.1.2.1, xu_s, h.1.2.2.2.1, h.1.2.2.2.2⟩, h.2.1, h.2.2.1, h.2.2.2.1, h.2.2.2.2⟩
theorem RT.slot {x : XS} {E : NE} {w k v : Int32} {f rd : Nat → Int32} {t j : Nat} (h : RT x E w k f t rd) (hj : j = 49 ∨ j = 50) : RT (xu x 137 j v) E w k f t rd := ⟨⟨h.1.1.fr (fun c hc => xu_n (by omega)) (xu_k (by omega)) (xu_k (by omega)), (xu_k (by omega)).trans h.1.2.1, (xu_k (by omega)).trans h.1.2.2.1, h.1.2.2.2.1, h.1.2.2.2.2⟩, h.2.1, h.2.2.1, h.2.2.2.1, h.2.2.2.2⟩
set_option maxHeartbeats 8000000 in
set_option maxRecDepth 20000 in
theorem n_drives {a : AS} {x : XS} {sd q l : Int32} {n t : Nat} (hR : RRf x a) (hA : AI a) (ht : aR a 40 = nI t) (ht2 : t ≤ 240) (hn : n < 2 ^ 30) : MM mX10_drives 7 0 0 [.ref 137, .int sd, .int q, .int l, .int (nI n)] x (fun v y => v = none ∧ RRow (pcP (aE a) (eW (aE a)) rd0 sd q l (aR a) n) (y 154) ∧ y 137 50 = nI (carN sd q n) ∧ QF x y ∧ y 137 0 = x 137 0) NoT := by
  refine MM.of (by decide) (Nat.le_of_ble_eq_true rfl) ?_
  have y137 := lay_137
  have T0 := take_RT hR hA ht ht2
  refine r_aload_n dX10_drives_0 rfl (by rfl) ?_
  refine r_callV c_take mv_X10_take ml_X10_316 ⟨by decide, by decide⟩ dX10_drives_1 (by first | assumption | rfl) rfl rfl rfl (Nat.le_of_ble_eq_true rfl) (fun v9 x9 h9 => ?_)
  obtain ⟨rfl, h9⟩ := h9
  refine PW.xeq h9 ?_
  clear h9 x9
  refine r_aload_n dX10_drives_4 rfl (by rfl) ?_
  refine r_iload_n dX10_drives_5 rfl (by rfl) ?_
  refine pf_X10_445 rfl dX10_drives_6 (by first | assumption | rfl) (by rfl) ?_
  refine r_aload_n dX10_drives_9 rfl (by rfl) ?_
  refine r_iconst (v := nI 0) dX10_drives_10 (by decide) ?_
  refine pf_X10_449 rfl dX10_drives_11 (by first | assumption | rfl) (by rfl) ?_
  refine r_iconst (v := nI 0) dX10_drives_14 (by decide) ?_
  refine r_istore dX10_drives_15 (by decide) ?_
  refine PW.loop (σ := Nat × XS × Int32) (fun s => n - s.1) (fun s => s.1 ≤ n ∧ RT s.2.1 (aE a) (eW (aE a)) s.2.2 (pcP (aE a) (eW (aE a)) rd0 sd q l (aR a) s.1) (min (t + s.1) 240) rd0 ∧ s.2.1 137 49 = drw sd s.1 ∧ s.2.1 137 50 = nI (carN sd q s.1) ∧ QF x s.2.1 ∧ s.2.1 137 0 = x 137 0) (fun s => [(0, .ref 137), (1, .int sd), (2, .int q), (3, .int l), (4, .int (nI n)), (5, .int (nI s.1))]) (fun s => s.2.1) ((0, xu (xu (tkR x) 137 49 sd) 137 50 (nI 0), nI 0)) (⟨Nat.zero_le _, (by show RT _ _ _ _ _ (min (t + 0) 240) _; rw [show min (t + 0) 240 = t from Nat.min_eq_left ht2]; exact (T0.slot (Or.inl rfl)).slot (Or.inr rfl)), rfl, rfl, ((take_QF x).put7 (by omega)).put7 (by omega), rfl⟩) rfl rfl (fun s hs ih => ?_)
  obtain ⟨hs1, hT, h49, h50, hF, z0⟩ := hs
  refine r_iload dX10_drives_17 (by rfl) ?_
  refine r_iload dX10_drives_19 (by rfl) ?_
  refine r_icmp_geN (tgt := 83) dX10_drives_21 (by decide) (by omega) (by omega) (fun h21 => ?_) (fun h21 => ?_)
  · refine r_aload_n dX10_drives_83 rfl (by rfl) ?_
    refine r_iconst (v := nI 0) dX10_drives_84 (by decide) ?_
    refine pf_X10_334 rfl dX10_drives_85 (by first | assumption | rfl) (by rfl) ?_
    refine r_ret rfl dX10_drives_88 ?_
    have es : s.1 = n := by omega
    rw [es] at hT h50
    refine ⟨rfl, ?_, ?_, hF.put7 (by omega), ?_⟩
    · exact hT.1.2.2.2.1
    · rw [xu_k (by decide)]; exact h50
    · rw [xu_k (by decide)]; exact z0
  · refine r_aload_n dX10_drives_24 rfl (by rfl) ?_
    refine r_callV (n_draws h49) mv_X10_draws ml_X10_452 ⟨by decide, by decide⟩ dX10_drives_25 (by first | assumption | rfl) rfl rfl rfl (Nat.le_of_ble_eq_true rfl) (fun v9 x9 h9 => ?_)
    obtain ⟨rfl, h9⟩ := h9
    refine PW.xeq h9 ?_
    clear h9 x9
    refine r_iload_n dX10_drives_28 rfl (by rfl) ?_
    refine r_icmp_ge (tgt := 36) dX10_drives_29 (by decide) (fun h29 => ?_) (fun h29 => ?_)
    · have hcar : carB sd q s.1 = false := decide_eq_false (Int32.not_lt.mpr h29)
      refine r_iconst (v := nI 0) dX10_drives_36 (by decide) ?_
      refine r_istore dX10_drives_37 (by decide) ?_
      refine r_aload_n dX10_drives_39 rfl (by rfl) ?_
      refine r_dup dX10_drives_40 rfl ?_
      refine gf_X10_449 rfl dX10_drives_41 (by first | assumption | rfl) (by rfl) ?_
      refine PW.topi (show _ = nI (carN sd q s.1) from (by rw [xu_k (by decide)]; exact h50)) ?_
      refine r_iload dX10_drives_44 (by rfl) ?_
      refine r_if_eq (tgt := 53) dX10_drives_46 (by decide) (fun _ => ?_) (fun h => absurd (show nI 0 = 0 from rfl) h)
      refine r_iconst (v := nI 0) dX10_drives_53 (by decide) ?_
      refine r_iadd dX10_drives_54 ?_
      refine PW.topi (show _ = nI (carN sd q (s.1 + 1)) by rw [nI_add]; show _ = nI (carN sd q s.1 + if carB sd q s.1 then 1 else 0); rw [hcar]; rfl) ?_
      refine pf_X10_449 rfl dX10_drives_55 (by first | assumption | rfl) (by rfl) ?_
      refine r_aload_n dX10_drives_58 rfl (by rfl) ?_
      refine r_iload dX10_drives_59 (by rfl) ?_
      refine r_if_eq (tgt := 68) dX10_drives_61 (by decide) (fun _ => ?_) (fun h => absurd (show nI 0 = 0 from rfl) h)
      refine r_iconst (v := nI 0) dX10_drives_68 (by decide) ?_
      refine PW.topi (show _ = (if carB sd q s.1 then l else nI 0) by rw [hcar]; rfl) ?_
      refine pf_X10_334 rfl dX10_drives_69 (by first | assumption | rfl) (by rfl) ?_
      have T3 : RT (xu (xu (xu s.2.1 137 49 (drw sd (s.1 + 1))) 137 50 (nI (carN sd q (s.1 + 1)))) 137 42 (if carB sd q s.1 then l else nI 0)) (aE a) (eW (aE a)) (if carB sd q s.1 then l else nI 0) (pcP (aE a) (eW (aE a)) rd0 sd q l (aR a) s.1) (min (t + s.1) 240) rd0 := ((hT.slot (Or.inl rfl)).slot (Or.inr rfl)).pass
      refine r_aload_n dX10_drives_72 rfl (by rfl) ?_
      refine r_callV (n_minute T3) mv_X10_minute ml_X10_372 ⟨by decide, by decide⟩ dX10_drives_73 (by first | assumption | rfl) rfl rfl rfl (Nat.le_of_ble_eq_true rfl) (fun v9 z h9 => ?_)
      obtain ⟨rfl, T4, F1⟩ := h9
      refine r_pop dX10_drives_76 rfl ?_
      refine r_iincN dX10_drives_77 (by rfl) (by decide) ?_
      refine r_goto (tgt := 17) dX10_drives_80 (by decide) ?_
      exact PW.lc (by rfl) rfl (ih (s.1 + 1, z, (if carB sd q s.1 then l else nI 0)) ⟨(show s.1 + 1 ≤ n by omega), RT.step T4, (show z 137 49 = _ by rw [F1.th]; rfl), (show z 137 50 = _ by rw [F1.th]; rfl), (((hF.put7 (k := 49) (v := drw sd (s.1 + 1)) (by omega)).put7 (k := 50) (v := nI (carN sd q (s.1 + 1))) (by omega)).put7 (k := 42) (v := (if carB sd q s.1 then l else nI 0)) (by omega)).trans F1.qf, (show z 137 0 = _ by rw [F1.th]; exact z0)⟩ (show n - (s.1 + 1) < n - s.1 by omega))
    · have hcar : carB sd q s.1 = true := decide_eq_true (Int32.not_le.mp h29)
      refine r_iconst (v := nI 1) dX10_drives_32 (by decide) ?_
      refine r_goto (tgt := 37) dX10_drives_33 (by decide) ?_
      refine r_istore dX10_drives_37 (by decide) ?_
      refine r_aload_n dX10_drives_39 rfl (by rfl) ?_
      refine r_dup dX10_drives_40 rfl ?_
      refine gf_X10_449 rfl dX10_drives_41 (by first | assumption | rfl) (by rfl) ?_
      refine PW.topi (show _ = nI (carN sd q s.1) from (by rw [xu_k (by decide)]; exact h50)) ?_
      refine r_iload dX10_drives_44 (by rfl) ?_
      refine r_if_eq (tgt := 53) dX10_drives_46 (by decide) (fun h => absurd h (by decide +kernel)) (fun _ => ?_)
      refine r_iconst (v := nI 1) dX10_drives_49 (by decide) ?_
      refine r_goto (tgt := 54) dX10_drives_50 (by decide) ?_
      refine r_iadd dX10_drives_54 ?_
      refine PW.topi (show _ = nI (carN sd q (s.1 + 1)) by rw [nI_add]; show _ = nI (carN sd q s.1 + if carB sd q s.1 then 1 else 0); rw [hcar]; rfl) ?_
      refine pf_X10_449 rfl dX10_drives_55 (by first | assumption | rfl) (by rfl) ?_
      refine r_aload_n dX10_drives_58 rfl (by rfl) ?_
      refine r_iload dX10_drives_59 (by rfl) ?_
      refine r_if_eq (tgt := 68) dX10_drives_61 (by decide) (fun h => absurd h (by decide +kernel)) (fun _ => ?_)
      refine r_iload_n dX10_drives_64 rfl (by rfl) ?_
      refine r_goto (tgt := 69) dX10_drives_65 (by decide) ?_
      refine PW.topi (show _ = (if carB sd q s.1 then l else nI 0) by rw [hcar]; rfl) ?_
      refine pf_X10_334 rfl dX10_drives_69 (by first | assumption | rfl) (by rfl) ?_
      have T3 : RT (xu (xu (xu s.2.1 137 49 (drw sd (s.1 + 1))) 137 50 (nI (carN sd q (s.1 + 1)))) 137 42 (if carB sd q s.1 then l else nI 0)) (aE a) (eW (aE a)) (if carB sd q s.1 then l else nI 0) (pcP (aE a) (eW (aE a)) rd0 sd q l (aR a) s.1) (min (t + s.1) 240) rd0 := ((hT.slot (Or.inl rfl)).slot (Or.inr rfl)).pass
      refine r_aload_n dX10_drives_72 rfl (by rfl) ?_
      refine r_callV (n_minute T3) mv_X10_minute ml_X10_372 ⟨by decide, by decide⟩ dX10_drives_73 (by first | assumption | rfl) rfl rfl rfl (Nat.le_of_ble_eq_true rfl) (fun v9 z h9 => ?_)
      obtain ⟨rfl, T4, F1⟩ := h9
      refine r_pop dX10_drives_76 rfl ?_
      refine r_iincN dX10_drives_77 (by rfl) (by decide) ?_
      refine r_goto (tgt := 17) dX10_drives_80 (by decide) ?_
      exact PW.lc (by rfl) rfl (ih (s.1 + 1, z, (if carB sd q s.1 then l else nI 0)) ⟨(show s.1 + 1 ≤ n by omega), RT.step T4, (show z 137 49 = _ by rw [F1.th]; rfl), (show z 137 50 = _ by rw [F1.th]; rfl), (((hF.put7 (k := 49) (v := drw sd (s.1 + 1)) (by omega)).put7 (k := 50) (v := nI (carN sd q (s.1 + 1))) (by omega)).put7 (k := 42) (v := (if carB sd q s.1 then l else nI 0)) (by omega)).trans F1.qf, (show z 137 0 = _ by rw [F1.th]; exact z0)⟩ (show n - (s.1 + 1) < n - s.1 by omega))
theorem sl_0 (g h : Nat → Int32) : sumR g 30 0 - sumR h 30 0 = nI 0 := by
  show (0 : Int32) - 0 = nI 0
  decide +kernel
set_option maxHeartbeats 8000000 in
set_option maxRecDepth 20000 in
theorem n_sleptNow {n : Nat} {f g : Nat → Int32} {x : XS} (hn : x 137 18 = nI n) (hn5 : n ≤ 5) (hr : RRow f (x 154)) (h0 : RRow g (x 153)) : MM mX10_sleptNow 0 0 0 [.ref 137] x (fun v y => v = some (.int (sumR f 25 n - sumR g 25 n)) ∧ y = x) NoT := by
  refine MM.of (by decide) (Nat.le_of_ble_eq_true rfl) ?_
  have y137 := lay_137
  have y153 := lay_153
  have y154 := lay_154
  refine r_iconst (v := nI 0) dX10_sleptNow_0 (by decide) ?_
  refine r_istore_n dX10_sleptNow_1 rfl (by decide) ?_
  refine r_iconst (v := nI 0) dX10_sleptNow_2 (by decide) ?_
  refine r_istore_n dX10_sleptNow_3 rfl (by decide) ?_
  refine PW.loop (σ := Nat) (fun i => n - i) (fun i => i ≤ n) (fun i => [(0, .ref 137), (1, .int (sumR (x 154) 30 i - sumR (x 153) 30 i)), (2, .int (nI i))]) (fun _ => x) (0) (Nat.zero_le n) (by (try dsimp only); rw [sl_0]; rfl) rfl (fun i hi ih => ?_)
  refine r_iload_n dX10_sleptNow_4 rfl (by rfl) ?_
  refine r_aload_n dX10_sleptNow_5 rfl (by rfl) ?_
  refine gf_X10_156 rfl dX10_sleptNow_6 (by first | assumption | rfl) (by rfl) ?_
  refine PW.topi hn ?_
  refine r_icmp_geN (tgt := 40) dX10_sleptNow_9 (by decide) (by omega) (by omega) (fun h9 => ?_) (fun h9 => ?_)
  · refine r_iload_n dX10_sleptNow_40 rfl (by rfl) ?_
    refine r_iret rfl dX10_sleptNow_41 ?_
    have e : i = n := by omega
    subst e
    exact ⟨by rw [sumR_RR hr i (by omega), sumR_RR h0 i (by omega)], rfl⟩
  · refine r_iload_n dX10_sleptNow_12 rfl (by rfl) ?_
    refine r_aload_n dX10_sleptNow_13 rfl (by rfl) ?_
    refine gf_X10_65 rfl dX10_sleptNow_14 (by first | assumption | rfl) (by rfl) ?_
    refine r_bipush (v := nI 30) dX10_sleptNow_17 (by decide) ?_
    refine r_iload_n dX10_sleptNow_19 rfl (by rfl) ?_
    refine r_iaddN dX10_sleptNow_20 ?_
    refine r_ialdN dX10_sleptNow_21 (by first | assumption | rfl) (by omega) (by decide) ?_
    refine r_aload_n dX10_sleptNow_22 rfl (by rfl) ?_
    refine gf_X10_62 rfl dX10_sleptNow_23 (by first | assumption | rfl) (by rfl) ?_
    refine r_bipush (v := nI 30) dX10_sleptNow_26 (by decide) ?_
    refine r_iload_n dX10_sleptNow_28 rfl (by rfl) ?_
    refine r_iaddN dX10_sleptNow_29 ?_
    refine r_ialdN dX10_sleptNow_30 (by first | assumption | rfl) (by omega) (by decide) ?_
    refine r_isub dX10_sleptNow_31 ?_
    refine r_iadd dX10_sleptNow_32 ?_
    refine PW.topi (i_sas _ _ _ _) ?_
    refine r_istore_n dX10_sleptNow_33 rfl (by decide) ?_
    refine r_iincN dX10_sleptNow_34 (by rfl) (by decide) ?_
    refine r_goto (tgt := 4) dX10_sleptNow_37 (by decide) ?_
    exact PW.lc (by rfl) rfl (ih (i + 1) (by omega) (by omega))
set_option maxHeartbeats 8000000 in
set_option maxRecDepth 20000 in
theorem g_nights {a : AS} {x : XS} {sd q l n9 u9 : Int32} (hR : RRf x a) (hA : AI a) : RASK mX10_nights [.ref 137, .int sd, .int q, .int l, .int n9, .int u9] x a (oNights a sd q l n9 u9) 1 := by
  refine MM.of (by decide) (Nat.le_of_ble_eq_true rfl) ?_
  have y137 := lay_137
  have y153 := lay_153
  have y154 := lay_154
  obtain ⟨t, ht2, ht⟩ := hA.t
  refine r_aload_n dX10_nights_0 rfl (by rfl) ?_
  refine r_iconst (v := nI 0) dX10_nights_1 (by decide) ?_
  refine pf_X10_3 rfl dX10_nights_2 (by first | assumption | rfl) (by rfl) ?_
  refine r_aload_n dX10_nights_5 rfl (by rfl) ?_
  refine r_iload_n dX10_nights_6 rfl (by rfl) ?_
  refine r_iload_n dX10_nights_7 rfl (by rfl) ?_
  refine r_iload dX10_nights_8 (by rfl) ?_
  refine r_callS n_isNight ms_X10_isNight ml_X10_455 ⟨by decide, by decide⟩ dX10_nights_10 rfl (Nat.le_of_ble_eq_true rfl) (fun v9 x9 h9 => ?_)
  obtain ⟨rfl, h9⟩ := h9
  refine PW.xeq h9 ?_
  clear h9 x9
  refine r_if_eqB (tgt := 30) dX10_nights_13 (by decide) (fun h13 => ?_) (fun h13 => ?_)
  · refine r_iconst (v := nI 0) dX10_nights_30 (by decide) ?_
    refine r_iconst (v := nI 1) dX10_nights_31 (by decide) ?_
    refine r_iconst (v := nI 1) dX10_nights_32 (by decide) ?_
    refine r_callV (c_may_0 xu_s (by decide) (by decide)) mv_X10_may ml_X10_203 ⟨by decide, by decide⟩ dX10_nights_33 lay_137 rfl rfl rfl (Nat.le_of_ble_eq_true rfl) (fun v9 x9 h9 => ?_)
    obtain ⟨rfl, h9⟩ := h9
    refine PW.xeq h9 ?_
    clear h9 x9
    refine r_if_neB (tgt := 41) dX10_nights_36 (by decide) (fun h => by cases h) (fun _ => ?_)
    refine r_iconst (v := nI 0) dX10_nights_39 (by decide) ?_
    refine r_iret rfl dX10_nights_40 ?_
    exact ref_bad hR rfl (by rw [oNights, rq_f h13])
  · refine r_iload dX10_nights_16 (by rfl) ?_
    refine r_iconst (v := nI 0) dX10_nights_18 (by decide) ?_
    refine r_iconst (v := nI 3) dX10_nights_19 (by decide) ?_
    refine r_callS c_within10 ms_X10_within ml_X10_282 ⟨by decide, by decide⟩ dX10_nights_20 rfl (Nat.le_of_ble_eq_true rfl) (fun v9 x9 h9 => ?_)
    obtain ⟨rfl, h9⟩ := h9
    refine PW.xeq h9 ?_
    clear h9 x9
    refine r_if_eqB (tgt := 30) dX10_nights_23 (by decide) (fun h23 => ?_) (fun h23 => ?_)
    · refine r_iconst (v := nI 0) dX10_nights_30 (by decide) ?_
      refine r_iconst (v := nI 1) dX10_nights_31 (by decide) ?_
      refine r_iconst (v := nI 1) dX10_nights_32 (by decide) ?_
      refine r_callV (c_may_0 xu_s (by decide) (by decide)) mv_X10_may ml_X10_203 ⟨by decide, by decide⟩ dX10_nights_33 lay_137 rfl rfl rfl (Nat.le_of_ble_eq_true rfl) (fun v9 x9 h9 => ?_)
      obtain ⟨rfl, h9⟩ := h9
      refine PW.xeq h9 ?_
      clear h9 x9
      refine r_if_neB (tgt := 41) dX10_nights_36 (by decide) (fun h => by cases h) (fun _ => ?_)
      refine r_iconst (v := nI 0) dX10_nights_39 (by decide) ?_
      refine r_iret rfl dX10_nights_40 ?_
      exact ref_bad hR rfl (by rw [oNights, rq_t h13, rq_f h23])
    · refine r_iconst (v := nI 1) dX10_nights_26 (by decide) ?_
      refine r_goto (tgt := 31) dX10_nights_27 (by decide) ?_
      refine r_iconst (v := nI 1) dX10_nights_31 (by decide) ?_
      refine r_iconst (v := nI 1) dX10_nights_32 (by decide) ?_
      refine r_callV (c_may_1 xu_s) mv_X10_may ml_X10_203 ⟨by decide, by decide⟩ dX10_nights_33 lay_137 rfl rfl rfl (Nat.le_of_ble_eq_true rfl) (fun v9 x9 h9 => ?_)
      obtain ⟨rfl, h9⟩ := h9
      refine PW.xeq h9 ?_
      clear h9 x9
      refine r_if_neB (tgt := 41) dX10_nights_36 (by decide) (fun _ => ?_) (fun h => by cases h)
      obtain ⟨n, _, hn, rfl⟩ := inB_is (lo := 1) (hi := 240) (carOK_n h13) (by decide) (by decide)
      obtain ⟨k, _, hk, rfl⟩ := inB_is (lo := 0) (hi := 3) h23 (by decide) (by decide)
      refine r_aload_n dX10_nights_41 rfl (by rfl) ?_
      refine r_iload_n dX10_nights_42 rfl (by rfl) ?_
      refine r_iload_n dX10_nights_43 rfl (by rfl) ?_
      refine r_iload_n dX10_nights_44 rfl (by rfl) ?_
      refine r_iload dX10_nights_45 (by rfl) ?_
      refine r_callV (n_drives hR.th hA ht ht2 (by omega)) mv_X10_drives ml_X10_458 ⟨by decide, by decide⟩ dX10_nights_47 (by first | assumption | rfl) rfl rfl rfl (Nat.le_of_ble_eq_true rfl) (fun v9 y h9 => ?_)
      obtain ⟨rfl, T1, c1, F1, z0⟩ := h9
      have R1 := hR.th.qf F1
      refine r_iload dX10_nights_50 (by rfl) ?_
      refine r_if_ne (tgt := 62) dX10_nights_52 (by decide) (fun h52 => ?_) (fun h52 => ?_)
      · have k52 : k ≠ 0 := fun e => h52 (by rw [e]; rfl)
        refine r_iload dX10_nights_62 (by rfl) ?_
        refine r_iconst (v := nI 1) dX10_nights_64 (by decide) ?_
        refine r_icmp_neN (tgt := 86) dX10_nights_65 (by decide) (by omega) (by omega) (fun h65 => ?_) (fun h65 => ?_)
        · refine r_iload dX10_nights_86 (by rfl) ?_
          refine r_iconst (v := nI 2) dX10_nights_88 (by decide) ?_
          refine r_icmp_neN (tgt := 99) dX10_nights_89 (by decide) (by omega) (by omega) (fun h89 => ?_) (fun h89 => ?_)
          · refine r_aload_n dX10_nights_99 rfl (by rfl) ?_
            refine r_callV (n_asleepAll R1.1.1 R1.1.2.1 T1) mv_X10_asleepAll ml_X10_380 ⟨by decide, by decide⟩ dX10_nights_100 (by first | assumption | rfl) rfl rfl rfl (Nat.le_of_ble_eq_true rfl) (fun v9 x9 h9 => ?_)
            obtain ⟨rfl, h9⟩ := h9
            refine PW.xeq h9 ?_
            clear h9 x9
            refine r_iret rfl dX10_nights_103 ?_
            refine ref_ok hR ((th0_qf x).trans F1) (z0.trans rfl) ?_
            rw [oNights, rq_t h13, rq_t h23, nN_nI (by omega)]
            first
              | (have e : k = 0 := by omega
                 subst e
                 rfl)
              | (have e : k = 1 := by omega
                 subst e
                 rw [T1.2.2, R1.2.2.1.2.2]
                 rfl)
              | (have e : k = 2 := by omega
                 subst e
                 rw [c1]
                 rfl)
              | (have e : k = 3 := by omega
                 subst e
                 rfl)
          · refine r_aload_n dX10_nights_92 rfl (by rfl) ?_
            refine gf_X10_449 rfl dX10_nights_93 (by first | assumption | rfl) (by rfl) ?_
            refine r_goto (tgt := 103) dX10_nights_96 (by decide) ?_
            refine r_iret rfl dX10_nights_103 ?_
            refine ref_ok hR ((th0_qf x).trans F1) (z0.trans rfl) ?_
            rw [oNights, rq_t h13, rq_t h23, nN_nI (by omega)]
            first
              | (have e : k = 0 := by omega
                 subst e
                 rfl)
              | (have e : k = 1 := by omega
                 subst e
                 rw [T1.2.2, R1.2.2.1.2.2]
                 rfl)
              | (have e : k = 2 := by omega
                 subst e
                 rw [c1]
                 rfl)
              | (have e : k = 3 := by omega
                 subst e
                 rfl)
        · refine r_aload_n dX10_nights_68 rfl (by rfl) ?_
          refine gf_X10_65 rfl dX10_nights_69 (by first | assumption | rfl) (by rfl) ?_
          refine r_bipush (v := nI 41) dX10_nights_72 (by decide) ?_
          refine r_ialdN dX10_nights_74 (by first | assumption | rfl) (by omega) (by decide) ?_
          refine r_aload_n dX10_nights_75 rfl (by rfl) ?_
          refine gf_X10_62 rfl dX10_nights_76 (by first | assumption | rfl) (by rfl) ?_
          refine r_bipush (v := nI 41) dX10_nights_79 (by decide) ?_
          refine r_ialdN dX10_nights_81 (by first | assumption | rfl) (by omega) (by decide) ?_
          refine r_isub dX10_nights_82 ?_
          refine r_goto (tgt := 103) dX10_nights_83 (by decide) ?_
          refine r_iret rfl dX10_nights_103 ?_
          refine ref_ok hR ((th0_qf x).trans F1) (z0.trans rfl) ?_
          rw [oNights, rq_t h13, rq_t h23, nN_nI (by omega)]
          first
            | (have e : k = 0 := by omega
               subst e
               rfl)
            | (have e : k = 1 := by omega
               subst e
               rw [T1.2.2, R1.2.2.1.2.2]
               rfl)
            | (have e : k = 2 := by omega
               subst e
               rw [c1]
               rfl)
            | (have e : k = 3 := by omega
               subst e
               rfl)
      · have k52 : k = 0 := by
          by_cases e : k = 0
          · exact e
          · exact absurd h52 (nI_ne0 (by omega) (by omega))
        refine r_aload_n dX10_nights_55 rfl (by rfl) ?_
        refine r_callV (n_sleptNow R1.1.1 R1.1.2.1 T1 R1.2.2.1) mv_X10_sleptNow ml_X10_462 ⟨by decide, by decide⟩ dX10_nights_56 (by first | assumption | rfl) rfl rfl rfl (Nat.le_of_ble_eq_true rfl) (fun v9 x9 h9 => ?_)
        obtain ⟨rfl, h9⟩ := h9
        refine PW.xeq h9 ?_
        clear h9 x9
        refine r_goto (tgt := 103) dX10_nights_59 (by decide) ?_
        refine r_iret rfl dX10_nights_103 ?_
        refine ref_ok hR ((th0_qf x).trans F1) (z0.trans rfl) ?_
        rw [oNights, rq_t h13, rq_t h23, nN_nI (by omega)]
        first
          | (have e : k = 0 := by omega
             subst e
             rfl)
          | (have e : k = 1 := by omega
             subst e
             rw [T1.2.2, R1.2.2.1.2.2]
             rfl)
          | (have e : k = 2 := by omega
             subst e
             rw [c1]
             rfl)
          | (have e : k = 3 := by omega
             subst e
             rfl)
