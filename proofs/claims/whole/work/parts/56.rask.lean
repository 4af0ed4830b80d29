set_option maxHeartbeats 8000000 in
set_option maxRecDepth 20000 in
theorem g_told {a : AS} {x : XS} {v : Int32} (hR : RRf x a) (hA : AI a) : RASK mX10_told [.ref 137, .int v] x a (oTold a v) 1 := by
  refine MM.of (by decide) (Nat.le_of_ble_eq_true rfl) ?_
  have y137 := lay_137
  have y154 := lay_154
  obtain ⟨t, ht2, ht⟩ := hA.t
  have T0 := take_RT (hR.th) hA ht ht2
  have Q0 : QF x (tkR (th0 x)) := (th0_qf x).trans (take_QF _)
  refine r_aload_n dX10_told_0 rfl (by rfl) ?_
  refine r_iconst (v := nI 0) dX10_told_1 (by decide) ?_
  refine pf_X10_3 rfl dX10_told_2 (by first | assumption | rfl) (by rfl) ?_
  refine r_aload_n dX10_told_5 rfl (by rfl) ?_
  refine r_iload_n dX10_told_6 rfl (by rfl) ?_
  refine r_iconst (v := nI 0) dX10_told_7 (by decide) ?_
  refine r_bipush (v := nI 7) dX10_told_8 (by decide) ?_
  refine r_callS c_within10 ms_X10_within ml_X10_282 ⟨by decide, by decide⟩ dX10_told_10 rfl (Nat.le_of_ble_eq_true rfl) (fun v9 x9 h9 => ?_)
  obtain ⟨rfl, h9⟩ := h9
  refine PW.xeq h9 ?_
  clear h9 x9
  refine r_iconst (v := nI 1) dX10_told_13 (by decide) ?_
  refine r_iconst (v := nI 1) dX10_told_14 (by decide) ?_
  refine PW.caseB3 (fun q15 => ?_) (fun q15 => ?_)
  · refine r_callV (c_may_t xu_s) mv_X10_may ml_X10_203 ⟨by decide, by decide⟩ dX10_told_15 lay_137 rfl rfl rfl (Nat.le_of_ble_eq_true rfl) (fun v9 x9 h9 => ?_)
    obtain ⟨rfl, h9⟩ := h9
    refine PW.xeq h9 ?_
    clear h9 x9
    refine r_if_neB (tgt := 23) dX10_told_18 (by decide) (fun _ => ?_) (fun h => by cases h)
    obtain ⟨k, _, hk, rfl⟩ := inB_is (lo := 0) (hi := 7) q15 (by decide) (by decide)
    refine r_aload_n dX10_told_23 rfl (by rfl) ?_
    refine r_callV c_take mv_X10_take ml_X10_316 ⟨by decide, by decide⟩ dX10_told_24 (by first | assumption | rfl) rfl rfl rfl (Nat.le_of_ble_eq_true rfl) (fun v9 x9 h9 => ?_)
    obtain ⟨rfl, h9⟩ := h9
    refine PW.xeq h9 ?_
    clear h9 x9
    refine r_iload_n dX10_told_27 rfl (by rfl) ?_
    refine r_iconst (v := nI 3) dX10_told_28 (by decide) ?_
    refine r_icmp_geN (tgt := 63) dX10_told_29 (by decide) (by omega) (by omega) (fun h29 => ?_) (fun h29 => ?_)
    · refine r_iload_n dX10_told_63 rfl (by rfl) ?_
      refine r_iconst (v := nI 5) dX10_told_64 (by decide) ?_
      refine r_icmp_geN (tgt := 88) dX10_told_65 (by decide) (by omega) (by omega) (fun h65 => ?_) (fun h65 => ?_)
      · refine r_iload_n dX10_told_88 rfl (by rfl) ?_
        refine r_iconst (v := nI 5) dX10_told_89 (by decide) ?_
        refine r_icmp_neN (tgt := 100) dX10_told_90 (by decide) (by omega) (by omega) (fun h90 => ?_) (fun h90 => ?_)
        · refine r_iload_n dX10_told_100 rfl (by rfl) ?_
          refine r_bipush (v := nI 6) dX10_told_101 (by decide) ?_
          refine r_icmp_neN (tgt := 113) dX10_told_103 (by decide) (by omega) (by omega) (fun h103 => ?_) (fun h103 => ?_)
          · refine r_aload_n dX10_told_113 rfl (by rfl) ?_
            refine gf_X10_159 rfl dX10_told_114 (by first | assumption | rfl) (by rfl) ?_
            refine r_iret rfl dX10_told_117 ?_
            refine ref_ok hR Q0 rfl ?_
            rw [oTold, rq_t q15]
            first
              | (have e : k = 0 := by omega
                 subst e
                 exact congrArg Except.ok T0.1.1.1.symm)
              | (have e : k = 1 := by omega
                 subst e
                 exact congrArg Except.ok T0.1.2.2.2.1.2.1.symm)
              | (have e : k = 2 := by omega
                 subst e
                 rfl)
              | (have e : k = 3 := by omega
                 subst e
                 rfl)
              | (have e : k = 4 := by omega
                 subst e
                 exact congrArg Except.ok T0.1.2.2.2.1.2.2.symm)
              | (have e : k = 5 := by omega
                 subst e
                 exact congrArg Except.ok hR.2.2.2.2.1.1.symm)
              | (have e : k = 6 := by omega
                 subst e
                 exact congrArg Except.ok hR.2.2.2.2.2.2.2.1.symm)
              | (have e : k = 7 := by omega
                 subst e
                 exact congrArg Except.ok hR.2.1.symm)
          · refine r_aload_n dX10_told_106 rfl (by rfl) ?_
            refine gf_X10_178 rfl dX10_told_107 (by first | assumption | rfl) (by rfl) ?_
            refine r_goto (tgt := 117) dX10_told_110 (by decide) ?_
            refine r_iret rfl dX10_told_117 ?_
            refine ref_ok hR Q0 rfl ?_
            rw [oTold, rq_t q15]
            first
              | (have e : k = 0 := by omega
                 subst e
                 exact congrArg Except.ok T0.1.1.1.symm)
              | (have e : k = 1 := by omega
                 subst e
                 exact congrArg Except.ok T0.1.2.2.2.1.2.1.symm)
              | (have e : k = 2 := by omega
                 subst e
                 rfl)
              | (have e : k = 3 := by omega
                 subst e
                 rfl)
              | (have e : k = 4 := by omega
                 subst e
                 exact congrArg Except.ok T0.1.2.2.2.1.2.2.symm)
              | (have e : k = 5 := by omega
                 subst e
                 exact congrArg Except.ok hR.2.2.2.2.1.1.symm)
              | (have e : k = 6 := by omega
                 subst e
                 exact congrArg Except.ok hR.2.2.2.2.2.2.2.1.symm)
              | (have e : k = 7 := by omega
                 subst e
                 exact congrArg Except.ok hR.2.1.symm)
        · refine r_aload_n dX10_told_93 rfl (by rfl) ?_
          refine gf_X10_169 rfl dX10_told_94 (by first | assumption | rfl) (by rfl) ?_
          refine r_goto (tgt := 117) dX10_told_97 (by decide) ?_
          refine r_iret rfl dX10_told_117 ?_
          refine ref_ok hR Q0 rfl ?_
          rw [oTold, rq_t q15]
          first
            | (have e : k = 0 := by omega
               subst e
               exact congrArg Except.ok T0.1.1.1.symm)
            | (have e : k = 1 := by omega
               subst e
               exact congrArg Except.ok T0.1.2.2.2.1.2.1.symm)
            | (have e : k = 2 := by omega
               subst e
               rfl)
            | (have e : k = 3 := by omega
               subst e
               rfl)
            | (have e : k = 4 := by omega
               subst e
               exact congrArg Except.ok T0.1.2.2.2.1.2.2.symm)
            | (have e : k = 5 := by omega
               subst e
               exact congrArg Except.ok hR.2.2.2.2.1.1.symm)
            | (have e : k = 6 := by omega
               subst e
               exact congrArg Except.ok hR.2.2.2.2.2.2.2.1.symm)
            | (have e : k = 7 := by omega
               subst e
               exact congrArg Except.ok hR.2.1.symm)
      · refine r_iload_n dX10_told_68 rfl (by rfl) ?_
        refine r_iconst (v := nI 3) dX10_told_69 (by decide) ?_
        refine r_icmp_neN (tgt := 80) dX10_told_70 (by decide) (by omega) (by omega) (fun h70 => ?_) (fun h70 => ?_)
        · refine r_aload_n dX10_told_80 rfl (by rfl) ?_
          refine gf_X10_65 rfl dX10_told_81 (by first | assumption | rfl) (by rfl) ?_
          refine r_bipush (v := nI 41) dX10_told_84 (by decide) ?_
          refine r_ialdN dX10_told_86 (by first | assumption | rfl) (by omega) (by decide) ?_
          refine r_iret rfl dX10_told_87 ?_
          refine ref_ok hR Q0 rfl ?_
          rw [oTold, rq_t q15]
          first
            | (have e : k = 0 := by omega
               subst e
               exact congrArg Except.ok T0.1.1.1.symm)
            | (have e : k = 1 := by omega
               subst e
               exact congrArg Except.ok T0.1.2.2.2.1.2.1.symm)
            | (have e : k = 2 := by omega
               subst e
               rfl)
            | (have e : k = 3 := by omega
               subst e
               rfl)
            | (have e : k = 4 := by omega
               subst e
               exact congrArg Except.ok T0.1.2.2.2.1.2.2.symm)
            | (have e : k = 5 := by omega
               subst e
               exact congrArg Except.ok hR.2.2.2.2.1.1.symm)
            | (have e : k = 6 := by omega
               subst e
               exact congrArg Except.ok hR.2.2.2.2.2.2.2.1.symm)
            | (have e : k = 7 := by omega
               subst e
               exact congrArg Except.ok hR.2.1.symm)
        · refine r_aload_n dX10_told_73 rfl (by rfl) ?_
          refine r_callV (n_sleptAll T0.1.1.1 T0.1.1.2.1 T0.1.2.2.2.1) mv_X10_sleptAll ml_X10_377 ⟨by decide, by decide⟩ dX10_told_74 (by first | assumption | rfl) rfl rfl rfl (Nat.le_of_ble_eq_true rfl) (fun v9 x9 h9 => ?_)
          obtain ⟨rfl, h9⟩ := h9
          refine PW.xeq h9 ?_
          clear h9 x9
          refine r_goto (tgt := 87) dX10_told_77 (by decide) ?_
          refine r_iret rfl dX10_told_87 ?_
          refine ref_ok hR Q0 rfl ?_
          rw [oTold, rq_t q15]
          first
            | (have e : k = 0 := by omega
               subst e
               exact congrArg Except.ok T0.1.1.1.symm)
            | (have e : k = 1 := by omega
               subst e
               exact congrArg Except.ok T0.1.2.2.2.1.2.1.symm)
            | (have e : k = 2 := by omega
               subst e
               rfl)
            | (have e : k = 3 := by omega
               subst e
               rfl)
            | (have e : k = 4 := by omega
               subst e
               exact congrArg Except.ok T0.1.2.2.2.1.2.2.symm)
            | (have e : k = 5 := by omega
               subst e
               exact congrArg Except.ok hR.2.2.2.2.1.1.symm)
            | (have e : k = 6 := by omega
               subst e
               exact congrArg Except.ok hR.2.2.2.2.2.2.2.1.symm)
            | (have e : k = 7 := by omega
               subst e
               exact congrArg Except.ok hR.2.1.symm)
    · refine r_iload_n dX10_told_32 rfl (by rfl) ?_
      refine r_if_ne (tgt := 43) dX10_told_33 (by decide) (fun h33 => ?_) (fun h33 => ?_)
      · have k33 : k ≠ 0 := fun e => h33 (by rw [e]; rfl)
        refine r_iload_n dX10_told_43 rfl (by rfl) ?_
        refine r_iconst (v := nI 1) dX10_told_44 (by decide) ?_
        refine r_icmp_neN (tgt := 58) dX10_told_45 (by decide) (by omega) (by omega) (fun h45 => ?_) (fun h45 => ?_)
        · refine r_aload_n dX10_told_58 rfl (by rfl) ?_
          refine r_callV (n_asleepAll T0.1.1.1 T0.1.1.2.1 T0.1.2.2.2.1) mv_X10_asleepAll ml_X10_380 ⟨by decide, by decide⟩ dX10_told_59 (by first | assumption | rfl) rfl rfl rfl (Nat.le_of_ble_eq_true rfl) (fun v9 x9 h9 => ?_)
          obtain ⟨rfl, h9⟩ := h9
          refine PW.xeq h9 ?_
          clear h9 x9
          refine r_iret rfl dX10_told_62 ?_
          refine ref_ok hR Q0 rfl ?_
          rw [oTold, rq_t q15]
          first
            | (have e : k = 0 := by omega
               subst e
               exact congrArg Except.ok T0.1.1.1.symm)
            | (have e : k = 1 := by omega
               subst e
               exact congrArg Except.ok T0.1.2.2.2.1.2.1.symm)
            | (have e : k = 2 := by omega
               subst e
               rfl)
            | (have e : k = 3 := by omega
               subst e
               rfl)
            | (have e : k = 4 := by omega
               subst e
               exact congrArg Except.ok T0.1.2.2.2.1.2.2.symm)
            | (have e : k = 5 := by omega
               subst e
               exact congrArg Except.ok hR.2.2.2.2.1.1.symm)
            | (have e : k = 6 := by omega
               subst e
               exact congrArg Except.ok hR.2.2.2.2.2.2.2.1.symm)
            | (have e : k = 7 := by omega
               subst e
               exact congrArg Except.ok hR.2.1.symm)
        · refine r_aload_n dX10_told_48 rfl (by rfl) ?_
          refine gf_X10_65 rfl dX10_told_49 (by first | assumption | rfl) (by rfl) ?_
          refine r_bipush (v := nI 40) dX10_told_52 (by decide) ?_
          refine r_ialdN dX10_told_54 (by first | assumption | rfl) (by omega) (by decide) ?_
          refine r_goto (tgt := 62) dX10_told_55 (by decide) ?_
          refine r_iret rfl dX10_told_62 ?_
          refine ref_ok hR Q0 rfl ?_
          rw [oTold, rq_t q15]
          first
            | (have e : k = 0 := by omega
               subst e
               exact congrArg Except.ok T0.1.1.1.symm)
            | (have e : k = 1 := by omega
               subst e
               exact congrArg Except.ok T0.1.2.2.2.1.2.1.symm)
            | (have e : k = 2 := by omega
               subst e
               rfl)
            | (have e : k = 3 := by omega
               subst e
               rfl)
            | (have e : k = 4 := by omega
               subst e
               exact congrArg Except.ok T0.1.2.2.2.1.2.2.symm)
            | (have e : k = 5 := by omega
               subst e
               exact congrArg Except.ok hR.2.2.2.2.1.1.symm)
            | (have e : k = 6 := by omega
               subst e
               exact congrArg Except.ok hR.2.2.2.2.2.2.2.1.symm)
            | (have e : k = 7 := by omega
               subst e
               exact congrArg Except.ok hR.2.1.symm)
      · have k33 : k = 0 := by
          by_cases e : k = 0
          · exact e
          · exact absurd h33 (nI_ne0 (by omega) (by omega))
        refine r_aload_n dX10_told_36 rfl (by rfl) ?_
        refine gf_X10_156 rfl dX10_told_37 (by first | assumption | rfl) (by rfl) ?_
        refine r_goto (tgt := 62) dX10_told_40 (by decide) ?_
        refine r_iret rfl dX10_told_62 ?_
        refine ref_ok hR Q0 rfl ?_
        rw [oTold, rq_t q15]
        first
          | (have e : k = 0 := by omega
             subst e
             exact congrArg Except.ok T0.1.1.1.symm)
          | (have e : k = 1 := by omega
             subst e
             exact congrArg Except.ok T0.1.2.2.2.1.2.1.symm)
          | (have e : k = 2 := by omega
             subst e
             rfl)
          | (have e : k = 3 := by omega
             subst e
             rfl)
          | (have e : k = 4 := by omega
             subst e
             exact congrArg Except.ok T0.1.2.2.2.1.2.2.symm)
          | (have e : k = 5 := by omega
             subst e
             exact congrArg Except.ok hR.2.2.2.2.1.1.symm)
          | (have e : k = 6 := by omega
             subst e
             exact congrArg Except.ok hR.2.2.2.2.2.2.2.1.symm)
          | (have e : k = 7 := by omega
             subst e
             exact congrArg Except.ok hR.2.1.symm)
  · refine r_callV (c_may_f xu_s (by decide) (by decide)) mv_X10_may ml_X10_203 ⟨by decide, by decide⟩ dX10_told_15 lay_137 rfl rfl rfl (Nat.le_of_ble_eq_true rfl) (fun v9 x9 h9 => ?_)
    obtain ⟨rfl, h9⟩ := h9
    refine PW.xeq h9 ?_
    clear h9 x9
    refine r_if_neB (tgt := 23) dX10_told_18 (by decide) (fun h => by cases h) (fun _ => ?_)
    refine r_iconst (v := nI 0) dX10_told_21 (by decide) ?_
    refine r_iret rfl dX10_told_22 ?_
    exact ref_bad hR rfl (by rw [oTold, rq_f q15])
set_option maxHeartbeats 8000000 in
set_option maxRecDepth 20000 in
theorem g_sleeper {a : AS} {x : XS} {v w : Int32} (hR : RRf x a) (hA : AI a) : RASK mX10_sleeper [.ref 137, .int v, .int w] x a (oSleeper a v w) 2 := by
  refine MM.of (by decide) (Nat.le_of_ble_eq_true rfl) ?_
  have y137 := lay_137
  have y142 := lay_142
  have y153 := lay_153
  refine r_aload_n dX10_sleeper_0 rfl (by rfl) ?_
  refine r_iconst (v := nI 0) dX10_sleeper_1 (by decide) ?_
  refine pf_X10_3 rfl dX10_sleeper_2 (by first | assumption | rfl) (by rfl) ?_
  refine r_aload_n dX10_sleeper_5 rfl (by rfl) ?_
  refine r_iload_n dX10_sleeper_6 rfl (by rfl) ?_
  refine r_iconst (v := nI 1) dX10_sleeper_7 (by decide) ?_
  by_cases q8 : nobody v (eN (aE a)) = true
  · refine r_callV (c_isS_f hR.th.1.1 xu_s q8) mv_X10_isSleeper ml_X10_383 ⟨by decide, by decide⟩ dX10_sleeper_8 lay_137 rfl rfl rfl (Nat.le_of_ble_eq_true rfl) (fun v9 x9 h9 => ?_)
    obtain ⟨rfl, h9⟩ := h9
    refine PW.xeq h9 ?_
    clear h9 x9
    refine r_if_eqB (tgt := 30) dX10_sleeper_11 (by decide) (fun _ => ?_) (fun h => by cases h)
    refine r_iconst (v := nI 0) dX10_sleeper_30 (by decide) ?_
    refine r_iret rfl dX10_sleeper_31 ?_
    exact ref_nob hR rfl (by rw [oSleeper, rqS_t q8])
  · have q8 := Bool.eq_false_iff.mpr q8
    obtain ⟨p, hp, rfl⟩ := nobody_f hR.1.2.1 q8
    have hp5 : p < 5 := Nat.lt_of_lt_of_le hp hR.1.2.1
    refine r_callV (c_isS_t hR.th.1.1 hR.1.2.1 xu_s hp) mv_X10_isSleeper ml_X10_383 ⟨by decide, by decide⟩ dX10_sleeper_8 lay_137 rfl rfl rfl (Nat.le_of_ble_eq_true rfl) (fun v9 x9 h9 => ?_)
    obtain ⟨rfl, h9⟩ := h9
    refine PW.xeq h9 ?_
    clear h9 x9
    refine r_if_eqB (tgt := 30) dX10_sleeper_11 (by decide) (fun h => by cases h) (fun _ => ?_)
    refine r_aload_n dX10_sleeper_14 rfl (by rfl) ?_
    refine r_iload_n dX10_sleeper_15 rfl (by rfl) ?_
    refine r_iconst (v := nI 0) dX10_sleeper_16 (by decide) ?_
    refine r_bipush (v := nI 9) dX10_sleeper_17 (by decide) ?_
    refine r_callS c_within10 ms_X10_within ml_X10_282 ⟨by decide, by decide⟩ dX10_sleeper_19 rfl (Nat.le_of_ble_eq_true rfl) (fun v9 x9 h9 => ?_)
    obtain ⟨rfl, h9⟩ := h9
    refine PW.xeq h9 ?_
    clear h9 x9
    refine r_iconst (v := nI 2) dX10_sleeper_22 (by decide) ?_
    refine r_iconst (v := nI 1) dX10_sleeper_23 (by decide) ?_
    refine PW.caseB3 (fun q24 => ?_) (fun q24 => ?_)
    · refine r_callV (c_may_t xu_s) mv_X10_may ml_X10_203 ⟨by decide, by decide⟩ dX10_sleeper_24 lay_137 rfl rfl rfl (Nat.le_of_ble_eq_true rfl) (fun v9 x9 h9 => ?_)
      obtain ⟨rfl, h9⟩ := h9
      refine PW.xeq h9 ?_
      clear h9 x9
      refine r_if_neB (tgt := 32) dX10_sleeper_27 (by decide) (fun _ => ?_) (fun h => by cases h)
      obtain ⟨k, _, hk, rfl⟩ := inB_is (lo := 0) (hi := 9) q24 (by decide) (by decide)
      refine r_iload_n dX10_sleeper_32 rfl (by rfl) ?_
      refine r_iconst (v := nI 3) dX10_sleeper_33 (by decide) ?_
      refine r_icmp_geN (tgt := 64) dX10_sleeper_34 (by decide) (by omega) (by omega) (fun h34 => ?_) (fun h34 => ?_)
      · refine r_iload_n dX10_sleeper_64 rfl (by rfl) ?_
        refine r_bipush (v := nI 6) dX10_sleeper_65 (by decide) ?_
        refine r_icmp_geN (tgt := 113) dX10_sleeper_67 (by decide) (by omega) (by omega) (fun h67 => ?_) (fun h67 => ?_)
        · refine r_iload_n dX10_sleeper_113 rfl (by rfl) ?_
          refine r_bipush (v := nI 9) dX10_sleeper_114 (by decide) ?_
          refine r_icmp_geN (tgt := 165) dX10_sleeper_116 (by decide) (by omega) (by omega) (fun h116 => ?_) (fun h116 => ?_)
          · refine r_aload_n dX10_sleeper_165 rfl (by rfl) ?_
            refine gf_X10_29 rfl dX10_sleeper_166 (by first | assumption | rfl) (by rfl) ?_
            refine r_bipush (v := nI 8) dX10_sleeper_169 (by decide) ?_
            refine r_iload_n dX10_sleeper_171 rfl (by rfl) ?_
            refine r_imulN dX10_sleeper_172 ?_
            refine r_bipush (v := nI 7) dX10_sleeper_173 (by decide) ?_
            refine r_iaddN dX10_sleeper_175 ?_
            refine r_ialdN dX10_sleeper_176 (by first | assumption | rfl) (by omega) (by decide) ?_
            refine r_aload_n dX10_sleeper_177 rfl (by rfl) ?_
            refine gf_X10_62 rfl dX10_sleeper_178 (by first | assumption | rfl) (by rfl) ?_
            refine r_bipush (v := nI 30) dX10_sleeper_181 (by decide) ?_
            refine r_iload_n dX10_sleeper_183 rfl (by rfl) ?_
            refine r_iaddN dX10_sleeper_184 ?_
            refine r_ialdN dX10_sleeper_185 (by first | assumption | rfl) (by omega) (by decide) ?_
            refine r_isub dX10_sleeper_186 ?_
            refine r_istore_n dX10_sleeper_187 rfl (by decide) ?_
            refine r_iload_n dX10_sleeper_188 rfl (by rfl) ?_
            refine r_if_le (tgt := 196) dX10_sleeper_189 (by decide) (fun h189 => ?_) (fun h189 => ?_)
            · refine r_iconst (v := nI 0) dX10_sleeper_196 (by decide) ?_
              refine r_iret rfl dX10_sleeper_197 ?_
              refine ref_ok hR (th0_qf x) rfl ?_
              rw [oSleeper, rqS_f q8, rq_t q24]
              have e9 := hR.2.2.1.1 p hp5
              dsimp only
              rw [nI_clamp (by omega)]
              first
                | (have e : k = 0 := by omega
                   subst e
                   exact congrArg Except.ok e9.1.symm)
                | (have e : k = 1 := by omega
                   subst e
                   exact congrArg Except.ok (hR.1.2.2.1 1 (by decide) p hp).symm)
                | (have e : k = 2 := by omega
                   subst e
                   exact congrArg Except.ok (hR.1.2.2.1 2 (by decide) p hp).symm)
                | (have e : k = 3 := by omega
                   subst e
                   exact congrArg Except.ok e9.2.1.symm)
                | (have e : k = 4 := by omega
                   subst e
                   exact congrArg Except.ok e9.2.2.2.1.symm)
                | (have e : k = 5 := by omega
                   subst e
                   exact congrArg Except.ok e9.2.2.2.2.1.symm)
                | (have e : k = 6 := by omega
                   subst e
                   exact congrArg Except.ok e9.2.2.2.2.2.1.symm)
                | (have e : k = 7 := by omega
                   subst e
                   exact congrArg Except.ok e9.2.2.2.2.2.2.1.symm)
                | (have e : k = 8 := by omega
                   subst e
                   exact congrArg Except.ok e9.2.2.1.symm)
                | (rcases (show k = 1 ∨ k = 2 by omega) with rfl | rfl
                   · exact congrArg Except.ok (hR.1.2.2.1 1 (by decide) p hp).symm
                   · exact congrArg Except.ok (hR.1.2.2.1 2 (by decide) p hp).symm)
                | (have e : k = 9 := by omega
                   subst e
                   have r7 := hR.1.2.2.1 7 (by decide) p hp
                   show Except.ok (imax (nI 0) (eH (aE a) 7 p - aR a (25 + p))) = _
                   rw [← r7, ← e9.2.2.2.2.2.1, imax0]
                   first
                     | (rw [if_pos (show x 142 (8 * p + 7) - x 153 (30 + p) ≤ 0 from h189)]; done)
                     | (rw [if_neg (show ¬ x 142 (8 * p + 7) - x 153 (30 + p) ≤ 0 from h189)]; rfl))
            · refine r_iload_n dX10_sleeper_192 rfl (by rfl) ?_
              refine r_goto (tgt := 197) dX10_sleeper_193 (by decide) ?_
              refine r_iret rfl dX10_sleeper_197 ?_
              refine ref_ok hR (th0_qf x) rfl ?_
              rw [oSleeper, rqS_f q8, rq_t q24]
              have e9 := hR.2.2.1.1 p hp5
              dsimp only
              rw [nI_clamp (by omega)]
              first
                | (have e : k = 0 := by omega
                   subst e
                   exact congrArg Except.ok e9.1.symm)
                | (have e : k = 1 := by omega
                   subst e
                   exact congrArg Except.ok (hR.1.2.2.1 1 (by decide) p hp).symm)
                | (have e : k = 2 := by omega
                   subst e
                   exact congrArg Except.ok (hR.1.2.2.1 2 (by decide) p hp).symm)
                | (have e : k = 3 := by omega
                   subst e
                   exact congrArg Except.ok e9.2.1.symm)
                | (have e : k = 4 := by omega
                   subst e
                   exact congrArg Except.ok e9.2.2.2.1.symm)
                | (have e : k = 5 := by omega
                   subst e
                   exact congrArg Except.ok e9.2.2.2.2.1.symm)
                | (have e : k = 6 := by omega
                   subst e
                   exact congrArg Except.ok e9.2.2.2.2.2.1.symm)
                | (have e : k = 7 := by omega
                   subst e
                   exact congrArg Except.ok e9.2.2.2.2.2.2.1.symm)
                | (have e : k = 8 := by omega
                   subst e
                   exact congrArg Except.ok e9.2.2.1.symm)
                | (rcases (show k = 1 ∨ k = 2 by omega) with rfl | rfl
                   · exact congrArg Except.ok (hR.1.2.2.1 1 (by decide) p hp).symm
                   · exact congrArg Except.ok (hR.1.2.2.1 2 (by decide) p hp).symm)
                | (have e : k = 9 := by omega
                   subst e
                   have r7 := hR.1.2.2.1 7 (by decide) p hp
                   show Except.ok (imax (nI 0) (eH (aE a) 7 p - aR a (25 + p))) = _
                   rw [← r7, ← e9.2.2.2.2.2.1, imax0]
                   first
                     | (rw [if_pos (show x 142 (8 * p + 7) - x 153 (30 + p) ≤ 0 from h189)]; done)
                     | (rw [if_neg (show ¬ x 142 (8 * p + 7) - x 153 (30 + p) ≤ 0 from h189)]; rfl))
          · refine r_iload_n dX10_sleeper_119 rfl (by rfl) ?_
            refine r_bipush (v := nI 6) dX10_sleeper_120 (by decide) ?_
            refine r_icmp_neN (tgt := 137) dX10_sleeper_122 (by decide) (by omega) (by omega) (fun h122 => ?_) (fun h122 => ?_)
            · refine r_iload_n dX10_sleeper_137 rfl (by rfl) ?_
              refine r_bipush (v := nI 7) dX10_sleeper_138 (by decide) ?_
              refine r_icmp_neN (tgt := 155) dX10_sleeper_140 (by decide) (by omega) (by omega) (fun h140 => ?_) (fun h140 => ?_)
              · refine r_aload_n dX10_sleeper_155 rfl (by rfl) ?_
                refine gf_X10_62 rfl dX10_sleeper_156 (by first | assumption | rfl) (by rfl) ?_
                refine r_bipush (v := nI 10) dX10_sleeper_159 (by decide) ?_
                refine r_iload_n dX10_sleeper_161 rfl (by rfl) ?_
                refine r_iaddN dX10_sleeper_162 ?_
                refine r_ialdN dX10_sleeper_163 (by first | assumption | rfl) (by omega) (by decide) ?_
                refine r_iret rfl dX10_sleeper_164 ?_
                refine ref_ok hR (th0_qf x) rfl ?_
                rw [oSleeper, rqS_f q8, rq_t q24]
                have e9 := hR.2.2.1.1 p hp5
                dsimp only
                rw [nI_clamp (by omega)]
                first
                  | (have e : k = 0 := by omega
                     subst e
                     exact congrArg Except.ok e9.1.symm)
                  | (have e : k = 1 := by omega
                     subst e
                     exact congrArg Except.ok (hR.1.2.2.1 1 (by decide) p hp).symm)
                  | (have e : k = 2 := by omega
                     subst e
                     exact congrArg Except.ok (hR.1.2.2.1 2 (by decide) p hp).symm)
                  | (have e : k = 3 := by omega
                     subst e
                     exact congrArg Except.ok e9.2.1.symm)
                  | (have e : k = 4 := by omega
                     subst e
                     exact congrArg Except.ok e9.2.2.2.1.symm)
                  | (have e : k = 5 := by omega
                     subst e
                     exact congrArg Except.ok e9.2.2.2.2.1.symm)
                  | (have e : k = 6 := by omega
                     subst e
                     exact congrArg Except.ok e9.2.2.2.2.2.1.symm)
                  | (have e : k = 7 := by omega
                     subst e
                     exact congrArg Except.ok e9.2.2.2.2.2.2.1.symm)
                  | (have e : k = 8 := by omega
                     subst e
                     exact congrArg Except.ok e9.2.2.1.symm)
                  | (rcases (show k = 1 ∨ k = 2 by omega) with rfl | rfl
                     · exact congrArg Except.ok (hR.1.2.2.1 1 (by decide) p hp).symm
                     · exact congrArg Except.ok (hR.1.2.2.1 2 (by decide) p hp).symm)
                  | (have e : k = 9 := by omega
                     subst e
                     have r7 := hR.1.2.2.1 7 (by decide) p hp
                     show Except.ok (imax (nI 0) (eH (aE a) 7 p - aR a (25 + p))) = _
                     rw [← r7, ← e9.2.2.2.2.2.1, imax0]
                     first
                       | (rw [if_pos (show x 142 (8 * p + 7) - x 153 (30 + p) ≤ 0 from h189)]; done)
                       | (rw [if_neg (show ¬ x 142 (8 * p + 7) - x 153 (30 + p) ≤ 0 from h189)]; rfl))
              · refine r_aload_n dX10_sleeper_143 rfl (by rfl) ?_
                refine gf_X10_62 rfl dX10_sleeper_144 (by first | assumption | rfl) (by rfl) ?_
                refine r_bipush (v := nI 35) dX10_sleeper_147 (by decide) ?_
                refine r_iload_n dX10_sleeper_149 rfl (by rfl) ?_
                refine r_iaddN dX10_sleeper_150 ?_
                refine r_ialdN dX10_sleeper_151 (by first | assumption | rfl) (by omega) (by decide) ?_
                refine r_goto (tgt := 164) dX10_sleeper_152 (by decide) ?_
                refine r_iret rfl dX10_sleeper_164 ?_
                refine ref_ok hR (th0_qf x) rfl ?_
                rw [oSleeper, rqS_f q8, rq_t q24]
                have e9 := hR.2.2.1.1 p hp5
                dsimp only
                rw [nI_clamp (by omega)]
                first
                  | (have e : k = 0 := by omega
                     subst e
                     exact congrArg Except.ok e9.1.symm)
                  | (have e : k = 1 := by omega
                     subst e
                     exact congrArg Except.ok (hR.1.2.2.1 1 (by decide) p hp).symm)
                  | (have e : k = 2 := by omega
                     subst e
                     exact congrArg Except.ok (hR.1.2.2.1 2 (by decide) p hp).symm)
                  | (have e : k = 3 := by omega
                     subst e
                     exact congrArg Except.ok e9.2.1.symm)
                  | (have e : k = 4 := by omega
                     subst e
                     exact congrArg Except.ok e9.2.2.2.1.symm)
                  | (have e : k = 5 := by omega
                     subst e
                     exact congrArg Except.ok e9.2.2.2.2.1.symm)
                  | (have e : k = 6 := by omega
                     subst e
                     exact congrArg Except.ok e9.2.2.2.2.2.1.symm)
                  | (have e : k = 7 := by omega
                     subst e
                     exact congrArg Except.ok e9.2.2.2.2.2.2.1.symm)
                  | (have e : k = 8 := by omega
                     subst e
                     exact congrArg Except.ok e9.2.2.1.symm)
                  | (rcases (show k = 1 ∨ k = 2 by omega) with rfl | rfl
                     · exact congrArg Except.ok (hR.1.2.2.1 1 (by decide) p hp).symm
                     · exact congrArg Except.ok (hR.1.2.2.1 2 (by decide) p hp).symm)
                  | (have e : k = 9 := by omega
                     subst e
                     have r7 := hR.1.2.2.1 7 (by decide) p hp
                     show Except.ok (imax (nI 0) (eH (aE a) 7 p - aR a (25 + p))) = _
                     rw [← r7, ← e9.2.2.2.2.2.1, imax0]
                     first
                       | (rw [if_pos (show x 142 (8 * p + 7) - x 153 (30 + p) ≤ 0 from h189)]; done)
                       | (rw [if_neg (show ¬ x 142 (8 * p + 7) - x 153 (30 + p) ≤ 0 from h189)]; rfl))
            · refine r_aload_n dX10_sleeper_125 rfl (by rfl) ?_
              refine gf_X10_62 rfl dX10_sleeper_126 (by first | assumption | rfl) (by rfl) ?_
              refine r_bipush (v := nI 30) dX10_sleeper_129 (by decide) ?_
              refine r_iload_n dX10_sleeper_131 rfl (by rfl) ?_
              refine r_iaddN dX10_sleeper_132 ?_
              refine r_ialdN dX10_sleeper_133 (by first | assumption | rfl) (by omega) (by decide) ?_
              refine r_goto (tgt := 164) dX10_sleeper_134 (by decide) ?_
              refine r_iret rfl dX10_sleeper_164 ?_
              refine ref_ok hR (th0_qf x) rfl ?_
              rw [oSleeper, rqS_f q8, rq_t q24]
              have e9 := hR.2.2.1.1 p hp5
              dsimp only
              rw [nI_clamp (by omega)]
              first
                | (have e : k = 0 := by omega
                   subst e
                   exact congrArg Except.ok e9.1.symm)
                | (have e : k = 1 := by omega
                   subst e
                   exact congrArg Except.ok (hR.1.2.2.1 1 (by decide) p hp).symm)
                | (have e : k = 2 := by omega
                   subst e
                   exact congrArg Except.ok (hR.1.2.2.1 2 (by decide) p hp).symm)
                | (have e : k = 3 := by omega
                   subst e
                   exact congrArg Except.ok e9.2.1.symm)
                | (have e : k = 4 := by omega
                   subst e
                   exact congrArg Except.ok e9.2.2.2.1.symm)
                | (have e : k = 5 := by omega
                   subst e
                   exact congrArg Except.ok e9.2.2.2.2.1.symm)
                | (have e : k = 6 := by omega
                   subst e
                   exact congrArg Except.ok e9.2.2.2.2.2.1.symm)
                | (have e : k = 7 := by omega
                   subst e
                   exact congrArg Except.ok e9.2.2.2.2.2.2.1.symm)
                | (have e : k = 8 := by omega
                   subst e
                   exact congrArg Except.ok e9.2.2.1.symm)
                | (rcases (show k = 1 ∨ k = 2 by omega) with rfl | rfl
                   · exact congrArg Except.ok (hR.1.2.2.1 1 (by decide) p hp).symm
                   · exact congrArg Except.ok (hR.1.2.2.1 2 (by decide) p hp).symm)
                | (have e : k = 9 := by omega
                   subst e
                   have r7 := hR.1.2.2.1 7 (by decide) p hp
                   show Except.ok (imax (nI 0) (eH (aE a) 7 p - aR a (25 + p))) = _
                   rw [← r7, ← e9.2.2.2.2.2.1, imax0]
                   first
                     | (rw [if_pos (show x 142 (8 * p + 7) - x 153 (30 + p) ≤ 0 from h189)]; done)
                     | (rw [if_neg (show ¬ x 142 (8 * p + 7) - x 153 (30 + p) ≤ 0 from h189)]; rfl))
        · refine r_iload_n dX10_sleeper_70 rfl (by rfl) ?_
          refine r_iconst (v := nI 3) dX10_sleeper_71 (by decide) ?_
          refine r_icmp_neN (tgt := 86) dX10_sleeper_72 (by decide) (by omega) (by omega) (fun h72 => ?_) (fun h72 => ?_)
          · refine r_iload_n dX10_sleeper_86 rfl (by rfl) ?_
            refine r_iconst (v := nI 4) dX10_sleeper_87 (by decide) ?_
            refine r_icmp_neN (tgt := 103) dX10_sleeper_88 (by decide) (by omega) (by omega) (fun h88 => ?_) (fun h88 => ?_)
            · refine r_aload_n dX10_sleeper_103 rfl (by rfl) ?_
              refine gf_X10_62 rfl dX10_sleeper_104 (by first | assumption | rfl) (by rfl) ?_
              refine r_bipush (v := nI 20) dX10_sleeper_107 (by decide) ?_
              refine r_iload_n dX10_sleeper_109 rfl (by rfl) ?_
              refine r_iaddN dX10_sleeper_110 ?_
              refine r_ialdN dX10_sleeper_111 (by first | assumption | rfl) (by omega) (by decide) ?_
              refine r_iret rfl dX10_sleeper_112 ?_
              refine ref_ok hR (th0_qf x) rfl ?_
              rw [oSleeper, rqS_f q8, rq_t q24]
              have e9 := hR.2.2.1.1 p hp5
              dsimp only
              rw [nI_clamp (by omega)]
              first
                | (have e : k = 0 := by omega
                   subst e
                   exact congrArg Except.ok e9.1.symm)
                | (have e : k = 1 := by omega
                   subst e
                   exact congrArg Except.ok (hR.1.2.2.1 1 (by decide) p hp).symm)
                | (have e : k = 2 := by omega
                   subst e
                   exact congrArg Except.ok (hR.1.2.2.1 2 (by decide) p hp).symm)
                | (have e : k = 3 := by omega
                   subst e
                   exact congrArg Except.ok e9.2.1.symm)
                | (have e : k = 4 := by omega
                   subst e
                   exact congrArg Except.ok e9.2.2.2.1.symm)
                | (have e : k = 5 := by omega
                   subst e
                   exact congrArg Except.ok e9.2.2.2.2.1.symm)
                | (have e : k = 6 := by omega
                   subst e
                   exact congrArg Except.ok e9.2.2.2.2.2.1.symm)
                | (have e : k = 7 := by omega
                   subst e
                   exact congrArg Except.ok e9.2.2.2.2.2.2.1.symm)
                | (have e : k = 8 := by omega
                   subst e
                   exact congrArg Except.ok e9.2.2.1.symm)
                | (rcases (show k = 1 ∨ k = 2 by omega) with rfl | rfl
                   · exact congrArg Except.ok (hR.1.2.2.1 1 (by decide) p hp).symm
                   · exact congrArg Except.ok (hR.1.2.2.1 2 (by decide) p hp).symm)
                | (have e : k = 9 := by omega
                   subst e
                   have r7 := hR.1.2.2.1 7 (by decide) p hp
                   show Except.ok (imax (nI 0) (eH (aE a) 7 p - aR a (25 + p))) = _
                   rw [← r7, ← e9.2.2.2.2.2.1, imax0]
                   first
                     | (rw [if_pos (show x 142 (8 * p + 7) - x 153 (30 + p) ≤ 0 from h189)]; done)
                     | (rw [if_neg (show ¬ x 142 (8 * p + 7) - x 153 (30 + p) ≤ 0 from h189)]; rfl))
            · refine r_aload_n dX10_sleeper_91 rfl (by rfl) ?_
              refine gf_X10_62 rfl dX10_sleeper_92 (by first | assumption | rfl) (by rfl) ?_
              refine r_bipush (v := nI 15) dX10_sleeper_95 (by decide) ?_
              refine r_iload_n dX10_sleeper_97 rfl (by rfl) ?_
              refine r_iaddN dX10_sleeper_98 ?_
              refine r_ialdN dX10_sleeper_99 (by first | assumption | rfl) (by omega) (by decide) ?_
              refine r_goto (tgt := 112) dX10_sleeper_100 (by decide) ?_
              refine r_iret rfl dX10_sleeper_112 ?_
              refine ref_ok hR (th0_qf x) rfl ?_
              rw [oSleeper, rqS_f q8, rq_t q24]
              have e9 := hR.2.2.1.1 p hp5
              dsimp only
              rw [nI_clamp (by omega)]
              first
                | (have e : k = 0 := by omega
                   subst e
                   exact congrArg Except.ok e9.1.symm)
                | (have e : k = 1 := by omega
                   subst e
                   exact congrArg Except.ok (hR.1.2.2.1 1 (by decide) p hp).symm)
                | (have e : k = 2 := by omega
                   subst e
                   exact congrArg Except.ok (hR.1.2.2.1 2 (by decide) p hp).symm)
                | (have e : k = 3 := by omega
                   subst e
                   exact congrArg Except.ok e9.2.1.symm)
                | (have e : k = 4 := by omega
                   subst e
                   exact congrArg Except.ok e9.2.2.2.1.symm)
                | (have e : k = 5 := by omega
                   subst e
                   exact congrArg Except.ok e9.2.2.2.2.1.symm)
                | (have e : k = 6 := by omega
                   subst e
                   exact congrArg Except.ok e9.2.2.2.2.2.1.symm)
                | (have e : k = 7 := by omega
                   subst e
                   exact congrArg Except.ok e9.2.2.2.2.2.2.1.symm)
                | (have e : k = 8 := by omega
                   subst e
                   exact congrArg Except.ok e9.2.2.1.symm)
                | (rcases (show k = 1 ∨ k = 2 by omega) with rfl | rfl
                   · exact congrArg Except.ok (hR.1.2.2.1 1 (by decide) p hp).symm
                   · exact congrArg Except.ok (hR.1.2.2.1 2 (by decide) p hp).symm)
                | (have e : k = 9 := by omega
                   subst e
                   have r7 := hR.1.2.2.1 7 (by decide) p hp
                   show Except.ok (imax (nI 0) (eH (aE a) 7 p - aR a (25 + p))) = _
                   rw [← r7, ← e9.2.2.2.2.2.1, imax0]
                   first
                     | (rw [if_pos (show x 142 (8 * p + 7) - x 153 (30 + p) ≤ 0 from h189)]; done)
                     | (rw [if_neg (show ¬ x 142 (8 * p + 7) - x 153 (30 + p) ≤ 0 from h189)]; rfl))
          · refine r_aload_n dX10_sleeper_75 rfl (by rfl) ?_
            refine gf_X10_62 rfl dX10_sleeper_76 (by first | assumption | rfl) (by rfl) ?_
            refine r_iconst (v := nI 5) dX10_sleeper_79 (by decide) ?_
            refine r_iload_n dX10_sleeper_80 rfl (by rfl) ?_
            refine r_iaddN dX10_sleeper_81 ?_
            refine r_ialdN dX10_sleeper_82 (by first | assumption | rfl) (by omega) (by decide) ?_
            refine r_goto (tgt := 112) dX10_sleeper_83 (by decide) ?_
            refine r_iret rfl dX10_sleeper_112 ?_
            refine ref_ok hR (th0_qf x) rfl ?_
            rw [oSleeper, rqS_f q8, rq_t q24]
            have e9 := hR.2.2.1.1 p hp5
            dsimp only
            rw [nI_clamp (by omega)]
            first
              | (have e : k = 0 := by omega
                 subst e
                 exact congrArg Except.ok e9.1.symm)
              | (have e : k = 1 := by omega
                 subst e
                 exact congrArg Except.ok (hR.1.2.2.1 1 (by decide) p hp).symm)
              | (have e : k = 2 := by omega
                 subst e
                 exact congrArg Except.ok (hR.1.2.2.1 2 (by decide) p hp).symm)
              | (have e : k = 3 := by omega
                 subst e
                 exact congrArg Except.ok e9.2.1.symm)
              | (have e : k = 4 := by omega
                 subst e
                 exact congrArg Except.ok e9.2.2.2.1.symm)
              | (have e : k = 5 := by omega
                 subst e
                 exact congrArg Except.ok e9.2.2.2.2.1.symm)
              | (have e : k = 6 := by omega
                 subst e
                 exact congrArg Except.ok e9.2.2.2.2.2.1.symm)
              | (have e : k = 7 := by omega
                 subst e
                 exact congrArg Except.ok e9.2.2.2.2.2.2.1.symm)
              | (have e : k = 8 := by omega
                 subst e
                 exact congrArg Except.ok e9.2.2.1.symm)
              | (rcases (show k = 1 ∨ k = 2 by omega) with rfl | rfl
                 · exact congrArg Except.ok (hR.1.2.2.1 1 (by decide) p hp).symm
                 · exact congrArg Except.ok (hR.1.2.2.1 2 (by decide) p hp).symm)
              | (have e : k = 9 := by omega
                 subst e
                 have r7 := hR.1.2.2.1 7 (by decide) p hp
                 show Except.ok (imax (nI 0) (eH (aE a) 7 p - aR a (25 + p))) = _
                 rw [← r7, ← e9.2.2.2.2.2.1, imax0]
                 first
                   | (rw [if_pos (show x 142 (8 * p + 7) - x 153 (30 + p) ≤ 0 from h189)]; done)
                   | (rw [if_neg (show ¬ x 142 (8 * p + 7) - x 153 (30 + p) ≤ 0 from h189)]; rfl))
      · refine r_iload_n dX10_sleeper_37 rfl (by rfl) ?_
        refine r_if_ne (tgt := 52) dX10_sleeper_38 (by decide) (fun h38 => ?_) (fun h38 => ?_)
        · have k38 : k ≠ 0 := fun e => h38 (by rw [e]; rfl)
          refine r_aload_n dX10_sleeper_52 rfl (by rfl) ?_
          refine gf_X10_29 rfl dX10_sleeper_53 (by first | assumption | rfl) (by rfl) ?_
          refine r_bipush (v := nI 8) dX10_sleeper_56 (by decide) ?_
          refine r_iload_n dX10_sleeper_58 rfl (by rfl) ?_
          refine r_imulN dX10_sleeper_59 ?_
          refine r_iload_n dX10_sleeper_60 rfl (by rfl) ?_
          refine r_iaddN dX10_sleeper_61 ?_
          refine r_ialdN dX10_sleeper_62 (by first | assumption | rfl) (by omega) (by decide) ?_
          refine r_iret rfl dX10_sleeper_63 ?_
          refine ref_ok hR (th0_qf x) rfl ?_
          rw [oSleeper, rqS_f q8, rq_t q24]
          have e9 := hR.2.2.1.1 p hp5
          dsimp only
          rw [nI_clamp (by omega)]
          first
            | (have e : k = 0 := by omega
               subst e
               exact congrArg Except.ok e9.1.symm)
            | (have e : k = 1 := by omega
               subst e
               exact congrArg Except.ok (hR.1.2.2.1 1 (by decide) p hp).symm)
            | (have e : k = 2 := by omega
               subst e
               exact congrArg Except.ok (hR.1.2.2.1 2 (by decide) p hp).symm)
            | (have e : k = 3 := by omega
               subst e
               exact congrArg Except.ok e9.2.1.symm)
            | (have e : k = 4 := by omega
               subst e
               exact congrArg Except.ok e9.2.2.2.1.symm)
            | (have e : k = 5 := by omega
               subst e
               exact congrArg Except.ok e9.2.2.2.2.1.symm)
            | (have e : k = 6 := by omega
               subst e
               exact congrArg Except.ok e9.2.2.2.2.2.1.symm)
            | (have e : k = 7 := by omega
               subst e
               exact congrArg Except.ok e9.2.2.2.2.2.2.1.symm)
            | (have e : k = 8 := by omega
               subst e
               exact congrArg Except.ok e9.2.2.1.symm)
            | (rcases (show k = 1 ∨ k = 2 by omega) with rfl | rfl
               · exact congrArg Except.ok (hR.1.2.2.1 1 (by decide) p hp).symm
               · exact congrArg Except.ok (hR.1.2.2.1 2 (by decide) p hp).symm)
            | (have e : k = 9 := by omega
               subst e
               have r7 := hR.1.2.2.1 7 (by decide) p hp
               show Except.ok (imax (nI 0) (eH (aE a) 7 p - aR a (25 + p))) = _
               rw [← r7, ← e9.2.2.2.2.2.1, imax0]
               first
                 | (rw [if_pos (show x 142 (8 * p + 7) - x 153 (30 + p) ≤ 0 from h189)]; done)
                 | (rw [if_neg (show ¬ x 142 (8 * p + 7) - x 153 (30 + p) ≤ 0 from h189)]; rfl))
        · have k38 : k = 0 := by
            by_cases e : k = 0
            · exact e
            · exact absurd h38 (nI_ne0 (by omega) (by omega))
          refine r_aload_n dX10_sleeper_41 rfl (by rfl) ?_
          refine gf_X10_62 rfl dX10_sleeper_42 (by first | assumption | rfl) (by rfl) ?_
          refine r_iconst (v := nI 0) dX10_sleeper_45 (by decide) ?_
          refine r_iload_n dX10_sleeper_46 rfl (by rfl) ?_
          refine r_iaddN dX10_sleeper_47 ?_
          refine r_ialdN dX10_sleeper_48 (by first | assumption | rfl) (by omega) (by decide) ?_
          refine r_goto (tgt := 63) dX10_sleeper_49 (by decide) ?_
          refine r_iret rfl dX10_sleeper_63 ?_
          refine ref_ok hR (th0_qf x) rfl ?_
          rw [oSleeper, rqS_f q8, rq_t q24]
          have e9 := hR.2.2.1.1 p hp5
          dsimp only
          rw [nI_clamp (by omega)]
          first
            | (have e : k = 0 := by omega
               subst e
               exact congrArg Except.ok e9.1.symm)
            | (have e : k = 1 := by omega
               subst e
               exact congrArg Except.ok (hR.1.2.2.1 1 (by decide) p hp).symm)
            | (have e : k = 2 := by omega
               subst e
               exact congrArg Except.ok (hR.1.2.2.1 2 (by decide) p hp).symm)
            | (have e : k = 3 := by omega
               subst e
               exact congrArg Except.ok e9.2.1.symm)
            | (have e : k = 4 := by omega
               subst e
               exact congrArg Except.ok e9.2.2.2.1.symm)
            | (have e : k = 5 := by omega
               subst e
               exact congrArg Except.ok e9.2.2.2.2.1.symm)
            | (have e : k = 6 := by omega
               subst e
               exact congrArg Except.ok e9.2.2.2.2.2.1.symm)
            | (have e : k = 7 := by omega
               subst e
               exact congrArg Except.ok e9.2.2.2.2.2.2.1.symm)
            | (have e : k = 8 := by omega
               subst e
               exact congrArg Except.ok e9.2.2.1.symm)
            | (rcases (show k = 1 ∨ k = 2 by omega) with rfl | rfl
               · exact congrArg Except.ok (hR.1.2.2.1 1 (by decide) p hp).symm
               · exact congrArg Except.ok (hR.1.2.2.1 2 (by decide) p hp).symm)
            | (have e : k = 9 := by omega
               subst e
               have r7 := hR.1.2.2.1 7 (by decide) p hp
               show Except.ok (imax (nI 0) (eH (aE a) 7 p - aR a (25 + p))) = _
               rw [← r7, ← e9.2.2.2.2.2.1, imax0]
               first
                 | (rw [if_pos (show x 142 (8 * p + 7) - x 153 (30 + p) ≤ 0 from h189)]; done)
                 | (rw [if_neg (show ¬ x 142 (8 * p + 7) - x 153 (30 + p) ≤ 0 from h189)]; rfl))
    · refine r_callV (c_may_f xu_s (by decide) (by decide)) mv_X10_may ml_X10_203 ⟨by decide, by decide⟩ dX10_sleeper_24 lay_137 rfl rfl rfl (Nat.le_of_ble_eq_true rfl) (fun v9 x9 h9 => ?_)
      obtain ⟨rfl, h9⟩ := h9
      refine PW.xeq h9 ?_
      clear h9 x9
      refine r_if_neB (tgt := 32) dX10_sleeper_27 (by decide) (fun h => by cases h) (fun _ => ?_)
      refine r_iconst (v := nI 0) dX10_sleeper_30 (by decide) ?_
      refine r_iret rfl dX10_sleeper_31 ?_
      exact ref_bad hR rfl (by rw [oSleeper, rqS_f q8, rq_f q24])
set_option maxHeartbeats 8000000 in
set_option maxRecDepth 20000 in
theorem g_noise {a : AS} {x : XS} {v : Int32} (hR : RRf x a) (hA : AI a) : RASK mX10_noise [.ref 137, .int v] x a (oNoise a v) 1 := by
  refine MM.of (by decide) (Nat.le_of_ble_eq_true rfl) ?_
  have y137 := lay_137
  obtain ⟨t, ht2, ht⟩ := hA.t
  have T0 := take_RT (hR.th) hA ht ht2
  have Q0 : QF x (tkR (th0 x)) := (th0_qf x).trans (take_QF _)
  refine r_aload_n dX10_noise_0 rfl (by rfl) ?_
  refine r_iconst (v := nI 0) dX10_noise_1 (by decide) ?_
  refine pf_X10_3 rfl dX10_noise_2 (by first | assumption | rfl) (by rfl) ?_
  refine r_aload_n dX10_noise_5 rfl (by rfl) ?_
  refine r_iload_n dX10_noise_6 rfl (by rfl) ?_
  refine r_iconst (v := nI 1) dX10_noise_7 (by decide) ?_
  by_cases q8 : nobody v (eN (aE a)) = true
  · refine r_callV (c_isS_f hR.th.1.1 xu_s q8) mv_X10_isSleeper ml_X10_383 ⟨by decide, by decide⟩ dX10_noise_8 lay_137 rfl rfl rfl (Nat.le_of_ble_eq_true rfl) (fun v9 x9 h9 => ?_)
    obtain ⟨rfl, h9⟩ := h9
    refine PW.xeq h9 ?_
    clear h9 x9
    refine r_if_neB (tgt := 16) dX10_noise_11 (by decide) (fun h => by cases h) (fun _ => ?_)
    refine r_iconst (v := nI 0) dX10_noise_14 (by decide) ?_
    refine r_iret rfl dX10_noise_15 ?_
    exact ref_nob hR rfl (by rw [oNoise, rqS_t q8])
  · have q8 := Bool.eq_false_iff.mpr q8
    obtain ⟨p, hp, rfl⟩ := nobody_f hR.1.2.1 q8
    have hp5 : p < 5 := Nat.lt_of_lt_of_le hp hR.1.2.1
    refine r_callV (c_isS_t hR.th.1.1 hR.1.2.1 xu_s hp) mv_X10_isSleeper ml_X10_383 ⟨by decide, by decide⟩ dX10_noise_8 lay_137 rfl rfl rfl (Nat.le_of_ble_eq_true rfl) (fun v9 x9 h9 => ?_)
    obtain ⟨rfl, h9⟩ := h9
    refine PW.xeq h9 ?_
    clear h9 x9
    refine r_if_neB (tgt := 16) dX10_noise_11 (by decide) (fun _ => ?_) (fun h => by cases h)
    refine r_aload_n dX10_noise_16 rfl (by rfl) ?_
    refine r_callV c_take mv_X10_take ml_X10_316 ⟨by decide, by decide⟩ dX10_noise_17 (by first | assumption | rfl) rfl rfl rfl (Nat.le_of_ble_eq_true rfl) (fun v9 x9 h9 => ?_)
    obtain ⟨rfl, h9⟩ := h9
    refine PW.xeq h9 ?_
    clear h9 x9
    refine r_aload_n dX10_noise_20 rfl (by rfl) ?_
    refine r_iload_n dX10_noise_21 rfl (by rfl) ?_
    refine r_callV (n_noiseOf T0.1 T0.2.2.2.2 hp5 ht ht2) mv_X10_noiseOf ml_X10_355 ⟨by decide, by decide⟩ dX10_noise_22 (by first | assumption | rfl) rfl rfl rfl (Nat.le_of_ble_eq_true rfl) (fun v9 y h9 => ?_)
    obtain ⟨rfl, F1⟩ := h9
    refine r_iret rfl dX10_noise_25 ?_
    refine ref_ok hR (Q0.trans F1.qf) (by rw [F1.mf.th]; rfl) ?_
    rw [oNoise, rqS_f q8, nI_clamp (by omega)]
set_option maxHeartbeats 8000000 in
set_option maxRecDepth 20000 in
theorem g_loud {a : AS} {x : XS} {v : Int32} (hR : RRf x a) (hA : AI a) : RASK mX10_loud [.ref 137, .int v] x a (oLoud a v) 1 := by
  refine MM.of (by decide) (Nat.le_of_ble_eq_true rfl) ?_
  have y137 := lay_137
  obtain ⟨t, ht2, ht⟩ := hA.t
  have T0 := take_RT (hR.th) hA ht ht2
  have Q0 : QF x (tkR (th0 x)) := (th0_qf x).trans (take_QF _)
  refine r_aload_n dX10_loud_0 rfl (by rfl) ?_
  refine r_iconst (v := nI 0) dX10_loud_1 (by decide) ?_
  refine pf_X10_3 rfl dX10_loud_2 (by first | assumption | rfl) (by rfl) ?_
  refine r_aload_n dX10_loud_5 rfl (by rfl) ?_
  refine r_iload_n dX10_loud_6 rfl (by rfl) ?_
  refine r_iconst (v := nI 1) dX10_loud_7 (by decide) ?_
  by_cases q8 : nobody v (eN (aE a)) = true
  · refine r_callV (c_isS_f hR.th.1.1 xu_s q8) mv_X10_isSleeper ml_X10_383 ⟨by decide, by decide⟩ dX10_loud_8 lay_137 rfl rfl rfl (Nat.le_of_ble_eq_true rfl) (fun v9 x9 h9 => ?_)
    obtain ⟨rfl, h9⟩ := h9
    refine PW.xeq h9 ?_
    clear h9 x9
    refine r_if_neB (tgt := 16) dX10_loud_11 (by decide) (fun h => by cases h) (fun _ => ?_)
    refine r_iconst (v := nI 0) dX10_loud_14 (by decide) ?_
    refine r_iret rfl dX10_loud_15 ?_
    exact ref_nob hR rfl (by rw [oLoud, rqS_t q8])
  · have q8 := Bool.eq_false_iff.mpr q8
    obtain ⟨p, hp, rfl⟩ := nobody_f hR.1.2.1 q8
    have hp5 : p < 5 := Nat.lt_of_lt_of_le hp hR.1.2.1
    refine r_callV (c_isS_t hR.th.1.1 hR.1.2.1 xu_s hp) mv_X10_isSleeper ml_X10_383 ⟨by decide, by decide⟩ dX10_loud_8 lay_137 rfl rfl rfl (Nat.le_of_ble_eq_true rfl) (fun v9 x9 h9 => ?_)
    obtain ⟨rfl, h9⟩ := h9
    refine PW.xeq h9 ?_
    clear h9 x9
    refine r_if_neB (tgt := 16) dX10_loud_11 (by decide) (fun _ => ?_) (fun h => by cases h)
    refine r_aload_n dX10_loud_16 rfl (by rfl) ?_
    refine r_callV c_take mv_X10_take ml_X10_316 ⟨by decide, by decide⟩ dX10_loud_17 (by first | assumption | rfl) rfl rfl rfl (Nat.le_of_ble_eq_true rfl) (fun v9 x9 h9 => ?_)
    obtain ⟨rfl, h9⟩ := h9
    refine PW.xeq h9 ?_
    clear h9 x9
    refine r_aload_n dX10_loud_20 rfl (by rfl) ?_
    refine r_iload_n dX10_loud_21 rfl (by rfl) ?_
    refine r_callV (n_loudOf T0.1 hp) mv_X10_loudOf ml_X10_346 ⟨by decide, by decide⟩ dX10_loud_22 (by first | assumption | rfl) rfl rfl rfl (Nat.le_of_ble_eq_true rfl) (fun v9 y h9 => ?_)
    obtain ⟨rfl, F1⟩ := h9
    refine r_iret rfl dX10_loud_25 ?_
    refine ref_ok hR (Q0.trans F1.qf) (by rw [F1.mf.th]; rfl) ?_
    rw [oLoud, rqS_f q8, nI_clamp (by omega)]
set_option maxHeartbeats 8000000 in
set_option maxRecDepth 20000 in
theorem g_clock {a : AS} {x : XS} {v : Int32} (hR : RRf x a) (hA : AI a) : RASK mX10_clock [.ref 137, .int v] x a (oClock a v) 1 := by
  refine MM.of (by decide) (Nat.le_of_ble_eq_true rfl) ?_
  have y137 := lay_137
  have y143 := lay_143
  refine r_aload_n dX10_clock_0 rfl (by rfl) ?_
  refine r_iconst (v := nI 0) dX10_clock_1 (by decide) ?_
  refine pf_X10_3 rfl dX10_clock_2 (by first | assumption | rfl) (by rfl) ?_
  refine r_aload_n dX10_clock_5 rfl (by rfl) ?_
  refine r_iload_n dX10_clock_6 rfl (by rfl) ?_
  refine r_iconst (v := nI 0) dX10_clock_7 (by decide) ?_
  refine r_sipush (v := nI 240) dX10_clock_8 (by decide) ?_
  refine r_callS c_within10 ms_X10_within ml_X10_282 ⟨by decide, by decide⟩ dX10_clock_11 rfl (Nat.le_of_ble_eq_true rfl) (fun v9 x9 h9 => ?_)
  obtain ⟨rfl, h9⟩ := h9
  refine PW.xeq h9 ?_
  clear h9 x9
  refine r_iconst (v := nI 1) dX10_clock_14 (by decide) ?_
  refine r_iconst (v := nI 1) dX10_clock_15 (by decide) ?_
  refine PW.caseB3 (fun q16 => ?_) (fun q16 => ?_)
  · refine r_callV (c_may_t xu_s) mv_X10_may ml_X10_203 ⟨by decide, by decide⟩ dX10_clock_16 lay_137 rfl rfl rfl (Nat.le_of_ble_eq_true rfl) (fun v9 x9 h9 => ?_)
    obtain ⟨rfl, h9⟩ := h9
    refine PW.xeq h9 ?_
    clear h9 x9
    refine r_if_neB (tgt := 24) dX10_clock_19 (by decide) (fun _ => ?_) (fun h => by cases h)
    obtain ⟨k, _, hk, rfl⟩ := inB_is (lo := 0) (hi := 240) q16 (by decide) (by decide)
    refine r_aload_n dX10_clock_24 rfl (by rfl) ?_
    refine gf_X10_32 rfl dX10_clock_25 (by first | assumption | rfl) (by rfl) ?_
    refine r_iload_n dX10_clock_28 rfl (by rfl) ?_
    refine r_bipush (v := nI 60) dX10_clock_29 (by decide) ?_
    refine r_iremN dX10_clock_31 (by omega) (by omega) (by omega) ?_
    refine r_ialdN dX10_clock_32 (by first | assumption | rfl) (by omega) (by decide) ?_
    refine r_iret rfl dX10_clock_33 ?_
    refine ref_ok hR (th0_qf x) rfl ?_
    rw [oClock, rq_t q16, nI_clamp (by omega)]
    exact congrArg Except.ok (hR.1.2.2.2.1 _ (by omega)).symm
  · refine r_callV (c_may_f xu_s (by decide) (by decide)) mv_X10_may ml_X10_203 ⟨by decide, by decide⟩ dX10_clock_16 lay_137 rfl rfl rfl (Nat.le_of_ble_eq_true rfl) (fun v9 x9 h9 => ?_)
    obtain ⟨rfl, h9⟩ := h9
    refine PW.xeq h9 ?_
    clear h9 x9
    refine r_if_neB (tgt := 24) dX10_clock_19 (by decide) (fun h => by cases h) (fun _ => ?_)
    refine r_iconst (v := nI 0) dX10_clock_22 (by decide) ?_
    refine r_iret rfl dX10_clock_23 ?_
    exact ref_bad hR rfl (by rw [oClock, rq_f q16])
set_option maxHeartbeats 8000000 in
set_option maxRecDepth 20000 in
theorem g_slept {a : AS} {x : XS} {v : Int32} (hR : RRf x a) (hA : AI a) : RASK mX10_slept [.ref 137, .int v] x a (oSlept a v) 1 := by
  refine MM.of (by decide) (Nat.le_of_ble_eq_true rfl) ?_
  have y137 := lay_137
  obtain ⟨t, ht2, ht⟩ := hA.t
  have T0 := take_RT (hR.th) hA ht ht2
  have Q0 : QF x (tkR (th0 x)) := (th0_qf x).trans (take_QF _)
  refine r_aload_n dX10_slept_0 rfl (by rfl) ?_
  refine r_iconst (v := nI 0) dX10_slept_1 (by decide) ?_
  refine pf_X10_3 rfl dX10_slept_2 (by first | assumption | rfl) (by rfl) ?_
  refine r_aload_n dX10_slept_5 rfl (by rfl) ?_
  refine r_iload_n dX10_slept_6 rfl (by rfl) ?_
  refine r_callS c_isMany ms_X10_isMany ml_X10_386 ⟨by decide, by decide⟩ dX10_slept_7 rfl (Nat.le_of_ble_eq_true rfl) (fun v9 x9 h9 => ?_)
  obtain ⟨rfl, h9⟩ := h9
  refine PW.xeq h9 ?_
  clear h9 x9
  refine r_iconst (v := nI 1) dX10_slept_10 (by decide) ?_
  refine r_iconst (v := nI 1) dX10_slept_11 (by decide) ?_
  refine PW.caseB3 (fun q12 => ?_) (fun q12 => ?_)
  · refine r_callV (c_may_t xu_s) mv_X10_may ml_X10_203 ⟨by decide, by decide⟩ dX10_slept_12 lay_137 rfl rfl rfl (Nat.le_of_ble_eq_true rfl) (fun v9 x9 h9 => ?_)
    obtain ⟨rfl, h9⟩ := h9
    refine PW.xeq h9 ?_
    clear h9 x9
    refine r_if_neB (tgt := 20) dX10_slept_15 (by decide) (fun _ => ?_) (fun h => by cases h)
    obtain ⟨k, _, hk, rfl⟩ := inB_is (lo := 0) (hi := 240) q12 (by decide) (by decide)
    refine r_aload_n dX10_slept_20 rfl (by rfl) ?_
    refine r_callV c_take mv_X10_take ml_X10_316 ⟨by decide, by decide⟩ dX10_slept_21 (by first | assumption | rfl) rfl rfl rfl (Nat.le_of_ble_eq_true rfl) (fun v9 x9 h9 => ?_)
    obtain ⟨rfl, h9⟩ := h9
    refine PW.xeq h9 ?_
    clear h9 x9
    refine r_aload_n dX10_slept_24 rfl (by rfl) ?_
    refine r_iload_n dX10_slept_25 rfl (by rfl) ?_
    refine r_callV (n_goesOn T0 (by omega)) mv_X10_goesOn ml_X10_389 ⟨by decide, by decide⟩ dX10_slept_26 (by first | assumption | rfl) rfl rfl rfl (Nat.le_of_ble_eq_true rfl) (fun v9 y h9 => ?_)
    obtain ⟨rfl, T1, F1⟩ := h9
    refine r_iret rfl dX10_slept_29 ?_
    refine ref_ok hR (Q0.trans F1.qf) (by rw [F1.th]; rfl) ?_
    rw [oSlept, rq_t q12, nI_clamp (by omega)]
  · refine r_callV (c_may_f xu_s (by decide) (by decide)) mv_X10_may ml_X10_203 ⟨by decide, by decide⟩ dX10_slept_12 lay_137 rfl rfl rfl (Nat.le_of_ble_eq_true rfl) (fun v9 x9 h9 => ?_)
    obtain ⟨rfl, h9⟩ := h9
    refine PW.xeq h9 ?_
    clear h9 x9
    refine r_if_neB (tgt := 20) dX10_slept_15 (by decide) (fun h => by cases h) (fun _ => ?_)
    refine r_iconst (v := nI 0) dX10_slept_18 (by decide) ?_
    refine r_iret rfl dX10_slept_19 ?_
    exact ref_bad hR rfl (by rw [oSlept, rq_f q12])
set_option maxHeartbeats 8000000 in
set_option maxRecDepth 20000 in
theorem g_sleeps {a : AS} {x : XS} {v w : Int32} (hR : RRf x a) (hA : AI a) : RASK mX10_sleeps [.ref 137, .int v, .int w] x a (oSleeps a v w) 2 := by
  refine MM.of (by decide) (Nat.le_of_ble_eq_true rfl) ?_
  have y137 := lay_137
  obtain ⟨t, ht2, ht⟩ := hA.t
  have T0 := take_RT (hR.th) hA ht ht2
  have Q0 : QF x (tkR (th0 x)) := (th0_qf x).trans (take_QF _)
  refine r_aload_n dX10_sleeps_0 rfl (by rfl) ?_
  refine r_iconst (v := nI 0) dX10_sleeps_1 (by decide) ?_
  refine pf_X10_3 rfl dX10_sleeps_2 (by first | assumption | rfl) (by rfl) ?_
  refine r_aload_n dX10_sleeps_5 rfl (by rfl) ?_
  refine r_iload_n dX10_sleeps_6 rfl (by rfl) ?_
  refine r_iconst (v := nI 1) dX10_sleeps_7 (by decide) ?_
  by_cases q8 : nobody v (eN (aE a)) = true
  · refine r_callV (c_isS_f hR.th.1.1 xu_s q8) mv_X10_isSleeper ml_X10_383 ⟨by decide, by decide⟩ dX10_sleeps_8 lay_137 rfl rfl rfl (Nat.le_of_ble_eq_true rfl) (fun v9 x9 h9 => ?_)
    obtain ⟨rfl, h9⟩ := h9
    refine PW.xeq h9 ?_
    clear h9 x9
    refine r_if_eqB (tgt := 27) dX10_sleeps_11 (by decide) (fun _ => ?_) (fun h => by cases h)
    refine r_iconst (v := nI 0) dX10_sleeps_27 (by decide) ?_
    refine r_iret rfl dX10_sleeps_28 ?_
    exact ref_nob hR rfl (by rw [oSleeps, rqS_t q8])
  · have q8 := Bool.eq_false_iff.mpr q8
    obtain ⟨p, hp, rfl⟩ := nobody_f hR.1.2.1 q8
    have hp5 : p < 5 := Nat.lt_of_lt_of_le hp hR.1.2.1
    refine r_callV (c_isS_t hR.th.1.1 hR.1.2.1 xu_s hp) mv_X10_isSleeper ml_X10_383 ⟨by decide, by decide⟩ dX10_sleeps_8 lay_137 rfl rfl rfl (Nat.le_of_ble_eq_true rfl) (fun v9 x9 h9 => ?_)
    obtain ⟨rfl, h9⟩ := h9
    refine PW.xeq h9 ?_
    clear h9 x9
    refine r_if_eqB (tgt := 27) dX10_sleeps_11 (by decide) (fun h => by cases h) (fun _ => ?_)
    refine r_aload_n dX10_sleeps_14 rfl (by rfl) ?_
    refine r_iload_n dX10_sleeps_15 rfl (by rfl) ?_
    refine r_callS c_isMany ms_X10_isMany ml_X10_386 ⟨by decide, by decide⟩ dX10_sleeps_16 rfl (Nat.le_of_ble_eq_true rfl) (fun v9 x9 h9 => ?_)
    obtain ⟨rfl, h9⟩ := h9
    refine PW.xeq h9 ?_
    clear h9 x9
    refine r_iconst (v := nI 2) dX10_sleeps_19 (by decide) ?_
    refine r_iconst (v := nI 1) dX10_sleeps_20 (by decide) ?_
    refine PW.caseB3 (fun q21 => ?_) (fun q21 => ?_)
    · refine r_callV (c_may_t xu_s) mv_X10_may ml_X10_203 ⟨by decide, by decide⟩ dX10_sleeps_21 lay_137 rfl rfl rfl (Nat.le_of_ble_eq_true rfl) (fun v9 x9 h9 => ?_)
      obtain ⟨rfl, h9⟩ := h9
      refine PW.xeq h9 ?_
      clear h9 x9
      refine r_if_neB (tgt := 29) dX10_sleeps_24 (by decide) (fun _ => ?_) (fun h => by cases h)
      obtain ⟨k, _, hk, rfl⟩ := inB_is (lo := 0) (hi := 240) q21 (by decide) (by decide)
      refine r_aload_n dX10_sleeps_29 rfl (by rfl) ?_
      refine r_callV c_take mv_X10_take ml_X10_316 ⟨by decide, by decide⟩ dX10_sleeps_30 (by first | assumption | rfl) rfl rfl rfl (Nat.le_of_ble_eq_true rfl) (fun v9 x9 h9 => ?_)
      obtain ⟨rfl, h9⟩ := h9
      refine PW.xeq h9 ?_
      clear h9 x9
      refine r_aload_n dX10_sleeps_33 rfl (by rfl) ?_
      refine r_iload_n dX10_sleeps_34 rfl (by rfl) ?_
      refine r_iload_n dX10_sleeps_35 rfl (by rfl) ?_
      refine r_callV (n_sleepsIn T0 (by omega) hp5) mv_X10_sleepsIn ml_X10_392 ⟨by decide, by decide⟩ dX10_sleeps_36 (by first | assumption | rfl) rfl rfl rfl (Nat.le_of_ble_eq_true rfl) (fun v9 y h9 => ?_)
      obtain ⟨rfl, F1⟩ := h9
      refine r_iret rfl dX10_sleeps_39 ?_
      refine ref_ok hR (Q0.trans F1.qf) (by rw [F1.th]; rfl) ?_
      rw [oSleeps, rqS_f q8, rq_t q21, nI_clamp (by omega), nI_clamp (by omega)]
    · refine r_callV (c_may_f xu_s (by decide) (by decide)) mv_X10_may ml_X10_203 ⟨by decide, by decide⟩ dX10_sleeps_21 lay_137 rfl rfl rfl (Nat.le_of_ble_eq_true rfl) (fun v9 x9 h9 => ?_)
      obtain ⟨rfl, h9⟩ := h9
      refine PW.xeq h9 ?_
      clear h9 x9
      refine r_if_neB (tgt := 29) dX10_sleeps_24 (by decide) (fun h => by cases h) (fun _ => ?_)
      refine r_iconst (v := nI 0) dX10_sleeps_27 (by decide) ?_
      refine r_iret rfl dX10_sleeps_28 ?_
      exact ref_bad hR rfl (by rw [oSleeps, rqS_f q8, rq_f q21])
set_option maxHeartbeats 8000000 in
set_option maxRecDepth 20000 in
theorem g_fault {a : AS} {x : XS} (hR : RRf x a) (hA : AI a) : RASK mX10_fault [.ref 137] x a (oFault a) 1 := by
  refine MM.of (by decide) (Nat.le_of_ble_eq_true rfl) ?_
  have y137 := lay_137
  refine r_aload_n dX10_fault_0 rfl (by rfl) ?_
  refine r_iconst (v := nI 0) dX10_fault_1 (by decide) ?_
  refine pf_X10_3 rfl dX10_fault_2 (by first | assumption | rfl) (by rfl) ?_
  refine r_aload_n dX10_fault_5 rfl (by rfl) ?_
  refine gf_X10_17 rfl dX10_fault_6 (by first | assumption | rfl) (by rfl) ?_
  refine r_iret rfl dX10_fault_9 ?_
  exact ref_ok hR (th0_qf x) rfl (congrArg Except.ok hR.2.2.2.1.2.2.2.symm)
set_option maxHeartbeats 8000000 in
set_option maxRecDepth 20000 in
theorem g_would {a : AS} {x : XS} {v1 v2 v3 v4 v5 : Int32} (hR : RRf x a) (hA : AI a) : RASK mX10_would [.ref 137, .int v1, .int v2, .int v3, .int v4, .int v5] x a (oWould a v1 v2 v3 v4 v5) 1 := by
  refine MM.of (by decide) (Nat.le_of_ble_eq_true rfl) ?_
  have y137 := lay_137
  have y150 := lay_150
  refine r_aload_n dX10_would_0 rfl (by rfl) ?_
  refine r_iconst (v := nI 0) dX10_would_1 (by decide) ?_
  refine pf_X10_3 rfl dX10_would_2 (by first | assumption | rfl) (by rfl) ?_
  refine r_aload_n dX10_would_5 rfl (by rfl) ?_
  refine r_iload_n dX10_would_6 rfl (by rfl) ?_
  refine r_iconst (v := nI 0) dX10_would_7 (by decide) ?_
  refine r_bipush (v := nI 9) dX10_would_8 (by decide) ?_
  refine r_callS c_within10 ms_X10_within ml_X10_282 ⟨by decide, by decide⟩ dX10_would_10 rfl (Nat.le_of_ble_eq_true rfl) (fun v9 x9 h9 => ?_)
  obtain ⟨rfl, h9⟩ := h9
  refine PW.xeq h9 ?_
  clear h9 x9
  refine r_if_eqB (tgt := 62) dX10_would_13 (by decide) (fun h13 => ?_) (fun h13 => ?_)
  · refine r_iconst (v := nI 0) dX10_would_62 (by decide) ?_
    refine r_iconst (v := nI 1) dX10_would_63 (by decide) ?_
    refine r_iconst (v := nI 1) dX10_would_64 (by decide) ?_
    refine r_callV (c_may_0 xu_s (by decide) (by decide)) mv_X10_may ml_X10_203 ⟨by decide, by decide⟩ dX10_would_65 lay_137 rfl rfl rfl (Nat.le_of_ble_eq_true rfl) (fun v9 x9 h9 => ?_)
    obtain ⟨rfl, h9⟩ := h9
    refine PW.xeq h9 ?_
    clear h9 x9
    refine r_if_neB (tgt := 73) dX10_would_68 (by decide) (fun h => by cases h) (fun _ => ?_)
    refine r_iconst (v := nI 0) dX10_would_71 (by decide) ?_
    refine r_iret rfl dX10_would_72 ?_
    exact ref_bad hR rfl (by rw [oWould, rq_f h13])
  · refine r_iload_n dX10_would_16 rfl (by rfl) ?_
    refine r_iconst (v := nI 0) dX10_would_17 (by decide) ?_
    refine r_bipush (v := nI 9) dX10_would_18 (by decide) ?_
    refine r_callS c_within10 ms_X10_within ml_X10_282 ⟨by decide, by decide⟩ dX10_would_20 rfl (Nat.le_of_ble_eq_true rfl) (fun v9 x9 h9 => ?_)
    obtain ⟨rfl, h9⟩ := h9
    refine PW.xeq h9 ?_
    clear h9 x9
    refine r_if_eqB (tgt := 62) dX10_would_23 (by decide) (fun h23 => ?_) (fun h23 => ?_)
    · refine r_iconst (v := nI 0) dX10_would_62 (by decide) ?_
      refine r_iconst (v := nI 1) dX10_would_63 (by decide) ?_
      refine r_iconst (v := nI 1) dX10_would_64 (by decide) ?_
      refine r_callV (c_may_0 xu_s (by decide) (by decide)) mv_X10_may ml_X10_203 ⟨by decide, by decide⟩ dX10_would_65 lay_137 rfl rfl rfl (Nat.le_of_ble_eq_true rfl) (fun v9 x9 h9 => ?_)
      obtain ⟨rfl, h9⟩ := h9
      refine PW.xeq h9 ?_
      clear h9 x9
      refine r_if_neB (tgt := 73) dX10_would_68 (by decide) (fun h => by cases h) (fun _ => ?_)
      refine r_iconst (v := nI 0) dX10_would_71 (by decide) ?_
      refine r_iret rfl dX10_would_72 ?_
      exact ref_bad hR rfl (by rw [oWould, rq_t h13, rq_f h23])
    · refine r_iload_n dX10_would_26 rfl (by rfl) ?_
      refine r_iconst (v := nI 0) dX10_would_27 (by decide) ?_
      refine r_bipush (v := nI 9) dX10_would_28 (by decide) ?_
      refine r_callS c_within10 ms_X10_within ml_X10_282 ⟨by decide, by decide⟩ dX10_would_30 rfl (Nat.le_of_ble_eq_true rfl) (fun v9 x9 h9 => ?_)
      obtain ⟨rfl, h9⟩ := h9
      refine PW.xeq h9 ?_
      clear h9 x9
      refine r_if_eqB (tgt := 62) dX10_would_33 (by decide) (fun h33 => ?_) (fun h33 => ?_)
      · refine r_iconst (v := nI 0) dX10_would_62 (by decide) ?_
        refine r_iconst (v := nI 1) dX10_would_63 (by decide) ?_
        refine r_iconst (v := nI 1) dX10_would_64 (by decide) ?_
        refine r_callV (c_may_0 xu_s (by decide) (by decide)) mv_X10_may ml_X10_203 ⟨by decide, by decide⟩ dX10_would_65 lay_137 rfl rfl rfl (Nat.le_of_ble_eq_true rfl) (fun v9 x9 h9 => ?_)
        obtain ⟨rfl, h9⟩ := h9
        refine PW.xeq h9 ?_
        clear h9 x9
        refine r_if_neB (tgt := 73) dX10_would_68 (by decide) (fun h => by cases h) (fun _ => ?_)
        refine r_iconst (v := nI 0) dX10_would_71 (by decide) ?_
        refine r_iret rfl dX10_would_72 ?_
        exact ref_bad hR rfl (by rw [oWould, rq_t h13, rq_t h23, rq_f h33])
      · refine r_iload dX10_would_36 (by rfl) ?_
        refine r_iconst (v := nI 0) dX10_would_38 (by decide) ?_
        refine r_bipush (v := nI 9) dX10_would_39 (by decide) ?_
        refine r_callS c_within10 ms_X10_within ml_X10_282 ⟨by decide, by decide⟩ dX10_would_41 rfl (Nat.le_of_ble_eq_true rfl) (fun v9 x9 h9 => ?_)
        obtain ⟨rfl, h9⟩ := h9
        refine PW.xeq h9 ?_
        clear h9 x9
        refine r_if_eqB (tgt := 62) dX10_would_44 (by decide) (fun h44 => ?_) (fun h44 => ?_)
        · refine r_iconst (v := nI 0) dX10_would_62 (by decide) ?_
          refine r_iconst (v := nI 1) dX10_would_63 (by decide) ?_
          refine r_iconst (v := nI 1) dX10_would_64 (by decide) ?_
          refine r_callV (c_may_0 xu_s (by decide) (by decide)) mv_X10_may ml_X10_203 ⟨by decide, by decide⟩ dX10_would_65 lay_137 rfl rfl rfl (Nat.le_of_ble_eq_true rfl) (fun v9 x9 h9 => ?_)
          obtain ⟨rfl, h9⟩ := h9
          refine PW.xeq h9 ?_
          clear h9 x9
          refine r_if_neB (tgt := 73) dX10_would_68 (by decide) (fun h => by cases h) (fun _ => ?_)
          refine r_iconst (v := nI 0) dX10_would_71 (by decide) ?_
          refine r_iret rfl dX10_would_72 ?_
          exact ref_bad hR rfl (by rw [oWould, rq_t h13, rq_t h23, rq_t h33, rq_f h44])
        · refine r_iload dX10_would_47 (by rfl) ?_
          refine r_iconst (v := nI 0) dX10_would_49 (by decide) ?_
          refine r_bipush (v := nI 99) dX10_would_50 (by decide) ?_
          refine r_callS c_within10 ms_X10_within ml_X10_282 ⟨by decide, by decide⟩ dX10_would_52 rfl (Nat.le_of_ble_eq_true rfl) (fun v9 x9 h9 => ?_)
          obtain ⟨rfl, h9⟩ := h9
          refine PW.xeq h9 ?_
          clear h9 x9
          refine r_if_eqB (tgt := 62) dX10_would_55 (by decide) (fun h55 => ?_) (fun h55 => ?_)
          · refine r_iconst (v := nI 0) dX10_would_62 (by decide) ?_
            refine r_iconst (v := nI 1) dX10_would_63 (by decide) ?_
            refine r_iconst (v := nI 1) dX10_would_64 (by decide) ?_
            refine r_callV (c_may_0 xu_s (by decide) (by decide)) mv_X10_may ml_X10_203 ⟨by decide, by decide⟩ dX10_would_65 lay_137 rfl rfl rfl (Nat.le_of_ble_eq_true rfl) (fun v9 x9 h9 => ?_)
            obtain ⟨rfl, h9⟩ := h9
            refine PW.xeq h9 ?_
            clear h9 x9
            refine r_if_neB (tgt := 73) dX10_would_68 (by decide) (fun h => by cases h) (fun _ => ?_)
            refine r_iconst (v := nI 0) dX10_would_71 (by decide) ?_
            refine r_iret rfl dX10_would_72 ?_
            exact ref_bad hR rfl (by rw [oWould, rq_t h13, rq_t h23, rq_t h33, rq_t h44, rq_f h55])
          · refine r_iconst (v := nI 1) dX10_would_58 (by decide) ?_
            refine r_goto (tgt := 63) dX10_would_59 (by decide) ?_
            refine r_iconst (v := nI 1) dX10_would_63 (by decide) ?_
            refine r_iconst (v := nI 1) dX10_would_64 (by decide) ?_
            refine r_callV (c_may_1 xu_s) mv_X10_may ml_X10_203 ⟨by decide, by decide⟩ dX10_would_65 lay_137 rfl rfl rfl (Nat.le_of_ble_eq_true rfl) (fun v9 x9 h9 => ?_)
            obtain ⟨rfl, h9⟩ := h9
            refine PW.xeq h9 ?_
            clear h9 x9
            refine r_if_neB (tgt := 73) dX10_would_68 (by decide) (fun _ => ?_) (fun h => by cases h)
            refine r_iconst (v := nI 0) dX10_would_73 (by decide) ?_
            refine r_istore dX10_would_74 (by decide) ?_
            refine PW.loop (σ := Nat) (fun i => 9 - i) (fun i => i ≤ 9) (fun i => [(0, .ref 137), (1, .int v1), (2, .int v2), (3, .int v3), (4, .int v4), (5, .int v5), (6, .int (nI i))]) (fun i => xr (th0 x) 150 (zfill (x 150) i)) (0) (Nat.zero_le _) rfl (xr_id (th0 x) 150).symm (fun i hi ih => ?_)
            refine r_iload dX10_would_76 (by rfl) ?_
            refine r_bipush (v := nI 9) dX10_would_78 (by decide) ?_
            refine r_icmp_geN (tgt := 97) dX10_would_80 (by decide) (by omega) (by omega) (fun h80 => ?_) (fun h80 => ?_)
            · refine PW.lc (L' := [(0, .ref 137), (1, .int v1), (2, .int v2), (3, .int v3), (4, .int v4), (5, .int v5)]) (x' := xr (th0 x) 150 (zfill (x 150) 9)) (by rfl) (by rw [show i = 9 by omega]) ?_
              refine r_aload_n dX10_would_97 rfl (by rfl) ?_
              refine gf_X10_53 rfl dX10_would_98 (by first | assumption | rfl) (by rfl) ?_
              refine r_iconst (v := nI 0) dX10_would_101 (by decide) ?_
              refine r_iload_n dX10_would_102 rfl (by rfl) ?_
              refine r_iastN dX10_would_103 (by first | assumption | rfl) (by omega) (by decide) ?_
              refine r_aload_n dX10_would_104 rfl (by rfl) ?_
              refine gf_X10_53 rfl dX10_would_105 (by first | assumption | rfl) (by rfl) ?_
              refine r_iconst (v := nI 1) dX10_would_108 (by decide) ?_
              refine r_iload_n dX10_would_109 rfl (by rfl) ?_
              refine r_iastN dX10_would_110 (by first | assumption | rfl) (by omega) (by decide) ?_
              refine r_aload_n dX10_would_111 rfl (by rfl) ?_
              refine gf_X10_53 rfl dX10_would_112 (by first | assumption | rfl) (by rfl) ?_
              refine r_iconst (v := nI 2) dX10_would_115 (by decide) ?_
              refine r_iload_n dX10_would_116 rfl (by rfl) ?_
              refine r_iastN dX10_would_117 (by first | assumption | rfl) (by omega) (by decide) ?_
              refine r_aload_n dX10_would_118 rfl (by rfl) ?_
              refine gf_X10_53 rfl dX10_would_119 (by first | assumption | rfl) (by rfl) ?_
              refine r_iconst (v := nI 3) dX10_would_122 (by decide) ?_
              refine r_iload dX10_would_123 (by rfl) ?_
              refine r_iastN dX10_would_125 (by first | assumption | rfl) (by omega) (by decide) ?_
              refine r_aload_n dX10_would_126 rfl (by rfl) ?_
              refine gf_X10_53 rfl dX10_would_127 (by first | assumption | rfl) (by rfl) ?_
              refine r_iconst (v := nI 4) dX10_would_130 (by decide) ?_
              refine r_iload dX10_would_131 (by rfl) ?_
              refine r_iastN dX10_would_133 (by first | assumption | rfl) (by omega) (by decide) ?_
              refine PW.agr (x' := xr (th0 x) 150 (fct v1 v2 v3 v4 v5 (nI 0) (nI 0) (nI 0) (nI 0))) (fun c k hk => ?_) ?_
              · by_cases h0 : c = 150
                · subst h0
                  rw [csz_153.2.2.2.1] at hk
                  have hz : ∀ k, k < 9 → zfill (x 150) 9 k = nI 0 := fun k hk => zfill_lt 9 hk
                  rw [xr_s]
                  rcases (show k = 0 ∨ k = 1 ∨ k = 2 ∨ k = 3 ∨ k = 4 ∨ k = 5 ∨ k = 6 ∨ k = 7 ∨ k = 8 by omega) with rfl | rfl | rfl | rfl | rfl | rfl | rfl | rfl | rfl <;> first | rfl | exact hz _ (by decide)
                · rw [xr_n h0, xu_n h0, xu_n h0, xu_n h0, xu_n h0, xu_n h0, xr_n h0]
              refine r_aload_n dX10_would_134 rfl (by rfl) ?_
              refine r_callV (c_loudNow (l := eL (aE a)) (x := xr (th0 x) 150 (fct v1 v2 v3 v4 v5 (nI 0) (nI 0) (nI 0) (nI 0))) (hR.1.2.2.2.2.2.1.fr rfl rfl rfl)) mv_X10_loudNow ml_X10_340 ⟨by decide, by decide⟩ dX10_would_135 (by first | assumption | rfl) rfl rfl rfl (Nat.le_of_ble_eq_true rfl) (fun v9 y h9 => ?_)
              obtain ⟨rfl, F9⟩ := h9
              refine r_iret rfl dX10_would_138 ?_
              refine ref_ok hR (((th0_qf x).row (c := 150) (by omega)).trans (show QF _ y from (SC.qf (fun c a1 _ => F9 c a1)))) (by rw [F9 137 (by decide)]; rfl) ?_
              rw [oWould, rq_t h13, rq_t h23, rq_t h33, rq_t h44, rq_t h55]
              rfl
            · refine r_aload_n dX10_would_83 rfl (by rfl) ?_
              refine gf_X10_53 rfl dX10_would_84 (by first | assumption | rfl) (by rfl) ?_
              refine r_iload dX10_would_87 (by rfl) ?_
              refine r_iconst (v := nI 0) dX10_would_89 (by decide) ?_
              refine r_iastN dX10_would_90 (by first | assumption | rfl) (by omega) (by decide) ?_
              refine r_iincN dX10_would_91 (by rfl) (by decide) ?_
              refine r_goto (tgt := 76) dX10_would_94 (by decide) ?_
              exact PW.lc (by rfl) (by rw [xu_xr]; rfl) (ih (i + 1) (by omega) (by omega))
theorem one_at {E : NE} {he rd f : Nat → Int32} {p i j : Nat} (hp : p < 5) (hi : i < 5) (hne : p ≠ i) (hj : j = 10 + p ∨ j = 0 + p ∨ j = 30 + p ∨ j = 15 + p ∨ j = 40) : oneP E he rd f i j = f j := by
  unfold oneP
  split
  · unfold slpR wakeR
    dsimp only
    split
    · split
      · split
        · rw [pk_un (by omega), pk_un (by omega), pk_un (by omega), pk_un (by omega)]
        · rw [pk_un (by omega), pk_un (by omega), pk_un (by omega), pk_un (by omega), pk_un (by omega)]
      · rw [pk_un (by omega), pk_un (by omega), pk_un (by omega)]
    · rw [pk_un (by omega), pk_un (by omega), pk_un (by omega), pk_un (by omega)]
  · generalize (if f 40 < rd i then false else falP E f i (he i)) = b
    unfold stayR
    dsimp only
    split
    · rw [pk_un (by omega), pk_un (by omega), pk_un (by omega)]
    · rw [pk_un (by omega), pk_un (by omega)]
theorem mn_at {E : NE} {he rd f : Nat → Int32} {p j : Nat} (hp : p < 5) (hj : j = 10 + p ∨ j = 0 + p ∨ j = 30 + p ∨ j = 15 + p ∨ j = 40) : ∀ i, i ≤ p → mnP E he rd f i j = f j
  | 0, _ => rfl
  | i + 1, hi => (one_at hp (by omega) (by omega) hj).trans (mn_at hp hj i (by omega))
theorem mn_behind {E : NE} {he rd f : Nat → Int32} {p : Nat} (hp : p < 5) : ∀ k, p + 1 + k ≤ 5 → mnP E he rd f (p + 1 + k) (10 + p) = oneP E he rd (mnP E he rd f p) p (10 + p)
  | 0, _ => rfl
  | k + 1, hk => (one_at (i := p + 1 + k) hp (by omega) (by omega) (Or.inl rfl)).trans (mn_behind hp k (by omega))
theorem change_eq {E : NE} {w k : Int32} {f : Nat → Int32} {p t : Nat} (hp : p < eN E) (hn : eN E ≤ 5) (ho : RO f) (ht : f 40 = nI t) (ht2 : t < 240) : (!decide (asl (minP E w rd0 k f) p = asl f p)) = chB E f p 0 (heaP E w k f p) := by
  have e1 : minP E w rd0 k f (10 + p) = oneP E (heaP E w k f) rd0 (mnP E (heaP E w k f) rd0 f p) p (10 + p) := by
    unfold minP
    rw [if_pos (by rw [ht]; exact nI_lt ht2 (by omega)), pk_un (by omega)]
    have w9 := mn_behind (E := E) (he := heaP E w k f) (rd := rd0) (f := f) (p := p) (by omega) (eN E - (p + 1)) (by omega)
    rw [show p + 1 + (eN E - (p + 1)) = eN E by omega] at w9
    exact w9
  have g10 := mn_at (E := E) (he := heaP E w k f) (rd := rd0) (f := f) (p := p) (by omega) (Or.inl rfl) p (Nat.le_refl _)
  have g0 := mn_at (E := E) (he := heaP E w k f) (rd := rd0) (f := f) (p := p) (j := 0 + p) (by omega) (Or.inr (Or.inl rfl)) p (Nat.le_refl _)
  have g30 := mn_at (E := E) (he := heaP E w k f) (rd := rd0) (f := f) (p := p) (j := 30 + p) (by omega) (Or.inr (Or.inr (Or.inl rfl))) p (Nat.le_refl _)
  have g40 := mn_at (E := E) (he := heaP E w k f) (rd := rd0) (f := f) (p := p) (j := 40) (by omega) (Or.inr (Or.inr (Or.inr (Or.inr rfl)))) p (Nat.le_refl _)
  generalize mnP E (heaP E w k f) rd0 f p = g at e1 g10 g0 g30 g40
  have ea : asl g p = asl f p := asl_congr g10
  have em : asl (minP E w rd0 k f) p = decide (0 < minP E w rd0 k f (10 + p)) := rfl
  rw [em, e1]
  unfold oneP chB
  rw [ea]
  obtain ⟨d, hd, ed⟩ := (ho.2 p (by omega)).2.2.1
  by_cases ha : asl f p = true
  · rw [if_pos ha, if_pos ha, ha]
    have d0 : 0 < d := by
      have := of_decide_eq_true ha
      rw [ed] at this
      exact (nI_ltI (by decide) (by omega)).mp (show nI 0 < nI d from this)
    unfold slpR
    rw [g10]
    by_cases hh : heaP E w k f p ≤ eH E 1 p + f (10 + p)
    · rw [if_pos hh, decide_eq_false (Int32.not_lt.mpr hh)]
      have key : ∀ (q : Nat → Int32), q (10 + p) = imin (nI 9) (f (10 + p) + nI 1) → (!decide (decide (0 < q (10 + p)) = true)) = false := fun q hq => by
        rw [hq, ed, nI_1', imin_N (by omega) (by omega), decide_eq_true (show (0 : Int32) < nI (min 9 (d + 1)) from nI_lt (show 0 < min 9 (d + 1) by omega) (by omega))]
        rfl
      dsimp only
      split
      · split
        · exact key _ (by rw [pk_un (by omega), pk_un (by omega), pk_un (by omega), pk_us])
        · exact key _ (by rw [pk_un (by omega), pk_un (by omega), pk_un (by omega), pk_un (by omega), pk_us])
      · exact key _ (by rw [pk_un (by omega), pk_un (by omega), pk_us])
    · rw [if_neg hh, decide_eq_true (Int32.not_le.mp hh)]
      have ew : wakeR g p (10 + p) = nI 0 := by
        unfold wakeR
        rw [pk_un (by omega), pk_un (by omega), pk_un (by omega), pk_us]
      rw [ew]
      rfl
  · have ha := Bool.eq_false_iff.mpr ha
    rw [ha, if_neg (show ¬ (false = true) by decide), if_neg (show ¬ (false = true) by decide), if_pos (show (0 : Nat) = 0 from rfl), g40, ht, if_neg (show ¬ nI t < rd0 p from nI_pos (by omega))]
    have ef : falP E g p (heaP E w k f p) = falP E f p (heaP E w k f p) := by
      unfold falP
      rw [g0, g30, g40]
    rw [ef]
    unfold stayR
    dsimp only
    cases hf : falP E f p (heaP E w k f p) with
    | true =>
      rw [if_pos rfl, pk_un (by omega), pk_un (by omega), pk_us]
      rfl
    | false =>
      rw [if_neg (by decide), pk_un (by omega), pk_un (by omega), g10, show decide (0 < f (10 + p)) = false from ha]
      rfl
theorem change_end {E : NE} {w k : Int32} {rd f : Nat → Int32} {p t : Nat} (ht : f 40 = nI t) (ht2 : ¬ t < 240) (h3 : t ≤ 240) : (!decide (asl (minP E w rd k f) p = asl f p)) = false := by
  unfold minP
  rw [if_neg (by rw [ht]; exact nI_nlt (by omega) (by omega)), decide_eq_true rfl]
  rfl
set_option maxHeartbeats 8000000 in
set_option maxRecDepth 20000 in
theorem g_changes {a : AS} {x : XS} {v : Int32} (hR : RRf x a) (hA : AI a) : RASK mX10_changes [.ref 137, .int v] x a (oChanges a v) 1 := by
  refine MM.of (by decide) (Nat.le_of_ble_eq_true rfl) ?_
  have y137 := lay_137
  have y154 := lay_154
  obtain ⟨t, ht2, ht⟩ := hA.t
  have T0 := take_RT (hR.th) hA ht ht2
  have Q0 : QF x (tkR (th0 x)) := (th0_qf x).trans (take_QF _)
  refine r_aload_n dX10_changes_0 rfl (by rfl) ?_
  refine r_iconst (v := nI 0) dX10_changes_1 (by decide) ?_
  refine pf_X10_3 rfl dX10_changes_2 (by first | assumption | rfl) (by rfl) ?_
  refine r_aload_n dX10_changes_5 rfl (by rfl) ?_
  refine r_iload_n dX10_changes_6 rfl (by rfl) ?_
  refine r_iconst (v := nI 1) dX10_changes_7 (by decide) ?_
  by_cases q8 : nobody v (eN (aE a)) = true
  · refine r_callV (c_isS_f hR.th.1.1 xu_s q8) mv_X10_isSleeper ml_X10_383 ⟨by decide, by decide⟩ dX10_changes_8 lay_137 rfl rfl rfl (Nat.le_of_ble_eq_true rfl) (fun v9 x9 h9 => ?_)
    obtain ⟨rfl, h9⟩ := h9
    refine PW.xeq h9 ?_
    clear h9 x9
    refine r_if_neB (tgt := 16) dX10_changes_11 (by decide) (fun h => by cases h) (fun _ => ?_)
    refine r_iconst (v := nI 0) dX10_changes_14 (by decide) ?_
    refine r_zret rfl (by first | exact bI_01 _ | exact Or.inl rfl | exact Or.inr rfl) dX10_changes_15 ?_
    exact ref_nob hR rfl (by rw [oChanges, rqS_t q8])
  · have q8 := Bool.eq_false_iff.mpr q8
    obtain ⟨p, hp, rfl⟩ := nobody_f hR.1.2.1 q8
    have hp5 : p < 5 := Nat.lt_of_lt_of_le hp hR.1.2.1
    refine r_callV (c_isS_t hR.th.1.1 hR.1.2.1 xu_s hp) mv_X10_isSleeper ml_X10_383 ⟨by decide, by decide⟩ dX10_changes_8 lay_137 rfl rfl rfl (Nat.le_of_ble_eq_true rfl) (fun v9 x9 h9 => ?_)
    obtain ⟨rfl, h9⟩ := h9
    refine PW.xeq h9 ?_
    clear h9 x9
    refine r_if_neB (tgt := 16) dX10_changes_11 (by decide) (fun _ => ?_) (fun h => by cases h)
    refine r_aload_n dX10_changes_16 rfl (by rfl) ?_
    refine r_callV c_take mv_X10_take ml_X10_316 ⟨by decide, by decide⟩ dX10_changes_17 (by first | assumption | rfl) rfl rfl rfl (Nat.le_of_ble_eq_true rfl) (fun v9 x9 h9 => ?_)
    obtain ⟨rfl, h9⟩ := h9
    refine PW.xeq h9 ?_
    clear h9 x9
    refine r_aload_n dX10_changes_20 rfl (by rfl) ?_
    refine gf_X10_65 rfl dX10_changes_21 (by first | assumption | rfl) (by rfl) ?_
    refine r_bipush (v := nI 40) dX10_changes_24 (by decide) ?_
    refine r_ialdN dX10_changes_26 (by first | assumption | rfl) (by omega) (by decide) ?_
    refine PW.topi (show _ = nI t from T0.1.2.2.2.1.2.1.trans ht) ?_
    refine r_sipush (v := nI 240) dX10_changes_27 (by decide) ?_
    refine r_icmp_geN (tgt := 50) dX10_changes_30 (by decide) (by omega) (by omega) (fun h30 => ?_) (fun h30 => ?_)
    · refine r_iconst (v := nI 0) dX10_changes_50 (by decide) ?_
      refine r_zret rfl (by first | exact bI_01 _ | exact Or.inl rfl | exact Or.inr rfl) dX10_changes_51 ?_
      first
        | (refine ref_ok hR Q0 rfl ?_
           rw [oChanges, rqS_f q8, nN_nI (by omega), change_end ht (by omega) ht2]
           rfl)
        | (refine ref_ok hR (Q0.trans (F1.trans F2).qf) (by rw [(F1.trans F2).mf.th]; rfl) ?_
           rw [oChanges, rqS_f q8, nN_nI (by omega), change_eq hp hR.1.2.1 hA.2.1 ht (by omega), h43]
           rfl)
    · refine r_aload_n dX10_changes_33 rfl (by rfl) ?_
      refine r_iload_n dX10_changes_34 rfl (by rfl) ?_
      refine r_aload_n dX10_changes_35 rfl (by rfl) ?_
      refine r_iload_n dX10_changes_36 rfl (by rfl) ?_
      refine r_callV (n_noiseOf T0.1 T0.2.2.2.2 hp5 ht ht2) mv_X10_noiseOf ml_X10_355 ⟨by decide, by decide⟩ dX10_changes_37 (by first | assumption | rfl) rfl rfl rfl (Nat.le_of_ble_eq_true rfl) (fun v9 y h9 => ?_)
      obtain ⟨rfl, F1⟩ := h9
      refine r_callV (n_isChanging (r := 0) (T0.1.sc F1) hp (by rw [F1 157 (by decide) (by decide)]; rfl) (by decide)) mv_X10_isChanging ml_X10_358 ⟨by decide, by decide⟩ dX10_changes_40 (by first | assumption | rfl) rfl rfl rfl (Nat.le_of_ble_eq_true rfl) (fun v9 z h9 => ?_)
      obtain ⟨rfl, F2⟩ := h9
      refine r_if_eqB (tgt := 50) dX10_changes_43 (by decide) (fun h43 => ?_) (fun h43 => ?_)
      · refine r_iconst (v := nI 0) dX10_changes_50 (by decide) ?_
        refine r_zret rfl (by first | exact bI_01 _ | exact Or.inl rfl | exact Or.inr rfl) dX10_changes_51 ?_
        first
          | (refine ref_ok hR Q0 rfl ?_
             rw [oChanges, rqS_f q8, nN_nI (by omega), change_end ht (by omega) ht2]
             rfl)
          | (refine ref_ok hR (Q0.trans (F1.trans F2).qf) (by rw [(F1.trans F2).mf.th]; rfl) ?_
             rw [oChanges, rqS_f q8, nN_nI (by omega), change_eq hp hR.1.2.1 hA.2.1 ht (by omega), h43]
             rfl)
      · refine r_iconst (v := nI 1) dX10_changes_46 (by decide) ?_
        refine r_goto (tgt := 51) dX10_changes_47 (by decide) ?_
        refine r_zret rfl (by first | exact bI_01 _ | exact Or.inl rfl | exact Or.inr rfl) dX10_changes_51 ?_
        first
          | (refine ref_ok hR Q0 rfl ?_
             rw [oChanges, rqS_f q8, nN_nI (by omega), change_end ht (by omega) ht2]
             rfl)
          | (refine ref_ok hR (Q0.trans (F1.trans F2).qf) (by rw [(F1.trans F2).mf.th]; rfl) ?_
             rw [oChanges, rqS_f q8, nN_nI (by omega), change_eq hp hR.1.2.1 hA.2.1 ht (by omega), h43]
             rfl)
set_option maxHeartbeats 8000000 in
set_option maxRecDepth 20000 in
theorem g_loudest {a : AS} {x : XS} {v : Int32} (hR : RRf x a) (hA : AI a) : RASK mX10_loudest [.ref 137, .int v] x a (oLoudest a v) 1 := by
  refine MM.of (by decide) (Nat.le_of_ble_eq_true rfl) ?_
  have y137 := lay_137
  obtain ⟨t, ht2, ht⟩ := hA.t
  have T0 := take_RT (hR.th) hA ht ht2
  have Q0 : QF x (tkR (th0 x)) := (th0_qf x).trans (take_QF _)
  refine r_aload_n dX10_loudest_0 rfl (by rfl) ?_
  refine r_iconst (v := nI 0) dX10_loudest_1 (by decide) ?_
  refine pf_X10_3 rfl dX10_loudest_2 (by first | assumption | rfl) (by rfl) ?_
  refine r_aload_n dX10_loudest_5 rfl (by rfl) ?_
  refine r_iload_n dX10_loudest_6 rfl (by rfl) ?_
  refine r_iconst (v := nI 1) dX10_loudest_7 (by decide) ?_
  by_cases q8 : nobody v (eN (aE a)) = true
  · refine r_callV (c_isS_f hR.th.1.1 xu_s q8) mv_X10_isSleeper ml_X10_383 ⟨by decide, by decide⟩ dX10_loudest_8 lay_137 rfl rfl rfl (Nat.le_of_ble_eq_true rfl) (fun v9 x9 h9 => ?_)
    obtain ⟨rfl, h9⟩ := h9
    refine PW.xeq h9 ?_
    clear h9 x9
    refine r_if_neB (tgt := 16) dX10_loudest_11 (by decide) (fun h => by cases h) (fun _ => ?_)
    refine r_iconst (v := nI 0) dX10_loudest_14 (by decide) ?_
    refine r_iret rfl dX10_loudest_15 ?_
    exact ref_nob hR rfl (by rw [oLoudest, rqS_t q8])
  · have q8 := Bool.eq_false_iff.mpr q8
    obtain ⟨p, hp, rfl⟩ := nobody_f hR.1.2.1 q8
    have hp5 : p < 5 := Nat.lt_of_lt_of_le hp hR.1.2.1
    refine r_callV (c_isS_t hR.th.1.1 hR.1.2.1 xu_s hp) mv_X10_isSleeper ml_X10_383 ⟨by decide, by decide⟩ dX10_loudest_8 lay_137 rfl rfl rfl (Nat.le_of_ble_eq_true rfl) (fun v9 x9 h9 => ?_)
    obtain ⟨rfl, h9⟩ := h9
    refine PW.xeq h9 ?_
    clear h9 x9
    refine r_if_neB (tgt := 16) dX10_loudest_11 (by decide) (fun _ => ?_) (fun h => by cases h)
    refine r_aload_n dX10_loudest_16 rfl (by rfl) ?_
    refine r_callV c_take mv_X10_take ml_X10_316 ⟨by decide, by decide⟩ dX10_loudest_17 (by first | assumption | rfl) rfl rfl rfl (Nat.le_of_ble_eq_true rfl) (fun v9 x9 h9 => ?_)
    obtain ⟨rfl, h9⟩ := h9
    refine PW.xeq h9 ?_
    clear h9 x9
    refine r_iconst (v := -1) dX10_loudest_20 (by decide) ?_
    refine r_istore_n dX10_loudest_21 rfl (by decide) ?_
    refine r_iconst (v := nI 0) dX10_loudest_22 (by decide) ?_
    refine r_istore_n dX10_loudest_23 rfl (by decide) ?_
    refine r_iconst (v := nI 0) dX10_loudest_24 (by decide) ?_
    refine r_istore dX10_loudest_25 (by decide) ?_
    refine PW.loop (σ := Nat × XS) (fun s => eN (aE a) - s.1) (fun s => s.1 ≤ eN (aE a) ∧ SC (tkR (th0 x)) s.2) (fun s => [(0, .ref 137), (1, .int (nI p)), (2, .int (amx (rchP (aE a) (eW (aE a)) (aR a) p) (nI 0) (-1) s.1).2), (3, .int (amx (rchP (aE a) (eW (aE a)) (aR a) p) (nI 0) (-1) s.1).1), (4, .int (nI s.1))]) (fun s => s.2) ((0, tkR (th0 x))) (⟨Nat.zero_le _, SC.rfl⟩) rfl rfl (fun s hs ih => ?_)
    obtain ⟨hs1, hF⟩ := hs
    have n5 := hR.1.2.1
    refine r_iload dX10_loudest_27 (by rfl) ?_
    refine r_aload_n dX10_loudest_29 rfl (by rfl) ?_
    refine gf_X10_156 rfl dX10_loudest_30 (by first | assumption | rfl) (by rfl) ?_
    refine PW.topi (T0.1.sc hF).1.1 ?_
    refine r_icmp_geN (tgt := 67) dX10_loudest_33 (by decide) (by omega) (by omega) (fun h33 => ?_) (fun h33 => ?_)
    · refine r_iload_n dX10_loudest_67 rfl (by rfl) ?_
      refine r_iret rfl dX10_loudest_68 ?_
      refine ref_ok hR (Q0.trans hF.qf) (by rw [hF.mf.th]; rfl) ?_
      rw [oLoudest, rqS_f q8, nN_nI (by omega), show eN (aE a) = s.1 by omega]
    · refine r_aload_n dX10_loudest_36 rfl (by rfl) ?_
      refine r_iload_n dX10_loudest_37 rfl (by rfl) ?_
      refine r_iload dX10_loudest_38 (by rfl) ?_
      refine r_callV (n_from (T0.1.sc hF) T0.2.2.2.2 hp5 (show s.1 < eN (aE a) by omega)) mv_X10_from ml_X10_349 ⟨by decide, by decide⟩ dX10_loudest_40 (by first | assumption | rfl) rfl rfl rfl (Nat.le_of_ble_eq_true rfl) (fun v9 y h9 => ?_)
      obtain ⟨rfl, F1⟩ := h9
      refine r_iload_n dX10_loudest_43 rfl (by rfl) ?_
      refine r_icmp_gt (tgt := 50) dX10_loudest_44 (by decide) (fun h44 => ?_) (fun h44 => ?_)
      · refine r_iload dX10_loudest_50 (by rfl) ?_
        refine r_istore_n dX10_loudest_52 rfl (by decide) ?_
        refine r_aload_n dX10_loudest_53 rfl (by rfl) ?_
        refine r_iload_n dX10_loudest_54 rfl (by rfl) ?_
        refine r_iload dX10_loudest_55 (by rfl) ?_
        refine r_callV (n_from (T0.1.sc (hF.trans F1)) T0.2.2.2.2 hp5 (show s.1 < eN (aE a) by omega)) mv_X10_from ml_X10_349 ⟨by decide, by decide⟩ dX10_loudest_57 (by first | assumption | rfl) rfl rfl rfl (Nat.le_of_ble_eq_true rfl) (fun v9 z h9 => ?_)
        obtain ⟨rfl, F2⟩ := h9
        refine r_istore_n dX10_loudest_60 rfl (by decide) ?_
        refine r_iincN dX10_loudest_61 (by rfl) (by decide) ?_
        refine r_goto (tgt := 27) dX10_loudest_64 (by decide) ?_
        first
          | (have e := amx_gt (F := (rchP (aE a) (eW (aE a)) (aR a) p)) (Int32.not_le.mpr h44)
             exact PW.lc (by (try dsimp only); rw [e]; rfl) rfl (ih (s.1 + 1, z) ⟨(show s.1 + 1 ≤ eN (aE a) by omega), hF.trans (F1.trans F2)⟩ (show eN (aE a) - (s.1 + 1) < eN (aE a) - s.1 by omega)))
          | (have e := amx_le (F := (rchP (aE a) (eW (aE a)) (aR a) p)) (Int32.not_lt.mp h44)
             exact PW.lc (by (try dsimp only); rw [e]; rfl) rfl (ih (s.1 + 1, y) ⟨(show s.1 + 1 ≤ eN (aE a) by omega), hF.trans F1⟩ (show eN (aE a) - (s.1 + 1) < eN (aE a) - s.1 by omega)))
      · refine r_goto (tgt := 61) dX10_loudest_47 (by decide) ?_
        refine r_iincN dX10_loudest_61 (by rfl) (by decide) ?_
        refine r_goto (tgt := 27) dX10_loudest_64 (by decide) ?_
        first
          | (have e := amx_gt (F := (rchP (aE a) (eW (aE a)) (aR a) p)) (Int32.not_le.mpr h44)
             exact PW.lc (by (try dsimp only); rw [e]; rfl) rfl (ih (s.1 + 1, z) ⟨(show s.1 + 1 ≤ eN (aE a) by omega), hF.trans (F1.trans F2)⟩ (show eN (aE a) - (s.1 + 1) < eN (aE a) - s.1 by omega)))
          | (have e := amx_le (F := (rchP (aE a) (eW (aE a)) (aR a) p)) (Int32.not_lt.mp h44)
             exact PW.lc (by (try dsimp only); rw [e]; rfl) rfl (ih (s.1 + 1, y) ⟨(show s.1 + 1 ≤ eN (aE a) by omega), hF.trans F1⟩ (show eN (aE a) - (s.1 + 1) < eN (aE a) - s.1 by omega)))
set_option maxHeartbeats 8000000 in
set_option maxRecDepth 20000 in
theorem g_soon {a : AS} {x : XS} {v : Int32} (hR : RRf x a) (hA : AI a) : RASK mX10_soon [.ref 137, .int v] x a (oSoon a v) 1 := by
  refine MM.of (by decide) (Nat.le_of_ble_eq_true rfl) ?_
  have y137 := lay_137
  obtain ⟨t, ht2, ht⟩ := hA.t
  have T0 := take_RT (hR.th) hA ht ht2
  have Q0 : QF x (tkR (th0 x)) := (th0_qf x).trans (take_QF _)
  refine r_aload_n dX10_soon_0 rfl (by rfl) ?_
  refine r_iconst (v := nI 0) dX10_soon_1 (by decide) ?_
  refine pf_X10_3 rfl dX10_soon_2 (by first | assumption | rfl) (by rfl) ?_
  refine r_aload_n dX10_soon_5 rfl (by rfl) ?_
  refine r_iload_n dX10_soon_6 rfl (by rfl) ?_
  refine r_iconst (v := nI 1) dX10_soon_7 (by decide) ?_
  by_cases q8 : nobody v (eN (aE a)) = true
  · refine r_callV (c_isS_f hR.th.1.1 xu_s q8) mv_X10_isSleeper ml_X10_383 ⟨by decide, by decide⟩ dX10_soon_8 lay_137 rfl rfl rfl (Nat.le_of_ble_eq_true rfl) (fun v9 x9 h9 => ?_)
    obtain ⟨rfl, h9⟩ := h9
    refine PW.xeq h9 ?_
    clear h9 x9
    refine r_if_neB (tgt := 16) dX10_soon_11 (by decide) (fun h => by cases h) (fun _ => ?_)
    refine r_iconst (v := nI 0) dX10_soon_14 (by decide) ?_
    refine r_iret rfl dX10_soon_15 ?_
    exact ref_nob hR rfl (by rw [oSoon, rqS_t q8])
  · have q8 := Bool.eq_false_iff.mpr q8
    obtain ⟨p, hp, rfl⟩ := nobody_f hR.1.2.1 q8
    have hp5 : p < 5 := Nat.lt_of_lt_of_le hp hR.1.2.1
    refine r_callV (c_isS_t hR.th.1.1 hR.1.2.1 xu_s hp) mv_X10_isSleeper ml_X10_383 ⟨by decide, by decide⟩ dX10_soon_8 lay_137 rfl rfl rfl (Nat.le_of_ble_eq_true rfl) (fun v9 x9 h9 => ?_)
    obtain ⟨rfl, h9⟩ := h9
    refine PW.xeq h9 ?_
    clear h9 x9
    refine r_if_neB (tgt := 16) dX10_soon_11 (by decide) (fun _ => ?_) (fun h => by cases h)
    refine r_aload_n dX10_soon_16 rfl (by rfl) ?_
    refine r_callV c_take mv_X10_take ml_X10_316 ⟨by decide, by decide⟩ dX10_soon_17 (by first | assumption | rfl) rfl rfl rfl (Nat.le_of_ble_eq_true rfl) (fun v9 x9 h9 => ?_)
    obtain ⟨rfl, h9⟩ := h9
    refine PW.xeq h9 ?_
    clear h9 x9
    refine r_iconst (v := nI 0) dX10_soon_20 (by decide) ?_
    refine r_istore_n dX10_soon_21 rfl (by decide) ?_
    refine PW.loop (σ := Nat × XS) (fun s => 121 - s.1) (fun s => s.1 ≤ 121 ∧ RT s.2 (aE a) (eW (aE a)) (nI 0) (itP (aE a) (eW (aE a)) rd0 (aR a) s.1) (min (t + s.1) 240) rd0 ∧ MF (tkR (th0 x)) s.2 ∧ soonF (fun i => asl (itP (aE a) (eW (aE a)) rd0 (aR a) i) p) (121 - s.1) s.1 = soonF (fun i => asl (itP (aE a) (eW (aE a)) rd0 (aR a) i) p) 121 0) (fun s => [(0, .ref 137), (1, .int (nI p)), (2, .int (nI s.1))]) (fun s => s.2) ((0, tkR (th0 x))) (⟨Nat.zero_le _, (by rw [show min (t + (0, tkR (th0 x)).1) 240 = t from Nat.min_eq_left ht2]; exact T0), MF.rfl, rfl⟩) rfl rfl (fun s hs ih => ?_)
    obtain ⟨hs1, hT, hF, hL⟩ := hs
    refine r_iload_n dX10_soon_22 rfl (by rfl) ?_
    refine r_bipush (v := nI 120) dX10_soon_23 (by decide) ?_
    refine r_icmp_gtN (tgt := 49) dX10_soon_25 (by decide) (by omega) (by omega) (fun h25 => ?_) (fun h25 => ?_)
    · refine r_iconst (v := -1) dX10_soon_49 (by decide) ?_
      refine r_iret rfl dX10_soon_50 ?_
      refine ref_ok hR (Q0.trans hF.qf) (by rw [hF.th]; rfl) ?_
      rw [oSoon, rqS_f q8, nN_nI (by omega), ← hL, show 121 - s.1 = 0 by omega, soonF]
    · refine r_aload_n dX10_soon_28 rfl (by rfl) ?_
      refine r_iload_n dX10_soon_29 rfl (by rfl) ?_
      refine r_callV (n_isAsleep hT.1.2.2.2.1 hp5) mv_X10_isAsleep ml_X10_343 ⟨by decide, by decide⟩ dX10_soon_30 (by first | assumption | rfl) rfl rfl rfl (Nat.le_of_ble_eq_true rfl) (fun v9 x9 h9 => ?_)
      obtain ⟨rfl, h9⟩ := h9
      refine PW.xeq h9 ?_
      clear h9 x9
      refine r_if_eqB (tgt := 38) dX10_soon_33 (by decide) (fun h33 => ?_) (fun h33 => ?_)
      · refine r_aload_n dX10_soon_38 rfl (by rfl) ?_
        refine r_callV (n_minute hT) mv_X10_minute ml_X10_372 ⟨by decide, by decide⟩ dX10_soon_39 (by first | assumption | rfl) rfl rfl rfl (Nat.le_of_ble_eq_true rfl) (fun v9 z h9 => ?_)
        obtain ⟨rfl, T1, F1⟩ := h9
        refine r_pop dX10_soon_42 rfl ?_
        refine r_iincN dX10_soon_43 (by rfl) (by decide) ?_
        refine r_goto (tgt := 22) dX10_soon_46 (by decide) ?_
        exact PW.lc (by rfl) rfl (ih (s.1 + 1, z) ⟨(show s.1 + 1 ≤ 121 by omega), RT.step T1, hF.trans F1, (by
          rw [← hL, show 121 - s.1 = (121 - (s.1 + 1)) + 1 by omega, soonF, if_neg (by rw [h33]; decide)])⟩ (show 121 - (s.1 + 1) < 121 - s.1 by omega))
      · refine r_iload_n dX10_soon_36 rfl (by rfl) ?_
        refine r_iret rfl dX10_soon_37 ?_
        refine ref_ok hR (Q0.trans hF.qf) (by rw [hF.th]; rfl) ?_
        rw [oSoon, rqS_f q8, nN_nI (by omega), ← hL, show 121 - s.1 = (120 - s.1) + 1 by omega, soonF, if_pos h33]
def msA (F : Nat → Nat) (i : Nat) : Int32 := if i = 0 then -1 else nI (mxF F (i - 1)).1
def msB (F : Nat → Nat) (i : Nat) : Int32 := if i = 0 then nI 0 else nI (mxF F (i - 1)).2
theorem ms_gt {F : Nat → Nat} (h5 : ∀ i, F i ≤ 5) {i : Nat} (h : ¬ nI (F i) ≤ msA F i) : msA F (i + 1) = nI (F i) ∧ msB F (i + 1) = nI i := by
  unfold msA msB at *
  rw [if_neg (by omega), if_neg (by omega), show i + 1 - 1 = i by omega]
  cases i with
  | zero => exact ⟨rfl, rfl⟩
  | succ j =>
    rw [if_neg (by omega), show j + 1 - 1 = j by omega] at h
    have m5 := (mxF_le h5 j).1
    have hb := h5 (j + 1)
    have hl : (mxF F j).1 < F (j + 1) := by
      rcases Nat.lt_or_ge (mxF F j).1 (F (j + 1)) with q | q
      · exact q
      · exact absurd (nI_le q (by omega)) h
    have e : mxF F (j + 1) = (F (j + 1), j + 1) := if_pos hl
    rw [e]
    exact ⟨rfl, rfl⟩
theorem ms_le {F : Nat → Nat} (h5 : ∀ i, F i ≤ 5) {i : Nat} (h : nI (F i) ≤ msA F i) : msA F (i + 1) = msA F i ∧ msB F (i + 1) = msB F i := by
  unfold msA msB at *
  cases i with
  | zero =>
    rw [if_pos rfl] at h
    have := h5 0
    exact absurd (Int32.le_trans (nI_pos' (by omega)) h) (by decide +kernel)
  | succ j =>
    rw [if_neg (by omega), show j + 1 - 1 = j by omega] at h
    rw [if_neg (by omega), if_neg (by omega), if_neg (by omega), if_neg (by omega), show j + 1 + 1 - 1 = j + 1 by omega, show j + 1 - 1 = j by omega]
    have m5 := (mxF_le h5 j).1
    have hb := h5 (j + 1)
    have hl : ¬ (mxF F j).1 < F (j + 1) := Nat.not_lt.mpr ((nI_leI (by omega) (by omega)).mp h)
    have e : mxF F (j + 1) = mxF F j := if_neg hl
    rw [e]
    exact ⟨rfl, rfl⟩
set_option maxHeartbeats 8000000 in
set_option maxRecDepth 20000 in
theorem g_most {a : AS} {x : XS} {v : Int32} (hR : RRf x a) (hA : AI a) : RASK mX10_most [.ref 137, .int v] x a (oMost a v) 1 := by
  refine MM.of (by decide) (Nat.le_of_ble_eq_true rfl) ?_
  have y137 := lay_137
  obtain ⟨t, ht2, ht⟩ := hA.t
  have T0 := take_RT (hR.th) hA ht ht2
  have Q0 : QF x (tkR (th0 x)) := (th0_qf x).trans (take_QF _)
  refine r_aload_n dX10_most_0 rfl (by rfl) ?_
  refine r_iconst (v := nI 0) dX10_most_1 (by decide) ?_
  refine pf_X10_3 rfl dX10_most_2 (by first | assumption | rfl) (by rfl) ?_
  refine r_aload_n dX10_most_5 rfl (by rfl) ?_
  refine r_iload_n dX10_most_6 rfl (by rfl) ?_
  refine r_iconst (v := nI 0) dX10_most_7 (by decide) ?_
  refine r_iconst (v := nI 1) dX10_most_8 (by decide) ?_
  refine r_callS c_within10 ms_X10_within ml_X10_282 ⟨by decide, by decide⟩ dX10_most_9 rfl (Nat.le_of_ble_eq_true rfl) (fun v9 x9 h9 => ?_)
  obtain ⟨rfl, h9⟩ := h9
  refine PW.xeq h9 ?_
  clear h9 x9
  refine r_iconst (v := nI 1) dX10_most_12 (by decide) ?_
  refine r_iconst (v := nI 1) dX10_most_13 (by decide) ?_
  refine PW.caseB3 (fun q14 => ?_) (fun q14 => ?_)
  · refine r_callV (c_may_t xu_s) mv_X10_may ml_X10_203 ⟨by decide, by decide⟩ dX10_most_14 lay_137 rfl rfl rfl (Nat.le_of_ble_eq_true rfl) (fun v9 x9 h9 => ?_)
    obtain ⟨rfl, h9⟩ := h9
    refine PW.xeq h9 ?_
    clear h9 x9
    refine r_if_neB (tgt := 22) dX10_most_17 (by decide) (fun _ => ?_) (fun h => by cases h)
    obtain ⟨k, _, hk, rfl⟩ := inB_is (lo := 0) (hi := 1) q14 (by decide) (by decide)
    refine r_aload_n dX10_most_22 rfl (by rfl) ?_
    refine r_callV c_take mv_X10_take ml_X10_316 ⟨by decide, by decide⟩ dX10_most_23 (by first | assumption | rfl) rfl rfl rfl (Nat.le_of_ble_eq_true rfl) (fun v9 x9 h9 => ?_)
    obtain ⟨rfl, h9⟩ := h9
    refine PW.xeq h9 ?_
    clear h9 x9
    refine r_iconst (v := nI 0) dX10_most_26 (by decide) ?_
    refine r_istore_n dX10_most_27 rfl (by decide) ?_
    refine r_iconst (v := -1) dX10_most_28 (by decide) ?_
    refine r_istore_n dX10_most_29 rfl (by decide) ?_
    refine r_iconst (v := nI 0) dX10_most_30 (by decide) ?_
    refine r_istore dX10_most_31 (by decide) ?_
    refine PW.loop (σ := Nat × XS) (fun s => 121 - s.1) (fun s => s.1 ≤ 121 ∧ RT s.2 (aE a) (eW (aE a)) (nI 0) (itP (aE a) (eW (aE a)) rd0 (aR a) s.1) (min (t + s.1) 240) rd0 ∧ MF (tkR (th0 x)) s.2) (fun s => [(0, .ref 137), (1, .int (nI k)), (2, .int (msB (mostF a) s.1)), (3, .int (msA (mostF a) s.1)), (4, .int (nI s.1))]) (fun s => s.2) ((0, tkR (th0 x))) (⟨Nat.zero_le _, (by rw [show min (t + (0, tkR (th0 x)).1) 240 = t from Nat.min_eq_left ht2]; exact T0), MF.rfl⟩) rfl rfl (fun s hs ih => ?_)
    obtain ⟨hs1, hT, hF⟩ := hs
    refine r_iload dX10_most_33 (by rfl) ?_
    refine r_bipush (v := nI 120) dX10_most_35 (by decide) ?_
    refine r_icmp_gtN (tgt := 67) dX10_most_37 (by decide) (by omega) (by omega) (fun h37 => ?_) (fun h37 => ?_)
    · refine r_iload_n dX10_most_67 rfl (by rfl) ?_
      refine r_if_ne (tgt := 75) dX10_most_68 (by decide) (fun h68 => ?_) (fun h68 => ?_)
      · refine r_iload_n dX10_most_75 rfl (by rfl) ?_
        refine r_iret rfl dX10_most_76 ?_
        refine ref_ok hR (Q0.trans hF.qf) (by rw [hF.th]; rfl) ?_
        rw [oMost, rq_t q14]
        have e9 : s.1 = 121 := by omega
        have eA : msA (mostF a) s.1 = nI (mxF (mostF a) 120).1 := by rw [e9]; rfl
        have eB : msB (mostF a) s.1 = nI (mxF (mostF a) 120).2 := by rw [e9]; rfl
        first
          | (have hk0 : k = 0 := by
               by_cases e : k = 0
               · exact e
               · exact absurd h68 (nI_ne0 (by omega) (by omega))
             subst hk0
             rw [eB]
             rfl)
          | (rw [if_neg (show ¬ nI k = nI 0 from h68), eA])
      · refine r_iload_n dX10_most_71 rfl (by rfl) ?_
        refine r_goto (tgt := 76) dX10_most_72 (by decide) ?_
        refine r_iret rfl dX10_most_76 ?_
        refine ref_ok hR (Q0.trans hF.qf) (by rw [hF.th]; rfl) ?_
        rw [oMost, rq_t q14]
        have e9 : s.1 = 121 := by omega
        have eA : msA (mostF a) s.1 = nI (mxF (mostF a) 120).1 := by rw [e9]; rfl
        have eB : msB (mostF a) s.1 = nI (mxF (mostF a) 120).2 := by rw [e9]; rfl
        first
          | (have hk0 : k = 0 := by
               by_cases e : k = 0
               · exact e
               · exact absurd h68 (nI_ne0 (by omega) (by omega))
             subst hk0
             rw [eB]
             rfl)
          | (rw [if_neg (show ¬ nI k = nI 0 from h68), eA])
    · refine r_aload_n dX10_most_40 rfl (by rfl) ?_
      refine r_callV (n_asleepAll hT.1.1.1 hT.1.1.2.1 hT.1.2.2.2.1) mv_X10_asleepAll ml_X10_380 ⟨by decide, by decide⟩ dX10_most_41 (by first | assumption | rfl) rfl rfl rfl (Nat.le_of_ble_eq_true rfl) (fun v9 x9 h9 => ?_)
      obtain ⟨rfl, h9⟩ := h9
      refine PW.xeq h9 ?_
      clear h9 x9
      refine PW.topi (show _ = nI (mostF a s.1) from rfl) ?_
      refine r_iload_n dX10_most_44 rfl (by rfl) ?_
      refine r_icmp_le (tgt := 56) dX10_most_45 (by decide) (fun h45 => ?_) (fun h45 => ?_)
      · refine r_aload_n dX10_most_56 rfl (by rfl) ?_
        refine r_callV (n_minute hT) mv_X10_minute ml_X10_372 ⟨by decide, by decide⟩ dX10_most_57 (by first | assumption | rfl) rfl rfl rfl (Nat.le_of_ble_eq_true rfl) (fun v9 z h9 => ?_)
        obtain ⟨rfl, T1, F1⟩ := h9
        refine r_pop dX10_most_60 rfl ?_
        refine r_iincN dX10_most_61 (by rfl) (by decide) ?_
        refine r_goto (tgt := 33) dX10_most_64 (by decide) ?_
        have c5 : ∀ i, mostF a i ≤ 5 := fun i => Nat.le_trans (cntA_le _ _) hR.1.2.1
        first
          | (obtain ⟨eA, eB⟩ := ms_le (F := mostF a) c5 h45
             exact PW.lc (by (try dsimp only); rw [eA, eB]; rfl) rfl (ih (s.1 + 1, z) ⟨(show s.1 + 1 ≤ 121 by omega), RT.step T1, hF.trans F1⟩ (show 121 - (s.1 + 1) < 121 - s.1 by omega)))
          | (obtain ⟨eA, eB⟩ := ms_gt (F := mostF a) c5 h45
             exact PW.lc (by (try dsimp only); rw [eA, eB]; rfl) rfl (ih (s.1 + 1, z) ⟨(show s.1 + 1 ≤ 121 by omega), RT.step T1, hF.trans F1⟩ (show 121 - (s.1 + 1) < 121 - s.1 by omega)))
      · refine r_iload dX10_most_48 (by rfl) ?_
        refine r_istore_n dX10_most_50 rfl (by decide) ?_
        refine r_aload_n dX10_most_51 rfl (by rfl) ?_
        refine r_callV (n_asleepAll hT.1.1.1 hT.1.1.2.1 hT.1.2.2.2.1) mv_X10_asleepAll ml_X10_380 ⟨by decide, by decide⟩ dX10_most_52 (by first | assumption | rfl) rfl rfl rfl (Nat.le_of_ble_eq_true rfl) (fun v9 x9 h9 => ?_)
        obtain ⟨rfl, h9⟩ := h9
        refine PW.xeq h9 ?_
        clear h9 x9
        refine PW.topi (show _ = nI (mostF a s.1) from rfl) ?_
        refine r_istore_n dX10_most_55 rfl (by decide) ?_
        refine r_aload_n dX10_most_56 rfl (by rfl) ?_
        refine r_callV (n_minute hT) mv_X10_minute ml_X10_372 ⟨by decide, by decide⟩ dX10_most_57 (by first | assumption | rfl) rfl rfl rfl (Nat.le_of_ble_eq_true rfl) (fun v9 z h9 => ?_)
        obtain ⟨rfl, T1, F1⟩ := h9
        refine r_pop dX10_most_60 rfl ?_
        refine r_iincN dX10_most_61 (by rfl) (by decide) ?_
        refine r_goto (tgt := 33) dX10_most_64 (by decide) ?_
        have c5 : ∀ i, mostF a i ≤ 5 := fun i => Nat.le_trans (cntA_le _ _) hR.1.2.1
        first
          | (obtain ⟨eA, eB⟩ := ms_le (F := mostF a) c5 h45
             exact PW.lc (by (try dsimp only); rw [eA, eB]; rfl) rfl (ih (s.1 + 1, z) ⟨(show s.1 + 1 ≤ 121 by omega), RT.step T1, hF.trans F1⟩ (show 121 - (s.1 + 1) < 121 - s.1 by omega)))
          | (obtain ⟨eA, eB⟩ := ms_gt (F := mostF a) c5 h45
             exact PW.lc (by (try dsimp only); rw [eA, eB]; rfl) rfl (ih (s.1 + 1, z) ⟨(show s.1 + 1 ≤ 121 by omega), RT.step T1, hF.trans F1⟩ (show 121 - (s.1 + 1) < 121 - s.1 by omega)))
  · refine r_callV (c_may_f xu_s (by decide) (by decide)) mv_X10_may ml_X10_203 ⟨by decide, by decide⟩ dX10_most_14 lay_137 rfl rfl rfl (Nat.le_of_ble_eq_true rfl) (fun v9 x9 h9 => ?_)
    obtain ⟨rfl, h9⟩ := h9
    refine PW.xeq h9 ?_
    clear h9 x9
    refine r_if_neB (tgt := 22) dX10_most_17 (by decide) (fun h => by cases h) (fun _ => ?_)
    refine r_iconst (v := nI 0) dX10_most_20 (by decide) ?_
    refine r_iret rfl dX10_most_21 ?_
    exact ref_bad hR rfl (by rw [oMost, rq_f q14])
