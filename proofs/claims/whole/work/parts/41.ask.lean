/-! THE FACE: asking -/
section RetsW
variable {M : MD} {R : Room} {mc ms : Nat} {Post : Option Value → XS → Prop} {PT : String → XS → Prop} {pc : Nat} {L : List (Nat × Value)} {st : List Value} {x : XS}
theorem r_iretW {v : Int32} (hr : M.2.2.2 = some .int) (hd : decode M.2.1 pc = .ok (.ireturn, 1)) (hp : Post (some (.int v)) x) : PW M R mc ms Post PT pc L [.int v] x := by
  intro p l e s m args below meth c G H locs ls C hH hS hL
  have hlocks : meth.locks = false := C.2.2.2.2.2.2.2.1
  refine W.widen (k := mc) (n := ms) (Nat.zero_le _) (Nat.zero_le _) ?_
  exact vx_ret (W.iret C.1 C.2.1 (C.2.2.2.2.2.2.1.trans hr) (fun t ht hW => ⟨⟨some (.int v), x, rfl, hp, by rw [ht]; exact hH⟩, hS.F ht⟩) hS.2.2 hd)
theorem r_zretW {v : Int32} (hr : M.2.2.2 = some .boolean) (hv : v = 0 ∨ v = 1) (hd : decode M.2.1 pc = .ok (.ireturn, 1)) (hp : Post (some (.int v)) x) : PW M R mc ms Post PT pc L [.int v] x := by
  intro p l e s m args below meth c G H locs ls C hH hS hL
  have hlocks : meth.locks = false := C.2.2.2.2.2.2.2.1
  refine W.widen (k := mc) (n := ms) (Nat.zero_le _) (Nat.zero_le _) ?_
  exact vx_ret (W.zret C.1 C.2.1 (C.2.2.2.2.2.2.1.trans hr) (by rcases hv with rfl | rfl <;> decide) (fun t ht hW => ⟨⟨some (.int v), x, rfl, hp, by rw [ht]; exact hH⟩, hS.F ht⟩) hS.2.2 hd)
theorem r_lretW {v : Int64} (hr : M.2.2.2 = some .long) (hd : decode M.2.1 pc = .ok (.lreturn, 1)) (hp : Post (some (.long v)) x) : PW M R mc ms Post PT pc L [.long v] x := by
  intro p l e s m args below meth c G H locs ls C hH hS hL
  have hlocks : meth.locks = false := C.2.2.2.2.2.2.2.1
  refine W.widen (k := mc) (n := ms) (Nat.zero_le _) (Nat.zero_le _) ?_
  exact vx_ret (W.lret C.1 C.2.1 (C.2.2.2.2.2.2.1.trans hr) (fun t ht hW => ⟨⟨some (.long v), x, rfl, hp, by rw [ht]; exact hH⟩, hS.F ht⟩) hS.2.2 hd)
end RetsW
def rq (b : Bool) (r : Except Nat Int32) : Except Nat Int32 := if b then r else .error 1
def rqS (n : Nat) (v : Int32) (r : Except Nat Int32) : Except Nat Int32 := if nobody v n then .error 0 else r
theorem rq_t {b : Bool} {r : Except Nat Int32} (h : b = true) : rq b r = r := by unfold rq; rw [if_pos h]
theorem rq_f {b : Bool} {r : Except Nat Int32} (h : b = false) : rq b r = .error 1 := by unfold rq; rw [if_neg (by rw [h]; decide)]
theorem rqS_t {n : Nat} {v : Int32} {r : Except Nat Int32} (h : nobody v n = true) : rqS n v r = .error 0 := by unfold rqS; rw [if_pos h]
theorem rqS_f {n : Nat} {v : Int32} {r : Except Nat Int32} (h : nobody v n = false) : rqS n v r = r := by unfold rqS; rw [if_neg (by rw [h]; decide)]
abbrev rd0 : Nat → Int32 := fun _ => nI 0
theorem RC.asked {x : XS} {a : AS} (h : RC x a) : TN (askX x) (aE a) (eW (aE a)) rd0 (aR a) := ⟨h.1.tf (askX_tf x), by rw [askX_7]; exact h.1.2.2.2.2.2.1, rfl, by rw [askX_50]; exact h.2.1.1⟩
theorem AI.t {a : AS} (h : AI a) : ∃ t, t ≤ 240 ∧ aR a 40 = nI t := h.2.1.1
set_option maxHeartbeats 8000000 in
set_option maxRecDepth 20000 in
theorem c_asked {a : AS} {x : XS} (hC : RC x a) : MM mX9_asked 2 0 0 [.ref 0] x (fun v y => v = some (.ref 49) ∧ TN y (aE a) (eW (aE a)) rd0 (aR a) ∧ TF x y ∧ y 49 8 = nI 0) NoT := by
  refine MM.of (by decide) (Nat.le_of_ble_eq_true rfl) ?_
  have y0 := lay_0
  have y43 := lay_43
  have y49 := lay_49
  refine r_aload_n dX9_asked_0 rfl (by rfl) ?_
  refine gf_X9_63 rfl dX9_asked_1 (by first | assumption | rfl) (by rfl) ?_
  refine r_aload_n dX9_asked_4 rfl (by rfl) ?_
  refine gf_X9_59 rfl dX9_asked_5 (by first | assumption | rfl) (by rfl) ?_
  refine r_callV c_X6_follow mv_X6_follow ml_X9_349 ⟨by decide, by decide⟩ dX9_asked_8 (by first | assumption | rfl) rfl rfl rfl (Nat.le_of_ble_eq_true rfl) (fun v9 x9 h9 => ?_)
  obtain ⟨rfl, h9⟩ := h9
  refine PW.xeq h9 ?_
  clear h9 x9
  refine PW.agr (ask_agr x) ?_
  refine r_aload_n dX9_asked_11 rfl (by rfl) ?_
  refine gf_X9_63 rfl dX9_asked_12 (by first | assumption | rfl) (by rfl) ?_
  refine r_aret rfl dX9_asked_15 ?_
  exact ⟨rfl, hC.asked, askX_tf x, rfl⟩
def oTold (a : AS) (v : Int32) : Except Nat Int32 := rq (inB v (nI 0) (nI 7)) (.ok (if v = nI 0 then nI (eN (aE a)) else if v = nI 1 then aR a 40 else if v = nI 2 then nI (cntA (aR a) (eN (aE a))) else if v = nI 3 then sumR (aR a) 25 (eN (aE a)) else if v = nI 4 then aR a 41 else if v = nI 5 then nI (aB a).length else if v = nI 6 then aRf a else eW (aE a)))
set_option maxHeartbeats 8000000 in
set_option maxRecDepth 20000 in
theorem f_told {a : AS} {x : XS} {v : Int32} (hC : RC x a) (hA : AI a) : ASK mX9_told [.ref 0, .int v] x a (oTold a v) := by
  refine MM.of (by decide) (Nat.le_of_ble_eq_true rfl) ?_
  have y0 := lay_0
  have y1 := lay_1
  have y3 := lay_3
  have y33 := lay_33
  have y43 := lay_43
  have y44 := lay_44
  refine r_aload_n dX9_told_0 rfl (by rfl) ?_
  refine r_iload_n dX9_told_1 rfl (by rfl) ?_
  refine r_iconst (v := nI 0) dX9_told_2 (by decide) ?_
  refine r_bipush (v := nI 7) dX9_told_3 (by decide) ?_
  refine r_callS c_X9_within ms_X9_within ml_X9_144 ⟨by decide, by decide⟩ dX9_told_5 rfl (Nat.le_of_ble_eq_true rfl) (fun v9 x9 h9 => ?_)
  obtain ⟨rfl, h9⟩ := h9
  refine PW.xeq h9 ?_
  clear h9 x9
  refine PW.caseB (fun q8 => ?_) (fun q8 => ?_)
  · refine r_callV c_require_t mv_X9_require ml_X9_148 ⟨by decide, by decide⟩ dX9_told_8 lay_0 rfl rfl rfl (Nat.le_of_ble_eq_true rfl) (fun v9 x9 h9 => ?_)
    obtain ⟨rfl, h9⟩ := h9
    refine PW.xeq h9 ?_
    clear h9 x9
    obtain ⟨k, _, hk, rfl⟩ := inB_is (lo := 0) (hi := 7) q8 (by decide) (by decide)
    refine r_iload_n dX9_told_11 rfl (by rfl) ?_
    rcases (show k = 0 ∨ k = 1 ∨ k = 2 ∨ k = 3 ∨ k = 4 ∨ k = 5 ∨ k = 6 ∨ k = 7 by omega) with rfl | rfl | rfl | rfl | rfl | rfl | rfl | rfl
    · refine r_tableIn (tgt := 56) (off := 44) dX9_told_12 (by decide +kernel) (by decide +kernel) (by decide +kernel) (by decide) ?_
      refine r_aload_n dX9_told_56 rfl (by rfl) ?_
      refine gf_X9_19 rfl dX9_told_57 (by first | assumption | rfl) (by rfl) ?_
      refine gf_X9_141 rfl dX9_told_60 (by first | assumption | rfl) (by rfl) ?_
      refine r_iretW rfl dX9_told_63 ?_
      refine ask_ok hC TF.rfl ?_
      rw [oTold, rq_t q8]
      first
        | exact congrArg Except.ok hC.1.1.symm
        | exact congrArg Except.ok (congrFun hC.2.1.1 _).symm
        | exact congrArg Except.ok hC.2.2.2.1.1.symm
        | exact congrArg Except.ok hC.2.2.2.2.2.2.1.symm
        | exact congrArg Except.ok hC.1.2.2.2.2.2.1.symm
        | (rw [← hC.2.1.1]; rfl)
    · refine r_tableIn (tgt := 64) (off := 52) dX9_told_12 (by decide +kernel) (by decide +kernel) (by decide +kernel) (by decide) ?_
      refine r_aload_n dX9_told_64 rfl (by rfl) ?_
      refine gf_X9_59 rfl dX9_told_65 (by first | assumption | rfl) (by rfl) ?_
      refine gf_X9_162 rfl dX9_told_68 (by first | assumption | rfl) (by rfl) ?_
      refine r_bipush (v := nI 40) dX9_told_71 (by decide) ?_
      refine r_ialdN dX9_told_73 (by first | assumption | rfl) (by omega) (by decide) ?_
      refine r_iretW rfl dX9_told_74 ?_
      refine ask_ok hC TF.rfl ?_
      rw [oTold, rq_t q8]
      first
        | exact congrArg Except.ok hC.1.1.symm
        | exact congrArg Except.ok (congrFun hC.2.1.1 _).symm
        | exact congrArg Except.ok hC.2.2.2.1.1.symm
        | exact congrArg Except.ok hC.2.2.2.2.2.2.1.symm
        | exact congrArg Except.ok hC.1.2.2.2.2.2.1.symm
        | (rw [← hC.2.1.1]; rfl)
    · refine r_tableIn (tgt := 75) (off := 63) dX9_told_12 (by decide +kernel) (by decide +kernel) (by decide +kernel) (by decide) ?_
      refine r_aload_n dX9_told_75 rfl (by rfl) ?_
      refine gf_X9_59 rfl dX9_told_76 (by first | assumption | rfl) (by rfl) ?_
      refine r_callV (c_X6_asleepCount (c0 := 43) (Or.inl rfl) hC.1.2.1 hC.1.1) mv_X6_asleepCount ml_X9_190 ⟨by decide, by decide⟩ dX9_told_79 (by first | assumption | rfl) rfl rfl rfl (Nat.le_of_ble_eq_true rfl) (fun v9 x9 h9 => ?_)
      obtain ⟨rfl, h9⟩ := h9
      refine PW.xeq h9 ?_
      clear h9 x9
      refine r_iretW rfl dX9_told_82 ?_
      refine ask_ok hC TF.rfl ?_
      rw [oTold, rq_t q8]
      first
        | exact congrArg Except.ok hC.1.1.symm
        | exact congrArg Except.ok (congrFun hC.2.1.1 _).symm
        | exact congrArg Except.ok hC.2.2.2.1.1.symm
        | exact congrArg Except.ok hC.2.2.2.2.2.2.1.symm
        | exact congrArg Except.ok hC.1.2.2.2.2.2.1.symm
        | (rw [← hC.2.1.1]; rfl)
    · refine r_tableIn (tgt := 83) (off := 71) dX9_told_12 (by decide +kernel) (by decide +kernel) (by decide +kernel) (by decide) ?_
      refine r_aload_n dX9_told_83 rfl (by rfl) ?_
      refine gf_X9_59 rfl dX9_told_84 (by first | assumption | rfl) (by rfl) ?_
      refine r_callV (c_X6_sleptByAll (c0 := 43) (Or.inl rfl) hC.1.2.1 hC.1.1) mv_X6_sleptByAll ml_X9_194 ⟨by decide, by decide⟩ dX9_told_87 (by first | assumption | rfl) rfl rfl rfl (Nat.le_of_ble_eq_true rfl) (fun v9 x9 h9 => ?_)
      obtain ⟨rfl, h9⟩ := h9
      refine PW.xeq h9 ?_
      clear h9 x9
      refine r_iretW rfl dX9_told_90 ?_
      refine ask_ok hC TF.rfl ?_
      rw [oTold, rq_t q8]
      first
        | exact congrArg Except.ok hC.1.1.symm
        | exact congrArg Except.ok (congrFun hC.2.1.1 _).symm
        | exact congrArg Except.ok hC.2.2.2.1.1.symm
        | exact congrArg Except.ok hC.2.2.2.2.2.2.1.symm
        | exact congrArg Except.ok hC.1.2.2.2.2.2.1.symm
        | (rw [← hC.2.1.1]; rfl)
    · refine r_tableIn (tgt := 91) (off := 79) dX9_told_12 (by decide +kernel) (by decide +kernel) (by decide +kernel) (by decide) ?_
      refine r_aload_n dX9_told_91 rfl (by rfl) ?_
      refine gf_X9_59 rfl dX9_told_92 (by first | assumption | rfl) (by rfl) ?_
      refine gf_X9_162 rfl dX9_told_95 (by first | assumption | rfl) (by rfl) ?_
      refine r_bipush (v := nI 41) dX9_told_98 (by decide) ?_
      refine r_ialdN dX9_told_100 (by first | assumption | rfl) (by omega) (by decide) ?_
      refine r_iretW rfl dX9_told_101 ?_
      refine ask_ok hC TF.rfl ?_
      rw [oTold, rq_t q8]
      first
        | exact congrArg Except.ok hC.1.1.symm
        | exact congrArg Except.ok (congrFun hC.2.1.1 _).symm
        | exact congrArg Except.ok hC.2.2.2.1.1.symm
        | exact congrArg Except.ok hC.2.2.2.2.2.2.1.symm
        | exact congrArg Except.ok hC.1.2.2.2.2.2.1.symm
        | (rw [← hC.2.1.1]; rfl)
    · refine r_tableIn (tgt := 102) (off := 90) dX9_told_12 (by decide +kernel) (by decide +kernel) (by decide +kernel) (by decide) ?_
      refine r_aload_n dX9_told_102 rfl (by rfl) ?_
      refine gf_X9_40 rfl dX9_told_103 (by first | assumption | rfl) (by rfl) ?_
      refine gf_X9_136 rfl dX9_told_106 (by first | assumption | rfl) (by rfl) ?_
      refine r_iretW rfl dX9_told_109 ?_
      refine ask_ok hC TF.rfl ?_
      rw [oTold, rq_t q8]
      first
        | exact congrArg Except.ok hC.1.1.symm
        | exact congrArg Except.ok (congrFun hC.2.1.1 _).symm
        | exact congrArg Except.ok hC.2.2.2.1.1.symm
        | exact congrArg Except.ok hC.2.2.2.2.2.2.1.symm
        | exact congrArg Except.ok hC.1.2.2.2.2.2.1.symm
        | (rw [← hC.2.1.1]; rfl)
    · refine r_tableIn (tgt := 110) (off := 98) dX9_told_12 (by decide +kernel) (by decide +kernel) (by decide +kernel) (by decide) ?_
      refine r_aload_n dX9_told_110 rfl (by rfl) ?_
      refine gf_X9_91 rfl dX9_told_111 (by first | assumption | rfl) (by rfl) ?_
      refine r_iretW rfl dX9_told_114 ?_
      refine ask_ok hC TF.rfl ?_
      rw [oTold, rq_t q8]
      first
        | exact congrArg Except.ok hC.1.1.symm
        | exact congrArg Except.ok (congrFun hC.2.1.1 _).symm
        | exact congrArg Except.ok hC.2.2.2.1.1.symm
        | exact congrArg Except.ok hC.2.2.2.2.2.2.1.symm
        | exact congrArg Except.ok hC.1.2.2.2.2.2.1.symm
        | (rw [← hC.2.1.1]; rfl)
    · refine r_tableOut (tgt := 115) dX9_told_12 (by decide +kernel) (by decide) ?_
      refine r_aload_n dX9_told_115 rfl (by rfl) ?_
      refine gf_X9_19 rfl dX9_told_116 (by first | assumption | rfl) (by rfl) ?_
      refine gf_X9_197 rfl dX9_told_119 (by first | assumption | rfl) (by rfl) ?_
      refine r_iretW rfl dX9_told_122 ?_
      refine ask_ok hC TF.rfl ?_
      rw [oTold, rq_t q8]
      first
        | exact congrArg Except.ok hC.1.1.symm
        | exact congrArg Except.ok (congrFun hC.2.1.1 _).symm
        | exact congrArg Except.ok hC.2.2.2.1.1.symm
        | exact congrArg Except.ok hC.2.2.2.2.2.2.1.symm
        | exact congrArg Except.ok hC.1.2.2.2.2.2.1.symm
        | (rw [← hC.2.1.1]; rfl)
  · exact r_callVT c_require_f mv_X9_require ml_X9_148 ⟨by decide, by decide⟩ dX9_told_8 lay_0 rfl rfl rfl (Nat.le_of_ble_eq_true rfl) ⟨by decide, by decide⟩ (fun E y h => by obtain ⟨rfl, e⟩ := h; exact ask_bad hC e (by rw [oTold, rq_f q8]))
def oSleeper (a : AS) (v w : Int32) : Except Nat Int32 := rqS (eN (aE a)) v (rq (inB w (nI 0) (nI 9)) (.ok (
  let p := v.toNatClampNeg
  if w = nI 0 then aR a (0 + p) else if w = nI 1 then eH (aE a) 1 p else if w = nI 2 then eH (aE a) 2 p else if w = nI 3 then aR a (5 + p) else if w = nI 4 then aR a (10 + p) else if w = nI 5 then aR a (15 + p) else if w = nI 6 then aR a (25 + p) else if w = nI 7 then aR a (30 + p) else if w = nI 8 then aR a (35 + p) else imax (nI 0) (eH (aE a) 7 p - aR a (25 + p)))))
set_option maxHeartbeats 8000000 in
set_option maxRecDepth 20000 in
theorem f_sleeper {a : AS} {x : XS} {v w : Int32} (hC : RC x a) (hA : AI a) : ASK mX9_sleeper [.ref 0, .int v, .int w] x a (oSleeper a v w) := by
  refine MM.of (by decide) (Nat.le_of_ble_eq_true rfl) ?_
  have y0 := lay_0
  have y3 := lay_3
  have y5 := lay_5
  have y6 := lay_6
  have y11 := lay_11
  have y43 := lay_43
  have y44 := lay_44
  refine r_aload_n dX9_sleeper_0 rfl (by rfl) ?_
  refine r_iload_n dX9_sleeper_1 rfl (by rfl) ?_
  by_cases q2 : nobody v (eN (aE a)) = true
  · exact r_callVT (c_rS_f hC.1.1 q2) mv_X9_requireSleeper ml_X9_200 ⟨by decide, by decide⟩ dX9_sleeper_2 lay_0 rfl rfl rfl (Nat.le_of_ble_eq_true rfl) ⟨by decide, by decide⟩ (fun E y h => by obtain ⟨rfl, e⟩ := h; exact ask_nob hC e (by rw [oSleeper, rqS_t q2]))
  · have q2 := Bool.eq_false_iff.mpr q2
    obtain ⟨p, hp, rfl⟩ := nobody_f hC.1.2.1 q2
    have hp5 : p < 5 := Nat.lt_of_lt_of_le hp hC.1.2.1
    refine r_callV (c_rS_t hC.1.1 hC.1.2.1 hp) mv_X9_requireSleeper ml_X9_200 ⟨by decide, by decide⟩ dX9_sleeper_2 lay_0 rfl rfl rfl (Nat.le_of_ble_eq_true rfl) (fun v9 x9 h9 => ?_)
    obtain ⟨rfl, h9⟩ := h9
    refine PW.xeq h9 ?_
    clear h9 x9
    refine r_aload_n dX9_sleeper_5 rfl (by rfl) ?_
    refine r_iload_n dX9_sleeper_6 rfl (by rfl) ?_
    refine r_iconst (v := nI 0) dX9_sleeper_7 (by decide) ?_
    refine r_bipush (v := nI 9) dX9_sleeper_8 (by decide) ?_
    refine r_callS c_X9_within ms_X9_within ml_X9_144 ⟨by decide, by decide⟩ dX9_sleeper_10 rfl (Nat.le_of_ble_eq_true rfl) (fun v9 x9 h9 => ?_)
    obtain ⟨rfl, h9⟩ := h9
    refine PW.xeq h9 ?_
    clear h9 x9
    refine PW.caseB (fun q13 => ?_) (fun q13 => ?_)
    · refine r_callV c_require_t mv_X9_require ml_X9_148 ⟨by decide, by decide⟩ dX9_sleeper_13 lay_0 rfl rfl rfl (Nat.le_of_ble_eq_true rfl) (fun v9 x9 h9 => ?_)
      obtain ⟨rfl, h9⟩ := h9
      refine PW.xeq h9 ?_
      clear h9 x9
      obtain ⟨k, _, hk, rfl⟩ := inB_is (lo := 0) (hi := 9) q13 (by decide) (by decide)
      refine r_iload_n dX9_sleeper_16 rfl (by rfl) ?_
      rcases (show k = 0 ∨ k = 1 ∨ k = 2 ∨ k = 3 ∨ k = 4 ∨ k = 5 ∨ k = 6 ∨ k = 7 ∨ k = 8 ∨ k = 9 by omega) with rfl | rfl | rfl | rfl | rfl | rfl | rfl | rfl | rfl | rfl
      · refine r_tableIn (tgt := 68) (off := 51) dX9_sleeper_17 (by decide +kernel) (by decide +kernel) (by decide +kernel) (by decide) ?_
        refine r_aload_n dX9_sleeper_68 rfl (by rfl) ?_
        refine gf_X9_59 rfl dX9_sleeper_69 (by first | assumption | rfl) (by rfl) ?_
        refine gf_X9_162 rfl dX9_sleeper_72 (by first | assumption | rfl) (by rfl) ?_
        refine r_iconst (v := nI 0) dX9_sleeper_75 (by decide) ?_
        refine r_iload_n dX9_sleeper_76 rfl (by rfl) ?_
        refine r_iaddN dX9_sleeper_77 ?_
        refine r_ialdN dX9_sleeper_78 (by first | assumption | rfl) (by omega) (by decide) ?_
        refine r_iretW rfl dX9_sleeper_79 ?_
        refine ask_ok hC TF.rfl ?_
        rw [oSleeper, rqS_f q2, rq_t q13]
        have r1 := hC.1.2.2.1 1 (by decide) p hp
        have r2 := hC.1.2.2.1 2 (by decide) p hp
        have r7 := hC.1.2.2.1 7 (by decide) p hp
        dsimp only
        rw [nI_clamp (by omega), ← hC.2.1.1]
        first
          | rfl
          | exact congrArg Except.ok r1.symm
          | exact congrArg Except.ok r2.symm
          | (rw [← r7]; rfl)
      · refine r_tableIn (tgt := 80) (off := 63) dX9_sleeper_17 (by decide +kernel) (by decide +kernel) (by decide +kernel) (by decide) ?_
        refine r_aload_n dX9_sleeper_80 rfl (by rfl) ?_
        refine gf_X9_19 rfl dX9_sleeper_81 (by first | assumption | rfl) (by rfl) ?_
        refine gf_X9_203 rfl dX9_sleeper_84 (by first | assumption | rfl) (by rfl) ?_
        refine r_iload_n dX9_sleeper_87 rfl (by rfl) ?_
        refine r_ialdN dX9_sleeper_88 (by first | assumption | rfl) (by omega) (by decide) ?_
        refine r_iretW rfl dX9_sleeper_89 ?_
        refine ask_ok hC TF.rfl ?_
        rw [oSleeper, rqS_f q2, rq_t q13]
        have r1 := hC.1.2.2.1 1 (by decide) p hp
        have r2 := hC.1.2.2.1 2 (by decide) p hp
        have r7 := hC.1.2.2.1 7 (by decide) p hp
        dsimp only
        rw [nI_clamp (by omega), ← hC.2.1.1]
        first
          | rfl
          | exact congrArg Except.ok r1.symm
          | exact congrArg Except.ok r2.symm
          | (rw [← r7]; rfl)
      · refine r_tableIn (tgt := 90) (off := 73) dX9_sleeper_17 (by decide +kernel) (by decide +kernel) (by decide +kernel) (by decide) ?_
        refine r_aload_n dX9_sleeper_90 rfl (by rfl) ?_
        refine gf_X9_19 rfl dX9_sleeper_91 (by first | assumption | rfl) (by rfl) ?_
        refine gf_X9_206 rfl dX9_sleeper_94 (by first | assumption | rfl) (by rfl) ?_
        refine r_iload_n dX9_sleeper_97 rfl (by rfl) ?_
        refine r_ialdN dX9_sleeper_98 (by first | assumption | rfl) (by omega) (by decide) ?_
        refine r_iretW rfl dX9_sleeper_99 ?_
        refine ask_ok hC TF.rfl ?_
        rw [oSleeper, rqS_f q2, rq_t q13]
        have r1 := hC.1.2.2.1 1 (by decide) p hp
        have r2 := hC.1.2.2.1 2 (by decide) p hp
        have r7 := hC.1.2.2.1 7 (by decide) p hp
        dsimp only
        rw [nI_clamp (by omega), ← hC.2.1.1]
        first
          | rfl
          | exact congrArg Except.ok r1.symm
          | exact congrArg Except.ok r2.symm
          | (rw [← r7]; rfl)
      · refine r_tableIn (tgt := 100) (off := 83) dX9_sleeper_17 (by decide +kernel) (by decide +kernel) (by decide +kernel) (by decide) ?_
        refine r_aload_n dX9_sleeper_100 rfl (by rfl) ?_
        refine gf_X9_59 rfl dX9_sleeper_101 (by first | assumption | rfl) (by rfl) ?_
        refine gf_X9_162 rfl dX9_sleeper_104 (by first | assumption | rfl) (by rfl) ?_
        refine r_iconst (v := nI 5) dX9_sleeper_107 (by decide) ?_
        refine r_iload_n dX9_sleeper_108 rfl (by rfl) ?_
        refine r_iaddN dX9_sleeper_109 ?_
        refine r_ialdN dX9_sleeper_110 (by first | assumption | rfl) (by omega) (by decide) ?_
        refine r_iretW rfl dX9_sleeper_111 ?_
        refine ask_ok hC TF.rfl ?_
        rw [oSleeper, rqS_f q2, rq_t q13]
        have r1 := hC.1.2.2.1 1 (by decide) p hp
        have r2 := hC.1.2.2.1 2 (by decide) p hp
        have r7 := hC.1.2.2.1 7 (by decide) p hp
        dsimp only
        rw [nI_clamp (by omega), ← hC.2.1.1]
        first
          | rfl
          | exact congrArg Except.ok r1.symm
          | exact congrArg Except.ok r2.symm
          | (rw [← r7]; rfl)
      · refine r_tableIn (tgt := 112) (off := 95) dX9_sleeper_17 (by decide +kernel) (by decide +kernel) (by decide +kernel) (by decide) ?_
        refine r_aload_n dX9_sleeper_112 rfl (by rfl) ?_
        refine gf_X9_59 rfl dX9_sleeper_113 (by first | assumption | rfl) (by rfl) ?_
        refine gf_X9_162 rfl dX9_sleeper_116 (by first | assumption | rfl) (by rfl) ?_
        refine r_bipush (v := nI 10) dX9_sleeper_119 (by decide) ?_
        refine r_iload_n dX9_sleeper_121 rfl (by rfl) ?_
        refine r_iaddN dX9_sleeper_122 ?_
        refine r_ialdN dX9_sleeper_123 (by first | assumption | rfl) (by omega) (by decide) ?_
        refine r_iretW rfl dX9_sleeper_124 ?_
        refine ask_ok hC TF.rfl ?_
        rw [oSleeper, rqS_f q2, rq_t q13]
        have r1 := hC.1.2.2.1 1 (by decide) p hp
        have r2 := hC.1.2.2.1 2 (by decide) p hp
        have r7 := hC.1.2.2.1 7 (by decide) p hp
        dsimp only
        rw [nI_clamp (by omega), ← hC.2.1.1]
        first
          | rfl
          | exact congrArg Except.ok r1.symm
          | exact congrArg Except.ok r2.symm
          | (rw [← r7]; rfl)
      · refine r_tableIn (tgt := 125) (off := 108) dX9_sleeper_17 (by decide +kernel) (by decide +kernel) (by decide +kernel) (by decide) ?_
        refine r_aload_n dX9_sleeper_125 rfl (by rfl) ?_
        refine gf_X9_59 rfl dX9_sleeper_126 (by first | assumption | rfl) (by rfl) ?_
        refine gf_X9_162 rfl dX9_sleeper_129 (by first | assumption | rfl) (by rfl) ?_
        refine r_bipush (v := nI 15) dX9_sleeper_132 (by decide) ?_
        refine r_iload_n dX9_sleeper_134 rfl (by rfl) ?_
        refine r_iaddN dX9_sleeper_135 ?_
        refine r_ialdN dX9_sleeper_136 (by first | assumption | rfl) (by omega) (by decide) ?_
        refine r_iretW rfl dX9_sleeper_137 ?_
        refine ask_ok hC TF.rfl ?_
        rw [oSleeper, rqS_f q2, rq_t q13]
        have r1 := hC.1.2.2.1 1 (by decide) p hp
        have r2 := hC.1.2.2.1 2 (by decide) p hp
        have r7 := hC.1.2.2.1 7 (by decide) p hp
        dsimp only
        rw [nI_clamp (by omega), ← hC.2.1.1]
        first
          | rfl
          | exact congrArg Except.ok r1.symm
          | exact congrArg Except.ok r2.symm
          | (rw [← r7]; rfl)
      · refine r_tableIn (tgt := 138) (off := 121) dX9_sleeper_17 (by decide +kernel) (by decide +kernel) (by decide +kernel) (by decide) ?_
        refine r_aload_n dX9_sleeper_138 rfl (by rfl) ?_
        refine gf_X9_59 rfl dX9_sleeper_139 (by first | assumption | rfl) (by rfl) ?_
        refine gf_X9_162 rfl dX9_sleeper_142 (by first | assumption | rfl) (by rfl) ?_
        refine r_bipush (v := nI 25) dX9_sleeper_145 (by decide) ?_
        refine r_iload_n dX9_sleeper_147 rfl (by rfl) ?_
        refine r_iaddN dX9_sleeper_148 ?_
        refine r_ialdN dX9_sleeper_149 (by first | assumption | rfl) (by omega) (by decide) ?_
        refine r_iretW rfl dX9_sleeper_150 ?_
        refine ask_ok hC TF.rfl ?_
        rw [oSleeper, rqS_f q2, rq_t q13]
        have r1 := hC.1.2.2.1 1 (by decide) p hp
        have r2 := hC.1.2.2.1 2 (by decide) p hp
        have r7 := hC.1.2.2.1 7 (by decide) p hp
        dsimp only
        rw [nI_clamp (by omega), ← hC.2.1.1]
        first
          | rfl
          | exact congrArg Except.ok r1.symm
          | exact congrArg Except.ok r2.symm
          | (rw [← r7]; rfl)
      · refine r_tableIn (tgt := 151) (off := 134) dX9_sleeper_17 (by decide +kernel) (by decide +kernel) (by decide +kernel) (by decide) ?_
        refine r_aload_n dX9_sleeper_151 rfl (by rfl) ?_
        refine gf_X9_59 rfl dX9_sleeper_152 (by first | assumption | rfl) (by rfl) ?_
        refine gf_X9_162 rfl dX9_sleeper_155 (by first | assumption | rfl) (by rfl) ?_
        refine r_bipush (v := nI 30) dX9_sleeper_158 (by decide) ?_
        refine r_iload_n dX9_sleeper_160 rfl (by rfl) ?_
        refine r_iaddN dX9_sleeper_161 ?_
        refine r_ialdN dX9_sleeper_162 (by first | assumption | rfl) (by omega) (by decide) ?_
        refine r_iretW rfl dX9_sleeper_163 ?_
        refine ask_ok hC TF.rfl ?_
        rw [oSleeper, rqS_f q2, rq_t q13]
        have r1 := hC.1.2.2.1 1 (by decide) p hp
        have r2 := hC.1.2.2.1 2 (by decide) p hp
        have r7 := hC.1.2.2.1 7 (by decide) p hp
        dsimp only
        rw [nI_clamp (by omega), ← hC.2.1.1]
        first
          | rfl
          | exact congrArg Except.ok r1.symm
          | exact congrArg Except.ok r2.symm
          | (rw [← r7]; rfl)
      · refine r_tableIn (tgt := 164) (off := 147) dX9_sleeper_17 (by decide +kernel) (by decide +kernel) (by decide +kernel) (by decide) ?_
        refine r_aload_n dX9_sleeper_164 rfl (by rfl) ?_
        refine gf_X9_59 rfl dX9_sleeper_165 (by first | assumption | rfl) (by rfl) ?_
        refine gf_X9_162 rfl dX9_sleeper_168 (by first | assumption | rfl) (by rfl) ?_
        refine r_bipush (v := nI 35) dX9_sleeper_171 (by decide) ?_
        refine r_iload_n dX9_sleeper_173 rfl (by rfl) ?_
        refine r_iaddN dX9_sleeper_174 ?_
        refine r_ialdN dX9_sleeper_175 (by first | assumption | rfl) (by omega) (by decide) ?_
        refine r_iretW rfl dX9_sleeper_176 ?_
        refine ask_ok hC TF.rfl ?_
        rw [oSleeper, rqS_f q2, rq_t q13]
        have r1 := hC.1.2.2.1 1 (by decide) p hp
        have r2 := hC.1.2.2.1 2 (by decide) p hp
        have r7 := hC.1.2.2.1 7 (by decide) p hp
        dsimp only
        rw [nI_clamp (by omega), ← hC.2.1.1]
        first
          | rfl
          | exact congrArg Except.ok r1.symm
          | exact congrArg Except.ok r2.symm
          | (rw [← r7]; rfl)
      · refine r_tableOut (tgt := 177) dX9_sleeper_17 (by decide +kernel) (by decide) ?_
        refine r_iconst (v := nI 0) dX9_sleeper_177 (by decide) ?_
        refine r_aload_n dX9_sleeper_178 rfl (by rfl) ?_
        refine gf_X9_19 rfl dX9_sleeper_179 (by first | assumption | rfl) (by rfl) ?_
        refine gf_X9_209 rfl dX9_sleeper_182 (by first | assumption | rfl) (by rfl) ?_
        refine r_iload_n dX9_sleeper_185 rfl (by rfl) ?_
        refine r_ialdN dX9_sleeper_186 (by first | assumption | rfl) (by omega) (by decide) ?_
        refine r_aload_n dX9_sleeper_187 rfl (by rfl) ?_
        refine gf_X9_59 rfl dX9_sleeper_188 (by first | assumption | rfl) (by rfl) ?_
        refine gf_X9_162 rfl dX9_sleeper_191 (by first | assumption | rfl) (by rfl) ?_
        refine r_bipush (v := nI 25) dX9_sleeper_194 (by decide) ?_
        refine r_iload_n dX9_sleeper_196 rfl (by rfl) ?_
        refine r_iaddN dX9_sleeper_197 ?_
        refine r_ialdN dX9_sleeper_198 (by first | assumption | rfl) (by omega) (by decide) ?_
        refine r_isub dX9_sleeper_199 ?_
        refine r_callS c_max ms_J9_max_7cf53 ml_X9_212 ⟨by decide, by decide⟩ dX9_sleeper_200 rfl (Nat.le_of_ble_eq_true rfl) (fun v9 x9 h9 => ?_)
        obtain ⟨rfl, h9⟩ := h9
        refine PW.xeq h9 ?_
        clear h9 x9
        refine r_iretW rfl dX9_sleeper_203 ?_
        refine ask_ok hC TF.rfl ?_
        rw [oSleeper, rqS_f q2, rq_t q13]
        have r1 := hC.1.2.2.1 1 (by decide) p hp
        have r2 := hC.1.2.2.1 2 (by decide) p hp
        have r7 := hC.1.2.2.1 7 (by decide) p hp
        dsimp only
        rw [nI_clamp (by omega), ← hC.2.1.1]
        first
          | rfl
          | exact congrArg Except.ok r1.symm
          | exact congrArg Except.ok r2.symm
          | (rw [← r7]; rfl)
    · exact r_callVT c_require_f mv_X9_require ml_X9_148 ⟨by decide, by decide⟩ dX9_sleeper_13 lay_0 rfl rfl rfl (Nat.le_of_ble_eq_true rfl) ⟨by decide, by decide⟩ (fun E y h => by obtain ⟨rfl, e⟩ := h; exact ask_bad hC e (by rw [oSleeper, rqS_f q2, rq_f q13]))
def oNoise (a : AS) (v : Int32) : Except Nat Int32 := rqS (eN (aE a)) v (.ok (heaP (aE a) (eW (aE a)) (nI 0) (aR a) v.toNatClampNeg))
def oLoud (a : AS) (v : Int32) : Except Nat Int32 := rqS (eN (aE a)) v (.ok (louP (aE a) (aR a) v.toNatClampNeg))
def oWould (a : AS) (v1 v2 v3 v4 v5 : Int32) : Except Nat Int32 := rq (inB v1 (nI 0) (nI 9)) (rq (inB v2 (nI 0) (nI 9)) (rq (inB v3 (nI 0) (nI 9)) (rq (inB v4 (nI 0) (nI 9)) (rq (inB v5 (nI 0) (nI 99)) (.ok (bnd (LV (eL (aE a)) (fct v1 v2 v3 v4 v5 (nI 0) (nI 0) (nI 0) (nI 0)))))))))
def oClock (a : AS) (v : Int32) : Except Nat Int32 := rq (inB v (nI 0) (nI 240)) (.ok (eC (aE a) (v.toNatClampNeg % 60)))
def oSlept (a : AS) (v : Int32) : Except Nat Int32 := rq (inB v (nI 0) (nI 240)) (.ok (sumR (itP (aE a) (eW (aE a)) rd0 (aR a) v.toNatClampNeg) 25 (eN (aE a)) - sumR (aR a) 25 (eN (aE a))))
def oSleeps (a : AS) (v w : Int32) : Except Nat Int32 := rqS (eN (aE a)) v (rq (inB w (nI 0) (nI 240)) (.ok (itP (aE a) (eW (aE a)) rd0 (aR a) w.toNatClampNeg (25 + v.toNatClampNeg) - aR a (25 + v.toNatClampNeg))))
def oFault (a : AS) : Except Nat Int32 := .ok (aP a)
def oStatus (a : AS) (v : Int32) : Except Nat Int32 := .ok (if v = nI 0 then aU a else if v = nI 1 then aX a else -1)
def oCount (a : AS) (v : Int32) : Except Nat Int32 := .ok (if v = nI 0 then nI (aIn a) else if v = nI 1 then nI (aH a) else if v = nI 2 then nI (aWn a) else -1)
set_option maxHeartbeats 8000000 in
set_option maxRecDepth 20000 in
theorem f_noise {a : AS} {x : XS} {v : Int32} (hC : RC x a) (hA : AI a) : ASK mX9_noise [.ref 0, .int v] x a (oNoise a v) := by
  refine MM.of (by decide) (Nat.le_of_ble_eq_true rfl) ?_
  have y0 := lay_0
  have y49 := lay_49
  have y53 := lay_53
  obtain ⟨t, ht2, ht⟩ := hA.t
  refine r_aload_n dX9_noise_0 rfl (by rfl) ?_
  refine r_iload_n dX9_noise_1 rfl (by rfl) ?_
  by_cases q2 : nobody v (eN (aE a)) = true
  · exact r_callVT (c_rS_f hC.1.1 q2) mv_X9_requireSleeper ml_X9_200 ⟨by decide, by decide⟩ dX9_noise_2 lay_0 rfl rfl rfl (Nat.le_of_ble_eq_true rfl) ⟨by decide, by decide⟩ (fun E y h => by obtain ⟨rfl, e⟩ := h; exact ask_nob hC e (by rw [oNoise, rqS_t q2]))
  · have q2 := Bool.eq_false_iff.mpr q2
    obtain ⟨p, hp, rfl⟩ := nobody_f hC.1.2.1 q2
    have hp5 : p < 5 := Nat.lt_of_lt_of_le hp hC.1.2.1
    refine r_callV (c_rS_t hC.1.1 hC.1.2.1 hp) mv_X9_requireSleeper ml_X9_200 ⟨by decide, by decide⟩ dX9_noise_2 lay_0 rfl rfl rfl (Nat.le_of_ble_eq_true rfl) (fun v9 x9 h9 => ?_)
    obtain ⟨rfl, h9⟩ := h9
    refine PW.xeq h9 ?_
    clear h9 x9
    refine r_aload_n dX9_noise_5 rfl (by rfl) ?_
    refine r_callV (c_asked hC) mv_X9_asked ml_X9_218 ⟨by decide, by decide⟩ dX9_noise_6 (by first | assumption | rfl) rfl rfl rfl (Nat.le_of_ble_eq_true rfl) (fun v9 y h9 => ?_)
    obtain ⟨rfl, T0, F0, c0⟩ := h9
    refine r_astore_n dX9_noise_9 rfl (by decide) ?_
    refine r_aload_n dX9_noise_10 rfl (by rfl) ?_
    refine r_iconst (v := nI 0) dX9_noise_11 (by decide) ?_
    refine r_callV (t_hearAll T0 ht ht2) mv_X6_hearAll ml_X9_222 ⟨by decide, by decide⟩ dX9_noise_12 (by first | assumption | rfl) rfl rfl rfl (Nat.le_of_ble_eq_true rfl) (fun v9 z h9 => ?_)
    obtain ⟨rfl, T1, hh, _, F1⟩ := h9
    refine r_aload_n dX9_noise_15 rfl (by rfl) ?_
    refine gf_X9_225 rfl dX9_noise_16 (by first | assumption | rfl) (by rfl) ?_
    refine r_iload_n dX9_noise_19 rfl (by rfl) ?_
    refine r_ialdN dX9_noise_20 (by first | assumption | rfl) (by omega) (by decide) ?_
    refine r_iretW rfl dX9_noise_21 ?_
    refine ask_ok hC (F0.trans F1) ?_
    rw [oNoise, rqS_f q2, nI_clamp (by omega)]
    exact congrArg Except.ok (hh p hp).symm
set_option maxHeartbeats 8000000 in
set_option maxRecDepth 20000 in
theorem f_loud {a : AS} {x : XS} {v : Int32} (hC : RC x a) (hA : AI a) : ASK mX9_loud [.ref 0, .int v] x a (oLoud a v) := by
  refine MM.of (by decide) (Nat.le_of_ble_eq_true rfl) ?_
  have y0 := lay_0
  have y49 := lay_49
  refine r_aload_n dX9_loud_0 rfl (by rfl) ?_
  refine r_iload_n dX9_loud_1 rfl (by rfl) ?_
  by_cases q2 : nobody v (eN (aE a)) = true
  · exact r_callVT (c_rS_f hC.1.1 q2) mv_X9_requireSleeper ml_X9_200 ⟨by decide, by decide⟩ dX9_loud_2 lay_0 rfl rfl rfl (Nat.le_of_ble_eq_true rfl) ⟨by decide, by decide⟩ (fun E y h => by obtain ⟨rfl, e⟩ := h; exact ask_nob hC e (by rw [oLoud, rqS_t q2]))
  · have q2 := Bool.eq_false_iff.mpr q2
    obtain ⟨p, hp, rfl⟩ := nobody_f hC.1.2.1 q2
    have hp5 : p < 5 := Nat.lt_of_lt_of_le hp hC.1.2.1
    refine r_callV (c_rS_t hC.1.1 hC.1.2.1 hp) mv_X9_requireSleeper ml_X9_200 ⟨by decide, by decide⟩ dX9_loud_2 lay_0 rfl rfl rfl (Nat.le_of_ble_eq_true rfl) (fun v9 x9 h9 => ?_)
    obtain ⟨rfl, h9⟩ := h9
    refine PW.xeq h9 ?_
    clear h9 x9
    refine r_aload_n dX9_loud_5 rfl (by rfl) ?_
    refine r_callV (c_asked hC) mv_X9_asked ml_X9_218 ⟨by decide, by decide⟩ dX9_loud_6 (by first | assumption | rfl) rfl rfl rfl (Nat.le_of_ble_eq_true rfl) (fun v9 y h9 => ?_)
    obtain ⟨rfl, T0, F0, c0⟩ := h9
    refine r_iload_n dX9_loud_9 rfl (by rfl) ?_
    refine r_callV (t_loudOf T0 hp) mv_X6_loudOf ml_X9_228 ⟨by decide, by decide⟩ dX9_loud_10 (by first | assumption | rfl) rfl rfl rfl (Nat.le_of_ble_eq_true rfl) (fun v9 z h9 => ?_)
    obtain ⟨rfl, F1⟩ := h9
    refine r_iretW rfl dX9_loud_13 ?_
    refine ask_ok hC (F0.trans F1) ?_
    rw [oLoud, rqS_f q2, nI_clamp (by omega)]
set_option maxHeartbeats 8000000 in
set_option maxRecDepth 20000 in
theorem f_would {a : AS} {x : XS} {v1 v2 v3 v4 v5 : Int32} (hC : RC x a) (hA : AI a) : ASK mX9_would [.ref 0, .int v1, .int v2, .int v3, .int v4, .int v5] x a (oWould a v1 v2 v3 v4 v5) := by
  refine MM.of (by decide) (Nat.le_of_ble_eq_true rfl) ?_
  have y0 := lay_0
  have y49 := lay_49
  refine r_aload_n dX9_would_0 rfl (by rfl) ?_
  refine r_iload_n dX9_would_1 rfl (by rfl) ?_
  refine r_iconst (v := nI 0) dX9_would_2 (by decide) ?_
  refine r_bipush (v := nI 9) dX9_would_3 (by decide) ?_
  refine r_callS c_X9_within ms_X9_within ml_X9_144 ⟨by decide, by decide⟩ dX9_would_5 rfl (Nat.le_of_ble_eq_true rfl) (fun v9 x9 h9 => ?_)
  obtain ⟨rfl, h9⟩ := h9
  refine PW.xeq h9 ?_
  clear h9 x9
  refine r_if_eqB (tgt := 35) dX9_would_8 (by decide) (fun h8 => ?_) (fun h8 => ?_)
  · refine r_iconst (v := nI 0) dX9_would_35 (by decide) ?_
    refine PW.topi bI_f.symm ?_
    exact r_callVT c_require_f mv_X9_require ml_X9_148 ⟨by decide, by decide⟩ dX9_would_36 lay_0 rfl rfl rfl (Nat.le_of_ble_eq_true rfl) ⟨by decide, by decide⟩ (fun E y h => by obtain ⟨rfl, e⟩ := h; exact ask_bad hC e (by rw [oWould, rq_f h8]))
  · refine r_iload_n dX9_would_11 rfl (by rfl) ?_
    refine r_iconst (v := nI 0) dX9_would_12 (by decide) ?_
    refine r_bipush (v := nI 9) dX9_would_13 (by decide) ?_
    refine r_callS c_X9_within ms_X9_within ml_X9_144 ⟨by decide, by decide⟩ dX9_would_15 rfl (Nat.le_of_ble_eq_true rfl) (fun v9 x9 h9 => ?_)
    obtain ⟨rfl, h9⟩ := h9
    refine PW.xeq h9 ?_
    clear h9 x9
    refine r_if_eqB (tgt := 35) dX9_would_18 (by decide) (fun h18 => ?_) (fun h18 => ?_)
    · refine r_iconst (v := nI 0) dX9_would_35 (by decide) ?_
      refine PW.topi bI_f.symm ?_
      exact r_callVT c_require_f mv_X9_require ml_X9_148 ⟨by decide, by decide⟩ dX9_would_36 lay_0 rfl rfl rfl (Nat.le_of_ble_eq_true rfl) ⟨by decide, by decide⟩ (fun E y h => by obtain ⟨rfl, e⟩ := h; exact ask_bad hC e (by rw [oWould, rq_t h8, rq_f h18]))
    · refine r_iload_n dX9_would_21 rfl (by rfl) ?_
      refine r_iconst (v := nI 0) dX9_would_22 (by decide) ?_
      refine r_bipush (v := nI 9) dX9_would_23 (by decide) ?_
      refine r_callS c_X9_within ms_X9_within ml_X9_144 ⟨by decide, by decide⟩ dX9_would_25 rfl (Nat.le_of_ble_eq_true rfl) (fun v9 x9 h9 => ?_)
      obtain ⟨rfl, h9⟩ := h9
      refine PW.xeq h9 ?_
      clear h9 x9
      refine r_if_eqB (tgt := 35) dX9_would_28 (by decide) (fun h28 => ?_) (fun h28 => ?_)
      · refine r_iconst (v := nI 0) dX9_would_35 (by decide) ?_
        refine PW.topi bI_f.symm ?_
        exact r_callVT c_require_f mv_X9_require ml_X9_148 ⟨by decide, by decide⟩ dX9_would_36 lay_0 rfl rfl rfl (Nat.le_of_ble_eq_true rfl) ⟨by decide, by decide⟩ (fun E y h => by obtain ⟨rfl, e⟩ := h; exact ask_bad hC e (by rw [oWould, rq_t h8, rq_t h18, rq_f h28]))
      · refine r_iconst (v := nI 1) dX9_would_31 (by decide) ?_
        refine r_goto (tgt := 36) dX9_would_32 (by decide) ?_
        refine PW.topi bI_t.symm ?_
        refine r_callV c_require_t mv_X9_require ml_X9_148 ⟨by decide, by decide⟩ dX9_would_36 lay_0 rfl rfl rfl (Nat.le_of_ble_eq_true rfl) (fun v9 x9 h9 => ?_)
        obtain ⟨rfl, h9⟩ := h9
        refine PW.xeq h9 ?_
        clear h9 x9
        refine r_aload_n dX9_would_39 rfl (by rfl) ?_
        refine r_iload dX9_would_40 (by rfl) ?_
        refine r_iconst (v := nI 0) dX9_would_42 (by decide) ?_
        refine r_bipush (v := nI 9) dX9_would_43 (by decide) ?_
        refine r_callS c_X9_within ms_X9_within ml_X9_144 ⟨by decide, by decide⟩ dX9_would_45 rfl (Nat.le_of_ble_eq_true rfl) (fun v9 x9 h9 => ?_)
        obtain ⟨rfl, h9⟩ := h9
        refine PW.xeq h9 ?_
        clear h9 x9
        refine r_if_eqB (tgt := 66) dX9_would_48 (by decide) (fun h48 => ?_) (fun h48 => ?_)
        · refine r_iconst (v := nI 0) dX9_would_66 (by decide) ?_
          refine PW.topi bI_f.symm ?_
          exact r_callVT c_require_f mv_X9_require ml_X9_148 ⟨by decide, by decide⟩ dX9_would_67 lay_0 rfl rfl rfl (Nat.le_of_ble_eq_true rfl) ⟨by decide, by decide⟩ (fun E y h => by obtain ⟨rfl, e⟩ := h; exact ask_bad hC e (by rw [oWould, rq_t h8, rq_t h18, rq_t h28, rq_f h48]))
        · refine r_iload dX9_would_51 (by rfl) ?_
          refine r_iconst (v := nI 0) dX9_would_53 (by decide) ?_
          refine r_bipush (v := nI 99) dX9_would_54 (by decide) ?_
          refine r_callS c_X9_within ms_X9_within ml_X9_144 ⟨by decide, by decide⟩ dX9_would_56 rfl (Nat.le_of_ble_eq_true rfl) (fun v9 x9 h9 => ?_)
          obtain ⟨rfl, h9⟩ := h9
          refine PW.xeq h9 ?_
          clear h9 x9
          refine r_if_eqB (tgt := 66) dX9_would_59 (by decide) (fun h59 => ?_) (fun h59 => ?_)
          · refine r_iconst (v := nI 0) dX9_would_66 (by decide) ?_
            refine PW.topi bI_f.symm ?_
            exact r_callVT c_require_f mv_X9_require ml_X9_148 ⟨by decide, by decide⟩ dX9_would_67 lay_0 rfl rfl rfl (Nat.le_of_ble_eq_true rfl) ⟨by decide, by decide⟩ (fun E y h => by obtain ⟨rfl, e⟩ := h; exact ask_bad hC e (by rw [oWould, rq_t h8, rq_t h18, rq_t h28, rq_t h48, rq_f h59]))
          · refine r_iconst (v := nI 1) dX9_would_62 (by decide) ?_
            refine r_goto (tgt := 67) dX9_would_63 (by decide) ?_
            refine PW.topi bI_t.symm ?_
            refine r_callV c_require_t mv_X9_require ml_X9_148 ⟨by decide, by decide⟩ dX9_would_67 lay_0 rfl rfl rfl (Nat.le_of_ble_eq_true rfl) (fun v9 x9 h9 => ?_)
            obtain ⟨rfl, h9⟩ := h9
            refine PW.xeq h9 ?_
            clear h9 x9
            refine r_aload_n dX9_would_70 rfl (by rfl) ?_
            refine gf_X9_63 rfl dX9_would_71 (by first | assumption | rfl) (by rfl) ?_
            refine r_iload_n dX9_would_74 rfl (by rfl) ?_
            refine r_iload_n dX9_would_75 rfl (by rfl) ?_
            refine r_iload_n dX9_would_76 rfl (by rfl) ?_
            refine r_iload dX9_would_77 (by rfl) ?_
            refine r_iload dX9_would_79 (by rfl) ?_
            refine r_callV (t_loudBy hC.1) mv_X6_loudBy ml_X9_232 ⟨by decide, by decide⟩ dX9_would_81 (by first | assumption | rfl) rfl rfl rfl (Nat.le_of_ble_eq_true rfl) (fun v9 z h9 => ?_)
            obtain ⟨rfl, F1⟩ := h9
            refine r_iretW rfl dX9_would_84 ?_
            refine ask_ok hC F1 ?_
            rw [oWould, rq_t h8, rq_t h18, rq_t h28, rq_t h48, rq_t h59]
set_option maxHeartbeats 8000000 in
set_option maxRecDepth 20000 in
theorem f_clock {a : AS} {x : XS} {v : Int32} (hC : RC x a) (hA : AI a) : ASK mX9_clock [.ref 0, .int v] x a (oClock a v) := by
  refine MM.of (by decide) (Nat.le_of_ble_eq_true rfl) ?_
  have y0 := lay_0
  have y3 := lay_3
  refine r_aload_n dX9_clock_0 rfl (by rfl) ?_
  refine r_iload_n dX9_clock_1 rfl (by rfl) ?_
  refine r_iconst (v := nI 0) dX9_clock_2 (by decide) ?_
  refine r_sipush (v := nI 240) dX9_clock_3 (by decide) ?_
  refine r_callS c_X9_within ms_X9_within ml_X9_144 ⟨by decide, by decide⟩ dX9_clock_6 rfl (Nat.le_of_ble_eq_true rfl) (fun v9 x9 h9 => ?_)
  obtain ⟨rfl, h9⟩ := h9
  refine PW.xeq h9 ?_
  clear h9 x9
  refine PW.caseB (fun q9 => ?_) (fun q9 => ?_)
  · refine r_callV c_require_t mv_X9_require ml_X9_148 ⟨by decide, by decide⟩ dX9_clock_9 lay_0 rfl rfl rfl (Nat.le_of_ble_eq_true rfl) (fun v9 x9 h9 => ?_)
    obtain ⟨rfl, h9⟩ := h9
    refine PW.xeq h9 ?_
    clear h9 x9
    obtain ⟨k, _, hk, rfl⟩ := inB_is (lo := 0) (hi := 240) q9 (by decide) (by decide)
    refine r_aload_n dX9_clock_12 rfl (by rfl) ?_
    refine gf_X9_19 rfl dX9_clock_13 (by first | assumption | rfl) (by rfl) ?_
    refine r_iload_n dX9_clock_16 rfl (by rfl) ?_
    refine r_callV (c_X3_strikesIn (by omega)) mv_X3_strikesIn ml_X9_236 ⟨by decide, by decide⟩ dX9_clock_17 (by first | assumption | rfl) rfl rfl rfl (Nat.le_of_ble_eq_true rfl) (fun v9 x9 h9 => ?_)
    obtain ⟨rfl, h9⟩ := h9
    refine PW.xeq h9 ?_
    clear h9 x9
    refine r_iretW rfl dX9_clock_20 ?_
    refine ask_ok hC TF.rfl ?_
    rw [oClock, rq_t q9, nI_clamp (by omega)]
    exact congrArg Except.ok (hC.1.2.2.2.1 _ (by omega)).symm
  · exact r_callVT c_require_f mv_X9_require ml_X9_148 ⟨by decide, by decide⟩ dX9_clock_9 lay_0 rfl rfl rfl (Nat.le_of_ble_eq_true rfl) ⟨by decide, by decide⟩ (fun E y h => by obtain ⟨rfl, e⟩ := h; exact ask_bad hC e (by rw [oClock, rq_f q9]))
set_option maxHeartbeats 8000000 in
set_option maxRecDepth 20000 in
theorem f_slept {a : AS} {x : XS} {v : Int32} (hC : RC x a) (hA : AI a) : ASK mX9_slept [.ref 0, .int v] x a (oSlept a v) := by
  refine MM.of (by decide) (Nat.le_of_ble_eq_true rfl) ?_
  have y0 := lay_0
  have y49 := lay_49
  obtain ⟨t, ht2, ht⟩ := hA.t
  refine r_aload_n dX9_slept_0 rfl (by rfl) ?_
  refine r_iload_n dX9_slept_1 rfl (by rfl) ?_
  refine r_iconst (v := nI 0) dX9_slept_2 (by decide) ?_
  refine r_sipush (v := nI 240) dX9_slept_3 (by decide) ?_
  refine r_callS c_X9_within ms_X9_within ml_X9_144 ⟨by decide, by decide⟩ dX9_slept_6 rfl (Nat.le_of_ble_eq_true rfl) (fun v9 x9 h9 => ?_)
  obtain ⟨rfl, h9⟩ := h9
  refine PW.xeq h9 ?_
  clear h9 x9
  refine PW.caseB (fun q9 => ?_) (fun q9 => ?_)
  · refine r_callV c_require_t mv_X9_require ml_X9_148 ⟨by decide, by decide⟩ dX9_slept_9 lay_0 rfl rfl rfl (Nat.le_of_ble_eq_true rfl) (fun v9 x9 h9 => ?_)
    obtain ⟨rfl, h9⟩ := h9
    refine PW.xeq h9 ?_
    clear h9 x9
    obtain ⟨k, _, hk, rfl⟩ := inB_is (lo := 0) (hi := 240) q9 (by decide) (by decide)
    refine r_aload_n dX9_slept_12 rfl (by rfl) ?_
    refine r_callV (c_asked hC) mv_X9_asked ml_X9_218 ⟨by decide, by decide⟩ dX9_slept_13 (by first | assumption | rfl) rfl rfl rfl (Nat.le_of_ble_eq_true rfl) (fun v9 y h9 => ?_)
    obtain ⟨rfl, T0, F0, c0⟩ := h9
    refine r_iload_n dX9_slept_16 rfl (by rfl) ?_
    refine r_callV (t_sleptInNext T0 ht ht2 (by omega)) mv_X6_sleptInNext ml_X9_249 ⟨by decide, by decide⟩ dX9_slept_17 (by first | assumption | rfl) rfl rfl rfl (Nat.le_of_ble_eq_true rfl) (fun v9 z h9 => ?_)
    obtain ⟨rfl, T1, F1⟩ := h9
    refine r_iretW rfl dX9_slept_20 ?_
    refine ask_ok hC (F0.trans F1) ?_
    rw [oSlept, rq_t q9, nI_clamp (by omega)]
  · exact r_callVT c_require_f mv_X9_require ml_X9_148 ⟨by decide, by decide⟩ dX9_slept_9 lay_0 rfl rfl rfl (Nat.le_of_ble_eq_true rfl) ⟨by decide, by decide⟩ (fun E y h => by obtain ⟨rfl, e⟩ := h; exact ask_bad hC e (by rw [oSlept, rq_f q9]))
set_option maxHeartbeats 8000000 in
set_option maxRecDepth 20000 in
theorem f_sleeps {a : AS} {x : XS} {v w : Int32} (hC : RC x a) (hA : AI a) : ASK mX9_sleeps [.ref 0, .int v, .int w] x a (oSleeps a v w) := by
  refine MM.of (by decide) (Nat.le_of_ble_eq_true rfl) ?_
  have y0 := lay_0
  have y49 := lay_49
  obtain ⟨t, ht2, ht⟩ := hA.t
  refine r_aload_n dX9_sleeps_0 rfl (by rfl) ?_
  refine r_iload_n dX9_sleeps_1 rfl (by rfl) ?_
  by_cases q2 : nobody v (eN (aE a)) = true
  · exact r_callVT (c_rS_f hC.1.1 q2) mv_X9_requireSleeper ml_X9_200 ⟨by decide, by decide⟩ dX9_sleeps_2 lay_0 rfl rfl rfl (Nat.le_of_ble_eq_true rfl) ⟨by decide, by decide⟩ (fun E y h => by obtain ⟨rfl, e⟩ := h; exact ask_nob hC e (by rw [oSleeps, rqS_t q2]))
  · have q2 := Bool.eq_false_iff.mpr q2
    obtain ⟨p, hp, rfl⟩ := nobody_f hC.1.2.1 q2
    have hp5 : p < 5 := Nat.lt_of_lt_of_le hp hC.1.2.1
    refine r_callV (c_rS_t hC.1.1 hC.1.2.1 hp) mv_X9_requireSleeper ml_X9_200 ⟨by decide, by decide⟩ dX9_sleeps_2 lay_0 rfl rfl rfl (Nat.le_of_ble_eq_true rfl) (fun v9 x9 h9 => ?_)
    obtain ⟨rfl, h9⟩ := h9
    refine PW.xeq h9 ?_
    clear h9 x9
    refine r_aload_n dX9_sleeps_5 rfl (by rfl) ?_
    refine r_iload_n dX9_sleeps_6 rfl (by rfl) ?_
    refine r_iconst (v := nI 0) dX9_sleeps_7 (by decide) ?_
    refine r_sipush (v := nI 240) dX9_sleeps_8 (by decide) ?_
    refine r_callS c_X9_within ms_X9_within ml_X9_144 ⟨by decide, by decide⟩ dX9_sleeps_11 rfl (Nat.le_of_ble_eq_true rfl) (fun v9 x9 h9 => ?_)
    obtain ⟨rfl, h9⟩ := h9
    refine PW.xeq h9 ?_
    clear h9 x9
    refine PW.caseB (fun q14 => ?_) (fun q14 => ?_)
    · refine r_callV c_require_t mv_X9_require ml_X9_148 ⟨by decide, by decide⟩ dX9_sleeps_14 lay_0 rfl rfl rfl (Nat.le_of_ble_eq_true rfl) (fun v9 x9 h9 => ?_)
      obtain ⟨rfl, h9⟩ := h9
      refine PW.xeq h9 ?_
      clear h9 x9
      obtain ⟨k, _, hk, rfl⟩ := inB_is (lo := 0) (hi := 240) q14 (by decide) (by decide)
      refine r_aload_n dX9_sleeps_17 rfl (by rfl) ?_
      refine r_callV (c_asked hC) mv_X9_asked ml_X9_218 ⟨by decide, by decide⟩ dX9_sleeps_18 (by first | assumption | rfl) rfl rfl rfl (Nat.le_of_ble_eq_true rfl) (fun v9 y h9 => ?_)
      obtain ⟨rfl, T0, F0, c0⟩ := h9
      refine r_iload_n dX9_sleeps_21 rfl (by rfl) ?_
      refine r_iload_n dX9_sleeps_22 rfl (by rfl) ?_
      refine r_callV (t_oneSlept T0 ht ht2 (by omega) hp5) mv_X6_oneSleptInNext ml_X9_252 ⟨by decide, by decide⟩ dX9_sleeps_23 (by first | assumption | rfl) rfl rfl rfl (Nat.le_of_ble_eq_true rfl) (fun v9 z h9 => ?_)
      obtain ⟨rfl, T1, F1⟩ := h9
      refine r_iretW rfl dX9_sleeps_26 ?_
      refine ask_ok hC (F0.trans F1) ?_
      rw [oSleeps, rqS_f q2, rq_t q14, nI_clamp (by omega), nI_clamp (by omega)]
    · exact r_callVT c_require_f mv_X9_require ml_X9_148 ⟨by decide, by decide⟩ dX9_sleeps_14 lay_0 rfl rfl rfl (Nat.le_of_ble_eq_true rfl) ⟨by decide, by decide⟩ (fun E y h => by obtain ⟨rfl, e⟩ := h; exact ask_bad hC e (by rw [oSleeps, rqS_f q2, rq_f q14]))
set_option maxHeartbeats 8000000 in
set_option maxRecDepth 20000 in
theorem f_fault {a : AS} {x : XS} (hC : RC x a) (hA : AI a) : ASK mX9_fault [.ref 0] x a (oFault a) := by
  refine MM.of (by decide) (Nat.le_of_ble_eq_true rfl) ?_
  have y0 := lay_0
  have y1 := lay_1
  refine r_aload_n dX9_fault_0 rfl (by rfl) ?_
  refine gf_X9_10 rfl dX9_fault_1 (by first | assumption | rfl) (by rfl) ?_
  refine gf_X9_184 rfl dX9_fault_4 (by first | assumption | rfl) (by rfl) ?_
  refine r_iretW rfl dX9_fault_7 ?_
  exact ask_ok hC TF.rfl (congrArg Except.ok hC.2.2.1.2.2.2.symm)
