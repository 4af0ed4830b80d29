/-! THE REFERENCE: what was heard; the doctor; counts -/
theorem EO.tired {E : NE} (h : EO E) {p : Nat} (hp : p < eN E) : ∃ k, k ≤ 60 ∧ eH E 0 p = nI k := (h.2.1 p hp).1
def hdT (E : NE) (p m : Nat) : Int32 := imax (nI 0) (eH E 0 p - nI m)
theorem hdT_le {E : NE} {p m k : Nat} (h : eH E 0 p = nI k) (hk : k ≤ 60) (hm : m < 2 ^ 30) (hl : nI k ≤ nI m) : hdT E p m = nI 0 := by
  unfold hdT
  have := (nI_leI (by omega) (by omega)).mp hl
  rw [h, imax0, if_pos]
  by_cases e : k = m
  · rw [e, pk_sub (Nat.le_refl _), Nat.sub_self]; decide +kernel
  · exact Int32.le_of_lt (pk_sneg (by omega) (by omega))
theorem hdT_gt {E : NE} {p m k : Nat} (h : eH E 0 p = nI k) (hk : k ≤ 60) (hm : m < 2 ^ 30) (hl : ¬ nI k ≤ nI m) : hdT E p m = nI k - nI m := by
  unfold hdT
  have : m < k := by
    rcases Nat.lt_or_ge m k with q | q
    · exact q
    · exact absurd (nI_le q (by omega)) hl
  rw [h, imax0, if_neg]
  rw [pk_sub (by omega)]
  exact nI_nle (by omega) (by omega)
set_option maxHeartbeats 8000000 in
set_option maxRecDepth 20000 in
theorem n_loudIn {a : AS} {x : XS} {p m : Nat} {sn : Int32} (hR : RRf x a) (hA : AI a) (hp : p < eN (aE a)) (hm : m < 2 ^ 20) : MM mX10_loudIn 3 0 0 [.ref 137, .int (nI p), .int sn, .int (nI m)] x (fun v y => v = some (.int (hadP (aE a) p sn m)) ∧ QF x y ∧ y 137 0 = x 137 0 ∧ y 161 = x 161) NoT := by
  refine MM.of (by decide) (Nat.le_of_ble_eq_true rfl) ?_
  have y137 := lay_137
  have y142 := lay_142
  have y150 := lay_150
  have y154 := lay_154
  obtain ⟨t, ht2, ht⟩ := hA.t
  have T0 := take_RT hR hA ht ht2
  have n5 := hR.1.2.1
  obtain ⟨k, hk, ek⟩ := hA.1.tired hp
  refine r_aload_n dX10_loudIn_0 rfl (by rfl) ?_
  refine r_callV c_take mv_X10_take ml_X10_316 ⟨by decide, by decide⟩ dX10_loudIn_1 (by first | assumption | rfl) rfl rfl rfl (Nat.le_of_ble_eq_true rfl) (fun v9 x9 h9 => ?_)
  obtain ⟨rfl, h9⟩ := h9
  refine PW.xeq h9 ?_
  clear h9 x9
  refine r_aload_n dX10_loudIn_4 rfl (by rfl) ?_
  refine gf_X10_65 rfl dX10_loudIn_5 (by first | assumption | rfl) (by rfl) ?_
  refine r_bipush (v := nI 40) dX10_loudIn_8 (by decide) ?_
  refine r_iload_n dX10_loudIn_10 rfl (by rfl) ?_
  refine r_iastN dX10_loudIn_11 (by first | assumption | rfl) (by omega) (by decide) ?_
  refine r_aload_n dX10_loudIn_12 rfl (by rfl) ?_
  refine gf_X10_65 rfl dX10_loudIn_13 (by first | assumption | rfl) (by rfl) ?_
  refine r_iconst (v := nI 0) dX10_loudIn_16 (by decide) ?_
  refine r_iload_n dX10_loudIn_17 rfl (by rfl) ?_
  refine r_iaddN dX10_loudIn_18 ?_
  refine r_aload_n dX10_loudIn_19 rfl (by rfl) ?_
  refine gf_X10_29 rfl dX10_loudIn_20 (by first | assumption | rfl) (by rfl) ?_
  refine r_bipush (v := nI 8) dX10_loudIn_23 (by decide) ?_
  refine r_iload_n dX10_loudIn_25 rfl (by rfl) ?_
  refine r_imulN dX10_loudIn_26 ?_
  refine r_iconst (v := nI 0) dX10_loudIn_27 (by decide) ?_
  refine r_iaddN dX10_loudIn_28 ?_
  refine r_ialdN dX10_loudIn_29 (by first | assumption | rfl) (by omega) (by decide) ?_
  refine PW.topi (show _ = nI k from (T0.1.1.2.2.1 0 (by decide) p hp).trans ek) ?_
  refine r_iload_n dX10_loudIn_30 rfl (by rfl) ?_
  refine r_icmp_leN (tgt := 50) dX10_loudIn_31 (by decide) (by omega) (by omega) (fun h31 => ?_) (fun h31 => ?_)
  · refine r_iconst (v := nI 0) dX10_loudIn_50 (by decide) ?_
    refine PW.topi (show _ = hdT (aE a) p m from (by first | exact (hdT_le ek hk (by omega) (nI_le (by assumption) (by omega))).symm | exact (hdT_gt ek hk (by omega) (nI_ge (by assumption) (by omega))).symm)) ?_
    refine r_iastN dX10_loudIn_51 (by first | assumption | rfl) (by omega) (by decide) ?_
    have E1 : RRe (xu (xu (tkR x) 154 40 (nI m)) 154 (0 + p) (hdT (aE a) p m)) (aE a) := T0.1.1.fr (fun c hc => by rw [xu_n (by omega), xu_n (by omega)]) (by rw [xu_n (by decide), xu_n (by decide)]) (by rw [xu_n (by decide), xu_n (by decide)])
    have L1 := E1.2.2.2.2.2.1
    refine r_aload_n dX10_loudIn_52 rfl (by rfl) ?_
    refine r_iload_n dX10_loudIn_53 rfl (by rfl) ?_
    refine r_iload_n dX10_loudIn_54 rfl (by rfl) ?_
    refine r_bipush (v := nI 8) dX10_loudIn_55 (by decide) ?_
    refine r_icmp_geN (tgt := 66) dX10_loudIn_57 (by decide) (by omega) (by omega) (fun h57 => ?_) (fun h57 => ?_)
    · refine r_bipush (v := nI 9) dX10_loudIn_66 (by decide) ?_
      refine PW.topi (show _ = (imin (nI 9) (nI (m + 1))) from (by rw [imin_N (by omega) (by omega)]; first | (congr 1; omega) | rfl)) ?_
      refine r_iconst (v := nI 0) dX10_loudIn_68 (by decide) ?_
      refine r_callV (n_findFacts (E := aE a) (x := (xu (xu (tkR x) 154 40 (nI m)) 154 (0 + p) (hdT (aE a) p m))) E1 hp) mv_X10_findFacts ml_X10_337 ⟨by decide, by decide⟩ dX10_loudIn_69 (by first | assumption | rfl) rfl rfl rfl (Nat.le_of_ble_eq_true rfl) (fun v9 x9 h9 => ?_)
      obtain ⟨rfl, h9⟩ := h9
      refine PW.xeq h9 ?_
      clear h9 x9
      refine r_aload_n dX10_loudIn_72 rfl (by rfl) ?_
      refine gf_X10_53 rfl dX10_loudIn_73 (by first | assumption | rfl) (by rfl) ?_
      refine r_iconst (v := nI 0) dX10_loudIn_76 (by decide) ?_
      refine r_iload_n dX10_loudIn_77 rfl (by rfl) ?_
      refine r_iastN dX10_loudIn_78 (by first | assumption | rfl) (by omega) (by decide) ?_
      refine r_aload_n dX10_loudIn_79 rfl (by rfl) ?_
      refine r_callV (c_loudNow (l := eL (aE a)) (x := xu (xr (xu (xu (tkR x) 154 40 (nI m)) 154 (0 + p) (hdT (aE a) p m)) 150 (fct (eH (aE a) 2 p) (eH (aE a) 4 p) (eH (aE a) 5 p) (imin (nI 9) (nI (m + 1))) ((xu (xu (tkR x) 154 40 (nI m)) 154 (0 + p) (hdT (aE a) p m)) 154 (0 + p)) (nI 0) (eH (aE a) 1 p) ((xu (xu (tkR x) 154 40 (nI m)) 154 (0 + p) (hdT (aE a) p m)) 154 40) (nI 0))) 150 0 sn) (L1.fr rfl rfl rfl)) mv_X10_loudNow ml_X10_340 ⟨by decide, by decide⟩ dX10_loudIn_80 (by first | assumption | rfl) rfl rfl rfl (Nat.le_of_ble_eq_true rfl) (fun v9 y h9 => ?_)
      obtain ⟨rfl, F9⟩ := h9
      refine r_iret rfl dX10_loudIn_83 ?_
      refine ⟨congrArg some (congrArg Value.int ?_), ?_, ?_, ?_⟩
      · unfold hadP louG
        refine congrArg bnd (LV_congr (fun j hj => ?_) L1.1.2.2.2)
        show upd (xr (xu (xu (tkR x) 154 40 (nI m)) 154 (0 + p) (hdT (aE a) p m)) 150 (fct (eH (aE a) 2 p) (eH (aE a) 4 p) (eH (aE a) 5 p) (imin (nI 9) (nI (m + 1))) ((xu (xu (tkR x) 154 40 (nI m)) 154 (0 + p) (hdT (aE a) p m)) 154 (0 + p)) (nI 0) (eH (aE a) 1 p) ((xu (xu (tkR x) 154 40 (nI m)) 154 (0 + p) (hdT (aE a) p m)) 154 40) (nI 0)) 150) 0 sn j = _
        rw [xr_s]
        rcases (show j = 0 ∨ j = 1 ∨ j = 2 ∨ j = 3 ∨ j = 4 ∨ j = 5 ∨ j = 6 ∨ j = 7 ∨ j = 8 by omega) with rfl | rfl | rfl | rfl | rfl | rfl | rfl | rfl | rfl
        · rfl
        · rfl
        · rfl
        · rfl
        · show (xu (xu (tkR x) 154 40 (nI m)) 154 (0 + p) (hdT (aE a) p m)) 154 (0 + p) = _
          exact xu_s
        · rfl
        · rfl
        · show (xu (xu (tkR x) 154 40 (nI m)) 154 (0 + p) (hdT (aE a) p m)) 154 40 = _
          rw [xu_k (by omega), xu_s]
          rfl
        · rfl
      · have q1 : QF x (xu (xr (xu (xu (tkR x) 154 40 (nI m)) 154 (0 + p) (hdT (aE a) p m)) 150 (fct (eH (aE a) 2 p) (eH (aE a) 4 p) (eH (aE a) 5 p) (imin (nI 9) (nI (m + 1))) ((xu (xu (tkR x) 154 40 (nI m)) 154 (0 + p) (hdT (aE a) p m)) 154 (0 + p)) (nI 0) (eH (aE a) 1 p) ((xu (xu (tkR x) 154 40 (nI m)) 154 (0 + p) (hdT (aE a) p m)) 154 40) (nI 0))) 150 0 sn) := ((((take_QF x).put (c := 154) (by omega)).put (c := 154) (by omega)).row (c := 150) (by omega)).put (c := 150) (by omega)
        exact q1.trans (SC.qf (fun c a1 _ => F9 c a1))
      · rw [F9 137 (by decide)]; rfl
      · rw [F9 161 (by decide)]; rfl
    · refine r_iload_n dX10_loudIn_60 rfl (by rfl) ?_
      refine r_iconst (v := nI 1) dX10_loudIn_61 (by decide) ?_
      refine r_iaddN dX10_loudIn_62 ?_
      refine r_goto (tgt := 68) dX10_loudIn_63 (by decide) ?_
      refine PW.topi (show _ = (imin (nI 9) (nI (m + 1))) from (by rw [imin_N (by omega) (by omega)]; first | (congr 1; omega) | rfl)) ?_
      refine r_iconst (v := nI 0) dX10_loudIn_68 (by decide) ?_
      refine r_callV (n_findFacts (E := aE a) (x := (xu (xu (tkR x) 154 40 (nI m)) 154 (0 + p) (hdT (aE a) p m))) E1 hp) mv_X10_findFacts ml_X10_337 ⟨by decide, by decide⟩ dX10_loudIn_69 (by first | assumption | rfl) rfl rfl rfl (Nat.le_of_ble_eq_true rfl) (fun v9 x9 h9 => ?_)
      obtain ⟨rfl, h9⟩ := h9
      refine PW.xeq h9 ?_
      clear h9 x9
      refine r_aload_n dX10_loudIn_72 rfl (by rfl) ?_
      refine gf_X10_53 rfl dX10_loudIn_73 (by first | assumption | rfl) (by rfl) ?_
      refine r_iconst (v := nI 0) dX10_loudIn_76 (by decide) ?_
      refine r_iload_n dX10_loudIn_77 rfl (by rfl) ?_
      refine r_iastN dX10_loudIn_78 (by first | assumption | rfl) (by omega) (by decide) ?_
      refine r_aload_n dX10_loudIn_79 rfl (by rfl) ?_
      refine r_callV (c_loudNow (l := eL (aE a)) (x := xu (xr (xu (xu (tkR x) 154 40 (nI m)) 154 (0 + p) (hdT (aE a) p m)) 150 (fct (eH (aE a) 2 p) (eH (aE a) 4 p) (eH (aE a) 5 p) (imin (nI 9) (nI (m + 1))) ((xu (xu (tkR x) 154 40 (nI m)) 154 (0 + p) (hdT (aE a) p m)) 154 (0 + p)) (nI 0) (eH (aE a) 1 p) ((xu (xu (tkR x) 154 40 (nI m)) 154 (0 + p) (hdT (aE a) p m)) 154 40) (nI 0))) 150 0 sn) (L1.fr rfl rfl rfl)) mv_X10_loudNow ml_X10_340 ⟨by decide, by decide⟩ dX10_loudIn_80 (by first | assumption | rfl) rfl rfl rfl (Nat.le_of_ble_eq_true rfl) (fun v9 y h9 => ?_)
      obtain ⟨rfl, F9⟩ := h9
      refine r_iret rfl dX10_loudIn_83 ?_
      refine ⟨congrArg some (congrArg Value.int ?_), ?_, ?_, ?_⟩
      · unfold hadP louG
        refine congrArg bnd (LV_congr (fun j hj => ?_) L1.1.2.2.2)
        show upd (xr (xu (xu (tkR x) 154 40 (nI m)) 154 (0 + p) (hdT (aE a) p m)) 150 (fct (eH (aE a) 2 p) (eH (aE a) 4 p) (eH (aE a) 5 p) (imin (nI 9) (nI (m + 1))) ((xu (xu (tkR x) 154 40 (nI m)) 154 (0 + p) (hdT (aE a) p m)) 154 (0 + p)) (nI 0) (eH (aE a) 1 p) ((xu (xu (tkR x) 154 40 (nI m)) 154 (0 + p) (hdT (aE a) p m)) 154 40) (nI 0)) 150) 0 sn j = _
        rw [xr_s]
        rcases (show j = 0 ∨ j = 1 ∨ j = 2 ∨ j = 3 ∨ j = 4 ∨ j = 5 ∨ j = 6 ∨ j = 7 ∨ j = 8 by omega) with rfl | rfl | rfl | rfl | rfl | rfl | rfl | rfl | rfl
        · rfl
        · rfl
        · rfl
        · rfl
        · show (xu (xu (tkR x) 154 40 (nI m)) 154 (0 + p) (hdT (aE a) p m)) 154 (0 + p) = _
          exact xu_s
        · rfl
        · rfl
        · show (xu (xu (tkR x) 154 40 (nI m)) 154 (0 + p) (hdT (aE a) p m)) 154 40 = _
          rw [xu_k (by omega), xu_s]
          rfl
        · rfl
      · have q1 : QF x (xu (xr (xu (xu (tkR x) 154 40 (nI m)) 154 (0 + p) (hdT (aE a) p m)) 150 (fct (eH (aE a) 2 p) (eH (aE a) 4 p) (eH (aE a) 5 p) (imin (nI 9) (nI (m + 1))) ((xu (xu (tkR x) 154 40 (nI m)) 154 (0 + p) (hdT (aE a) p m)) 154 (0 + p)) (nI 0) (eH (aE a) 1 p) ((xu (xu (tkR x) 154 40 (nI m)) 154 (0 + p) (hdT (aE a) p m)) 154 40) (nI 0))) 150 0 sn) := ((((take_QF x).put (c := 154) (by omega)).put (c := 154) (by omega)).row (c := 150) (by omega)).put (c := 150) (by omega)
        exact q1.trans (SC.qf (fun c a1 _ => F9 c a1))
      · rw [F9 137 (by decide)]; rfl
      · rw [F9 161 (by decide)]; rfl
  · refine r_aload_n dX10_loudIn_34 rfl (by rfl) ?_
    refine gf_X10_29 rfl dX10_loudIn_35 (by first | assumption | rfl) (by rfl) ?_
    refine r_bipush (v := nI 8) dX10_loudIn_38 (by decide) ?_
    refine r_iload_n dX10_loudIn_40 rfl (by rfl) ?_
    refine r_imulN dX10_loudIn_41 ?_
    refine r_iconst (v := nI 0) dX10_loudIn_42 (by decide) ?_
    refine r_iaddN dX10_loudIn_43 ?_
    refine r_ialdN dX10_loudIn_44 (by first | assumption | rfl) (by omega) (by decide) ?_
    refine PW.topi (show _ = nI k from (T0.1.1.2.2.1 0 (by decide) p hp).trans ek) ?_
    refine r_iload_n dX10_loudIn_45 rfl (by rfl) ?_
    refine r_isub dX10_loudIn_46 ?_
    refine r_goto (tgt := 51) dX10_loudIn_47 (by decide) ?_
    refine PW.topi (show _ = hdT (aE a) p m from (by first | exact (hdT_le ek hk (by omega) (nI_le (by assumption) (by omega))).symm | exact (hdT_gt ek hk (by omega) (nI_ge (by assumption) (by omega))).symm)) ?_
    refine r_iastN dX10_loudIn_51 (by first | assumption | rfl) (by omega) (by decide) ?_
    have E1 : RRe (xu (xu (tkR x) 154 40 (nI m)) 154 (0 + p) (hdT (aE a) p m)) (aE a) := T0.1.1.fr (fun c hc => by rw [xu_n (by omega), xu_n (by omega)]) (by rw [xu_n (by decide), xu_n (by decide)]) (by rw [xu_n (by decide), xu_n (by decide)])
    have L1 := E1.2.2.2.2.2.1
    refine r_aload_n dX10_loudIn_52 rfl (by rfl) ?_
    refine r_iload_n dX10_loudIn_53 rfl (by rfl) ?_
    refine r_iload_n dX10_loudIn_54 rfl (by rfl) ?_
    refine r_bipush (v := nI 8) dX10_loudIn_55 (by decide) ?_
    refine r_icmp_geN (tgt := 66) dX10_loudIn_57 (by decide) (by omega) (by omega) (fun h57 => ?_) (fun h57 => ?_)
    · refine r_bipush (v := nI 9) dX10_loudIn_66 (by decide) ?_
      refine PW.topi (show _ = (imin (nI 9) (nI (m + 1))) from (by rw [imin_N (by omega) (by omega)]; first | (congr 1; omega) | rfl)) ?_
      refine r_iconst (v := nI 0) dX10_loudIn_68 (by decide) ?_
      refine r_callV (n_findFacts (E := aE a) (x := (xu (xu (tkR x) 154 40 (nI m)) 154 (0 + p) (hdT (aE a) p m))) E1 hp) mv_X10_findFacts ml_X10_337 ⟨by decide, by decide⟩ dX10_loudIn_69 (by first | assumption | rfl) rfl rfl rfl (Nat.le_of_ble_eq_true rfl) (fun v9 x9 h9 => ?_)
      obtain ⟨rfl, h9⟩ := h9
      refine PW.xeq h9 ?_
      clear h9 x9
      refine r_aload_n dX10_loudIn_72 rfl (by rfl) ?_
      refine gf_X10_53 rfl dX10_loudIn_73 (by first | assumption | rfl) (by rfl) ?_
      refine r_iconst (v := nI 0) dX10_loudIn_76 (by decide) ?_
      refine r_iload_n dX10_loudIn_77 rfl (by rfl) ?_
      refine r_iastN dX10_loudIn_78 (by first | assumption | rfl) (by omega) (by decide) ?_
      refine r_aload_n dX10_loudIn_79 rfl (by rfl) ?_
      refine r_callV (c_loudNow (l := eL (aE a)) (x := xu (xr (xu (xu (tkR x) 154 40 (nI m)) 154 (0 + p) (hdT (aE a) p m)) 150 (fct (eH (aE a) 2 p) (eH (aE a) 4 p) (eH (aE a) 5 p) (imin (nI 9) (nI (m + 1))) ((xu (xu (tkR x) 154 40 (nI m)) 154 (0 + p) (hdT (aE a) p m)) 154 (0 + p)) (nI 0) (eH (aE a) 1 p) ((xu (xu (tkR x) 154 40 (nI m)) 154 (0 + p) (hdT (aE a) p m)) 154 40) (nI 0))) 150 0 sn) (L1.fr rfl rfl rfl)) mv_X10_loudNow ml_X10_340 ⟨by decide, by decide⟩ dX10_loudIn_80 (by first | assumption | rfl) rfl rfl rfl (Nat.le_of_ble_eq_true rfl) (fun v9 y h9 => ?_)
      obtain ⟨rfl, F9⟩ := h9
      refine r_iret rfl dX10_loudIn_83 ?_
      refine ⟨congrArg some (congrArg Value.int ?_), ?_, ?_, ?_⟩
      · unfold hadP louG
        refine congrArg bnd (LV_congr (fun j hj => ?_) L1.1.2.2.2)
        show upd (xr (xu (xu (tkR x) 154 40 (nI m)) 154 (0 + p) (hdT (aE a) p m)) 150 (fct (eH (aE a) 2 p) (eH (aE a) 4 p) (eH (aE a) 5 p) (imin (nI 9) (nI (m + 1))) ((xu (xu (tkR x) 154 40 (nI m)) 154 (0 + p) (hdT (aE a) p m)) 154 (0 + p)) (nI 0) (eH (aE a) 1 p) ((xu (xu (tkR x) 154 40 (nI m)) 154 (0 + p) (hdT (aE a) p m)) 154 40) (nI 0)) 150) 0 sn j = _
        rw [xr_s]
        rcases (show j = 0 ∨ j = 1 ∨ j = 2 ∨ j = 3 ∨ j = 4 ∨ j = 5 ∨ j = 6 ∨ j = 7 ∨ j = 8 by omega) with rfl | rfl | rfl | rfl | rfl | rfl | rfl | rfl | rfl
        · rfl
        · rfl
        · rfl
        · rfl
        · show (xu (xu (tkR x) 154 40 (nI m)) 154 (0 + p) (hdT (aE a) p m)) 154 (0 + p) = _
          exact xu_s
        · rfl
        · rfl
        · show (xu (xu (tkR x) 154 40 (nI m)) 154 (0 + p) (hdT (aE a) p m)) 154 40 = _
          rw [xu_k (by omega), xu_s]
          rfl
        · rfl
      · have q1 : QF x (xu (xr (xu (xu (tkR x) 154 40 (nI m)) 154 (0 + p) (hdT (aE a) p m)) 150 (fct (eH (aE a) 2 p) (eH (aE a) 4 p) (eH (aE a) 5 p) (imin (nI 9) (nI (m + 1))) ((xu (xu (tkR x) 154 40 (nI m)) 154 (0 + p) (hdT (aE a) p m)) 154 (0 + p)) (nI 0) (eH (aE a) 1 p) ((xu (xu (tkR x) 154 40 (nI m)) 154 (0 + p) (hdT (aE a) p m)) 154 40) (nI 0))) 150 0 sn) := ((((take_QF x).put (c := 154) (by omega)).put (c := 154) (by omega)).row (c := 150) (by omega)).put (c := 150) (by omega)
        exact q1.trans (SC.qf (fun c a1 _ => F9 c a1))
      · rw [F9 137 (by decide)]; rfl
      · rw [F9 161 (by decide)]; rfl
    · refine r_iload_n dX10_loudIn_60 rfl (by rfl) ?_
      refine r_iconst (v := nI 1) dX10_loudIn_61 (by decide) ?_
      refine r_iaddN dX10_loudIn_62 ?_
      refine r_goto (tgt := 68) dX10_loudIn_63 (by decide) ?_
      refine PW.topi (show _ = (imin (nI 9) (nI (m + 1))) from (by rw [imin_N (by omega) (by omega)]; first | (congr 1; omega) | rfl)) ?_
      refine r_iconst (v := nI 0) dX10_loudIn_68 (by decide) ?_
      refine r_callV (n_findFacts (E := aE a) (x := (xu (xu (tkR x) 154 40 (nI m)) 154 (0 + p) (hdT (aE a) p m))) E1 hp) mv_X10_findFacts ml_X10_337 ⟨by decide, by decide⟩ dX10_loudIn_69 (by first | assumption | rfl) rfl rfl rfl (Nat.le_of_ble_eq_true rfl) (fun v9 x9 h9 => ?_)
      obtain ⟨rfl, h9⟩ := h9
      refine PW.xeq h9 ?_
      clear h9 x9
      refine r_aload_n dX10_loudIn_72 rfl (by rfl) ?_
      refine gf_X10_53 rfl dX10_loudIn_73 (by first | assumption | rfl) (by rfl) ?_
      refine r_iconst (v := nI 0) dX10_loudIn_76 (by decide) ?_
      refine r_iload_n dX10_loudIn_77 rfl (by rfl) ?_
      refine r_iastN dX10_loudIn_78 (by first | assumption | rfl) (by omega) (by decide) ?_
      refine r_aload_n dX10_loudIn_79 rfl (by rfl) ?_
      refine r_callV (c_loudNow (l := eL (aE a)) (x := xu (xr (xu (xu (tkR x) 154 40 (nI m)) 154 (0 + p) (hdT (aE a) p m)) 150 (fct (eH (aE a) 2 p) (eH (aE a) 4 p) (eH (aE a) 5 p) (imin (nI 9) (nI (m + 1))) ((xu (xu (tkR x) 154 40 (nI m)) 154 (0 + p) (hdT (aE a) p m)) 154 (0 + p)) (nI 0) (eH (aE a) 1 p) ((xu (xu (tkR x) 154 40 (nI m)) 154 (0 + p) (hdT (aE a) p m)) 154 40) (nI 0))) 150 0 sn) (L1.fr rfl rfl rfl)) mv_X10_loudNow ml_X10_340 ⟨by decide, by decide⟩ dX10_loudIn_80 (by first | assumption | rfl) rfl rfl rfl (Nat.le_of_ble_eq_true rfl) (fun v9 y h9 => ?_)
      obtain ⟨rfl, F9⟩ := h9
      refine r_iret rfl dX10_loudIn_83 ?_
      refine ⟨congrArg some (congrArg Value.int ?_), ?_, ?_, ?_⟩
      · unfold hadP louG
        refine congrArg bnd (LV_congr (fun j hj => ?_) L1.1.2.2.2)
        show upd (xr (xu (xu (tkR x) 154 40 (nI m)) 154 (0 + p) (hdT (aE a) p m)) 150 (fct (eH (aE a) 2 p) (eH (aE a) 4 p) (eH (aE a) 5 p) (imin (nI 9) (nI (m + 1))) ((xu (xu (tkR x) 154 40 (nI m)) 154 (0 + p) (hdT (aE a) p m)) 154 (0 + p)) (nI 0) (eH (aE a) 1 p) ((xu (xu (tkR x) 154 40 (nI m)) 154 (0 + p) (hdT (aE a) p m)) 154 40) (nI 0)) 150) 0 sn j = _
        rw [xr_s]
        rcases (show j = 0 ∨ j = 1 ∨ j = 2 ∨ j = 3 ∨ j = 4 ∨ j = 5 ∨ j = 6 ∨ j = 7 ∨ j = 8 by omega) with rfl | rfl | rfl | rfl | rfl | rfl | rfl | rfl | rfl
        · rfl
        · rfl
        · rfl
        · rfl
        · show (xu (xu (tkR x) 154 40 (nI m)) 154 (0 + p) (hdT (aE a) p m)) 154 (0 + p) = _
          exact xu_s
        · rfl
        · rfl
        · show (xu (xu (tkR x) 154 40 (nI m)) 154 (0 + p) (hdT (aE a) p m)) 154 40 = _
          rw [xu_k (by omega), xu_s]
          rfl
        · rfl
      · have q1 : QF x (xu (xr (xu (xu (tkR x) 154 40 (nI m)) 154 (0 + p) (hdT (aE a) p m)) 150 (fct (eH (aE a) 2 p) (eH (aE a) 4 p) (eH (aE a) 5 p) (imin (nI 9) (nI (m + 1))) ((xu (xu (tkR x) 154 40 (nI m)) 154 (0 + p) (hdT (aE a) p m)) 154 (0 + p)) (nI 0) (eH (aE a) 1 p) ((xu (xu (tkR x) 154 40 (nI m)) 154 (0 + p) (hdT (aE a) p m)) 154 40) (nI 0))) 150 0 sn) := ((((take_QF x).put (c := 154) (by omega)).put (c := 154) (by omega)).row (c := 150) (by omega)).put (c := 150) (by omega)
        exact q1.trans (SC.qf (fun c a1 _ => F9 c a1))
      · rw [F9 137 (by decide)]; rfl
      · rw [F9 161 (by decide)]; rfl
theorem RRf.book {x : XS} {a : AS} (h : RRf x a) {i : Nat} (hi : i < (aB a).length) : x 159 (2 * i) = nI (bkA a i).1 ∧ x 159 (2 * i + 1) = nI (bkA a i).2 ∧ (bkA a i).1 < 240 := by
  have e : (aB a)[i]? = some (bkA a i) := by
    unfold bkA
    rw [List.getD_eq_getElem?_getD, List.getElem?_eq_getElem hi]
    rfl
  have w := h.2.2.2.2.1.2.2 i _ e
  exact ⟨w.1, w.2.1, w.2.2.1⟩
set_option maxHeartbeats 8000000 in
set_option maxRecDepth 20000 in
theorem n_fitsOf {a : AS} {x : XS} {p : Nat} (hR : RRf x a) (hA : AI a) (hp : p < eN (aE a)) : MM mX10_fitsOf 4 0 0 [.ref 137, .int (nI p)] x (fun v y => v = some (.int (ftP a p 10)) ∧ QF x y ∧ y 137 0 = x 137 0) NoT := by
  refine MM.of (by decide) (Nat.le_of_ble_eq_true rfl) ?_
  have y137 := lay_137
  have y159 := lay_159
  refine r_iconst (v := nI 0) dX10_fitsOf_0 (by decide) ?_
  refine r_istore_n dX10_fitsOf_1 rfl (by decide) ?_
  refine r_iconst (v := nI 0) dX10_fitsOf_2 (by decide) ?_
  refine r_istore_n dX10_fitsOf_3 rfl (by decide) ?_
  refine PW.loop (σ := Nat × XS) (fun o => 10 - o.1) (fun o => o.1 ≤ 10 ∧ QF x o.2 ∧ o.2 137 0 = x 137 0) (fun o => [(0, .ref 137), (1, .int (nI p)), (2, .int (ftP a p o.1)), (3, .int (nI o.1))]) (fun o => o.2) ((0, x)) (⟨Nat.zero_le _, QF.rfl, rfl⟩) rfl rfl (fun o ho oh => ?_)
  obtain ⟨ho1, hF, z0⟩ := ho
  refine r_iload_n dX10_fitsOf_4 rfl (by rfl) ?_
  refine r_bipush (v := nI 9) dX10_fitsOf_5 (by decide) ?_
  refine r_icmp_gtN (tgt := 93) dX10_fitsOf_7 (by decide) (by omega) (by omega) (fun h7 => ?_) (fun h7 => ?_)
  · refine r_iload_n dX10_fitsOf_93 rfl (by rfl) ?_
    refine r_iret rfl dX10_fitsOf_94 ?_
    exact ⟨by rw [show o.1 = 10 by omega], hF, z0⟩
  · refine r_iconst (v := nI 1) dX10_fitsOf_10 (by decide) ?_
    refine r_istore dX10_fitsOf_11 (by decide) ?_
    refine r_iconst (v := nI 0) dX10_fitsOf_13 (by decide) ?_
    refine r_istore dX10_fitsOf_14 (by decide) ?_
    refine PW.loop (σ := Nat × XS) (fun s => (aB a).length - s.1) (fun s => s.1 ≤ (aB a).length ∧ QF x s.2 ∧ s.2 137 0 = x 137 0) (fun s => [(0, .ref 137), (1, .int (nI p)), (2, .int (ftP a p o.1)), (3, .int (nI o.1)), (4, .int (bI (alB a p o.1 s.1))), (5, .int (nI s.1))]) (fun s => s.2) ((0, o.2)) (⟨Nat.zero_le _, hF, z0⟩) rfl rfl (fun s hs ih => ?_)
    obtain ⟨hs1, hG, zg⟩ := hs
    have b8 := hR.2.2.2.2.1.2.1
    refine r_iload dX10_fitsOf_16 (by rfl) ?_
    refine r_aload_n dX10_fitsOf_18 rfl (by rfl) ?_
    refine gf_X10_169 rfl dX10_fitsOf_19 (by first | assumption | rfl) (by rfl) ?_
    refine PW.topi (hR.qf hG).2.2.2.2.1.1 ?_
    refine r_icmp_geN (tgt := 72) dX10_fitsOf_22 (by decide) (by omega) (by omega) (fun h22 => ?_) (fun h22 => ?_)
    · refine r_iload_n dX10_fitsOf_72 rfl (by rfl) ?_
      refine r_iload dX10_fitsOf_73 (by rfl) ?_
      refine r_if_eqB (tgt := 84) dX10_fitsOf_75 (by decide) (fun h75 => ?_) (fun h75 => ?_)
      · refine r_iconst (v := nI 0) dX10_fitsOf_84 (by decide) ?_
        refine r_ior dX10_fitsOf_85 ?_
        refine r_istore_n dX10_fitsOf_86 rfl (by decide) ?_
        refine r_iincN dX10_fitsOf_87 (by rfl) (by decide) ?_
        refine r_goto (tgt := 4) dX10_fitsOf_90 (by decide) ?_
        have es : s.1 = (aB a).length := by omega
        rw [es] at h75
        first
          | (have e : ftP a p (o.1 + 1) = ftP a p o.1 ||| (nI 1 <<< (nI o.1 &&& 31)) := if_pos h75
             exact PW.lc (by (try dsimp only); rw [e]; rfl) rfl (oh (o.1 + 1, s.2) ⟨(show o.1 + 1 ≤ 10 by omega), hG, zg⟩ (show 10 - (o.1 + 1) < 10 - o.1 by omega)))
          | (have e : ftP a p (o.1 + 1) = ftP a p o.1 ||| nI 0 := by
               show (if _ then _ else _) = _
               rw [if_neg (by rw [h75]; decide)]
               exact (Int32.or_zero).symm
             exact PW.lc (by (try dsimp only); rw [e]; rfl) rfl (oh (o.1 + 1, s.2) ⟨(show o.1 + 1 ≤ 10 by omega), hG, zg⟩ (show 10 - (o.1 + 1) < 10 - o.1 by omega)))
      · refine r_iconst (v := nI 1) dX10_fitsOf_78 (by decide) ?_
        refine r_iload_n dX10_fitsOf_79 rfl (by rfl) ?_
        refine r_ishl dX10_fitsOf_80 ?_
        refine r_goto (tgt := 85) dX10_fitsOf_81 (by decide) ?_
        refine r_ior dX10_fitsOf_85 ?_
        refine r_istore_n dX10_fitsOf_86 rfl (by decide) ?_
        refine r_iincN dX10_fitsOf_87 (by rfl) (by decide) ?_
        refine r_goto (tgt := 4) dX10_fitsOf_90 (by decide) ?_
        have es : s.1 = (aB a).length := by omega
        rw [es] at h75
        first
          | (have e : ftP a p (o.1 + 1) = ftP a p o.1 ||| (nI 1 <<< (nI o.1 &&& 31)) := if_pos h75
             exact PW.lc (by (try dsimp only); rw [e]; rfl) rfl (oh (o.1 + 1, s.2) ⟨(show o.1 + 1 ≤ 10 by omega), hG, zg⟩ (show 10 - (o.1 + 1) < 10 - o.1 by omega)))
          | (have e : ftP a p (o.1 + 1) = ftP a p o.1 ||| nI 0 := by
               show (if _ then _ else _) = _
               rw [if_neg (by rw [h75]; decide)]
               exact (Int32.or_zero).symm
             exact PW.lc (by (try dsimp only); rw [e]; rfl) rfl (oh (o.1 + 1, s.2) ⟨(show o.1 + 1 ≤ 10 by omega), hG, zg⟩ (show 10 - (o.1 + 1) < 10 - o.1 by omega)))
    · have bk := (hR.qf hG).book (i := s.1) (by omega)
      refine r_iload dX10_fitsOf_25 (by rfl) ?_
      refine r_if_eqB (tgt := 63) dX10_fitsOf_27 (by decide) (fun h27 => ?_) (fun h27 => ?_)
      · refine r_iconst (v := nI 0) dX10_fitsOf_63 (by decide) ?_
        refine r_istore dX10_fitsOf_64 (by decide) ?_
        refine r_iincN dX10_fitsOf_66 (by rfl) (by decide) ?_
        refine r_goto (tgt := 16) dX10_fitsOf_69 (by decide) ?_
        first
          | (have e : alB a p o.1 (s.1 + 1) = false := by
               show (alB a p o.1 s.1 && decide _) = false
               rw [h27]; rfl
             exact PW.lc (by (try dsimp only); rw [e]; rfl) rfl (ih (s.1 + 1, s.2) ⟨(show s.1 + 1 ≤ (aB a).length by omega), hG, zg⟩ (show (aB a).length - (s.1 + 1) < (aB a).length - s.1 by omega)))
          | (have e : alB a p o.1 (s.1 + 1) = false := by
               show (alB a p o.1 s.1 && decide _) = false
               rw [h27, decide_eq_false h56]; rfl
             exact PW.lc (by (try dsimp only); rw [e]; rfl) rfl (ih (s.1 + 1, z) ⟨(show s.1 + 1 ≤ (aB a).length by omega), hG.trans F1, z1.trans zg⟩ (show (aB a).length - (s.1 + 1) < (aB a).length - s.1 by omega)))
          | (have e : alB a p o.1 (s.1 + 1) = true := by
               show (alB a p o.1 s.1 && decide _) = true
               rw [h27, decide_eq_true h56]; rfl
             exact PW.lc (by (try dsimp only); rw [e]; rfl) rfl (ih (s.1 + 1, z) ⟨(show s.1 + 1 ≤ (aB a).length by omega), hG.trans F1, z1.trans zg⟩ (show (aB a).length - (s.1 + 1) < (aB a).length - s.1 by omega)))
      · refine r_aload_n dX10_fitsOf_30 rfl (by rfl) ?_
        refine r_iload_n dX10_fitsOf_31 rfl (by rfl) ?_
        refine r_iload_n dX10_fitsOf_32 rfl (by rfl) ?_
        refine r_aload_n dX10_fitsOf_33 rfl (by rfl) ?_
        refine gf_X10_80 rfl dX10_fitsOf_34 (by first | assumption | rfl) (by rfl) ?_
        refine r_iconst (v := nI 2) dX10_fitsOf_37 (by decide) ?_
        refine r_iload dX10_fitsOf_38 (by rfl) ?_
        refine r_imulN dX10_fitsOf_40 ?_
        refine r_ialdN dX10_fitsOf_41 (by first | assumption | rfl) (by omega) (by decide) ?_
        refine PW.topi bk.1 ?_
        refine r_callV (n_loudIn (hR.qf hG) hA hp (by omega)) mv_X10_loudIn ml_X10_420 ⟨by decide, by decide⟩ dX10_fitsOf_42 (by first | assumption | rfl) rfl rfl rfl (Nat.le_of_ble_eq_true rfl) (fun v9 z h9 => ?_)
        obtain ⟨rfl, F1, z1, _⟩ := h9
        refine r_aload_n dX10_fitsOf_45 rfl (by rfl) ?_
        refine gf_X10_80 rfl dX10_fitsOf_46 (by first | assumption | rfl) (by rfl) ?_
        refine r_iconst (v := nI 2) dX10_fitsOf_49 (by decide) ?_
        refine r_iload dX10_fitsOf_50 (by rfl) ?_
        refine r_imulN dX10_fitsOf_52 ?_
        refine r_iconst (v := nI 1) dX10_fitsOf_53 (by decide) ?_
        refine r_iaddN dX10_fitsOf_54 ?_
        refine r_ialdN dX10_fitsOf_55 (by first | assumption | rfl) (by omega) (by decide) ?_
        refine PW.topi (show _ = nI (bkA a s.1).2 from (by rw [F1.1 159 (by decide) (by decide) (by decide) (by decide) (by decide) (by decide) (by decide) (by decide)]; exact bk.2.1)) ?_
        refine r_icmp_ne (tgt := 63) dX10_fitsOf_56 (by decide) (fun h56 => ?_) (fun h56 => ?_)
        · refine r_iconst (v := nI 0) dX10_fitsOf_63 (by decide) ?_
          refine r_istore dX10_fitsOf_64 (by decide) ?_
          refine r_iincN dX10_fitsOf_66 (by rfl) (by decide) ?_
          refine r_goto (tgt := 16) dX10_fitsOf_69 (by decide) ?_
          first
            | (have e : alB a p o.1 (s.1 + 1) = false := by
                 show (alB a p o.1 s.1 && decide _) = false
                 rw [h27]; rfl
               exact PW.lc (by (try dsimp only); rw [e]; rfl) rfl (ih (s.1 + 1, s.2) ⟨(show s.1 + 1 ≤ (aB a).length by omega), hG, zg⟩ (show (aB a).length - (s.1 + 1) < (aB a).length - s.1 by omega)))
            | (have e : alB a p o.1 (s.1 + 1) = false := by
                 show (alB a p o.1 s.1 && decide _) = false
                 rw [h27, decide_eq_false h56]; rfl
               exact PW.lc (by (try dsimp only); rw [e]; rfl) rfl (ih (s.1 + 1, z) ⟨(show s.1 + 1 ≤ (aB a).length by omega), hG.trans F1, z1.trans zg⟩ (show (aB a).length - (s.1 + 1) < (aB a).length - s.1 by omega)))
            | (have e : alB a p o.1 (s.1 + 1) = true := by
                 show (alB a p o.1 s.1 && decide _) = true
                 rw [h27, decide_eq_true h56]; rfl
               exact PW.lc (by (try dsimp only); rw [e]; rfl) rfl (ih (s.1 + 1, z) ⟨(show s.1 + 1 ≤ (aB a).length by omega), hG.trans F1, z1.trans zg⟩ (show (aB a).length - (s.1 + 1) < (aB a).length - s.1 by omega)))
        · refine r_iconst (v := nI 1) dX10_fitsOf_59 (by decide) ?_
          refine r_goto (tgt := 64) dX10_fitsOf_60 (by decide) ?_
          refine r_istore dX10_fitsOf_64 (by decide) ?_
          refine r_iincN dX10_fitsOf_66 (by rfl) (by decide) ?_
          refine r_goto (tgt := 16) dX10_fitsOf_69 (by decide) ?_
          first
            | (have e : alB a p o.1 (s.1 + 1) = false := by
                 show (alB a p o.1 s.1 && decide _) = false
                 rw [h27]; rfl
               exact PW.lc (by (try dsimp only); rw [e]; rfl) rfl (ih (s.1 + 1, s.2) ⟨(show s.1 + 1 ≤ (aB a).length by omega), hG, zg⟩ (show (aB a).length - (s.1 + 1) < (aB a).length - s.1 by omega)))
            | (have e : alB a p o.1 (s.1 + 1) = false := by
                 show (alB a p o.1 s.1 && decide _) = false
                 rw [h27, decide_eq_false h56]; rfl
               exact PW.lc (by (try dsimp only); rw [e]; rfl) rfl (ih (s.1 + 1, z) ⟨(show s.1 + 1 ≤ (aB a).length by omega), hG.trans F1, z1.trans zg⟩ (show (aB a).length - (s.1 + 1) < (aB a).length - s.1 by omega)))
            | (have e : alB a p o.1 (s.1 + 1) = true := by
                 show (alB a p o.1 s.1 && decide _) = true
                 rw [h27, decide_eq_true h56]; rfl
               exact PW.lc (by (try dsimp only); rw [e]; rfl) rfl (ih (s.1 + 1, z) ⟨(show s.1 + 1 ≤ (aB a).length by omega), hG.trans F1, z1.trans zg⟩ (show (aB a).length - (s.1 + 1) < (aB a).length - s.1 by omega)))
set_option maxHeartbeats 8000000 in
set_option maxRecDepth 20000 in
theorem g_fits {a : AS} {x : XS} {v : Int32} (hR : RRf x a) (hA : AI a) : RASK mX10_fits [.ref 137, .int v] x a (oFits a v) 1 := by
  refine MM.of (by decide) (Nat.le_of_ble_eq_true rfl) ?_
  have y137 := lay_137
  refine r_aload_n dX10_fits_0 rfl (by rfl) ?_
  refine r_iconst (v := nI 0) dX10_fits_1 (by decide) ?_
  refine pf_X10_3 rfl dX10_fits_2 (by first | assumption | rfl) (by rfl) ?_
  refine r_aload_n dX10_fits_5 rfl (by rfl) ?_
  refine r_iload_n dX10_fits_6 rfl (by rfl) ?_
  refine r_iconst (v := nI 1) dX10_fits_7 (by decide) ?_
  by_cases q8 : nobody v (eN (aE a)) = true
  · refine r_callV (c_isS_f hR.th.1.1 xu_s q8) mv_X10_isSleeper ml_X10_383 ⟨by decide, by decide⟩ dX10_fits_8 lay_137 rfl rfl rfl (Nat.le_of_ble_eq_true rfl) (fun v9 x9 h9 => ?_)
    obtain ⟨rfl, h9⟩ := h9
    refine PW.xeq h9 ?_
    clear h9 x9
    refine r_if_neB (tgt := 16) dX10_fits_11 (by decide) (fun h => by cases h) (fun _ => ?_)
    refine r_iconst (v := nI 0) dX10_fits_14 (by decide) ?_
    refine r_iret rfl dX10_fits_15 ?_
    exact ref_nob hR rfl (by rw [oFits, rqS_t q8])
  · have q8 := Bool.eq_false_iff.mpr q8
    obtain ⟨p, hp, rfl⟩ := nobody_f hR.1.2.1 q8
    have hp5 : p < 5 := Nat.lt_of_lt_of_le hp hR.1.2.1
    refine r_callV (c_isS_t hR.th.1.1 hR.1.2.1 xu_s hp) mv_X10_isSleeper ml_X10_383 ⟨by decide, by decide⟩ dX10_fits_8 lay_137 rfl rfl rfl (Nat.le_of_ble_eq_true rfl) (fun v9 x9 h9 => ?_)
    obtain ⟨rfl, h9⟩ := h9
    refine PW.xeq h9 ?_
    clear h9 x9
    refine r_if_neB (tgt := 16) dX10_fits_11 (by decide) (fun _ => ?_) (fun h => by cases h)
    refine r_aload_n dX10_fits_16 rfl (by rfl) ?_
    refine r_iload_n dX10_fits_17 rfl (by rfl) ?_
    refine r_callV (n_fitsOf hR.th hA hp) mv_X10_fitsOf ml_X10_423 ⟨by decide, by decide⟩ dX10_fits_18 (by first | assumption | rfl) rfl rfl rfl (Nat.le_of_ble_eq_true rfl) (fun v9 y h9 => ?_)
    obtain ⟨rfl, F1, z0⟩ := h9
    refine r_iret rfl dX10_fits_21 ?_
    refine ref_ok hR ((th0_qf x).trans F1) (z0.trans rfl) ?_
    rw [oFits, rqS_f q8, nN_nI (by omega)]
theorem RRf.has {x : XS} {a : AS} (h : RRf x a) {m : Nat} (hm : m < 240) : hasB (fun i => x 159 (2 * i)) (nI m) (aB a).length = bkHas (aB a) m := by
  rw [hasB_any hm (aB a) (fun j q hq => ⟨(h.2.2.2.2.1.2.2 j q hq).1, (h.2.2.2.2.1.2.2 j q hq).2.2.1⟩) _ (Nat.le_refl _), List.take_length]
  rfl
set_option maxHeartbeats 8000000 in
set_option maxRecDepth 20000 in
theorem n_isTold {a : AS} {x : XS} {m : Nat} (hR : RRf x a) (hm : m < 240) : MM mX10_isTold 0 0 0 [.ref 137, .int (nI m)] x (fun v y => v = some (.int (bI (bkHas (aB a) m))) ∧ y = x) NoT := by
  refine MM.of (by decide) (Nat.le_of_ble_eq_true rfl) ?_
  have y137 := lay_137
  have y159 := lay_159
  refine r_iconst (v := nI 0) dX10_isTold_0 (by decide) ?_
  refine r_istore_n dX10_isTold_1 rfl (by decide) ?_
  refine PW.loop (σ := Nat) (fun i => (aB a).length - i) (fun i => i ≤ (aB a).length ∧ hasB (fun i => x 159 (2 * i)) (nI m) i = false) (fun i => [(0, .ref 137), (1, .int (nI m)), (2, .int (nI i))]) (fun _ => x) (0) (⟨Nat.zero_le _, rfl⟩) rfl rfl (fun i hi ih => ?_)
  have hi1 := hi.1
  have b8 := hR.2.2.2.2.1.2.1
  refine r_iload_n dX10_isTold_2 rfl (by rfl) ?_
  refine r_aload_n dX10_isTold_3 rfl (by rfl) ?_
  refine gf_X10_169 rfl dX10_isTold_4 (by first | assumption | rfl) (by rfl) ?_
  refine PW.topi hR.2.2.2.2.1.1 ?_
  refine r_icmp_geN (tgt := 30) dX10_isTold_7 (by decide) (by omega) (by omega) (fun h7 => ?_) (fun h7 => ?_)
  · refine r_iconst (v := nI 0) dX10_isTold_30 (by decide) ?_
    refine r_zret rfl (by first | exact bI_01 _ | exact Or.inl rfl | exact Or.inr rfl) dX10_isTold_31 ?_
    have e : i = (aB a).length := by omega
    subst e
    exact ⟨by rw [← hR.has hm, hi.2]; rfl, rfl⟩
  · refine r_aload_n dX10_isTold_10 rfl (by rfl) ?_
    refine gf_X10_80 rfl dX10_isTold_11 (by first | assumption | rfl) (by rfl) ?_
    refine r_iconst (v := nI 2) dX10_isTold_14 (by decide) ?_
    refine r_iload_n dX10_isTold_15 rfl (by rfl) ?_
    refine r_imulN dX10_isTold_16 ?_
    refine r_ialdN dX10_isTold_17 (by first | assumption | rfl) (by omega) (by decide) ?_
    refine r_iload_n dX10_isTold_18 rfl (by rfl) ?_
    refine r_icmp_ne (tgt := 24) dX10_isTold_19 (by decide) (fun h19 => ?_) (fun h19 => ?_)
    · refine r_iincN dX10_isTold_24 (by rfl) (by decide) ?_
      refine r_goto (tgt := 2) dX10_isTold_27 (by decide) ?_
      exact PW.lc (by rfl) rfl (ih (i + 1) ⟨by omega, by show (hasB (fun i => x 159 (2 * i)) (nI m) i || decide _) = false; rw [hi.2, decide_eq_false h19]; rfl⟩ (by omega))
    · refine r_iconst (v := nI 1) dX10_isTold_22 (by decide) ?_
      refine r_zret rfl (by first | exact bI_01 _ | exact Or.inl rfl | exact Or.inr rfl) dX10_isTold_23 ?_
      refine ⟨?_, rfl⟩
      rw [← hR.has hm, hasB_e (i := i + 1) (by show (hasB (fun i => x 159 (2 * i)) (nI m) i || decide _) = true; rw [decide_eq_true h19]; simp) (by omega)]
      rfl
set_option maxHeartbeats 8000000 in
set_option maxRecDepth 20000 in
theorem n_worstAt {a : AS} {x : XS} {p m : Nat} {ft : Int32} (hR : RRf x a) (hA : AI a) (hp : p < eN (aE a)) (hm : m < 240) : MM mX10_worstAt 4 0 0 [.ref 137, .int (nI p), .int (nI m), .int ft] x (fun v y => v = some (.int (wrS (aE a) p ft m 10).1) ∧ QF x y ∧ y 137 0 = x 137 0) NoT := by
  refine MM.of (by decide) (Nat.le_of_ble_eq_true rfl) ?_
  have y137 := lay_137
  have y161 := lay_161
  refine r_iconst (v := nI 0) dX10_worstAt_0 (by decide) ?_
  refine r_istore dX10_worstAt_1 (by decide) ?_
  refine PW.loop (σ := Nat) (fun i => 41 - i) (fun i => i ≤ 41) (fun i => [(0, .ref 137), (1, .int (nI p)), (2, .int (nI m)), (3, .int ft), (4, .int (nI i))]) (fun i => xr x 161 (zfill (x 161) i)) (0) (Nat.zero_le _) rfl (xr_id x 161).symm (fun i hi jh => ?_)
  refine r_iload dX10_worstAt_3 (by rfl) ?_
  refine r_bipush (v := nI 40) dX10_worstAt_5 (by decide) ?_
  refine r_icmp_gtN (tgt := 24) dX10_worstAt_7 (by decide) (by omega) (by omega) (fun h7 => ?_) (fun h7 => ?_)
  · refine PW.lc (L' := [(0, .ref 137), (1, .int (nI p)), (2, .int (nI m)), (3, .int ft)]) (x' := xr x 161 (zfill (x 161) 41)) (by rfl) (by rw [show i = 41 by omega]) ?_
    refine PW.agr (x' := xr x 161 rd0) (fun c k hk => ?_) ?_
    · by_cases hc : c = 161
      · subst hc
        rw [xr_s, xr_s]
        exact zfill_lt 41 hk
      · rw [xr_n hc, xr_n hc]
    refine r_iconst (v := nI 0) dX10_worstAt_24 (by decide) ?_
    refine r_istore dX10_worstAt_25 (by decide) ?_
    refine r_iconst (v := nI 0) dX10_worstAt_27 (by decide) ?_
    refine r_istore dX10_worstAt_28 (by decide) ?_
    refine PW.loop (σ := Nat × XS) (fun s => 10 - s.1) (fun s => s.1 ≤ 10 ∧ s.2 161 = (wrS (aE a) p ft m s.1).2 ∧ QF x s.2 ∧ s.2 137 0 = x 137 0) (fun s => [(0, .ref 137), (1, .int (nI p)), (2, .int (nI m)), (3, .int ft), (4, .int (wrS (aE a) p ft m s.1).1), (5, .int (nI s.1))]) (fun s => s.2) ((0, xr x 161 rd0)) (⟨Nat.zero_le _, (show xr x 161 rd0 161 = rd0 from xr_s), QF.rfl.row (by omega), rfl⟩) rfl rfl (fun s hs ih => ?_)
    obtain ⟨hs1, h161, hG, zg⟩ := hs
    refine r_iload dX10_worstAt_30 (by rfl) ?_
    refine r_bipush (v := nI 9) dX10_worstAt_32 (by decide) ?_
    refine r_icmp_gtN (tgt := 102) dX10_worstAt_34 (by decide) (by omega) (by omega) (fun h34 => ?_) (fun h34 => ?_)
    · refine r_iload dX10_worstAt_102 (by rfl) ?_
      refine r_iret rfl dX10_worstAt_104 ?_
      exact ⟨by rw [show s.1 = 10 by omega], hG, zg⟩
    · refine r_iload_n dX10_worstAt_37 rfl (by rfl) ?_
      refine r_iload dX10_worstAt_38 (by rfl) ?_
      refine r_ishr dX10_worstAt_40 ?_
      refine r_iconst (v := nI 1) dX10_worstAt_41 (by decide) ?_
      refine r_iand dX10_worstAt_42 ?_
      refine PW.topi (show _ = bitV ft s.1 from rfl) ?_
      refine r_if_ne (tgt := 49) dX10_worstAt_43 (by decide) (fun h43 => ?_) (fun h43 => ?_)
      · refine r_aload_n dX10_worstAt_49 rfl (by rfl) ?_
        refine r_iload_n dX10_worstAt_50 rfl (by rfl) ?_
        refine r_iload dX10_worstAt_51 (by rfl) ?_
        refine r_iload_n dX10_worstAt_53 rfl (by rfl) ?_
        refine r_callV (n_loudIn (hR.qf hG) hA hp (by omega)) mv_X10_loudIn ml_X10_420 ⟨by decide, by decide⟩ dX10_worstAt_54 (by first | assumption | rfl) rfl rfl rfl (Nat.le_of_ble_eq_true rfl) (fun v9 z h9 => ?_)
        obtain ⟨rfl, F1, z1, e161⟩ := h9
        obtain ⟨h, hh, eh⟩ := had_is (aE a) p (nI s.1) m
        refine PW.topi eh ?_
        have z161 : z 161 = (wrS (aE a) p ft m s.1).2 := e161.trans h161
        refine r_istore dX10_worstAt_57 (by decide) ?_
        refine r_aload_n dX10_worstAt_59 rfl (by rfl) ?_
        refine gf_X10_86 rfl dX10_worstAt_60 (by first | assumption | rfl) (by rfl) ?_
        refine r_iload dX10_worstAt_63 (by rfl) ?_
        refine r_dup2 dX10_worstAt_65 rfl rfl ?_
        refine r_ialdN dX10_worstAt_66 (by first | assumption | rfl) (by omega) (by decide) ?_
        refine r_iconst (v := nI 1) dX10_worstAt_67 (by decide) ?_
        refine r_iadd dX10_worstAt_68 ?_
        refine r_iastN dX10_worstAt_69 (by first | assumption | rfl) (by omega) (by decide) ?_
        refine r_aload_n dX10_worstAt_70 rfl (by rfl) ?_
        refine gf_X10_86 rfl dX10_worstAt_71 (by first | assumption | rfl) (by rfl) ?_
        refine r_iload dX10_worstAt_74 (by rfl) ?_
        refine r_ialdN dX10_worstAt_76 (by first | assumption | rfl) (by omega) (by decide) ?_
        refine r_iload dX10_worstAt_77 (by rfl) ?_
        refine r_icmp_le (tgt := 92) dX10_worstAt_79 (by decide) (fun h79 => ?_) (fun h79 => ?_)
        · refine r_iload dX10_worstAt_92 (by rfl) ?_
          refine r_istore dX10_worstAt_94 (by decide) ?_
          refine r_iincN dX10_worstAt_96 (by rfl) (by decide) ?_
          refine r_goto (tgt := 30) dX10_worstAt_99 (by decide) ?_
          first
            | (have e : wrS (aE a) p ft m (s.1 + 1) = wrS (aE a) p ft m s.1 := if_pos h43
               exact PW.lc (by (try dsimp only); rw [e]; rfl) rfl (ih (s.1 + 1, s.2) ⟨(show s.1 + 1 ≤ 10 by omega), (by rw [e]; exact h161), hG, zg⟩ (show 10 - (s.1 + 1) < 10 - s.1 by omega)))
            | (have e : wrS (aE a) p ft m (s.1 + 1) = (imax (wrS (aE a) p ft m s.1).1 ((upd (wrS (aE a) p ft m s.1).2 h ((wrS (aE a) p ft m s.1).2 h + nI 1)) h), (upd (wrS (aE a) p ft m s.1).2 h ((wrS (aE a) p ft m s.1).2 h + nI 1))) := by
                 refine (if_neg h43).trans ?_
                 dsimp only
                 rw [eh, nN_nI (by omega)]
               have ev : (xu z 161 h (z 161 h + nI 1)) 161 h = (upd (wrS (aE a) p ft m s.1).2 h ((wrS (aE a) p ft m s.1).2 h + nI 1)) h := by show upd (z 161) h (z 161 h + nI 1) h = _; rw [z161]
               have ei : imax (wrS (aE a) p ft m s.1).1 ((upd (wrS (aE a) p ft m s.1).2 h ((wrS (aE a) p ft m s.1).2 h + nI 1)) h) = (wrS (aE a) p ft m s.1).1 := by unfold imax; rw [ev] at h79; rw [if_neg (Int32.not_lt.mpr h79)]
               refine PW.lc ?_ rfl (ih (s.1 + 1, (xu z 161 h (z 161 h + nI 1))) ⟨(show s.1 + 1 ≤ 10 by omega), (by rw [e]; show upd (z 161) h (z 161 h + nI 1) = _; rw [z161]), (hG.trans F1).put (by omega), (show (xu z 161 h (z 161 h + nI 1)) 137 0 = _ from z1.trans zg)⟩ (show 10 - (s.1 + 1) < 10 - s.1 by omega))
               dsimp only
               rw [e, ei]
               rfl)
            | (have e : wrS (aE a) p ft m (s.1 + 1) = (imax (wrS (aE a) p ft m s.1).1 ((upd (wrS (aE a) p ft m s.1).2 h ((wrS (aE a) p ft m s.1).2 h + nI 1)) h), (upd (wrS (aE a) p ft m s.1).2 h ((wrS (aE a) p ft m s.1).2 h + nI 1))) := by
                 refine (if_neg h43).trans ?_
                 dsimp only
                 rw [eh, nN_nI (by omega)]
               have ev : (xu z 161 h (z 161 h + nI 1)) 161 h = (upd (wrS (aE a) p ft m s.1).2 h ((wrS (aE a) p ft m s.1).2 h + nI 1)) h := by show upd (z 161) h (z 161 h + nI 1) h = _; rw [z161]
               have ei : imax (wrS (aE a) p ft m s.1).1 ((upd (wrS (aE a) p ft m s.1).2 h ((wrS (aE a) p ft m s.1).2 h + nI 1)) h) = (xu z 161 h (z 161 h + nI 1)) 161 h := by unfold imax; rw [ev] at h79; rw [if_pos (Int32.not_le.mp h79), ← ev]
               refine PW.lc ?_ rfl (ih (s.1 + 1, (xu z 161 h (z 161 h + nI 1))) ⟨(show s.1 + 1 ≤ 10 by omega), (by rw [e]; show upd (z 161) h (z 161 h + nI 1) = _; rw [z161]), (hG.trans F1).put (by omega), (show (xu z 161 h (z 161 h + nI 1)) 137 0 = _ from z1.trans zg)⟩ (show 10 - (s.1 + 1) < 10 - s.1 by omega))
               dsimp only
               rw [e, ei]
               rfl)
        · refine r_aload_n dX10_worstAt_82 rfl (by rfl) ?_
          refine gf_X10_86 rfl dX10_worstAt_83 (by first | assumption | rfl) (by rfl) ?_
          refine r_iload dX10_worstAt_86 (by rfl) ?_
          refine r_ialdN dX10_worstAt_88 (by first | assumption | rfl) (by omega) (by decide) ?_
          refine r_goto (tgt := 94) dX10_worstAt_89 (by decide) ?_
          refine r_istore dX10_worstAt_94 (by decide) ?_
          refine r_iincN dX10_worstAt_96 (by rfl) (by decide) ?_
          refine r_goto (tgt := 30) dX10_worstAt_99 (by decide) ?_
          first
            | (have e : wrS (aE a) p ft m (s.1 + 1) = wrS (aE a) p ft m s.1 := if_pos h43
               exact PW.lc (by (try dsimp only); rw [e]; rfl) rfl (ih (s.1 + 1, s.2) ⟨(show s.1 + 1 ≤ 10 by omega), (by rw [e]; exact h161), hG, zg⟩ (show 10 - (s.1 + 1) < 10 - s.1 by omega)))
            | (have e : wrS (aE a) p ft m (s.1 + 1) = (imax (wrS (aE a) p ft m s.1).1 ((upd (wrS (aE a) p ft m s.1).2 h ((wrS (aE a) p ft m s.1).2 h + nI 1)) h), (upd (wrS (aE a) p ft m s.1).2 h ((wrS (aE a) p ft m s.1).2 h + nI 1))) := by
                 refine (if_neg h43).trans ?_
                 dsimp only
                 rw [eh, nN_nI (by omega)]
               have ev : (xu z 161 h (z 161 h + nI 1)) 161 h = (upd (wrS (aE a) p ft m s.1).2 h ((wrS (aE a) p ft m s.1).2 h + nI 1)) h := by show upd (z 161) h (z 161 h + nI 1) h = _; rw [z161]
               have ei : imax (wrS (aE a) p ft m s.1).1 ((upd (wrS (aE a) p ft m s.1).2 h ((wrS (aE a) p ft m s.1).2 h + nI 1)) h) = (wrS (aE a) p ft m s.1).1 := by unfold imax; rw [ev] at h79; rw [if_neg (Int32.not_lt.mpr h79)]
               refine PW.lc ?_ rfl (ih (s.1 + 1, (xu z 161 h (z 161 h + nI 1))) ⟨(show s.1 + 1 ≤ 10 by omega), (by rw [e]; show upd (z 161) h (z 161 h + nI 1) = _; rw [z161]), (hG.trans F1).put (by omega), (show (xu z 161 h (z 161 h + nI 1)) 137 0 = _ from z1.trans zg)⟩ (show 10 - (s.1 + 1) < 10 - s.1 by omega))
               dsimp only
               rw [e, ei]
               rfl)
            | (have e : wrS (aE a) p ft m (s.1 + 1) = (imax (wrS (aE a) p ft m s.1).1 ((upd (wrS (aE a) p ft m s.1).2 h ((wrS (aE a) p ft m s.1).2 h + nI 1)) h), (upd (wrS (aE a) p ft m s.1).2 h ((wrS (aE a) p ft m s.1).2 h + nI 1))) := by
                 refine (if_neg h43).trans ?_
                 dsimp only
                 rw [eh, nN_nI (by omega)]
               have ev : (xu z 161 h (z 161 h + nI 1)) 161 h = (upd (wrS (aE a) p ft m s.1).2 h ((wrS (aE a) p ft m s.1).2 h + nI 1)) h := by show upd (z 161) h (z 161 h + nI 1) h = _; rw [z161]
               have ei : imax (wrS (aE a) p ft m s.1).1 ((upd (wrS (aE a) p ft m s.1).2 h ((wrS (aE a) p ft m s.1).2 h + nI 1)) h) = (xu z 161 h (z 161 h + nI 1)) 161 h := by unfold imax; rw [ev] at h79; rw [if_pos (Int32.not_le.mp h79), ← ev]
               refine PW.lc ?_ rfl (ih (s.1 + 1, (xu z 161 h (z 161 h + nI 1))) ⟨(show s.1 + 1 ≤ 10 by omega), (by rw [e]; show upd (z 161) h (z 161 h + nI 1) = _; rw [z161]), (hG.trans F1).put (by omega), (show (xu z 161 h (z 161 h + nI 1)) 137 0 = _ from z1.trans zg)⟩ (show 10 - (s.1 + 1) < 10 - s.1 by omega))
               dsimp only
               rw [e, ei]
               rfl)
      · refine r_goto (tgt := 96) dX10_worstAt_46 (by decide) ?_
        refine r_iincN dX10_worstAt_96 (by rfl) (by decide) ?_
        refine r_goto (tgt := 30) dX10_worstAt_99 (by decide) ?_
        first
          | (have e : wrS (aE a) p ft m (s.1 + 1) = wrS (aE a) p ft m s.1 := if_pos h43
             exact PW.lc (by (try dsimp only); rw [e]; rfl) rfl (ih (s.1 + 1, s.2) ⟨(show s.1 + 1 ≤ 10 by omega), (by rw [e]; exact h161), hG, zg⟩ (show 10 - (s.1 + 1) < 10 - s.1 by omega)))
          | (have e : wrS (aE a) p ft m (s.1 + 1) = (imax (wrS (aE a) p ft m s.1).1 ((upd (wrS (aE a) p ft m s.1).2 h ((wrS (aE a) p ft m s.1).2 h + nI 1)) h), (upd (wrS (aE a) p ft m s.1).2 h ((wrS (aE a) p ft m s.1).2 h + nI 1))) := by
               refine (if_neg h43).trans ?_
               dsimp only
               rw [eh, nN_nI (by omega)]
             have ev : (xu z 161 h (z 161 h + nI 1)) 161 h = (upd (wrS (aE a) p ft m s.1).2 h ((wrS (aE a) p ft m s.1).2 h + nI 1)) h := by show upd (z 161) h (z 161 h + nI 1) h = _; rw [z161]
             have ei : imax (wrS (aE a) p ft m s.1).1 ((upd (wrS (aE a) p ft m s.1).2 h ((wrS (aE a) p ft m s.1).2 h + nI 1)) h) = (wrS (aE a) p ft m s.1).1 := by unfold imax; rw [ev] at h79; rw [if_neg (Int32.not_lt.mpr h79)]
             refine PW.lc ?_ rfl (ih (s.1 + 1, (xu z 161 h (z 161 h + nI 1))) ⟨(show s.1 + 1 ≤ 10 by omega), (by rw [e]; show upd (z 161) h (z 161 h + nI 1) = _; rw [z161]), (hG.trans F1).put (by omega), (show (xu z 161 h (z 161 h + nI 1)) 137 0 = _ from z1.trans zg)⟩ (show 10 - (s.1 + 1) < 10 - s.1 by omega))
             dsimp only
             rw [e, ei]
             rfl)
          | (have e : wrS (aE a) p ft m (s.1 + 1) = (imax (wrS (aE a) p ft m s.1).1 ((upd (wrS (aE a) p ft m s.1).2 h ((wrS (aE a) p ft m s.1).2 h + nI 1)) h), (upd (wrS (aE a) p ft m s.1).2 h ((wrS (aE a) p ft m s.1).2 h + nI 1))) := by
               refine (if_neg h43).trans ?_
               dsimp only
               rw [eh, nN_nI (by omega)]
             have ev : (xu z 161 h (z 161 h + nI 1)) 161 h = (upd (wrS (aE a) p ft m s.1).2 h ((wrS (aE a) p ft m s.1).2 h + nI 1)) h := by show upd (z 161) h (z 161 h + nI 1) h = _; rw [z161]
             have ei : imax (wrS (aE a) p ft m s.1).1 ((upd (wrS (aE a) p ft m s.1).2 h ((wrS (aE a) p ft m s.1).2 h + nI 1)) h) = (xu z 161 h (z 161 h + nI 1)) 161 h := by unfold imax; rw [ev] at h79; rw [if_pos (Int32.not_le.mp h79), ← ev]
             refine PW.lc ?_ rfl (ih (s.1 + 1, (xu z 161 h (z 161 h + nI 1))) ⟨(show s.1 + 1 ≤ 10 by omega), (by rw [e]; show upd (z 161) h (z 161 h + nI 1) = _; rw [z161]), (hG.trans F1).put (by omega), (show (xu z 161 h (z 161 h + nI 1)) 137 0 = _ from z1.trans zg)⟩ (show 10 - (s.1 + 1) < 10 - s.1 by omega))
             dsimp only
             rw [e, ei]
             rfl)
  · refine r_aload_n dX10_worstAt_10 rfl (by rfl) ?_
    refine gf_X10_86 rfl dX10_worstAt_11 (by first | assumption | rfl) (by rfl) ?_
    refine r_iload dX10_worstAt_14 (by rfl) ?_
    refine r_iconst (v := nI 0) dX10_worstAt_16 (by decide) ?_
    refine r_iastN dX10_worstAt_17 (by first | assumption | rfl) (by omega) (by decide) ?_
    refine r_iincN dX10_worstAt_18 (by rfl) (by decide) ?_
    refine r_goto (tgt := 3) dX10_worstAt_21 (by decide) ?_
    exact PW.lc (by rfl) (by rw [xu_xr]; rfl) (jh (i + 1) (by omega) (by omega))
theorem wrS_is {E : NE} {p m : Nat} {ft : Int32} : ∀ i, i ≤ 10 → (∃ k, k ≤ i ∧ (wrS E p ft m i).1 = nI k) ∧ ∀ h, ∃ k, k ≤ i ∧ (wrS E p ft m i).2 h = nI k
  | 0, _ => ⟨⟨0, by decide, rfl⟩, fun h => ⟨0, by decide, rfl⟩⟩
  | i + 1, hi => by
    obtain ⟨⟨k, hk, ek⟩, ih⟩ := wrS_is (E := E) (p := p) (m := m) (ft := ft) i (by omega)
    unfold wrS
    split
    · exact ⟨⟨k, by omega, ek⟩, fun h => by obtain ⟨j, hj, ej⟩ := ih h; exact ⟨j, by omega, ej⟩⟩
    · dsimp only
      obtain ⟨j, hj, ej⟩ := ih (nN (hadP E p (nI i) m))
      refine ⟨?_, fun h => ?_⟩
      · rw [pk_us, ek, ej, nI_1', imax_N (by omega) (by omega)]
        exact ⟨_, by omega, rfl⟩
      · by_cases e : h = nN (hadP E p (nI i) m)
        · rw [e, pk_us, ej, nI_1']
          exact ⟨_, by omega, rfl⟩
        · rw [pk_un e]
          obtain ⟨j2, hj2, ej2⟩ := ih h
          exact ⟨j2, by omega, ej2⟩
def lsN (a : AS) (p : Nat) (ft : Int32) (m : Nat) : Int32 := if (lsF a p ft m).2 = -1 then -1 else (lsF a p ft m).1
theorem lsF_is {a : AS} {p : Nat} {ft : Int32} : ∀ m, m ≤ 240 → ((lsF a p ft m).2 = -1 ∧ (lsF a p ft m).1 = nI 11 ∧ ∀ j, j < m → bkHas (aB a) j = true) ∨ ((∃ j, j < 240 ∧ (lsF a p ft m).2 = nI j) ∧ ∃ k, k ≤ 10 ∧ (lsF a p ft m).1 = nI k)
  | 0, _ => Or.inl ⟨rfl, rfl, fun j hj => absurd hj (Nat.not_lt_zero _)⟩
  | m + 1, hm => by
    have ih := lsF_is (a := a) (p := p) (ft := ft) m (by omega)
    obtain ⟨k, hk, ek⟩ := (wrS_is (E := aE a) (p := p) (m := m) (ft := ft) 10 (by omega)).1
    have e : lsF a p ft (m + 1) = if bkHas (aB a) m then lsF a p ft m else if (wrS (aE a) p ft m 10).1 < (lsF a p ft m).1 then ((wrS (aE a) p ft m 10).1, nI m) else lsF a p ft m := rfl
    rw [e]
    by_cases hb : bkHas (aB a) m = true
    · rw [if_pos hb]
      rcases ih with ⟨i1, i2, i3⟩ | ih
      · exact Or.inl ⟨i1, i2, fun j hj => by
          by_cases q : j = m
          · rw [q]; exact hb
          · exact i3 j (by omega)⟩
      · exact Or.inr ih
    · rw [if_neg hb]
      split
      · exact Or.inr ⟨⟨m, by omega, rfl⟩, k, hk, ek⟩
      · next hn =>
        rcases ih with ⟨i1, i2, i3⟩ | ih
        · rw [i2, ek] at hn
          exact absurd (nI_lt (show k < 11 by omega) (by decide)) hn
        · exact Or.inr ih
theorem pig : ∀ (n : Nat) (L : List Nat), (∀ m, m < n → m ∈ L) → n ≤ L.length
  | 0, _, _ => Nat.zero_le _
  | n + 1, L, h => by
    have h1 := h n (by omega)
    have ih := pig n (L.erase n) (fun m hm => (List.mem_erase_of_ne (by omega)).mpr (h m (by omega)))
    rw [List.length_erase_of_mem h1] at ih
    have : 0 < L.length := List.length_pos_of_mem h1
    omega
theorem lsF_found {a : AS} {p : Nat} {ft : Int32} (h8 : (aB a).length ≤ 8) : ¬ (lsF a p ft 240).2 = -1 := by
  rcases lsF_is (a := a) (p := p) (ft := ft) 240 (Nat.le_refl _) with ⟨_, _, i3⟩ | ⟨⟨j, hj, ej⟩, _⟩
  · exfalso
    have := pig 9 ((aB a).map (fun q => q.1)) (fun m hm => by
      have w := i3 m (by omega)
      unfold bkHas at w
      obtain ⟨q, hq, e⟩ := List.any_eq_true.mp w
      exact List.mem_map.mpr ⟨q, hq, by simpa using e⟩)
    rw [List.length_map] at this
    omega
  · rw [ej]
    exact nI_ne1 (by omega)
set_option maxHeartbeats 8000000 in
set_option maxRecDepth 20000 in
theorem g_listen {a : AS} {x : XS} {v w : Int32} (hR : RRf x a) (hA : AI a) : RASK mX10_listen [.ref 137, .int v, .int w] x a (oListen a v w) 2 := by
  refine MM.of (by decide) (Nat.le_of_ble_eq_true rfl) ?_
  have y137 := lay_137
  refine r_aload_n dX10_listen_0 rfl (by rfl) ?_
  refine r_iconst (v := nI 0) dX10_listen_1 (by decide) ?_
  refine pf_X10_3 rfl dX10_listen_2 (by first | assumption | rfl) (by rfl) ?_
  refine r_aload_n dX10_listen_5 rfl (by rfl) ?_
  refine r_iload_n dX10_listen_6 rfl (by rfl) ?_
  refine r_iconst (v := nI 1) dX10_listen_7 (by decide) ?_
  by_cases q8 : nobody v (eN (aE a)) = true
  · refine r_callV (c_isS_f hR.th.1.1 xu_s q8) mv_X10_isSleeper ml_X10_383 ⟨by decide, by decide⟩ dX10_listen_8 lay_137 rfl rfl rfl (Nat.le_of_ble_eq_true rfl) (fun v9 x9 h9 => ?_)
    obtain ⟨rfl, h9⟩ := h9
    refine PW.xeq h9 ?_
    clear h9 x9
    refine r_if_eqB (tgt := 29) dX10_listen_11 (by decide) (fun _ => ?_) (fun h => by cases h)
    refine r_iconst (v := nI 0) dX10_listen_29 (by decide) ?_
    refine r_iret rfl dX10_listen_30 ?_
    exact ref_nob hR rfl (by rw [oListen, rqS_t q8])
  · have q8 := Bool.eq_false_iff.mpr q8
    obtain ⟨p, hp, rfl⟩ := nobody_f hR.1.2.1 q8
    have hp5 : p < 5 := Nat.lt_of_lt_of_le hp hR.1.2.1
    refine r_callV (c_isS_t hR.th.1.1 hR.1.2.1 xu_s hp) mv_X10_isSleeper ml_X10_383 ⟨by decide, by decide⟩ dX10_listen_8 lay_137 rfl rfl rfl (Nat.le_of_ble_eq_true rfl) (fun v9 x9 h9 => ?_)
    obtain ⟨rfl, h9⟩ := h9
    refine PW.xeq h9 ?_
    clear h9 x9
    refine r_if_eqB (tgt := 29) dX10_listen_11 (by decide) (fun h => by cases h) (fun _ => ?_)
    refine r_aload_n dX10_listen_14 rfl (by rfl) ?_
    refine r_iload_n dX10_listen_15 rfl (by rfl) ?_
    refine r_iconst (v := nI 0) dX10_listen_16 (by decide) ?_
    refine r_iconst (v := nI 1) dX10_listen_17 (by decide) ?_
    refine r_callS c_within10 ms_X10_within ml_X10_282 ⟨by decide, by decide⟩ dX10_listen_18 rfl (Nat.le_of_ble_eq_true rfl) (fun v9 x9 h9 => ?_)
    obtain ⟨rfl, h9⟩ := h9
    refine PW.xeq h9 ?_
    clear h9 x9
    refine r_iconst (v := nI 2) dX10_listen_21 (by decide) ?_
    refine r_iconst (v := nI 1) dX10_listen_22 (by decide) ?_
    refine PW.caseB3 (fun q23 => ?_) (fun q23 => ?_)
    · refine r_callV (c_may_t xu_s) mv_X10_may ml_X10_203 ⟨by decide, by decide⟩ dX10_listen_23 lay_137 rfl rfl rfl (Nat.le_of_ble_eq_true rfl) (fun v9 x9 h9 => ?_)
      obtain ⟨rfl, h9⟩ := h9
      refine PW.xeq h9 ?_
      clear h9 x9
      refine r_if_neB (tgt := 31) dX10_listen_26 (by decide) (fun _ => ?_) (fun h => by cases h)
      obtain ⟨k, _, hk, rfl⟩ := inB_is (lo := 0) (hi := 1) q23 (by decide) (by decide)
      refine r_aload_n dX10_listen_31 rfl (by rfl) ?_
      refine r_iload_n dX10_listen_32 rfl (by rfl) ?_
      refine r_callV (n_fitsOf hR.th hA hp) mv_X10_fitsOf ml_X10_423 ⟨by decide, by decide⟩ dX10_listen_33 (by first | assumption | rfl) rfl rfl rfl (Nat.le_of_ble_eq_true rfl) (fun v9 y h9 => ?_)
      obtain ⟨rfl, F1, z1⟩ := h9
      refine r_istore_n dX10_listen_36 rfl (by decide) ?_
      refine r_iconst (v := -1) dX10_listen_37 (by decide) ?_
      refine r_istore dX10_listen_38 (by decide) ?_
      refine r_iconst (v := -1) dX10_listen_40 (by decide) ?_
      refine r_istore dX10_listen_41 (by decide) ?_
      refine r_iconst (v := nI 0) dX10_listen_43 (by decide) ?_
      refine r_istore dX10_listen_44 (by decide) ?_
      refine PW.loop (σ := Nat × XS) (fun s => 240 - s.1) (fun s => s.1 ≤ 240 ∧ QF x s.2 ∧ s.2 137 0 = nI 0) (fun s => [(0, .ref 137), (1, .int (nI p)), (2, .int (nI k)), (3, .int (ftP a p 10)), (4, .int (lsF a p (ftP a p 10) s.1).2), (5, .int (lsN a p (ftP a p 10) s.1)), (6, .int (nI s.1))]) (fun s => s.2) ((0, y)) (⟨Nat.zero_le _, (th0_qf x).trans F1, z1.trans rfl⟩) rfl rfl (fun s hs ih => ?_)
      obtain ⟨hs1, hG, zg⟩ := hs
      refine r_iload dX10_listen_46 (by rfl) ?_
      refine r_sipush (v := nI 240) dX10_listen_48 (by decide) ?_
      refine r_icmp_geN (tgt := 106) dX10_listen_51 (by decide) (by omega) (by omega) (fun h51 => ?_) (fun h51 => ?_)
      · refine r_iload_n dX10_listen_106 rfl (by rfl) ?_
        refine r_if_ne (tgt := 115) dX10_listen_107 (by decide) (fun h107 => ?_) (fun h107 => ?_)
        · refine r_iload dX10_listen_115 (by rfl) ?_
          refine r_iret rfl dX10_listen_117 ?_
          refine ref_ok hR hG zg ?_
          have es : s.1 = 240 := by omega
          rw [oListen, rqS_f q8, rq_t q23, nN_nI (by omega)]
          have e9 : lsN a p (ftP a p 10) s.1 = (lsF a p (ftP a p 10) 240).1 := by
            unfold lsN
            rw [es, if_neg (lsF_found hR.2.2.2.2.1.2.1)]
          first | rw [e9] | rw [es]
          dsimp only
          first
            | (have hk0 : k = 0 := by
                 by_cases e : k = 0
                 · exact e
                 · exact absurd h107 (nI_ne0 (by omega) (by omega))
               subst hk0
               rfl)
            | (rw [if_neg (show ¬ nI k = nI 0 from h107)])
        · refine r_iload dX10_listen_110 (by rfl) ?_
          refine r_goto (tgt := 117) dX10_listen_112 (by decide) ?_
          refine r_iret rfl dX10_listen_117 ?_
          refine ref_ok hR hG zg ?_
          have es : s.1 = 240 := by omega
          rw [oListen, rqS_f q8, rq_t q23, nN_nI (by omega)]
          have e9 : lsN a p (ftP a p 10) s.1 = (lsF a p (ftP a p 10) 240).1 := by
            unfold lsN
            rw [es, if_neg (lsF_found hR.2.2.2.2.1.2.1)]
          first | rw [e9] | rw [es]
          dsimp only
          first
            | (have hk0 : k = 0 := by
                 by_cases e : k = 0
                 · exact e
                 · exact absurd h107 (nI_ne0 (by omega) (by omega))
               subst hk0
               rfl)
            | (rw [if_neg (show ¬ nI k = nI 0 from h107)])
      · refine r_aload_n dX10_listen_54 rfl (by rfl) ?_
        refine r_iload dX10_listen_55 (by rfl) ?_
        refine r_callV (n_isTold (hR.qf hG) (by omega)) mv_X10_isTold ml_X10_426 ⟨by decide, by decide⟩ dX10_listen_57 (by first | assumption | rfl) rfl rfl rfl (Nat.le_of_ble_eq_true rfl) (fun v9 x9 h9 => ?_)
        obtain ⟨rfl, h9⟩ := h9
        refine PW.xeq h9 ?_
        clear h9 x9
        refine r_if_eqB (tgt := 66) dX10_listen_60 (by decide) (fun h60 => ?_) (fun h60 => ?_)
        · refine r_aload_n dX10_listen_66 rfl (by rfl) ?_
          refine r_iload_n dX10_listen_67 rfl (by rfl) ?_
          refine r_iload dX10_listen_68 (by rfl) ?_
          refine r_iload_n dX10_listen_70 rfl (by rfl) ?_
          refine r_callV (n_worstAt (hR.qf hG) hA hp (by omega)) mv_X10_worstAt ml_X10_429 ⟨by decide, by decide⟩ dX10_listen_71 (by first | assumption | rfl) rfl rfl rfl (Nat.le_of_ble_eq_true rfl) (fun v9 z h9 => ?_)
          obtain ⟨rfl, F2, z2⟩ := h9
          refine r_istore dX10_listen_74 (by decide) ?_
          refine r_iload dX10_listen_76 (by rfl) ?_
          refine r_iconst (v := -1) dX10_listen_78 (by decide) ?_
          refine r_icmp_eq (tgt := 92) dX10_listen_79 (by decide) (fun h79 => ?_) (fun h79 => ?_)
          · refine r_iload dX10_listen_92 (by rfl) ?_
            refine r_istore dX10_listen_94 (by decide) ?_
            refine r_iload dX10_listen_96 (by rfl) ?_
            refine r_istore dX10_listen_98 (by decide) ?_
            refine r_iincN dX10_listen_100 (by rfl) (by decide) ?_
            refine r_goto (tgt := 46) dX10_listen_103 (by decide) ?_
            have hL := lsF_is (a := a) (p := p) (ft := ftP a p 10) s.1 (by omega)
            first
              | (have e1 : (lsF a p (ftP a p 10) (s.1 + 1)).2 = (lsF a p (ftP a p 10) s.1).2 ∧ lsN a p (ftP a p 10) (s.1 + 1) = lsN a p (ftP a p 10) s.1 := by
                   have e0 : lsF a p (ftP a p 10) (s.1 + 1) = if bkHas (aB a) s.1 then (lsF a p (ftP a p 10) s.1) else if (wrS (aE a) p (ftP a p 10) s.1 10).1 < (lsF a p (ftP a p 10) s.1).1 then ((wrS (aE a) p (ftP a p 10) s.1 10).1, nI s.1) else (lsF a p (ftP a p 10) s.1) := rfl
                   unfold lsN at *
                   rw [e0, if_pos h60]; exact ⟨rfl, rfl⟩
                 exact PW.lc (by (try dsimp only); rw [e1.1, e1.2]; rfl) rfl (ih (s.1 + 1, s.2) ⟨(show s.1 + 1 ≤ 240 by omega), hG, zg⟩ (show 240 - (s.1 + 1) < 240 - s.1 by omega)))
              | (have e1 : (lsF a p (ftP a p 10) (s.1 + 1)).2 = nI s.1 ∧ lsN a p (ftP a p 10) (s.1 + 1) = (wrS (aE a) p (ftP a p 10) s.1 10).1 := by
                   have e0 : lsF a p (ftP a p 10) (s.1 + 1) = if bkHas (aB a) s.1 then (lsF a p (ftP a p 10) s.1) else if (wrS (aE a) p (ftP a p 10) s.1 10).1 < (lsF a p (ftP a p 10) s.1).1 then ((wrS (aE a) p (ftP a p 10) s.1 10).1, nI s.1) else (lsF a p (ftP a p 10) s.1) := rfl
                   unfold lsN at *
                   obtain ⟨kk, hkk, ekk⟩ := (wrS_is (E := aE a) (p := p) (m := s.1) (ft := ftP a p 10) 10 (Nat.le_refl _)).1
                   have hlt : (wrS (aE a) p (ftP a p 10) s.1 10).1 < (lsF a p (ftP a p 10) s.1).1 := by
                     rcases hL with ⟨_, i2, _⟩ | ⟨⟨j, hj, ej⟩, _⟩
                     · rw [i2, ekk]; exact nI_lt (show kk < 11 by omega) (by decide)
                     · exact absurd (ej.symm.trans h79) (nI_ne1 (by omega))
                   rw [e0, if_neg (by rw [h60]; decide), if_pos hlt]
                   exact ⟨rfl, if_neg (nI_ne1 (by omega))⟩
                 exact PW.lc (by (try dsimp only); rw [e1.1, e1.2]; rfl) rfl (ih (s.1 + 1, z) ⟨(show s.1 + 1 ≤ 240 by omega), hG.trans F2, z2.trans zg⟩ (show 240 - (s.1 + 1) < 240 - s.1 by omega)))
              | (have e1 : (lsF a p (ftP a p 10) (s.1 + 1)).2 = nI s.1 ∧ lsN a p (ftP a p 10) (s.1 + 1) = (wrS (aE a) p (ftP a p 10) s.1 10).1 := by
                   have e0 : lsF a p (ftP a p 10) (s.1 + 1) = if bkHas (aB a) s.1 then (lsF a p (ftP a p 10) s.1) else if (wrS (aE a) p (ftP a p 10) s.1 10).1 < (lsF a p (ftP a p 10) s.1).1 then ((wrS (aE a) p (ftP a p 10) s.1 10).1, nI s.1) else (lsF a p (ftP a p 10) s.1) := rfl
                   unfold lsN at *
                   obtain ⟨kk, hkk, ekk⟩ := (wrS_is (E := aE a) (p := p) (m := s.1) (ft := ftP a p 10) 10 (Nat.le_refl _)).1
                   have hlt : (wrS (aE a) p (ftP a p 10) s.1 10).1 < (lsF a p (ftP a p 10) s.1).1 := by
                     rw [if_neg h79] at h86; exact h86
                   rw [e0, if_neg (by rw [h60]; decide), if_pos hlt]
                   exact ⟨rfl, if_neg (nI_ne1 (by omega))⟩
                 exact PW.lc (by (try dsimp only); rw [e1.1, e1.2]; rfl) rfl (ih (s.1 + 1, z) ⟨(show s.1 + 1 ≤ 240 by omega), hG.trans F2, z2.trans zg⟩ (show 240 - (s.1 + 1) < 240 - s.1 by omega)))
              | (have e1 : (lsF a p (ftP a p 10) (s.1 + 1)).2 = (lsF a p (ftP a p 10) s.1).2 ∧ lsN a p (ftP a p 10) (s.1 + 1) = lsN a p (ftP a p 10) s.1 := by
                   have e0 : lsF a p (ftP a p 10) (s.1 + 1) = if bkHas (aB a) s.1 then (lsF a p (ftP a p 10) s.1) else if (wrS (aE a) p (ftP a p 10) s.1 10).1 < (lsF a p (ftP a p 10) s.1).1 then ((wrS (aE a) p (ftP a p 10) s.1 10).1, nI s.1) else (lsF a p (ftP a p 10) s.1) := rfl
                   unfold lsN at *
                   rw [if_neg h79] at h86
                   rw [e0, if_neg (by rw [h60]; decide), if_neg h86]; exact ⟨rfl, rfl⟩
                 exact PW.lc (by (try dsimp only); rw [e1.1, e1.2]; rfl) rfl (ih (s.1 + 1, z) ⟨(show s.1 + 1 ≤ 240 by omega), hG.trans F2, z2.trans zg⟩ (show 240 - (s.1 + 1) < 240 - s.1 by omega)))
          · refine r_iload dX10_listen_82 (by rfl) ?_
            refine r_iload dX10_listen_84 (by rfl) ?_
            refine r_icmp_lt (tgt := 92) dX10_listen_86 (by decide) (fun h86 => ?_) (fun h86 => ?_)
            · refine r_iload dX10_listen_92 (by rfl) ?_
              refine r_istore dX10_listen_94 (by decide) ?_
              refine r_iload dX10_listen_96 (by rfl) ?_
              refine r_istore dX10_listen_98 (by decide) ?_
              refine r_iincN dX10_listen_100 (by rfl) (by decide) ?_
              refine r_goto (tgt := 46) dX10_listen_103 (by decide) ?_
              have hL := lsF_is (a := a) (p := p) (ft := ftP a p 10) s.1 (by omega)
              first
                | (have e1 : (lsF a p (ftP a p 10) (s.1 + 1)).2 = (lsF a p (ftP a p 10) s.1).2 ∧ lsN a p (ftP a p 10) (s.1 + 1) = lsN a p (ftP a p 10) s.1 := by
                     have e0 : lsF a p (ftP a p 10) (s.1 + 1) = if bkHas (aB a) s.1 then (lsF a p (ftP a p 10) s.1) else if (wrS (aE a) p (ftP a p 10) s.1 10).1 < (lsF a p (ftP a p 10) s.1).1 then ((wrS (aE a) p (ftP a p 10) s.1 10).1, nI s.1) else (lsF a p (ftP a p 10) s.1) := rfl
                     unfold lsN at *
                     rw [e0, if_pos h60]; exact ⟨rfl, rfl⟩
                   exact PW.lc (by (try dsimp only); rw [e1.1, e1.2]; rfl) rfl (ih (s.1 + 1, s.2) ⟨(show s.1 + 1 ≤ 240 by omega), hG, zg⟩ (show 240 - (s.1 + 1) < 240 - s.1 by omega)))
                | (have e1 : (lsF a p (ftP a p 10) (s.1 + 1)).2 = nI s.1 ∧ lsN a p (ftP a p 10) (s.1 + 1) = (wrS (aE a) p (ftP a p 10) s.1 10).1 := by
                     have e0 : lsF a p (ftP a p 10) (s.1 + 1) = if bkHas (aB a) s.1 then (lsF a p (ftP a p 10) s.1) else if (wrS (aE a) p (ftP a p 10) s.1 10).1 < (lsF a p (ftP a p 10) s.1).1 then ((wrS (aE a) p (ftP a p 10) s.1 10).1, nI s.1) else (lsF a p (ftP a p 10) s.1) := rfl
                     unfold lsN at *
                     obtain ⟨kk, hkk, ekk⟩ := (wrS_is (E := aE a) (p := p) (m := s.1) (ft := ftP a p 10) 10 (Nat.le_refl _)).1
                     have hlt : (wrS (aE a) p (ftP a p 10) s.1 10).1 < (lsF a p (ftP a p 10) s.1).1 := by
                       rcases hL with ⟨_, i2, _⟩ | ⟨⟨j, hj, ej⟩, _⟩
                       · rw [i2, ekk]; exact nI_lt (show kk < 11 by omega) (by decide)
                       · exact absurd (ej.symm.trans h79) (nI_ne1 (by omega))
                     rw [e0, if_neg (by rw [h60]; decide), if_pos hlt]
                     exact ⟨rfl, if_neg (nI_ne1 (by omega))⟩
                   exact PW.lc (by (try dsimp only); rw [e1.1, e1.2]; rfl) rfl (ih (s.1 + 1, z) ⟨(show s.1 + 1 ≤ 240 by omega), hG.trans F2, z2.trans zg⟩ (show 240 - (s.1 + 1) < 240 - s.1 by omega)))
                | (have e1 : (lsF a p (ftP a p 10) (s.1 + 1)).2 = nI s.1 ∧ lsN a p (ftP a p 10) (s.1 + 1) = (wrS (aE a) p (ftP a p 10) s.1 10).1 := by
                     have e0 : lsF a p (ftP a p 10) (s.1 + 1) = if bkHas (aB a) s.1 then (lsF a p (ftP a p 10) s.1) else if (wrS (aE a) p (ftP a p 10) s.1 10).1 < (lsF a p (ftP a p 10) s.1).1 then ((wrS (aE a) p (ftP a p 10) s.1 10).1, nI s.1) else (lsF a p (ftP a p 10) s.1) := rfl
                     unfold lsN at *
                     obtain ⟨kk, hkk, ekk⟩ := (wrS_is (E := aE a) (p := p) (m := s.1) (ft := ftP a p 10) 10 (Nat.le_refl _)).1
                     have hlt : (wrS (aE a) p (ftP a p 10) s.1 10).1 < (lsF a p (ftP a p 10) s.1).1 := by
                       rw [if_neg h79] at h86; exact h86
                     rw [e0, if_neg (by rw [h60]; decide), if_pos hlt]
                     exact ⟨rfl, if_neg (nI_ne1 (by omega))⟩
                   exact PW.lc (by (try dsimp only); rw [e1.1, e1.2]; rfl) rfl (ih (s.1 + 1, z) ⟨(show s.1 + 1 ≤ 240 by omega), hG.trans F2, z2.trans zg⟩ (show 240 - (s.1 + 1) < 240 - s.1 by omega)))
                | (have e1 : (lsF a p (ftP a p 10) (s.1 + 1)).2 = (lsF a p (ftP a p 10) s.1).2 ∧ lsN a p (ftP a p 10) (s.1 + 1) = lsN a p (ftP a p 10) s.1 := by
                     have e0 : lsF a p (ftP a p 10) (s.1 + 1) = if bkHas (aB a) s.1 then (lsF a p (ftP a p 10) s.1) else if (wrS (aE a) p (ftP a p 10) s.1 10).1 < (lsF a p (ftP a p 10) s.1).1 then ((wrS (aE a) p (ftP a p 10) s.1 10).1, nI s.1) else (lsF a p (ftP a p 10) s.1) := rfl
                     unfold lsN at *
                     rw [if_neg h79] at h86
                     rw [e0, if_neg (by rw [h60]; decide), if_neg h86]; exact ⟨rfl, rfl⟩
                   exact PW.lc (by (try dsimp only); rw [e1.1, e1.2]; rfl) rfl (ih (s.1 + 1, z) ⟨(show s.1 + 1 ≤ 240 by omega), hG.trans F2, z2.trans zg⟩ (show 240 - (s.1 + 1) < 240 - s.1 by omega)))
            · refine r_goto (tgt := 100) dX10_listen_89 (by decide) ?_
              refine r_iincN dX10_listen_100 (by rfl) (by decide) ?_
              refine r_goto (tgt := 46) dX10_listen_103 (by decide) ?_
              have hL := lsF_is (a := a) (p := p) (ft := ftP a p 10) s.1 (by omega)
              first
                | (have e1 : (lsF a p (ftP a p 10) (s.1 + 1)).2 = (lsF a p (ftP a p 10) s.1).2 ∧ lsN a p (ftP a p 10) (s.1 + 1) = lsN a p (ftP a p 10) s.1 := by
                     have e0 : lsF a p (ftP a p 10) (s.1 + 1) = if bkHas (aB a) s.1 then (lsF a p (ftP a p 10) s.1) else if (wrS (aE a) p (ftP a p 10) s.1 10).1 < (lsF a p (ftP a p 10) s.1).1 then ((wrS (aE a) p (ftP a p 10) s.1 10).1, nI s.1) else (lsF a p (ftP a p 10) s.1) := rfl
                     unfold lsN at *
                     rw [e0, if_pos h60]; exact ⟨rfl, rfl⟩
                   exact PW.lc (by (try dsimp only); rw [e1.1, e1.2]; rfl) rfl (ih (s.1 + 1, s.2) ⟨(show s.1 + 1 ≤ 240 by omega), hG, zg⟩ (show 240 - (s.1 + 1) < 240 - s.1 by omega)))
                | (have e1 : (lsF a p (ftP a p 10) (s.1 + 1)).2 = nI s.1 ∧ lsN a p (ftP a p 10) (s.1 + 1) = (wrS (aE a) p (ftP a p 10) s.1 10).1 := by
                     have e0 : lsF a p (ftP a p 10) (s.1 + 1) = if bkHas (aB a) s.1 then (lsF a p (ftP a p 10) s.1) else if (wrS (aE a) p (ftP a p 10) s.1 10).1 < (lsF a p (ftP a p 10) s.1).1 then ((wrS (aE a) p (ftP a p 10) s.1 10).1, nI s.1) else (lsF a p (ftP a p 10) s.1) := rfl
                     unfold lsN at *
                     obtain ⟨kk, hkk, ekk⟩ := (wrS_is (E := aE a) (p := p) (m := s.1) (ft := ftP a p 10) 10 (Nat.le_refl _)).1
                     have hlt : (wrS (aE a) p (ftP a p 10) s.1 10).1 < (lsF a p (ftP a p 10) s.1).1 := by
                       rcases hL with ⟨_, i2, _⟩ | ⟨⟨j, hj, ej⟩, _⟩
                       · rw [i2, ekk]; exact nI_lt (show kk < 11 by omega) (by decide)
                       · exact absurd (ej.symm.trans h79) (nI_ne1 (by omega))
                     rw [e0, if_neg (by rw [h60]; decide), if_pos hlt]
                     exact ⟨rfl, if_neg (nI_ne1 (by omega))⟩
                   exact PW.lc (by (try dsimp only); rw [e1.1, e1.2]; rfl) rfl (ih (s.1 + 1, z) ⟨(show s.1 + 1 ≤ 240 by omega), hG.trans F2, z2.trans zg⟩ (show 240 - (s.1 + 1) < 240 - s.1 by omega)))
                | (have e1 : (lsF a p (ftP a p 10) (s.1 + 1)).2 = nI s.1 ∧ lsN a p (ftP a p 10) (s.1 + 1) = (wrS (aE a) p (ftP a p 10) s.1 10).1 := by
                     have e0 : lsF a p (ftP a p 10) (s.1 + 1) = if bkHas (aB a) s.1 then (lsF a p (ftP a p 10) s.1) else if (wrS (aE a) p (ftP a p 10) s.1 10).1 < (lsF a p (ftP a p 10) s.1).1 then ((wrS (aE a) p (ftP a p 10) s.1 10).1, nI s.1) else (lsF a p (ftP a p 10) s.1) := rfl
                     unfold lsN at *
                     obtain ⟨kk, hkk, ekk⟩ := (wrS_is (E := aE a) (p := p) (m := s.1) (ft := ftP a p 10) 10 (Nat.le_refl _)).1
                     have hlt : (wrS (aE a) p (ftP a p 10) s.1 10).1 < (lsF a p (ftP a p 10) s.1).1 := by
                       rw [if_neg h79] at h86; exact h86
                     rw [e0, if_neg (by rw [h60]; decide), if_pos hlt]
                     exact ⟨rfl, if_neg (nI_ne1 (by omega))⟩
                   exact PW.lc (by (try dsimp only); rw [e1.1, e1.2]; rfl) rfl (ih (s.1 + 1, z) ⟨(show s.1 + 1 ≤ 240 by omega), hG.trans F2, z2.trans zg⟩ (show 240 - (s.1 + 1) < 240 - s.1 by omega)))
                | (have e1 : (lsF a p (ftP a p 10) (s.1 + 1)).2 = (lsF a p (ftP a p 10) s.1).2 ∧ lsN a p (ftP a p 10) (s.1 + 1) = lsN a p (ftP a p 10) s.1 := by
                     have e0 : lsF a p (ftP a p 10) (s.1 + 1) = if bkHas (aB a) s.1 then (lsF a p (ftP a p 10) s.1) else if (wrS (aE a) p (ftP a p 10) s.1 10).1 < (lsF a p (ftP a p 10) s.1).1 then ((wrS (aE a) p (ftP a p 10) s.1 10).1, nI s.1) else (lsF a p (ftP a p 10) s.1) := rfl
                     unfold lsN at *
                     rw [if_neg h79] at h86
                     rw [e0, if_neg (by rw [h60]; decide), if_neg h86]; exact ⟨rfl, rfl⟩
                   exact PW.lc (by (try dsimp only); rw [e1.1, e1.2]; rfl) rfl (ih (s.1 + 1, z) ⟨(show s.1 + 1 ≤ 240 by omega), hG.trans F2, z2.trans zg⟩ (show 240 - (s.1 + 1) < 240 - s.1 by omega)))
        · refine r_goto (tgt := 100) dX10_listen_63 (by decide) ?_
          refine r_iincN dX10_listen_100 (by rfl) (by decide) ?_
          refine r_goto (tgt := 46) dX10_listen_103 (by decide) ?_
          have hL := lsF_is (a := a) (p := p) (ft := ftP a p 10) s.1 (by omega)
          first
            | (have e1 : (lsF a p (ftP a p 10) (s.1 + 1)).2 = (lsF a p (ftP a p 10) s.1).2 ∧ lsN a p (ftP a p 10) (s.1 + 1) = lsN a p (ftP a p 10) s.1 := by
                 have e0 : lsF a p (ftP a p 10) (s.1 + 1) = if bkHas (aB a) s.1 then (lsF a p (ftP a p 10) s.1) else if (wrS (aE a) p (ftP a p 10) s.1 10).1 < (lsF a p (ftP a p 10) s.1).1 then ((wrS (aE a) p (ftP a p 10) s.1 10).1, nI s.1) else (lsF a p (ftP a p 10) s.1) := rfl
                 unfold lsN at *
                 rw [e0, if_pos h60]; exact ⟨rfl, rfl⟩
               exact PW.lc (by (try dsimp only); rw [e1.1, e1.2]; rfl) rfl (ih (s.1 + 1, s.2) ⟨(show s.1 + 1 ≤ 240 by omega), hG, zg⟩ (show 240 - (s.1 + 1) < 240 - s.1 by omega)))
            | (have e1 : (lsF a p (ftP a p 10) (s.1 + 1)).2 = nI s.1 ∧ lsN a p (ftP a p 10) (s.1 + 1) = (wrS (aE a) p (ftP a p 10) s.1 10).1 := by
                 have e0 : lsF a p (ftP a p 10) (s.1 + 1) = if bkHas (aB a) s.1 then (lsF a p (ftP a p 10) s.1) else if (wrS (aE a) p (ftP a p 10) s.1 10).1 < (lsF a p (ftP a p 10) s.1).1 then ((wrS (aE a) p (ftP a p 10) s.1 10).1, nI s.1) else (lsF a p (ftP a p 10) s.1) := rfl
                 unfold lsN at *
                 obtain ⟨kk, hkk, ekk⟩ := (wrS_is (E := aE a) (p := p) (m := s.1) (ft := ftP a p 10) 10 (Nat.le_refl _)).1
                 have hlt : (wrS (aE a) p (ftP a p 10) s.1 10).1 < (lsF a p (ftP a p 10) s.1).1 := by
                   rcases hL with ⟨_, i2, _⟩ | ⟨⟨j, hj, ej⟩, _⟩
                   · rw [i2, ekk]; exact nI_lt (show kk < 11 by omega) (by decide)
                   · exact absurd (ej.symm.trans h79) (nI_ne1 (by omega))
                 rw [e0, if_neg (by rw [h60]; decide), if_pos hlt]
                 exact ⟨rfl, if_neg (nI_ne1 (by omega))⟩
               exact PW.lc (by (try dsimp only); rw [e1.1, e1.2]; rfl) rfl (ih (s.1 + 1, z) ⟨(show s.1 + 1 ≤ 240 by omega), hG.trans F2, z2.trans zg⟩ (show 240 - (s.1 + 1) < 240 - s.1 by omega)))
            | (have e1 : (lsF a p (ftP a p 10) (s.1 + 1)).2 = nI s.1 ∧ lsN a p (ftP a p 10) (s.1 + 1) = (wrS (aE a) p (ftP a p 10) s.1 10).1 := by
                 have e0 : lsF a p (ftP a p 10) (s.1 + 1) = if bkHas (aB a) s.1 then (lsF a p (ftP a p 10) s.1) else if (wrS (aE a) p (ftP a p 10) s.1 10).1 < (lsF a p (ftP a p 10) s.1).1 then ((wrS (aE a) p (ftP a p 10) s.1 10).1, nI s.1) else (lsF a p (ftP a p 10) s.1) := rfl
                 unfold lsN at *
                 obtain ⟨kk, hkk, ekk⟩ := (wrS_is (E := aE a) (p := p) (m := s.1) (ft := ftP a p 10) 10 (Nat.le_refl _)).1
                 have hlt : (wrS (aE a) p (ftP a p 10) s.1 10).1 < (lsF a p (ftP a p 10) s.1).1 := by
                   rw [if_neg h79] at h86; exact h86
                 rw [e0, if_neg (by rw [h60]; decide), if_pos hlt]
                 exact ⟨rfl, if_neg (nI_ne1 (by omega))⟩
               exact PW.lc (by (try dsimp only); rw [e1.1, e1.2]; rfl) rfl (ih (s.1 + 1, z) ⟨(show s.1 + 1 ≤ 240 by omega), hG.trans F2, z2.trans zg⟩ (show 240 - (s.1 + 1) < 240 - s.1 by omega)))
            | (have e1 : (lsF a p (ftP a p 10) (s.1 + 1)).2 = (lsF a p (ftP a p 10) s.1).2 ∧ lsN a p (ftP a p 10) (s.1 + 1) = lsN a p (ftP a p 10) s.1 := by
                 have e0 : lsF a p (ftP a p 10) (s.1 + 1) = if bkHas (aB a) s.1 then (lsF a p (ftP a p 10) s.1) else if (wrS (aE a) p (ftP a p 10) s.1 10).1 < (lsF a p (ftP a p 10) s.1).1 then ((wrS (aE a) p (ftP a p 10) s.1 10).1, nI s.1) else (lsF a p (ftP a p 10) s.1) := rfl
                 unfold lsN at *
                 rw [if_neg h79] at h86
                 rw [e0, if_neg (by rw [h60]; decide), if_neg h86]; exact ⟨rfl, rfl⟩
               exact PW.lc (by (try dsimp only); rw [e1.1, e1.2]; rfl) rfl (ih (s.1 + 1, z) ⟨(show s.1 + 1 ≤ 240 by omega), hG.trans F2, z2.trans zg⟩ (show 240 - (s.1 + 1) < 240 - s.1 by omega)))
    · refine r_callV (c_may_f xu_s (by decide) (by decide)) mv_X10_may ml_X10_203 ⟨by decide, by decide⟩ dX10_listen_23 lay_137 rfl rfl rfl (Nat.le_of_ble_eq_true rfl) (fun v9 x9 h9 => ?_)
      obtain ⟨rfl, h9⟩ := h9
      refine PW.xeq h9 ?_
      clear h9 x9
      refine r_if_neB (tgt := 31) dX10_listen_26 (by decide) (fun h => by cases h) (fun _ => ?_)
      refine r_iconst (v := nI 0) dX10_listen_29 (by decide) ?_
      refine r_iret rfl dX10_listen_30 ?_
      exact ref_bad hR rfl (by rw [oListen, rqS_f q8, rq_f q23])
