/-! THE REFERENCE: nudges, rooms, cars -/
theorem i_sas (a b c d : Int32) : a - b + (c - d) = a + c - (b + d) := by grind
theorem shr_and (d : Int32) : (d >>> (nI 16 &&& 31)) &&& nI 32767 = (d.toUInt32 >>> ((nI 16).toUInt32 &&& Int32.toUInt32 31)).toInt32 &&& nI 32767 := by
  rw [pk_and (d >>> (nI 16 &&& 31)) (m := nI 32767) 15 (by decide +kernel), pk_and ((d.toUInt32 >>> ((nI 16).toUInt32 &&& Int32.toUInt32 31)).toInt32) (m := nI 32767) 15 (by decide +kernel), pk_ushr d (nI 16) 16 (by decide +kernel)]
  congr 1
  have h1 := pk_shr d (nI 16 &&& 31) 16 (by decide +kernel)
  have h2 : d.toInt = (d.toBitVec.toNat : Int) ∨ d.toInt = (d.toBitVec.toNat : Int) - 4294967296 := by
    have e : d.toInt = d.toBitVec.toInt := rfl
    rw [e, BitVec.toInt_eq_toNat_cond]
    split
    · exact Or.inl rfl
    · exact Or.inr rfl
  have h3 : (d >>> (nI 16 &&& 31)).toInt = ((d >>> (nI 16 &&& 31)).toBitVec.toNat : Int) ∨ (d >>> (nI 16 &&& 31)).toInt = ((d >>> (nI 16 &&& 31)).toBitVec.toNat : Int) - 4294967296 := by
    have e : (d >>> (nI 16 &&& 31)).toInt = (d >>> (nI 16 &&& 31)).toBitVec.toInt := rfl
    rw [e, BitVec.toInt_eq_toNat_cond]
    split
    · exact Or.inl rfl
    · exact Or.inr rfl
  have h4 : d.toInt >>> 16 = d.toInt / 65536 := Int.shiftRight_eq_div_pow _ _
  rw [h4] at h1
  have h5 := d.toBitVec.isLt
  generalize (d >>> (nI 16 &&& 31)).toBitVec.toNat = u at *
  generalize d.toBitVec.toNat = n at *
  omega
set_option maxHeartbeats 8000000 in
set_option maxRecDepth 20000 in
theorem n_nudgesNow {f : Nat → Int32} {p q : Nat} {x : XS} (hr : RRow f (x 154)) (hp : p < 5) (hq : q < 5) : MM mX10_nudgesNow 1 0 0 [.ref 137, .int (nI p), .int (nI q)] x (fun v y => v = some (.int (bI (nudgeB f p q))) ∧ y = xr x 154 (ngG (x 154) p q)) NoT := by
  refine MM.of (by decide) (Nat.le_of_ble_eq_true rfl) ?_
  have y137 := lay_137
  have y154 := lay_154
  have ep := hr.1 p hp
  have eq := hr.1 q hq
  refine r_aload_n dX10_nudgesNow_0 rfl (by rfl) ?_
  refine r_iload_n dX10_nudgesNow_1 rfl (by rfl) ?_
  refine r_callV (n_isAsleep hr hp) mv_X10_isAsleep ml_X10_343 ⟨by decide, by decide⟩ dX10_nudgesNow_2 (by first | assumption | rfl) rfl rfl rfl (Nat.le_of_ble_eq_true rfl) (fun v9 x9 h9 => ?_)
  obtain ⟨rfl, h9⟩ := h9
  refine PW.xeq h9 ?_
  clear h9 x9
  refine r_if_neB (tgt := 48) dX10_nudgesNow_5 (by decide) (fun h5 => ?_) (fun h5 => ?_)
  · refine r_iconst (v := nI 0) dX10_nudgesNow_48 (by decide) ?_
    refine r_zret rfl (by first | exact bI_01 _ | exact Or.inl rfl | exact Or.inr rfl) dX10_nudgesNow_49 ?_
    have hb : ngB (x 154) p q = false := by
      rw [ngB_eq hr hp hq]
      unfold nudgeB
      first
        | (rw [h5]; rfl)
        | (rw [h5, h13]; rfl)
        | (rw [h5, h13, decide_eq_false (by rw [← ep.2.1, ← eq.2.1]; exact h32)]; rfl)
        | (rw [h5, h13, decide_eq_true (show f (5 + p) = f (5 + q) by rw [← ep.2.1, ← eq.2.1]; exact h32), decide_eq_true (show f (15 + q) = nI 1 by rw [← eq.2.2.2.2.1]; exact h45)]; rfl)
    refine ⟨by rw [← ngB_eq hr hp hq, hb]; rfl, ?_⟩
    unfold ngG
    rw [hb]
    exact (xr_id x _).symm
  · refine r_aload_n dX10_nudgesNow_8 rfl (by rfl) ?_
    refine r_iload_n dX10_nudgesNow_9 rfl (by rfl) ?_
    refine r_callV (n_isAsleep hr hq) mv_X10_isAsleep ml_X10_343 ⟨by decide, by decide⟩ dX10_nudgesNow_10 (by first | assumption | rfl) rfl rfl rfl (Nat.le_of_ble_eq_true rfl) (fun v9 x9 h9 => ?_)
    obtain ⟨rfl, h9⟩ := h9
    refine PW.xeq h9 ?_
    clear h9 x9
    refine r_if_eqB (tgt := 48) dX10_nudgesNow_13 (by decide) (fun h13 => ?_) (fun h13 => ?_)
    · refine r_iconst (v := nI 0) dX10_nudgesNow_48 (by decide) ?_
      refine r_zret rfl (by first | exact bI_01 _ | exact Or.inl rfl | exact Or.inr rfl) dX10_nudgesNow_49 ?_
      have hb : ngB (x 154) p q = false := by
        rw [ngB_eq hr hp hq]
        unfold nudgeB
        first
          | (rw [h5]; rfl)
          | (rw [h5, h13]; rfl)
          | (rw [h5, h13, decide_eq_false (by rw [← ep.2.1, ← eq.2.1]; exact h32)]; rfl)
          | (rw [h5, h13, decide_eq_true (show f (5 + p) = f (5 + q) by rw [← ep.2.1, ← eq.2.1]; exact h32), decide_eq_true (show f (15 + q) = nI 1 by rw [← eq.2.2.2.2.1]; exact h45)]; rfl)
      refine ⟨by rw [← ngB_eq hr hp hq, hb]; rfl, ?_⟩
      unfold ngG
      rw [hb]
      exact (xr_id x _).symm
    · refine r_aload_n dX10_nudgesNow_16 rfl (by rfl) ?_
      refine gf_X10_65 rfl dX10_nudgesNow_17 (by first | assumption | rfl) (by rfl) ?_
      refine r_iconst (v := nI 5) dX10_nudgesNow_20 (by decide) ?_
      refine r_iload_n dX10_nudgesNow_21 rfl (by rfl) ?_
      refine r_iaddN dX10_nudgesNow_22 ?_
      refine r_ialdN dX10_nudgesNow_23 (by first | assumption | rfl) (by omega) (by decide) ?_
      refine r_aload_n dX10_nudgesNow_24 rfl (by rfl) ?_
      refine gf_X10_65 rfl dX10_nudgesNow_25 (by first | assumption | rfl) (by rfl) ?_
      refine r_iconst (v := nI 5) dX10_nudgesNow_28 (by decide) ?_
      refine r_iload_n dX10_nudgesNow_29 rfl (by rfl) ?_
      refine r_iaddN dX10_nudgesNow_30 ?_
      refine r_ialdN dX10_nudgesNow_31 (by first | assumption | rfl) (by omega) (by decide) ?_
      refine r_icmp_ne (tgt := 48) dX10_nudgesNow_32 (by decide) (fun h32 => ?_) (fun h32 => ?_)
      · refine r_iconst (v := nI 0) dX10_nudgesNow_48 (by decide) ?_
        refine r_zret rfl (by first | exact bI_01 _ | exact Or.inl rfl | exact Or.inr rfl) dX10_nudgesNow_49 ?_
        have hb : ngB (x 154) p q = false := by
          rw [ngB_eq hr hp hq]
          unfold nudgeB
          first
            | (rw [h5]; rfl)
            | (rw [h5, h13]; rfl)
            | (rw [h5, h13, decide_eq_false (by rw [← ep.2.1, ← eq.2.1]; exact h32)]; rfl)
            | (rw [h5, h13, decide_eq_true (show f (5 + p) = f (5 + q) by rw [← ep.2.1, ← eq.2.1]; exact h32), decide_eq_true (show f (15 + q) = nI 1 by rw [← eq.2.2.2.2.1]; exact h45)]; rfl)
        refine ⟨by rw [← ngB_eq hr hp hq, hb]; rfl, ?_⟩
        unfold ngG
        rw [hb]
        exact (xr_id x _).symm
      · refine r_aload_n dX10_nudgesNow_35 rfl (by rfl) ?_
        refine gf_X10_65 rfl dX10_nudgesNow_36 (by first | assumption | rfl) (by rfl) ?_
        refine r_bipush (v := nI 20) dX10_nudgesNow_39 (by decide) ?_
        refine r_iload_n dX10_nudgesNow_41 rfl (by rfl) ?_
        refine r_iaddN dX10_nudgesNow_42 ?_
        refine r_ialdN dX10_nudgesNow_43 (by first | assumption | rfl) (by omega) (by decide) ?_
        refine r_iconst (v := nI 1) dX10_nudgesNow_44 (by decide) ?_
        refine r_icmp_ne (tgt := 50) dX10_nudgesNow_45 (by decide) (fun h45 => ?_) (fun h45 => ?_)
        · refine r_aload_n dX10_nudgesNow_50 rfl (by rfl) ?_
          refine gf_X10_65 rfl dX10_nudgesNow_51 (by first | assumption | rfl) (by rfl) ?_
          refine r_bipush (v := nI 15) dX10_nudgesNow_54 (by decide) ?_
          refine r_iload_n dX10_nudgesNow_56 rfl (by rfl) ?_
          refine r_iaddN dX10_nudgesNow_57 ?_
          refine r_ialdN dX10_nudgesNow_58 (by first | assumption | rfl) (by omega) (by decide) ?_
          refine r_iconst (v := nI 2) dX10_nudgesNow_59 (by decide) ?_
          refine r_icmp_gt (tgt := 70) dX10_nudgesNow_60 (by decide) (fun h60 => ?_) (fun h60 => ?_)
          · refine r_aload_n dX10_nudgesNow_70 rfl (by rfl) ?_
            refine gf_X10_65 rfl dX10_nudgesNow_71 (by first | assumption | rfl) (by rfl) ?_
            refine r_bipush (v := nI 15) dX10_nudgesNow_74 (by decide) ?_
            refine r_iload_n dX10_nudgesNow_76 rfl (by rfl) ?_
            refine r_iaddN dX10_nudgesNow_77 ?_
            refine r_dup2 dX10_nudgesNow_78 rfl rfl ?_
            refine r_ialdN dX10_nudgesNow_79 (by first | assumption | rfl) (by omega) (by decide) ?_
            refine r_iconst (v := nI 2) dX10_nudgesNow_80 (by decide) ?_
            refine r_isub dX10_nudgesNow_81 ?_
            refine r_iastN dX10_nudgesNow_82 (by first | assumption | rfl) (by omega) (by decide) ?_
            refine r_aload_n dX10_nudgesNow_83 rfl (by rfl) ?_
            refine gf_X10_65 rfl dX10_nudgesNow_84 (by first | assumption | rfl) (by rfl) ?_
            refine r_bipush (v := nI 20) dX10_nudgesNow_87 (by decide) ?_
            refine r_iload_n dX10_nudgesNow_89 rfl (by rfl) ?_
            refine r_iaddN dX10_nudgesNow_90 ?_
            refine r_iconst (v := nI 1) dX10_nudgesNow_91 (by decide) ?_
            refine r_iastN dX10_nudgesNow_92 (by first | assumption | rfl) (by omega) (by decide) ?_
            refine r_aload_n dX10_nudgesNow_93 rfl (by rfl) ?_
            refine gf_X10_65 rfl dX10_nudgesNow_94 (by first | assumption | rfl) (by rfl) ?_
            refine r_bipush (v := nI 25) dX10_nudgesNow_97 (by decide) ?_
            refine r_iload_n dX10_nudgesNow_99 rfl (by rfl) ?_
            refine r_iaddN dX10_nudgesNow_100 ?_
            refine r_iconst (v := nI 0) dX10_nudgesNow_101 (by decide) ?_
            refine r_iastN dX10_nudgesNow_102 (by first | assumption | rfl) (by omega) (by decide) ?_
            refine r_iconst (v := nI 1) dX10_nudgesNow_103 (by decide) ?_
            refine r_zret rfl (by first | exact bI_01 _ | exact Or.inl rfl | exact Or.inr rfl) dX10_nudgesNow_104 ?_
            have hb : ngB (x 154) p q = true := by
              rw [ngB_eq hr hp hq]
              unfold nudgeB
              rw [h5, h13, decide_eq_true (show f (5 + p) = f (5 + q) by rw [← ep.2.1, ← eq.2.1]; exact h32), decide_eq_false (show ¬ f (15 + q) = nI 1 by rw [← eq.2.2.2.2.1]; exact h45)]
              rfl
            refine ⟨by rw [← ngB_eq hr hp hq, hb]; rfl, ?_⟩
            unfold ngG
            rw [hb, if_pos rfl, if_pos h60]
            simp only [xu1, xr_xr, xr_s]
          · refine r_aload_n dX10_nudgesNow_63 rfl (by rfl) ?_
            refine r_iload_n dX10_nudgesNow_64 rfl (by rfl) ?_
            refine r_callV (n_wakes hq) mv_X10_wakes ml_X10_366 ⟨by decide, by decide⟩ dX10_nudgesNow_65 (by first | assumption | rfl) rfl rfl rfl (Nat.le_of_ble_eq_true rfl) (fun v9 x9 h9 => ?_)
            obtain ⟨rfl, h9⟩ := h9
            refine PW.xeq h9 ?_
            clear h9 x9
            refine r_iconst (v := nI 1) dX10_nudgesNow_68 (by decide) ?_
            refine r_zret rfl (by first | exact bI_01 _ | exact Or.inl rfl | exact Or.inr rfl) dX10_nudgesNow_69 ?_
            have hb : ngB (x 154) p q = true := by
              rw [ngB_eq hr hp hq]
              unfold nudgeB
              rw [h5, h13, decide_eq_true (show f (5 + p) = f (5 + q) by rw [← ep.2.1, ← eq.2.1]; exact h32), decide_eq_false (show ¬ f (15 + q) = nI 1 by rw [← eq.2.2.2.2.1]; exact h45)]
              rfl
            refine ⟨by rw [← ngB_eq hr hp hq, hb]; rfl, ?_⟩
            unfold ngG
            rw [hb, if_pos rfl, if_neg h60]
        · refine r_iconst (v := nI 0) dX10_nudgesNow_48 (by decide) ?_
          refine r_zret rfl (by first | exact bI_01 _ | exact Or.inl rfl | exact Or.inr rfl) dX10_nudgesNow_49 ?_
          have hb : ngB (x 154) p q = false := by
            rw [ngB_eq hr hp hq]
            unfold nudgeB
            first
              | (rw [h5]; rfl)
              | (rw [h5, h13]; rfl)
              | (rw [h5, h13, decide_eq_false (by rw [← ep.2.1, ← eq.2.1]; exact h32)]; rfl)
              | (rw [h5, h13, decide_eq_true (show f (5 + p) = f (5 + q) by rw [← ep.2.1, ← eq.2.1]; exact h32), decide_eq_true (show f (15 + q) = nI 1 by rw [← eq.2.2.2.2.1]; exact h45)]; rfl)
          refine ⟨by rw [← ngB_eq hr hp hq, hb]; rfl, ?_⟩
          unfold ngG
          rw [hb]
          exact (xr_id x _).symm
theorem RT.row {x : XS} {E : NE} {w k : Int32} {f f' rd g : Nat → Int32} {t : Nat} (h : RT x E w k f t rd) (hr : RRow f' g) (ho : RO f') (h40 : f' 40 = nI t) : RT (xr x 154 g) E w k f' t rd := ⟨⟨h.1.1.fr (fun c hc => xr_n (by omega)) (by rw [xr_n (by decide)]) (by rw [xr_n (by decide)]), h.1.2.1, h.1.2.2.1, by rw [xr_s]; exact hr, ho⟩, h40, h.2.2.1, h.2.2.2.1, h.2.2.2.2⟩
theorem nu_next {E : NE} {w : Int32} {rd f : Nat → Int32} {p q t i : Nat} {sv : Int32} (h : t + i < 240) : nuP E w rd p q sv f (min (i + 1) (240 - t)) = minP E w rd (nI 0) (nuyP p q i sv (nuP E w rd p q sv f (min i (240 - t)))) := by
  rw [show min (i + 1) (240 - t) = i + 1 by omega, show min i (240 - t) = i by omega]
  rfl
theorem nu_stay {E : NE} {w : Int32} {rd f : Nat → Int32} {p q t i : Nat} {sv : Int32} (h : ¬ t + i < 240) : nuP E w rd p q sv f (min (i + 1) (240 - t)) = nuP E w rd p q sv f (min i (240 - t)) := by
  rw [show min (i + 1) (240 - t) = min i (240 - t) by omega]
theorem nu_RO {E : NE} {w : Int32} {rd f : Nat → Int32} {p q : Nat} {sv : Int32} (h : RO f) (hn : eN E ≤ 5) (hq : q < 5) : ∀ i, RO (nuP E w rd p q sv f i)
  | 0 => h
  | i + 1 => by
    have ih := nu_RO (w := w) (rd := rd) (p := p) (sv := sv) h hn hq i
    refine min_RO ?_ hn
    unfold nuyP
    split
    · split
      · exact ng_RO ih hq
      · exact ih
    · exact ih
theorem nud_fin {E : NE} {f : Nat → Int32} {p q t m sv : Nat} (hn : eN E ≤ 5) (hq : q < 5) (ht : f 40 = nI t) (h2 : t ≤ 240) : sumR (nuP E (eW E) rd0 p q (nI sv) f (min m (240 - t))) 25 (eN E) - sumR f 25 (eN E) = nudS E f p q m sv := by
  unfold nudS
  by_cases h : m ≤ 240 - t
  · rw [Nat.min_eq_left h]
  · rw [Nat.min_eq_right (by omega)]
    have e := nuP_sum (w := eW E) (rd := rd0) (p := p) (sv := nI sv) hn hq ht h2 (m - (240 - t))
    rw [show 240 - t + (m - (240 - t)) = m by omega] at e
    rw [e]
set_option maxHeartbeats 8000000 in
set_option maxRecDepth 20000 in
theorem g_nudges {a : AS} {x : XS} {v w n9 u9 : Int32} (hR : RRf x a) (hA : AI a) : RASK mX10_nudges [.ref 137, .int v, .int w, .int n9, .int u9] x a (oNudges a v w n9 u9) 2 := by
  refine MM.of (by decide) (Nat.le_of_ble_eq_true rfl) ?_
  have y137 := lay_137
  have y154 := lay_154
  obtain ⟨t, ht2, ht⟩ := hA.t
  refine r_aload_n dX10_nudges_0 rfl (by rfl) ?_
  refine r_iconst (v := nI 0) dX10_nudges_1 (by decide) ?_
  refine pf_X10_3 rfl dX10_nudges_2 (by first | assumption | rfl) (by rfl) ?_
  refine r_aload_n dX10_nudges_5 rfl (by rfl) ?_
  refine r_iload_n dX10_nudges_6 rfl (by rfl) ?_
  refine r_iconst (v := nI 1) dX10_nudges_7 (by decide) ?_
  by_cases q8 : nobody v (eN (aE a)) = true
  · refine r_callV (c_isS_f hR.th.1.1 xu_s q8) mv_X10_isSleeper ml_X10_383 ⟨by decide, by decide⟩ dX10_nudges_8 lay_137 rfl rfl rfl (Nat.le_of_ble_eq_true rfl) (fun v9 x9 h9 => ?_)
    obtain ⟨rfl, h9⟩ := h9
    refine PW.xeq h9 ?_
    clear h9 x9
    refine r_if_eqB (tgt := 59) dX10_nudges_11 (by decide) (fun _ => ?_) (fun h => by cases h)
    refine r_iconst (v := nI 0) dX10_nudges_59 (by decide) ?_
    refine r_iret rfl dX10_nudges_60 ?_
    exact ref_nob hR rfl (by rw [oNudges, rqS_t q8])
  · have q8 := Bool.eq_false_iff.mpr q8
    obtain ⟨p, hp, rfl⟩ := nobody_f hR.1.2.1 q8
    have hp5 : p < 5 := Nat.lt_of_lt_of_le hp hR.1.2.1
    refine r_callV (c_isS_t hR.th.1.1 hR.1.2.1 xu_s hp) mv_X10_isSleeper ml_X10_383 ⟨by decide, by decide⟩ dX10_nudges_8 lay_137 rfl rfl rfl (Nat.le_of_ble_eq_true rfl) (fun v9 x9 h9 => ?_)
    obtain ⟨rfl, h9⟩ := h9
    refine PW.xeq h9 ?_
    clear h9 x9
    refine r_if_eqB (tgt := 59) dX10_nudges_11 (by decide) (fun h => by cases h) (fun _ => ?_)
    refine r_aload_n dX10_nudges_14 rfl (by rfl) ?_
    refine r_iload_n dX10_nudges_15 rfl (by rfl) ?_
    refine r_iconst (v := nI 1) dX10_nudges_16 (by decide) ?_
    by_cases q17 : nobody w (eN (aE a)) = true
    · refine r_callV (c_isS_f hR.th.1.1 xu_s q17) mv_X10_isSleeper ml_X10_383 ⟨by decide, by decide⟩ dX10_nudges_17 lay_137 rfl rfl rfl (Nat.le_of_ble_eq_true rfl) (fun v9 x9 h9 => ?_)
      obtain ⟨rfl, h9⟩ := h9
      refine PW.xeq h9 ?_
      clear h9 x9
      refine r_if_eqB (tgt := 59) dX10_nudges_20 (by decide) (fun _ => ?_) (fun h => by cases h)
      refine r_iconst (v := nI 0) dX10_nudges_59 (by decide) ?_
      refine r_iret rfl dX10_nudges_60 ?_
      exact ref_nob hR rfl (by rw [oNudges, rqS_f q8, rqS_t q17])
    · have q17 := Bool.eq_false_iff.mpr q17
      obtain ⟨q, hq, rfl⟩ := nobody_f hR.1.2.1 q17
      have hq5 : q < 5 := Nat.lt_of_lt_of_le hq hR.1.2.1
      refine r_callV (c_isS_t hR.th.1.1 hR.1.2.1 xu_s hq) mv_X10_isSleeper ml_X10_383 ⟨by decide, by decide⟩ dX10_nudges_17 lay_137 rfl rfl rfl (Nat.le_of_ble_eq_true rfl) (fun v9 x9 h9 => ?_)
      obtain ⟨rfl, h9⟩ := h9
      refine PW.xeq h9 ?_
      clear h9 x9
      refine r_if_eqB (tgt := 59) dX10_nudges_20 (by decide) (fun h => by cases h) (fun _ => ?_)
      refine r_aload_n dX10_nudges_23 rfl (by rfl) ?_
      refine r_iload_n dX10_nudges_24 rfl (by rfl) ?_
      refine r_iload_n dX10_nudges_25 rfl (by rfl) ?_
      refine r_icmp_eqN (tgt := 50) dX10_nudges_26 (by decide) (by omega) (by omega) (fun h26 => ?_) (fun h26 => ?_)
      · refine r_iconst (v := nI 0) dX10_nudges_50 (by decide) ?_
        refine r_iconst (v := nI 2) dX10_nudges_51 (by decide) ?_
        refine r_iconst (v := nI 1) dX10_nudges_52 (by decide) ?_
        refine r_callV (c_may_0 xu_s (by decide) (by decide)) mv_X10_may ml_X10_203 ⟨by decide, by decide⟩ dX10_nudges_53 lay_137 rfl rfl rfl (Nat.le_of_ble_eq_true rfl) (fun v9 x9 h9 => ?_)
        obtain ⟨rfl, h9⟩ := h9
        refine PW.xeq h9 ?_
        clear h9 x9
        refine r_if_neB (tgt := 61) dX10_nudges_56 (by decide) (fun h => by cases h) (fun _ => ?_)
        refine r_iconst (v := nI 0) dX10_nudges_59 (by decide) ?_
        refine r_iret rfl dX10_nudges_60 ?_
        exact ref_bad hR rfl (by rw [oNudges, rqS_f q8, rqS_f q17, rqN_f h26])
      · refine r_iload_n dX10_nudges_29 rfl (by rfl) ?_
        refine r_callS c_isFew ms_X10_isFew ml_X10_401 ⟨by decide, by decide⟩ dX10_nudges_30 rfl (Nat.le_of_ble_eq_true rfl) (fun v9 x9 h9 => ?_)
        obtain ⟨rfl, h9⟩ := h9
        refine PW.xeq h9 ?_
        clear h9 x9
        refine r_if_eqB (tgt := 50) dX10_nudges_33 (by decide) (fun h33 => ?_) (fun h33 => ?_)
        · refine r_iconst (v := nI 0) dX10_nudges_50 (by decide) ?_
          refine r_iconst (v := nI 2) dX10_nudges_51 (by decide) ?_
          refine r_iconst (v := nI 1) dX10_nudges_52 (by decide) ?_
          refine r_callV (c_may_0 xu_s (by decide) (by decide)) mv_X10_may ml_X10_203 ⟨by decide, by decide⟩ dX10_nudges_53 lay_137 rfl rfl rfl (Nat.le_of_ble_eq_true rfl) (fun v9 x9 h9 => ?_)
          obtain ⟨rfl, h9⟩ := h9
          refine PW.xeq h9 ?_
          clear h9 x9
          refine r_if_neB (tgt := 61) dX10_nudges_56 (by decide) (fun h => by cases h) (fun _ => ?_)
          refine r_iconst (v := nI 0) dX10_nudges_59 (by decide) ?_
          refine r_iret rfl dX10_nudges_60 ?_
          exact ref_bad hR rfl (by rw [oNudges, rqS_f q8, rqS_f q17, rqN_t hp5 hq5 h26, rq_f h33])
        · refine r_iload dX10_nudges_36 (by rfl) ?_
          refine r_iconst (v := nI 0) dX10_nudges_38 (by decide) ?_
          refine r_iconst (v := nI 1) dX10_nudges_39 (by decide) ?_
          refine r_callS c_within10 ms_X10_within ml_X10_282 ⟨by decide, by decide⟩ dX10_nudges_40 rfl (Nat.le_of_ble_eq_true rfl) (fun v9 x9 h9 => ?_)
          obtain ⟨rfl, h9⟩ := h9
          refine PW.xeq h9 ?_
          clear h9 x9
          refine r_if_eqB (tgt := 50) dX10_nudges_43 (by decide) (fun h43 => ?_) (fun h43 => ?_)
          · refine r_iconst (v := nI 0) dX10_nudges_50 (by decide) ?_
            refine r_iconst (v := nI 2) dX10_nudges_51 (by decide) ?_
            refine r_iconst (v := nI 1) dX10_nudges_52 (by decide) ?_
            refine r_callV (c_may_0 xu_s (by decide) (by decide)) mv_X10_may ml_X10_203 ⟨by decide, by decide⟩ dX10_nudges_53 lay_137 rfl rfl rfl (Nat.le_of_ble_eq_true rfl) (fun v9 x9 h9 => ?_)
            obtain ⟨rfl, h9⟩ := h9
            refine PW.xeq h9 ?_
            clear h9 x9
            refine r_if_neB (tgt := 61) dX10_nudges_56 (by decide) (fun h => by cases h) (fun _ => ?_)
            refine r_iconst (v := nI 0) dX10_nudges_59 (by decide) ?_
            refine r_iret rfl dX10_nudges_60 ?_
            exact ref_bad hR rfl (by rw [oNudges, rqS_f q8, rqS_f q17, rqN_t hp5 hq5 h26, rq_t h33, rq_f h43])
          · refine r_iconst (v := nI 1) dX10_nudges_46 (by decide) ?_
            refine r_goto (tgt := 51) dX10_nudges_47 (by decide) ?_
            refine r_iconst (v := nI 2) dX10_nudges_51 (by decide) ?_
            refine r_iconst (v := nI 1) dX10_nudges_52 (by decide) ?_
            refine r_callV (c_may_1 xu_s) mv_X10_may ml_X10_203 ⟨by decide, by decide⟩ dX10_nudges_53 lay_137 rfl rfl rfl (Nat.le_of_ble_eq_true rfl) (fun v9 x9 h9 => ?_)
            obtain ⟨rfl, h9⟩ := h9
            refine PW.xeq h9 ?_
            clear h9 x9
            refine r_if_neB (tgt := 61) dX10_nudges_56 (by decide) (fun _ => ?_) (fun h => by cases h)
            obtain ⟨m, _, hm, rfl⟩ := inB_is (lo := 0) (hi := 120) h33 (by decide) (by decide)
            obtain ⟨k, _, hk, rfl⟩ := inB_is (lo := 0) (hi := 1) h43 (by decide) (by decide)
            refine r_iconst (v := nI 0) dX10_nudges_61 (by decide) ?_
            refine r_istore dX10_nudges_62 (by decide) ?_
            refine r_iconst (v := -1) dX10_nudges_64 (by decide) ?_
            refine r_istore dX10_nudges_65 (by decide) ?_
            refine r_iconst (v := nI 0) dX10_nudges_67 (by decide) ?_
            refine r_istore dX10_nudges_68 (by decide) ?_
            refine PW.loop (σ := Nat × XS) (fun o => 64 - o.1) (fun o => o.1 ≤ 64 ∧ QF x o.2 ∧ o.2 137 0 = nI 0) (fun o => [(0, .ref 137), (1, .int (nI p)), (2, .int (nI q)), (3, .int (nI m)), (4, .int (nI k)), (5, .int (amx (nudS (aE a) (aR a) p q m) (-1) (nI 0) o.1).2), (6, .int (amx (nudS (aE a) (aR a) p q m) (-1) (nI 0) o.1).1), (7, .int (nI o.1))]) (fun o => o.2) ((0, th0 x)) (⟨Nat.zero_le _, th0_qf x, rfl⟩) rfl rfl (fun o ho oh => ?_)
            obtain ⟨ho1, hF, z0⟩ := ho
            have T6 := take_RT (hR.qf hF) hA ht ht2
            refine r_iload dX10_nudges_70 (by rfl) ?_
            refine r_bipush (v := nI 64) dX10_nudges_72 (by decide) ?_
            refine r_icmp_geN (tgt := 182) dX10_nudges_74 (by decide) (by omega) (by omega) (fun h74 => ?_) (fun h74 => ?_)
            · refine r_iload dX10_nudges_182 (by rfl) ?_
              refine r_if_ne (tgt := 192) dX10_nudges_184 (by decide) (fun h184 => ?_) (fun h184 => ?_)
              · refine r_iload dX10_nudges_192 (by rfl) ?_
                refine r_iret rfl dX10_nudges_194 ?_
                refine ref_ok hR hF z0 ?_
                rw [oNudges, rqS_f q8, rqS_f q17, rqN_t hp5 hq5 h26, rq_t h33, rq_t h43, nN_nI (by omega), nN_nI (by omega), nN_nI (by omega), show 64 = o.1 by omega]
                dsimp only
                first
                  | (have hk0 : k = 0 := by
                       by_cases e : k = 0
                       · exact e
                       · exact absurd h184 (nI_ne0 (by omega) (by omega))
                     subst hk0
                     rfl)
                  | (rw [if_neg (show ¬ nI k = nI 0 from h184)])
              · refine r_iload dX10_nudges_187 (by rfl) ?_
                refine r_goto (tgt := 194) dX10_nudges_189 (by decide) ?_
                refine r_iret rfl dX10_nudges_194 ?_
                refine ref_ok hR hF z0 ?_
                rw [oNudges, rqS_f q8, rqS_f q17, rqN_t hp5 hq5 h26, rq_t h33, rq_t h43, nN_nI (by omega), nN_nI (by omega), nN_nI (by omega), show 64 = o.1 by omega]
                dsimp only
                first
                  | (have hk0 : k = 0 := by
                       by_cases e : k = 0
                       · exact e
                       · exact absurd h184 (nI_ne0 (by omega) (by omega))
                     subst hk0
                     rfl)
                  | (rw [if_neg (show ¬ nI k = nI 0 from h184)])
            · refine r_aload_n dX10_nudges_77 rfl (by rfl) ?_
              refine r_callV c_take mv_X10_take ml_X10_316 ⟨by decide, by decide⟩ dX10_nudges_78 (by first | assumption | rfl) rfl rfl rfl (Nat.le_of_ble_eq_true rfl) (fun v9 x9 h9 => ?_)
              obtain ⟨rfl, h9⟩ := h9
              refine PW.xeq h9 ?_
              clear h9 x9
              refine r_iconst (v := nI 0) dX10_nudges_81 (by decide) ?_
              refine r_istore dX10_nudges_82 (by decide) ?_
              refine PW.loop (σ := Nat × XS) (fun s => m - s.1) (fun s => s.1 ≤ m ∧ RT s.2 (aE a) (eW (aE a)) (nI 0) (nuP (aE a) (eW (aE a)) rd0 p q (nI o.1) (aR a) (min s.1 (240 - t))) (min (t + s.1) 240) rd0 ∧ QF x s.2 ∧ s.2 137 0 = nI 0) (fun s => [(0, .ref 137), (1, .int (nI p)), (2, .int (nI q)), (3, .int (nI m)), (4, .int (nI k)), (5, .int (amx (nudS (aE a) (aR a) p q m) (-1) (nI 0) o.1).2), (6, .int (amx (nudS (aE a) (aR a) p q m) (-1) (nI 0) o.1).1), (7, .int (nI o.1)), (8, .int (nI s.1))]) (fun s => s.2) ((0, tkR o.2)) (⟨Nat.zero_le _, (by rw [show min (t + (0, tkR o.2).1) 240 = t from Nat.min_eq_left ht2, show min (0, tkR o.2).1 (240 - t) = 0 from Nat.zero_min _]; exact T6), hF.trans (take_QF _), z0⟩) rfl rfl (fun s hs ih => ?_)
              obtain ⟨hs1, hT, hF2, z02⟩ := hs
              refine r_iload dX10_nudges_84 (by rfl) ?_
              refine r_iload_n dX10_nudges_86 rfl (by rfl) ?_
              refine r_icmp_geN (tgt := 139) dX10_nudges_87 (by decide) (by omega) (by omega) (fun h87 => ?_) (fun h87 => ?_)
              · refine r_aload_n dX10_nudges_139 rfl (by rfl) ?_
                refine r_callV (n_sleptAll hT.1.1.1 hT.1.1.2.1 hT.1.2.2.2.1) mv_X10_sleptAll ml_X10_377 ⟨by decide, by decide⟩ dX10_nudges_140 (by first | assumption | rfl) rfl rfl rfl (Nat.le_of_ble_eq_true rfl) (fun v9 x9 h9 => ?_)
                obtain ⟨rfl, h9⟩ := h9
                refine PW.xeq h9 ?_
                clear h9 x9
                refine r_istore dX10_nudges_143 (by decide) ?_
                refine r_aload_n dX10_nudges_145 rfl (by rfl) ?_
                have T7 := take_RT (hR.qf hF2) hA ht ht2; refine r_callV c_take mv_X10_take ml_X10_316 ⟨by decide, by decide⟩ dX10_nudges_146 (by first | assumption | rfl) rfl rfl rfl (Nat.le_of_ble_eq_true rfl) (fun v9 x9 h9 => ?_)
                obtain ⟨rfl, h9⟩ := h9
                refine PW.xeq h9 ?_
                clear h9 x9
                refine r_iload dX10_nudges_149 (by rfl) ?_
                refine r_aload_n dX10_nudges_151 rfl (by rfl) ?_
                refine r_callV (n_sleptAll T7.1.1.1 T7.1.1.2.1 T7.1.2.2.2.1) mv_X10_sleptAll ml_X10_377 ⟨by decide, by decide⟩ dX10_nudges_152 (by first | assumption | rfl) rfl rfl rfl (Nat.le_of_ble_eq_true rfl) (fun v9 x9 h9 => ?_)
                obtain ⟨rfl, h9⟩ := h9
                refine PW.xeq h9 ?_
                clear h9 x9
                refine r_isub dX10_nudges_155 ?_
                refine r_istore dX10_nudges_156 (by decide) ?_
                refine r_iload dX10_nudges_158 (by rfl) ?_
                refine r_iload dX10_nudges_160 (by rfl) ?_
                refine r_icmp_gt (tgt := 168) dX10_nudges_162 (by decide) (fun h162 => ?_) (fun h162 => ?_)
                · refine r_iload dX10_nudges_168 (by rfl) ?_
                  refine r_istore dX10_nudges_170 (by decide) ?_
                  refine r_iload dX10_nudges_172 (by rfl) ?_
                  refine r_istore dX10_nudges_174 (by decide) ?_
                  refine r_iincN dX10_nudges_176 (by rfl) (by decide) ?_
                  refine r_goto (tgt := 70) dX10_nudges_179 (by decide) ?_
                  have em : s.1 = m := by omega
                  rw [em] at h162 ⊢
                  rw [nud_fin hR.1.2.1 hq5 ht ht2] at h162 ⊢
                  first
                    | (have e := amx_le (F := (nudS (aE a) (aR a) p q m)) (Int32.not_lt.mp h162)
                       exact PW.lc (by (try dsimp only); rw [e]; rfl) rfl (oh (o.1 + 1, tkR s.2) ⟨(show o.1 + 1 ≤ 64 by omega), hF2.trans (take_QF _), z02⟩ (show 64 - (o.1 + 1) < 64 - o.1 by omega)))
                    | (have e := amx_gt (F := (nudS (aE a) (aR a) p q m)) (Int32.not_le.mpr h162)
                       exact PW.lc (by (try dsimp only); rw [e]; rfl) rfl (oh (o.1 + 1, tkR s.2) ⟨(show o.1 + 1 ≤ 64 by omega), hF2.trans (take_QF _), z02⟩ (show 64 - (o.1 + 1) < 64 - o.1 by omega)))
                · refine r_goto (tgt := 176) dX10_nudges_165 (by decide) ?_
                  refine r_iincN dX10_nudges_176 (by rfl) (by decide) ?_
                  refine r_goto (tgt := 70) dX10_nudges_179 (by decide) ?_
                  have em : s.1 = m := by omega
                  rw [em] at h162 ⊢
                  rw [nud_fin hR.1.2.1 hq5 ht ht2] at h162 ⊢
                  first
                    | (have e := amx_le (F := (nudS (aE a) (aR a) p q m)) (Int32.not_lt.mp h162)
                       exact PW.lc (by (try dsimp only); rw [e]; rfl) rfl (oh (o.1 + 1, tkR s.2) ⟨(show o.1 + 1 ≤ 64 by omega), hF2.trans (take_QF _), z02⟩ (show 64 - (o.1 + 1) < 64 - o.1 by omega)))
                    | (have e := amx_gt (F := (nudS (aE a) (aR a) p q m)) (Int32.not_le.mpr h162)
                       exact PW.lc (by (try dsimp only); rw [e]; rfl) rfl (oh (o.1 + 1, tkR s.2) ⟨(show o.1 + 1 ≤ 64 by omega), hF2.trans (take_QF _), z02⟩ (show 64 - (o.1 + 1) < 64 - o.1 by omega)))
              · refine r_iload dX10_nudges_90 (by rfl) ?_
                refine r_bipush (v := nI 6) dX10_nudges_92 (by decide) ?_
                refine r_icmp_geN (tgt := 128) dX10_nudges_94 (by decide) (by omega) (by omega) (fun h94 => ?_) (fun h94 => ?_)
                · first
                    | (refine r_aload_n dX10_nudges_128 rfl (by rfl) ?_
                       refine r_callV (n_minute (hT.row (ng_RR hT.1.2.2.2.1 hp5 hq5) (ng_RO hT.1.2.2.2.2 hq5) (by rw [nudgeR_40 hq5]; exact hT.2.1))) mv_X10_minute ml_X10_372 ⟨by decide, by decide⟩ dX10_nudges_129 (by first | assumption | rfl) rfl rfl rfl (Nat.le_of_ble_eq_true rfl) (fun v9 z h9 => ?_)
                       obtain ⟨rfl, T1, F1⟩ := h9
                       refine r_pop dX10_nudges_132 rfl ?_
                       refine r_iincN dX10_nudges_133 (by rfl) (by decide) ?_
                       refine r_goto (tgt := 84) dX10_nudges_136 (by decide) ?_
                       have E9 : RT z (aE a) (eW (aE a)) (nI 0) (nuP (aE a) (eW (aE a)) rd0 p q (nI o.1) (aR a) (min (s.1 + 1) (240 - t))) (min (t + (s.1 + 1)) 240) rd0 := by
                         rw [show min (t + (s.1 + 1)) 240 = (if min (t + s.1) 240 < 240 then min (t + s.1) 240 + 1 else min (t + s.1) 240) by split <;> omega]
                         rw [nu_next (by omega)]
                         have e : nuyP p q s.1 (nI o.1) (nuP (aE a) (eW (aE a)) rd0 p q (nI o.1) (aR a) (min s.1 (240 - t))) = nudgeR (nuP (aE a) (eW (aE a)) rd0 p q (nI o.1) (aR a) (min s.1 (240 - t))) p q := by
                           unfold nuyP
                           rw [if_pos (by omega), if_pos h118]
                         rw [e]
                         exact T1
                       exact PW.lc (by rfl) rfl (ih (s.1 + 1, z) ⟨(show s.1 + 1 ≤ m by omega), E9, (hF2.row (c := 154) (by omega)).trans F1.qf, (show z 137 0 = nI 0 by rw [F1.th]; exact z02)⟩ (show m - (s.1 + 1) < m - s.1 by omega)))
                    | (refine r_aload_n dX10_nudges_128 rfl (by rfl) ?_
                       refine r_callV (n_minute hT) mv_X10_minute ml_X10_372 ⟨by decide, by decide⟩ dX10_nudges_129 (by first | assumption | rfl) rfl rfl rfl (Nat.le_of_ble_eq_true rfl) (fun v9 z h9 => ?_)
                       obtain ⟨rfl, T1, F1⟩ := h9
                       refine r_pop dX10_nudges_132 rfl ?_
                       refine r_iincN dX10_nudges_133 (by rfl) (by decide) ?_
                       refine r_goto (tgt := 84) dX10_nudges_136 (by decide) ?_
                       have E9 : RT z (aE a) (eW (aE a)) (nI 0) (nuP (aE a) (eW (aE a)) rd0 p q (nI o.1) (aR a) (min (s.1 + 1) (240 - t))) (min (t + (s.1 + 1)) 240) rd0 := by
                         rw [show min (t + (s.1 + 1)) 240 = (if min (t + s.1) 240 < 240 then min (t + s.1) 240 + 1 else min (t + s.1) 240) by split <;> omega]
                         by_cases h9 : t + s.1 < 240
                         · rw [nu_next h9]
                           have e : nuyP p q s.1 (nI o.1) (nuP (aE a) (eW (aE a)) rd0 p q (nI o.1) (aR a) (min s.1 (240 - t))) = (nuP (aE a) (eW (aE a)) rd0 p q (nI o.1) (aR a) (min s.1 (240 - t))) := by
                             unfold nuyP
                             first
                               | (rw [if_neg (by omega)]; done)
                               | (rw [if_pos (by omega), if_neg h118]; done)
                               | (exfalso; omega)
                           rw [e]
                           exact T1
                         · rw [nu_stay h9]
                           have e : minP (aE a) (eW (aE a)) rd0 (nI 0) (nuP (aE a) (eW (aE a)) rd0 p q (nI o.1) (aR a) (min s.1 (240 - t))) = (nuP (aE a) (eW (aE a)) rd0 p q (nI o.1) (aR a) (min s.1 (240 - t))) := by
                             unfold minP
                             rw [if_neg (by rw [hT.2.1]; exact nI_nlt (by omega) (by omega))]
                           rw [e] at T1
                           exact T1
                       exact PW.lc (by rfl) rfl (ih (s.1 + 1, z) ⟨(show s.1 + 1 ≤ m by omega), E9, hF2.trans F1.qf, (show z 137 0 = nI 0 by rw [F1.th]; exact z02)⟩ (show m - (s.1 + 1) < m - s.1 by omega)))
                · refine r_aload_n dX10_nudges_97 rfl (by rfl) ?_
                  refine gf_X10_65 rfl dX10_nudges_98 (by first | assumption | rfl) (by rfl) ?_
                  refine r_bipush (v := nI 40) dX10_nudges_101 (by decide) ?_
                  refine r_ialdN dX10_nudges_103 (by first | assumption | rfl) (by omega) (by decide) ?_
                  refine PW.topi (show _ = nI (min (t + s.1) 240) from hT.1.2.2.2.1.2.1.trans hT.2.1) ?_
                  refine r_sipush (v := nI 240) dX10_nudges_104 (by decide) ?_
                  refine r_icmp_geN (tgt := 128) dX10_nudges_107 (by decide) (by omega) (by omega) (fun h107 => ?_) (fun h107 => ?_)
                  · first
                      | (refine r_aload_n dX10_nudges_128 rfl (by rfl) ?_
                         refine r_callV (n_minute (hT.row (ng_RR hT.1.2.2.2.1 hp5 hq5) (ng_RO hT.1.2.2.2.2 hq5) (by rw [nudgeR_40 hq5]; exact hT.2.1))) mv_X10_minute ml_X10_372 ⟨by decide, by decide⟩ dX10_nudges_129 (by first | assumption | rfl) rfl rfl rfl (Nat.le_of_ble_eq_true rfl) (fun v9 z h9 => ?_)
                         obtain ⟨rfl, T1, F1⟩ := h9
                         refine r_pop dX10_nudges_132 rfl ?_
                         refine r_iincN dX10_nudges_133 (by rfl) (by decide) ?_
                         refine r_goto (tgt := 84) dX10_nudges_136 (by decide) ?_
                         have E9 : RT z (aE a) (eW (aE a)) (nI 0) (nuP (aE a) (eW (aE a)) rd0 p q (nI o.1) (aR a) (min (s.1 + 1) (240 - t))) (min (t + (s.1 + 1)) 240) rd0 := by
                           rw [show min (t + (s.1 + 1)) 240 = (if min (t + s.1) 240 < 240 then min (t + s.1) 240 + 1 else min (t + s.1) 240) by split <;> omega]
                           rw [nu_next (by omega)]
                           have e : nuyP p q s.1 (nI o.1) (nuP (aE a) (eW (aE a)) rd0 p q (nI o.1) (aR a) (min s.1 (240 - t))) = nudgeR (nuP (aE a) (eW (aE a)) rd0 p q (nI o.1) (aR a) (min s.1 (240 - t))) p q := by
                             unfold nuyP
                             rw [if_pos (by omega), if_pos h118]
                           rw [e]
                           exact T1
                         exact PW.lc (by rfl) rfl (ih (s.1 + 1, z) ⟨(show s.1 + 1 ≤ m by omega), E9, (hF2.row (c := 154) (by omega)).trans F1.qf, (show z 137 0 = nI 0 by rw [F1.th]; exact z02)⟩ (show m - (s.1 + 1) < m - s.1 by omega)))
                      | (refine r_aload_n dX10_nudges_128 rfl (by rfl) ?_
                         refine r_callV (n_minute hT) mv_X10_minute ml_X10_372 ⟨by decide, by decide⟩ dX10_nudges_129 (by first | assumption | rfl) rfl rfl rfl (Nat.le_of_ble_eq_true rfl) (fun v9 z h9 => ?_)
                         obtain ⟨rfl, T1, F1⟩ := h9
                         refine r_pop dX10_nudges_132 rfl ?_
                         refine r_iincN dX10_nudges_133 (by rfl) (by decide) ?_
                         refine r_goto (tgt := 84) dX10_nudges_136 (by decide) ?_
                         have E9 : RT z (aE a) (eW (aE a)) (nI 0) (nuP (aE a) (eW (aE a)) rd0 p q (nI o.1) (aR a) (min (s.1 + 1) (240 - t))) (min (t + (s.1 + 1)) 240) rd0 := by
                           rw [show min (t + (s.1 + 1)) 240 = (if min (t + s.1) 240 < 240 then min (t + s.1) 240 + 1 else min (t + s.1) 240) by split <;> omega]
                           by_cases h9 : t + s.1 < 240
                           · rw [nu_next h9]
                             have e : nuyP p q s.1 (nI o.1) (nuP (aE a) (eW (aE a)) rd0 p q (nI o.1) (aR a) (min s.1 (240 - t))) = (nuP (aE a) (eW (aE a)) rd0 p q (nI o.1) (aR a) (min s.1 (240 - t))) := by
                               unfold nuyP
                               first
                                 | (rw [if_neg (by omega)]; done)
                                 | (rw [if_pos (by omega), if_neg h118]; done)
                                 | (exfalso; omega)
                             rw [e]
                             exact T1
                           · rw [nu_stay h9]
                             have e : minP (aE a) (eW (aE a)) rd0 (nI 0) (nuP (aE a) (eW (aE a)) rd0 p q (nI o.1) (aR a) (min s.1 (240 - t))) = (nuP (aE a) (eW (aE a)) rd0 p q (nI o.1) (aR a) (min s.1 (240 - t))) := by
                               unfold minP
                               rw [if_neg (by rw [hT.2.1]; exact nI_nlt (by omega) (by omega))]
                             rw [e] at T1
                             exact T1
                         exact PW.lc (by rfl) rfl (ih (s.1 + 1, z) ⟨(show s.1 + 1 ≤ m by omega), E9, hF2.trans F1.qf, (show z 137 0 = nI 0 by rw [F1.th]; exact z02)⟩ (show m - (s.1 + 1) < m - s.1 by omega)))
                  · refine r_iload dX10_nudges_110 (by rfl) ?_
                    refine r_iload dX10_nudges_112 (by rfl) ?_
                    refine r_ishr dX10_nudges_114 ?_
                    refine r_iconst (v := nI 1) dX10_nudges_115 (by decide) ?_
                    refine r_iand dX10_nudges_116 ?_
                    refine PW.topi (show _ = bitV (nI o.1) s.1 from rfl) ?_
                    refine r_iconst (v := nI 1) dX10_nudges_117 (by decide) ?_
                    refine r_icmp_ne (tgt := 128) dX10_nudges_118 (by decide) (fun h118 => ?_) (fun h118 => ?_)
                    · first
                        | (refine r_aload_n dX10_nudges_128 rfl (by rfl) ?_
                           refine r_callV (n_minute (hT.row (ng_RR hT.1.2.2.2.1 hp5 hq5) (ng_RO hT.1.2.2.2.2 hq5) (by rw [nudgeR_40 hq5]; exact hT.2.1))) mv_X10_minute ml_X10_372 ⟨by decide, by decide⟩ dX10_nudges_129 (by first | assumption | rfl) rfl rfl rfl (Nat.le_of_ble_eq_true rfl) (fun v9 z h9 => ?_)
                           obtain ⟨rfl, T1, F1⟩ := h9
                           refine r_pop dX10_nudges_132 rfl ?_
                           refine r_iincN dX10_nudges_133 (by rfl) (by decide) ?_
                           refine r_goto (tgt := 84) dX10_nudges_136 (by decide) ?_
                           have E9 : RT z (aE a) (eW (aE a)) (nI 0) (nuP (aE a) (eW (aE a)) rd0 p q (nI o.1) (aR a) (min (s.1 + 1) (240 - t))) (min (t + (s.1 + 1)) 240) rd0 := by
                             rw [show min (t + (s.1 + 1)) 240 = (if min (t + s.1) 240 < 240 then min (t + s.1) 240 + 1 else min (t + s.1) 240) by split <;> omega]
                             rw [nu_next (by omega)]
                             have e : nuyP p q s.1 (nI o.1) (nuP (aE a) (eW (aE a)) rd0 p q (nI o.1) (aR a) (min s.1 (240 - t))) = nudgeR (nuP (aE a) (eW (aE a)) rd0 p q (nI o.1) (aR a) (min s.1 (240 - t))) p q := by
                               unfold nuyP
                               rw [if_pos (by omega), if_pos h118]
                             rw [e]
                             exact T1
                           exact PW.lc (by rfl) rfl (ih (s.1 + 1, z) ⟨(show s.1 + 1 ≤ m by omega), E9, (hF2.row (c := 154) (by omega)).trans F1.qf, (show z 137 0 = nI 0 by rw [F1.th]; exact z02)⟩ (show m - (s.1 + 1) < m - s.1 by omega)))
                        | (refine r_aload_n dX10_nudges_128 rfl (by rfl) ?_
                           refine r_callV (n_minute hT) mv_X10_minute ml_X10_372 ⟨by decide, by decide⟩ dX10_nudges_129 (by first | assumption | rfl) rfl rfl rfl (Nat.le_of_ble_eq_true rfl) (fun v9 z h9 => ?_)
                           obtain ⟨rfl, T1, F1⟩ := h9
                           refine r_pop dX10_nudges_132 rfl ?_
                           refine r_iincN dX10_nudges_133 (by rfl) (by decide) ?_
                           refine r_goto (tgt := 84) dX10_nudges_136 (by decide) ?_
                           have E9 : RT z (aE a) (eW (aE a)) (nI 0) (nuP (aE a) (eW (aE a)) rd0 p q (nI o.1) (aR a) (min (s.1 + 1) (240 - t))) (min (t + (s.1 + 1)) 240) rd0 := by
                             rw [show min (t + (s.1 + 1)) 240 = (if min (t + s.1) 240 < 240 then min (t + s.1) 240 + 1 else min (t + s.1) 240) by split <;> omega]
                             by_cases h9 : t + s.1 < 240
                             · rw [nu_next h9]
                               have e : nuyP p q s.1 (nI o.1) (nuP (aE a) (eW (aE a)) rd0 p q (nI o.1) (aR a) (min s.1 (240 - t))) = (nuP (aE a) (eW (aE a)) rd0 p q (nI o.1) (aR a) (min s.1 (240 - t))) := by
                                 unfold nuyP
                                 first
                                   | (rw [if_neg (by omega)]; done)
                                   | (rw [if_pos (by omega), if_neg h118]; done)
                                   | (exfalso; omega)
                               rw [e]
                               exact T1
                             · rw [nu_stay h9]
                               have e : minP (aE a) (eW (aE a)) rd0 (nI 0) (nuP (aE a) (eW (aE a)) rd0 p q (nI o.1) (aR a) (min s.1 (240 - t))) = (nuP (aE a) (eW (aE a)) rd0 p q (nI o.1) (aR a) (min s.1 (240 - t))) := by
                                 unfold minP
                                 rw [if_neg (by rw [hT.2.1]; exact nI_nlt (by omega) (by omega))]
                               rw [e] at T1
                               exact T1
                           exact PW.lc (by rfl) rfl (ih (s.1 + 1, z) ⟨(show s.1 + 1 ≤ m by omega), E9, hF2.trans F1.qf, (show z 137 0 = nI 0 by rw [F1.th]; exact z02)⟩ (show m - (s.1 + 1) < m - s.1 by omega)))
                    · refine r_aload_n dX10_nudges_121 rfl (by rfl) ?_
                      refine r_iload_n dX10_nudges_122 rfl (by rfl) ?_
                      refine r_iload_n dX10_nudges_123 rfl (by rfl) ?_
                      refine r_callV (n_nudgesNow hT.1.2.2.2.1 hp5 hq5) mv_X10_nudgesNow ml_X10_374 ⟨by decide, by decide⟩ dX10_nudges_124 (by first | assumption | rfl) rfl rfl rfl (Nat.le_of_ble_eq_true rfl) (fun v9 x9 h9 => ?_)
                      obtain ⟨rfl, h9⟩ := h9
                      refine PW.xeq h9 ?_
                      clear h9 x9
                      refine r_pop dX10_nudges_127 rfl ?_
                      first
                        | (refine r_aload_n dX10_nudges_128 rfl (by rfl) ?_
                           refine r_callV (n_minute (hT.row (ng_RR hT.1.2.2.2.1 hp5 hq5) (ng_RO hT.1.2.2.2.2 hq5) (by rw [nudgeR_40 hq5]; exact hT.2.1))) mv_X10_minute ml_X10_372 ⟨by decide, by decide⟩ dX10_nudges_129 (by first | assumption | rfl) rfl rfl rfl (Nat.le_of_ble_eq_true rfl) (fun v9 z h9 => ?_)
                           obtain ⟨rfl, T1, F1⟩ := h9
                           refine r_pop dX10_nudges_132 rfl ?_
                           refine r_iincN dX10_nudges_133 (by rfl) (by decide) ?_
                           refine r_goto (tgt := 84) dX10_nudges_136 (by decide) ?_
                           have E9 : RT z (aE a) (eW (aE a)) (nI 0) (nuP (aE a) (eW (aE a)) rd0 p q (nI o.1) (aR a) (min (s.1 + 1) (240 - t))) (min (t + (s.1 + 1)) 240) rd0 := by
                             rw [show min (t + (s.1 + 1)) 240 = (if min (t + s.1) 240 < 240 then min (t + s.1) 240 + 1 else min (t + s.1) 240) by split <;> omega]
                             rw [nu_next (by omega)]
                             have e : nuyP p q s.1 (nI o.1) (nuP (aE a) (eW (aE a)) rd0 p q (nI o.1) (aR a) (min s.1 (240 - t))) = nudgeR (nuP (aE a) (eW (aE a)) rd0 p q (nI o.1) (aR a) (min s.1 (240 - t))) p q := by
                               unfold nuyP
                               rw [if_pos (by omega), if_pos h118]
                             rw [e]
                             exact T1
                           exact PW.lc (by rfl) rfl (ih (s.1 + 1, z) ⟨(show s.1 + 1 ≤ m by omega), E9, (hF2.row (c := 154) (by omega)).trans F1.qf, (show z 137 0 = nI 0 by rw [F1.th]; exact z02)⟩ (show m - (s.1 + 1) < m - s.1 by omega)))
                        | (refine r_aload_n dX10_nudges_128 rfl (by rfl) ?_
                           refine r_callV (n_minute hT) mv_X10_minute ml_X10_372 ⟨by decide, by decide⟩ dX10_nudges_129 (by first | assumption | rfl) rfl rfl rfl (Nat.le_of_ble_eq_true rfl) (fun v9 z h9 => ?_)
                           obtain ⟨rfl, T1, F1⟩ := h9
                           refine r_pop dX10_nudges_132 rfl ?_
                           refine r_iincN dX10_nudges_133 (by rfl) (by decide) ?_
                           refine r_goto (tgt := 84) dX10_nudges_136 (by decide) ?_
                           have E9 : RT z (aE a) (eW (aE a)) (nI 0) (nuP (aE a) (eW (aE a)) rd0 p q (nI o.1) (aR a) (min (s.1 + 1) (240 - t))) (min (t + (s.1 + 1)) 240) rd0 := by
                             rw [show min (t + (s.1 + 1)) 240 = (if min (t + s.1) 240 < 240 then min (t + s.1) 240 + 1 else min (t + s.1) 240) by split <;> omega]
                             by_cases h9 : t + s.1 < 240
                             · rw [nu_next h9]
                               have e : nuyP p q s.1 (nI o.1) (nuP (aE a) (eW (aE a)) rd0 p q (nI o.1) (aR a) (min s.1 (240 - t))) = (nuP (aE a) (eW (aE a)) rd0 p q (nI o.1) (aR a) (min s.1 (240 - t))) := by
                                 unfold nuyP
                                 first
                                   | (rw [if_neg (by omega)]; done)
                                   | (rw [if_pos (by omega), if_neg h118]; done)
                                   | (exfalso; omega)
                               rw [e]
                               exact T1
                             · rw [nu_stay h9]
                               have e : minP (aE a) (eW (aE a)) rd0 (nI 0) (nuP (aE a) (eW (aE a)) rd0 p q (nI o.1) (aR a) (min s.1 (240 - t))) = (nuP (aE a) (eW (aE a)) rd0 p q (nI o.1) (aR a) (min s.1 (240 - t))) := by
                                 unfold minP
                                 rw [if_neg (by rw [hT.2.1]; exact nI_nlt (by omega) (by omega))]
                               rw [e] at T1
                               exact T1
                           exact PW.lc (by rfl) rfl (ih (s.1 + 1, z) ⟨(show s.1 + 1 ≤ m by omega), E9, hF2.trans F1.qf, (show z 137 0 = nI 0 by rw [F1.th]; exact z02)⟩ (show m - (s.1 + 1) < m - s.1 by omega)))
