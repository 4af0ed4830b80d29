/-! THE REFERENCE: what would be best -/
theorem hed_at {f : Nat → Int32} {p : Nat} {h : Int32} {o : Nat} : ∀ n, (o < n → hedR f p h n o = if o = p then nI 0 else if asl f o then nI 0 else f 40 + h) ∧ (n ≤ o → hedR f p h n o = nI 0)
  | 0 => ⟨fun q => by omega, fun _ => rfl⟩
  | n + 1 => by
    have ih := hed_at (f := f) (p := p) (h := h) (o := o) n
    have e : hedR f p h (n + 1) = if n = p then hedR f p h n else if asl f n then hedR f p h n else upd (hedR f p h n) n (f 40 + h) := rfl
    rw [e]
    constructor
    · intro ho
      by_cases q : o = n
      · subst q
        split
        · exact ih.2 (Nat.le_refl _)
        · split
          · exact ih.2 (Nat.le_refl _)
          · rw [pk_us]
      · have w := ih.1 (by omega)
        split
        · exact w
        · split
          · exact w
          · rw [pk_un q]; exact w
    · intro ho
      have w := ih.2 (by omega)
      split
      · exact w
      · split
        · exact w
        · rw [pk_un (by omega)]; exact w
/-- reading set anew behind 'take' -/
theorem RT.rd {x : XS} {E : NE} {w k : Int32} {f rd rd' r : Nat → Int32} {t : Nat} (h : RT x E w k f t rd) (hd : RD (eN E) t rd' r) : RT (xr x 157 r) E w k f t rd' := ⟨⟨h.1.1.fr (fun c hc => xr_n (by omega)) (by rw [xr_n (by decide)]) (by rw [xr_n (by decide)]), h.1.2.1, h.1.2.2.1, h.1.2.2.2.1, h.1.2.2.2.2⟩, h.2.1, h.2.2.1, by rw [xr_s]; exact hd, h.2.2.2.2⟩
theorem hed_0 (x : XS) (p h : Nat) (f : Nat → Int32) : tkR x = xr (tkR x) 157 (fun o => if o < 0 then (if o = p then nI 0 else if asl f o then nI 0 else nI h) else nI 0) := by
  have e : (fun o : Nat => if o < 0 then (if o = p then nI 0 else if asl f o then nI 0 else nI h) else nI 0) = tkR x 157 := by
    funext o
    rw [if_neg (Nat.not_lt_zero _)]
    rfl
  rw [e, xr_id]
set_option maxHeartbeats 8000000 in
set_option maxRecDepth 20000 in
theorem n_headOf {a : AS} {x : XS} {p h m : Nat} (hR : RRf x a) (hA : AI a) (hh : h ≤ 30) (hm : m < 2 ^ 30) (hp : p < 5) : MM mX10_headOf 8 0 0 [.ref 137, .int (nI p), .int (nI h), .int (nI m)] x (fun v y => v = some (.int (hedP (aE a) (aR a) p h m)) ∧ QF x y ∧ y 137 0 = x 137 0) NoT := by
  refine MM.of (by decide) (Nat.le_of_ble_eq_true rfl) ?_
  have y137 := lay_137
  have y157 := lay_157
  obtain ⟨t, ht2, ht⟩ := hA.t
  have T0 := take_RT hR hA ht ht2
  have n5 := hR.1.2.1
  refine r_aload_n dX10_headOf_0 rfl (by rfl) ?_
  refine r_callV c_take mv_X10_take ml_X10_316 ⟨by decide, by decide⟩ dX10_headOf_1 (by first | assumption | rfl) rfl rfl rfl (Nat.le_of_ble_eq_true rfl) (fun v9 x9 h9 => ?_)
  obtain ⟨rfl, h9⟩ := h9
  refine PW.xeq h9 ?_
  clear h9 x9
  refine r_iconst (v := nI 0) dX10_headOf_4 (by decide) ?_
  refine r_istore dX10_headOf_5 (by decide) ?_
  refine PW.loop (σ := Nat × XS) (fun s => eN (aE a) - s.1) (fun s => s.1 ≤ eN (aE a)) (fun s => [(0, .ref 137), (1, .int (nI p)), (2, .int (nI h)), (3, .int (nI m)), (4, .int (nI s.1))]) (fun s => (xr (tkR x) 157 (fun o => if o < s.1 then (if o = p then nI 0 else if asl (aR a) o then nI 0 else nI h) else nI 0))) ((0, x)) (Nat.zero_le _) rfl (hed_0 x p h (aR a)) (fun s hs ih => ?_)
  have n5 := hR.1.2.1
  have hs1 := hs
  refine r_iload dX10_headOf_7 (by rfl) ?_
  refine r_aload_n dX10_headOf_9 rfl (by rfl) ?_
  refine gf_X10_156 rfl dX10_headOf_10 (by first | assumption | rfl) (by rfl) ?_
  refine PW.topi (show _ = nI (eN (aE a)) from T0.1.1.1) ?_
  refine r_icmp_geN (tgt := 49) dX10_headOf_13 (by decide) (by omega) (by omega) (fun h13 => ?_) (fun h13 => ?_)
  · have es : s.1 = eN (aE a) := by omega
    have T9 : RT (xr (tkR x) 157 (fun o => if o < s.1 then (if o = p then nI 0 else if asl (aR a) o then nI 0 else nI h) else nI 0)) (aE a) (eW (aE a)) (nI 0) (aR a) t (hedR (aR a) p (nI h) (eN (aE a))) := T0.rd (fun o ho => by
      rw [(hed_at (eN (aE a))).1 ho, es]
      show ∃ R, _ ∧ _ ∧ (if o < eN (aE a) then (if o = p then nI 0 else if asl (aR a) o then nI 0 else nI h) else nI 0) = _
      rw [if_pos ho]
      split
      · exact ⟨0, by decide, rfl, by rw [Nat.zero_sub]⟩
      · split
        · exact ⟨0, by decide, rfl, by rw [Nat.zero_sub]⟩
        · exact ⟨t + h, by omega, by rw [ht, nI_add], by rw [show t + h - t = h by omega]⟩)
    refine r_aload_n dX10_headOf_49 rfl (by rfl) ?_
    refine r_iload_n dX10_headOf_50 rfl (by rfl) ?_
    refine r_callV (n_goesOn T9 (by omega)) mv_X10_goesOn ml_X10_389 ⟨by decide, by decide⟩ dX10_headOf_51 (by first | assumption | rfl) rfl rfl rfl (Nat.le_of_ble_eq_true rfl) (fun v9 y h9 => ?_)
    obtain ⟨rfl, T1, F1⟩ := h9
    refine r_iret rfl dX10_headOf_54 ?_
    exact ⟨by unfold hedP sltP; rfl, ((take_QF x).row (by omega)).trans F1.qf, by rw [F1.th]; rfl⟩
  · refine r_aload_n dX10_headOf_16 rfl (by rfl) ?_
    refine gf_X10_74 rfl dX10_headOf_17 (by first | assumption | rfl) (by rfl) ?_
    refine r_iload dX10_headOf_20 (by rfl) ?_
    refine r_iload dX10_headOf_22 (by rfl) ?_
    refine r_iload_n dX10_headOf_24 rfl (by rfl) ?_
    refine r_icmp_eqN (tgt := 41) dX10_headOf_25 (by decide) (by omega) (by omega) (fun h25 => ?_) (fun h25 => ?_)
    · refine r_iconst (v := nI 0) dX10_headOf_41 (by decide) ?_
      refine r_iastN dX10_headOf_42 (by first | assumption | rfl) (by omega) (by decide) ?_
      refine r_iincN dX10_headOf_43 (by rfl) (by decide) ?_
      refine r_goto (tgt := 7) dX10_headOf_46 (by decide) ?_
      first
        | (have e : (xr (tkR x) 157 (fun o => if o < (s.1 + 1) then (if o = p then nI 0 else if asl (aR a) o then nI 0 else nI h) else nI 0)) = xu (xr (tkR x) 157 (fun o => if o < s.1 then (if o = p then nI 0 else if asl (aR a) o then nI 0 else nI h) else nI 0)) 157 s.1 (nI h) := by
             rw [xu_xr]
             congr 1
             funext o
             unfold upd
             by_cases q : o = s.1
             · rw [if_pos q, q, if_pos (by omega)]
               rw [if_neg h25, if_neg (by rw [h34]; decide)]
             · rw [if_neg q]
               try dsimp only
               by_cases q2 : o < s.1
               · rw [if_pos q2, if_pos (by omega)]
               · rw [if_neg q2, if_neg (by omega)]
           exact PW.lc (by rfl) e.symm (ih (s.1 + 1, x) (show s.1 + 1 ≤ eN (aE a) by omega) (show eN (aE a) - (s.1 + 1) < eN (aE a) - s.1 by omega)))
        | (have e : (xr (tkR x) 157 (fun o => if o < (s.1 + 1) then (if o = p then nI 0 else if asl (aR a) o then nI 0 else nI h) else nI 0)) = xu (xr (tkR x) 157 (fun o => if o < s.1 then (if o = p then nI 0 else if asl (aR a) o then nI 0 else nI h) else nI 0)) 157 s.1 (nI 0) := by
             rw [xu_xr]
             congr 1
             funext o
             unfold upd
             by_cases q : o = s.1
             · rw [if_pos q, q, if_pos (by omega)]
               first
                 | (rw [if_pos h25]; done)
                 | (rw [if_neg h25, if_pos h34]; done)
             · rw [if_neg q]
               try dsimp only
               by_cases q2 : o < s.1
               · rw [if_pos q2, if_pos (by omega)]
               · rw [if_neg q2, if_neg (by omega)]
           exact PW.lc (by rfl) e.symm (ih (s.1 + 1, x) (show s.1 + 1 ≤ eN (aE a) by omega) (show eN (aE a) - (s.1 + 1) < eN (aE a) - s.1 by omega)))
    · refine r_aload_n dX10_headOf_28 rfl (by rfl) ?_
      refine r_iload dX10_headOf_29 (by rfl) ?_
      refine r_callV (n_isAsleep (x := (xr (tkR x) 157 (fun o => if o < s.1 then (if o = p then nI 0 else if asl (aR a) o then nI 0 else nI h) else nI 0))) (f := aR a) T0.1.2.2.2.1 (by omega)) mv_X10_isAsleep ml_X10_343 ⟨by decide, by decide⟩ dX10_headOf_31 (by first | assumption | rfl) rfl rfl rfl (Nat.le_of_ble_eq_true rfl) (fun v9 x9 h9 => ?_)
      obtain ⟨rfl, h9⟩ := h9
      refine PW.xeq h9 ?_
      clear h9 x9
      refine r_if_neB (tgt := 41) dX10_headOf_34 (by decide) (fun h34 => ?_) (fun h34 => ?_)
      · refine r_iconst (v := nI 0) dX10_headOf_41 (by decide) ?_
        refine r_iastN dX10_headOf_42 (by first | assumption | rfl) (by omega) (by decide) ?_
        refine r_iincN dX10_headOf_43 (by rfl) (by decide) ?_
        refine r_goto (tgt := 7) dX10_headOf_46 (by decide) ?_
        first
          | (have e : (xr (tkR x) 157 (fun o => if o < (s.1 + 1) then (if o = p then nI 0 else if asl (aR a) o then nI 0 else nI h) else nI 0)) = xu (xr (tkR x) 157 (fun o => if o < s.1 then (if o = p then nI 0 else if asl (aR a) o then nI 0 else nI h) else nI 0)) 157 s.1 (nI h) := by
               rw [xu_xr]
               congr 1
               funext o
               unfold upd
               by_cases q : o = s.1
               · rw [if_pos q, q, if_pos (by omega)]
                 rw [if_neg h25, if_neg (by rw [h34]; decide)]
               · rw [if_neg q]
                 try dsimp only
                 by_cases q2 : o < s.1
                 · rw [if_pos q2, if_pos (by omega)]
                 · rw [if_neg q2, if_neg (by omega)]
             exact PW.lc (by rfl) e.symm (ih (s.1 + 1, x) (show s.1 + 1 ≤ eN (aE a) by omega) (show eN (aE a) - (s.1 + 1) < eN (aE a) - s.1 by omega)))
          | (have e : (xr (tkR x) 157 (fun o => if o < (s.1 + 1) then (if o = p then nI 0 else if asl (aR a) o then nI 0 else nI h) else nI 0)) = xu (xr (tkR x) 157 (fun o => if o < s.1 then (if o = p then nI 0 else if asl (aR a) o then nI 0 else nI h) else nI 0)) 157 s.1 (nI 0) := by
               rw [xu_xr]
               congr 1
               funext o
               unfold upd
               by_cases q : o = s.1
               · rw [if_pos q, q, if_pos (by omega)]
                 first
                   | (rw [if_pos h25]; done)
                   | (rw [if_neg h25, if_pos h34]; done)
               · rw [if_neg q]
                 try dsimp only
                 by_cases q2 : o < s.1
                 · rw [if_pos q2, if_pos (by omega)]
                 · rw [if_neg q2, if_neg (by omega)]
             exact PW.lc (by rfl) e.symm (ih (s.1 + 1, x) (show s.1 + 1 ≤ eN (aE a) by omega) (show eN (aE a) - (s.1 + 1) < eN (aE a) - s.1 by omega)))
      · refine r_iload_n dX10_headOf_37 rfl (by rfl) ?_
        refine r_goto (tgt := 42) dX10_headOf_38 (by decide) ?_
        refine r_iastN dX10_headOf_42 (by first | assumption | rfl) (by omega) (by decide) ?_
        refine r_iincN dX10_headOf_43 (by rfl) (by decide) ?_
        refine r_goto (tgt := 7) dX10_headOf_46 (by decide) ?_
        first
          | (have e : (xr (tkR x) 157 (fun o => if o < (s.1 + 1) then (if o = p then nI 0 else if asl (aR a) o then nI 0 else nI h) else nI 0)) = xu (xr (tkR x) 157 (fun o => if o < s.1 then (if o = p then nI 0 else if asl (aR a) o then nI 0 else nI h) else nI 0)) 157 s.1 (nI h) := by
               rw [xu_xr]
               congr 1
               funext o
               unfold upd
               by_cases q : o = s.1
               · rw [if_pos q, q, if_pos (by omega)]
                 rw [if_neg h25, if_neg (by rw [h34]; decide)]
               · rw [if_neg q]
                 try dsimp only
                 by_cases q2 : o < s.1
                 · rw [if_pos q2, if_pos (by omega)]
                 · rw [if_neg q2, if_neg (by omega)]
             exact PW.lc (by rfl) e.symm (ih (s.1 + 1, x) (show s.1 + 1 ≤ eN (aE a) by omega) (show eN (aE a) - (s.1 + 1) < eN (aE a) - s.1 by omega)))
          | (have e : (xr (tkR x) 157 (fun o => if o < (s.1 + 1) then (if o = p then nI 0 else if asl (aR a) o then nI 0 else nI h) else nI 0)) = xu (xr (tkR x) 157 (fun o => if o < s.1 then (if o = p then nI 0 else if asl (aR a) o then nI 0 else nI h) else nI 0)) 157 s.1 (nI 0) := by
               rw [xu_xr]
               congr 1
               funext o
               unfold upd
               by_cases q : o = s.1
               · rw [if_pos q, q, if_pos (by omega)]
                 first
                   | (rw [if_pos h25]; done)
                   | (rw [if_neg h25, if_pos h34]; done)
               · rw [if_neg q]
                 try dsimp only
                 by_cases q2 : o < s.1
                 · rw [if_pos q2, if_pos (by omega)]
                 · rw [if_neg q2, if_neg (by omega)]
             exact PW.lc (by rfl) e.symm (ih (s.1 + 1, x) (show s.1 + 1 ≤ eN (aE a) by omega) (show eN (aE a) - (s.1 + 1) < eN (aE a) - s.1 by omega)))
set_option maxHeartbeats 8000000 in
set_option maxRecDepth 20000 in
theorem g_head {a : AS} {x : XS} {v h9 n9 : Int32} (hR : RRf x a) (hA : AI a) : RASK mX10_head [.ref 137, .int v, .int h9, .int n9] x a (oHead a v h9 n9) 2 := by
  refine MM.of (by decide) (Nat.le_of_ble_eq_true rfl) ?_
  have y137 := lay_137
  refine r_aload_n dX10_head_0 rfl (by rfl) ?_
  refine r_iconst (v := nI 0) dX10_head_1 (by decide) ?_
  refine pf_X10_3 rfl dX10_head_2 (by first | assumption | rfl) (by rfl) ?_
  refine r_aload_n dX10_head_5 rfl (by rfl) ?_
  refine r_iload_n dX10_head_6 rfl (by rfl) ?_
  refine r_iconst (v := nI 1) dX10_head_7 (by decide) ?_
  by_cases q8 : nobody v (eN (aE a)) = true
  · refine r_callV (c_isS_f hR.th.1.1 xu_s q8) mv_X10_isSleeper ml_X10_383 ⟨by decide, by decide⟩ dX10_head_8 lay_137 rfl rfl rfl (Nat.le_of_ble_eq_true rfl) (fun v9 x9 h9 => ?_)
    obtain ⟨rfl, h9⟩ := h9
    refine PW.xeq h9 ?_
    clear h9 x9
    refine r_if_eqB (tgt := 45) dX10_head_11 (by decide) (fun _ => ?_) (fun h => by cases h)
    refine r_iconst (v := nI 0) dX10_head_45 (by decide) ?_
    refine r_iret rfl dX10_head_46 ?_
    exact ref_nob hR rfl (by rw [oHead, rqS_t q8])
  · have q8 := Bool.eq_false_iff.mpr q8
    obtain ⟨p, hp, rfl⟩ := nobody_f hR.1.2.1 q8
    have hp5 : p < 5 := Nat.lt_of_lt_of_le hp hR.1.2.1
    refine r_callV (c_isS_t hR.th.1.1 hR.1.2.1 xu_s hp) mv_X10_isSleeper ml_X10_383 ⟨by decide, by decide⟩ dX10_head_8 lay_137 rfl rfl rfl (Nat.le_of_ble_eq_true rfl) (fun v9 x9 h9 => ?_)
    obtain ⟨rfl, h9⟩ := h9
    refine PW.xeq h9 ?_
    clear h9 x9
    refine r_if_eqB (tgt := 45) dX10_head_11 (by decide) (fun h => by cases h) (fun _ => ?_)
    refine r_aload_n dX10_head_14 rfl (by rfl) ?_
    refine r_iload_n dX10_head_15 rfl (by rfl) ?_
    refine r_iconst (v := nI 0) dX10_head_16 (by decide) ?_
    refine r_bipush (v := nI 30) dX10_head_17 (by decide) ?_
    refine r_callS c_within10 ms_X10_within ml_X10_282 ⟨by decide, by decide⟩ dX10_head_19 rfl (Nat.le_of_ble_eq_true rfl) (fun v9 x9 h9 => ?_)
    obtain ⟨rfl, h9⟩ := h9
    refine PW.xeq h9 ?_
    clear h9 x9
    refine r_if_eqB (tgt := 36) dX10_head_22 (by decide) (fun h22 => ?_) (fun h22 => ?_)
    · refine r_iconst (v := nI 0) dX10_head_36 (by decide) ?_
      refine r_iconst (v := nI 2) dX10_head_37 (by decide) ?_
      refine r_iconst (v := nI 1) dX10_head_38 (by decide) ?_
      refine r_callV (c_may_0 xu_s (by decide) (by decide)) mv_X10_may ml_X10_203 ⟨by decide, by decide⟩ dX10_head_39 lay_137 rfl rfl rfl (Nat.le_of_ble_eq_true rfl) (fun v9 x9 h9 => ?_)
      obtain ⟨rfl, h9⟩ := h9
      refine PW.xeq h9 ?_
      clear h9 x9
      refine r_if_neB (tgt := 47) dX10_head_42 (by decide) (fun h => by cases h) (fun _ => ?_)
      refine r_iconst (v := nI 0) dX10_head_45 (by decide) ?_
      refine r_iret rfl dX10_head_46 ?_
      exact ref_bad hR rfl (by rw [oHead, rqS_f q8, rq_f h22])
    · refine r_iload_n dX10_head_25 rfl (by rfl) ?_
      refine r_callS c_isMany ms_X10_isMany ml_X10_386 ⟨by decide, by decide⟩ dX10_head_26 rfl (Nat.le_of_ble_eq_true rfl) (fun v9 x9 h9 => ?_)
      obtain ⟨rfl, h9⟩ := h9
      refine PW.xeq h9 ?_
      clear h9 x9
      refine r_if_eqB (tgt := 36) dX10_head_29 (by decide) (fun h29 => ?_) (fun h29 => ?_)
      · refine r_iconst (v := nI 0) dX10_head_36 (by decide) ?_
        refine r_iconst (v := nI 2) dX10_head_37 (by decide) ?_
        refine r_iconst (v := nI 1) dX10_head_38 (by decide) ?_
        refine r_callV (c_may_0 xu_s (by decide) (by decide)) mv_X10_may ml_X10_203 ⟨by decide, by decide⟩ dX10_head_39 lay_137 rfl rfl rfl (Nat.le_of_ble_eq_true rfl) (fun v9 x9 h9 => ?_)
        obtain ⟨rfl, h9⟩ := h9
        refine PW.xeq h9 ?_
        clear h9 x9
        refine r_if_neB (tgt := 47) dX10_head_42 (by decide) (fun h => by cases h) (fun _ => ?_)
        refine r_iconst (v := nI 0) dX10_head_45 (by decide) ?_
        refine r_iret rfl dX10_head_46 ?_
        exact ref_bad hR rfl (by rw [oHead, rqS_f q8, rq_t h22, rq_f h29])
      · refine r_iconst (v := nI 1) dX10_head_32 (by decide) ?_
        refine r_goto (tgt := 37) dX10_head_33 (by decide) ?_
        refine r_iconst (v := nI 2) dX10_head_37 (by decide) ?_
        refine r_iconst (v := nI 1) dX10_head_38 (by decide) ?_
        refine r_callV (c_may_1 xu_s) mv_X10_may ml_X10_203 ⟨by decide, by decide⟩ dX10_head_39 lay_137 rfl rfl rfl (Nat.le_of_ble_eq_true rfl) (fun v9 x9 h9 => ?_)
        obtain ⟨rfl, h9⟩ := h9
        refine PW.xeq h9 ?_
        clear h9 x9
        refine r_if_neB (tgt := 47) dX10_head_42 (by decide) (fun _ => ?_) (fun h => by cases h)
        obtain ⟨h, _, hh, rfl⟩ := inB_is (lo := 0) (hi := 30) h22 (by decide) (by decide)
        obtain ⟨m, _, hm, rfl⟩ := inB_is (lo := 0) (hi := 240) h29 (by decide) (by decide)
        refine r_aload_n dX10_head_47 rfl (by rfl) ?_
        refine r_iload_n dX10_head_48 rfl (by rfl) ?_
        refine r_iload_n dX10_head_49 rfl (by rfl) ?_
        refine r_iload_n dX10_head_50 rfl (by rfl) ?_
        refine r_callV (n_headOf hR.th hA hh (by omega) hp5) mv_X10_headOf ml_X10_395 ⟨by decide, by decide⟩ dX10_head_51 (by first | assumption | rfl) rfl rfl rfl (Nat.le_of_ble_eq_true rfl) (fun v9 y h9 => ?_)
        obtain ⟨rfl, F1, z0⟩ := h9
        refine r_iret rfl dX10_head_54 ?_
        refine ref_ok hR ((th0_qf x).trans F1) (z0.trans rfl) ?_
        rw [oHead, rqS_f q8, rq_t h22, rq_t h29, nN_nI (by omega), nN_nI (by omega), nN_nI (by omega)]
set_option maxHeartbeats 8000000 in
set_option maxRecDepth 20000 in
theorem g_best {a : AS} {x : XS} {v n9 : Int32} (hR : RRf x a) (hA : AI a) : RASK mX10_best [.ref 137, .int v, .int n9] x a (oBest a v n9) 2 := by
  refine MM.of (by decide) (Nat.le_of_ble_eq_true rfl) ?_
  have y137 := lay_137
  refine r_aload_n dX10_best_0 rfl (by rfl) ?_
  refine r_iconst (v := nI 0) dX10_best_1 (by decide) ?_
  refine pf_X10_3 rfl dX10_best_2 (by first | assumption | rfl) (by rfl) ?_
  refine r_aload_n dX10_best_5 rfl (by rfl) ?_
  refine r_iload_n dX10_best_6 rfl (by rfl) ?_
  refine r_iconst (v := nI 1) dX10_best_7 (by decide) ?_
  by_cases q8 : nobody v (eN (aE a)) = true
  · refine r_callV (c_isS_f hR.th.1.1 xu_s q8) mv_X10_isSleeper ml_X10_383 ⟨by decide, by decide⟩ dX10_best_8 lay_137 rfl rfl rfl (Nat.le_of_ble_eq_true rfl) (fun v9 x9 h9 => ?_)
    obtain ⟨rfl, h9⟩ := h9
    refine PW.xeq h9 ?_
    clear h9 x9
    refine r_if_eqB (tgt := 27) dX10_best_11 (by decide) (fun _ => ?_) (fun h => by cases h)
    refine r_iconst (v := nI 0) dX10_best_27 (by decide) ?_
    refine r_iret rfl dX10_best_28 ?_
    exact ref_nob hR rfl (by rw [oBest, rqS_t q8])
  · have q8 := Bool.eq_false_iff.mpr q8
    obtain ⟨p, hp, rfl⟩ := nobody_f hR.1.2.1 q8
    have hp5 : p < 5 := Nat.lt_of_lt_of_le hp hR.1.2.1
    refine r_callV (c_isS_t hR.th.1.1 hR.1.2.1 xu_s hp) mv_X10_isSleeper ml_X10_383 ⟨by decide, by decide⟩ dX10_best_8 lay_137 rfl rfl rfl (Nat.le_of_ble_eq_true rfl) (fun v9 x9 h9 => ?_)
    obtain ⟨rfl, h9⟩ := h9
    refine PW.xeq h9 ?_
    clear h9 x9
    refine r_if_eqB (tgt := 27) dX10_best_11 (by decide) (fun h => by cases h) (fun _ => ?_)
    refine r_aload_n dX10_best_14 rfl (by rfl) ?_
    refine r_iload_n dX10_best_15 rfl (by rfl) ?_
    refine r_callS c_isMany ms_X10_isMany ml_X10_386 ⟨by decide, by decide⟩ dX10_best_16 rfl (Nat.le_of_ble_eq_true rfl) (fun v9 x9 h9 => ?_)
    obtain ⟨rfl, h9⟩ := h9
    refine PW.xeq h9 ?_
    clear h9 x9
    refine r_iconst (v := nI 2) dX10_best_19 (by decide) ?_
    refine r_iconst (v := nI 1) dX10_best_20 (by decide) ?_
    refine PW.caseB3 (fun q21 => ?_) (fun q21 => ?_)
    · refine r_callV (c_may_t xu_s) mv_X10_may ml_X10_203 ⟨by decide, by decide⟩ dX10_best_21 lay_137 rfl rfl rfl (Nat.le_of_ble_eq_true rfl) (fun v9 x9 h9 => ?_)
      obtain ⟨rfl, h9⟩ := h9
      refine PW.xeq h9 ?_
      clear h9 x9
      refine r_if_neB (tgt := 29) dX10_best_24 (by decide) (fun _ => ?_) (fun h => by cases h)
      obtain ⟨m, _, hm, rfl⟩ := inB_is (lo := 0) (hi := 240) q21 (by decide) (by decide)
      refine r_iconst (v := nI 0) dX10_best_29 (by decide) ?_
      refine r_istore_n dX10_best_30 rfl (by decide) ?_
      refine r_iconst (v := -1) dX10_best_31 (by decide) ?_
      refine r_istore dX10_best_32 (by decide) ?_
      refine r_iconst (v := nI 0) dX10_best_34 (by decide) ?_
      refine r_istore dX10_best_35 (by decide) ?_
      refine PW.loop (σ := Nat × XS) (fun s => 31 - s.1) (fun s => s.1 ≤ 31 ∧ QF x s.2 ∧ s.2 137 0 = nI 0) (fun s => [(0, .ref 137), (1, .int (nI p)), (2, .int (nI m)), (3, .int (amx (fun h => hedP (aE a) (aR a) p h m) (-1) (nI 0) s.1).2), (4, .int (amx (fun h => hedP (aE a) (aR a) p h m) (-1) (nI 0) s.1).1), (5, .int (nI s.1))]) (fun s => s.2) ((0, th0 x)) (⟨Nat.zero_le _, th0_qf x, rfl⟩) rfl rfl (fun s hs ih => ?_)
      obtain ⟨hs1, hF, z0⟩ := hs
      refine r_iload dX10_best_37 (by rfl) ?_
      refine r_bipush (v := nI 30) dX10_best_39 (by decide) ?_
      refine r_icmp_gtN (tgt := 77) dX10_best_41 (by decide) (by omega) (by omega) (fun h41 => ?_) (fun h41 => ?_)
      · refine r_iload_n dX10_best_77 rfl (by rfl) ?_
        refine r_iret rfl dX10_best_78 ?_
        refine ref_ok hR hF z0 ?_
        rw [oBest, rqS_f q8, rq_t q21, nN_nI (by omega), nN_nI (by omega), show 31 = s.1 by omega]
      · refine r_aload_n dX10_best_44 rfl (by rfl) ?_
        refine r_iload_n dX10_best_45 rfl (by rfl) ?_
        refine r_iload dX10_best_46 (by rfl) ?_
        refine r_iload_n dX10_best_48 rfl (by rfl) ?_
        refine r_callV (n_headOf (hR.qf hF) hA (by omega) (by omega) hp5) mv_X10_headOf ml_X10_395 ⟨by decide, by decide⟩ dX10_best_49 (by first | assumption | rfl) rfl rfl rfl (Nat.le_of_ble_eq_true rfl) (fun v9 y h9 => ?_)
        obtain ⟨rfl, F1, z1⟩ := h9
        refine r_istore dX10_best_52 (by decide) ?_
        refine r_iload dX10_best_54 (by rfl) ?_
        refine r_iload dX10_best_56 (by rfl) ?_
        refine r_icmp_gt (tgt := 64) dX10_best_58 (by decide) (fun h58 => ?_) (fun h58 => ?_)
        · refine r_iload dX10_best_64 (by rfl) ?_
          refine r_istore_n dX10_best_66 rfl (by decide) ?_
          refine r_iload dX10_best_67 (by rfl) ?_
          refine r_istore dX10_best_69 (by decide) ?_
          refine r_iincN dX10_best_71 (by rfl) (by decide) ?_
          refine r_goto (tgt := 37) dX10_best_74 (by decide) ?_
          first
            | (have e := amx_le (F := (fun h => hedP (aE a) (aR a) p h m)) (Int32.not_lt.mp h58)
               exact PW.lc (by (try dsimp only); rw [e]; rfl) rfl (ih (s.1 + 1, y) ⟨(show s.1 + 1 ≤ 31 by omega), hF.trans F1, z1.trans z0⟩ (show 31 - (s.1 + 1) < 31 - s.1 by omega)))
            | (have e := amx_gt (F := (fun h => hedP (aE a) (aR a) p h m)) (Int32.not_le.mpr h58)
               exact PW.lc (by (try dsimp only); rw [e]; rfl) rfl (ih (s.1 + 1, y) ⟨(show s.1 + 1 ≤ 31 by omega), hF.trans F1, z1.trans z0⟩ (show 31 - (s.1 + 1) < 31 - s.1 by omega)))
        · refine r_goto (tgt := 71) dX10_best_61 (by decide) ?_
          refine r_iincN dX10_best_71 (by rfl) (by decide) ?_
          refine r_goto (tgt := 37) dX10_best_74 (by decide) ?_
          first
            | (have e := amx_le (F := (fun h => hedP (aE a) (aR a) p h m)) (Int32.not_lt.mp h58)
               exact PW.lc (by (try dsimp only); rw [e]; rfl) rfl (ih (s.1 + 1, y) ⟨(show s.1 + 1 ≤ 31 by omega), hF.trans F1, z1.trans z0⟩ (show 31 - (s.1 + 1) < 31 - s.1 by omega)))
            | (have e := amx_gt (F := (fun h => hedP (aE a) (aR a) p h m)) (Int32.not_le.mpr h58)
               exact PW.lc (by (try dsimp only); rw [e]; rfl) rfl (ih (s.1 + 1, y) ⟨(show s.1 + 1 ≤ 31 by omega), hF.trans F1, z1.trans z0⟩ (show 31 - (s.1 + 1) < 31 - s.1 by omega)))
    · refine r_callV (c_may_f xu_s (by decide) (by decide)) mv_X10_may ml_X10_203 ⟨by decide, by decide⟩ dX10_best_21 lay_137 rfl rfl rfl (Nat.le_of_ble_eq_true rfl) (fun v9 x9 h9 => ?_)
      obtain ⟨rfl, h9⟩ := h9
      refine PW.xeq h9 ?_
      clear h9 x9
      refine r_if_neB (tgt := 29) dX10_best_24 (by decide) (fun h => by cases h) (fun _ => ?_)
      refine r_iconst (v := nI 0) dX10_best_27 (by decide) ?_
      refine r_iret rfl dX10_best_28 ?_
      exact ref_bad hR rfl (by rw [oBest, rqS_f q8, rq_f q21])
set_option maxHeartbeats 8000000 in
set_option maxRecDepth 20000 in
theorem n_readsFor {a : AS} {x : XS} {p q own its m t : Nat} (hR : RRf x a) (hA : AI a) (ht : aR a 40 = nI t) (ht2 : t ≤ 240) (ho : own ≤ 60) (hi : its ≤ 60) (hm : m < 2 ^ 30) (hp : p < 5) (hq : q < 5) : MM mX10_readsFor 8 0 0 [.ref 137, .int (nI p), .int (nI q), .int (nI own), .int (nI its), .int (nI m)] x (fun v y => v = none ∧ RRow (itP (aE a) (eW (aE a)) (rdPQ (aR a) p q own its) (aR a) m) (y 154) ∧ QF x y ∧ y 137 0 = x 137 0 ∧ y 160 = x 160) NoT := by
  refine MM.of (by decide) (Nat.le_of_ble_eq_true rfl) ?_
  have y137 := lay_137
  have y157 := lay_157
  have T0 := take_RT hR hA ht ht2
  refine r_aload_n dX10_readsFor_0 rfl (by rfl) ?_
  refine r_callV c_take mv_X10_take ml_X10_316 ⟨by decide, by decide⟩ dX10_readsFor_1 (by first | assumption | rfl) rfl rfl rfl (Nat.le_of_ble_eq_true rfl) (fun v9 x9 h9 => ?_)
  obtain ⟨rfl, h9⟩ := h9
  refine PW.xeq h9 ?_
  clear h9 x9
  refine r_aload_n dX10_readsFor_4 rfl (by rfl) ?_
  refine gf_X10_74 rfl dX10_readsFor_5 (by first | assumption | rfl) (by rfl) ?_
  refine r_iload_n dX10_readsFor_8 rfl (by rfl) ?_
  refine r_iload_n dX10_readsFor_9 rfl (by rfl) ?_
  refine r_iastN dX10_readsFor_10 (by first | assumption | rfl) (by omega) (by decide) ?_
  refine r_aload_n dX10_readsFor_11 rfl (by rfl) ?_
  refine gf_X10_74 rfl dX10_readsFor_12 (by first | assumption | rfl) (by rfl) ?_
  refine r_iload_n dX10_readsFor_15 rfl (by rfl) ?_
  refine r_iload dX10_readsFor_16 (by rfl) ?_
  refine r_iastN dX10_readsFor_18 (by first | assumption | rfl) (by omega) (by decide) ?_
  refine PW.xeq (x' := xr (tkR x) 157 (upd (upd rd0 p (nI own)) q (nI its))) (by simp only [xu1, xr_xr, xr_s]; rfl) ?_
  have T9 : RT (xr (tkR x) 157 (upd (upd rd0 p (nI own)) q (nI its))) (aE a) (eW (aE a)) (nI 0) (aR a) t (rdPQ (aR a) p q own its) := T0.rd (fun o _ => by
    unfold rdPQ
    rw [ht, nI_add, nI_add]
    by_cases e2 : o = q
    · rw [e2, pk_us, pk_us]
      exact ⟨t + its, by omega, rfl, by rw [show t + its - t = its by omega]⟩
    · rw [pk_un e2, pk_un e2]
      by_cases e1 : o = p
      · rw [e1, pk_us, pk_us]
        exact ⟨t + own, by omega, rfl, by rw [show t + own - t = own by omega]⟩
      · rw [pk_un e1, pk_un e1]
        exact ⟨0, by decide, rfl, by rw [Nat.zero_sub]⟩)
  refine r_aload_n dX10_readsFor_19 rfl (by rfl) ?_
  refine r_iload dX10_readsFor_20 (by rfl) ?_
  refine r_callV (n_goesOn T9 hm) mv_X10_goesOn ml_X10_389 ⟨by decide, by decide⟩ dX10_readsFor_22 (by first | assumption | rfl) rfl rfl rfl (Nat.le_of_ble_eq_true rfl) (fun v9 y h9 => ?_)
  obtain ⟨rfl, T1, F1⟩ := h9
  refine r_pop dX10_readsFor_25 rfl ?_
  refine r_ret rfl dX10_readsFor_26 ?_
  exact ⟨rfl, T1.1.2.2.2.1, ((take_QF x).row (by omega)).trans F1.qf, by rw [F1.th]; rfl, by rw [F1 160 (by decide) (by decide) (by decide) (by decide) (by decide)]; rfl⟩
set_option maxHeartbeats 8000000 in
set_option maxRecDepth 20000 in
theorem g_reads {a : AS} {x : XS} {v w o9 i9 n9 : Int32} (hR : RRf x a) (hA : AI a) : RASK mX10_reads [.ref 137, .int v, .int w, .int o9, .int i9, .int n9] x a (oReads a v w o9 i9 n9) 2 := by
  refine MM.of (by decide) (Nat.le_of_ble_eq_true rfl) ?_
  have y137 := lay_137
  have y153 := lay_153
  have y154 := lay_154
  obtain ⟨t, ht2, ht⟩ := hA.t
  refine r_aload_n dX10_reads_0 rfl (by rfl) ?_
  refine r_iconst (v := nI 0) dX10_reads_1 (by decide) ?_
  refine pf_X10_3 rfl dX10_reads_2 (by first | assumption | rfl) (by rfl) ?_
  refine r_aload_n dX10_reads_5 rfl (by rfl) ?_
  refine r_iload_n dX10_reads_6 rfl (by rfl) ?_
  refine r_iconst (v := nI 1) dX10_reads_7 (by decide) ?_
  by_cases q8 : nobody v (eN (aE a)) = true
  · refine r_callV (c_isS_f hR.th.1.1 xu_s q8) mv_X10_isSleeper ml_X10_383 ⟨by decide, by decide⟩ dX10_reads_8 lay_137 rfl rfl rfl (Nat.le_of_ble_eq_true rfl) (fun v9 x9 h9 => ?_)
    obtain ⟨rfl, h9⟩ := h9
    refine PW.xeq h9 ?_
    clear h9 x9
    refine r_if_eqB (tgt := 71) dX10_reads_11 (by decide) (fun _ => ?_) (fun h => by cases h)
    refine r_iconst (v := nI 0) dX10_reads_71 (by decide) ?_
    refine r_iret rfl dX10_reads_72 ?_
    exact ref_nob hR rfl (by rw [oReads, rqS_t q8])
  · have q8 := Bool.eq_false_iff.mpr q8
    obtain ⟨p, hp, rfl⟩ := nobody_f hR.1.2.1 q8
    have hp5 : p < 5 := Nat.lt_of_lt_of_le hp hR.1.2.1
    refine r_callV (c_isS_t hR.th.1.1 hR.1.2.1 xu_s hp) mv_X10_isSleeper ml_X10_383 ⟨by decide, by decide⟩ dX10_reads_8 lay_137 rfl rfl rfl (Nat.le_of_ble_eq_true rfl) (fun v9 x9 h9 => ?_)
    obtain ⟨rfl, h9⟩ := h9
    refine PW.xeq h9 ?_
    clear h9 x9
    refine r_if_eqB (tgt := 71) dX10_reads_11 (by decide) (fun h => by cases h) (fun _ => ?_)
    refine r_aload_n dX10_reads_14 rfl (by rfl) ?_
    refine r_iload_n dX10_reads_15 rfl (by rfl) ?_
    refine r_iconst (v := nI 1) dX10_reads_16 (by decide) ?_
    by_cases q17 : nobody w (eN (aE a)) = true
    · refine r_callV (c_isS_f hR.th.1.1 xu_s q17) mv_X10_isSleeper ml_X10_383 ⟨by decide, by decide⟩ dX10_reads_17 lay_137 rfl rfl rfl (Nat.le_of_ble_eq_true rfl) (fun v9 x9 h9 => ?_)
      obtain ⟨rfl, h9⟩ := h9
      refine PW.xeq h9 ?_
      clear h9 x9
      refine r_if_eqB (tgt := 71) dX10_reads_20 (by decide) (fun _ => ?_) (fun h => by cases h)
      refine r_iconst (v := nI 0) dX10_reads_71 (by decide) ?_
      refine r_iret rfl dX10_reads_72 ?_
      exact ref_nob hR rfl (by rw [oReads, rqS_f q8, rqS_t q17])
    · have q17 := Bool.eq_false_iff.mpr q17
      obtain ⟨q, hq, rfl⟩ := nobody_f hR.1.2.1 q17
      have hq5 : q < 5 := Nat.lt_of_lt_of_le hq hR.1.2.1
      refine r_callV (c_isS_t hR.th.1.1 hR.1.2.1 xu_s hq) mv_X10_isSleeper ml_X10_383 ⟨by decide, by decide⟩ dX10_reads_17 lay_137 rfl rfl rfl (Nat.le_of_ble_eq_true rfl) (fun v9 x9 h9 => ?_)
      obtain ⟨rfl, h9⟩ := h9
      refine PW.xeq h9 ?_
      clear h9 x9
      refine r_if_eqB (tgt := 71) dX10_reads_20 (by decide) (fun h => by cases h) (fun _ => ?_)
      refine r_aload_n dX10_reads_23 rfl (by rfl) ?_
      refine r_iload_n dX10_reads_24 rfl (by rfl) ?_
      refine r_iload_n dX10_reads_25 rfl (by rfl) ?_
      refine r_icmp_eqN (tgt := 62) dX10_reads_26 (by decide) (by omega) (by omega) (fun h26 => ?_) (fun h26 => ?_)
      · refine r_iconst (v := nI 0) dX10_reads_62 (by decide) ?_
        refine r_iconst (v := nI 2) dX10_reads_63 (by decide) ?_
        refine r_iconst (v := nI 1) dX10_reads_64 (by decide) ?_
        refine r_callV (c_may_0 xu_s (by decide) (by decide)) mv_X10_may ml_X10_203 ⟨by decide, by decide⟩ dX10_reads_65 lay_137 rfl rfl rfl (Nat.le_of_ble_eq_true rfl) (fun v9 x9 h9 => ?_)
        obtain ⟨rfl, h9⟩ := h9
        refine PW.xeq h9 ?_
        clear h9 x9
        refine r_if_neB (tgt := 73) dX10_reads_68 (by decide) (fun h => by cases h) (fun _ => ?_)
        refine r_iconst (v := nI 0) dX10_reads_71 (by decide) ?_
        refine r_iret rfl dX10_reads_72 ?_
        exact ref_bad hR rfl (by rw [oReads, rqS_f q8, rqS_f q17, rqN_f h26])
      · refine r_iload_n dX10_reads_29 rfl (by rfl) ?_
        refine r_iconst (v := nI 0) dX10_reads_30 (by decide) ?_
        refine r_bipush (v := nI 60) dX10_reads_31 (by decide) ?_
        refine r_callS c_within10 ms_X10_within ml_X10_282 ⟨by decide, by decide⟩ dX10_reads_33 rfl (Nat.le_of_ble_eq_true rfl) (fun v9 x9 h9 => ?_)
        obtain ⟨rfl, h9⟩ := h9
        refine PW.xeq h9 ?_
        clear h9 x9
        refine r_if_eqB (tgt := 62) dX10_reads_36 (by decide) (fun h36 => ?_) (fun h36 => ?_)
        · refine r_iconst (v := nI 0) dX10_reads_62 (by decide) ?_
          refine r_iconst (v := nI 2) dX10_reads_63 (by decide) ?_
          refine r_iconst (v := nI 1) dX10_reads_64 (by decide) ?_
          refine r_callV (c_may_0 xu_s (by decide) (by decide)) mv_X10_may ml_X10_203 ⟨by decide, by decide⟩ dX10_reads_65 lay_137 rfl rfl rfl (Nat.le_of_ble_eq_true rfl) (fun v9 x9 h9 => ?_)
          obtain ⟨rfl, h9⟩ := h9
          refine PW.xeq h9 ?_
          clear h9 x9
          refine r_if_neB (tgt := 73) dX10_reads_68 (by decide) (fun h => by cases h) (fun _ => ?_)
          refine r_iconst (v := nI 0) dX10_reads_71 (by decide) ?_
          refine r_iret rfl dX10_reads_72 ?_
          exact ref_bad hR rfl (by rw [oReads, rqS_f q8, rqS_f q17, rqN_t hp5 hq5 h26, rq_f h36])
        · refine r_iload dX10_reads_39 (by rfl) ?_
          refine r_iconst (v := nI 0) dX10_reads_41 (by decide) ?_
          refine r_bipush (v := nI 60) dX10_reads_42 (by decide) ?_
          refine r_callS c_within10 ms_X10_within ml_X10_282 ⟨by decide, by decide⟩ dX10_reads_44 rfl (Nat.le_of_ble_eq_true rfl) (fun v9 x9 h9 => ?_)
          obtain ⟨rfl, h9⟩ := h9
          refine PW.xeq h9 ?_
          clear h9 x9
          refine r_if_eqB (tgt := 62) dX10_reads_47 (by decide) (fun h47 => ?_) (fun h47 => ?_)
          · refine r_iconst (v := nI 0) dX10_reads_62 (by decide) ?_
            refine r_iconst (v := nI 2) dX10_reads_63 (by decide) ?_
            refine r_iconst (v := nI 1) dX10_reads_64 (by decide) ?_
            refine r_callV (c_may_0 xu_s (by decide) (by decide)) mv_X10_may ml_X10_203 ⟨by decide, by decide⟩ dX10_reads_65 lay_137 rfl rfl rfl (Nat.le_of_ble_eq_true rfl) (fun v9 x9 h9 => ?_)
            obtain ⟨rfl, h9⟩ := h9
            refine PW.xeq h9 ?_
            clear h9 x9
            refine r_if_neB (tgt := 73) dX10_reads_68 (by decide) (fun h => by cases h) (fun _ => ?_)
            refine r_iconst (v := nI 0) dX10_reads_71 (by decide) ?_
            refine r_iret rfl dX10_reads_72 ?_
            exact ref_bad hR rfl (by rw [oReads, rqS_f q8, rqS_f q17, rqN_t hp5 hq5 h26, rq_t h36, rq_f h47])
          · refine r_iload dX10_reads_50 (by rfl) ?_
            refine r_callS c_isFew ms_X10_isFew ml_X10_401 ⟨by decide, by decide⟩ dX10_reads_52 rfl (Nat.le_of_ble_eq_true rfl) (fun v9 x9 h9 => ?_)
            obtain ⟨rfl, h9⟩ := h9
            refine PW.xeq h9 ?_
            clear h9 x9
            refine r_if_eqB (tgt := 62) dX10_reads_55 (by decide) (fun h55 => ?_) (fun h55 => ?_)
            · refine r_iconst (v := nI 0) dX10_reads_62 (by decide) ?_
              refine r_iconst (v := nI 2) dX10_reads_63 (by decide) ?_
              refine r_iconst (v := nI 1) dX10_reads_64 (by decide) ?_
              refine r_callV (c_may_0 xu_s (by decide) (by decide)) mv_X10_may ml_X10_203 ⟨by decide, by decide⟩ dX10_reads_65 lay_137 rfl rfl rfl (Nat.le_of_ble_eq_true rfl) (fun v9 x9 h9 => ?_)
              obtain ⟨rfl, h9⟩ := h9
              refine PW.xeq h9 ?_
              clear h9 x9
              refine r_if_neB (tgt := 73) dX10_reads_68 (by decide) (fun h => by cases h) (fun _ => ?_)
              refine r_iconst (v := nI 0) dX10_reads_71 (by decide) ?_
              refine r_iret rfl dX10_reads_72 ?_
              exact ref_bad hR rfl (by rw [oReads, rqS_f q8, rqS_f q17, rqN_t hp5 hq5 h26, rq_t h36, rq_t h47, rq_f h55])
            · refine r_iconst (v := nI 1) dX10_reads_58 (by decide) ?_
              refine r_goto (tgt := 63) dX10_reads_59 (by decide) ?_
              refine r_iconst (v := nI 2) dX10_reads_63 (by decide) ?_
              refine r_iconst (v := nI 1) dX10_reads_64 (by decide) ?_
              refine r_callV (c_may_1 xu_s) mv_X10_may ml_X10_203 ⟨by decide, by decide⟩ dX10_reads_65 lay_137 rfl rfl rfl (Nat.le_of_ble_eq_true rfl) (fun v9 x9 h9 => ?_)
              obtain ⟨rfl, h9⟩ := h9
              refine PW.xeq h9 ?_
              clear h9 x9
              refine r_if_neB (tgt := 73) dX10_reads_68 (by decide) (fun _ => ?_) (fun h => by cases h)
              obtain ⟨o, _, ho, rfl⟩ := inB_is (lo := 0) (hi := 60) h36 (by decide) (by decide)
              obtain ⟨i, _, hi, rfl⟩ := inB_is (lo := 0) (hi := 60) h47 (by decide) (by decide)
              obtain ⟨m, _, hm, rfl⟩ := inB_is (lo := 0) (hi := 120) h55 (by decide) (by decide)
              refine r_aload_n dX10_reads_73 rfl (by rfl) ?_
              refine r_iload_n dX10_reads_74 rfl (by rfl) ?_
              refine r_iload_n dX10_reads_75 rfl (by rfl) ?_
              refine r_iload_n dX10_reads_76 rfl (by rfl) ?_
              refine r_iload dX10_reads_77 (by rfl) ?_
              refine r_iload dX10_reads_79 (by rfl) ?_
              refine r_callV (n_readsFor hR.th hA ht ht2 ho hi (by omega) hp5 hq5) mv_X10_readsFor ml_X10_404 ⟨by decide, by decide⟩ dX10_reads_81 (by first | assumption | rfl) rfl rfl rfl (Nat.le_of_ble_eq_true rfl) (fun v9 y h9 => ?_)
              obtain ⟨rfl, T1, F1, z0, _⟩ := h9
              refine r_aload_n dX10_reads_84 rfl (by rfl) ?_
              refine gf_X10_65 rfl dX10_reads_85 (by first | assumption | rfl) (by rfl) ?_
              refine r_bipush (v := nI 30) dX10_reads_88 (by decide) ?_
              refine r_iload_n dX10_reads_90 rfl (by rfl) ?_
              refine r_iaddN dX10_reads_91 ?_
              refine r_ialdN dX10_reads_92 (by first | assumption | rfl) (by omega) (by decide) ?_
              refine PW.topi (show _ = itP (aE a) (eW (aE a)) (rdPQ (aR a) p q o i) (aR a) m (25 + p) from (T1.1 p hp5).2.2.2.2.2.1) ?_
              refine r_aload_n dX10_reads_93 rfl (by rfl) ?_
              refine gf_X10_62 rfl dX10_reads_94 (by first | assumption | rfl) (by rfl) ?_
              refine r_bipush (v := nI 30) dX10_reads_97 (by decide) ?_
              refine r_iload_n dX10_reads_99 rfl (by rfl) ?_
              refine r_iaddN dX10_reads_100 ?_
              refine r_ialdN dX10_reads_101 (by first | assumption | rfl) (by omega) (by decide) ?_
              refine PW.topi (show _ = aR a (25 + p) from (by rw [F1.1 153 (by decide) (by decide) (by decide) (by decide) (by decide) (by decide) (by decide) (by decide)]; exact (hR.2.2.1.1 p hp5).2.2.2.2.2.1)) ?_
              refine r_isub dX10_reads_102 ?_
              refine r_iret rfl dX10_reads_103 ?_
              refine ref_ok hR ((th0_qf x).trans F1) (z0.trans rfl) ?_
              rw [oReads, rqS_f q8, rqS_f q17, rqN_t hp5 hq5 h26, rq_t h36, rq_t h47, rq_t h55, nN_nI (by omega), nN_nI (by omega), nN_nI (by omega), nN_nI (by omega), nN_nI (by omega)]
              rfl
theorem rfl_tk {z : XS} {v w : Int32} {c : Nat} (hc : c = 142 ∨ c = 143 ∨ c = 146 ∨ c = 147 ∨ c = 148) : tkR (xu z 137 19 v) c = tkR (xu z 137 19 w) c := by
  have k : ∀ v, tkR (xu z 137 19 v) c = z c := fun v => by
    unfold tkR
    rw [xr_n (by omega), xu_n (by omega), xr_n (by omega), xu_n (by omega)]
  rw [k, k]
theorem wall_0q (x : XS) : QF x (xu (th0 x) 137 19 (x 137 19)) := by
  refine ⟨fun c a1 _ _ _ _ _ _ _ => ?_, fun k a1 _ _ _ _ => ?_⟩
  · unfold th0
    rw [xu_n a1, xu_n a1]
  · by_cases e : k = 19
    · rw [e]; rfl
    · unfold th0
      rw [xu_k e, xu_k a1]
theorem wall_qf {x z y : XS} {v w : Int32} (h : QF x (xu z 137 19 w)) (F : MF (tkR (xu z 137 19 v)) y) : QF x (xu y 137 19 w) := by
  refine ⟨fun c a1 a2 a3 a4 a5 a6 a7 a8 => ?_, fun k a1 a2 a3 a4 a5 => ?_⟩
  · rw [xu_n a1, F c a2 a3 a4 a5 a6, (take_QF _).1 c a1 a2 a3 a4 a5 a6 a7 a8, xu_n a1]
    have := h.1 c a1 a2 a3 a4 a5 a6 a7 a8
    rw [xu_n a1] at this
    exact this
  · have w9 := h.2 k a1 a2 a3 a4 a5
    by_cases e : k = 19
    · subst e
      rw [xu_s] at w9 ⊢
      exact w9
    · rw [xu_k e] at w9
      rw [xu_k e, F.th, (take_QF _).2 k a1 a2 a3 a4 a5, xu_k e]
      exact w9
theorem wall_0 {z y : XS} {v : Int32} (F : MF (tkR (xu z 137 19 v)) y) : y 137 0 = z 137 0 := by rw [F.th]; rfl
set_option maxHeartbeats 8000000 in
set_option maxRecDepth 20000 in
theorem g_wall {a : AS} {x : XS} {n9 : Int32} (hR : RRf x a) (hA : AI a) : RASK mX10_wall [.ref 137, .int n9] x a (oWall a n9) 1 := by
  refine MM.of (by decide) (Nat.le_of_ble_eq_true rfl) ?_
  have y137 := lay_137
  obtain ⟨t, ht2, ht⟩ := hA.t
  refine r_aload_n dX10_wall_0 rfl (by rfl) ?_
  refine r_iconst (v := nI 0) dX10_wall_1 (by decide) ?_
  refine pf_X10_3 rfl dX10_wall_2 (by first | assumption | rfl) (by rfl) ?_
  refine r_aload_n dX10_wall_5 rfl (by rfl) ?_
  refine r_iload_n dX10_wall_6 rfl (by rfl) ?_
  refine r_callS c_isMany ms_X10_isMany ml_X10_386 ⟨by decide, by decide⟩ dX10_wall_7 rfl (Nat.le_of_ble_eq_true rfl) (fun v9 x9 h9 => ?_)
  obtain ⟨rfl, h9⟩ := h9
  refine PW.xeq h9 ?_
  clear h9 x9
  refine r_iconst (v := nI 1) dX10_wall_10 (by decide) ?_
  refine r_iconst (v := nI 1) dX10_wall_11 (by decide) ?_
  refine PW.caseB3 (fun q12 => ?_) (fun q12 => ?_)
  · refine r_callV (c_may_t xu_s) mv_X10_may ml_X10_203 ⟨by decide, by decide⟩ dX10_wall_12 lay_137 rfl rfl rfl (Nat.le_of_ble_eq_true rfl) (fun v9 x9 h9 => ?_)
    obtain ⟨rfl, h9⟩ := h9
    refine PW.xeq h9 ?_
    clear h9 x9
    refine r_if_neB (tgt := 20) dX10_wall_15 (by decide) (fun _ => ?_) (fun h => by cases h)
    obtain ⟨m, _, hm, rfl⟩ := inB_is (lo := 0) (hi := 240) q12 (by decide) (by decide)
    refine r_aload_n dX10_wall_20 rfl (by rfl) ?_
    refine gf_X10_159 rfl dX10_wall_21 (by first | assumption | rfl) (by rfl) ?_
    refine r_istore_n dX10_wall_24 rfl (by decide) ?_
    refine r_iconst (v := nI 0) dX10_wall_25 (by decide) ?_
    refine r_istore_n dX10_wall_26 rfl (by decide) ?_
    refine r_iconst (v := -1) dX10_wall_27 (by decide) ?_
    refine r_istore dX10_wall_28 (by decide) ?_
    refine r_iconst (v := nI 0) dX10_wall_30 (by decide) ?_
    refine r_istore dX10_wall_31 (by decide) ?_
    refine PW.loop (σ := Nat × XS) (fun s => 41 - s.1) (fun s => s.1 ≤ 41 ∧ QF x (xu s.2 137 19 (x 137 19)) ∧ s.2 137 0 = nI 0) (fun s => [(0, .ref 137), (1, .int (nI m)), (2, .int (x 137 19)), (3, .int (amx (walS (aE a) (aR a) m) (-1) (nI 0) s.1).2), (4, .int (amx (walS (aE a) (aR a) m) (-1) (nI 0) s.1).1), (5, .int (nI s.1))]) (fun s => s.2) ((0, th0 x)) (⟨Nat.zero_le _, wall_0q x, rfl⟩) rfl rfl (fun s hs ih => ?_)
    obtain ⟨hs1, hF, z0⟩ := hs
    refine r_iload dX10_wall_33 (by rfl) ?_
    refine r_bipush (v := nI 40) dX10_wall_35 (by decide) ?_
    refine r_icmp_gtN (tgt := 80) dX10_wall_37 (by decide) (by omega) (by omega) (fun h37 => ?_) (fun h37 => ?_)
    · refine r_aload_n dX10_wall_80 rfl (by rfl) ?_
      refine r_iload_n dX10_wall_81 rfl (by rfl) ?_
      refine pf_X10_159 rfl dX10_wall_82 (by first | assumption | rfl) (by rfl) ?_
      refine r_iload_n dX10_wall_85 rfl (by rfl) ?_
      refine r_iret rfl dX10_wall_86 ?_
      refine ref_ok hR hF (by rw [xu_k (by decide)]; exact z0) ?_
      rw [oWall, rq_t q12, nN_nI (by omega), show 41 = s.1 by omega]
    · refine r_aload_n dX10_wall_40 rfl (by rfl) ?_
      refine r_iload dX10_wall_41 (by rfl) ?_
      refine pf_X10_159 rfl dX10_wall_43 (by first | assumption | rfl) (by rfl) ?_
      have R1 : RRf (xu s.2 137 19 (x 137 19)) a := hR.qf hF
      have T0 := take_RT R1 hA ht ht2
      have T9 : RT (tkR (xu s.2 137 19 (nI s.1))) (aE a) (nI s.1) (nI 0) (aR a) t rd0 := ⟨⟨T0.1.1.fr (fun c hc => rfl_tk hc) rfl rfl, rfl, rfl, T0.1.2.2.2.1, T0.1.2.2.2.2⟩, ht, ht2, T0.2.2.2.1, ⟨s.1, by omega, rfl⟩⟩
      refine r_aload_n dX10_wall_46 rfl (by rfl) ?_
      refine r_callV c_take mv_X10_take ml_X10_316 ⟨by decide, by decide⟩ dX10_wall_47 (by first | assumption | rfl) rfl rfl rfl (Nat.le_of_ble_eq_true rfl) (fun v9 x9 h9 => ?_)
      obtain ⟨rfl, h9⟩ := h9
      refine PW.xeq h9 ?_
      clear h9 x9
      refine r_aload_n dX10_wall_50 rfl (by rfl) ?_
      refine r_iload_n dX10_wall_51 rfl (by rfl) ?_
      refine r_callV (n_goesOn T9 (by omega)) mv_X10_goesOn ml_X10_389 ⟨by decide, by decide⟩ dX10_wall_52 (by first | assumption | rfl) rfl rfl rfl (Nat.le_of_ble_eq_true rfl) (fun v9 y h9 => ?_)
      obtain ⟨rfl, T1, F1⟩ := h9
      refine r_istore dX10_wall_55 (by decide) ?_
      refine r_iload dX10_wall_57 (by rfl) ?_
      refine r_iload dX10_wall_59 (by rfl) ?_
      refine r_icmp_gt (tgt := 67) dX10_wall_61 (by decide) (fun h61 => ?_) (fun h61 => ?_)
      · refine r_iload dX10_wall_67 (by rfl) ?_
        refine r_istore_n dX10_wall_69 rfl (by decide) ?_
        refine r_iload dX10_wall_70 (by rfl) ?_
        refine r_istore dX10_wall_72 (by decide) ?_
        refine r_iincN dX10_wall_74 (by rfl) (by decide) ?_
        refine r_goto (tgt := 33) dX10_wall_77 (by decide) ?_
        first
          | (have e := amx_le (F := (walS (aE a) (aR a) m)) (Int32.not_lt.mp h61)
             exact PW.lc (by (try dsimp only); rw [e]; rfl) rfl (ih (s.1 + 1, y) ⟨(show s.1 + 1 ≤ 41 by omega), wall_qf hF F1, (wall_0 F1).trans z0⟩ (show 41 - (s.1 + 1) < 41 - s.1 by omega)))
          | (have e := amx_gt (F := (walS (aE a) (aR a) m)) (Int32.not_le.mpr h61)
             exact PW.lc (by (try dsimp only); rw [e]; rfl) rfl (ih (s.1 + 1, y) ⟨(show s.1 + 1 ≤ 41 by omega), wall_qf hF F1, (wall_0 F1).trans z0⟩ (show 41 - (s.1 + 1) < 41 - s.1 by omega)))
      · refine r_goto (tgt := 74) dX10_wall_64 (by decide) ?_
        refine r_iincN dX10_wall_74 (by rfl) (by decide) ?_
        refine r_goto (tgt := 33) dX10_wall_77 (by decide) ?_
        first
          | (have e := amx_le (F := (walS (aE a) (aR a) m)) (Int32.not_lt.mp h61)
             exact PW.lc (by (try dsimp only); rw [e]; rfl) rfl (ih (s.1 + 1, y) ⟨(show s.1 + 1 ≤ 41 by omega), wall_qf hF F1, (wall_0 F1).trans z0⟩ (show 41 - (s.1 + 1) < 41 - s.1 by omega)))
          | (have e := amx_gt (F := (walS (aE a) (aR a) m)) (Int32.not_le.mpr h61)
             exact PW.lc (by (try dsimp only); rw [e]; rfl) rfl (ih (s.1 + 1, y) ⟨(show s.1 + 1 ≤ 41 by omega), wall_qf hF F1, (wall_0 F1).trans z0⟩ (show 41 - (s.1 + 1) < 41 - s.1 by omega)))
  · refine r_callV (c_may_f xu_s (by decide) (by decide)) mv_X10_may ml_X10_203 ⟨by decide, by decide⟩ dX10_wall_12 lay_137 rfl rfl rfl (Nat.le_of_ble_eq_true rfl) (fun v9 x9 h9 => ?_)
    obtain ⟨rfl, h9⟩ := h9
    refine PW.xeq h9 ?_
    clear h9 x9
    refine r_if_neB (tgt := 20) dX10_wall_15 (by decide) (fun h => by cases h) (fun _ => ?_)
    refine r_iconst (v := nI 0) dX10_wall_18 (by decide) ?_
    refine r_iret rfl dX10_wall_19 ?_
    exact ref_bad hR rfl (by rw [oWall, rq_f q12])
set_option maxHeartbeats 8000000 in
set_option maxRecDepth 20000 in
theorem g_plugs {a : AS} {x : XS} {v m9 n9 : Int32} (hR : RRf x a) (hA : AI a) : RASK mX10_plugs [.ref 137, .int v, .int m9, .int n9] x a (oPlugs a v m9 n9) 2 := by
  refine MM.of (by decide) (Nat.le_of_ble_eq_true rfl) ?_
  have y137 := lay_137
  have y154 := lay_154
  obtain ⟨t, ht2, ht⟩ := hA.t
  refine r_aload_n dX10_plugs_0 rfl (by rfl) ?_
  refine r_iconst (v := nI 0) dX10_plugs_1 (by decide) ?_
  refine pf_X10_3 rfl dX10_plugs_2 (by first | assumption | rfl) (by rfl) ?_
  refine r_aload_n dX10_plugs_5 rfl (by rfl) ?_
  refine r_iload_n dX10_plugs_6 rfl (by rfl) ?_
  refine r_iconst (v := nI 1) dX10_plugs_7 (by decide) ?_
  by_cases q8 : nobody v (eN (aE a)) = true
  · refine r_callV (c_isS_f hR.th.1.1 xu_s q8) mv_X10_isSleeper ml_X10_383 ⟨by decide, by decide⟩ dX10_plugs_8 lay_137 rfl rfl rfl (Nat.le_of_ble_eq_true rfl) (fun v9 x9 h9 => ?_)
    obtain ⟨rfl, h9⟩ := h9
    refine PW.xeq h9 ?_
    clear h9 x9
    refine r_if_eqB (tgt := 42) dX10_plugs_11 (by decide) (fun _ => ?_) (fun h => by cases h)
    refine r_iconst (v := nI 0) dX10_plugs_42 (by decide) ?_
    refine r_iret rfl dX10_plugs_43 ?_
    exact ref_nob hR rfl (by rw [oPlugs, rqS_t q8])
  · have q8 := Bool.eq_false_iff.mpr q8
    obtain ⟨p, hp, rfl⟩ := nobody_f hR.1.2.1 q8
    have hp5 : p < 5 := Nat.lt_of_lt_of_le hp hR.1.2.1
    refine r_callV (c_isS_t hR.th.1.1 hR.1.2.1 xu_s hp) mv_X10_isSleeper ml_X10_383 ⟨by decide, by decide⟩ dX10_plugs_8 lay_137 rfl rfl rfl (Nat.le_of_ble_eq_true rfl) (fun v9 x9 h9 => ?_)
    obtain ⟨rfl, h9⟩ := h9
    refine PW.xeq h9 ?_
    clear h9 x9
    refine r_if_eqB (tgt := 42) dX10_plugs_11 (by decide) (fun h => by cases h) (fun _ => ?_)
    refine r_aload_n dX10_plugs_14 rfl (by rfl) ?_
    refine r_iload_n dX10_plugs_15 rfl (by rfl) ?_
    refine r_callS c_isMany ms_X10_isMany ml_X10_386 ⟨by decide, by decide⟩ dX10_plugs_16 rfl (Nat.le_of_ble_eq_true rfl) (fun v9 x9 h9 => ?_)
    obtain ⟨rfl, h9⟩ := h9
    refine PW.xeq h9 ?_
    clear h9 x9
    refine r_if_eqB (tgt := 33) dX10_plugs_19 (by decide) (fun h19 => ?_) (fun h19 => ?_)
    · refine r_iconst (v := nI 0) dX10_plugs_33 (by decide) ?_
      refine r_iconst (v := nI 2) dX10_plugs_34 (by decide) ?_
      refine r_iconst (v := nI 1) dX10_plugs_35 (by decide) ?_
      refine r_callV (c_may_0 xu_s (by decide) (by decide)) mv_X10_may ml_X10_203 ⟨by decide, by decide⟩ dX10_plugs_36 lay_137 rfl rfl rfl (Nat.le_of_ble_eq_true rfl) (fun v9 x9 h9 => ?_)
      obtain ⟨rfl, h9⟩ := h9
      refine PW.xeq h9 ?_
      clear h9 x9
      refine r_if_neB (tgt := 44) dX10_plugs_39 (by decide) (fun h => by cases h) (fun _ => ?_)
      refine r_iconst (v := nI 0) dX10_plugs_42 (by decide) ?_
      refine r_iret rfl dX10_plugs_43 ?_
      exact ref_bad hR rfl (by rw [oPlugs, rqS_f q8, rq_f h19])
    · refine r_iload_n dX10_plugs_22 rfl (by rfl) ?_
      refine r_callS c_isMany ms_X10_isMany ml_X10_386 ⟨by decide, by decide⟩ dX10_plugs_23 rfl (Nat.le_of_ble_eq_true rfl) (fun v9 x9 h9 => ?_)
      obtain ⟨rfl, h9⟩ := h9
      refine PW.xeq h9 ?_
      clear h9 x9
      refine r_if_eqB (tgt := 33) dX10_plugs_26 (by decide) (fun h26 => ?_) (fun h26 => ?_)
      · refine r_iconst (v := nI 0) dX10_plugs_33 (by decide) ?_
        refine r_iconst (v := nI 2) dX10_plugs_34 (by decide) ?_
        refine r_iconst (v := nI 1) dX10_plugs_35 (by decide) ?_
        refine r_callV (c_may_0 xu_s (by decide) (by decide)) mv_X10_may ml_X10_203 ⟨by decide, by decide⟩ dX10_plugs_36 lay_137 rfl rfl rfl (Nat.le_of_ble_eq_true rfl) (fun v9 x9 h9 => ?_)
        obtain ⟨rfl, h9⟩ := h9
        refine PW.xeq h9 ?_
        clear h9 x9
        refine r_if_neB (tgt := 44) dX10_plugs_39 (by decide) (fun h => by cases h) (fun _ => ?_)
        refine r_iconst (v := nI 0) dX10_plugs_42 (by decide) ?_
        refine r_iret rfl dX10_plugs_43 ?_
        exact ref_bad hR rfl (by rw [oPlugs, rqS_f q8, rq_t h19, rq_f h26])
      · refine r_iconst (v := nI 1) dX10_plugs_29 (by decide) ?_
        refine r_goto (tgt := 34) dX10_plugs_30 (by decide) ?_
        refine r_iconst (v := nI 2) dX10_plugs_34 (by decide) ?_
        refine r_iconst (v := nI 1) dX10_plugs_35 (by decide) ?_
        refine r_callV (c_may_1 xu_s) mv_X10_may ml_X10_203 ⟨by decide, by decide⟩ dX10_plugs_36 lay_137 rfl rfl rfl (Nat.le_of_ble_eq_true rfl) (fun v9 x9 h9 => ?_)
        obtain ⟨rfl, h9⟩ := h9
        refine PW.xeq h9 ?_
        clear h9 x9
        refine r_if_neB (tgt := 44) dX10_plugs_39 (by decide) (fun _ => ?_) (fun h => by cases h)
        obtain ⟨m, _, hm, rfl⟩ := inB_is (lo := 0) (hi := 240) h19 (by decide) (by decide)
        obtain ⟨n, _, hn, rfl⟩ := inB_is (lo := 0) (hi := 240) h26 (by decide) (by decide)
        refine r_iconst (v := nI 0) dX10_plugs_44 (by decide) ?_
        refine r_istore dX10_plugs_45 (by decide) ?_
        refine PW.loop (σ := Nat × XS) (fun s => 21 - s.1) (fun s => s.1 ≤ 21 ∧ QF x s.2 ∧ s.2 137 0 = nI 0 ∧ soonF (pluS (aE a) (aR a) p (nI m) n) (21 - s.1) s.1 = soonF (pluS (aE a) (aR a) p (nI m) n) 21 0) (fun s => [(0, .ref 137), (1, .int (nI p)), (2, .int (nI m)), (3, .int (nI n)), (4, .int (nI s.1))]) (fun s => s.2) ((0, th0 x)) (⟨Nat.zero_le _, th0_qf x, rfl, rfl⟩) rfl rfl (fun s hs ih => ?_)
        obtain ⟨hs1, hF, z0, hL⟩ := hs
        refine r_iload dX10_plugs_47 (by rfl) ?_
        refine r_bipush (v := nI 20) dX10_plugs_49 (by decide) ?_
        refine r_icmp_gtN (tgt := 88) dX10_plugs_51 (by decide) (by omega) (by omega) (fun h51 => ?_) (fun h51 => ?_)
        · refine r_iconst (v := -1) dX10_plugs_88 (by decide) ?_
          refine r_iret rfl dX10_plugs_89 ?_
          refine ref_ok hR hF z0 ?_
          rw [oPlugs, rqS_f q8, rq_t h19, rq_t h26, nN_nI (by omega), nN_nI (by omega), ← hL, show 21 - s.1 = 0 by omega, soonF]
        · refine r_aload_n dX10_plugs_54 rfl (by rfl) ?_
          refine r_callV c_take mv_X10_take ml_X10_316 ⟨by decide, by decide⟩ dX10_plugs_55 (by first | assumption | rfl) rfl rfl rfl (Nat.le_of_ble_eq_true rfl) (fun v9 x9 h9 => ?_)
          obtain ⟨rfl, h9⟩ := h9
          refine PW.xeq h9 ?_
          clear h9 x9
          refine r_aload_n dX10_plugs_58 rfl (by rfl) ?_
          refine gf_X10_65 rfl dX10_plugs_59 (by first | assumption | rfl) (by rfl) ?_
          refine r_bipush (v := nI 10) dX10_plugs_62 (by decide) ?_
          refine r_iload_n dX10_plugs_64 rfl (by rfl) ?_
          refine r_iaddN dX10_plugs_65 ?_
          refine r_iload dX10_plugs_66 (by rfl) ?_
          refine r_iastN dX10_plugs_68 (by first | assumption | rfl) (by omega) (by decide) ?_
          have T0 := take_RT (hR.qf hF) hA ht ht2
          have T9 : RT (xu (tkR s.2) 154 (10 + p) (nI s.1)) (aE a) (eW (aE a)) (nI 0) (upd (aR a) (35 + p) (nI s.1)) t rd0 := ⟨⟨T0.1.1.fr (fun c hc => xu_n (by omega)) rfl rfl, T0.1.2.1, rfl, T0.1.2.2.2.1.plugs hp5, T0.1.2.2.2.2.plugs hp5⟩, by rw [pk_un (by omega)]; exact ht, ht2, T0.2.2.2.1, T0.2.2.2.2⟩
          refine r_aload_n dX10_plugs_69 rfl (by rfl) ?_
          refine r_iload_n dX10_plugs_70 rfl (by rfl) ?_
          refine r_iload_n dX10_plugs_71 rfl (by rfl) ?_
          refine r_callV (n_sleepsIn T9 (by omega) hp5) mv_X10_sleepsIn ml_X10_392 ⟨by decide, by decide⟩ dX10_plugs_72 (by first | assumption | rfl) rfl rfl rfl (Nat.le_of_ble_eq_true rfl) (fun v9 y h9 => ?_)
          obtain ⟨rfl, F1⟩ := h9
          have QQ1 : QF x y := (hF.trans ((take_QF s.2).put (c := 154) (k := 10 + p) (v := nI s.1) (by omega))).trans F1.qf
          have z1 : y 137 0 = nI 0 := by rw [F1.th]; exact z0
          refine r_iload_n dX10_plugs_75 rfl (by rfl) ?_
          refine r_icmp_lt (tgt := 82) dX10_plugs_76 (by decide) (fun h76 => ?_) (fun h76 => ?_)
          · refine r_iincN dX10_plugs_82 (by rfl) (by decide) ?_
            refine r_goto (tgt := 47) dX10_plugs_85 (by decide) ?_
            exact PW.lc (by rfl) rfl (ih (s.1 + 1, y) ⟨(show s.1 + 1 ≤ 21 by omega), QQ1, z1, (by
              rw [← hL, show 21 - s.1 = (21 - (s.1 + 1)) + 1 by omega, soonF, if_neg (by unfold pluS oneS; rw [decide_eq_true h76]; decide)])⟩ (show 21 - (s.1 + 1) < 21 - s.1 by omega))
          · refine r_iload dX10_plugs_79 (by rfl) ?_
            refine r_iret rfl dX10_plugs_81 ?_
            refine ref_ok hR QQ1 z1 ?_
            rw [oPlugs, rqS_f q8, rq_t h19, rq_t h26, nN_nI (by omega), nN_nI (by omega), ← hL, show 21 - s.1 = (20 - s.1) + 1 by omega, soonF, if_pos (by unfold pluS oneS; rw [decide_eq_false h76]; rfl)]
