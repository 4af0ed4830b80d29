/-! THE FACE: what will be, what would be best -/
def amx (F : Nat → Int32) (m0 f0 : Int32) : Nat → Int32 × Int32
  | 0 => (m0, f0)
  | i + 1 => if (amx F m0 f0 i).1 < F i then (F i, nI i) else amx F m0 f0 i
theorem amx_le {F : Nat → Int32} {m0 f0 : Int32} {i : Nat} (h : F i ≤ (amx F m0 f0 i).1) : amx F m0 f0 (i + 1) = amx F m0 f0 i := by
  show (if (amx F m0 f0 i).1 < F i then (F i, nI i) else amx F m0 f0 i) = _
  rw [if_neg (Int32.not_lt.mpr h)]
theorem amx_gt {F : Nat → Int32} {m0 f0 : Int32} {i : Nat} (h : ¬ F i ≤ (amx F m0 f0 i).1) : amx F m0 f0 (i + 1) = (F i, nI i) := by
  show (if (amx F m0 f0 i).1 < F i then (F i, nI i) else amx F m0 f0 i) = _
  rw [if_pos (Int32.not_le.mp h)]
def amo (F : Nat → Option Int32) : Nat → Int32 × Int32
  | 0 => (-1, nI 0)
  | i + 1 => match F i with
    | none => amo F i
    | some v => if (amo F i).1 < v then (v, nI i) else amo F i
theorem amo_n {F : Nat → Option Int32} {i : Nat} (h : F i = none) : amo F (i + 1) = amo F i := by
  show (match F i with | none => amo F i | some v => if (amo F i).1 < v then (v, nI i) else amo F i) = _
  rw [h]
theorem amo_le {F : Nat → Option Int32} {i : Nat} {v : Int32} (h : F i = some v) (h2 : v ≤ (amo F i).1) : amo F (i + 1) = amo F i := by
  show (match F i with | none => amo F i | some v => if (amo F i).1 < v then (v, nI i) else amo F i) = _
  rw [h]
  exact if_neg (Int32.not_lt.mpr h2)
theorem amo_gt {F : Nat → Option Int32} {i : Nat} {v : Int32} (h : F i = some v) (h2 : ¬ v ≤ (amo F i).1) : amo F (i + 1) = (v, nI i) := by
  show (match F i with | none => amo F i | some v => if (amo F i).1 < v then (v, nI i) else amo F i) = _
  rw [h]
  exact if_pos (Int32.not_le.mp h2)
theorem bI_inj {b c : Bool} : bI b = bI c ↔ b = c := by cases b <;> cases c <;> decide +kernel
def soonF (F : Nat → Bool) : Nat → Nat → Int32
  | 0, _ => -1
  | n + 1, i => if F i then nI i else soonF F n (i + 1)
def mxF (F : Nat → Nat) : Nat → Nat × Nat
  | 0 => (F 0, 0)
  | i + 1 => if (mxF F i).1 < F (i + 1) then (F (i + 1), i + 1) else mxF F i
theorem mxF_le {F : Nat → Nat} (h : ∀ i, F i ≤ 5) : ∀ i, (mxF F i).1 ≤ 5 ∧ (mxF F i).2 ≤ i
  | 0 => ⟨h 0, Nat.le_refl 0⟩
  | i + 1 => by
    have ih := mxF_le h i
    unfold mxF
    split
    · exact ⟨h _, Nat.le_refl _⟩
    · exact ⟨ih.1, Nat.le_succ_of_le ih.2⟩
def hedR (f : Nat → Int32) (p : Nat) (h : Int32) : Nat → Nat → Int32
  | 0 => rd0
  | i + 1 => if i = p then hedR f p h i else if asl f i then hedR f p h i else upd (hedR f p h i) i (f 40 + h)
def sltP (E : NE) (rd f : Nat → Int32) (m : Nat) : Int32 := sumR (itP E (eW E) rd f m) 25 (eN E) - sumR f 25 (eN E)
def hedP (E : NE) (f : Nat → Int32) (p h m : Nat) : Int32 := sltP E (hedR f p (nI h) (eN E)) f m
def rdPQ (f : Nat → Int32) (p q own its : Nat) : Nat → Int32 := upd (upd rd0 p (f 40 + nI own)) q (f 40 + nI its)
def oneS (E : NE) (rd f : Nat → Int32) (p m : Nat) : Int32 := itP E (eW E) rd f m (25 + p) - f (25 + p)
abbrev nN (v : Int32) : Nat := v.toNatClampNeg
theorem nN_nI {n : Nat} (h : n < 2 ^ 31) : nN (nI n) = n := nI_clamp h
def oChanges (a : AS) (v : Int32) : Except Nat Int32 := rqS (eN (aE a)) v (.ok (bI (!decide (asl (minP (aE a) (eW (aE a)) rd0 (nI 0) (aR a)) (nN v) = asl (aR a) (nN v)))))
def oLoudest (a : AS) (v : Int32) : Except Nat Int32 := rqS (eN (aE a)) v (.ok (amx (rchP (aE a) (eW (aE a)) (aR a) (nN v)) (nI 0) (-1) (eN (aE a))).2)
def oSoon (a : AS) (v : Int32) : Except Nat Int32 := rqS (eN (aE a)) v (.ok (soonF (fun i => asl (itP (aE a) (eW (aE a)) rd0 (aR a) i) (nN v)) 121 0))
def mostF (a : AS) (i : Nat) : Nat := cntA (itP (aE a) (eW (aE a)) rd0 (aR a) i) (eN (aE a))
def oMost (a : AS) (v : Int32) : Except Nat Int32 := rq (inB v (nI 0) (nI 1)) (.ok (if v = nI 0 then nI (mxF (mostF a) 120).2 else nI (mxF (mostF a) 120).1))
def oHead (a : AS) (v h n : Int32) : Except Nat Int32 := rqS (eN (aE a)) v (rq (inB h (nI 0) (nI 30)) (rq (inB n (nI 0) (nI 240)) (.ok (hedP (aE a) (aR a) (nN v) (nN h) (nN n)))))
def oBest (a : AS) (v n : Int32) : Except Nat Int32 := rqS (eN (aE a)) v (rq (inB n (nI 0) (nI 240)) (.ok (amx (fun h => hedP (aE a) (aR a) (nN v) h (nN n)) (-1) (nI 0) 31).2))
def oReads (a : AS) (v w own its n : Int32) : Except Nat Int32 := rqS (eN (aE a)) v (rqS (eN (aE a)) w (rq (!decide (v = w)) (rq (inB own (nI 0) (nI 60)) (rq (inB its (nI 0) (nI 60)) (rq (inB n (nI 0) (nI 120)) (.ok (oneS (aE a) (rdPQ (aR a) (nN v) (nN w) (nN own) (nN its)) (aR a) (nN v) (nN n))))))))
theorem rqN_f {p q : Nat} {r : Except Nat Int32} (h : p = q) : rq (!decide (nI p = nI q)) r = .error 1 := rq_f (by rw [h, decide_eq_true rfl]; rfl)
theorem rqN_t {p q : Nat} {r : Except Nat Int32} (hp : p < 5) (hq : q < 5) (h : p ≠ q) : rq (!decide (nI p = nI q)) r = r := rq_t (by rw [decide_eq_false (fun e => h ((nI_eq (by omega) (by omega)).mp e))]; rfl)
set_option maxHeartbeats 8000000 in
set_option maxRecDepth 20000 in
theorem f_changes {a : AS} {x : XS} {v : Int32} (hC : RC x a) (hA : AI a) : ASK mX9_changes [.ref 0, .int v] x a (oChanges a v) := by
  refine MM.of (by decide) (Nat.le_of_ble_eq_true rfl) ?_
  have y0 := lay_0
  have y49 := lay_49
  obtain ⟨t, ht2, ht⟩ := hA.t
  refine r_aload_n dX9_changes_0 rfl (by rfl) ?_
  refine r_iload_n dX9_changes_1 rfl (by rfl) ?_
  by_cases q2 : nobody v (eN (aE a)) = true
  · exact r_callVT (c_rS_f hC.1.1 q2) mv_X9_requireSleeper ml_X9_200 ⟨by decide, by decide⟩ dX9_changes_2 lay_0 rfl rfl rfl (Nat.le_of_ble_eq_true rfl) ⟨by decide, by decide⟩ (fun E y h => by obtain ⟨rfl, e⟩ := h; exact ask_nob hC e (by rw [oChanges, rqS_t q2]))
  · have q2 := Bool.eq_false_iff.mpr q2
    obtain ⟨p, hp, rfl⟩ := nobody_f hC.1.2.1 q2
    have hp5 : p < 5 := Nat.lt_of_lt_of_le hp hC.1.2.1
    refine r_callV (c_rS_t hC.1.1 hC.1.2.1 hp) mv_X9_requireSleeper ml_X9_200 ⟨by decide, by decide⟩ dX9_changes_2 lay_0 rfl rfl rfl (Nat.le_of_ble_eq_true rfl) (fun v9 x9 h9 => ?_)
    obtain ⟨rfl, h9⟩ := h9
    refine PW.xeq h9 ?_
    clear h9 x9
    refine r_aload_n dX9_changes_5 rfl (by rfl) ?_
    refine r_callV (c_asked hC) mv_X9_asked ml_X9_218 ⟨by decide, by decide⟩ dX9_changes_6 (by first | assumption | rfl) rfl rfl rfl (Nat.le_of_ble_eq_true rfl) (fun v9 y h9 => ?_)
    obtain ⟨rfl, T0, F0, c0⟩ := h9
    refine r_astore_n dX9_changes_9 rfl (by decide) ?_
    refine r_aload_n dX9_changes_10 rfl (by rfl) ?_
    refine r_iload_n dX9_changes_11 rfl (by rfl) ?_
    refine r_callV (t_isAsleep T0 hp5) mv_X6_isAsleep ml_X9_239 ⟨by decide, by decide⟩ dX9_changes_12 (by first | assumption | rfl) rfl rfl rfl (Nat.le_of_ble_eq_true rfl) (fun v9 x9 h9 => ?_)
    obtain ⟨rfl, h9⟩ := h9
    refine PW.xeq h9 ?_
    clear h9 x9
    refine r_istore_n dX9_changes_15 rfl (by decide) ?_
    refine r_aload_n dX9_changes_16 rfl (by rfl) ?_
    refine r_iconst (v := nI 0) dX9_changes_17 (by decide) ?_
    refine r_callV (t_minute T0 ht ht2) mv_X6_passMinute ml_X9_243 ⟨by decide, by decide⟩ dX9_changes_18 (by first | assumption | rfl) rfl rfl rfl (Nat.le_of_ble_eq_true rfl) (fun v9 z h9 => ?_)
    obtain ⟨rfl, T1, F1⟩ := h9
    refine r_pop dX9_changes_21 rfl ?_
    refine r_aload_n dX9_changes_22 rfl (by rfl) ?_
    refine r_iload_n dX9_changes_23 rfl (by rfl) ?_
    refine r_callV (t_isAsleep T1 hp5) mv_X6_isAsleep ml_X9_239 ⟨by decide, by decide⟩ dX9_changes_24 (by first | assumption | rfl) rfl rfl rfl (Nat.le_of_ble_eq_true rfl) (fun v9 x9 h9 => ?_)
    obtain ⟨rfl, h9⟩ := h9
    refine PW.xeq h9 ?_
    clear h9 x9
    refine r_iload_n dX9_changes_27 rfl (by rfl) ?_
    refine r_icmp_eq (tgt := 35) dX9_changes_28 (by decide) (fun h28 => ?_) (fun h28 => ?_)
    · refine r_iconst (v := nI 0) dX9_changes_35 (by decide) ?_
      refine r_zretW rfl (by first | exact bI_01 _ | exact Or.inl rfl | exact Or.inr rfl) dX9_changes_36 ?_
      refine ask_ok hC (F0.trans F1) ?_
      rw [oChanges, rqS_f q2, nN_nI (by omega)]
      first
        | (rw [decide_eq_true (bI_inj.mp h28)]; rfl)
        | (rw [decide_eq_false (fun e => h28 (bI_inj.mpr e))]; rfl)
    · refine r_iconst (v := nI 1) dX9_changes_31 (by decide) ?_
      refine r_goto (tgt := 36) dX9_changes_32 (by decide) ?_
      refine r_zretW rfl (by first | exact bI_01 _ | exact Or.inl rfl | exact Or.inr rfl) dX9_changes_36 ?_
      refine ask_ok hC (F0.trans F1) ?_
      rw [oChanges, rqS_f q2, nN_nI (by omega)]
      first
        | (rw [decide_eq_true (bI_inj.mp h28)]; rfl)
        | (rw [decide_eq_false (fun e => h28 (bI_inj.mpr e))]; rfl)
set_option maxHeartbeats 8000000 in
set_option maxRecDepth 20000 in
theorem f_loudest {a : AS} {x : XS} {v : Int32} (hC : RC x a) (hA : AI a) : ASK mX9_loudest [.ref 0, .int v] x a (oLoudest a v) := by
  refine MM.of (by decide) (Nat.le_of_ble_eq_true rfl) ?_
  have y0 := lay_0
  have y3 := lay_3
  have y49 := lay_49
  obtain ⟨t, ht2, ht⟩ := hA.t
  refine r_aload_n dX9_loudest_0 rfl (by rfl) ?_
  refine r_iload_n dX9_loudest_1 rfl (by rfl) ?_
  by_cases q2 : nobody v (eN (aE a)) = true
  · exact r_callVT (c_rS_f hC.1.1 q2) mv_X9_requireSleeper ml_X9_200 ⟨by decide, by decide⟩ dX9_loudest_2 lay_0 rfl rfl rfl (Nat.le_of_ble_eq_true rfl) ⟨by decide, by decide⟩ (fun E y h => by obtain ⟨rfl, e⟩ := h; exact ask_nob hC e (by rw [oLoudest, rqS_t q2]))
  · have q2 := Bool.eq_false_iff.mpr q2
    obtain ⟨p, hp, rfl⟩ := nobody_f hC.1.2.1 q2
    have hp5 : p < 5 := Nat.lt_of_lt_of_le hp hC.1.2.1
    refine r_callV (c_rS_t hC.1.1 hC.1.2.1 hp) mv_X9_requireSleeper ml_X9_200 ⟨by decide, by decide⟩ dX9_loudest_2 lay_0 rfl rfl rfl (Nat.le_of_ble_eq_true rfl) (fun v9 x9 h9 => ?_)
    obtain ⟨rfl, h9⟩ := h9
    refine PW.xeq h9 ?_
    clear h9 x9
    refine r_aload_n dX9_loudest_5 rfl (by rfl) ?_
    refine r_callV (c_asked hC) mv_X9_asked ml_X9_218 ⟨by decide, by decide⟩ dX9_loudest_6 (by first | assumption | rfl) rfl rfl rfl (Nat.le_of_ble_eq_true rfl) (fun v9 y h9 => ?_)
    obtain ⟨rfl, T0, F0, c0⟩ := h9
    refine r_astore_n dX9_loudest_9 rfl (by decide) ?_
    refine r_aload_n dX9_loudest_10 rfl (by rfl) ?_
    refine r_iconst (v := nI 0) dX9_loudest_11 (by decide) ?_
    refine r_callV (t_hearAll T0 ht ht2) mv_X6_hearAll ml_X9_222 ⟨by decide, by decide⟩ dX9_loudest_12 (by first | assumption | rfl) rfl rfl rfl (Nat.le_of_ble_eq_true rfl) (fun v9 z h9 => ?_)
    obtain ⟨rfl, T1, hh, hr, F1⟩ := h9
    refine r_iconst (v := -1) dX9_loudest_15 (by decide) ?_
    refine r_istore_n dX9_loudest_16 rfl (by decide) ?_
    refine r_iconst (v := nI 0) dX9_loudest_17 (by decide) ?_
    refine r_istore dX9_loudest_18 (by decide) ?_
    refine r_iconst (v := nI 0) dX9_loudest_20 (by decide) ?_
    refine r_istore dX9_loudest_21 (by decide) ?_
    refine PW.loop (σ := Nat) (fun s => eN (aE a) - s) (fun s => s ≤ eN (aE a)) (fun s => [(0, .ref 0), (1, .int (nI p)), (2, .ref 49), (3, .int (amx (rchP (aE a) (eW (aE a)) (aR a) p) (nI 0) (-1) s).2), (4, .int (amx (rchP (aE a) (eW (aE a)) (aR a) p) (nI 0) (-1) s).1), (5, .int (nI s))]) (fun _ => z) (0) (Nat.zero_le _) rfl rfl (fun s hs ih => ?_)
    have n5 := hC.1.2.1
    refine r_iload dX9_loudest_23 (by rfl) ?_
    refine r_aload_n dX9_loudest_25 rfl (by rfl) ?_
    refine gf_X9_19 rfl dX9_loudest_26 (by first | assumption | rfl) (by rfl) ?_
    refine gf_X9_141 rfl dX9_loudest_29 (by first | assumption | rfl) (by rfl) ?_
    refine PW.topi T1.1.1 ?_
    refine r_icmp_geN (tgt := 64) dX9_loudest_32 (by decide) (by omega) (by omega) (fun h32 => ?_) (fun h32 => ?_)
    · refine r_iload_n dX9_loudest_64 rfl (by rfl) ?_
      refine r_iretW rfl dX9_loudest_65 ?_
      refine ask_ok hC (F0.trans F1) ?_
      rw [oLoudest, rqS_f q2, nN_nI (by omega), show eN (aE a) = s by omega]
    · refine r_aload_n dX9_loudest_35 rfl (by rfl) ?_
      refine r_iload_n dX9_loudest_36 rfl (by rfl) ?_
      refine r_iload dX9_loudest_37 (by rfl) ?_
      refine r_callV (t_reaching hp5 (show s < eN (aE a) by omega) hC.1.2.1 hr) mv_X6_reaching ml_X9_246 ⟨by decide, by decide⟩ dX9_loudest_39 (by first | assumption | rfl) rfl rfl rfl (Nat.le_of_ble_eq_true rfl) (fun v9 x9 h9 => ?_)
      obtain ⟨rfl, h9⟩ := h9
      refine PW.xeq h9 ?_
      clear h9 x9
      refine r_istore dX9_loudest_42 (by decide) ?_
      refine r_iload dX9_loudest_44 (by rfl) ?_
      refine r_iload dX9_loudest_46 (by rfl) ?_
      refine r_icmp_le (tgt := 58) dX9_loudest_48 (by decide) (fun h48 => ?_) (fun h48 => ?_)
      · refine r_iincN dX9_loudest_58 (by rfl) (by decide) ?_
        refine r_goto (tgt := 23) dX9_loudest_61 (by decide) ?_
        first
          | (have e := amx_le (F := (rchP (aE a) (eW (aE a)) (aR a) p)) h48
             exact PW.lc (by (try dsimp only); rw [e]; rfl) rfl (ih (s + 1) (by omega) (by omega)))
          | (have e := amx_gt (F := (rchP (aE a) (eW (aE a)) (aR a) p)) h48
             exact PW.lc (by (try dsimp only); rw [e]; rfl) rfl (ih (s + 1) (by omega) (by omega)))
      · refine r_iload dX9_loudest_51 (by rfl) ?_
        refine r_istore dX9_loudest_53 (by decide) ?_
        refine r_iload dX9_loudest_55 (by rfl) ?_
        refine r_istore_n dX9_loudest_57 rfl (by decide) ?_
        refine r_iincN dX9_loudest_58 (by rfl) (by decide) ?_
        refine r_goto (tgt := 23) dX9_loudest_61 (by decide) ?_
        first
          | (have e := amx_le (F := (rchP (aE a) (eW (aE a)) (aR a) p)) h48
             exact PW.lc (by (try dsimp only); rw [e]; rfl) rfl (ih (s + 1) (by omega) (by omega)))
          | (have e := amx_gt (F := (rchP (aE a) (eW (aE a)) (aR a) p)) h48
             exact PW.lc (by (try dsimp only); rw [e]; rfl) rfl (ih (s + 1) (by omega) (by omega)))
set_option maxHeartbeats 8000000 in
set_option maxRecDepth 20000 in
theorem f_soon {a : AS} {x : XS} {v : Int32} (hC : RC x a) (hA : AI a) : ASK mX9_soon [.ref 0, .int v] x a (oSoon a v) := by
  refine MM.of (by decide) (Nat.le_of_ble_eq_true rfl) ?_
  have y0 := lay_0
  have y49 := lay_49
  obtain ⟨t, ht2, ht⟩ := hA.t
  refine r_aload_n dX9_soon_0 rfl (by rfl) ?_
  refine r_iload_n dX9_soon_1 rfl (by rfl) ?_
  by_cases q2 : nobody v (eN (aE a)) = true
  · exact r_callVT (c_rS_f hC.1.1 q2) mv_X9_requireSleeper ml_X9_200 ⟨by decide, by decide⟩ dX9_soon_2 lay_0 rfl rfl rfl (Nat.le_of_ble_eq_true rfl) ⟨by decide, by decide⟩ (fun E y h => by obtain ⟨rfl, e⟩ := h; exact ask_nob hC e (by rw [oSoon, rqS_t q2]))
  · have q2 := Bool.eq_false_iff.mpr q2
    obtain ⟨p, hp, rfl⟩ := nobody_f hC.1.2.1 q2
    have hp5 : p < 5 := Nat.lt_of_lt_of_le hp hC.1.2.1
    refine r_callV (c_rS_t hC.1.1 hC.1.2.1 hp) mv_X9_requireSleeper ml_X9_200 ⟨by decide, by decide⟩ dX9_soon_2 lay_0 rfl rfl rfl (Nat.le_of_ble_eq_true rfl) (fun v9 x9 h9 => ?_)
    obtain ⟨rfl, h9⟩ := h9
    refine PW.xeq h9 ?_
    clear h9 x9
    refine r_aload_n dX9_soon_5 rfl (by rfl) ?_
    refine r_callV (c_asked hC) mv_X9_asked ml_X9_218 ⟨by decide, by decide⟩ dX9_soon_6 (by first | assumption | rfl) rfl rfl rfl (Nat.le_of_ble_eq_true rfl) (fun v9 y h9 => ?_)
    obtain ⟨rfl, T0, F0, c0⟩ := h9
    refine r_astore_n dX9_soon_9 rfl (by decide) ?_
    refine r_iconst (v := nI 0) dX9_soon_10 (by decide) ?_
    refine r_istore_n dX9_soon_11 rfl (by decide) ?_
    refine PW.loop (σ := Nat × XS) (fun s => 121 - s.1) (fun s => s.1 ≤ 121 ∧ TN s.2 (aE a) (eW (aE a)) rd0 (itP (aE a) (eW (aE a)) rd0 (aR a) s.1) ∧ TF x s.2 ∧ soonF (fun i => asl (itP (aE a) (eW (aE a)) rd0 (aR a) i) p) (121 - s.1) s.1 = soonF (fun i => asl (itP (aE a) (eW (aE a)) rd0 (aR a) i) p) 121 0) (fun s => [(0, .ref 0), (1, .int (nI p)), (2, .ref 49), (3, .int (nI s.1))]) (fun s => s.2) ((0, y)) (⟨Nat.zero_le _, T0, F0, rfl⟩) rfl rfl (fun s hs ih => ?_)
    obtain ⟨hs1, hT, hF, hR⟩ := hs
    refine r_iload_n dX9_soon_12 rfl (by rfl) ?_
    refine r_bipush (v := nI 120) dX9_soon_13 (by decide) ?_
    refine r_icmp_gtN (tgt := 40) dX9_soon_15 (by decide) (by omega) (by omega) (fun h15 => ?_) (fun h15 => ?_)
    · refine r_iconst (v := -1) dX9_soon_40 (by decide) ?_
      refine r_iretW rfl dX9_soon_41 ?_
      refine ask_ok hC hF ?_
      rw [oSoon, rqS_f q2, nN_nI (by omega), ← hR, show 121 - s.1 = 0 by omega, soonF]
    · refine r_aload_n dX9_soon_18 rfl (by rfl) ?_
      refine r_iload_n dX9_soon_19 rfl (by rfl) ?_
      refine r_callV (t_isAsleep hT hp5) mv_X6_isAsleep ml_X9_239 ⟨by decide, by decide⟩ dX9_soon_20 (by first | assumption | rfl) rfl rfl rfl (Nat.le_of_ble_eq_true rfl) (fun v9 x9 h9 => ?_)
      obtain ⟨rfl, h9⟩ := h9
      refine PW.xeq h9 ?_
      clear h9 x9
      refine r_if_eqB (tgt := 28) dX9_soon_23 (by decide) (fun h23 => ?_) (fun h23 => ?_)
      · refine r_aload_n dX9_soon_28 rfl (by rfl) ?_
        refine r_iconst (v := nI 0) dX9_soon_29 (by decide) ?_
        refine r_callV (t_minute (t := min (t + s.1) 240) hT (itP_40 hC.1.2.1 ht ht2 s.1) (by omega)) mv_X6_passMinute ml_X9_243 ⟨by decide, by decide⟩ dX9_soon_30 (by first | assumption | rfl) rfl rfl rfl (Nat.le_of_ble_eq_true rfl) (fun v9 z h9 => ?_)
        obtain ⟨rfl, T1, F1⟩ := h9
        refine r_pop dX9_soon_33 rfl ?_
        refine r_iincN dX9_soon_34 (by rfl) (by decide) ?_
        refine r_goto (tgt := 12) dX9_soon_37 (by decide) ?_
        exact PW.lc (by rfl) rfl (ih (s.1 + 1, z) ⟨(show s.1 + 1 ≤ 121 by omega), T1, hF.trans F1, (by
          rw [← hR, show 121 - s.1 = (121 - (s.1 + 1)) + 1 by omega, soonF, if_neg (by rw [h23]; decide)])⟩ (show 121 - (s.1 + 1) < 121 - s.1 by omega))
      · refine r_iload_n dX9_soon_26 rfl (by rfl) ?_
        refine r_iretW rfl dX9_soon_27 ?_
        refine ask_ok hC hF ?_
        rw [oSoon, rqS_f q2, nN_nI (by omega), ← hR, show 121 - s.1 = (120 - s.1) + 1 by omega, soonF, if_pos h23]
set_option maxHeartbeats 8000000 in
set_option maxRecDepth 20000 in
theorem f_most {a : AS} {x : XS} {v : Int32} (hC : RC x a) (hA : AI a) : ASK mX9_most [.ref 0, .int v] x a (oMost a v) := by
  refine MM.of (by decide) (Nat.le_of_ble_eq_true rfl) ?_
  have y0 := lay_0
  have y49 := lay_49
  obtain ⟨t, ht2, ht⟩ := hA.t
  refine r_aload_n dX9_most_0 rfl (by rfl) ?_
  refine r_iload_n dX9_most_1 rfl (by rfl) ?_
  refine r_iconst (v := nI 0) dX9_most_2 (by decide) ?_
  refine r_iconst (v := nI 1) dX9_most_3 (by decide) ?_
  refine r_callS c_X9_within ms_X9_within ml_X9_144 ⟨by decide, by decide⟩ dX9_most_4 rfl (Nat.le_of_ble_eq_true rfl) (fun v9 x9 h9 => ?_)
  obtain ⟨rfl, h9⟩ := h9
  refine PW.xeq h9 ?_
  clear h9 x9
  refine PW.caseB (fun q7 => ?_) (fun q7 => ?_)
  · refine r_callV c_require_t mv_X9_require ml_X9_148 ⟨by decide, by decide⟩ dX9_most_7 lay_0 rfl rfl rfl (Nat.le_of_ble_eq_true rfl) (fun v9 x9 h9 => ?_)
    obtain ⟨rfl, h9⟩ := h9
    refine PW.xeq h9 ?_
    clear h9 x9
    obtain ⟨k, _, hk, rfl⟩ := inB_is (lo := 0) (hi := 1) q7 (by decide) (by decide)
    refine r_aload_n dX9_most_10 rfl (by rfl) ?_
    refine r_callV (c_asked hC) mv_X9_asked ml_X9_218 ⟨by decide, by decide⟩ dX9_most_11 (by first | assumption | rfl) rfl rfl rfl (Nat.le_of_ble_eq_true rfl) (fun v9 y h9 => ?_)
    obtain ⟨rfl, T0, F0, c0⟩ := h9
    refine r_astore_n dX9_most_14 rfl (by decide) ?_
    refine r_iconst (v := nI 0) dX9_most_15 (by decide) ?_
    refine r_istore_n dX9_most_16 rfl (by decide) ?_
    refine r_aload_n dX9_most_17 rfl (by rfl) ?_
    refine r_callV (t_asleepCount T0) mv_X6_asleepCount ml_X9_190 ⟨by decide, by decide⟩ dX9_most_18 (by first | assumption | rfl) rfl rfl rfl (Nat.le_of_ble_eq_true rfl) (fun v9 x9 h9 => ?_)
    obtain ⟨rfl, h9⟩ := h9
    refine PW.xeq h9 ?_
    clear h9 x9
    refine r_istore dX9_most_21 (by decide) ?_
    refine r_iconst (v := nI 1) dX9_most_23 (by decide) ?_
    refine r_istore dX9_most_24 (by decide) ?_
    refine PW.loop (σ := Nat × XS) (fun s => 121 - s.1) (fun s => s.1 ≤ 120 ∧ TN s.2 (aE a) (eW (aE a)) rd0 (itP (aE a) (eW (aE a)) rd0 (aR a) s.1) ∧ TF x s.2) (fun s => [(0, .ref 0), (1, .int (nI k)), (2, .ref 49), (3, .int (nI (mxF (mostF a) s.1).2)), (4, .int (nI (mxF (mostF a) s.1).1)), (5, .int (nI (s.1 + 1)))]) (fun s => s.2) ((0, y)) (⟨Nat.zero_le _, T0, F0⟩) rfl rfl (fun s hs ih => ?_)
    obtain ⟨hs1, hT, hF⟩ := hs
    have m5 := mxF_le (F := mostF a) (fun i => Nat.le_trans (cntA_le _ _) hC.1.2.1) s.1
    have m6 : mostF a (s.1 + 1) ≤ 5 := Nat.le_trans (cntA_le _ _) hC.1.2.1
    refine r_iload dX9_most_26 (by rfl) ?_
    refine r_bipush (v := nI 120) dX9_most_28 (by decide) ?_
    refine r_icmp_gtN (tgt := 65) dX9_most_30 (by decide) (by omega) (by omega) (fun h30 => ?_) (fun h30 => ?_)
    · refine r_iload_n dX9_most_65 rfl (by rfl) ?_
      refine r_if_ne (tgt := 73) dX9_most_66 (by decide) (fun h66 => ?_) (fun h66 => ?_)
      · refine r_iload dX9_most_73 (by rfl) ?_
        refine r_iretW rfl dX9_most_75 ?_
        refine ask_ok hC hF ?_
        rw [oMost, rq_t q7]
        have e9 : s.1 = 120 := by omega
        rw [e9]
        first
          | (have hk0 : k = 0 := by
               by_cases e : k = 0
               · exact e
               · exact absurd h66 (nI_ne0 (by omega) (by omega))
             subst hk0
             rfl)
          | (rw [if_neg (show ¬ nI k = nI 0 from h66)])
      · refine r_iload_n dX9_most_69 rfl (by rfl) ?_
        refine r_goto (tgt := 75) dX9_most_70 (by decide) ?_
        refine r_iretW rfl dX9_most_75 ?_
        refine ask_ok hC hF ?_
        rw [oMost, rq_t q7]
        have e9 : s.1 = 120 := by omega
        rw [e9]
        first
          | (have hk0 : k = 0 := by
               by_cases e : k = 0
               · exact e
               · exact absurd h66 (nI_ne0 (by omega) (by omega))
             subst hk0
             rfl)
          | (rw [if_neg (show ¬ nI k = nI 0 from h66)])
    · refine r_aload_n dX9_most_33 rfl (by rfl) ?_
      refine r_iconst (v := nI 0) dX9_most_34 (by decide) ?_
      refine r_callV (t_minute (t := min (t + s.1) 240) hT (itP_40 hC.1.2.1 ht ht2 s.1) (by omega)) mv_X6_passMinute ml_X9_243 ⟨by decide, by decide⟩ dX9_most_35 (by first | assumption | rfl) rfl rfl rfl (Nat.le_of_ble_eq_true rfl) (fun v9 z h9 => ?_)
      obtain ⟨rfl, T1, F1⟩ := h9
      refine r_pop dX9_most_38 rfl ?_
      refine r_aload_n dX9_most_39 rfl (by rfl) ?_
      refine r_callV (t_asleepCount T1) mv_X6_asleepCount ml_X9_190 ⟨by decide, by decide⟩ dX9_most_40 (by first | assumption | rfl) rfl rfl rfl (Nat.le_of_ble_eq_true rfl) (fun v9 x9 h9 => ?_)
      obtain ⟨rfl, h9⟩ := h9
      refine PW.xeq h9 ?_
      clear h9 x9
      refine r_istore dX9_most_43 (by decide) ?_
      refine PW.lc (L' := [(0, .ref 0), (1, .int (nI k)), (2, .ref 49), (3, .int (nI (mxF (mostF a) s.1).2)), (4, .int (nI (mxF (mostF a) s.1).1)), (5, .int (nI (s.1 + 1))), (6, .int (nI (mostF a (s.1 + 1))))]) (by rfl) rfl ?_
      refine r_iload dX9_most_45 (by rfl) ?_
      refine r_iload dX9_most_47 (by rfl) ?_
      refine r_icmp_leN (tgt := 59) dX9_most_49 (by decide) (by omega) (by omega) (fun h49 => ?_) (fun h49 => ?_)
      · refine r_iincN dX9_most_59 (by rfl) (by decide) ?_
        refine r_goto (tgt := 26) dX9_most_62 (by decide) ?_
        have c5 : ∀ i, mostF a i ≤ 5 := fun i => Nat.le_trans (cntA_le _ _) hC.1.2.1
        first
          | (have e : mxF (mostF a) (s.1 + 1) = mxF (mostF a) s.1 := if_neg (show ¬ _ < _ by omega)
             exact PW.lc (by (try dsimp only); rw [e]; rfl) rfl (ih (s.1 + 1, z) ⟨(show s.1 + 1 ≤ 120 by omega), T1, hF.trans F1⟩ (show 121 - (s.1 + 1) < 121 - s.1 by omega)))
          | (have e : mxF (mostF a) (s.1 + 1) = (mostF a (s.1 + 1), s.1 + 1) := if_pos (show _ < _ by omega)
             exact PW.lc (by (try dsimp only); rw [e]; rfl) rfl (ih (s.1 + 1, z) ⟨(show s.1 + 1 ≤ 120 by omega), T1, hF.trans F1⟩ (show 121 - (s.1 + 1) < 121 - s.1 by omega)))
      · refine r_iload dX9_most_52 (by rfl) ?_
        refine r_istore dX9_most_54 (by decide) ?_
        refine r_iload dX9_most_56 (by rfl) ?_
        refine r_istore_n dX9_most_58 rfl (by decide) ?_
        refine r_iincN dX9_most_59 (by rfl) (by decide) ?_
        refine r_goto (tgt := 26) dX9_most_62 (by decide) ?_
        have c5 : ∀ i, mostF a i ≤ 5 := fun i => Nat.le_trans (cntA_le _ _) hC.1.2.1
        first
          | (have e : mxF (mostF a) (s.1 + 1) = mxF (mostF a) s.1 := if_neg (show ¬ _ < _ by omega)
             exact PW.lc (by (try dsimp only); rw [e]; rfl) rfl (ih (s.1 + 1, z) ⟨(show s.1 + 1 ≤ 120 by omega), T1, hF.trans F1⟩ (show 121 - (s.1 + 1) < 121 - s.1 by omega)))
          | (have e : mxF (mostF a) (s.1 + 1) = (mostF a (s.1 + 1), s.1 + 1) := if_pos (show _ < _ by omega)
             exact PW.lc (by (try dsimp only); rw [e]; rfl) rfl (ih (s.1 + 1, z) ⟨(show s.1 + 1 ≤ 120 by omega), T1, hF.trans F1⟩ (show 121 - (s.1 + 1) < 121 - s.1 by omega)))
  · exact r_callVT c_require_f mv_X9_require ml_X9_148 ⟨by decide, by decide⟩ dX9_most_7 lay_0 rfl rfl rfl (Nat.le_of_ble_eq_true rfl) ⟨by decide, by decide⟩ (fun E y h => by obtain ⟨rfl, e⟩ := h; exact ask_bad hC e (by rw [oMost, rq_f q7]))
set_option maxHeartbeats 8000000 in
set_option maxRecDepth 20000 in
theorem c_sleptByHead {a : AS} {x : XS} {p h m : Nat} (hC : RC x a) (hA : AI a) (hp : p < 5) (hm : m < 2 ^ 30) : MM mX9_sleptByHead 6 0 0 [.ref 0, .int (nI p), .int (nI h), .int (nI m)] x (fun v y => v = some (.int (hedP (aE a) (aR a) p h m)) ∧ TF x y) NoT := by
  refine MM.of (by decide) (Nat.le_of_ble_eq_true rfl) ?_
  have y0 := lay_0
  have y3 := lay_3
  have y49 := lay_49
  obtain ⟨t, ht2, ht⟩ := hA.t
  refine r_aload_n dX9_sleptByHead_0 rfl (by rfl) ?_
  refine r_callV (c_asked hC) mv_X9_asked ml_X9_218 ⟨by decide, by decide⟩ dX9_sleptByHead_1 (by first | assumption | rfl) rfl rfl rfl (Nat.le_of_ble_eq_true rfl) (fun v9 y h9 => ?_)
  obtain ⟨rfl, T0, F0, c0⟩ := h9
  refine r_astore dX9_sleptByHead_4 (by decide) ?_
  refine r_iconst (v := nI 0) dX9_sleptByHead_6 (by decide) ?_
  refine r_istore dX9_sleptByHead_7 (by decide) ?_
  refine PW.loop (σ := Nat × XS) (fun s => eN (aE a) - s.1) (fun s => s.1 ≤ eN (aE a) ∧ TN s.2 (aE a) (eW (aE a)) (hedR (aR a) p (nI h) s.1) (aR a) ∧ TF x s.2) (fun s => [(0, .ref 0), (1, .int (nI p)), (2, .int (nI h)), (3, .int (nI m)), (4, .ref 49), (5, .int (nI s.1))]) (fun s => s.2) ((0, y)) (⟨Nat.zero_le _, T0, F0⟩) rfl rfl (fun s hs ih => ?_)
  obtain ⟨hs1, hT, hF⟩ := hs
  have n5 := hC.1.2.1
  refine r_iload dX9_sleptByHead_9 (by rfl) ?_
  refine r_aload_n dX9_sleptByHead_11 rfl (by rfl) ?_
  refine gf_X9_19 rfl dX9_sleptByHead_12 (by first | assumption | rfl) (by rfl) ?_
  refine gf_X9_141 rfl dX9_sleptByHead_15 (by first | assumption | rfl) (by rfl) ?_
  refine PW.topi hT.1.1 ?_
  refine r_icmp_geN (tgt := 51) dX9_sleptByHead_18 (by decide) (by omega) (by omega) (fun h18 => ?_) (fun h18 => ?_)
  · refine r_aload dX9_sleptByHead_51 (by rfl) ?_
    refine r_iload_n dX9_sleptByHead_53 rfl (by rfl) ?_
    refine r_callV (t_sleptInNext hT ht ht2 (by omega)) mv_X6_sleptInNext ml_X9_249 ⟨by decide, by decide⟩ dX9_sleptByHead_54 (by first | assumption | rfl) rfl rfl rfl (Nat.le_of_ble_eq_true rfl) (fun v9 z h9 => ?_)
    obtain ⟨rfl, T1, F1⟩ := h9
    refine r_iret rfl dX9_sleptByHead_57 ?_
    exact ⟨by rw [show hedP (aE a) (aR a) p h m = sltP (aE a) (hedR (aR a) p (nI h) s.1) (aR a) m by unfold hedP; rw [show eN (aE a) = s.1 by omega]]; rfl, hF.trans F1⟩
  · refine r_iload dX9_sleptByHead_21 (by rfl) ?_
    refine r_iload_n dX9_sleptByHead_23 rfl (by rfl) ?_
    refine r_icmp_eqN (tgt := 45) dX9_sleptByHead_24 (by decide) (by omega) (by omega) (fun h24 => ?_) (fun h24 => ?_)
    · refine r_iincN dX9_sleptByHead_45 (by rfl) (by decide) ?_
      refine r_goto (tgt := 9) dX9_sleptByHead_48 (by decide) ?_
      first
        | (have e : hedR (aR a) p (nI h) (s.1 + 1) = upd (hedR (aR a) p (nI h) s.1) s.1 (aR a 40 + nI h) := by
             show (if s.1 = p then _ else _) = _
             rw [if_neg h24, if_neg (by rw [h34]; decide)]
           exact PW.lc (by rfl) rfl (ih (s.1 + 1, z) ⟨(show s.1 + 1 ≤ eN (aE a) by omega), (by rw [e]; exact T1), hF.trans F1⟩ (show eN (aE a) - (s.1 + 1) < eN (aE a) - s.1 by omega)))
        | (have e : hedR (aR a) p (nI h) (s.1 + 1) = hedR (aR a) p (nI h) s.1 := by
             show (if s.1 = p then _ else _) = _
             first
               | (rw [if_pos h24]; done)
               | (rw [if_neg h24, if_pos h34]; done)
           exact PW.lc (by rfl) rfl (ih (s.1 + 1, s.2) ⟨(show s.1 + 1 ≤ eN (aE a) by omega), (by rw [e]; exact hT), hF⟩ (show eN (aE a) - (s.1 + 1) < eN (aE a) - s.1 by omega)))
    · refine r_aload dX9_sleptByHead_27 (by rfl) ?_
      refine r_iload dX9_sleptByHead_29 (by rfl) ?_
      refine r_callV (t_isAsleep hT (by omega)) mv_X6_isAsleep ml_X9_239 ⟨by decide, by decide⟩ dX9_sleptByHead_31 (by first | assumption | rfl) rfl rfl rfl (Nat.le_of_ble_eq_true rfl) (fun v9 x9 h9 => ?_)
      obtain ⟨rfl, h9⟩ := h9
      refine PW.xeq h9 ?_
      clear h9 x9
      refine r_if_neB (tgt := 45) dX9_sleptByHead_34 (by decide) (fun h34 => ?_) (fun h34 => ?_)
      · refine r_iincN dX9_sleptByHead_45 (by rfl) (by decide) ?_
        refine r_goto (tgt := 9) dX9_sleptByHead_48 (by decide) ?_
        first
          | (have e : hedR (aR a) p (nI h) (s.1 + 1) = upd (hedR (aR a) p (nI h) s.1) s.1 (aR a 40 + nI h) := by
               show (if s.1 = p then _ else _) = _
               rw [if_neg h24, if_neg (by rw [h34]; decide)]
             exact PW.lc (by rfl) rfl (ih (s.1 + 1, z) ⟨(show s.1 + 1 ≤ eN (aE a) by omega), (by rw [e]; exact T1), hF.trans F1⟩ (show eN (aE a) - (s.1 + 1) < eN (aE a) - s.1 by omega)))
          | (have e : hedR (aR a) p (nI h) (s.1 + 1) = hedR (aR a) p (nI h) s.1 := by
               show (if s.1 = p then _ else _) = _
               first
                 | (rw [if_pos h24]; done)
                 | (rw [if_neg h24, if_pos h34]; done)
             exact PW.lc (by rfl) rfl (ih (s.1 + 1, s.2) ⟨(show s.1 + 1 ≤ eN (aE a) by omega), (by rw [e]; exact hT), hF⟩ (show eN (aE a) - (s.1 + 1) < eN (aE a) - s.1 by omega)))
      · refine r_aload dX9_sleptByHead_37 (by rfl) ?_
        refine r_iload dX9_sleptByHead_39 (by rfl) ?_
        refine r_iload_n dX9_sleptByHead_41 rfl (by rfl) ?_
        refine r_callV (t_keepAwake hT (by omega)) mv_X6_keepAwake ml_X9_353 ⟨by decide, by decide⟩ dX9_sleptByHead_42 (by first | assumption | rfl) rfl rfl rfl (Nat.le_of_ble_eq_true rfl) (fun v9 z h9 => ?_)
        obtain ⟨rfl, T1, F1⟩ := h9
        refine r_iincN dX9_sleptByHead_45 (by rfl) (by decide) ?_
        refine r_goto (tgt := 9) dX9_sleptByHead_48 (by decide) ?_
        first
          | (have e : hedR (aR a) p (nI h) (s.1 + 1) = upd (hedR (aR a) p (nI h) s.1) s.1 (aR a 40 + nI h) := by
               show (if s.1 = p then _ else _) = _
               rw [if_neg h24, if_neg (by rw [h34]; decide)]
             exact PW.lc (by rfl) rfl (ih (s.1 + 1, z) ⟨(show s.1 + 1 ≤ eN (aE a) by omega), (by rw [e]; exact T1), hF.trans F1⟩ (show eN (aE a) - (s.1 + 1) < eN (aE a) - s.1 by omega)))
          | (have e : hedR (aR a) p (nI h) (s.1 + 1) = hedR (aR a) p (nI h) s.1 := by
               show (if s.1 = p then _ else _) = _
               first
                 | (rw [if_pos h24]; done)
                 | (rw [if_neg h24, if_pos h34]; done)
             exact PW.lc (by rfl) rfl (ih (s.1 + 1, s.2) ⟨(show s.1 + 1 ≤ eN (aE a) by omega), (by rw [e]; exact hT), hF⟩ (show eN (aE a) - (s.1 + 1) < eN (aE a) - s.1 by omega)))
set_option maxHeartbeats 8000000 in
set_option maxRecDepth 20000 in
theorem f_head {a : AS} {x : XS} {v h n : Int32} (hC : RC x a) (hA : AI a) : ASK mX9_head [.ref 0, .int v, .int h, .int n] x a (oHead a v h n) := by
  refine MM.of (by decide) (Nat.le_of_ble_eq_true rfl) ?_
  have y0 := lay_0
  refine r_aload_n dX9_head_0 rfl (by rfl) ?_
  refine r_iload_n dX9_head_1 rfl (by rfl) ?_
  by_cases q2 : nobody v (eN (aE a)) = true
  · exact r_callVT (c_rS_f hC.1.1 q2) mv_X9_requireSleeper ml_X9_200 ⟨by decide, by decide⟩ dX9_head_2 lay_0 rfl rfl rfl (Nat.le_of_ble_eq_true rfl) ⟨by decide, by decide⟩ (fun E y h => by obtain ⟨rfl, e⟩ := h; exact ask_nob hC e (by rw [oHead, rqS_t q2]))
  · have q2 := Bool.eq_false_iff.mpr q2
    obtain ⟨p, hp, rfl⟩ := nobody_f hC.1.2.1 q2
    have hp5 : p < 5 := Nat.lt_of_lt_of_le hp hC.1.2.1
    refine r_callV (c_rS_t hC.1.1 hC.1.2.1 hp) mv_X9_requireSleeper ml_X9_200 ⟨by decide, by decide⟩ dX9_head_2 lay_0 rfl rfl rfl (Nat.le_of_ble_eq_true rfl) (fun v9 x9 h9 => ?_)
    obtain ⟨rfl, h9⟩ := h9
    refine PW.xeq h9 ?_
    clear h9 x9
    refine r_aload_n dX9_head_5 rfl (by rfl) ?_
    refine r_iload_n dX9_head_6 rfl (by rfl) ?_
    refine r_iconst (v := nI 0) dX9_head_7 (by decide) ?_
    refine r_bipush (v := nI 30) dX9_head_8 (by decide) ?_
    refine r_callS c_X9_within ms_X9_within ml_X9_144 ⟨by decide, by decide⟩ dX9_head_10 rfl (Nat.le_of_ble_eq_true rfl) (fun v9 x9 h9 => ?_)
    obtain ⟨rfl, h9⟩ := h9
    refine PW.xeq h9 ?_
    clear h9 x9
    refine r_if_eqB (tgt := 31) dX9_head_13 (by decide) (fun h13 => ?_) (fun h13 => ?_)
    · refine r_iconst (v := nI 0) dX9_head_31 (by decide) ?_
      refine PW.topi bI_f.symm ?_
      exact r_callVT c_require_f mv_X9_require ml_X9_148 ⟨by decide, by decide⟩ dX9_head_32 lay_0 rfl rfl rfl (Nat.le_of_ble_eq_true rfl) ⟨by decide, by decide⟩ (fun E y h => by obtain ⟨rfl, e⟩ := h; exact ask_bad hC e (by rw [oHead, rqS_f q2, rq_f h13]))
    · refine r_iload_n dX9_head_16 rfl (by rfl) ?_
      refine r_iconst (v := nI 0) dX9_head_17 (by decide) ?_
      refine r_sipush (v := nI 240) dX9_head_18 (by decide) ?_
      refine r_callS c_X9_within ms_X9_within ml_X9_144 ⟨by decide, by decide⟩ dX9_head_21 rfl (Nat.le_of_ble_eq_true rfl) (fun v9 x9 h9 => ?_)
      obtain ⟨rfl, h9⟩ := h9
      refine PW.xeq h9 ?_
      clear h9 x9
      refine r_if_eqB (tgt := 31) dX9_head_24 (by decide) (fun h24 => ?_) (fun h24 => ?_)
      · refine r_iconst (v := nI 0) dX9_head_31 (by decide) ?_
        refine PW.topi bI_f.symm ?_
        exact r_callVT c_require_f mv_X9_require ml_X9_148 ⟨by decide, by decide⟩ dX9_head_32 lay_0 rfl rfl rfl (Nat.le_of_ble_eq_true rfl) ⟨by decide, by decide⟩ (fun E y h => by obtain ⟨rfl, e⟩ := h; exact ask_bad hC e (by rw [oHead, rqS_f q2, rq_t h13, rq_f h24]))
      · refine r_iconst (v := nI 1) dX9_head_27 (by decide) ?_
        refine r_goto (tgt := 32) dX9_head_28 (by decide) ?_
        refine PW.topi bI_t.symm ?_
        refine r_callV c_require_t mv_X9_require ml_X9_148 ⟨by decide, by decide⟩ dX9_head_32 lay_0 rfl rfl rfl (Nat.le_of_ble_eq_true rfl) (fun v9 x9 h9 => ?_)
        obtain ⟨rfl, h9⟩ := h9
        refine PW.xeq h9 ?_
        clear h9 x9
        obtain ⟨k, _, hk, rfl⟩ := inB_is (lo := 0) (hi := 30) h13 (by decide) (by decide)
        obtain ⟨m, _, hm, rfl⟩ := inB_is (lo := 0) (hi := 240) h24 (by decide) (by decide)
        refine r_aload_n dX9_head_35 rfl (by rfl) ?_
        refine r_iload_n dX9_head_36 rfl (by rfl) ?_
        refine r_iload_n dX9_head_37 rfl (by rfl) ?_
        refine r_iload_n dX9_head_38 rfl (by rfl) ?_
        refine r_callV (c_sleptByHead hC hA hp5 (by omega)) mv_X9_sleptByHead ml_X9_255 ⟨by decide, by decide⟩ dX9_head_39 (by first | assumption | rfl) rfl rfl rfl (Nat.le_of_ble_eq_true rfl) (fun v9 y h9 => ?_)
        obtain ⟨rfl, F1⟩ := h9
        refine r_iretW rfl dX9_head_42 ?_
        refine ask_ok hC F1 ?_
        rw [oHead, rqS_f q2, rq_t h13, rq_t h24, nN_nI (by omega), nN_nI (by omega), nN_nI (by omega)]
set_option maxHeartbeats 8000000 in
set_option maxRecDepth 20000 in
theorem f_best {a : AS} {x : XS} {v n : Int32} (hC : RC x a) (hA : AI a) : ASK mX9_best [.ref 0, .int v, .int n] x a (oBest a v n) := by
  refine MM.of (by decide) (Nat.le_of_ble_eq_true rfl) ?_
  have y0 := lay_0
  refine r_aload_n dX9_best_0 rfl (by rfl) ?_
  refine r_iload_n dX9_best_1 rfl (by rfl) ?_
  by_cases q2 : nobody v (eN (aE a)) = true
  · exact r_callVT (c_rS_f hC.1.1 q2) mv_X9_requireSleeper ml_X9_200 ⟨by decide, by decide⟩ dX9_best_2 lay_0 rfl rfl rfl (Nat.le_of_ble_eq_true rfl) ⟨by decide, by decide⟩ (fun E y h => by obtain ⟨rfl, e⟩ := h; exact ask_nob hC e (by rw [oBest, rqS_t q2]))
  · have q2 := Bool.eq_false_iff.mpr q2
    obtain ⟨p, hp, rfl⟩ := nobody_f hC.1.2.1 q2
    have hp5 : p < 5 := Nat.lt_of_lt_of_le hp hC.1.2.1
    refine r_callV (c_rS_t hC.1.1 hC.1.2.1 hp) mv_X9_requireSleeper ml_X9_200 ⟨by decide, by decide⟩ dX9_best_2 lay_0 rfl rfl rfl (Nat.le_of_ble_eq_true rfl) (fun v9 x9 h9 => ?_)
    obtain ⟨rfl, h9⟩ := h9
    refine PW.xeq h9 ?_
    clear h9 x9
    refine r_aload_n dX9_best_5 rfl (by rfl) ?_
    refine r_iload_n dX9_best_6 rfl (by rfl) ?_
    refine r_iconst (v := nI 0) dX9_best_7 (by decide) ?_
    refine r_sipush (v := nI 240) dX9_best_8 (by decide) ?_
    refine r_callS c_X9_within ms_X9_within ml_X9_144 ⟨by decide, by decide⟩ dX9_best_11 rfl (Nat.le_of_ble_eq_true rfl) (fun v9 x9 h9 => ?_)
    obtain ⟨rfl, h9⟩ := h9
    refine PW.xeq h9 ?_
    clear h9 x9
    refine PW.caseB (fun q14 => ?_) (fun q14 => ?_)
    · refine r_callV c_require_t mv_X9_require ml_X9_148 ⟨by decide, by decide⟩ dX9_best_14 lay_0 rfl rfl rfl (Nat.le_of_ble_eq_true rfl) (fun v9 x9 h9 => ?_)
      obtain ⟨rfl, h9⟩ := h9
      refine PW.xeq h9 ?_
      clear h9 x9
      obtain ⟨m, _, hm, rfl⟩ := inB_is (lo := 0) (hi := 240) q14 (by decide) (by decide)
      refine r_iconst (v := nI 0) dX9_best_17 (by decide) ?_
      refine r_istore_n dX9_best_18 rfl (by decide) ?_
      refine r_iconst (v := -1) dX9_best_19 (by decide) ?_
      refine r_istore dX9_best_20 (by decide) ?_
      refine r_iconst (v := nI 0) dX9_best_22 (by decide) ?_
      refine r_istore dX9_best_23 (by decide) ?_
      refine PW.loop (σ := Nat × XS) (fun s => 31 - s.1) (fun s => s.1 ≤ 31 ∧ TF x s.2) (fun s => [(0, .ref 0), (1, .int (nI p)), (2, .int (nI m)), (3, .int (amx (fun h => hedP (aE a) (aR a) p h m) (-1) (nI 0) s.1).2), (4, .int (amx (fun h => hedP (aE a) (aR a) p h m) (-1) (nI 0) s.1).1), (5, .int (nI s.1))]) (fun s => s.2) ((0, x)) (⟨Nat.zero_le _, TF.rfl⟩) rfl rfl (fun s hs ih => ?_)
      obtain ⟨hs1, hF⟩ := hs
      refine r_iload dX9_best_25 (by rfl) ?_
      refine r_bipush (v := nI 30) dX9_best_27 (by decide) ?_
      refine r_icmp_gtN (tgt := 62) dX9_best_29 (by decide) (by omega) (by omega) (fun h29 => ?_) (fun h29 => ?_)
      · refine r_iload_n dX9_best_62 rfl (by rfl) ?_
        refine r_iretW rfl dX9_best_63 ?_
        refine ask_ok hC hF ?_
        rw [oBest, rqS_f q2, rq_t q14, nN_nI (by omega), nN_nI (by omega), show 31 = s.1 by omega]
      · refine r_aload_n dX9_best_32 rfl (by rfl) ?_
        refine r_iload_n dX9_best_33 rfl (by rfl) ?_
        refine r_iload dX9_best_34 (by rfl) ?_
        refine r_iload_n dX9_best_36 rfl (by rfl) ?_
        refine r_callV (c_sleptByHead (hC.tf hF) hA hp5 (by omega)) mv_X9_sleptByHead ml_X9_255 ⟨by decide, by decide⟩ dX9_best_37 (by first | assumption | rfl) rfl rfl rfl (Nat.le_of_ble_eq_true rfl) (fun v9 y h9 => ?_)
        obtain ⟨rfl, F1⟩ := h9
        refine r_istore dX9_best_40 (by decide) ?_
        refine r_iload dX9_best_42 (by rfl) ?_
        refine r_iload dX9_best_44 (by rfl) ?_
        refine r_icmp_le (tgt := 56) dX9_best_46 (by decide) (fun h46 => ?_) (fun h46 => ?_)
        · refine r_iincN dX9_best_56 (by rfl) (by decide) ?_
          refine r_goto (tgt := 25) dX9_best_59 (by decide) ?_
          first
            | (have e := amx_le (F := (fun h => hedP (aE a) (aR a) p h m)) h46
               exact PW.lc (by (try dsimp only); rw [e]; rfl) rfl (ih (s.1 + 1, y) ⟨(show s.1 + 1 ≤ 31 by omega), hF.trans F1⟩ (show 31 - (s.1 + 1) < 31 - s.1 by omega)))
            | (have e := amx_gt (F := (fun h => hedP (aE a) (aR a) p h m)) h46
               exact PW.lc (by (try dsimp only); rw [e]; rfl) rfl (ih (s.1 + 1, y) ⟨(show s.1 + 1 ≤ 31 by omega), hF.trans F1⟩ (show 31 - (s.1 + 1) < 31 - s.1 by omega)))
        · refine r_iload dX9_best_49 (by rfl) ?_
          refine r_istore dX9_best_51 (by decide) ?_
          refine r_iload dX9_best_53 (by rfl) ?_
          refine r_istore_n dX9_best_55 rfl (by decide) ?_
          refine r_iincN dX9_best_56 (by rfl) (by decide) ?_
          refine r_goto (tgt := 25) dX9_best_59 (by decide) ?_
          first
            | (have e := amx_le (F := (fun h => hedP (aE a) (aR a) p h m)) h46
               exact PW.lc (by (try dsimp only); rw [e]; rfl) rfl (ih (s.1 + 1, y) ⟨(show s.1 + 1 ≤ 31 by omega), hF.trans F1⟩ (show 31 - (s.1 + 1) < 31 - s.1 by omega)))
            | (have e := amx_gt (F := (fun h => hedP (aE a) (aR a) p h m)) h46
               exact PW.lc (by (try dsimp only); rw [e]; rfl) rfl (ih (s.1 + 1, y) ⟨(show s.1 + 1 ≤ 31 by omega), hF.trans F1⟩ (show 31 - (s.1 + 1) < 31 - s.1 by omega)))
    · exact r_callVT c_require_f mv_X9_require ml_X9_148 ⟨by decide, by decide⟩ dX9_best_14 lay_0 rfl rfl rfl (Nat.le_of_ble_eq_true rfl) ⟨by decide, by decide⟩ (fun E y h => by obtain ⟨rfl, e⟩ := h; exact ask_bad hC e (by rw [oBest, rqS_f q2, rq_f q14]))
set_option maxHeartbeats 8000000 in
set_option maxRecDepth 20000 in
theorem c_askedReading {a : AS} {x : XS} {p q own its : Nat} (hC : RC x a) (hp : p < 5) (hq : q < 5) : MM mX9_askedWhileReading 3 0 0 [.ref 0, .int (nI p), .int (nI q), .int (nI own), .int (nI its)] x (fun v y => v = some (.ref 49) ∧ TN y (aE a) (eW (aE a)) (rdPQ (aR a) p q own its) (aR a) ∧ TF x y) NoT := by
  refine MM.of (by decide) (Nat.le_of_ble_eq_true rfl) ?_
  have y0 := lay_0
  have y49 := lay_49
  refine r_aload_n dX9_askedWhileReading_0 rfl (by rfl) ?_
  refine r_callV (c_asked hC) mv_X9_asked ml_X9_218 ⟨by decide, by decide⟩ dX9_askedWhileReading_1 (by first | assumption | rfl) rfl rfl rfl (Nat.le_of_ble_eq_true rfl) (fun v9 y h9 => ?_)
  obtain ⟨rfl, T0, F0, c0⟩ := h9
  refine r_astore dX9_askedWhileReading_4 (by decide) ?_
  refine r_aload dX9_askedWhileReading_6 (by rfl) ?_
  refine r_iload_n dX9_askedWhileReading_8 rfl (by rfl) ?_
  refine r_iload_n dX9_askedWhileReading_9 rfl (by rfl) ?_
  refine r_callV (t_keepAwake T0 hp) mv_X6_keepAwake ml_X9_353 ⟨by decide, by decide⟩ dX9_askedWhileReading_10 (by first | assumption | rfl) rfl rfl rfl (Nat.le_of_ble_eq_true rfl) (fun v9 z h9 => ?_)
  obtain ⟨rfl, T1, F1⟩ := h9
  refine r_aload dX9_askedWhileReading_13 (by rfl) ?_
  refine r_iload_n dX9_askedWhileReading_15 rfl (by rfl) ?_
  refine r_iload dX9_askedWhileReading_16 (by rfl) ?_
  refine r_callV (t_keepAwake T1 hq) mv_X6_keepAwake ml_X9_353 ⟨by decide, by decide⟩ dX9_askedWhileReading_18 (by first | assumption | rfl) rfl rfl rfl (Nat.le_of_ble_eq_true rfl) (fun v9 z2 h9 => ?_)
  obtain ⟨rfl, T2, F2⟩ := h9
  refine r_aload dX9_askedWhileReading_21 (by rfl) ?_
  refine r_aret rfl dX9_askedWhileReading_23 ?_
  exact ⟨rfl, T2, (F0.trans F1).trans F2⟩
set_option maxHeartbeats 8000000 in
set_option maxRecDepth 20000 in
theorem f_reads {a : AS} {x : XS} {v w o i n : Int32} (hC : RC x a) (hA : AI a) : ASK mX9_reads [.ref 0, .int v, .int w, .int o, .int i, .int n] x a (oReads a v w o i n) := by
  refine MM.of (by decide) (Nat.le_of_ble_eq_true rfl) ?_
  have y0 := lay_0
  have y49 := lay_49
  obtain ⟨t, ht2, ht⟩ := hA.t
  refine r_aload_n dX9_reads_0 rfl (by rfl) ?_
  refine r_iload_n dX9_reads_1 rfl (by rfl) ?_
  by_cases q2 : nobody v (eN (aE a)) = true
  · exact r_callVT (c_rS_f hC.1.1 q2) mv_X9_requireSleeper ml_X9_200 ⟨by decide, by decide⟩ dX9_reads_2 lay_0 rfl rfl rfl (Nat.le_of_ble_eq_true rfl) ⟨by decide, by decide⟩ (fun E y h => by obtain ⟨rfl, e⟩ := h; exact ask_nob hC e (by rw [oReads, rqS_t q2]))
  · have q2 := Bool.eq_false_iff.mpr q2
    obtain ⟨p, hp, rfl⟩ := nobody_f hC.1.2.1 q2
    have hp5 : p < 5 := Nat.lt_of_lt_of_le hp hC.1.2.1
    refine r_callV (c_rS_t hC.1.1 hC.1.2.1 hp) mv_X9_requireSleeper ml_X9_200 ⟨by decide, by decide⟩ dX9_reads_2 lay_0 rfl rfl rfl (Nat.le_of_ble_eq_true rfl) (fun v9 x9 h9 => ?_)
    obtain ⟨rfl, h9⟩ := h9
    refine PW.xeq h9 ?_
    clear h9 x9
    refine r_aload_n dX9_reads_5 rfl (by rfl) ?_
    refine r_iload_n dX9_reads_6 rfl (by rfl) ?_
    by_cases q7 : nobody w (eN (aE a)) = true
    · exact r_callVT (c_rS_f hC.1.1 q7) mv_X9_requireSleeper ml_X9_200 ⟨by decide, by decide⟩ dX9_reads_7 lay_0 rfl rfl rfl (Nat.le_of_ble_eq_true rfl) ⟨by decide, by decide⟩ (fun E y h => by obtain ⟨rfl, e⟩ := h; exact ask_nob hC e (by rw [oReads, rqS_f q2, rqS_t q7]))
    · have q7 := Bool.eq_false_iff.mpr q7
      obtain ⟨q, hq, rfl⟩ := nobody_f hC.1.2.1 q7
      have hq5 : q < 5 := Nat.lt_of_lt_of_le hq hC.1.2.1
      refine r_callV (c_rS_t hC.1.1 hC.1.2.1 hq) mv_X9_requireSleeper ml_X9_200 ⟨by decide, by decide⟩ dX9_reads_7 lay_0 rfl rfl rfl (Nat.le_of_ble_eq_true rfl) (fun v9 x9 h9 => ?_)
      obtain ⟨rfl, h9⟩ := h9
      refine PW.xeq h9 ?_
      clear h9 x9
      refine r_aload_n dX9_reads_10 rfl (by rfl) ?_
      refine r_iload_n dX9_reads_11 rfl (by rfl) ?_
      refine r_iload_n dX9_reads_12 rfl (by rfl) ?_
      refine r_icmp_eqN (tgt := 41) dX9_reads_13 (by decide) (by omega) (by omega) (fun h13 => ?_) (fun h13 => ?_)
      · refine r_iconst (v := nI 0) dX9_reads_41 (by decide) ?_
        refine PW.topi bI_f.symm ?_
        exact r_callVT c_require_f mv_X9_require ml_X9_148 ⟨by decide, by decide⟩ dX9_reads_42 lay_0 rfl rfl rfl (Nat.le_of_ble_eq_true rfl) ⟨by decide, by decide⟩ (fun E y h => by obtain ⟨rfl, e⟩ := h; exact ask_bad hC e (by rw [oReads, rqS_f q2, rqS_f q7, rqN_f h13]))
      · refine r_iload_n dX9_reads_16 rfl (by rfl) ?_
        refine r_iconst (v := nI 0) dX9_reads_17 (by decide) ?_
        refine r_bipush (v := nI 60) dX9_reads_18 (by decide) ?_
        refine r_callS c_X9_within ms_X9_within ml_X9_144 ⟨by decide, by decide⟩ dX9_reads_20 rfl (Nat.le_of_ble_eq_true rfl) (fun v9 x9 h9 => ?_)
        obtain ⟨rfl, h9⟩ := h9
        refine PW.xeq h9 ?_
        clear h9 x9
        refine r_if_eqB (tgt := 41) dX9_reads_23 (by decide) (fun h23 => ?_) (fun h23 => ?_)
        · refine r_iconst (v := nI 0) dX9_reads_41 (by decide) ?_
          refine PW.topi bI_f.symm ?_
          exact r_callVT c_require_f mv_X9_require ml_X9_148 ⟨by decide, by decide⟩ dX9_reads_42 lay_0 rfl rfl rfl (Nat.le_of_ble_eq_true rfl) ⟨by decide, by decide⟩ (fun E y h => by obtain ⟨rfl, e⟩ := h; exact ask_bad hC e (by rw [oReads, rqS_f q2, rqS_f q7, rqN_t hp5 hq5 h13, rq_f h23]))
        · refine r_iload dX9_reads_26 (by rfl) ?_
          refine r_iconst (v := nI 0) dX9_reads_28 (by decide) ?_
          refine r_bipush (v := nI 60) dX9_reads_29 (by decide) ?_
          refine r_callS c_X9_within ms_X9_within ml_X9_144 ⟨by decide, by decide⟩ dX9_reads_31 rfl (Nat.le_of_ble_eq_true rfl) (fun v9 x9 h9 => ?_)
          obtain ⟨rfl, h9⟩ := h9
          refine PW.xeq h9 ?_
          clear h9 x9
          refine r_if_eqB (tgt := 41) dX9_reads_34 (by decide) (fun h34 => ?_) (fun h34 => ?_)
          · refine r_iconst (v := nI 0) dX9_reads_41 (by decide) ?_
            refine PW.topi bI_f.symm ?_
            exact r_callVT c_require_f mv_X9_require ml_X9_148 ⟨by decide, by decide⟩ dX9_reads_42 lay_0 rfl rfl rfl (Nat.le_of_ble_eq_true rfl) ⟨by decide, by decide⟩ (fun E y h => by obtain ⟨rfl, e⟩ := h; exact ask_bad hC e (by rw [oReads, rqS_f q2, rqS_f q7, rqN_t hp5 hq5 h13, rq_t h23, rq_f h34]))
          · refine r_iconst (v := nI 1) dX9_reads_37 (by decide) ?_
            refine r_goto (tgt := 42) dX9_reads_38 (by decide) ?_
            refine PW.topi bI_t.symm ?_
            refine r_callV c_require_t mv_X9_require ml_X9_148 ⟨by decide, by decide⟩ dX9_reads_42 lay_0 rfl rfl rfl (Nat.le_of_ble_eq_true rfl) (fun v9 x9 h9 => ?_)
            obtain ⟨rfl, h9⟩ := h9
            refine PW.xeq h9 ?_
            clear h9 x9
            refine r_aload_n dX9_reads_45 rfl (by rfl) ?_
            refine r_iload dX9_reads_46 (by rfl) ?_
            refine r_iconst (v := nI 0) dX9_reads_48 (by decide) ?_
            refine r_bipush (v := nI 120) dX9_reads_49 (by decide) ?_
            refine r_callS c_X9_within ms_X9_within ml_X9_144 ⟨by decide, by decide⟩ dX9_reads_51 rfl (Nat.le_of_ble_eq_true rfl) (fun v9 x9 h9 => ?_)
            obtain ⟨rfl, h9⟩ := h9
            refine PW.xeq h9 ?_
            clear h9 x9
            refine PW.caseB (fun q54 => ?_) (fun q54 => ?_)
            · refine r_callV c_require_t mv_X9_require ml_X9_148 ⟨by decide, by decide⟩ dX9_reads_54 lay_0 rfl rfl rfl (Nat.le_of_ble_eq_true rfl) (fun v9 x9 h9 => ?_)
              obtain ⟨rfl, h9⟩ := h9
              refine PW.xeq h9 ?_
              clear h9 x9
              obtain ⟨o1, _, ho1, rfl⟩ := inB_is (lo := 0) (hi := 60) h23 (by decide) (by decide)
              obtain ⟨i1, _, hi1, rfl⟩ := inB_is (lo := 0) (hi := 60) h34 (by decide) (by decide)
              obtain ⟨m, _, hm, rfl⟩ := inB_is (lo := 0) (hi := 120) q54 (by decide) (by decide)
              refine r_aload_n dX9_reads_57 rfl (by rfl) ?_
              refine r_iload_n dX9_reads_58 rfl (by rfl) ?_
              refine r_iload_n dX9_reads_59 rfl (by rfl) ?_
              refine r_iload_n dX9_reads_60 rfl (by rfl) ?_
              refine r_iload dX9_reads_61 (by rfl) ?_
              refine r_callV (c_askedReading hC hp5 hq5) mv_X9_askedWhileReading ml_X9_259 ⟨by decide, by decide⟩ dX9_reads_63 (by first | assumption | rfl) rfl rfl rfl (Nat.le_of_ble_eq_true rfl) (fun v9 y h9 => ?_)
              obtain ⟨rfl, T1, F1⟩ := h9
              refine r_iload_n dX9_reads_66 rfl (by rfl) ?_
              refine r_iload dX9_reads_67 (by rfl) ?_
              refine r_callV (t_oneSlept T1 ht ht2 (by omega) hp5) mv_X6_oneSleptInNext ml_X9_252 ⟨by decide, by decide⟩ dX9_reads_69 (by first | assumption | rfl) rfl rfl rfl (Nat.le_of_ble_eq_true rfl) (fun v9 z h9 => ?_)
              obtain ⟨rfl, T2, F2⟩ := h9
              refine r_iretW rfl dX9_reads_72 ?_
              refine ask_ok hC (F1.trans F2) ?_
              rw [oReads, rqS_f q2, rqS_f q7, rqN_t hp5 hq5 h13, rq_t h23, rq_t h34, rq_t q54]
              rw [nN_nI (by omega), nN_nI (by omega), nN_nI (by omega), nN_nI (by omega), nN_nI (by omega)]
              rfl
            · exact r_callVT c_require_f mv_X9_require ml_X9_148 ⟨by decide, by decide⟩ dX9_reads_54 lay_0 rfl rfl rfl (Nat.le_of_ble_eq_true rfl) ⟨by decide, by decide⟩ (fun E y h => by obtain ⟨rfl, e⟩ := h; exact ask_bad hC e (by rw [oReads, rqS_f q2, rqS_f q7, rqN_t hp5 hq5 h13, rq_t h23, rq_t h34, rq_f q54]))
