/-! THE FACE: what was heard, whose plugs by turns, both who hurry -/
def bkA (a : AS) (i : Nat) : Nat × Nat := (aB a).getD i (0, 0)
def alB (a : AS) (p sn : Nat) : Nat → Bool
  | 0 => true
  | i + 1 => alB a p sn i && decide (hadP (aE a) p (nI sn) (bkA a i).1 = nI (bkA a i).2)
def ftP (a : AS) (p : Nat) : Nat → Int32
  | 0 => nI 0
  | i + 1 => if alB a p i (aB a).length then ftP a p i ||| (nI 1 <<< (nI i &&& 31)) else ftP a p i
def oFits (a : AS) (v : Int32) : Except Nat Int32 := rqS (eN (aE a)) v (.ok (ftP a (nN v) 10))
def wrS (E : NE) (p : Nat) (ft : Int32) (m : Nat) : Nat → Int32 × (Nat → Int32)
  | 0 => (nI 0, rd0)
  | i + 1 => if bitV ft i = 0 then wrS E p ft m i else
    let t := (wrS E p ft m i).2
    let h := nN (hadP E p (nI i) m)
    let t' := upd t h (t h + nI 1)
    (imax (wrS E p ft m i).1 (t' h), t')
def lsF (a : AS) (p : Nat) (ft : Int32) : Nat → Int32 × Int32
  | 0 => (nI 11, -1)
  | m + 1 => if bkHas (aB a) m then lsF a p ft m else if (wrS (aE a) p ft m 10).1 < (lsF a p ft m).1 then ((wrS (aE a) p ft m 10).1, nI m) else lsF a p ft m
def oListen (a : AS) (v w : Int32) : Except Nat Int32 := rqS (eN (aE a)) v (rq (inB w (nI 0) (nI 1)) (.ok (
  let r := lsF a (nN v) (ftP a (nN v) 10) 240
  if w = nI 0 then r.2 else r.1)))
theorem bnd_is (v : Int32) : ∃ k, k ≤ 40 ∧ bnd v = nI k := by
  unfold bnd imax imin
  by_cases h1 : v < nI 40
  · rw [if_pos h1]
    by_cases h2 : nI 0 < v
    · rw [if_pos h2]
      obtain ⟨j, hj, rfl⟩ := nI_of (x := v) (Int32.not_lt.mpr (Int32.le_of_lt h2))
      exact ⟨j, by have := (nI_ltI hj (by decide)).mp h1; omega, rfl⟩
    · rw [if_neg h2]
      exact ⟨0, by decide, rfl⟩
  · rw [if_neg h1, if_pos (nI_lt (by decide) (by decide))]
    exact ⟨40, by decide, rfl⟩
theorem had_is (E : NE) (p : Nat) (sn : Int32) (m : Nat) : ∃ k, k ≤ 40 ∧ hadP E p sn m = nI k := bnd_is _
theorem RC.book {x : XS} {a : AS} (h : RC x a) {i : Nat} (hi : i < (aB a).length) : x 34 i = nI (bkA a i).1 ∧ x 35 i = nI (bkA a i).2 ∧ (bkA a i).1 < 240 := by
  have e : (aB a)[i]? = some (bkA a i) := by
    unfold bkA
    rw [List.getD_eq_getElem?_getD, List.getElem?_eq_getElem hi]
    rfl
  exact ⟨(h.2.2.2.1.2.2.1 i _ e).1, (h.2.2.2.1.2.2.1 i _ e).2, (h.2.2.2.1.2.2.2 i _ e).1⟩
theorem RC.has {x : XS} {a : AS} (h : RC x a) {m : Nat} (hm : m < 240) : hasB (x 34) (nI m) (aB a).length = bkHas (aB a) m := by
  rw [hasB_any hm (aB a) (fun j q hq => ⟨(h.2.2.2.1.2.2.1 j q hq).1, (h.2.2.2.1.2.2.2 j q hq).1⟩) _ (Nat.le_refl _), List.take_length]
  rfl
set_option maxHeartbeats 8000000 in
set_option maxRecDepth 20000 in
theorem c_fitting {a : AS} {x : XS} {p : Nat} (hC : RC x a) (hp : p < eN (aE a)) : MM mX9_fittingSnores 3 0 0 [.ref 0, .int (nI p)] x (fun v y => v = some (.int (ftP a p 10)) ∧ TF x y) NoT := by
  refine MM.of (by decide) (Nat.le_of_ble_eq_true rfl) ?_
  have y0 := lay_0
  have y33 := lay_33
  have y34 := lay_34
  have y35 := lay_35
  have y49 := lay_49
  refine r_iconst (v := nI 0) dX9_fittingSnores_0 (by decide) ?_
  refine r_istore_n dX9_fittingSnores_1 rfl (by decide) ?_
  refine r_iconst (v := nI 0) dX9_fittingSnores_2 (by decide) ?_
  refine r_istore_n dX9_fittingSnores_3 rfl (by decide) ?_
  refine PW.loop (σ := Nat × XS) (fun o => 10 - o.1) (fun o => o.1 ≤ 10 ∧ TF x o.2) (fun o => [(0, .ref 0), (1, .int (nI p)), (2, .int (ftP a p o.1)), (3, .int (nI o.1))]) (fun o => o.2) ((0, x)) (⟨Nat.zero_le _, TF.rfl⟩) rfl rfl (fun o ho oh => ?_)
  obtain ⟨ho1, hF⟩ := ho
  refine r_iload_n dX9_fittingSnores_4 rfl (by rfl) ?_
  refine r_bipush (v := nI 9) dX9_fittingSnores_5 (by decide) ?_
  refine r_icmp_gtN (tgt := 95) dX9_fittingSnores_7 (by decide) (by omega) (by omega) (fun h7 => ?_) (fun h7 => ?_)
  · refine r_iload_n dX9_fittingSnores_95 rfl (by rfl) ?_
    refine r_iret rfl dX9_fittingSnores_96 ?_
    exact ⟨by rw [show o.1 = 10 by omega], hF⟩
  · refine r_iconst (v := nI 1) dX9_fittingSnores_10 (by decide) ?_
    refine r_istore dX9_fittingSnores_11 (by decide) ?_
    refine r_iconst (v := nI 0) dX9_fittingSnores_13 (by decide) ?_
    refine r_istore dX9_fittingSnores_14 (by decide) ?_
    refine PW.loop (σ := Nat × XS) (fun s => (aB a).length - s.1) (fun s => s.1 ≤ (aB a).length ∧ TF x s.2) (fun s => [(0, .ref 0), (1, .int (nI p)), (2, .int (ftP a p o.1)), (3, .int (nI o.1)), (4, .int (bI (alB a p o.1 s.1))), (5, .int (nI s.1))]) (fun s => s.2) ((0, o.2)) (⟨Nat.zero_le _, hF⟩) rfl rfl (fun s hs ih => ?_)
    obtain ⟨hs1, hG⟩ := hs
    have b8 := hC.2.2.2.1.2.1
    refine r_iload dX9_fittingSnores_16 (by rfl) ?_
    refine r_aload_n dX9_fittingSnores_18 rfl (by rfl) ?_
    refine gf_X9_40 rfl dX9_fittingSnores_19 (by first | assumption | rfl) (by rfl) ?_
    refine gf_X9_136 rfl dX9_fittingSnores_22 (by first | assumption | rfl) (by rfl) ?_
    refine PW.topi (hC.tf hG).2.2.2.1.1 ?_
    refine r_icmp_geN (tgt := 78) dX9_fittingSnores_25 (by decide) (by omega) (by omega) (fun h25 => ?_) (fun h25 => ?_)
    · refine r_iload dX9_fittingSnores_78 (by rfl) ?_
      refine r_if_eqB (tgt := 89) dX9_fittingSnores_80 (by decide) (fun h80 => ?_) (fun h80 => ?_)
      · refine r_iincN dX9_fittingSnores_89 (by rfl) (by decide) ?_
        refine r_goto (tgt := 4) dX9_fittingSnores_92 (by decide) ?_
        have es : s.1 = (aB a).length := by omega
        rw [es] at h80
        first
          | (have e : ftP a p (o.1 + 1) = ftP a p o.1 ||| (nI 1 <<< (nI o.1 &&& 31)) := if_pos h80
             exact PW.lc (by (try dsimp only); rw [e]; rfl) rfl (oh (o.1 + 1, s.2) ⟨(show o.1 + 1 ≤ 10 by omega), hG⟩ (show 10 - (o.1 + 1) < 10 - o.1 by omega)))
          | (have e : ftP a p (o.1 + 1) = ftP a p o.1 := if_neg (by rw [h80]; decide)
             exact PW.lc (by (try dsimp only); rw [e]; rfl) rfl (oh (o.1 + 1, s.2) ⟨(show o.1 + 1 ≤ 10 by omega), hG⟩ (show 10 - (o.1 + 1) < 10 - o.1 by omega)))
      · refine r_iload_n dX9_fittingSnores_83 rfl (by rfl) ?_
        refine r_iconst (v := nI 1) dX9_fittingSnores_84 (by decide) ?_
        refine r_iload_n dX9_fittingSnores_85 rfl (by rfl) ?_
        refine r_ishl dX9_fittingSnores_86 ?_
        refine r_ior dX9_fittingSnores_87 ?_
        refine r_istore_n dX9_fittingSnores_88 rfl (by decide) ?_
        refine r_iincN dX9_fittingSnores_89 (by rfl) (by decide) ?_
        refine r_goto (tgt := 4) dX9_fittingSnores_92 (by decide) ?_
        have es : s.1 = (aB a).length := by omega
        rw [es] at h80
        first
          | (have e : ftP a p (o.1 + 1) = ftP a p o.1 ||| (nI 1 <<< (nI o.1 &&& 31)) := if_pos h80
             exact PW.lc (by (try dsimp only); rw [e]; rfl) rfl (oh (o.1 + 1, s.2) ⟨(show o.1 + 1 ≤ 10 by omega), hG⟩ (show 10 - (o.1 + 1) < 10 - o.1 by omega)))
          | (have e : ftP a p (o.1 + 1) = ftP a p o.1 := if_neg (by rw [h80]; decide)
             exact PW.lc (by (try dsimp only); rw [e]; rfl) rfl (oh (o.1 + 1, s.2) ⟨(show o.1 + 1 ≤ 10 by omega), hG⟩ (show 10 - (o.1 + 1) < 10 - o.1 by omega)))
    · have bk := (hC.tf hG).book (i := s.1) (by omega)
      refine r_iload dX9_fittingSnores_28 (by rfl) ?_
      refine r_if_eqB (tgt := 69) dX9_fittingSnores_30 (by decide) (fun h30 => ?_) (fun h30 => ?_)
      · refine r_iconst (v := nI 0) dX9_fittingSnores_69 (by decide) ?_
        refine r_istore dX9_fittingSnores_70 (by decide) ?_
        refine r_iincN dX9_fittingSnores_72 (by rfl) (by decide) ?_
        refine r_goto (tgt := 16) dX9_fittingSnores_75 (by decide) ?_
        first
          | (have e : alB a p o.1 (s.1 + 1) = false := by
               show (alB a p o.1 s.1 && _) = false
               rw [h30]
               rfl
             exact PW.lc (by (try dsimp only); rw [e]; rfl) rfl (ih (s.1 + 1, s.2) ⟨(show s.1 + 1 ≤ (aB a).length by omega), hG⟩ (show (aB a).length - (s.1 + 1) < (aB a).length - s.1 by omega)))
          | (have e : alB a p o.1 (s.1 + 1) = false := by
               show (alB a p o.1 s.1 && decide _) = false
               rw [h30, decide_eq_false h62]
               rfl
             exact PW.lc (by (try dsimp only); rw [e]; rfl) rfl (ih (s.1 + 1, z) ⟨(show s.1 + 1 ≤ (aB a).length by omega), hG.trans F1⟩ (show (aB a).length - (s.1 + 1) < (aB a).length - s.1 by omega)))
          | (have e : alB a p o.1 (s.1 + 1) = true := by
               show (alB a p o.1 s.1 && decide _) = true
               rw [h30, decide_eq_true h62]
               rfl
             exact PW.lc (by (try dsimp only); rw [e]; rfl) rfl (ih (s.1 + 1, z) ⟨(show s.1 + 1 ≤ (aB a).length by omega), hG.trans F1⟩ (show (aB a).length - (s.1 + 1) < (aB a).length - s.1 by omega)))
      · refine r_aload_n dX9_fittingSnores_33 rfl (by rfl) ?_
        refine gf_X9_63 rfl dX9_fittingSnores_34 (by first | assumption | rfl) (by rfl) ?_
        refine r_iload_n dX9_fittingSnores_37 rfl (by rfl) ?_
        refine r_iload_n dX9_fittingSnores_38 rfl (by rfl) ?_
        refine r_aload_n dX9_fittingSnores_39 rfl (by rfl) ?_
        refine gf_X9_40 rfl dX9_fittingSnores_40 (by first | assumption | rfl) (by rfl) ?_
        refine gf_X9_356 rfl dX9_fittingSnores_43 (by first | assumption | rfl) (by rfl) ?_
        refine r_iload dX9_fittingSnores_46 (by rfl) ?_
        refine r_ialdN dX9_fittingSnores_48 (by first | assumption | rfl) (by omega) (by decide) ?_
        refine PW.topi bk.1 ?_
        refine r_callV (t_loudHad (hC.tf hG).1 hp) mv_X6_loudHad ml_X9_359 ⟨by decide, by decide⟩ dX9_fittingSnores_49 (by first | assumption | rfl) rfl rfl rfl (Nat.le_of_ble_eq_true rfl) (fun v9 z h9 => ?_)
        obtain ⟨rfl, F1⟩ := h9
        refine r_aload_n dX9_fittingSnores_52 rfl (by rfl) ?_
        refine gf_X9_40 rfl dX9_fittingSnores_53 (by first | assumption | rfl) (by rfl) ?_
        refine gf_X9_362 rfl dX9_fittingSnores_56 (by first | assumption | rfl) (by rfl) ?_
        refine r_iload dX9_fittingSnores_59 (by rfl) ?_
        refine r_ialdN dX9_fittingSnores_61 (by first | assumption | rfl) (by omega) (by decide) ?_
        refine PW.topi (show _ = nI (bkA a s.1).2 from (by rw [F1 35 (by unfold TS; omega)]; exact bk.2.1)) ?_
        refine r_icmp_ne (tgt := 69) dX9_fittingSnores_62 (by decide) (fun h62 => ?_) (fun h62 => ?_)
        · refine r_iconst (v := nI 0) dX9_fittingSnores_69 (by decide) ?_
          refine r_istore dX9_fittingSnores_70 (by decide) ?_
          refine r_iincN dX9_fittingSnores_72 (by rfl) (by decide) ?_
          refine r_goto (tgt := 16) dX9_fittingSnores_75 (by decide) ?_
          first
            | (have e : alB a p o.1 (s.1 + 1) = false := by
                 show (alB a p o.1 s.1 && _) = false
                 rw [h30]
                 rfl
               exact PW.lc (by (try dsimp only); rw [e]; rfl) rfl (ih (s.1 + 1, s.2) ⟨(show s.1 + 1 ≤ (aB a).length by omega), hG⟩ (show (aB a).length - (s.1 + 1) < (aB a).length - s.1 by omega)))
            | (have e : alB a p o.1 (s.1 + 1) = false := by
                 show (alB a p o.1 s.1 && decide _) = false
                 rw [h30, decide_eq_false h62]
                 rfl
               exact PW.lc (by (try dsimp only); rw [e]; rfl) rfl (ih (s.1 + 1, z) ⟨(show s.1 + 1 ≤ (aB a).length by omega), hG.trans F1⟩ (show (aB a).length - (s.1 + 1) < (aB a).length - s.1 by omega)))
            | (have e : alB a p o.1 (s.1 + 1) = true := by
                 show (alB a p o.1 s.1 && decide _) = true
                 rw [h30, decide_eq_true h62]
                 rfl
               exact PW.lc (by (try dsimp only); rw [e]; rfl) rfl (ih (s.1 + 1, z) ⟨(show s.1 + 1 ≤ (aB a).length by omega), hG.trans F1⟩ (show (aB a).length - (s.1 + 1) < (aB a).length - s.1 by omega)))
        · refine r_iconst (v := nI 1) dX9_fittingSnores_65 (by decide) ?_
          refine r_goto (tgt := 70) dX9_fittingSnores_66 (by decide) ?_
          refine r_istore dX9_fittingSnores_70 (by decide) ?_
          refine r_iincN dX9_fittingSnores_72 (by rfl) (by decide) ?_
          refine r_goto (tgt := 16) dX9_fittingSnores_75 (by decide) ?_
          first
            | (have e : alB a p o.1 (s.1 + 1) = false := by
                 show (alB a p o.1 s.1 && _) = false
                 rw [h30]
                 rfl
               exact PW.lc (by (try dsimp only); rw [e]; rfl) rfl (ih (s.1 + 1, s.2) ⟨(show s.1 + 1 ≤ (aB a).length by omega), hG⟩ (show (aB a).length - (s.1 + 1) < (aB a).length - s.1 by omega)))
            | (have e : alB a p o.1 (s.1 + 1) = false := by
                 show (alB a p o.1 s.1 && decide _) = false
                 rw [h30, decide_eq_false h62]
                 rfl
               exact PW.lc (by (try dsimp only); rw [e]; rfl) rfl (ih (s.1 + 1, z) ⟨(show s.1 + 1 ≤ (aB a).length by omega), hG.trans F1⟩ (show (aB a).length - (s.1 + 1) < (aB a).length - s.1 by omega)))
            | (have e : alB a p o.1 (s.1 + 1) = true := by
                 show (alB a p o.1 s.1 && decide _) = true
                 rw [h30, decide_eq_true h62]
                 rfl
               exact PW.lc (by (try dsimp only); rw [e]; rfl) rfl (ih (s.1 + 1, z) ⟨(show s.1 + 1 ≤ (aB a).length by omega), hG.trans F1⟩ (show (aB a).length - (s.1 + 1) < (aB a).length - s.1 by omega)))
set_option maxHeartbeats 8000000 in
set_option maxRecDepth 20000 in
theorem f_fits {a : AS} {x : XS} {v : Int32} (hC : RC x a) (hA : AI a) : ASK mX9_fits [.ref 0, .int v] x a (oFits a v) := by
  refine MM.of (by decide) (Nat.le_of_ble_eq_true rfl) ?_
  have y0 := lay_0
  refine r_aload_n dX9_fits_0 rfl (by rfl) ?_
  refine r_iload_n dX9_fits_1 rfl (by rfl) ?_
  by_cases q2 : nobody v (eN (aE a)) = true
  · exact r_callVT (c_rS_f hC.1.1 q2) mv_X9_requireSleeper ml_X9_200 ⟨by decide, by decide⟩ dX9_fits_2 lay_0 rfl rfl rfl (Nat.le_of_ble_eq_true rfl) ⟨by decide, by decide⟩ (fun E y h => by obtain ⟨rfl, e⟩ := h; exact ask_nob hC e (by rw [oFits, rqS_t q2]))
  · have q2 := Bool.eq_false_iff.mpr q2
    obtain ⟨p, hp, rfl⟩ := nobody_f hC.1.2.1 q2
    have hp5 : p < 5 := Nat.lt_of_lt_of_le hp hC.1.2.1
    refine r_callV (c_rS_t hC.1.1 hC.1.2.1 hp) mv_X9_requireSleeper ml_X9_200 ⟨by decide, by decide⟩ dX9_fits_2 lay_0 rfl rfl rfl (Nat.le_of_ble_eq_true rfl) (fun v9 x9 h9 => ?_)
    obtain ⟨rfl, h9⟩ := h9
    refine PW.xeq h9 ?_
    clear h9 x9
    refine r_aload_n dX9_fits_5 rfl (by rfl) ?_
    refine r_iload_n dX9_fits_6 rfl (by rfl) ?_
    refine r_callV (c_fitting hC hp) mv_X9_fittingSnores ml_X9_298 ⟨by decide, by decide⟩ dX9_fits_7 (by first | assumption | rfl) rfl rfl rfl (Nat.le_of_ble_eq_true rfl) (fun v9 y h9 => ?_)
    obtain ⟨rfl, F1⟩ := h9
    refine r_iretW rfl dX9_fits_10 ?_
    refine ask_ok hC F1 ?_
    rw [oFits, rqS_f q2, nN_nI (by omega)]
set_option maxHeartbeats 8000000 in
set_option maxRecDepth 20000 in
theorem c_left {a : AS} {x : XS} {p m : Nat} {ft : Int32} (hC : RC x a) (hp : p < eN (aE a)) : MM mX9_leftAtWorst 3 0 0 [.ref 0, .int (nI p), .int ft, .int (nI m)] x (fun v y => v = some (.int (wrS (aE a) p ft m 10).1) ∧ TG x y) NoT := by
  refine MM.of (by decide) (Nat.le_of_ble_eq_true rfl) ?_
  have y0 := lay_0
  have y49 := lay_49
  have y136 := lay_136
  refine r_iconst (v := nI 0) dX9_leftAtWorst_0 (by decide) ?_
  refine r_istore dX9_leftAtWorst_1 (by decide) ?_
  refine PW.loop (σ := Nat) (fun i => 41 - i) (fun i => i ≤ 41) (fun i => [(0, .ref 0), (1, .int (nI p)), (2, .int ft), (3, .int (nI m)), (4, .int (nI i))]) (fun i => xr x 136 (zfill (x 136) i)) (0) (Nat.zero_le _) rfl (xr_id x 136).symm (fun i hi jh => ?_)
  refine r_iload dX9_leftAtWorst_3 (by rfl) ?_
  refine r_aload_n dX9_leftAtWorst_5 rfl (by rfl) ?_
  refine gf_X9_87 rfl dX9_leftAtWorst_6 (by first | assumption | rfl) (by rfl) ?_
  refine r_alen dX9_leftAtWorst_9 (by first | assumption | rfl) (by decide) rfl ?_
  refine r_icmp_geN (tgt := 27) dX9_leftAtWorst_10 (by decide) (by omega) (by omega) (fun h10 => ?_) (fun h10 => ?_)
  · refine PW.lc (L' := [(0, .ref 0), (1, .int (nI p)), (2, .int ft), (3, .int (nI m))]) (x' := xr x 136 (zfill (x 136) 41)) (by rfl) (by rw [show i = 41 by omega]) ?_
    refine PW.agr (x' := xr x 136 rd0) (fun c k hk => ?_) ?_
    · by_cases hc : c = 136
      · subst hc
        rw [xr_s, xr_s]
        exact zfill_lt 41 hk
      · rw [xr_n hc, xr_n hc]
    refine r_iconst (v := nI 0) dX9_leftAtWorst_27 (by decide) ?_
    refine r_istore dX9_leftAtWorst_28 (by decide) ?_
    refine r_iconst (v := nI 0) dX9_leftAtWorst_30 (by decide) ?_
    refine r_istore dX9_leftAtWorst_31 (by decide) ?_
    refine PW.loop (σ := Nat × XS) (fun s => 10 - s.1) (fun s => s.1 ≤ 10 ∧ s.2 136 = (wrS (aE a) p ft m s.1).2 ∧ TG x s.2) (fun s => [(0, .ref 0), (1, .int (nI p)), (2, .int ft), (3, .int (nI m)), (4, .int (wrS (aE a) p ft m s.1).1), (5, .int (nI s.1))]) (fun s => s.2) ((0, (xr x 136 rd0))) (⟨Nat.zero_le _, (show xr x 136 rd0 136 = rd0 from xr_s), fun c _ h9 => xr_n (by omega)⟩) rfl rfl (fun s hs ih => ?_)
    obtain ⟨hs1, h136, hG⟩ := hs
    refine r_iload dX9_leftAtWorst_33 (by rfl) ?_
    refine r_bipush (v := nI 9) dX9_leftAtWorst_35 (by decide) ?_
    refine r_icmp_gtN (tgt := 111) dX9_leftAtWorst_37 (by decide) (by omega) (by omega) (fun h37 => ?_) (fun h37 => ?_)
    · refine r_iload dX9_leftAtWorst_111 (by rfl) ?_
      refine r_iret rfl dX9_leftAtWorst_113 ?_
      exact ⟨by rw [show s.1 = 10 by omega], hG⟩
    · refine r_iload_n dX9_leftAtWorst_40 rfl (by rfl) ?_
      refine r_iload dX9_leftAtWorst_41 (by rfl) ?_
      refine r_ishr dX9_leftAtWorst_43 ?_
      refine r_iconst (v := nI 1) dX9_leftAtWorst_44 (by decide) ?_
      refine r_iand dX9_leftAtWorst_45 ?_
      refine PW.topi (show _ = bitV ft s.1 from rfl) ?_
      refine r_if_ne (tgt := 52) dX9_leftAtWorst_46 (by decide) (fun h46 => ?_) (fun h46 => ?_)
      · refine r_aload_n dX9_leftAtWorst_52 rfl (by rfl) ?_
        refine gf_X9_63 rfl dX9_leftAtWorst_53 (by first | assumption | rfl) (by rfl) ?_
        refine r_iload_n dX9_leftAtWorst_56 rfl (by rfl) ?_
        refine r_iload dX9_leftAtWorst_57 (by rfl) ?_
        refine r_iload_n dX9_leftAtWorst_59 rfl (by rfl) ?_
        refine r_callV (t_loudHad (hC.tg hG).1 hp) mv_X6_loudHad ml_X9_359 ⟨by decide, by decide⟩ dX9_leftAtWorst_60 (by first | assumption | rfl) rfl rfl rfl (Nat.le_of_ble_eq_true rfl) (fun v9 z h9 => ?_)
        obtain ⟨rfl, F1⟩ := h9
        obtain ⟨h, hh, eh⟩ := had_is (aE a) p (nI s.1) m
        refine PW.topi eh ?_
        have z136 : z 136 = (wrS (aE a) p ft m s.1).2 := by rw [F1 136 (by unfold TS; omega)]; exact h136
        refine r_istore dX9_leftAtWorst_63 (by decide) ?_
        refine r_iload dX9_leftAtWorst_65 (by rfl) ?_
        refine r_if_lt (tgt := 105) dX9_leftAtWorst_67 (by decide) (fun h9 => absurd h9 (nI_pos (by omega))) (fun _ => ?_)
        refine r_iload dX9_leftAtWorst_70 (by rfl) ?_
        refine r_aload_n dX9_leftAtWorst_72 rfl (by rfl) ?_
        refine gf_X9_87 rfl dX9_leftAtWorst_73 (by first | assumption | rfl) (by rfl) ?_
        refine r_alen dX9_leftAtWorst_76 (by first | assumption | rfl) (by decide) rfl ?_
        refine r_icmp_geN (tgt := 105) dX9_leftAtWorst_77 (by decide) (by omega) (by omega) (fun h9 => by exfalso; omega) (fun _ => ?_)
        refine r_aload_n dX9_leftAtWorst_80 rfl (by rfl) ?_
        refine gf_X9_87 rfl dX9_leftAtWorst_81 (by first | assumption | rfl) (by rfl) ?_
        refine r_iload dX9_leftAtWorst_84 (by rfl) ?_
        refine r_dup2 dX9_leftAtWorst_86 rfl rfl ?_
        refine r_ialdN dX9_leftAtWorst_87 (by first | assumption | rfl) (by omega) (by decide) ?_
        refine r_iconst (v := nI 1) dX9_leftAtWorst_88 (by decide) ?_
        refine r_iadd dX9_leftAtWorst_89 ?_
        refine r_iastN dX9_leftAtWorst_90 (by first | assumption | rfl) (by omega) (by decide) ?_
        refine r_iload dX9_leftAtWorst_91 (by rfl) ?_
        refine r_aload_n dX9_leftAtWorst_93 rfl (by rfl) ?_
        refine gf_X9_87 rfl dX9_leftAtWorst_94 (by first | assumption | rfl) (by rfl) ?_
        refine r_iload dX9_leftAtWorst_97 (by rfl) ?_
        refine r_ialdN dX9_leftAtWorst_99 (by first | assumption | rfl) (by omega) (by decide) ?_
        refine r_callS c_max ms_J9_max_7cf53 ml_X9_212 ⟨by decide, by decide⟩ dX9_leftAtWorst_100 rfl (Nat.le_of_ble_eq_true rfl) (fun v9 x9 h9 => ?_)
        obtain ⟨rfl, h9⟩ := h9
        refine PW.xeq h9 ?_
        clear h9 x9
        refine r_istore dX9_leftAtWorst_103 (by decide) ?_
        refine r_iincN dX9_leftAtWorst_105 (by rfl) (by decide) ?_
        refine r_goto (tgt := 33) dX9_leftAtWorst_108 (by decide) ?_
        first
          | (have e : wrS (aE a) p ft m (s.1 + 1) = wrS (aE a) p ft m s.1 := if_pos h46
             exact PW.lc (by (try dsimp only); rw [e]; rfl) rfl (ih (s.1 + 1, s.2) ⟨(show s.1 + 1 ≤ 10 by omega), (by rw [e]; exact h136), hG⟩ (show 10 - (s.1 + 1) < 10 - s.1 by omega)))
          | (have e : wrS (aE a) p ft m (s.1 + 1) = (imax (wrS (aE a) p ft m s.1).1 (upd (wrS (aE a) p ft m s.1).2 h ((wrS (aE a) p ft m s.1).2 h + nI 1) h), upd (wrS (aE a) p ft m s.1).2 h ((wrS (aE a) p ft m s.1).2 h + nI 1)) := by
               refine (if_neg h46).trans ?_
               dsimp only
               rw [eh, nN_nI (by omega)]
             refine PW.lc ?_ rfl (ih (s.1 + 1, xu z 136 h (z 136 h + nI 1)) ⟨(show s.1 + 1 ≤ 10 by omega), (by rw [e]; show upd (z 136) h (z 136 h + nI 1) = _; rw [z136]), (fun c hc h9 => (show xu z 136 h (z 136 h + nI 1) c = x c from (by rw [xu_n (by omega)]; exact (hG.trans F1.g) c hc h9)))⟩ (show 10 - (s.1 + 1) < 10 - s.1 by omega))
             dsimp only
             rw [e]
             show [some _, some _, some _, some _, some (Value.int (imax _ (upd (z 136) h (z 136 h + nI 1) h))), some _] = _
             rw [z136]
             rfl)
      · refine r_goto (tgt := 105) dX9_leftAtWorst_49 (by decide) ?_
        refine r_iincN dX9_leftAtWorst_105 (by rfl) (by decide) ?_
        refine r_goto (tgt := 33) dX9_leftAtWorst_108 (by decide) ?_
        first
          | (have e : wrS (aE a) p ft m (s.1 + 1) = wrS (aE a) p ft m s.1 := if_pos h46
             exact PW.lc (by (try dsimp only); rw [e]; rfl) rfl (ih (s.1 + 1, s.2) ⟨(show s.1 + 1 ≤ 10 by omega), (by rw [e]; exact h136), hG⟩ (show 10 - (s.1 + 1) < 10 - s.1 by omega)))
          | (have e : wrS (aE a) p ft m (s.1 + 1) = (imax (wrS (aE a) p ft m s.1).1 (upd (wrS (aE a) p ft m s.1).2 h ((wrS (aE a) p ft m s.1).2 h + nI 1) h), upd (wrS (aE a) p ft m s.1).2 h ((wrS (aE a) p ft m s.1).2 h + nI 1)) := by
               refine (if_neg h46).trans ?_
               dsimp only
               rw [eh, nN_nI (by omega)]
             refine PW.lc ?_ rfl (ih (s.1 + 1, xu z 136 h (z 136 h + nI 1)) ⟨(show s.1 + 1 ≤ 10 by omega), (by rw [e]; show upd (z 136) h (z 136 h + nI 1) = _; rw [z136]), (fun c hc h9 => (show xu z 136 h (z 136 h + nI 1) c = x c from (by rw [xu_n (by omega)]; exact (hG.trans F1.g) c hc h9)))⟩ (show 10 - (s.1 + 1) < 10 - s.1 by omega))
             dsimp only
             rw [e]
             show [some _, some _, some _, some _, some (Value.int (imax _ (upd (z 136) h (z 136 h + nI 1) h))), some _] = _
             rw [z136]
             rfl)
  · refine r_aload_n dX9_leftAtWorst_13 rfl (by rfl) ?_
    refine gf_X9_87 rfl dX9_leftAtWorst_14 (by first | assumption | rfl) (by rfl) ?_
    refine r_iload dX9_leftAtWorst_17 (by rfl) ?_
    refine r_iconst (v := nI 0) dX9_leftAtWorst_19 (by decide) ?_
    refine r_iastN dX9_leftAtWorst_20 (by first | assumption | rfl) (by omega) (by decide) ?_
    refine r_iincN dX9_leftAtWorst_21 (by rfl) (by decide) ?_
    refine r_goto (tgt := 3) dX9_leftAtWorst_24 (by decide) ?_
    exact PW.lc (by rfl) (by rw [xu_xr]; rfl) (jh (i + 1) (by omega) (by omega))
set_option maxHeartbeats 8000000 in
set_option maxRecDepth 20000 in
theorem f_listen {a : AS} {x : XS} {v w : Int32} (hC : RC x a) (hA : AI a) : ASK mX9_listen [.ref 0, .int v, .int w] x a (oListen a v w) := by
  refine MM.of (by decide) (Nat.le_of_ble_eq_true rfl) ?_
  have y0 := lay_0
  have y33 := lay_33
  have y34 := lay_34
  refine r_aload_n dX9_listen_0 rfl (by rfl) ?_
  refine r_iload_n dX9_listen_1 rfl (by rfl) ?_
  by_cases q2 : nobody v (eN (aE a)) = true
  · exact r_callVT (c_rS_f hC.1.1 q2) mv_X9_requireSleeper ml_X9_200 ⟨by decide, by decide⟩ dX9_listen_2 lay_0 rfl rfl rfl (Nat.le_of_ble_eq_true rfl) ⟨by decide, by decide⟩ (fun E y h => by obtain ⟨rfl, e⟩ := h; exact ask_nob hC e (by rw [oListen, rqS_t q2]))
  · have q2 := Bool.eq_false_iff.mpr q2
    obtain ⟨p, hp, rfl⟩ := nobody_f hC.1.2.1 q2
    have hp5 : p < 5 := Nat.lt_of_lt_of_le hp hC.1.2.1
    refine r_callV (c_rS_t hC.1.1 hC.1.2.1 hp) mv_X9_requireSleeper ml_X9_200 ⟨by decide, by decide⟩ dX9_listen_2 lay_0 rfl rfl rfl (Nat.le_of_ble_eq_true rfl) (fun v9 x9 h9 => ?_)
    obtain ⟨rfl, h9⟩ := h9
    refine PW.xeq h9 ?_
    clear h9 x9
    refine r_aload_n dX9_listen_5 rfl (by rfl) ?_
    refine r_iload_n dX9_listen_6 rfl (by rfl) ?_
    refine r_iconst (v := nI 0) dX9_listen_7 (by decide) ?_
    refine r_iconst (v := nI 1) dX9_listen_8 (by decide) ?_
    refine r_callS c_X9_within ms_X9_within ml_X9_144 ⟨by decide, by decide⟩ dX9_listen_9 rfl (Nat.le_of_ble_eq_true rfl) (fun v9 x9 h9 => ?_)
    obtain ⟨rfl, h9⟩ := h9
    refine PW.xeq h9 ?_
    clear h9 x9
    refine PW.caseB (fun q12 => ?_) (fun q12 => ?_)
    · refine r_callV c_require_t mv_X9_require ml_X9_148 ⟨by decide, by decide⟩ dX9_listen_12 lay_0 rfl rfl rfl (Nat.le_of_ble_eq_true rfl) (fun v9 x9 h9 => ?_)
      obtain ⟨rfl, h9⟩ := h9
      refine PW.xeq h9 ?_
      clear h9 x9
      obtain ⟨k, _, hk, rfl⟩ := inB_is (lo := 0) (hi := 1) q12 (by decide) (by decide)
      refine r_aload_n dX9_listen_15 rfl (by rfl) ?_
      refine r_iload_n dX9_listen_16 rfl (by rfl) ?_
      refine r_callV (c_fitting hC hp) mv_X9_fittingSnores ml_X9_298 ⟨by decide, by decide⟩ dX9_listen_17 (by first | assumption | rfl) rfl rfl rfl (Nat.le_of_ble_eq_true rfl) (fun v9 y h9 => ?_)
      obtain ⟨rfl, F1⟩ := h9
      refine r_istore_n dX9_listen_20 rfl (by decide) ?_
      refine r_iconst (v := -1) dX9_listen_21 (by decide) ?_
      refine r_istore dX9_listen_22 (by decide) ?_
      refine r_bipush (v := nI 11) dX9_listen_24 (by decide) ?_
      refine r_istore dX9_listen_26 (by decide) ?_
      refine r_iconst (v := nI 0) dX9_listen_28 (by decide) ?_
      refine r_istore dX9_listen_29 (by decide) ?_
      refine PW.loop (σ := Nat × XS) (fun s => 240 - s.1) (fun s => s.1 ≤ 240 ∧ TG x s.2) (fun s => [(0, .ref 0), (1, .int (nI p)), (2, .int (nI k)), (3, .int (ftP a p 10)), (4, .int (lsF a p (ftP a p 10) s.1).2), (5, .int (lsF a p (ftP a p 10) s.1).1), (6, .int (nI s.1))]) (fun s => s.2) ((0, y)) (⟨Nat.zero_le _, F1.g⟩) rfl rfl (fun s hs ih => ?_)
      obtain ⟨hs1, hG⟩ := hs
      refine r_iload dX9_listen_31 (by rfl) ?_
      refine r_sipush (v := nI 240) dX9_listen_33 (by decide) ?_
      refine r_icmp_geN (tgt := 85) dX9_listen_36 (by decide) (by omega) (by omega) (fun h36 => ?_) (fun h36 => ?_)
      · refine r_iload_n dX9_listen_85 rfl (by rfl) ?_
        refine r_if_ne (tgt := 94) dX9_listen_86 (by decide) (fun h86 => ?_) (fun h86 => ?_)
        · refine r_iload dX9_listen_94 (by rfl) ?_
          refine r_iretW rfl dX9_listen_96 ?_
          refine ask_okG hC hG ?_
          rw [oListen, rqS_f q2, rq_t q12, nN_nI (by omega), show 240 = s.1 by omega]
          dsimp only
          first
            | (have hk0 : k = 0 := by
                 by_cases e : k = 0
                 · exact e
                 · exact absurd h86 (nI_ne0 (by omega) (by omega))
               subst hk0
               rfl)
            | (rw [if_neg (show ¬ nI k = nI 0 from h86)])
        · refine r_iload dX9_listen_89 (by rfl) ?_
          refine r_goto (tgt := 96) dX9_listen_91 (by decide) ?_
          refine r_iretW rfl dX9_listen_96 ?_
          refine ask_okG hC hG ?_
          rw [oListen, rqS_f q2, rq_t q12, nN_nI (by omega), show 240 = s.1 by omega]
          dsimp only
          first
            | (have hk0 : k = 0 := by
                 by_cases e : k = 0
                 · exact e
                 · exact absurd h86 (nI_ne0 (by omega) (by omega))
               subst hk0
               rfl)
            | (rw [if_neg (show ¬ nI k = nI 0 from h86)])
      · refine r_aload_n dX9_listen_39 rfl (by rfl) ?_
        refine gf_X9_40 rfl dX9_listen_40 (by first | assumption | rfl) (by rfl) ?_
        refine r_iload dX9_listen_43 (by rfl) ?_
        refine r_callV (c_X1_has (c0 := 33) (Or.inl rfl) (hC.tg hG).2.2.2.1.1 hC.2.2.2.1.2.1) mv_X1_has ml_X9_301 ⟨by decide, by decide⟩ dX9_listen_45 (by first | assumption | rfl) rfl rfl rfl (Nat.le_of_ble_eq_true rfl) (fun v9 x9 h9 => ?_)
        obtain ⟨rfl, h9⟩ := h9
        refine PW.xeq h9 ?_
        clear h9 x9
        refine PW.topB (show _ = bkHas (aB a) s.1 from (hC.tg hG).has (by omega)) ?_
        refine r_if_eqB (tgt := 54) dX9_listen_48 (by decide) (fun h48 => ?_) (fun h48 => ?_)
        · refine r_aload_n dX9_listen_54 rfl (by rfl) ?_
          refine r_iload_n dX9_listen_55 rfl (by rfl) ?_
          refine r_iload_n dX9_listen_56 rfl (by rfl) ?_
          refine r_iload dX9_listen_57 (by rfl) ?_
          refine r_callV (c_left (hC.tg hG) hp) mv_X9_leftAtWorst ml_X9_304 ⟨by decide, by decide⟩ dX9_listen_59 (by first | assumption | rfl) rfl rfl rfl (Nat.le_of_ble_eq_true rfl) (fun v9 z h9 => ?_)
          obtain ⟨rfl, F2⟩ := h9
          refine r_istore dX9_listen_62 (by decide) ?_
          refine r_iload dX9_listen_64 (by rfl) ?_
          refine r_iload dX9_listen_66 (by rfl) ?_
          refine r_icmp_ge (tgt := 79) dX9_listen_68 (by decide) (fun h68 => ?_) (fun h68 => ?_)
          · refine r_iincN dX9_listen_79 (by rfl) (by decide) ?_
            refine r_goto (tgt := 31) dX9_listen_82 (by decide) ?_
            first
              | (have e : lsF a p (ftP a p 10) (s.1 + 1) = (lsF a p (ftP a p 10) s.1) := by
                   show (if bkHas (aB a) s.1 then _ else if _ then _ else _) = _
                   rw [if_neg (by rw [h48]; decide), if_neg (Int32.not_lt.mpr h68)]
                 exact PW.lc (by (try dsimp only); rw [e]; rfl) rfl (ih (s.1 + 1, z) ⟨(show s.1 + 1 ≤ 240 by omega), hG.trans F2⟩ (show 240 - (s.1 + 1) < 240 - s.1 by omega)))
              | (have e : lsF a p (ftP a p 10) (s.1 + 1) = ((wrS (aE a) p (ftP a p 10) s.1 10).1, nI s.1) := by
                   show (if bkHas (aB a) s.1 then _ else if _ then _ else _) = _
                   rw [if_neg (by rw [h48]; decide), if_pos (Int32.not_le.mp h68)]
                 exact PW.lc (by (try dsimp only); rw [e]; rfl) rfl (ih (s.1 + 1, z) ⟨(show s.1 + 1 ≤ 240 by omega), hG.trans F2⟩ (show 240 - (s.1 + 1) < 240 - s.1 by omega)))
              | (have e : lsF a p (ftP a p 10) (s.1 + 1) = (lsF a p (ftP a p 10) s.1) := by
                   show (if bkHas (aB a) s.1 then _ else if _ then _ else _) = _
                   rw [if_pos h48]
                 exact PW.lc (by (try dsimp only); rw [e]; rfl) rfl (ih (s.1 + 1, s.2) ⟨(show s.1 + 1 ≤ 240 by omega), hG⟩ (show 240 - (s.1 + 1) < 240 - s.1 by omega)))
          · refine r_iload dX9_listen_71 (by rfl) ?_
            refine r_istore dX9_listen_73 (by decide) ?_
            refine r_iload dX9_listen_75 (by rfl) ?_
            refine r_istore dX9_listen_77 (by decide) ?_
            refine r_iincN dX9_listen_79 (by rfl) (by decide) ?_
            refine r_goto (tgt := 31) dX9_listen_82 (by decide) ?_
            first
              | (have e : lsF a p (ftP a p 10) (s.1 + 1) = (lsF a p (ftP a p 10) s.1) := by
                   show (if bkHas (aB a) s.1 then _ else if _ then _ else _) = _
                   rw [if_neg (by rw [h48]; decide), if_neg (Int32.not_lt.mpr h68)]
                 exact PW.lc (by (try dsimp only); rw [e]; rfl) rfl (ih (s.1 + 1, z) ⟨(show s.1 + 1 ≤ 240 by omega), hG.trans F2⟩ (show 240 - (s.1 + 1) < 240 - s.1 by omega)))
              | (have e : lsF a p (ftP a p 10) (s.1 + 1) = ((wrS (aE a) p (ftP a p 10) s.1 10).1, nI s.1) := by
                   show (if bkHas (aB a) s.1 then _ else if _ then _ else _) = _
                   rw [if_neg (by rw [h48]; decide), if_pos (Int32.not_le.mp h68)]
                 exact PW.lc (by (try dsimp only); rw [e]; rfl) rfl (ih (s.1 + 1, z) ⟨(show s.1 + 1 ≤ 240 by omega), hG.trans F2⟩ (show 240 - (s.1 + 1) < 240 - s.1 by omega)))
              | (have e : lsF a p (ftP a p 10) (s.1 + 1) = (lsF a p (ftP a p 10) s.1) := by
                   show (if bkHas (aB a) s.1 then _ else if _ then _ else _) = _
                   rw [if_pos h48]
                 exact PW.lc (by (try dsimp only); rw [e]; rfl) rfl (ih (s.1 + 1, s.2) ⟨(show s.1 + 1 ≤ 240 by omega), hG⟩ (show 240 - (s.1 + 1) < 240 - s.1 by omega)))
        · refine r_goto (tgt := 79) dX9_listen_51 (by decide) ?_
          refine r_iincN dX9_listen_79 (by rfl) (by decide) ?_
          refine r_goto (tgt := 31) dX9_listen_82 (by decide) ?_
          first
            | (have e : lsF a p (ftP a p 10) (s.1 + 1) = (lsF a p (ftP a p 10) s.1) := by
                 show (if bkHas (aB a) s.1 then _ else if _ then _ else _) = _
                 rw [if_neg (by rw [h48]; decide), if_neg (Int32.not_lt.mpr h68)]
               exact PW.lc (by (try dsimp only); rw [e]; rfl) rfl (ih (s.1 + 1, z) ⟨(show s.1 + 1 ≤ 240 by omega), hG.trans F2⟩ (show 240 - (s.1 + 1) < 240 - s.1 by omega)))
            | (have e : lsF a p (ftP a p 10) (s.1 + 1) = ((wrS (aE a) p (ftP a p 10) s.1 10).1, nI s.1) := by
                 show (if bkHas (aB a) s.1 then _ else if _ then _ else _) = _
                 rw [if_neg (by rw [h48]; decide), if_pos (Int32.not_le.mp h68)]
               exact PW.lc (by (try dsimp only); rw [e]; rfl) rfl (ih (s.1 + 1, z) ⟨(show s.1 + 1 ≤ 240 by omega), hG.trans F2⟩ (show 240 - (s.1 + 1) < 240 - s.1 by omega)))
            | (have e : lsF a p (ftP a p 10) (s.1 + 1) = (lsF a p (ftP a p 10) s.1) := by
                 show (if bkHas (aB a) s.1 then _ else if _ then _ else _) = _
                 rw [if_pos h48]
               exact PW.lc (by (try dsimp only); rw [e]; rfl) rfl (ih (s.1 + 1, s.2) ⟨(show s.1 + 1 ≤ 240 by omega), hG⟩ (show 240 - (s.1 + 1) < 240 - s.1 by omega)))
    · exact r_callVT c_require_f mv_X9_require ml_X9_148 ⟨by decide, by decide⟩ dX9_listen_12 lay_0 rfl rfl rfl (Nat.le_of_ble_eq_true rfl) ⟨by decide, by decide⟩ (fun E y h => by obtain ⟨rfl, e⟩ := h; exact ask_bad hC e (by rw [oListen, rqS_f q2, rq_f q12]))
def pcN (k : Nat) : Nat := k % 2 + k / 2 % 2 + k / 4 % 2 + k / 8 % 2 + k / 16 % 2
theorem pcN_le (k : Nat) : pcN k ≤ 5 := by unfold pcN; omega
def csN (E : NE) (p : Nat) : Nat := nN (eH E 7 p) / 60
def ntN (E : NE) (sv d L : Nat) : Nat → Nat
  | 0 => 0
  | p + 1 => if sv / 2 ^ p % 2 = 0 then ntN E sv d L p else ntN E sv d L p + (if csN E p = 0 then d else min d ((8 * d - L) / csN E p))
def tnF (E : NE) (sv d : Nat) : Nat → Int32
  | 0 => nI 0
  | L + 1 => if ntN E sv d (L + 1) (eN E) < d then tnF E sv d L else nI (L + 1)
def oInTurns (a : AS) (v d : Int32) : Except Nat Int32 := rq (inB v (nI 0) (nI (2 ^ eN (aE a) - 1))) (rq (decide (2 ≤ pcN (nN v))) (rq (inB d (nI 0) (nI 12)) (.ok (tnF (aE a) (nN v) (nN d) (8 * nN d)))))
theorem rqP_f {k : Nat} {r : Except Nat Int32} (hk : k < 32) (h : pcN k < 2) : rq (decide (2 ≤ pcN (nN (nI k)))) r = .error 1 := rq_f (by rw [nN_nI (by omega)]; exact decide_eq_false (by omega))
theorem rqP_t {k : Nat} {r : Except Nat Int32} (hk : k < 32) (h : 2 ≤ pcN k) : rq (decide (2 ≤ pcN (nN (nI k)))) r = r := rq_t (by rw [nN_nI (by omega)]; exact decide_eq_true h)
theorem ntN_le {E : NE} {sv d L : Nat} : ∀ p, ntN E sv d L p ≤ d * p
  | 0 => Nat.zero_le _
  | p + 1 => by
    have ih := ntN_le (E := E) (sv := sv) (d := d) (L := L) p
    unfold ntN
    rw [Nat.mul_succ]
    split
    · omega
    · split <;> omega
theorem bitV_N {sv p : Nat} (hs : sv < 64) (hp : p < 6) : bitV (nI sv) p = nI (sv / 2 ^ p % 2) := by
  have key : ∀ sv, sv < 64 → ∀ p, p < 6 → bitV (nI sv) p = nI (sv / 2 ^ p % 2) := by decide +kernel
  exact key sv hs p hp
theorem dJ6_bitCount_0f7a4_0 : decode cJ6_bitCount_0f7a4 0 = .ok (.iload_n 0, 1) := by decide +kernel
theorem dJ6_bitCount_0f7a4_1 : decode cJ6_bitCount_0f7a4 1 = .ok (.iload_n 0, 1) := by decide +kernel
theorem dJ6_bitCount_0f7a4_2 : decode cJ6_bitCount_0f7a4 2 = .ok (.iconst 1, 1) := by decide +kernel
theorem dJ6_bitCount_0f7a4_3 : decode cJ6_bitCount_0f7a4 3 = .ok (.iushr, 1) := by decide +kernel
theorem dJ6_bitCount_0f7a4_4 : decode cJ6_bitCount_0f7a4 4 = .ok (.ldc_w 265, 3) := by decide +kernel
theorem dJ6_bitCount_0f7a4_7 : decode cJ6_bitCount_0f7a4 7 = .ok (.iand, 1) := by decide +kernel
theorem dJ6_bitCount_0f7a4_8 : decode cJ6_bitCount_0f7a4 8 = .ok (.isub, 1) := by decide +kernel
theorem dJ6_bitCount_0f7a4_9 : decode cJ6_bitCount_0f7a4 9 = .ok (.istore_n 0, 1) := by decide +kernel
theorem dJ6_bitCount_0f7a4_10 : decode cJ6_bitCount_0f7a4 10 = .ok (.iload_n 0, 1) := by decide +kernel
theorem dJ6_bitCount_0f7a4_11 : decode cJ6_bitCount_0f7a4 11 = .ok (.ldc_w 266, 3) := by decide +kernel
theorem dJ6_bitCount_0f7a4_14 : decode cJ6_bitCount_0f7a4 14 = .ok (.iand, 1) := by decide +kernel
theorem dJ6_bitCount_0f7a4_15 : decode cJ6_bitCount_0f7a4 15 = .ok (.iload_n 0, 1) := by decide +kernel
theorem dJ6_bitCount_0f7a4_16 : decode cJ6_bitCount_0f7a4 16 = .ok (.iconst 2, 1) := by decide +kernel
theorem dJ6_bitCount_0f7a4_17 : decode cJ6_bitCount_0f7a4 17 = .ok (.iushr, 1) := by decide +kernel
theorem dJ6_bitCount_0f7a4_18 : decode cJ6_bitCount_0f7a4 18 = .ok (.ldc_w 266, 3) := by decide +kernel
theorem dJ6_bitCount_0f7a4_21 : decode cJ6_bitCount_0f7a4 21 = .ok (.iand, 1) := by decide +kernel
theorem dJ6_bitCount_0f7a4_22 : decode cJ6_bitCount_0f7a4 22 = .ok (.iadd, 1) := by decide +kernel
theorem dJ6_bitCount_0f7a4_23 : decode cJ6_bitCount_0f7a4 23 = .ok (.istore_n 0, 1) := by decide +kernel
theorem dJ6_bitCount_0f7a4_24 : decode cJ6_bitCount_0f7a4 24 = .ok (.iload_n 0, 1) := by decide +kernel
theorem dJ6_bitCount_0f7a4_25 : decode cJ6_bitCount_0f7a4 25 = .ok (.iload_n 0, 1) := by decide +kernel
theorem dJ6_bitCount_0f7a4_26 : decode cJ6_bitCount_0f7a4 26 = .ok (.iconst 4, 1) := by decide +kernel
theorem dJ6_bitCount_0f7a4_27 : decode cJ6_bitCount_0f7a4 27 = .ok (.iushr, 1) := by decide +kernel
theorem dJ6_bitCount_0f7a4_28 : decode cJ6_bitCount_0f7a4 28 = .ok (.iadd, 1) := by decide +kernel
theorem dJ6_bitCount_0f7a4_29 : decode cJ6_bitCount_0f7a4 29 = .ok (.ldc_w 267, 3) := by decide +kernel
theorem dJ6_bitCount_0f7a4_32 : decode cJ6_bitCount_0f7a4 32 = .ok (.iand, 1) := by decide +kernel
theorem dJ6_bitCount_0f7a4_33 : decode cJ6_bitCount_0f7a4 33 = .ok (.istore_n 0, 1) := by decide +kernel
theorem dJ6_bitCount_0f7a4_34 : decode cJ6_bitCount_0f7a4 34 = .ok (.iload_n 0, 1) := by decide +kernel
theorem dJ6_bitCount_0f7a4_35 : decode cJ6_bitCount_0f7a4 35 = .ok (.iload_n 0, 1) := by decide +kernel
theorem dJ6_bitCount_0f7a4_36 : decode cJ6_bitCount_0f7a4 36 = .ok (.bipush 8, 2) := by decide +kernel
theorem dJ6_bitCount_0f7a4_38 : decode cJ6_bitCount_0f7a4 38 = .ok (.iushr, 1) := by decide +kernel
theorem dJ6_bitCount_0f7a4_39 : decode cJ6_bitCount_0f7a4 39 = .ok (.iadd, 1) := by decide +kernel
theorem dJ6_bitCount_0f7a4_40 : decode cJ6_bitCount_0f7a4 40 = .ok (.istore_n 0, 1) := by decide +kernel
theorem dJ6_bitCount_0f7a4_41 : decode cJ6_bitCount_0f7a4 41 = .ok (.iload_n 0, 1) := by decide +kernel
theorem dJ6_bitCount_0f7a4_42 : decode cJ6_bitCount_0f7a4 42 = .ok (.iload_n 0, 1) := by decide +kernel
theorem dJ6_bitCount_0f7a4_43 : decode cJ6_bitCount_0f7a4 43 = .ok (.bipush 16, 2) := by decide +kernel
theorem dJ6_bitCount_0f7a4_45 : decode cJ6_bitCount_0f7a4 45 = .ok (.iushr, 1) := by decide +kernel
theorem dJ6_bitCount_0f7a4_46 : decode cJ6_bitCount_0f7a4 46 = .ok (.iadd, 1) := by decide +kernel
theorem dJ6_bitCount_0f7a4_47 : decode cJ6_bitCount_0f7a4 47 = .ok (.istore_n 0, 1) := by decide +kernel
theorem dJ6_bitCount_0f7a4_48 : decode cJ6_bitCount_0f7a4 48 = .ok (.iload_n 0, 1) := by decide +kernel
theorem dJ6_bitCount_0f7a4_49 : decode cJ6_bitCount_0f7a4 49 = .ok (.bipush 63, 2) := by decide +kernel
theorem dJ6_bitCount_0f7a4_51 : decode cJ6_bitCount_0f7a4 51 = .ok (.iand, 1) := by decide +kernel
theorem dJ6_bitCount_0f7a4_52 : decode cJ6_bitCount_0f7a4 52 = .ok (.ireturn, 1) := by decide +kernel
set_option maxHeartbeats 8000000 in
set_option maxRecDepth 20000 in
theorem c_bitCount {k : Nat} {x : XS} (hk : k < 32) : MM mJ6_bitCount_0f7a4 0 0 0 [.int (nI k)] x (fun v y => v = some (.int (nI (pcN k))) ∧ y = x) NoT := by
  refine MM.ofF (by decide +kernel) (Nat.le_of_ble_eq_true rfl) ?_
  refine r_iload_n dJ6_bitCount_0f7a4_0 rfl (by rfl) ?_
  refine r_iload_n dJ6_bitCount_0f7a4_1 rfl (by rfl) ?_
  refine r_iconst (v := nI 1) dJ6_bitCount_0f7a4_2 (by decide) ?_
  refine r_iushr dJ6_bitCount_0f7a4_3 rfl ?_
  refine r_ldcw kc_J6_265 dJ6_bitCount_0f7a4_4 ?_
  refine r_iand dJ6_bitCount_0f7a4_7 ?_
  refine r_isub dJ6_bitCount_0f7a4_8 ?_
  refine r_istore_n dJ6_bitCount_0f7a4_9 rfl (by decide) ?_
  refine r_iload_n dJ6_bitCount_0f7a4_10 rfl (by rfl) ?_
  refine r_ldcw kc_J6_266 dJ6_bitCount_0f7a4_11 ?_
  refine r_iand dJ6_bitCount_0f7a4_14 ?_
  refine r_iload_n dJ6_bitCount_0f7a4_15 rfl (by rfl) ?_
  refine r_iconst (v := nI 2) dJ6_bitCount_0f7a4_16 (by decide) ?_
  refine r_iushr dJ6_bitCount_0f7a4_17 rfl ?_
  refine r_ldcw kc_J6_266 dJ6_bitCount_0f7a4_18 ?_
  refine r_iand dJ6_bitCount_0f7a4_21 ?_
  refine r_iadd dJ6_bitCount_0f7a4_22 ?_
  refine r_istore_n dJ6_bitCount_0f7a4_23 rfl (by decide) ?_
  refine r_iload_n dJ6_bitCount_0f7a4_24 rfl (by rfl) ?_
  refine r_iload_n dJ6_bitCount_0f7a4_25 rfl (by rfl) ?_
  refine r_iconst (v := nI 4) dJ6_bitCount_0f7a4_26 (by decide) ?_
  refine r_iushr dJ6_bitCount_0f7a4_27 rfl ?_
  refine r_iadd dJ6_bitCount_0f7a4_28 ?_
  refine r_ldcw kc_J6_267 dJ6_bitCount_0f7a4_29 ?_
  refine r_iand dJ6_bitCount_0f7a4_32 ?_
  refine r_istore_n dJ6_bitCount_0f7a4_33 rfl (by decide) ?_
  refine r_iload_n dJ6_bitCount_0f7a4_34 rfl (by rfl) ?_
  refine r_iload_n dJ6_bitCount_0f7a4_35 rfl (by rfl) ?_
  refine r_bipush (v := nI 8) dJ6_bitCount_0f7a4_36 (by decide) ?_
  refine r_iushr dJ6_bitCount_0f7a4_38 rfl ?_
  refine r_iadd dJ6_bitCount_0f7a4_39 ?_
  refine r_istore_n dJ6_bitCount_0f7a4_40 rfl (by decide) ?_
  refine r_iload_n dJ6_bitCount_0f7a4_41 rfl (by rfl) ?_
  refine r_iload_n dJ6_bitCount_0f7a4_42 rfl (by rfl) ?_
  refine r_bipush (v := nI 16) dJ6_bitCount_0f7a4_43 (by decide) ?_
  refine r_iushr dJ6_bitCount_0f7a4_45 rfl ?_
  refine r_iadd dJ6_bitCount_0f7a4_46 ?_
  refine r_istore_n dJ6_bitCount_0f7a4_47 rfl (by decide) ?_
  refine r_iload_n dJ6_bitCount_0f7a4_48 rfl (by rfl) ?_
  refine r_bipush (v := nI 63) dJ6_bitCount_0f7a4_49 (by decide) ?_
  refine r_iand dJ6_bitCount_0f7a4_51 ?_
  refine r_iret rfl dJ6_bitCount_0f7a4_52 ?_
  refine ⟨congrArg some (congrArg Value.int ?_), rfl⟩
  clear x
  revert k
  decide +kernel
set_option maxHeartbeats 8000000 in
set_option maxRecDepth 20000 in
theorem c_turns {a : AS} {x : XS} {sv d l : Nat} (hC : RC x a) (hA : AI a) (hs9 : sv < 32) (hd : d ≤ 12) (hl : l ≤ 8 * d) : MM mX9_nightsToListen 1 0 0 [.ref 0, .int (nI sv), .int (nI d), .int (nI l)] x (fun v y => v = some (.int (nI (ntN (aE a) sv d l (eN (aE a))))) ∧ y = x) NoT := by
  refine MM.of (by decide) (Nat.le_of_ble_eq_true rfl) ?_
  have y0 := lay_0
  have y3 := lay_3
  have y11 := lay_11
  refine r_bipush (v := nI 8) dX9_nightsToListen_0 (by decide) ?_
  refine r_iload_n dX9_nightsToListen_2 rfl (by rfl) ?_
  refine r_imulN dX9_nightsToListen_3 ?_
  refine r_iload_n dX9_nightsToListen_4 rfl (by rfl) ?_
  refine r_isubN dX9_nightsToListen_5 (by omega) ?_
  refine r_istore dX9_nightsToListen_6 (by decide) ?_
  refine r_iconst (v := nI 0) dX9_nightsToListen_8 (by decide) ?_
  refine r_istore dX9_nightsToListen_9 (by decide) ?_
  refine r_iconst (v := nI 0) dX9_nightsToListen_11 (by decide) ?_
  refine r_istore dX9_nightsToListen_12 (by decide) ?_
  refine PW.loop (σ := Nat) (fun s => eN (aE a) - s) (fun s => s ≤ eN (aE a)) (fun s => [(0, .ref 0), (1, .int (nI sv)), (2, .int (nI d)), (3, .int (nI l)), (4, .int (nI (8 * d - l))), (5, .int (nI (ntN (aE a) sv d l s))), (6, .int (nI s))]) (fun _ => x) (0) (Nat.zero_le _) rfl rfl (fun s hs ih => ?_)
  have n5 := hC.1.2.1
  refine r_iload dX9_nightsToListen_14 (by rfl) ?_
  refine r_aload_n dX9_nightsToListen_16 rfl (by rfl) ?_
  refine gf_X9_19 rfl dX9_nightsToListen_17 (by first | assumption | rfl) (by rfl) ?_
  refine gf_X9_141 rfl dX9_nightsToListen_20 (by first | assumption | rfl) (by rfl) ?_
  refine PW.topi hC.1.1 ?_
  refine r_icmp_geN (tgt := 92) dX9_nightsToListen_23 (by decide) (by omega) (by omega) (fun h23 => ?_) (fun h23 => ?_)
  · refine r_iload dX9_nightsToListen_92 (by rfl) ?_
    refine r_iret rfl dX9_nightsToListen_94 ?_
    have es : s = eN (aE a) := by omega
    exact ⟨by rw [es], rfl⟩
  · refine r_iload_n dX9_nightsToListen_26 rfl (by rfl) ?_
    refine r_iload dX9_nightsToListen_27 (by rfl) ?_
    refine r_ishr dX9_nightsToListen_29 ?_
    refine r_iconst (v := nI 1) dX9_nightsToListen_30 (by decide) ?_
    refine r_iand dX9_nightsToListen_31 ?_
    refine PW.topi (show _ = nI (sv / 2 ^ s % 2) from bitV_N (by omega) (by omega)) ?_
    refine r_if_ne (tgt := 38) dX9_nightsToListen_32 (by decide) (fun h32 => ?_) (fun h32 => ?_)
    · refine r_bipush (v := nI 8) dX9_nightsToListen_38 (by decide) ?_
      refine r_iconst (v := nI 0) dX9_nightsToListen_40 (by decide) ?_
      refine r_bipush (v := nI 8) dX9_nightsToListen_41 (by decide) ?_
      refine r_aload_n dX9_nightsToListen_43 rfl (by rfl) ?_
      refine gf_X9_19 rfl dX9_nightsToListen_44 (by first | assumption | rfl) (by rfl) ?_
      refine gf_X9_209 rfl dX9_nightsToListen_47 (by first | assumption | rfl) (by rfl) ?_
      refine r_iload dX9_nightsToListen_50 (by rfl) ?_
      refine r_ialdN dX9_nightsToListen_52 (by first | assumption | rfl) (by omega) (by decide) ?_
      obtain ⟨k, hk, ek⟩ := ((hA.1.2.1 s (by omega)).2.2)
      have ck : csN (aE a) s = k / 60 := by unfold csN; rw [ek, nN_nI (by omega)]
      refine PW.topi (show _ = nI k from (hC.1.2.2.1 7 (by decide) s (by omega)).trans ek) ?_
      refine r_bipush (v := nI 60) dX9_nightsToListen_53 (by decide) ?_
      refine r_idivN dX9_nightsToListen_55 (by omega) (by omega) (by omega) ?_
      refine r_isubN dX9_nightsToListen_56 (by omega) ?_
      refine r_callS c_max ms_J9_max_7cf53 ml_X9_212 ⟨by decide, by decide⟩ dX9_nightsToListen_57 rfl (Nat.le_of_ble_eq_true rfl) (fun v9 x9 h9 => ?_)
      obtain ⟨rfl, h9⟩ := h9
      refine PW.xeq h9 ?_
      clear h9 x9
      refine PW.topi (show _ = nI (8 - k / 60) by rw [imax_N (by omega) (by omega)]; exact congrArg nI (by omega)) ?_
      refine r_isubN dX9_nightsToListen_60 (by omega) ?_
      refine PW.topi (show _ = nI (k / 60) by congr 1; omega) ?_
      refine r_istore dX9_nightsToListen_61 (by decide) ?_
      refine r_iload dX9_nightsToListen_63 (by rfl) ?_
      refine r_iload dX9_nightsToListen_65 (by rfl) ?_
      have hb : ¬ sv / 2 ^ s % 2 = 0 := fun e => h32 (by rw [e]; rfl)
      refine r_if_le (tgt := 82) dX9_nightsToListen_67 (by decide) (fun h67 => ?_) (fun h67 => ?_)
      · have k0 : k / 60 = 0 := by
          have := (nI_leI (by omega) (by decide)).mp (show nI (k / 60) ≤ nI 0 from h67)
          omega
        refine r_iload_n dX9_nightsToListen_82 rfl (by rfl) ?_
        refine r_iaddN dX9_nightsToListen_83 ?_
        refine r_istore dX9_nightsToListen_84 (by decide) ?_
        refine r_iincN dX9_nightsToListen_86 (by rfl) (by decide) ?_
        refine r_goto (tgt := 14) dX9_nightsToListen_89 (by decide) ?_
        have e : ntN (aE a) sv d l (s + 1) = ntN (aE a) sv d l s + d := by
          show (if _ then _ else _) = _
          rw [if_neg hb, ck, if_pos k0]
        exact PW.lc (by (try dsimp only); rw [e]; rfl) rfl (ih (s + 1) (by omega) (by omega))
      · have k0 : ¬ k / 60 = 0 := fun e => h67 (by rw [e]; exact Int32.le_refl _)
        refine r_iload_n dX9_nightsToListen_70 rfl (by rfl) ?_
        refine r_iload dX9_nightsToListen_71 (by rfl) ?_
        refine r_iload dX9_nightsToListen_73 (by rfl) ?_
        refine r_idivN dX9_nightsToListen_75 (by omega) (by omega) (by omega) ?_
        refine r_callS c_min ms_J9_min_7cf53 ml_X9_332 ⟨by decide, by decide⟩ dX9_nightsToListen_76 rfl (Nat.le_of_ble_eq_true rfl) (fun v9 x9 h9 => ?_)
        obtain ⟨rfl, h9⟩ := h9
        refine PW.xeq h9 ?_
        clear h9 x9
        refine PW.topi (imin_N (by omega) (by have := Nat.div_le_self (8 * d - l) (k / 60); omega)) ?_
        refine r_goto (tgt := 83) dX9_nightsToListen_79 (by decide) ?_
        refine r_iaddN dX9_nightsToListen_83 ?_
        refine r_istore dX9_nightsToListen_84 (by decide) ?_
        refine r_iincN dX9_nightsToListen_86 (by rfl) (by decide) ?_
        refine r_goto (tgt := 14) dX9_nightsToListen_89 (by decide) ?_
        have e : ntN (aE a) sv d l (s + 1) = ntN (aE a) sv d l s + min d ((8 * d - l) / (k / 60)) := by
          show (if _ then _ else _) = _
          rw [if_neg hb, ck, if_neg k0]
        exact PW.lc (by (try dsimp only); rw [e]; rfl) rfl (ih (s + 1) (by omega) (by omega))
    · refine r_goto (tgt := 86) dX9_nightsToListen_35 (by decide) ?_
      refine r_iincN dX9_nightsToListen_86 (by rfl) (by decide) ?_
      refine r_goto (tgt := 14) dX9_nightsToListen_89 (by decide) ?_
      have e : ntN (aE a) sv d l (s + 1) = ntN (aE a) sv d l s := by
        show (if _ then _ else _) = _
        rw [if_pos (by
          by_cases z : sv / 2 ^ s % 2 = 0
          · exact z
          · exact absurd h32 (nI_ne0 (by omega) (by omega)))]
      exact PW.lc (by (try dsimp only); rw [e]; rfl) rfl (ih (s + 1) (by omega) (by omega))
set_option maxHeartbeats 8000000 in
set_option maxRecDepth 20000 in
theorem f_inTurns {a : AS} {x : XS} {v d9 : Int32} (hC : RC x a) (hA : AI a) : ASK mX9_inTurns [.ref 0, .int v, .int d9] x a (oInTurns a v d9) := by
  refine MM.of (by decide) (Nat.le_of_ble_eq_true rfl) ?_
  have y0 := lay_0
  have y3 := lay_3
  have p5 := pow5 hC.1.2.1
  refine r_aload_n dX9_inTurns_0 rfl (by rfl) ?_
  refine r_iload_n dX9_inTurns_1 rfl (by rfl) ?_
  refine r_iconst (v := nI 0) dX9_inTurns_2 (by decide) ?_
  refine r_iconst (v := nI 1) dX9_inTurns_3 (by decide) ?_
  refine r_aload_n dX9_inTurns_4 rfl (by rfl) ?_
  refine gf_X9_19 rfl dX9_inTurns_5 (by first | assumption | rfl) (by rfl) ?_
  refine gf_X9_141 rfl dX9_inTurns_8 (by first | assumption | rfl) (by rfl) ?_
  refine PW.topi hC.1.1 ?_
  refine r_ishl dX9_inTurns_11 ?_
  refine PW.topi (shl_n hC.1.2.1) ?_
  refine r_iconst (v := nI 1) dX9_inTurns_12 (by decide) ?_
  refine r_isubN dX9_inTurns_13 (by omega) ?_
  refine r_callS c_X9_within ms_X9_within ml_X9_144 ⟨by decide, by decide⟩ dX9_inTurns_14 rfl (Nat.le_of_ble_eq_true rfl) (fun v9 x9 h9 => ?_)
  obtain ⟨rfl, h9⟩ := h9
  refine PW.xeq h9 ?_
  clear h9 x9
  refine r_if_eqB (tgt := 32) dX9_inTurns_17 (by decide) (fun h17 => ?_) (fun h17 => ?_)
  · refine r_iconst (v := nI 0) dX9_inTurns_32 (by decide) ?_
    refine PW.topi bI_f.symm ?_
    exact r_callVT c_require_f mv_X9_require ml_X9_148 ⟨by decide, by decide⟩ dX9_inTurns_33 lay_0 rfl rfl rfl (Nat.le_of_ble_eq_true rfl) ⟨by decide, by decide⟩ (fun E y h => by obtain ⟨rfl, e⟩ := h; exact ask_bad hC e (by rw [oInTurns, rq_f h17]))
  · obtain ⟨sv, _, hsv, rfl⟩ := inB_is (lo := 0) (hi := 2 ^ eN (aE a) - 1) h17 (by omega) (by omega)
    have hk32 : sv < 32 := by omega
    have pc5 := pcN_le sv
    refine r_iload_n dX9_inTurns_20 rfl (by rfl) ?_
    refine r_callS (c_bitCount hk32) ms_J6_bitCount_0f7a4 ml_X9_290 ⟨by decide, by decide⟩ dX9_inTurns_21 rfl (Nat.le_of_ble_eq_true rfl) (fun v9 x9 h9 => ?_)
    obtain ⟨rfl, h9⟩ := h9
    refine PW.xeq h9 ?_
    clear h9 x9
    refine r_iconst (v := nI 2) dX9_inTurns_24 (by decide) ?_
    refine r_icmp_ltN (tgt := 32) dX9_inTurns_25 (by decide) (by omega) (by omega) (fun h25 => ?_) (fun h25 => ?_)
    · refine r_iconst (v := nI 0) dX9_inTurns_32 (by decide) ?_
      refine PW.topi bI_f.symm ?_
      exact r_callVT c_require_f mv_X9_require ml_X9_148 ⟨by decide, by decide⟩ dX9_inTurns_33 lay_0 rfl rfl rfl (Nat.le_of_ble_eq_true rfl) ⟨by decide, by decide⟩ (fun E y h => by obtain ⟨rfl, e⟩ := h; exact ask_bad hC e (by rw [oInTurns, rq_t h17, rqP_f hk32 h25]))
    · refine r_iconst (v := nI 1) dX9_inTurns_28 (by decide) ?_
      refine r_goto (tgt := 33) dX9_inTurns_29 (by decide) ?_
      refine PW.topi bI_t.symm ?_
      refine r_callV c_require_t mv_X9_require ml_X9_148 ⟨by decide, by decide⟩ dX9_inTurns_33 lay_0 rfl rfl rfl (Nat.le_of_ble_eq_true rfl) (fun v9 x9 h9 => ?_)
      obtain ⟨rfl, h9⟩ := h9
      refine PW.xeq h9 ?_
      clear h9 x9
      refine r_aload_n dX9_inTurns_36 rfl (by rfl) ?_
      refine r_iload_n dX9_inTurns_37 rfl (by rfl) ?_
      refine r_iconst (v := nI 0) dX9_inTurns_38 (by decide) ?_
      refine r_bipush (v := nI 12) dX9_inTurns_39 (by decide) ?_
      refine r_callS c_X9_within ms_X9_within ml_X9_144 ⟨by decide, by decide⟩ dX9_inTurns_41 rfl (Nat.le_of_ble_eq_true rfl) (fun v9 x9 h9 => ?_)
      obtain ⟨rfl, h9⟩ := h9
      refine PW.xeq h9 ?_
      clear h9 x9
      refine PW.caseB (fun q44 => ?_) (fun q44 => ?_)
      · refine r_callV c_require_t mv_X9_require ml_X9_148 ⟨by decide, by decide⟩ dX9_inTurns_44 lay_0 rfl rfl rfl (Nat.le_of_ble_eq_true rfl) (fun v9 x9 h9 => ?_)
        obtain ⟨rfl, h9⟩ := h9
        refine PW.xeq h9 ?_
        clear h9 x9
        obtain ⟨d, _, hd, rfl⟩ := inB_is (lo := 0) (hi := 12) q44 (by decide) (by decide)
        refine r_bipush (v := nI 8) dX9_inTurns_47 (by decide) ?_
        refine r_iload_n dX9_inTurns_49 rfl (by rfl) ?_
        refine r_imulN dX9_inTurns_50 ?_
        refine r_istore_n dX9_inTurns_51 rfl (by decide) ?_
        refine PW.loop (σ := Nat) (fun s => s) (fun s => s ≤ 8 * d ∧ tnF (aE a) sv d s = tnF (aE a) sv d (8 * d)) (fun s => [(0, .ref 0), (1, .int (nI sv)), (2, .int (nI d)), (3, .int (nI s))]) (fun _ => x) (8 * d) (⟨Nat.le_refl _, rfl⟩) rfl rfl (fun s hs ih => ?_)
        obtain ⟨hs1, hR⟩ := hs
        refine r_iload_n dX9_inTurns_52 rfl (by rfl) ?_
        refine r_if_le (tgt := 75) dX9_inTurns_53 (by decide) (fun h53 => ?_) (fun h53 => ?_)
        · have s0 : s = 0 := by
            have := (nI_leI (by omega) (by decide)).mp (show nI s ≤ nI 0 from h53)
            omega
          refine r_iconst (v := nI 0) dX9_inTurns_75 (by decide) ?_
          refine r_iretW rfl dX9_inTurns_76 ?_
          refine ask_ok hC TF.rfl ?_
          rw [oInTurns, rq_t h17, rqP_t hk32 h25, rq_t q44, nN_nI (by omega), nN_nI (by omega), ← hR, show s = 0 by omega, tnF]
        · have s0 : ¬ s = 0 := fun e => h53 (by rw [e]; exact Int32.le_refl _)
          have nl := ntN_le (E := aE a) (sv := sv) (d := d) (L := s) (eN (aE a))
          have nl2 : d * eN (aE a) ≤ 12 * 5 := Nat.mul_le_mul (by omega) hC.1.2.1
          refine r_aload_n dX9_inTurns_56 rfl (by rfl) ?_
          refine r_iload_n dX9_inTurns_57 rfl (by rfl) ?_
          refine r_iload_n dX9_inTurns_58 rfl (by rfl) ?_
          refine r_iload_n dX9_inTurns_59 rfl (by rfl) ?_
          refine r_callV (c_turns hC hA hk32 (by omega) (by omega)) mv_X9_nightsToListen ml_X9_295 ⟨by decide, by decide⟩ dX9_inTurns_60 (by first | assumption | rfl) rfl rfl rfl (Nat.le_of_ble_eq_true rfl) (fun v9 x9 h9 => ?_)
          obtain ⟨rfl, h9⟩ := h9
          refine PW.xeq h9 ?_
          clear h9 x9
          refine r_iload_n dX9_inTurns_63 rfl (by rfl) ?_
          refine r_icmp_ltN (tgt := 69) dX9_inTurns_64 (by decide) (by omega) (by omega) (fun h64 => ?_) (fun h64 => ?_)
          · refine r_iinc dX9_inTurns_69 (by rfl) (nI_dec (by omega)) (by decide) ?_
            refine r_goto (tgt := 52) dX9_inTurns_72 (by decide) ?_
            have hn5 : s = (s - 1) + 1 := by omega
            exact PW.lc (by rfl) rfl (ih (s - 1) ⟨by omega, (by rw [← hR, hn5, tnF, if_pos (by rw [show s - 1 + 1 = s by omega]; omega)]; rfl)⟩ (by omega))
          · refine r_iload_n dX9_inTurns_67 rfl (by rfl) ?_
            refine r_iretW rfl dX9_inTurns_68 ?_
            refine ask_ok hC TF.rfl ?_
            rw [oInTurns, rq_t h17, rqP_t hk32 h25, rq_t q44, nN_nI (by omega), nN_nI (by omega), ← hR, show s = (s - 1) + 1 by omega, tnF, if_neg (by rw [show s - 1 + 1 = s by omega]; omega)]
      · exact r_callVT c_require_f mv_X9_require ml_X9_148 ⟨by decide, by decide⟩ dX9_inTurns_44 lay_0 rfl rfl rfl (Nat.le_of_ble_eq_true rfl) ⟨by decide, by decide⟩ (fun E y h => by obtain ⟨rfl, e⟩ := h; exact ask_bad hC e (by rw [oInTurns, rq_t h17, rqP_t hk32 h25, rq_f q44]))
