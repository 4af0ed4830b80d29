/-! THE FACE: nudges, rooms, walls, plugs, cars, hurrying -/
def carOK (q l n : Int32) : Bool := inB q (nI 0) (nI 16) && (inB l (nI 0) (nI 40) && inB n (nI 1) (nI 240))
theorem carOK_n {q l n : Int32} (h : carOK q l n = true) : inB n (nI 1) (nI 240) = true := by
  unfold carOK at h
  simp only [Bool.and_eq_true] at h
  exact h.2.2
def nudS (E : NE) (f : Nat → Int32) (p q m : Nat) (sv : Nat) : Int32 := sumR (nuP E (eW E) rd0 p q (nI sv) f m) 25 (eN E) - sumR f 25 (eN E)
def oNudges (a : AS) (v w n k : Int32) : Except Nat Int32 := rqS (eN (aE a)) v (rqS (eN (aE a)) w (rq (!decide (v = w)) (rq (inB n (nI 0) (nI 120)) (rq (inB k (nI 0) (nI 1)) (.ok (
  let r := amx (nudS (aE a) (aR a) (nN v) (nN w) (nN n)) (-1) (nI 0) 64
  if k = nI 0 then r.1 else r.2))))))
def rooS (E : NE) (f : Nat → Int32) (m : Nat) (sv : Nat) : Option Int32 := if (setl f (nI sv) (eN E)).1 then some (sltP E rd0 (setl f (nI sv) (eN E)).2 m) else none
def oRooms (a : AS) (n k : Int32) : Except Nat Int32 := rq (inB n (nI 0) (nI 120)) (rq (inB k (nI 0) (nI 1)) (.ok (
  let r := amo (rooS (aE a) (aR a) (nN n)) (2 ^ eN (aE a))
  if k = nI 0 then r.1 else r.2)))
def walS (E : NE) (f : Nat → Int32) (m w : Nat) : Int32 := sumR (itP E (nI w) rd0 f m) 25 (eN E) - sumR f 25 (eN E)
def oWall (a : AS) (n : Int32) : Except Nat Int32 := rq (inB n (nI 0) (nI 240)) (.ok (amx (walS (aE a) (aR a) (nN n)) (-1) (nI 0) 41).2)
def pluS (E : NE) (f : Nat → Int32) (p : Nat) (m : Int32) (n k : Nat) : Bool := !decide (oneS E rd0 (upd f (35 + p) (nI k)) p n < m)
def oPlugs (a : AS) (v m n : Int32) : Except Nat Int32 := rqS (eN (aE a)) v (rq (inB m (nI 0) (nI 240)) (rq (inB n (nI 0) (nI 240)) (.ok (soonF (pluS (aE a) (aR a) (nN v) m (nN n)) 21 0))))
def oNights (a : AS) (sd q l n k : Int32) : Except Nat Int32 := rq (carOK q l n) (rq (inB k (nI 0) (nI 3)) (.ok (
  let r := pcP (aE a) (eW (aE a)) rd0 sd q l (aR a) (nN n)
  if k = nI 0 then sumR r 25 (eN (aE a)) - sumR (aR a) 25 (eN (aE a)) else if k = nI 1 then r 41 - aR a 41 else if k = nI 2 then nI (carN sd q (nN n)) else nI (cntA r (eN (aE a))))))
def spaF (E : NE) (f : Nat → Int32) (sd q l : Int32) (n : Nat) : Nat → Int32 × Int32 × Int32
  | 0 => (nI 1200, nI 0, nI 0)
  | i + 1 =>
    let r := pcP E (eW E) rd0 (sd + nI i) q l f n
    let v := sumR r 25 (eN E) - sumR f 25 (eN E)
    let s := spaF E f sd q l n i
    (imin s.1 v, imax s.2.1 v, if r 41 = f 41 then s.2.2 + nI 1 else s.2.2)
def oSpan (a : AS) (sd mn q l n k : Int32) : Except Nat Int32 := rq (inB mn (nI 1) (nI 20)) (rq (inB k (nI 0) (nI 2)) (rq (carOK q l n) (.ok (
  let r := spaF (aE a) (aR a) sd q l (nN n) (nN mn)
  if k = nI 0 then r.1 else if k = nI 1 then r.2.1 else r.2.2))))
theorem nudgeR_slept {f : Nat → Int32} {p q j : Nat} (hq : q < 5) (h1 : 25 ≤ j) (h2 : j < 30) : nudgeR f p q j = f j := by
  unfold nudgeR wakeR
  split
  · split
    · rw [pk_un (by omega), pk_un (by omega), pk_un (by omega)]
    · dsimp only
      rw [pk_un (by omega), pk_un (by omega), pk_un (by omega), pk_un (by omega)]
  · rfl
theorem sumR_congr {f g : Nat → Int32} {b : Nat} : ∀ n, (∀ j, j < n → f (b + j) = g (b + j)) → sumR f b n = sumR g b n
  | 0, _ => rfl
  | n + 1, h => by
    show sumR f b n + f (b + n) = sumR g b n + g (b + n)
    rw [sumR_congr n (fun j hj => h j (by omega)), h n (by omega)]
theorem nuP_40 {E : NE} {w : Int32} {rd f : Nat → Int32} {p q t : Nat} {sv : Int32} (hn : eN E ≤ 5) (hq : q < 5) (ht : f 40 = nI t) (h2 : t ≤ 240) : ∀ i, nuP E w rd p q sv f i 40 = nI (min (t + i) 240)
  | 0 => by rw [show min (t + 0) 240 = t by omega]; exact ht
  | i + 1 => by
    have ih := nuP_40 (w := w) (rd := rd) (p := p) (sv := sv) hn hq ht h2 i
    have e : nuyP p q i sv (nuP E w rd p q sv f i) 40 = nI (min (t + i) 240) := by
      unfold nuyP
      split
      · split
        · rw [nudgeR_40 hq]; exact ih
        · exact ih
      · exact ih
    show minP E w rd (nI 0) (nuyP p q i sv (nuP E w rd p q sv f i)) 40 = _
    rw [minP_40 hn e (by omega)]
    congr 1
    split <;> omega
/-- behind the last minute nudging is for nothing -/
theorem nuP_sum {E : NE} {w : Int32} {rd f : Nat → Int32} {p q t : Nat} {sv : Int32} (hn : eN E ≤ 5) (hq : q < 5) (ht : f 40 = nI t) (h2 : t ≤ 240) : ∀ j, sumR (nuP E w rd p q sv f (240 - t + j)) 25 (eN E) = sumR (nuP E w rd p q sv f (240 - t)) 25 (eN E)
  | 0 => rfl
  | j + 1 => by
    have ih := nuP_sum (w := w) (rd := rd) (p := p) (sv := sv) hn hq ht h2 j
    have h40 := nuP_40 (w := w) (rd := rd) (p := p) (sv := sv) hn hq ht h2 (240 - t + j)
    rw [← ih]
    have h0 : nuyP p q (240 - t + j) sv (nuP E w rd p q sv f (240 - t + j)) 40 = nI 240 := by
      unfold nuyP
      rw [show min (t + (240 - t + j)) 240 = 240 by omega] at h40
      split
      · split
        · rw [nudgeR_40 hq]; exact h40
        · exact h40
      · exact h40
    show sumR (minP E w rd (nI 0) (nuyP p q (240 - t + j) sv (nuP E w rd p q sv f (240 - t + j)))) 25 (eN E) = _
    unfold minP
    rw [if_neg (by rw [h0]; exact nI_nlt (by omega) (by omega))]
    refine sumR_congr _ (fun k hk => ?_)
    unfold nuyP
    split
    · split
      · exact nudgeR_slept hq (by omega) (by omega)
      · rfl
    · rfl
theorem nudS_cut {E : NE} {f : Nat → Int32} {p q t m : Nat} {sv : Nat} (hn : eN E ≤ 5) (hq : q < 5) (ht : f 40 = nI t) (h2 : t ≤ 240) : sumR (nuP E (eW E) rd0 p q (nI sv) f (if m ≤ 240 - t then m else 240 - t + 1)) 25 (eN E) - sumR f 25 (eN E) = nudS E f p q m sv := by
  unfold nudS
  by_cases h : m ≤ 240 - t
  · rw [if_pos h]
  · rw [if_neg h, nuP_sum hn hq ht h2 1]
    have e := nuP_sum (w := eW E) (rd := rd0) (p := p) (sv := nI sv) hn hq ht h2 (m - (240 - t))
    rw [show 240 - t + (m - (240 - t)) = m by omega] at e
    rw [e]
theorem shl_n {n : Nat} (h : n ≤ 5) : nI 1 <<< (nI n &&& 31) = nI (2 ^ n) := by
  rcases (show n = 0 ∨ n = 1 ∨ n = 2 ∨ n = 3 ∨ n = 4 ∨ n = 5 by omega) with rfl | rfl | rfl | rfl | rfl | rfl <;> decide +kernel
theorem pow5 {n : Nat} (h : n ≤ 5) : 2 ^ n ≤ 32 ∧ 1 ≤ 2 ^ n := by
  rcases (show n = 0 ∨ n = 1 ∨ n = 2 ∨ n = 3 ∨ n = 4 ∨ n = 5 by omega) with rfl | rfl | rfl | rfl | rfl | rfl <;> decide
set_option maxHeartbeats 8000000 in
set_option maxRecDepth 20000 in
theorem c_rc_t {q l n : Int32} {x : XS} (h : carOK q l n = true) : MM mX9_requireCars 1 0 0 [.ref 0, .int q, .int l, .int n] x (fun v y => v = none ∧ y = x) NoT := by
  refine MM.of (by decide) (Nat.le_of_ble_eq_true rfl) ?_
  have y0 := lay_0
  unfold carOK at h
  simp only [Bool.and_eq_true] at h
  refine r_aload_n dX9_requireCars_0 rfl (by rfl) ?_
  refine r_iload_n dX9_requireCars_1 rfl (by rfl) ?_
  refine r_iconst (v := nI 0) dX9_requireCars_2 (by decide) ?_
  refine r_bipush (v := nI 16) dX9_requireCars_3 (by decide) ?_
  refine r_callS (c_within_t h.1) ms_X9_within ml_X9_144 ⟨by decide, by decide⟩ dX9_requireCars_5 rfl (Nat.le_of_ble_eq_true rfl) (fun v9 x9 h9 => ?_)
  obtain ⟨rfl, h9⟩ := h9
  refine PW.xeq h9 ?_
  clear h9 x9
  refine r_if_eqB (tgt := 36) dX9_requireCars_8 (by decide) (fun h => by cases h) (fun _ => ?_)
  refine r_iload_n dX9_requireCars_11 rfl (by rfl) ?_
  refine r_iconst (v := nI 0) dX9_requireCars_12 (by decide) ?_
  refine r_bipush (v := nI 40) dX9_requireCars_13 (by decide) ?_
  refine r_callS (c_within_t h.2.1) ms_X9_within ml_X9_144 ⟨by decide, by decide⟩ dX9_requireCars_15 rfl (Nat.le_of_ble_eq_true rfl) (fun v9 x9 h9 => ?_)
  obtain ⟨rfl, h9⟩ := h9
  refine PW.xeq h9 ?_
  clear h9 x9
  refine r_if_eqB (tgt := 36) dX9_requireCars_18 (by decide) (fun h => by cases h) (fun _ => ?_)
  refine r_iload_n dX9_requireCars_21 rfl (by rfl) ?_
  refine r_iconst (v := nI 1) dX9_requireCars_22 (by decide) ?_
  refine r_sipush (v := nI 240) dX9_requireCars_23 (by decide) ?_
  refine r_callS (c_within_t h.2.2) ms_X9_within ml_X9_144 ⟨by decide, by decide⟩ dX9_requireCars_26 rfl (Nat.le_of_ble_eq_true rfl) (fun v9 x9 h9 => ?_)
  obtain ⟨rfl, h9⟩ := h9
  refine PW.xeq h9 ?_
  clear h9 x9
  refine r_if_eqB (tgt := 36) dX9_requireCars_29 (by decide) (fun h => by cases h) (fun _ => ?_)
  refine r_iconst (v := nI 1) dX9_requireCars_32 (by decide) ?_
  refine r_goto (tgt := 37) dX9_requireCars_33 (by decide) ?_
  refine PW.topi bI_t.symm ?_
  refine r_callV c_require_t mv_X9_require ml_X9_148 ⟨by decide, by decide⟩ dX9_requireCars_37 (by first | assumption | rfl) rfl rfl rfl (Nat.le_of_ble_eq_true rfl) (fun v9 x9 h9 => ?_)
  obtain ⟨rfl, h9⟩ := h9
  refine PW.xeq h9 ?_
  clear h9 x9
  refine r_ret rfl dX9_requireCars_40 ?_
  exact ⟨rfl, rfl⟩
set_option maxHeartbeats 8000000 in
set_option maxRecDepth 20000 in
theorem c_rc_f {q l n : Int32} {x : XS} (h : carOK q l n = false) : MM mX9_requireCars 7 1 6 [.ref 0, .int q, .int l, .int n] x (fun _ _ => False) (fun E x1 => E = thI ∧ x1 = badX x) := by
  refine MM.of (by decide) (Nat.le_of_ble_eq_true rfl) ?_
  have y0 := lay_0
  refine r_aload_n dX9_requireCars_0 rfl (by rfl) ?_
  refine r_iload_n dX9_requireCars_1 rfl (by rfl) ?_
  refine r_iconst (v := nI 0) dX9_requireCars_2 (by decide) ?_
  refine r_bipush (v := nI 16) dX9_requireCars_3 (by decide) ?_
  refine r_callS c_X9_within ms_X9_within ml_X9_144 ⟨by decide, by decide⟩ dX9_requireCars_5 rfl (Nat.le_of_ble_eq_true rfl) (fun v9 x9 h9 => ?_)
  obtain ⟨rfl, h9⟩ := h9
  refine PW.xeq h9 ?_
  clear h9 x9
  refine r_if_eqB (tgt := 36) dX9_requireCars_8 (by decide) (fun h8 => ?_) (fun h8 => ?_)
  · refine r_iconst (v := nI 0) dX9_requireCars_36 (by decide) ?_
    first
      | (exfalso; unfold carOK at h; rw [h8, h18, h29] at h; exact absurd h (by decide))
      | (refine PW.topi bI_f.symm ?_
         exact r_callVT c_require_f mv_X9_require ml_X9_148 ⟨by decide, by decide⟩ dX9_requireCars_37 lay_0 rfl rfl rfl (Nat.le_of_ble_eq_true rfl) ⟨by decide, by decide⟩ (fun E y h => h))
  · refine r_iload_n dX9_requireCars_11 rfl (by rfl) ?_
    refine r_iconst (v := nI 0) dX9_requireCars_12 (by decide) ?_
    refine r_bipush (v := nI 40) dX9_requireCars_13 (by decide) ?_
    refine r_callS c_X9_within ms_X9_within ml_X9_144 ⟨by decide, by decide⟩ dX9_requireCars_15 rfl (Nat.le_of_ble_eq_true rfl) (fun v9 x9 h9 => ?_)
    obtain ⟨rfl, h9⟩ := h9
    refine PW.xeq h9 ?_
    clear h9 x9
    refine r_if_eqB (tgt := 36) dX9_requireCars_18 (by decide) (fun h18 => ?_) (fun h18 => ?_)
    · refine r_iconst (v := nI 0) dX9_requireCars_36 (by decide) ?_
      first
        | (exfalso; unfold carOK at h; rw [h8, h18, h29] at h; exact absurd h (by decide))
        | (refine PW.topi bI_f.symm ?_
           exact r_callVT c_require_f mv_X9_require ml_X9_148 ⟨by decide, by decide⟩ dX9_requireCars_37 lay_0 rfl rfl rfl (Nat.le_of_ble_eq_true rfl) ⟨by decide, by decide⟩ (fun E y h => h))
    · refine r_iload_n dX9_requireCars_21 rfl (by rfl) ?_
      refine r_iconst (v := nI 1) dX9_requireCars_22 (by decide) ?_
      refine r_sipush (v := nI 240) dX9_requireCars_23 (by decide) ?_
      refine r_callS c_X9_within ms_X9_within ml_X9_144 ⟨by decide, by decide⟩ dX9_requireCars_26 rfl (Nat.le_of_ble_eq_true rfl) (fun v9 x9 h9 => ?_)
      obtain ⟨rfl, h9⟩ := h9
      refine PW.xeq h9 ?_
      clear h9 x9
      refine r_if_eqB (tgt := 36) dX9_requireCars_29 (by decide) (fun h29 => ?_) (fun h29 => ?_)
      · refine r_iconst (v := nI 0) dX9_requireCars_36 (by decide) ?_
        first
          | (exfalso; unfold carOK at h; rw [h8, h18, h29] at h; exact absurd h (by decide))
          | (refine PW.topi bI_f.symm ?_
             exact r_callVT c_require_f mv_X9_require ml_X9_148 ⟨by decide, by decide⟩ dX9_requireCars_37 lay_0 rfl rfl rfl (Nat.le_of_ble_eq_true rfl) ⟨by decide, by decide⟩ (fun E y h => h))
      · refine r_iconst (v := nI 1) dX9_requireCars_32 (by decide) ?_
        refine r_goto (tgt := 37) dX9_requireCars_33 (by decide) ?_
        first
          | (exfalso; unfold carOK at h; rw [h8, h18, h29] at h; exact absurd h (by decide))
          | (refine PW.topi bI_f.symm ?_
             exact r_callVT c_require_f mv_X9_require ml_X9_148 ⟨by decide, by decide⟩ dX9_requireCars_37 lay_0 rfl rfl rfl (Nat.le_of_ble_eq_true rfl) ⟨by decide, by decide⟩ (fun E y h => h))
set_option maxHeartbeats 8000000 in
set_option maxRecDepth 20000 in
theorem f_nudges {a : AS} {x : XS} {v w n u : Int32} (hC : RC x a) (hA : AI a) : ASK mX9_nudges [.ref 0, .int v, .int w, .int n, .int u] x a (oNudges a v w n u) := by
  refine MM.of (by decide) (Nat.le_of_ble_eq_true rfl) ?_
  have y0 := lay_0
  have y49 := lay_49
  obtain ⟨t, ht2, ht⟩ := hA.t
  refine r_aload_n dX9_nudges_0 rfl (by rfl) ?_
  refine r_iload_n dX9_nudges_1 rfl (by rfl) ?_
  by_cases q2 : nobody v (eN (aE a)) = true
  · exact r_callVT (c_rS_f hC.1.1 q2) mv_X9_requireSleeper ml_X9_200 ⟨by decide, by decide⟩ dX9_nudges_2 lay_0 rfl rfl rfl (Nat.le_of_ble_eq_true rfl) ⟨by decide, by decide⟩ (fun E y h => by obtain ⟨rfl, e⟩ := h; exact ask_nob hC e (by rw [oNudges, rqS_t q2]))
  · have q2 := Bool.eq_false_iff.mpr q2
    obtain ⟨p, hp, rfl⟩ := nobody_f hC.1.2.1 q2
    have hp5 : p < 5 := Nat.lt_of_lt_of_le hp hC.1.2.1
    refine r_callV (c_rS_t hC.1.1 hC.1.2.1 hp) mv_X9_requireSleeper ml_X9_200 ⟨by decide, by decide⟩ dX9_nudges_2 lay_0 rfl rfl rfl (Nat.le_of_ble_eq_true rfl) (fun v9 x9 h9 => ?_)
    obtain ⟨rfl, h9⟩ := h9
    refine PW.xeq h9 ?_
    clear h9 x9
    refine r_aload_n dX9_nudges_5 rfl (by rfl) ?_
    refine r_iload_n dX9_nudges_6 rfl (by rfl) ?_
    by_cases q7 : nobody w (eN (aE a)) = true
    · exact r_callVT (c_rS_f hC.1.1 q7) mv_X9_requireSleeper ml_X9_200 ⟨by decide, by decide⟩ dX9_nudges_7 lay_0 rfl rfl rfl (Nat.le_of_ble_eq_true rfl) ⟨by decide, by decide⟩ (fun E y h => by obtain ⟨rfl, e⟩ := h; exact ask_nob hC e (by rw [oNudges, rqS_f q2, rqS_t q7]))
    · have q7 := Bool.eq_false_iff.mpr q7
      obtain ⟨q, hq, rfl⟩ := nobody_f hC.1.2.1 q7
      have hq5 : q < 5 := Nat.lt_of_lt_of_le hq hC.1.2.1
      refine r_callV (c_rS_t hC.1.1 hC.1.2.1 hq) mv_X9_requireSleeper ml_X9_200 ⟨by decide, by decide⟩ dX9_nudges_7 lay_0 rfl rfl rfl (Nat.le_of_ble_eq_true rfl) (fun v9 x9 h9 => ?_)
      obtain ⟨rfl, h9⟩ := h9
      refine PW.xeq h9 ?_
      clear h9 x9
      refine r_aload_n dX9_nudges_10 rfl (by rfl) ?_
      refine r_iload_n dX9_nudges_11 rfl (by rfl) ?_
      refine r_iload_n dX9_nudges_12 rfl (by rfl) ?_
      refine r_icmp_eqN (tgt := 40) dX9_nudges_13 (by decide) (by omega) (by omega) (fun h13 => ?_) (fun h13 => ?_)
      · refine r_iconst (v := nI 0) dX9_nudges_40 (by decide) ?_
        refine PW.topi bI_f.symm ?_
        exact r_callVT c_require_f mv_X9_require ml_X9_148 ⟨by decide, by decide⟩ dX9_nudges_41 lay_0 rfl rfl rfl (Nat.le_of_ble_eq_true rfl) ⟨by decide, by decide⟩ (fun E y h => by obtain ⟨rfl, e⟩ := h; exact ask_bad hC e (by rw [oNudges, rqS_f q2, rqS_f q7, rqN_f h13]))
      · refine r_iload_n dX9_nudges_16 rfl (by rfl) ?_
        refine r_iconst (v := nI 0) dX9_nudges_17 (by decide) ?_
        refine r_bipush (v := nI 120) dX9_nudges_18 (by decide) ?_
        refine r_callS c_X9_within ms_X9_within ml_X9_144 ⟨by decide, by decide⟩ dX9_nudges_20 rfl (Nat.le_of_ble_eq_true rfl) (fun v9 x9 h9 => ?_)
        obtain ⟨rfl, h9⟩ := h9
        refine PW.xeq h9 ?_
        clear h9 x9
        refine r_if_eqB (tgt := 40) dX9_nudges_23 (by decide) (fun h23 => ?_) (fun h23 => ?_)
        · refine r_iconst (v := nI 0) dX9_nudges_40 (by decide) ?_
          refine PW.topi bI_f.symm ?_
          exact r_callVT c_require_f mv_X9_require ml_X9_148 ⟨by decide, by decide⟩ dX9_nudges_41 lay_0 rfl rfl rfl (Nat.le_of_ble_eq_true rfl) ⟨by decide, by decide⟩ (fun E y h => by obtain ⟨rfl, e⟩ := h; exact ask_bad hC e (by rw [oNudges, rqS_f q2, rqS_f q7, rqN_t hp5 hq5 h13, rq_f h23]))
        · refine r_iload dX9_nudges_26 (by rfl) ?_
          refine r_iconst (v := nI 0) dX9_nudges_28 (by decide) ?_
          refine r_iconst (v := nI 1) dX9_nudges_29 (by decide) ?_
          refine r_callS c_X9_within ms_X9_within ml_X9_144 ⟨by decide, by decide⟩ dX9_nudges_30 rfl (Nat.le_of_ble_eq_true rfl) (fun v9 x9 h9 => ?_)
          obtain ⟨rfl, h9⟩ := h9
          refine PW.xeq h9 ?_
          clear h9 x9
          refine r_if_eqB (tgt := 40) dX9_nudges_33 (by decide) (fun h33 => ?_) (fun h33 => ?_)
          · refine r_iconst (v := nI 0) dX9_nudges_40 (by decide) ?_
            refine PW.topi bI_f.symm ?_
            exact r_callVT c_require_f mv_X9_require ml_X9_148 ⟨by decide, by decide⟩ dX9_nudges_41 lay_0 rfl rfl rfl (Nat.le_of_ble_eq_true rfl) ⟨by decide, by decide⟩ (fun E y h => by obtain ⟨rfl, e⟩ := h; exact ask_bad hC e (by rw [oNudges, rqS_f q2, rqS_f q7, rqN_t hp5 hq5 h13, rq_t h23, rq_f h33]))
          · refine r_iconst (v := nI 1) dX9_nudges_36 (by decide) ?_
            refine r_goto (tgt := 41) dX9_nudges_37 (by decide) ?_
            refine PW.topi bI_t.symm ?_
            refine r_callV c_require_t mv_X9_require ml_X9_148 ⟨by decide, by decide⟩ dX9_nudges_41 lay_0 rfl rfl rfl (Nat.le_of_ble_eq_true rfl) (fun v9 x9 h9 => ?_)
            obtain ⟨rfl, h9⟩ := h9
            refine PW.xeq h9 ?_
            clear h9 x9
            obtain ⟨m, _, hm, rfl⟩ := inB_is (lo := 0) (hi := 120) h23 (by decide) (by decide)
            obtain ⟨k, _, hk, rfl⟩ := inB_is (lo := 0) (hi := 1) h33 (by decide) (by decide)
            refine r_iconst (v := nI 0) dX9_nudges_44 (by decide) ?_
            refine r_istore dX9_nudges_45 (by decide) ?_
            refine r_iconst (v := -1) dX9_nudges_47 (by decide) ?_
            refine r_istore dX9_nudges_48 (by decide) ?_
            refine r_iconst (v := nI 0) dX9_nudges_50 (by decide) ?_
            refine r_istore dX9_nudges_51 (by decide) ?_
            refine PW.loop (σ := Nat × XS) (fun s => 64 - s.1) (fun s => s.1 ≤ 64 ∧ TF x s.2) (fun s => [(0, .ref 0), (1, .int (nI p)), (2, .int (nI q)), (3, .int (nI m)), (4, .int (nI k)), (5, .int (amx (nudS (aE a) (aR a) p q m) (-1) (nI 0) s.1).2), (6, .int (amx (nudS (aE a) (aR a) p q m) (-1) (nI 0) s.1).1), (7, .int (nI s.1))]) (fun s => s.2) ((0, x)) (⟨Nat.zero_le _, TF.rfl⟩) rfl rfl (fun s hs ih => ?_)
            obtain ⟨hs1, hF⟩ := hs
            refine r_iload dX9_nudges_53 (by rfl) ?_
            refine r_bipush (v := nI 64) dX9_nudges_55 (by decide) ?_
            refine r_icmp_geN (tgt := 95) dX9_nudges_57 (by decide) (by omega) (by omega) (fun h57 => ?_) (fun h57 => ?_)
            · refine r_iload dX9_nudges_95 (by rfl) ?_
              refine r_if_ne (tgt := 105) dX9_nudges_97 (by decide) (fun h97 => ?_) (fun h97 => ?_)
              · refine r_iload dX9_nudges_105 (by rfl) ?_
                refine r_iretW rfl dX9_nudges_107 ?_
                refine ask_ok hC hF ?_
                rw [oNudges, rqS_f q2, rqS_f q7, rqN_t hp5 hq5 h13, rq_t h23, rq_t h33, nN_nI (by omega), nN_nI (by omega), nN_nI (by omega), show 64 = s.1 by omega]
                dsimp only
                first
                  | (have hk0 : k = 0 := by
                       by_cases e : k = 0
                       · exact e
                       · exact absurd h97 (nI_ne0 (by omega) (by omega))
                     subst hk0
                     rfl)
                  | (rw [if_neg (show ¬ nI k = nI 0 from h97)])
              · refine r_iload dX9_nudges_100 (by rfl) ?_
                refine r_goto (tgt := 107) dX9_nudges_102 (by decide) ?_
                refine r_iretW rfl dX9_nudges_107 ?_
                refine ask_ok hC hF ?_
                rw [oNudges, rqS_f q2, rqS_f q7, rqN_t hp5 hq5 h13, rq_t h23, rq_t h33, nN_nI (by omega), nN_nI (by omega), nN_nI (by omega), show 64 = s.1 by omega]
                dsimp only
                first
                  | (have hk0 : k = 0 := by
                       by_cases e : k = 0
                       · exact e
                       · exact absurd h97 (nI_ne0 (by omega) (by omega))
                     subst hk0
                     rfl)
                  | (rw [if_neg (show ¬ nI k = nI 0 from h97)])
            · refine r_aload_n dX9_nudges_60 rfl (by rfl) ?_
              refine r_callV (c_asked (hC.tf hF)) mv_X9_asked ml_X9_218 ⟨by decide, by decide⟩ dX9_nudges_61 (by first | assumption | rfl) rfl rfl rfl (Nat.le_of_ble_eq_true rfl) (fun v9 y h9 => ?_)
              obtain ⟨rfl, T0, F0, c0⟩ := h9
              refine r_iload_n dX9_nudges_64 rfl (by rfl) ?_
              refine r_iload_n dX9_nudges_65 rfl (by rfl) ?_
              refine r_iload dX9_nudges_66 (by rfl) ?_
              refine r_iload_n dX9_nudges_68 rfl (by rfl) ?_
              refine r_callV (t_nudges T0 ht ht2 (by omega) hp5 hq5) mv_X6_sleptWithNudges ml_X9_283 ⟨by decide, by decide⟩ dX9_nudges_69 (by first | assumption | rfl) rfl rfl rfl (Nat.le_of_ble_eq_true rfl) (fun v9 z h9 => ?_)
              rw [nudS_cut hC.1.2.1 hq5 ht ht2] at h9
              obtain ⟨rfl, F1⟩ := h9
              refine r_istore dX9_nudges_72 (by decide) ?_
              refine r_iload dX9_nudges_74 (by rfl) ?_
              refine r_iload dX9_nudges_76 (by rfl) ?_
              refine r_icmp_le (tgt := 89) dX9_nudges_78 (by decide) (fun h78 => ?_) (fun h78 => ?_)
              · refine r_iincN dX9_nudges_89 (by rfl) (by decide) ?_
                refine r_goto (tgt := 53) dX9_nudges_92 (by decide) ?_
                first
                  | (have e := amx_le (F := (nudS (aE a) (aR a) p q m)) h78
                     exact PW.lc (by (try dsimp only); rw [e]; rfl) rfl (ih (s.1 + 1, z) ⟨(show s.1 + 1 ≤ 64 by omega), hF.trans (F0.trans F1)⟩ (show 64 - (s.1 + 1) < 64 - s.1 by omega)))
                  | (have e := amx_gt (F := (nudS (aE a) (aR a) p q m)) h78
                     exact PW.lc (by (try dsimp only); rw [e]; rfl) rfl (ih (s.1 + 1, z) ⟨(show s.1 + 1 ≤ 64 by omega), hF.trans (F0.trans F1)⟩ (show 64 - (s.1 + 1) < 64 - s.1 by omega)))
              · refine r_iload dX9_nudges_81 (by rfl) ?_
                refine r_istore dX9_nudges_83 (by decide) ?_
                refine r_iload dX9_nudges_85 (by rfl) ?_
                refine r_istore dX9_nudges_87 (by decide) ?_
                refine r_iincN dX9_nudges_89 (by rfl) (by decide) ?_
                refine r_goto (tgt := 53) dX9_nudges_92 (by decide) ?_
                first
                  | (have e := amx_le (F := (nudS (aE a) (aR a) p q m)) h78
                     exact PW.lc (by (try dsimp only); rw [e]; rfl) rfl (ih (s.1 + 1, z) ⟨(show s.1 + 1 ≤ 64 by omega), hF.trans (F0.trans F1)⟩ (show 64 - (s.1 + 1) < 64 - s.1 by omega)))
                  | (have e := amx_gt (F := (nudS (aE a) (aR a) p q m)) h78
                     exact PW.lc (by (try dsimp only); rw [e]; rfl) rfl (ih (s.1 + 1, z) ⟨(show s.1 + 1 ≤ 64 by omega), hF.trans (F0.trans F1)⟩ (show 64 - (s.1 + 1) < 64 - s.1 by omega)))
set_option maxHeartbeats 8000000 in
set_option maxRecDepth 20000 in
theorem f_wall {a : AS} {x : XS} {n : Int32} (hC : RC x a) (hA : AI a) : ASK mX9_wall [.ref 0, .int n] x a (oWall a n) := by
  refine MM.of (by decide) (Nat.le_of_ble_eq_true rfl) ?_
  have y0 := lay_0
  have y49 := lay_49
  obtain ⟨t, ht2, ht⟩ := hA.t
  refine r_aload_n dX9_wall_0 rfl (by rfl) ?_
  refine r_iload_n dX9_wall_1 rfl (by rfl) ?_
  refine r_iconst (v := nI 0) dX9_wall_2 (by decide) ?_
  refine r_sipush (v := nI 240) dX9_wall_3 (by decide) ?_
  refine r_callS c_X9_within ms_X9_within ml_X9_144 ⟨by decide, by decide⟩ dX9_wall_6 rfl (Nat.le_of_ble_eq_true rfl) (fun v9 x9 h9 => ?_)
  obtain ⟨rfl, h9⟩ := h9
  refine PW.xeq h9 ?_
  clear h9 x9
  refine PW.caseB (fun q9 => ?_) (fun q9 => ?_)
  · refine r_callV c_require_t mv_X9_require ml_X9_148 ⟨by decide, by decide⟩ dX9_wall_9 lay_0 rfl rfl rfl (Nat.le_of_ble_eq_true rfl) (fun v9 x9 h9 => ?_)
    obtain ⟨rfl, h9⟩ := h9
    refine PW.xeq h9 ?_
    clear h9 x9
    obtain ⟨m, _, hm, rfl⟩ := inB_is (lo := 0) (hi := 240) q9 (by decide) (by decide)
    refine r_iconst (v := nI 0) dX9_wall_12 (by decide) ?_
    refine r_istore_n dX9_wall_13 rfl (by decide) ?_
    refine r_iconst (v := -1) dX9_wall_14 (by decide) ?_
    refine r_istore_n dX9_wall_15 rfl (by decide) ?_
    refine r_iconst (v := nI 0) dX9_wall_16 (by decide) ?_
    refine r_istore dX9_wall_17 (by decide) ?_
    refine PW.loop (σ := Nat × XS) (fun s => 41 - s.1) (fun s => s.1 ≤ 41 ∧ TF x s.2) (fun s => [(0, .ref 0), (1, .int (nI m)), (2, .int (amx (walS (aE a) (aR a) m) (-1) (nI 0) s.1).2), (3, .int (amx (walS (aE a) (aR a) m) (-1) (nI 0) s.1).1), (4, .int (nI s.1))]) (fun s => s.2) ((0, x)) (⟨Nat.zero_le _, TF.rfl⟩) rfl rfl (fun s hs ih => ?_)
    obtain ⟨hs1, hF⟩ := hs
    refine r_iload dX9_wall_19 (by rfl) ?_
    refine r_bipush (v := nI 40) dX9_wall_21 (by decide) ?_
    refine r_icmp_gtN (tgt := 65) dX9_wall_23 (by decide) (by omega) (by omega) (fun h23 => ?_) (fun h23 => ?_)
    · refine r_iload_n dX9_wall_65 rfl (by rfl) ?_
      refine r_iretW rfl dX9_wall_66 ?_
      refine ask_ok hC hF ?_
      rw [oWall, rq_t q9, nN_nI (by omega), show 41 = s.1 by omega]
    · refine r_aload_n dX9_wall_26 rfl (by rfl) ?_
      refine r_callV (c_asked (hC.tf hF)) mv_X9_asked ml_X9_218 ⟨by decide, by decide⟩ dX9_wall_27 (by first | assumption | rfl) rfl rfl rfl (Nat.le_of_ble_eq_true rfl) (fun v9 y h9 => ?_)
      obtain ⟨rfl, T0, F0, c0⟩ := h9
      refine r_astore dX9_wall_30 (by decide) ?_
      refine r_aload dX9_wall_32 (by rfl) ?_
      refine r_iload dX9_wall_34 (by rfl) ?_
      refine pf_X9_319 rfl dX9_wall_36 (by first | assumption | rfl) (by rfl) ?_
      have F1 : TF y (xu y 49 7 (nI s.1)) := fun c hc => by
        unfold TS at hc
        exact xu_n (by omega)
      have T1 : TN (xu y 49 7 (nI s.1)) (aE a) (nI s.1) rd0 (aR a) := ⟨T0.1.tf F1, rfl, T0.2.2.1, T0.2.2.2⟩
      refine r_aload dX9_wall_39 (by rfl) ?_
      refine r_iload_n dX9_wall_41 rfl (by rfl) ?_
      refine r_callV (t_sleptInNext T1 ht ht2 (by omega)) mv_X6_sleptInNext ml_X9_249 ⟨by decide, by decide⟩ dX9_wall_42 (by first | assumption | rfl) rfl rfl rfl (Nat.le_of_ble_eq_true rfl) (fun v9 z h9 => ?_)
      obtain ⟨rfl, T2, F2⟩ := h9
      refine r_istore dX9_wall_45 (by decide) ?_
      refine r_iload dX9_wall_47 (by rfl) ?_
      refine r_iload_n dX9_wall_49 rfl (by rfl) ?_
      refine r_icmp_le (tgt := 59) dX9_wall_50 (by decide) (fun h50 => ?_) (fun h50 => ?_)
      · refine r_iincN dX9_wall_59 (by rfl) (by decide) ?_
        refine r_goto (tgt := 19) dX9_wall_62 (by decide) ?_
        first
          | (have e := amx_le (F := (walS (aE a) (aR a) m)) h50
             exact PW.lc (by (try dsimp only); rw [e]; rfl) rfl (ih (s.1 + 1, z) ⟨(show s.1 + 1 ≤ 41 by omega), hF.trans (F0.trans (F1.trans F2))⟩ (show 41 - (s.1 + 1) < 41 - s.1 by omega)))
          | (have e := amx_gt (F := (walS (aE a) (aR a) m)) h50
             exact PW.lc (by (try dsimp only); rw [e]; rfl) rfl (ih (s.1 + 1, z) ⟨(show s.1 + 1 ≤ 41 by omega), hF.trans (F0.trans (F1.trans F2))⟩ (show 41 - (s.1 + 1) < 41 - s.1 by omega)))
      · refine r_iload dX9_wall_53 (by rfl) ?_
        refine r_istore_n dX9_wall_55 rfl (by decide) ?_
        refine r_iload dX9_wall_56 (by rfl) ?_
        refine r_istore_n dX9_wall_58 rfl (by decide) ?_
        refine r_iincN dX9_wall_59 (by rfl) (by decide) ?_
        refine r_goto (tgt := 19) dX9_wall_62 (by decide) ?_
        first
          | (have e := amx_le (F := (walS (aE a) (aR a) m)) h50
             exact PW.lc (by (try dsimp only); rw [e]; rfl) rfl (ih (s.1 + 1, z) ⟨(show s.1 + 1 ≤ 41 by omega), hF.trans (F0.trans (F1.trans F2))⟩ (show 41 - (s.1 + 1) < 41 - s.1 by omega)))
          | (have e := amx_gt (F := (walS (aE a) (aR a) m)) h50
             exact PW.lc (by (try dsimp only); rw [e]; rfl) rfl (ih (s.1 + 1, z) ⟨(show s.1 + 1 ≤ 41 by omega), hF.trans (F0.trans (F1.trans F2))⟩ (show 41 - (s.1 + 1) < 41 - s.1 by omega)))
  · exact r_callVT c_require_f mv_X9_require ml_X9_148 ⟨by decide, by decide⟩ dX9_wall_9 lay_0 rfl rfl rfl (Nat.le_of_ble_eq_true rfl) ⟨by decide, by decide⟩ (fun E y h => by obtain ⟨rfl, e⟩ := h; exact ask_bad hC e (by rw [oWall, rq_f q9]))
set_option maxHeartbeats 8000000 in
set_option maxRecDepth 20000 in
theorem f_plugs {a : AS} {x : XS} {v m9 n9 : Int32} (hC : RC x a) (hA : AI a) : ASK mX9_plugs [.ref 0, .int v, .int m9, .int n9] x a (oPlugs a v m9 n9) := by
  refine MM.of (by decide) (Nat.le_of_ble_eq_true rfl) ?_
  have y0 := lay_0
  have y49 := lay_49
  have y50 := lay_50
  obtain ⟨t, ht2, ht⟩ := hA.t
  refine r_aload_n dX9_plugs_0 rfl (by rfl) ?_
  refine r_iload_n dX9_plugs_1 rfl (by rfl) ?_
  by_cases q2 : nobody v (eN (aE a)) = true
  · exact r_callVT (c_rS_f hC.1.1 q2) mv_X9_requireSleeper ml_X9_200 ⟨by decide, by decide⟩ dX9_plugs_2 lay_0 rfl rfl rfl (Nat.le_of_ble_eq_true rfl) ⟨by decide, by decide⟩ (fun E y h => by obtain ⟨rfl, e⟩ := h; exact ask_nob hC e (by rw [oPlugs, rqS_t q2]))
  · have q2 := Bool.eq_false_iff.mpr q2
    obtain ⟨p, hp, rfl⟩ := nobody_f hC.1.2.1 q2
    have hp5 : p < 5 := Nat.lt_of_lt_of_le hp hC.1.2.1
    refine r_callV (c_rS_t hC.1.1 hC.1.2.1 hp) mv_X9_requireSleeper ml_X9_200 ⟨by decide, by decide⟩ dX9_plugs_2 lay_0 rfl rfl rfl (Nat.le_of_ble_eq_true rfl) (fun v9 x9 h9 => ?_)
    obtain ⟨rfl, h9⟩ := h9
    refine PW.xeq h9 ?_
    clear h9 x9
    refine r_aload_n dX9_plugs_5 rfl (by rfl) ?_
    refine r_iload_n dX9_plugs_6 rfl (by rfl) ?_
    refine r_iconst (v := nI 0) dX9_plugs_7 (by decide) ?_
    refine r_sipush (v := nI 240) dX9_plugs_8 (by decide) ?_
    refine r_callS c_X9_within ms_X9_within ml_X9_144 ⟨by decide, by decide⟩ dX9_plugs_11 rfl (Nat.le_of_ble_eq_true rfl) (fun v9 x9 h9 => ?_)
    obtain ⟨rfl, h9⟩ := h9
    refine PW.xeq h9 ?_
    clear h9 x9
    refine r_if_eqB (tgt := 32) dX9_plugs_14 (by decide) (fun h14 => ?_) (fun h14 => ?_)
    · refine r_iconst (v := nI 0) dX9_plugs_32 (by decide) ?_
      refine PW.topi bI_f.symm ?_
      exact r_callVT c_require_f mv_X9_require ml_X9_148 ⟨by decide, by decide⟩ dX9_plugs_33 lay_0 rfl rfl rfl (Nat.le_of_ble_eq_true rfl) ⟨by decide, by decide⟩ (fun E y h => by obtain ⟨rfl, e⟩ := h; exact ask_bad hC e (by rw [oPlugs, rqS_f q2, rq_f h14]))
    · refine r_iload_n dX9_plugs_17 rfl (by rfl) ?_
      refine r_iconst (v := nI 0) dX9_plugs_18 (by decide) ?_
      refine r_sipush (v := nI 240) dX9_plugs_19 (by decide) ?_
      refine r_callS c_X9_within ms_X9_within ml_X9_144 ⟨by decide, by decide⟩ dX9_plugs_22 rfl (Nat.le_of_ble_eq_true rfl) (fun v9 x9 h9 => ?_)
      obtain ⟨rfl, h9⟩ := h9
      refine PW.xeq h9 ?_
      clear h9 x9
      refine r_if_eqB (tgt := 32) dX9_plugs_25 (by decide) (fun h25 => ?_) (fun h25 => ?_)
      · refine r_iconst (v := nI 0) dX9_plugs_32 (by decide) ?_
        refine PW.topi bI_f.symm ?_
        exact r_callVT c_require_f mv_X9_require ml_X9_148 ⟨by decide, by decide⟩ dX9_plugs_33 lay_0 rfl rfl rfl (Nat.le_of_ble_eq_true rfl) ⟨by decide, by decide⟩ (fun E y h => by obtain ⟨rfl, e⟩ := h; exact ask_bad hC e (by rw [oPlugs, rqS_f q2, rq_t h14, rq_f h25]))
      · refine r_iconst (v := nI 1) dX9_plugs_28 (by decide) ?_
        refine r_goto (tgt := 33) dX9_plugs_29 (by decide) ?_
        refine PW.topi bI_t.symm ?_
        refine r_callV c_require_t mv_X9_require ml_X9_148 ⟨by decide, by decide⟩ dX9_plugs_33 lay_0 rfl rfl rfl (Nat.le_of_ble_eq_true rfl) (fun v9 x9 h9 => ?_)
        obtain ⟨rfl, h9⟩ := h9
        refine PW.xeq h9 ?_
        clear h9 x9
        obtain ⟨m, _, hm, rfl⟩ := inB_is (lo := 0) (hi := 240) h14 (by decide) (by decide)
        obtain ⟨n, _, hn, rfl⟩ := inB_is (lo := 0) (hi := 240) h25 (by decide) (by decide)
        refine r_iconst (v := nI 0) dX9_plugs_36 (by decide) ?_
        refine r_istore dX9_plugs_37 (by decide) ?_
        refine PW.loop (σ := Nat × XS) (fun s => 21 - s.1) (fun s => s.1 ≤ 21 ∧ TF x s.2 ∧ soonF (pluS (aE a) (aR a) p (nI m) n) (21 - s.1) s.1 = soonF (pluS (aE a) (aR a) p (nI m) n) 21 0) (fun s => [(0, .ref 0), (1, .int (nI p)), (2, .int (nI m)), (3, .int (nI n)), (4, .int (nI s.1))]) (fun s => s.2) ((0, x)) (⟨Nat.zero_le _, TF.rfl, rfl⟩) rfl rfl (fun s hs ih => ?_)
        obtain ⟨hs1, hF, hR⟩ := hs
        refine r_iload dX9_plugs_39 (by rfl) ?_
        refine r_bipush (v := nI 20) dX9_plugs_41 (by decide) ?_
        refine r_icmp_gtN (tgt := 84) dX9_plugs_43 (by decide) (by omega) (by omega) (fun h43 => ?_) (fun h43 => ?_)
        · refine r_iconst (v := -1) dX9_plugs_84 (by decide) ?_
          refine r_iretW rfl dX9_plugs_85 ?_
          refine ask_ok hC hF ?_
          rw [oPlugs, rqS_f q2, rq_t h14, rq_t h25, nN_nI (by omega), nN_nI (by omega), ← hR, show 21 - s.1 = 0 by omega, soonF]
        · refine r_aload_n dX9_plugs_46 rfl (by rfl) ?_
          refine r_callV (c_asked (hC.tf hF)) mv_X9_asked ml_X9_218 ⟨by decide, by decide⟩ dX9_plugs_47 (by first | assumption | rfl) rfl rfl rfl (Nat.le_of_ble_eq_true rfl) (fun v9 y h9 => ?_)
          obtain ⟨rfl, T0, F0, c0⟩ := h9
          refine r_astore dX9_plugs_50 (by decide) ?_
          refine r_aload dX9_plugs_52 (by rfl) ?_
          refine gf_X9_162 rfl dX9_plugs_54 (by first | assumption | rfl) (by rfl) ?_
          refine r_bipush (v := nI 35) dX9_plugs_57 (by decide) ?_
          refine r_iload_n dX9_plugs_59 rfl (by rfl) ?_
          refine r_iaddN dX9_plugs_60 ?_
          refine r_iload dX9_plugs_61 (by rfl) ?_
          refine r_iastN dX9_plugs_63 (by first | assumption | rfl) (by omega) (by decide) ?_
          have F1 : TF y (xu y 50 (35 + p) (nI s.1)) := fun c hc => by
            unfold TS at hc
            exact xu_n (by omega)
          have T1 : TN (xu y 50 (35 + p) (nI s.1)) (aE a) (eW (aE a)) rd0 (upd (aR a) (35 + p) (nI s.1)) := ⟨T0.1.tf F1, T0.2.1, T0.2.2.1, by show upd (y 50) _ _ = _; rw [T0.2.2.2]⟩
          refine r_aload dX9_plugs_64 (by rfl) ?_
          refine r_iload_n dX9_plugs_66 rfl (by rfl) ?_
          refine r_iload_n dX9_plugs_67 rfl (by rfl) ?_
          refine r_callV (t_oneSlept T1 (by rw [pk_un (by omega)]; exact ht) ht2 (by omega) hp5) mv_X6_oneSleptInNext ml_X9_252 ⟨by decide, by decide⟩ dX9_plugs_68 (by first | assumption | rfl) rfl rfl rfl (Nat.le_of_ble_eq_true rfl) (fun v9 z h9 => ?_)
          obtain ⟨rfl, T2, F2⟩ := h9
          refine r_iload_n dX9_plugs_71 rfl (by rfl) ?_
          refine r_icmp_lt (tgt := 78) dX9_plugs_72 (by decide) (fun h72 => ?_) (fun h72 => ?_)
          · refine r_iincN dX9_plugs_78 (by rfl) (by decide) ?_
            refine r_goto (tgt := 39) dX9_plugs_81 (by decide) ?_
            exact PW.lc (by rfl) rfl (ih (s.1 + 1, z) ⟨(show s.1 + 1 ≤ 21 by omega), hF.trans (F0.trans (F1.trans F2)), (by
              rw [← hR, show 21 - s.1 = (21 - (s.1 + 1)) + 1 by omega, soonF, if_neg (by unfold pluS oneS; rw [decide_eq_true h72]; decide)])⟩ (show 21 - (s.1 + 1) < 21 - s.1 by omega))
          · refine r_iload dX9_plugs_75 (by rfl) ?_
            refine r_iretW rfl dX9_plugs_77 ?_
            refine ask_ok hC (hF.trans (F0.trans (F1.trans F2))) ?_
            rw [oPlugs, rqS_f q2, rq_t h14, rq_t h25, nN_nI (by omega), nN_nI (by omega), ← hR, show 21 - s.1 = (20 - s.1) + 1 by omega, soonF, if_pos (by unfold pluS oneS; rw [decide_eq_false h72]; rfl)]
theorem setl_40 (f : Nat → Int32) (sv : Int32) : ∀ n, n ≤ 5 → (setl f sv n).2 40 = f 40
  | 0, _ => rfl
  | n + 1, h => by
    have ih := setl_40 f sv n (by omega)
    unfold setl
    split
    · split
      · exact ih
      · show upd _ _ _ 40 = _
        rw [pk_un (by omega)]
        exact ih
    · exact ih
set_option maxHeartbeats 8000000 in
set_option maxRecDepth 20000 in
theorem f_rooms {a : AS} {x : XS} {n u : Int32} (hC : RC x a) (hA : AI a) : ASK mX9_rooms [.ref 0, .int n, .int u] x a (oRooms a n u) := by
  refine MM.of (by decide) (Nat.le_of_ble_eq_true rfl) ?_
  have y0 := lay_0
  have y3 := lay_3
  have y49 := lay_49
  obtain ⟨t, ht2, ht⟩ := hA.t
  refine r_aload_n dX9_rooms_0 rfl (by rfl) ?_
  refine r_iload_n dX9_rooms_1 rfl (by rfl) ?_
  refine r_iconst (v := nI 0) dX9_rooms_2 (by decide) ?_
  refine r_bipush (v := nI 120) dX9_rooms_3 (by decide) ?_
  refine r_callS c_X9_within ms_X9_within ml_X9_144 ⟨by decide, by decide⟩ dX9_rooms_5 rfl (Nat.le_of_ble_eq_true rfl) (fun v9 x9 h9 => ?_)
  obtain ⟨rfl, h9⟩ := h9
  refine PW.xeq h9 ?_
  clear h9 x9
  refine r_if_eqB (tgt := 24) dX9_rooms_8 (by decide) (fun h8 => ?_) (fun h8 => ?_)
  · refine r_iconst (v := nI 0) dX9_rooms_24 (by decide) ?_
    refine PW.topi bI_f.symm ?_
    exact r_callVT c_require_f mv_X9_require ml_X9_148 ⟨by decide, by decide⟩ dX9_rooms_25 lay_0 rfl rfl rfl (Nat.le_of_ble_eq_true rfl) ⟨by decide, by decide⟩ (fun E y h => by obtain ⟨rfl, e⟩ := h; exact ask_bad hC e (by rw [oRooms, rq_f h8]))
  · refine r_iload_n dX9_rooms_11 rfl (by rfl) ?_
    refine r_iconst (v := nI 0) dX9_rooms_12 (by decide) ?_
    refine r_iconst (v := nI 1) dX9_rooms_13 (by decide) ?_
    refine r_callS c_X9_within ms_X9_within ml_X9_144 ⟨by decide, by decide⟩ dX9_rooms_14 rfl (Nat.le_of_ble_eq_true rfl) (fun v9 x9 h9 => ?_)
    obtain ⟨rfl, h9⟩ := h9
    refine PW.xeq h9 ?_
    clear h9 x9
    refine r_if_eqB (tgt := 24) dX9_rooms_17 (by decide) (fun h17 => ?_) (fun h17 => ?_)
    · refine r_iconst (v := nI 0) dX9_rooms_24 (by decide) ?_
      refine PW.topi bI_f.symm ?_
      exact r_callVT c_require_f mv_X9_require ml_X9_148 ⟨by decide, by decide⟩ dX9_rooms_25 lay_0 rfl rfl rfl (Nat.le_of_ble_eq_true rfl) ⟨by decide, by decide⟩ (fun E y h => by obtain ⟨rfl, e⟩ := h; exact ask_bad hC e (by rw [oRooms, rq_t h8, rq_f h17]))
    · refine r_iconst (v := nI 1) dX9_rooms_20 (by decide) ?_
      refine r_goto (tgt := 25) dX9_rooms_21 (by decide) ?_
      refine PW.topi bI_t.symm ?_
      refine r_callV c_require_t mv_X9_require ml_X9_148 ⟨by decide, by decide⟩ dX9_rooms_25 lay_0 rfl rfl rfl (Nat.le_of_ble_eq_true rfl) (fun v9 x9 h9 => ?_)
      obtain ⟨rfl, h9⟩ := h9
      refine PW.xeq h9 ?_
      clear h9 x9
      obtain ⟨m, _, hm, rfl⟩ := inB_is (lo := 0) (hi := 120) h8 (by decide) (by decide)
      obtain ⟨k, _, hk, rfl⟩ := inB_is (lo := 0) (hi := 1) h17 (by decide) (by decide)
      refine r_iconst (v := nI 0) dX9_rooms_28 (by decide) ?_
      refine r_istore_n dX9_rooms_29 rfl (by decide) ?_
      refine r_iconst (v := -1) dX9_rooms_30 (by decide) ?_
      refine r_istore dX9_rooms_31 (by decide) ?_
      refine r_iconst (v := nI 0) dX9_rooms_33 (by decide) ?_
      refine r_istore dX9_rooms_34 (by decide) ?_
      refine PW.loop (σ := Nat × XS) (fun s => 2 ^ eN (aE a) - s.1) (fun s => s.1 ≤ 2 ^ eN (aE a) ∧ TF x s.2) (fun s => [(0, .ref 0), (1, .int (nI m)), (2, .int (nI k)), (3, .int (amo (rooS (aE a) (aR a) m) s.1).2), (4, .int (amo (rooS (aE a) (aR a) m) s.1).1), (5, .int (nI s.1))]) (fun s => s.2) ((0, x)) (⟨Nat.zero_le _, TF.rfl⟩) rfl rfl (fun s hs ih => ?_)
      obtain ⟨hs1, hF⟩ := hs
      have p5 := pow5 hC.1.2.1
      refine r_iload dX9_rooms_36 (by rfl) ?_
      refine r_iconst (v := nI 1) dX9_rooms_38 (by decide) ?_
      refine r_aload_n dX9_rooms_39 rfl (by rfl) ?_
      refine gf_X9_19 rfl dX9_rooms_40 (by first | assumption | rfl) (by rfl) ?_
      refine gf_X9_141 rfl dX9_rooms_43 (by first | assumption | rfl) (by rfl) ?_
      refine PW.topi (hC.tf hF).1.1 ?_
      refine r_ishl dX9_rooms_46 ?_
      refine PW.topi (shl_n hC.1.2.1) ?_
      refine r_icmp_geN (tgt := 97) dX9_rooms_47 (by decide) (by omega) (by omega) (fun h47 => ?_) (fun h47 => ?_)
      · refine r_iload_n dX9_rooms_97 rfl (by rfl) ?_
        refine r_if_ne (tgt := 106) dX9_rooms_98 (by decide) (fun h98 => ?_) (fun h98 => ?_)
        · refine r_iload_n dX9_rooms_106 rfl (by rfl) ?_
          refine r_iretW rfl dX9_rooms_107 ?_
          refine ask_ok hC hF ?_
          rw [oRooms, rq_t h8, rq_t h17, nN_nI (by omega), show 2 ^ eN (aE a) = s.1 by omega]
          dsimp only
          first
            | (have hk0 : k = 0 := by
                 by_cases e : k = 0
                 · exact e
                 · exact absurd h98 (nI_ne0 (by omega) (by omega))
               subst hk0
               rfl)
            | (rw [if_neg (show ¬ nI k = nI 0 from h98)])
        · refine r_iload dX9_rooms_101 (by rfl) ?_
          refine r_goto (tgt := 107) dX9_rooms_103 (by decide) ?_
          refine r_iretW rfl dX9_rooms_107 ?_
          refine ask_ok hC hF ?_
          rw [oRooms, rq_t h8, rq_t h17, nN_nI (by omega), show 2 ^ eN (aE a) = s.1 by omega]
          dsimp only
          first
            | (have hk0 : k = 0 := by
                 by_cases e : k = 0
                 · exact e
                 · exact absurd h98 (nI_ne0 (by omega) (by omega))
               subst hk0
               rfl)
            | (rw [if_neg (show ¬ nI k = nI 0 from h98)])
      · refine r_aload_n dX9_rooms_50 rfl (by rfl) ?_
        refine r_callV (c_asked (hC.tf hF)) mv_X9_asked ml_X9_218 ⟨by decide, by decide⟩ dX9_rooms_51 (by first | assumption | rfl) rfl rfl rfl (Nat.le_of_ble_eq_true rfl) (fun v9 y h9 => ?_)
        obtain ⟨rfl, T0, F0, c0⟩ := h9
        refine r_astore dX9_rooms_54 (by decide) ?_
        refine r_aload dX9_rooms_56 (by rfl) ?_
        refine r_iload dX9_rooms_58 (by rfl) ?_
        refine r_callV (t_settle T0) mv_X6_settle ml_X9_287 ⟨by decide, by decide⟩ dX9_rooms_60 (by first | assumption | rfl) rfl rfl rfl (Nat.le_of_ble_eq_true rfl) (fun v9 z h9 => ?_)
        obtain ⟨rfl, T1, F1⟩ := h9
        refine r_if_neB (tgt := 69) dX9_rooms_63 (by decide) (fun h63 => ?_) (fun h63 => ?_)
        · have hs40 : (setl (aR a) (nI s.1) (eN (aE a))).2 40 = nI t := (setl_40 _ _ _ hC.1.2.1).trans ht
          refine r_aload dX9_rooms_69 (by rfl) ?_
          refine r_iload_n dX9_rooms_71 rfl (by rfl) ?_
          refine r_callV (t_sleptInNext T1 hs40 ht2 (by omega)) mv_X6_sleptInNext ml_X9_249 ⟨by decide, by decide⟩ dX9_rooms_72 (by first | assumption | rfl) rfl rfl rfl (Nat.le_of_ble_eq_true rfl) (fun v9 z2 h9 => ?_)
          obtain ⟨rfl, T2, F2⟩ := h9
          refine r_istore dX9_rooms_75 (by decide) ?_
          refine r_iload dX9_rooms_77 (by rfl) ?_
          refine r_iload dX9_rooms_79 (by rfl) ?_
          refine r_icmp_le (tgt := 91) dX9_rooms_81 (by decide) (fun h81 => ?_) (fun h81 => ?_)
          · refine r_iincN dX9_rooms_91 (by rfl) (by decide) ?_
            refine r_goto (tgt := 36) dX9_rooms_94 (by decide) ?_
            first
              | (have e := amo_le (show (rooS (aE a) (aR a) m) s.1 = some _ by unfold rooS; rw [if_pos h63]; rfl) h81
                 exact PW.lc (by (try dsimp only); rw [e]; rfl) rfl (ih (s.1 + 1, z2) ⟨(show s.1 + 1 ≤ 2 ^ eN (aE a) by omega), hF.trans (F0.trans (F1.trans F2))⟩ (show 2 ^ eN (aE a) - (s.1 + 1) < 2 ^ eN (aE a) - s.1 by omega)))
              | (have e := amo_gt (show (rooS (aE a) (aR a) m) s.1 = some _ by unfold rooS; rw [if_pos h63]; rfl) h81
                 exact PW.lc (by (try dsimp only); rw [e]; rfl) rfl (ih (s.1 + 1, z2) ⟨(show s.1 + 1 ≤ 2 ^ eN (aE a) by omega), hF.trans (F0.trans (F1.trans F2))⟩ (show 2 ^ eN (aE a) - (s.1 + 1) < 2 ^ eN (aE a) - s.1 by omega)))
              | (have e := amo_n (show (rooS (aE a) (aR a) m) s.1 = none by unfold rooS; rw [if_neg (by rw [h63]; decide)])
                 exact PW.lc (by (try dsimp only); rw [e]; rfl) rfl (ih (s.1 + 1, z) ⟨(show s.1 + 1 ≤ 2 ^ eN (aE a) by omega), hF.trans (F0.trans F1)⟩ (show 2 ^ eN (aE a) - (s.1 + 1) < 2 ^ eN (aE a) - s.1 by omega)))
          · refine r_iload dX9_rooms_84 (by rfl) ?_
            refine r_istore dX9_rooms_86 (by decide) ?_
            refine r_iload dX9_rooms_88 (by rfl) ?_
            refine r_istore_n dX9_rooms_90 rfl (by decide) ?_
            refine r_iincN dX9_rooms_91 (by rfl) (by decide) ?_
            refine r_goto (tgt := 36) dX9_rooms_94 (by decide) ?_
            first
              | (have e := amo_le (show (rooS (aE a) (aR a) m) s.1 = some _ by unfold rooS; rw [if_pos h63]; rfl) h81
                 exact PW.lc (by (try dsimp only); rw [e]; rfl) rfl (ih (s.1 + 1, z2) ⟨(show s.1 + 1 ≤ 2 ^ eN (aE a) by omega), hF.trans (F0.trans (F1.trans F2))⟩ (show 2 ^ eN (aE a) - (s.1 + 1) < 2 ^ eN (aE a) - s.1 by omega)))
              | (have e := amo_gt (show (rooS (aE a) (aR a) m) s.1 = some _ by unfold rooS; rw [if_pos h63]; rfl) h81
                 exact PW.lc (by (try dsimp only); rw [e]; rfl) rfl (ih (s.1 + 1, z2) ⟨(show s.1 + 1 ≤ 2 ^ eN (aE a) by omega), hF.trans (F0.trans (F1.trans F2))⟩ (show 2 ^ eN (aE a) - (s.1 + 1) < 2 ^ eN (aE a) - s.1 by omega)))
              | (have e := amo_n (show (rooS (aE a) (aR a) m) s.1 = none by unfold rooS; rw [if_neg (by rw [h63]; decide)])
                 exact PW.lc (by (try dsimp only); rw [e]; rfl) rfl (ih (s.1 + 1, z) ⟨(show s.1 + 1 ≤ 2 ^ eN (aE a) by omega), hF.trans (F0.trans F1)⟩ (show 2 ^ eN (aE a) - (s.1 + 1) < 2 ^ eN (aE a) - s.1 by omega)))
        · refine r_goto (tgt := 91) dX9_rooms_66 (by decide) ?_
          refine r_iincN dX9_rooms_91 (by rfl) (by decide) ?_
          refine r_goto (tgt := 36) dX9_rooms_94 (by decide) ?_
          first
            | (have e := amo_le (show (rooS (aE a) (aR a) m) s.1 = some _ by unfold rooS; rw [if_pos h63]; rfl) h81
               exact PW.lc (by (try dsimp only); rw [e]; rfl) rfl (ih (s.1 + 1, z2) ⟨(show s.1 + 1 ≤ 2 ^ eN (aE a) by omega), hF.trans (F0.trans (F1.trans F2))⟩ (show 2 ^ eN (aE a) - (s.1 + 1) < 2 ^ eN (aE a) - s.1 by omega)))
            | (have e := amo_gt (show (rooS (aE a) (aR a) m) s.1 = some _ by unfold rooS; rw [if_pos h63]; rfl) h81
               exact PW.lc (by (try dsimp only); rw [e]; rfl) rfl (ih (s.1 + 1, z2) ⟨(show s.1 + 1 ≤ 2 ^ eN (aE a) by omega), hF.trans (F0.trans (F1.trans F2))⟩ (show 2 ^ eN (aE a) - (s.1 + 1) < 2 ^ eN (aE a) - s.1 by omega)))
            | (have e := amo_n (show (rooS (aE a) (aR a) m) s.1 = none by unfold rooS; rw [if_neg (by rw [h63]; decide)])
               exact PW.lc (by (try dsimp only); rw [e]; rfl) rfl (ih (s.1 + 1, z) ⟨(show s.1 + 1 ≤ 2 ^ eN (aE a) by omega), hF.trans (F0.trans F1)⟩ (show 2 ^ eN (aE a) - (s.1 + 1) < 2 ^ eN (aE a) - s.1 by omega)))
set_option maxHeartbeats 8000000 in
set_option maxRecDepth 20000 in
theorem f_nights {a : AS} {x : XS} {sd q l n u : Int32} (hC : RC x a) (hA : AI a) : ASK mX9_nights [.ref 0, .int sd, .int q, .int l, .int n, .int u] x a (oNights a sd q l n u) := by
  refine MM.of (by decide) (Nat.le_of_ble_eq_true rfl) ?_
  have y0 := lay_0
  have y43 := lay_43
  have y44 := lay_44
  have y49 := lay_49
  have y50 := lay_50
  obtain ⟨t, ht2, ht⟩ := hA.t
  refine r_aload_n dX9_nights_0 rfl (by rfl) ?_
  refine r_iload_n dX9_nights_1 rfl (by rfl) ?_
  refine r_iload_n dX9_nights_2 rfl (by rfl) ?_
  refine r_iload dX9_nights_3 (by rfl) ?_
  by_cases qc : carOK q l n = true
  case neg => exact r_callVT (c_rc_f (Bool.eq_false_iff.mpr qc)) mv_X9_requireCars ml_X9_322 ⟨by decide, by decide⟩ dX9_nights_5 lay_0 rfl rfl rfl (Nat.le_of_ble_eq_true rfl) ⟨by decide, by decide⟩ (fun E y h => by obtain ⟨rfl, e⟩ := h; exact ask_bad hC e (by rw [oNights, rq_f (Bool.eq_false_iff.mpr qc)]))
  refine r_callV (c_rc_t qc) mv_X9_requireCars ml_X9_322 ⟨by decide, by decide⟩ dX9_nights_5 lay_0 rfl rfl rfl (Nat.le_of_ble_eq_true rfl) (fun v9 x9 h9 => ?_)
  obtain ⟨rfl, h9⟩ := h9
  refine PW.xeq h9 ?_
  clear h9 x9
  refine r_aload_n dX9_nights_8 rfl (by rfl) ?_
  refine r_iload dX9_nights_9 (by rfl) ?_
  refine r_iconst (v := nI 0) dX9_nights_11 (by decide) ?_
  refine r_iconst (v := nI 3) dX9_nights_12 (by decide) ?_
  refine r_callS c_X9_within ms_X9_within ml_X9_144 ⟨by decide, by decide⟩ dX9_nights_13 rfl (Nat.le_of_ble_eq_true rfl) (fun v9 x9 h9 => ?_)
  obtain ⟨rfl, h9⟩ := h9
  refine PW.xeq h9 ?_
  clear h9 x9
  refine PW.caseB (fun q16 => ?_) (fun q16 => ?_)
  · refine r_callV c_require_t mv_X9_require ml_X9_148 ⟨by decide, by decide⟩ dX9_nights_16 lay_0 rfl rfl rfl (Nat.le_of_ble_eq_true rfl) (fun v9 x9 h9 => ?_)
    obtain ⟨rfl, h9⟩ := h9
    refine PW.xeq h9 ?_
    clear h9 x9
    obtain ⟨m, _, hm, rfl⟩ := inB_is (lo := 1) (hi := 240) (carOK_n qc) (by decide) (by decide)
    obtain ⟨k, _, hk, rfl⟩ := inB_is (lo := 0) (hi := 3) q16 (by decide) (by decide)
    refine r_aload_n dX9_nights_19 rfl (by rfl) ?_
    refine r_callV (c_asked hC) mv_X9_asked ml_X9_218 ⟨by decide, by decide⟩ dX9_nights_20 (by first | assumption | rfl) rfl rfl rfl (Nat.le_of_ble_eq_true rfl) (fun v9 y h9 => ?_)
    obtain ⟨rfl, T0, F0, c0⟩ := h9
    refine r_astore dX9_nights_23 (by decide) ?_
    refine r_aload dX9_nights_25 (by rfl) ?_
    refine r_iload_n dX9_nights_27 rfl (by rfl) ?_
    refine r_iload_n dX9_nights_28 rfl (by rfl) ?_
    refine r_iload_n dX9_nights_29 rfl (by rfl) ?_
    refine r_iload dX9_nights_30 (by rfl) ?_
    refine r_callV (t_cars T0 ht ht2 (by omega)) mv_X6_passWithCars ml_X9_326 ⟨by decide, by decide⟩ dX9_nights_32 (by first | assumption | rfl) rfl rfl rfl (Nat.le_of_ble_eq_true rfl) (fun v9 z h9 => ?_)
    obtain ⟨rfl, T1, c1, F1⟩ := h9
    refine r_iload dX9_nights_35 (by rfl) ?_
    rcases (show k = 0 ∨ k = 1 ∨ k = 2 ∨ k = 3 by omega) with rfl | rfl | rfl | rfl
    · refine r_tableIn (tgt := 64) (off := 27) dX9_nights_37 (by decide +kernel) (by decide +kernel) (by decide +kernel) (by decide) ?_
      refine r_aload dX9_nights_64 (by rfl) ?_
      refine r_callV (t_sleptByAll T1) mv_X6_sleptByAll ml_X9_194 ⟨by decide, by decide⟩ dX9_nights_66 (by first | assumption | rfl) rfl rfl rfl (Nat.le_of_ble_eq_true rfl) (fun v9 x9 h9 => ?_)
      obtain ⟨rfl, h9⟩ := h9
      refine PW.xeq h9 ?_
      clear h9 x9
      refine r_aload_n dX9_nights_69 rfl (by rfl) ?_
      refine gf_X9_59 rfl dX9_nights_70 (by first | assumption | rfl) (by rfl) ?_
      refine r_callV (c_X6_sleptByAll (c0 := 43) (Or.inl rfl) T1.1.2.1 T1.1.1) mv_X6_sleptByAll ml_X9_194 ⟨by decide, by decide⟩ dX9_nights_73 (by first | assumption | rfl) rfl rfl rfl (Nat.le_of_ble_eq_true rfl) (fun v9 x9 h9 => ?_)
      obtain ⟨rfl, h9⟩ := h9
      refine PW.xeq h9 ?_
      clear h9 x9
      refine r_isub dX9_nights_76 ?_
      refine r_iretW rfl dX9_nights_77 ?_
      refine ask_ok hC (F0.trans F1) ?_
      rw [oNights, rq_t qc, rq_t q16, nN_nI (by omega)]
      have r44 : z 44 = aR a := by rw [(F0.trans F1) 44 (by unfold TS; omega)]; exact hC.2.1.1
      dsimp only
      first
        | rfl
        | (rw [show z (43 + 1) = aR a from r44]; rfl)
        | (rw [show z 44 = aR a from r44, T1.2.2.2]; rfl)
        | (rw [c1, c0, nI_0, Int32.zero_add]; rfl)
    · refine r_tableIn (tgt := 78) (off := 41) dX9_nights_37 (by decide +kernel) (by decide +kernel) (by decide +kernel) (by decide) ?_
      refine r_aload dX9_nights_78 (by rfl) ?_
      refine gf_X9_162 rfl dX9_nights_80 (by first | assumption | rfl) (by rfl) ?_
      refine r_bipush (v := nI 41) dX9_nights_83 (by decide) ?_
      refine r_ialdN dX9_nights_85 (by first | assumption | rfl) (by omega) (by decide) ?_
      refine r_aload_n dX9_nights_86 rfl (by rfl) ?_
      refine gf_X9_59 rfl dX9_nights_87 (by first | assumption | rfl) (by rfl) ?_
      refine gf_X9_162 rfl dX9_nights_90 (by first | assumption | rfl) (by rfl) ?_
      refine r_bipush (v := nI 41) dX9_nights_93 (by decide) ?_
      refine r_ialdN dX9_nights_95 (by first | assumption | rfl) (by omega) (by decide) ?_
      refine r_isub dX9_nights_96 ?_
      refine r_iretW rfl dX9_nights_97 ?_
      refine ask_ok hC (F0.trans F1) ?_
      rw [oNights, rq_t qc, rq_t q16, nN_nI (by omega)]
      have r44 : z 44 = aR a := by rw [(F0.trans F1) 44 (by unfold TS; omega)]; exact hC.2.1.1
      dsimp only
      first
        | rfl
        | (rw [show z (43 + 1) = aR a from r44]; rfl)
        | (rw [show z 44 = aR a from r44, T1.2.2.2]; rfl)
        | (rw [c1, c0, nI_0, Int32.zero_add]; rfl)
    · refine r_tableIn (tgt := 98) (off := 61) dX9_nights_37 (by decide +kernel) (by decide +kernel) (by decide +kernel) (by decide) ?_
      refine r_aload dX9_nights_98 (by rfl) ?_
      refine gf_X9_329 rfl dX9_nights_100 (by first | assumption | rfl) (by rfl) ?_
      refine r_iretW rfl dX9_nights_103 ?_
      refine ask_ok hC (F0.trans F1) ?_
      rw [oNights, rq_t qc, rq_t q16, nN_nI (by omega)]
      have r44 : z 44 = aR a := by rw [(F0.trans F1) 44 (by unfold TS; omega)]; exact hC.2.1.1
      dsimp only
      first
        | rfl
        | (rw [show z (43 + 1) = aR a from r44]; rfl)
        | (rw [show z 44 = aR a from r44, T1.2.2.2]; rfl)
        | (rw [c1, c0, nI_0, Int32.zero_add]; rfl)
    · refine r_tableOut (tgt := 104) dX9_nights_37 (by decide +kernel) (by decide) ?_
      refine r_aload dX9_nights_104 (by rfl) ?_
      refine r_callV (t_asleepCount T1) mv_X6_asleepCount ml_X9_190 ⟨by decide, by decide⟩ dX9_nights_106 (by first | assumption | rfl) rfl rfl rfl (Nat.le_of_ble_eq_true rfl) (fun v9 x9 h9 => ?_)
      obtain ⟨rfl, h9⟩ := h9
      refine PW.xeq h9 ?_
      clear h9 x9
      refine r_iretW rfl dX9_nights_109 ?_
      refine ask_ok hC (F0.trans F1) ?_
      rw [oNights, rq_t qc, rq_t q16, nN_nI (by omega)]
      have r44 : z 44 = aR a := by rw [(F0.trans F1) 44 (by unfold TS; omega)]; exact hC.2.1.1
      dsimp only
      first
        | rfl
        | (rw [show z (43 + 1) = aR a from r44]; rfl)
        | (rw [show z 44 = aR a from r44, T1.2.2.2]; rfl)
        | (rw [c1, c0, nI_0, Int32.zero_add]; rfl)
  · exact r_callVT c_require_f mv_X9_require ml_X9_148 ⟨by decide, by decide⟩ dX9_nights_16 lay_0 rfl rfl rfl (Nat.le_of_ble_eq_true rfl) ⟨by decide, by decide⟩ (fun E y h => by obtain ⟨rfl, e⟩ := h; exact ask_bad hC e (by rw [oNights, rq_t qc, rq_f q16]))
set_option maxHeartbeats 8000000 in
set_option maxRecDepth 20000 in
theorem f_span {a : AS} {x : XS} {sd mn9 q l n9 u : Int32} (hC : RC x a) (hA : AI a) : ASK mX9_span [.ref 0, .int sd, .int mn9, .int q, .int l, .int n9, .int u] x a (oSpan a sd mn9 q l n9 u) := by
  refine MM.of (by decide) (Nat.le_of_ble_eq_true rfl) ?_
  have y0 := lay_0
  have y43 := lay_43
  have y44 := lay_44
  have y49 := lay_49
  have y50 := lay_50
  obtain ⟨t, ht2, ht⟩ := hA.t
  refine r_aload_n dX9_span_0 rfl (by rfl) ?_
  refine r_iload_n dX9_span_1 rfl (by rfl) ?_
  refine r_iconst (v := nI 1) dX9_span_2 (by decide) ?_
  refine r_bipush (v := nI 20) dX9_span_3 (by decide) ?_
  refine r_callS c_X9_within ms_X9_within ml_X9_144 ⟨by decide, by decide⟩ dX9_span_5 rfl (Nat.le_of_ble_eq_true rfl) (fun v9 x9 h9 => ?_)
  obtain ⟨rfl, h9⟩ := h9
  refine PW.xeq h9 ?_
  clear h9 x9
  refine r_if_eqB (tgt := 25) dX9_span_8 (by decide) (fun h8 => ?_) (fun h8 => ?_)
  · refine r_iconst (v := nI 0) dX9_span_25 (by decide) ?_
    refine PW.topi bI_f.symm ?_
    exact r_callVT c_require_f mv_X9_require ml_X9_148 ⟨by decide, by decide⟩ dX9_span_26 lay_0 rfl rfl rfl (Nat.le_of_ble_eq_true rfl) ⟨by decide, by decide⟩ (fun E y h => by obtain ⟨rfl, e⟩ := h; exact ask_bad hC e (by rw [oSpan, rq_f h8]))
  · refine r_iload dX9_span_11 (by rfl) ?_
    refine r_iconst (v := nI 0) dX9_span_13 (by decide) ?_
    refine r_iconst (v := nI 2) dX9_span_14 (by decide) ?_
    refine r_callS c_X9_within ms_X9_within ml_X9_144 ⟨by decide, by decide⟩ dX9_span_15 rfl (Nat.le_of_ble_eq_true rfl) (fun v9 x9 h9 => ?_)
    obtain ⟨rfl, h9⟩ := h9
    refine PW.xeq h9 ?_
    clear h9 x9
    refine r_if_eqB (tgt := 25) dX9_span_18 (by decide) (fun h18 => ?_) (fun h18 => ?_)
    · refine r_iconst (v := nI 0) dX9_span_25 (by decide) ?_
      refine PW.topi bI_f.symm ?_
      exact r_callVT c_require_f mv_X9_require ml_X9_148 ⟨by decide, by decide⟩ dX9_span_26 lay_0 rfl rfl rfl (Nat.le_of_ble_eq_true rfl) ⟨by decide, by decide⟩ (fun E y h => by obtain ⟨rfl, e⟩ := h; exact ask_bad hC e (by rw [oSpan, rq_t h8, rq_f h18]))
    · refine r_iconst (v := nI 1) dX9_span_21 (by decide) ?_
      refine r_goto (tgt := 26) dX9_span_22 (by decide) ?_
      refine PW.topi bI_t.symm ?_
      refine r_callV c_require_t mv_X9_require ml_X9_148 ⟨by decide, by decide⟩ dX9_span_26 lay_0 rfl rfl rfl (Nat.le_of_ble_eq_true rfl) (fun v9 x9 h9 => ?_)
      obtain ⟨rfl, h9⟩ := h9
      refine PW.xeq h9 ?_
      clear h9 x9
      obtain ⟨mn, _, hmn, rfl⟩ := inB_is (lo := 1) (hi := 20) h8 (by decide) (by decide)
      obtain ⟨k, _, hk, rfl⟩ := inB_is (lo := 0) (hi := 2) h18 (by decide) (by decide)
      refine r_aload_n dX9_span_29 rfl (by rfl) ?_
      refine r_iload_n dX9_span_30 rfl (by rfl) ?_
      refine r_iload dX9_span_31 (by rfl) ?_
      refine r_iload dX9_span_33 (by rfl) ?_
      by_cases qc : carOK q l n9 = true
      case neg => exact r_callVT (c_rc_f (Bool.eq_false_iff.mpr qc)) mv_X9_requireCars ml_X9_322 ⟨by decide, by decide⟩ dX9_span_35 lay_0 rfl rfl rfl (Nat.le_of_ble_eq_true rfl) ⟨by decide, by decide⟩ (fun E y h => by obtain ⟨rfl, e⟩ := h; exact ask_bad hC e (by rw [oSpan, rq_t h8, rq_t h18, rq_f (Bool.eq_false_iff.mpr qc)]))
      refine r_callV (c_rc_t qc) mv_X9_requireCars ml_X9_322 ⟨by decide, by decide⟩ dX9_span_35 lay_0 rfl rfl rfl (Nat.le_of_ble_eq_true rfl) (fun v9 x9 h9 => ?_)
      obtain ⟨rfl, h9⟩ := h9
      refine PW.xeq h9 ?_
      clear h9 x9
      obtain ⟨n, _, hn, rfl⟩ := inB_is (lo := 1) (hi := 240) (carOK_n qc) (by decide) (by decide)
      refine r_sipush (v := nI 1200) dX9_span_38 (by decide) ?_
      refine r_istore dX9_span_41 (by decide) ?_
      refine r_iconst (v := nI 0) dX9_span_43 (by decide) ?_
      refine r_istore dX9_span_44 (by decide) ?_
      refine r_iconst (v := nI 0) dX9_span_46 (by decide) ?_
      refine r_istore dX9_span_47 (by decide) ?_
      refine r_iconst (v := nI 0) dX9_span_49 (by decide) ?_
      refine r_istore dX9_span_50 (by decide) ?_
      refine PW.loop (σ := Nat × XS) (fun s => mn - s.1) (fun s => s.1 ≤ mn ∧ TF x s.2) (fun s => [(0, .ref 0), (1, .int sd), (2, .int (nI mn)), (3, .int q), (4, .int l), (5, .int (nI n)), (6, .int (nI k)), (7, .int (spaF (aE a) (aR a) sd q l n s.1).1), (8, .int (spaF (aE a) (aR a) sd q l n s.1).2.1), (9, .int (spaF (aE a) (aR a) sd q l n s.1).2.2), (10, .int (nI s.1))]) (fun s => s.2) ((0, x)) (⟨Nat.zero_le _, TF.rfl⟩) rfl rfl (fun s hs ih => ?_)
      obtain ⟨hs1, hF⟩ := hs
      refine r_iload dX9_span_52 (by rfl) ?_
      refine r_iload_n dX9_span_54 rfl (by rfl) ?_
      refine r_icmp_geN (tgt := 141) dX9_span_55 (by decide) (by omega) (by omega) (fun h55 => ?_) (fun h55 => ?_)
      · refine r_iload dX9_span_141 (by rfl) ?_
        rcases (show k = 0 ∨ k = 1 ∨ k = 2 by omega) with rfl | rfl | rfl
        · refine r_lookup (tgt := 168) (off := 25) dX9_span_143 (by decide +kernel) (by decide +kernel) (by decide) ?_
          refine r_iload dX9_span_168 (by rfl) ?_
          refine r_iretW rfl dX9_span_170 ?_
          refine ask_ok hC hF ?_
          rw [oSpan, rq_t h8, rq_t h18, rq_t qc, nN_nI (by omega), nN_nI (by omega), show mn = s.1 by omega]
          rfl
        · refine r_lookup (tgt := 171) (off := 28) dX9_span_143 (by decide +kernel) (by decide +kernel) (by decide) ?_
          refine r_iload dX9_span_171 (by rfl) ?_
          refine r_iretW rfl dX9_span_173 ?_
          refine ask_ok hC hF ?_
          rw [oSpan, rq_t h8, rq_t h18, rq_t qc, nN_nI (by omega), nN_nI (by omega), show mn = s.1 by omega]
          rfl
        · refine r_lookup (tgt := 174) (off := 31) dX9_span_143 (by decide +kernel) (by decide +kernel) (by decide) ?_
          refine r_iload dX9_span_174 (by rfl) ?_
          refine r_iretW rfl dX9_span_176 ?_
          refine ask_ok hC hF ?_
          rw [oSpan, rq_t h8, rq_t h18, rq_t qc, nN_nI (by omega), nN_nI (by omega), show mn = s.1 by omega]
          rfl
      · refine r_aload_n dX9_span_58 rfl (by rfl) ?_
        refine r_callV (c_asked (hC.tf hF)) mv_X9_asked ml_X9_218 ⟨by decide, by decide⟩ dX9_span_59 (by first | assumption | rfl) rfl rfl rfl (Nat.le_of_ble_eq_true rfl) (fun v9 y h9 => ?_)
        obtain ⟨rfl, T0, F0, c0⟩ := h9
        refine r_astore dX9_span_62 (by decide) ?_
        refine r_aload dX9_span_64 (by rfl) ?_
        refine r_iload_n dX9_span_66 rfl (by rfl) ?_
        refine r_iload dX9_span_67 (by rfl) ?_
        refine r_iadd dX9_span_69 ?_
        refine r_iload_n dX9_span_70 rfl (by rfl) ?_
        refine r_iload dX9_span_71 (by rfl) ?_
        refine r_iload dX9_span_73 (by rfl) ?_
        refine r_callV (t_cars T0 ht ht2 (by omega)) mv_X6_passWithCars ml_X9_326 ⟨by decide, by decide⟩ dX9_span_75 (by first | assumption | rfl) rfl rfl rfl (Nat.le_of_ble_eq_true rfl) (fun v9 z h9 => ?_)
        obtain ⟨rfl, T1, c1, F1⟩ := h9
        have r44 : z 44 = aR a := by rw [(hF.trans (F0.trans F1)) 44 (by unfold TS; omega)]; exact hC.2.1.1
        refine r_aload dX9_span_78 (by rfl) ?_
        refine r_callV (t_sleptByAll T1) mv_X6_sleptByAll ml_X9_194 ⟨by decide, by decide⟩ dX9_span_80 (by first | assumption | rfl) rfl rfl rfl (Nat.le_of_ble_eq_true rfl) (fun v9 x9 h9 => ?_)
        obtain ⟨rfl, h9⟩ := h9
        refine PW.xeq h9 ?_
        clear h9 x9
        refine r_aload_n dX9_span_83 rfl (by rfl) ?_
        refine gf_X9_59 rfl dX9_span_84 (by first | assumption | rfl) (by rfl) ?_
        refine r_callV (c_X6_sleptByAll (c0 := 43) (Or.inl rfl) T1.1.2.1 T1.1.1) mv_X6_sleptByAll ml_X9_194 ⟨by decide, by decide⟩ dX9_span_87 (by first | assumption | rfl) rfl rfl rfl (Nat.le_of_ble_eq_true rfl) (fun v9 x9 h9 => ?_)
        obtain ⟨rfl, h9⟩ := h9
        refine PW.xeq h9 ?_
        clear h9 x9
        rw [show z (43 + 1) = aR a from r44]
        refine r_isub dX9_span_90 ?_
        refine r_istore dX9_span_91 (by decide) ?_
        refine r_iload dX9_span_93 (by rfl) ?_
        refine r_iload dX9_span_95 (by rfl) ?_
        refine r_callS c_min ms_J9_min_7cf53 ml_X9_332 ⟨by decide, by decide⟩ dX9_span_97 rfl (Nat.le_of_ble_eq_true rfl) (fun v9 x9 h9 => ?_)
        obtain ⟨rfl, h9⟩ := h9
        refine PW.xeq h9 ?_
        clear h9 x9
        refine r_istore dX9_span_100 (by decide) ?_
        refine r_iload dX9_span_102 (by rfl) ?_
        refine r_iload dX9_span_104 (by rfl) ?_
        refine r_callS c_max ms_J9_max_7cf53 ml_X9_212 ⟨by decide, by decide⟩ dX9_span_106 rfl (Nat.le_of_ble_eq_true rfl) (fun v9 x9 h9 => ?_)
        obtain ⟨rfl, h9⟩ := h9
        refine PW.xeq h9 ?_
        clear h9 x9
        refine r_istore dX9_span_109 (by decide) ?_
        refine r_aload dX9_span_111 (by rfl) ?_
        refine gf_X9_162 rfl dX9_span_113 (by first | assumption | rfl) (by rfl) ?_
        refine r_bipush (v := nI 41) dX9_span_116 (by decide) ?_
        refine r_ialdN dX9_span_118 (by first | assumption | rfl) (by omega) (by decide) ?_
        refine r_aload_n dX9_span_119 rfl (by rfl) ?_
        refine gf_X9_59 rfl dX9_span_120 (by first | assumption | rfl) (by rfl) ?_
        refine gf_X9_162 rfl dX9_span_123 (by first | assumption | rfl) (by rfl) ?_
        refine r_bipush (v := nI 41) dX9_span_126 (by decide) ?_
        refine r_ialdN dX9_span_128 (by first | assumption | rfl) (by omega) (by decide) ?_
        rw [T1.2.2.2, r44]
        refine r_icmp_ne (tgt := 135) dX9_span_129 (by decide) (fun h129 => ?_) (fun h129 => ?_)
        · refine r_iincN dX9_span_135 (by rfl) (by decide) ?_
          refine r_goto (tgt := 52) dX9_span_138 (by decide) ?_
          first
            | (have e : (spaF (aE a) (aR a) sd q l n (s.1 + 1)).2.2 = (spaF (aE a) (aR a) sd q l n s.1).2.2 + nI 1 := if_pos h129
               exact PW.lc (by (try dsimp only); rw [e]; rfl) rfl (ih (s.1 + 1, z) ⟨(show s.1 + 1 ≤ mn by omega), hF.trans (F0.trans F1)⟩ (show mn - (s.1 + 1) < mn - s.1 by omega)))
            | (have e : (spaF (aE a) (aR a) sd q l n (s.1 + 1)).2.2 = (spaF (aE a) (aR a) sd q l n s.1).2.2 := if_neg h129
               exact PW.lc (by (try dsimp only); rw [e]; rfl) rfl (ih (s.1 + 1, z) ⟨(show s.1 + 1 ≤ mn by omega), hF.trans (F0.trans F1)⟩ (show mn - (s.1 + 1) < mn - s.1 by omega)))
        · refine r_iinc dX9_span_132 (by rfl) rfl (by decide) ?_
          refine r_iincN dX9_span_135 (by rfl) (by decide) ?_
          refine r_goto (tgt := 52) dX9_span_138 (by decide) ?_
          first
            | (have e : (spaF (aE a) (aR a) sd q l n (s.1 + 1)).2.2 = (spaF (aE a) (aR a) sd q l n s.1).2.2 + nI 1 := if_pos h129
               exact PW.lc (by (try dsimp only); rw [e]; rfl) rfl (ih (s.1 + 1, z) ⟨(show s.1 + 1 ≤ mn by omega), hF.trans (F0.trans F1)⟩ (show mn - (s.1 + 1) < mn - s.1 by omega)))
            | (have e : (spaF (aE a) (aR a) sd q l n (s.1 + 1)).2.2 = (spaF (aE a) (aR a) sd q l n s.1).2.2 := if_neg h129
               exact PW.lc (by (try dsimp only); rw [e]; rfl) rfl (ih (s.1 + 1, z) ⟨(show s.1 + 1 ≤ mn by omega), hF.trans (F0.trans F1)⟩ (show mn - (s.1 + 1) < mn - s.1 by omega)))
