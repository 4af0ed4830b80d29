/-! THE FACE: the house -/
def hsE (h : HS) : NE := (HS.n h, (fun k p => nI (HS.row h k p)), (fun m => nI (HS.st h m)), nI (HS.over h), nI (HS.wall h), loudL, fallsL)
def bgr (E : NE) : Nat → Nat → Int32
  | 0 => rd0
  | i + 1 => upd (upd (upd (bgr E i) (0 + i) (eH E 0 i)) (5 + i) (eH E 3 i)) (35 + i) (eH E 6 i)
def aNew (a : AS) (h : HS) : AS := (hsE h, bgr (hsE h) (HS.n h), (aT a, 0, -1), [], (0, aW a), (0, aI a, aJ a), nI 0, aU a, aX a)
def oHouse (a : AS) (v : Int32) : Except Nat Int32 × AS := if inB v (nI 0) (nI (min 600 (aH a))) then (match pHouse (aT a) (nN v) 61 h0 0 with
  | .error e => txtE a e
  | .ok q => (.ok (nI (HS.n q.1)), aNew a q.1)) else (.error 1, bmX a)
def HAc (x z : XS) (i : Nat) : Prop := (∀ k, k < 8 → ∀ j, j < i → z (4 + k) j = x (14 + k) j) ∧ z 3 0 = x 13 0 ∧ z 3 11 = x 13 11 ∧ z 3 12 = x 13 12 ∧ ∀ c, ¬ (3 ≤ c ∧ c ≤ 11) → z c = x c
theorem hcA_row (x : XS) : ∀ i, HAc x (hcA x i) i
  | 0 => by
    refine ⟨fun k _ j hj => by omega, rfl, rfl, rfl, fun c hc => ?_⟩
    unfold hcA
    rw [xu_n (by omega), xu_n (by omega), xu_n (by omega), xu_n (by omega)]
  | i + 1 => by
    obtain ⟨h1, h2, h3, h4, h5⟩ := hcA_row x i
    have e : ∀ k, k < 8 → hcA x (i + 1) (4 + k) = upd (hcA x i (4 + k)) i (hcA x i (14 + k) i) := by
      intro k hk
      rcases (show k = 0 ∨ k = 1 ∨ k = 2 ∨ k = 3 ∨ k = 4 ∨ k = 5 ∨ k = 6 ∨ k = 7 by omega) with rfl | rfl | rfl | rfl | rfl | rfl | rfl | rfl <;> rfl
    have e3 : hcA x (i + 1) 3 = hcA x i 3 := rfl
    refine ⟨fun k hk j hj => ?_, by rw [e3]; exact h2, by rw [e3]; exact h3, by rw [e3]; exact h4, fun c hc => ?_⟩
    · rw [e k hk]
      by_cases ej : j = i
      · rw [ej, pk_us, h5 (14 + k) (by omega)]
      · rw [pk_un ej]
        exact h1 k hk j (by omega)
    · unfold hcA
      rw [xu_n (by omega), xu_n (by omega), xu_n (by omega), xu_n (by omega), xu_n (by omega), xu_n (by omega), xu_n (by omega), xu_n (by omega)]
      exact h5 c hc
theorem hcB_n {y : XS} {c : Nat} (h : c ≠ 12) : ∀ m, hcB y m c = y c
  | 0 => rfl
  | m + 1 => by
    unfold hcB
    rw [xu_n h]
    exact hcB_n h m
theorem hcB_row {y : XS} {j : Nat} : ∀ m, j < m → hcB y m 12 j = y 22 j
  | 0, h => by omega
  | m + 1, h => by
    unfold hcB
    by_cases e : j = m
    · rw [e, xu_s, hcB_n (by decide)]
    · rw [xu_k e]
      exact hcB_row m (by omega)
theorem bgR_row {z : XS} {E : NE} {f : Nat → Int32} (hf : ∀ j, j < 42 → f j = nI 0) (h0 : ∀ p, p < eN E → z 4 p = eH E 0 p ∧ z 7 p = eH E 3 p ∧ z 10 p = eH E 6 p) : ∀ n, n ≤ eN E → ∀ j, j < 42 → bgR z f n j = bgr E n j
  | 0, _, j, hj => hf j hj
  | n + 1, hn, j, hj => by
    have ih := bgR_row hf h0 n (by omega) j hj
    obtain ⟨w0, w1, w2⟩ := h0 n (by omega)
    show upd (upd (upd (bgR z f n) (0 + n) (z 4 n)) (5 + n) (z 7 n)) (35 + n) (z 10 n) j = upd (upd (upd (bgr E n) (0 + n) (eH E 0 n)) (5 + n) (eH E 3 n)) (35 + n) (eH E 6 n) j
    rw [w0, w1, w2]
    unfold upd
    rw [ih]
/-- the picture behind the new house, ahead of the night's beginning -/
def hs7 (y : XS) : XS := xu (xu (xu (xu (tkX (tkX (hcB (hcA y 5) 60) 24 (fun j => loudW.getD j 0) 7) 27 (fun j => fallsW.getD j 0) 5) 33 2 (nI 0)) 55 1 (nI 0)) 73 2 (nI 0)) 0 14 (nI 0)
theorem hs7_n {y : XS} {c : Nat} (h : ¬ (3 ≤ c ∧ c ≤ 12)) (h1 : c ≠ 24) (h2 : c ≠ 25) (h3 : c ≠ 27) (h4 : c ≠ 28) (h5 : c ≠ 33) (h6 : c ≠ 55) (h7 : c ≠ 73) (h8 : c ≠ 0) : hs7 y c = y c := by
  unfold hs7
  rw [xu_n h8, xu_n h7, xu_n h6, xu_n h5, tkX_n h3 h4, tkX_n h1 h2, hcB_n (by omega)]
  exact (hcA_row y 5).2.2.2.2 c (by omega)
theorem hs7_h {y : XS} {c : Nat} (h : 3 ≤ c ∧ c ≤ 11) : hs7 y c = hcA y 5 c := by
  unfold hs7
  rw [xu_n (by omega), xu_n (by omega), xu_n (by omega), xu_n (by omega), tkX_n (by omega) (by omega), tkX_n (by omega) (by omega), hcB_n (by omega)]
theorem hs7_RE {y : XS} {h : HS} (hD : DI y h) : RE (hs7 y) (hsE h) := by
  obtain ⟨d1, d2, d3, d4, d5, d6, d7, d8⟩ := hD
  obtain ⟨a1, a2, a3, a4, a5⟩ := hcA_row y 5
  refine ⟨?_, d5, fun k hk p hp => ?_, fun m hm => ?_, ?_, ?_, ?_, ?_⟩
  · rw [hs7_h (by omega), a2]; exact d1
  · have hp : p < HS.n h := hp
    rw [hs7_h (by omega), a1 k hk p (by omega)]; exact d7 k hk p hp
  · unfold hs7
    rw [xu_n (by omega), xu_n (by omega), xu_n (by omega), xu_n (by omega), tkX_n (by omega) (by omega), tkX_n (by omega) (by omega), hcB_row 60 hm, a5 22 (by omega)]
    exact d8 m hm
  · rw [hs7_h (by omega), a4]; exact d4
  · rw [hs7_h (by omega), a3]; exact d3
  · have w : LCo (tkX (hcB (hcA y 5) 60) 24 (fun j => loudW.getD j 0) loudL.length) 24 loudL := tkX_LC loudL_LW (fun i q hq => by
      have key : ∀ i, i < 7 → loudW.getD i 0 = nI (loudL.getD i 0) := by decide +kernel
      have hi : i < 7 := (List.getElem?_eq_some_iff.mp hq).1
      rw [key i hi, List.getD_eq_getElem?_getD, hq]
      rfl)
    refine LCo.fr w ?_ ?_
    · unfold hs7
      rw [xu_n (by decide), xu_n (by decide), xu_n (by decide), xu_n (by decide), tkX_n (by decide) (by decide)]
      rfl
    · unfold hs7
      rw [xu_n (by decide), xu_n (by decide), xu_n (by decide), xu_n (by decide), tkX_n (by decide) (by decide)]
      rfl
  · have w : LCo (tkX (tkX (hcB (hcA y 5) 60) 24 (fun j => loudW.getD j 0) 7) 27 (fun j => fallsW.getD j 0) fallsL.length) 27 fallsL := tkX_LC fallsL_LW (fun i q hq => by
      have key : ∀ i, i < 5 → fallsW.getD i 0 = nI (fallsL.getD i 0) := by decide +kernel
      have hi : i < 5 := (List.getElem?_eq_some_iff.mp hq).1
      rw [key i hi, List.getD_eq_getElem?_getD, hq]
      rfl)
    refine LCo.fr w ?_ ?_
    · unfold hs7
      rw [xu_n (by decide), xu_n (by decide), xu_n (by decide), xu_n (by decide)]
      rfl
    · unfold hs7
      rw [xu_n (by decide), xu_n (by decide), xu_n (by decide), xu_n (by decide)]
      rfl
def hs8 (y : XS) (h : HS) : XS := xu (xr (hs7 y) 44 (bgr (hsE h) (HS.n h))) 43 7 (hs7 y 3 11)
theorem hs8_agr {y : XS} {h : HS} (hD : DI y h) : agr (beginX (hs7 y) (HS.n h)) (hs8 y h) := by
  have hR := hs7_RE hD
  refine agr.put (fun c k hk => ?_) _ _ _
  by_cases e : c = 44
  · subst e
    rw [xr_s, xr_s]
    exact bgR_row (E := hsE h) (fun j hj => zfill_lt 42 hj) (fun p hp => ⟨hR.2.2.1 0 (by decide) p hp, hR.2.2.1 3 (by decide) p hp, hR.2.2.1 6 (by decide) p hp⟩) (HS.n h) (Nat.le_refl _) k (by rw [csz_44] at hk; exact hk)
  · rw [xr_n e, xr_n e]
theorem hs8_n {y : XS} {h : HS} {c : Nat} (h1 : c ≠ 43) (h2 : c ≠ 44) : hs8 y h c = hs7 y c := by
  unfold hs8
  rw [xu_n h1, xr_n h2]
theorem house_RC {y : XS} {a : AS} {h : HS} (hC : RC y (setT a (aT a) 0 (-1))) (hD : DI y h) : RC (hs8 y h) (aNew a h) := by
  obtain ⟨k1, k2, k3, k4, k5, k6, k7⟩ := hC
  have hR := hs7_RE hD
  have e : ∀ c, ¬ (3 ≤ c ∧ c ≤ 12) → c ≠ 24 → c ≠ 25 → c ≠ 27 → c ≠ 28 → c ≠ 33 → c ≠ 55 → c ≠ 73 → c ≠ 0 → c ≠ 43 → c ≠ 44 → hs8 y h c = y c := fun c h1 h2 h3 h4 h5 h6 h7 h8 h9 h10 h11 => (hs8_n h10 h11).trans (hs7_n h1 h2 h3 h4 h5 h6 h7 h8 h9)
  refine ⟨hR.fr (fun c hc => hs8_n (by omega) (by omega)), ⟨?_, ?_, ?_⟩, ?_, ⟨?_, Nat.zero_le _, fun j q hq => (by have hq : ([] : List (Nat × Nat))[j]? = some q := hq; simp at hq), fun j q hq => (by have hq : ([] : List (Nat × Nat))[j]? = some q := hq; simp at hq)⟩, ⟨?_, Nat.zero_le _, fun i hi => absurd hi (Nat.not_lt_zero _)⟩, ⟨?_, Nat.zero_le _, fun i hi => absurd hi (Nat.not_lt_zero _)⟩, ?_, ?_, ?_⟩
  · unfold hs8
    rw [xu_n (by decide), xr_s]
    rfl
  · show hs8 y h 43 7 = nI (HS.wall h)
    unfold hs8
    rw [xu_s]
    exact hR.2.2.2.2.2.1
  · rw [e 45 (by omega) (by omega) (by omega) (by omega) (by omega) (by omega) (by omega) (by omega) (by omega) (by omega) (by omega)]
    exact k2.2.2
  · show RCt _ (setT a (aT a) 0 (-1))
    unfold RCt
    rw [e 1 (by omega) (by omega) (by omega) (by omega) (by omega) (by omega) (by omega) (by omega) (by omega) (by omega) (by omega), e 2 (by omega) (by omega) (by omega) (by omega) (by omega) (by omega) (by omega) (by omega) (by omega) (by omega) (by omega)]
    exact k3
  · rw [hs8_n (by decide) (by decide)]
    rfl
  · rw [hs8_n (by decide) (by decide)]
    rfl
  · rw [hs8_n (by decide) (by decide)]
    rfl
  · rw [hs8_n (by decide) (by decide)]
    rfl
  · rw [hs8_n (by decide) (by decide)]
    show hs7 y 0 15 = aU a
    unfold hs7
    rw [xu_k (by decide), xu_n (by decide), xu_n (by decide), xu_n (by decide), tkX_n (by decide) (by decide), tkX_n (by decide) (by decide), hcB_n (by decide), (hcA_row y 5).2.2.2.2 0 (by omega)]
    exact k7.2.1
  · rw [hs8_n (by decide) (by decide)]
    show hs7 y 0 16 = aX a
    unfold hs7
    rw [xu_k (by decide), xu_n (by decide), xu_n (by decide), xu_n (by decide), tkX_n (by decide) (by decide), tkX_n (by decide) (by decide), hcB_n (by decide), (hcA_row y 5).2.2.2.2 0 (by omega)]
    exact k7.2.2
set_option maxHeartbeats 8000000 in
set_option maxRecDepth 20000 in
theorem f_house {a : AS} {x : XS} {v : Int32} (hC : RC x a) (hA : AI a) : CHG mX9_house [.ref 0, .int v] x (oHouse a v) := by
  refine MM.of (by decide) (Nat.le_of_ble_eq_true rfl) ?_
  have y0 := lay_0
  have y1 := lay_1
  have y3 := lay_3
  have y13 := lay_13
  have y23 := lay_23
  have y24 := lay_24
  have y27 := lay_27
  have y33 := lay_33
  have y43 := lay_43
  have y55 := lay_55
  have y73 := lay_73
  refine r_aload_n dX9_house_0 rfl (by rfl) ?_
  refine r_iload_n dX9_house_1 rfl (by rfl) ?_
  refine r_sipush (v := nI 600) dX9_house_2 (by decide) ?_
  by_cases qo : inB v (nI 0) (nI (min 600 (aH a))) = true
  case neg => exact r_callVT (c_open_f hC (by decide) (Bool.eq_false_iff.mpr qo)) mv_X9_openText ml_X9_121 ⟨by decide, by decide⟩ dX9_house_5 lay_0 rfl rfl rfl (Nat.le_of_ble_eq_true rfl) ⟨by decide, by decide⟩ (fun E y h => by obtain ⟨rfl, e⟩ := h; exact chg_er (by unfold oHouse; rw [if_neg qo]) hC e)
  have h6 := hC.2.2.1.2.1
  obtain ⟨k, _, hk, rfl⟩ := inB_is qo (by omega) (Nat.zero_le _)
  refine r_callV (c_open_t hC (by omega) (by decide) (by omega)) mv_X9_openText ml_X9_121 ⟨by decide, by decide⟩ dX9_house_5 lay_0 rfl rfl rfl (Nat.le_of_ble_eq_true rfl) (fun v9 x9 h9 => ?_)
  obtain ⟨rfl, h9⟩ := h9
  refine PW.xeq h9 ?_
  clear h9 x9
  have hT := op_TP (n := k) hC (by omega)
  refine r_aload_n dX9_house_8 rfl (by rfl) ?_
  refine gf_X9_23 rfl dX9_house_9 (by first | assumption | rfl) (by rfl) ?_
  refine r_aload_n dX9_house_12 rfl (by rfl) ?_
  refine gf_X9_10 rfl dX9_house_13 (by first | assumption | rfl) (by rfl) ?_
  refine r_callV (c_X3_read hT) mv_X3_read ml_X9_125 ⟨by decide, by decide⟩ dX9_house_16 (by first | assumption | rfl) rfl rfl rfl (Nat.le_of_ble_eq_true rfl) (fun v9 y h9 => ?_)
  obtain ⟨rfl, hP, hB⟩ := h9
  refine r_if_neB (tgt := 33) dX9_house_19 (by decide) (fun h19 => ?_) (fun h19 => ?_)
  · obtain ⟨q, e1⟩ := okB_t h19
    have I1 := hB q e1
    obtain ⟨r1, r2⟩ := txt_ok hC hP e1 sup_H
    refine r_aload_n dX9_house_33 rfl (by rfl) ?_
    refine gf_X9_19 rfl dX9_house_34 (by first | assumption | rfl) (by rfl) ?_
    refine r_aload_n dX9_house_37 rfl (by rfl) ?_
    refine gf_X9_23 rfl dX9_house_38 (by first | assumption | rfl) (by rfl) ?_
    refine r_callV c_X3_copy mv_X3_copy ml_X9_132 ⟨by decide, by decide⟩ dX9_house_41 (by first | assumption | rfl) rfl rfl rfl (Nat.le_of_ble_eq_true rfl) (fun v9 x9 h9 => ?_)
    obtain ⟨rfl, h9⟩ := h9
    refine PW.xeq h9 ?_
    clear h9 x9
    refine r_aload_n dX9_house_44 rfl (by rfl) ?_
    refine gf_X9_29 rfl dX9_house_45 (by first | assumption | rfl) (by rfl) ?_
    refine r_iconst (v := nI 0) dX9_house_48 (by decide) ?_
    refine r_aaldLN (d9 := 24) dX9_house_49 lay_23 rfl (by decide) ?_
    refine r_callV (c_X5_takeLoudWithout (Or.inl rfl)) mv_X5_takeLoudWithout ml_X9_101 ⟨by decide, by decide⟩ dX9_house_50 (by first | assumption | rfl) rfl rfl rfl (Nat.le_of_ble_eq_true rfl) (fun v9 x9 h9 => ?_)
    obtain ⟨rfl, h9⟩ := h9
    refine PW.xeq h9 ?_
    clear h9 x9
    refine r_aload_n dX9_house_53 rfl (by rfl) ?_
    refine gf_X9_29 rfl dX9_house_54 (by first | assumption | rfl) (by rfl) ?_
    refine r_iconst (v := nI 1) dX9_house_57 (by decide) ?_
    refine r_aaldLN (d9 := 27) dX9_house_58 lay_23 rfl (by decide) ?_
    refine r_callV (c_X5_takeFallsWithout (Or.inr (Or.inl rfl))) mv_X5_takeFallsWithout ml_X9_104 ⟨by decide, by decide⟩ dX9_house_59 (by first | assumption | rfl) rfl rfl rfl (Nat.le_of_ble_eq_true rfl) (fun v9 x9 h9 => ?_)
    obtain ⟨rfl, h9⟩ := h9
    refine PW.xeq h9 ?_
    clear h9 x9
    refine r_aload_n dX9_house_62 rfl (by rfl) ?_
    refine gf_X9_40 rfl dX9_house_63 (by first | assumption | rfl) (by rfl) ?_
    refine r_iconst (v := nI 0) dX9_house_66 (by decide) ?_
    refine pf_X9_136 rfl dX9_house_67 (by first | assumption | rfl) (by rfl) ?_
    refine r_aload_n dX9_house_70 rfl (by rfl) ?_
    refine gf_X9_69 rfl dX9_house_71 (by first | assumption | rfl) (by rfl) ?_
    refine r_iconst (v := nI 0) dX9_house_74 (by decide) ?_
    refine pf_X9_139 rfl dX9_house_75 (by first | assumption | rfl) (by rfl) ?_
    refine r_aload_n dX9_house_78 rfl (by rfl) ?_
    refine gf_X9_76 rfl dX9_house_79 (by first | assumption | rfl) (by rfl) ?_
    refine r_iconst (v := nI 0) dX9_house_82 (by decide) ?_
    refine pf_X9_140 rfl dX9_house_83 (by first | assumption | rfl) (by rfl) ?_
    refine r_aload_n dX9_house_86 rfl (by rfl) ?_
    refine r_iconst (v := nI 0) dX9_house_87 (by decide) ?_
    refine pf_X9_91 rfl dX9_house_88 (by first | assumption | rfl) (by rfl) ?_
    refine r_aload_n dX9_house_91 rfl (by rfl) ?_
    refine gf_X9_59 rfl dX9_house_92 (by first | assumption | rfl) (by rfl) ?_
    refine PW.xeq (x' := hs7 y) rfl ?_
    refine r_callV (c_X6_begin (n := HS.n q.1) I1.2.2.2.2.1 (hs7_RE I1).1) mv_X6_begin ml_X9_107 ⟨by decide, by decide⟩ dX9_house_95 (by first | assumption | rfl) rfl rfl rfl (Nat.le_of_ble_eq_true rfl) (fun v9 x9 h9 => ?_)
    obtain ⟨rfl, h9⟩ := h9
    refine PW.xeq h9 ?_
    clear h9 x9
    refine PW.agr (hs8_agr I1) ?_
    refine r_aload_n dX9_house_98 rfl (by rfl) ?_
    refine gf_X9_19 rfl dX9_house_99 (by first | assumption | rfl) (by rfl) ?_
    refine gf_X9_141 rfl dX9_house_102 (by first | assumption | rfl) (by rfl) ?_
    refine r_iretW rfl dX9_house_105 ?_
    refine chg_ok (w := _) (b := aNew a q.1) ?_ (house_RC r1 I1) (fun c hc => ((hs8_n (by omega) (by omega)).trans (hs7_n (by omega) (by omega) (by omega) (by omega) (by omega) (by omega) (by omega) (by omega) (by omega))).trans (r2 c hc))
    unfold oHouse
    rw [if_pos qo, nN_nI (by omega), e1, hs8_n (by decide) (by decide), (hs7_RE I1).1]
    rfl
  · refine r_aload_n dX9_house_22 rfl (by rfl) ?_
    refine gf_X9_10 rfl dX9_house_23 (by first | assumption | rfl) (by rfl) ?_
    refine gf_X9_129 rfl dX9_house_26 (by first | assumption | rfl) (by rfl) ?_
    refine r_bipush (v := nI 10) dX9_house_29 (by decide) ?_
    refine r_isub dX9_house_31 ?_
    refine r_iretW rfl dX9_house_32 ?_
    obtain ⟨er, e1⟩ := okB_f h19
    obtain ⟨r1, r2, r3⟩ := txt_err hC hP e1 sup_H
    exact chg_ok (by unfold oHouse; rw [if_pos qo, nN_nI (by omega), e1]; show txtE a er = _; unfold txtE; rw [r3]) r1 r2
/-! THE FACE: work -/
def oWork (a : AS) (v : Int32) : Except Nat Int32 × AS := if inB v (nI 0) (nI (min 150 (aH a))) then (if 16 ≤ aWn a then (.ok (-20), setT a (aT a) 0 (-1)) else match pWork (aT a) (nN v) (eN (aE a)) 0 with
  | .error e => txtE a e
  | .ok q => (.ok (wRun (aE a) q.1 (aR a)).2.2.1, (a.1, (wRun (aE a) q.1 (aR a)).1, (aT a, 0, -1), a.2.2.2.1, (aWn a + 1, (fun i => if i = aWn a then aR a else aW a i)), a.2.2.2.2.2.1, (wRun (aE a) q.1 (aR a)).2.2.2, aU a, aX a))) else (.error 1, bmX a)
/-- class and spec, side by side, while work is carried out -/
def RW (E : NE) (K O T : Nat → Nat) (z : Nat) (z0 y : XS) (s : WK) : Prop := CI (eN E) (eL E).length (eF E).length K O T z y ∧ y 44 = s.1 ∧ y 39 4 = nI s.2.1 ∧ s.2.1 ≤ 240 ∧ y 39 5 = s.2.2.1 ∧ y 39 6 = s.2.2.2 ∧ ∀ c, c ≠ 44 → c ≠ 46 → c ≠ 47 → c ≠ 48 → c ≠ 26 → c ≠ 29 → c ≠ 39 → y c = z0 c
theorem pfX_row {E : NE} {y : XS} {kd p q t : Nat} (hR : RE y E) (h7 : y 43 7 = eW E) (h45 : y 45 = rd0) (ht : y 44 40 = nI t) (h2 : t ≤ 240) : pfX y 43 (eN E) (eL E).length (eF E).length kd p q 44 = pfR E (y 44) kd p q := by
  unfold pfX pfR
  by_cases h0 : kd = 0
  · rw [if_pos h0, if_pos h0]; exact xr_s
  · rw [if_neg h0, if_neg h0]
    by_cases h5 : kd = 5
    · rw [if_pos h5, if_pos h5]
      have e := MN_row (k := nI 0) hR (c0 := 43) (Or.inl rfl) (t := t) ht h2
      rw [show (43 : Nat) + 1 = 44 from rfl, show (43 : Nat) + 2 = 45 from rfl, h7, h45] at e
      exact e
    · rw [if_neg h5, if_neg h5]
      by_cases h4 : kd = 4
      · rw [if_pos h4, if_pos h4]; exact xr_s
      · rw [if_neg h4, if_neg h4]
        by_cases ha : asl (y 44) p = true
        · rw [if_pos (show asl (y (43 + 1)) p = true from ha), if_pos ha]
        · rw [if_neg (show ¬ asl (y (43 + 1)) p = true from ha), if_neg ha]; exact xr_s
theorem work_sim {E : NE} {K O T : Nat → Nat} {z : Nat} {z0 : XS} (hR : RE z0 E) (h7 : z0 43 7 = eW E) (h45 : z0 45 = rd0) (hW : WI K O T z) : ∀ lev i to y s, to ≤ z → RW E K O T z z0 y s → RW E K O T z z0 (exCL (eN E) (eL E).length (eF E).length K O T lev i to y) (exL wBeg wTick (wDo E K O T) K O T lev i to s) := by
  refine exL_sim (R := RW E K O T z z0) (fun i hi hk => (hW.2 i hi).2.2.2 hk) ?_ ?_ ?_
  · rintro y s ⟨c, h44, h4, hb, h5, h6, fr⟩
    exact begC_of h4 hb
  · rintro y s ⟨c, h44, h4, hb, h5, h6, fr⟩ hlt
    have eb := begC_of h4 hb
    have hlt : s.2.1 < 240 := hlt
    refine ⟨c.tick (by omega), h44, ?_, by show s.2.1 + 1 ≤ 240; omega, h5, h6, fun c h1 h2 h3 h4 h5 h6 h7 => (xu_n h7).trans (fr c h1 h2 h3 h4 h5 h6 h7)⟩
    show nI (begC y + 1) = nI (s.2.1 + 1)
    rw [eb]
  · rintro i y s hi hk ⟨c, h44, h4, hb, h5, h6, fr⟩
    have hRy : RE y E := hR.fr (fun c hc => fr c (by omega) (by omega) (by omega) (by omega) (by omega) (by omega) (by omega))
    obtain ⟨t, ht2, ht⟩ := c.2.2.2.1
    have wi := hW.2 i hi
    have row := pfX_row (kd := K i) (p := O i) (q := T i) hRy ((congrFun (fr 43 (by decide) (by decide) (by decide) (by decide) (by decide) (by decide) (by decide)) 7).trans h7) ((fr 45 (by decide) (by decide) (by decide) (by decide) (by decide) (by decide) (by decide)).trans h45) ht ht2
    have e39 : pfX y 43 (eN E) (eL E).length (eF E).length (K i) (O i) (T i) 39 = y 39 := pfX_n (by decide) (by decide) (by decide) (by decide) (by decide) (by decide)
    have cd := CI.doit hR.2.1 hW hi hk c
    have fr2 : ∀ c, c ≠ 44 → c ≠ 46 → c ≠ 47 → c ≠ 48 → c ≠ 26 → c ≠ 29 → pfX y 43 (eN E) (eL E).length (eF E).length (K i) (O i) (T i) c = y c := fun c h1 h2 h3 h4 h5 h6 => pfX_n h1 h2 h3 h4 h5 h6
    unfold doitC wDo at *
    rw [h44] at cd row ⊢
    unfold nN
    by_cases hB : pfB s.1 (K i) (O i) (T i) (s.1 40).toNatClampNeg = true
    · rw [if_pos hB] at cd
      rw [if_pos hB, if_pos hB]
      refine ⟨cd, ?_, ?_, hb, ?_, ?_, fun c h1 h2 h3 h4 h5 h6 h7 => ?_⟩
      · rw [xu_n (by decide)]; exact row
      · rw [xu_k (by decide), e39]; exact h4
      · rw [xu_s, e39, h5]
      · rw [xu_k (by decide), e39]; exact h6
      · rw [xu_n h7, fr2 c h1 h2 h3 h4 h5 h6]; exact fr c h1 h2 h3 h4 h5 h6 h7
    · rw [if_neg hB] at cd
      rw [if_neg hB, if_neg hB]
      refine ⟨cd, ?_, ?_, hb, ?_, ?_, fun c h1 h2 h3 h4 h5 h6 h7 => ?_⟩
      · rw [xu_n (by decide)]; exact row
      · rw [xu_k (by decide), e39]; exact h4
      · rw [xu_k (by decide), e39]; exact h5
      · rw [xu_s, e39, h6]
      · rw [xu_n h7, fr2 c h1 h2 h3 h4 h5 h6]; exact fr c h1 h2 h3 h4 h5 h6 h7
def kpX (y : XS) (s : Nat) : XS := xu (cpX y (57 + s) 44) 55 1 (nI (s + 1))
theorem kp_agr {y : XS} {s : Nat} (hs : s < 16) (h : y 55 1 = nI s) : agr (hkeepX y s) (kpX y s) := by
  unfold hkeepX kpX
  rw [h, nI_1']
  exact agr.put (cp_agr agr.rfl (csz_w hs) csz_44) _ _ _
theorem kpX_n {y : XS} {s c : Nat} (h1 : c ≠ 55) (h2 : c ≠ 57 + s) : kpX y s c = y c := by
  unfold kpX cpX
  rw [xu_n h1, xr_n h2]
theorem map_get {α β : Type} {l : List α} {g : α → β} {i : Nat} {d : α} (h : i < l.length) : (l.map g)[i]? = some (g (l.getD i d)) := by
  rw [List.getElem?_map, List.getD_eq_getElem?_getD, List.getElem?_eq_getElem h]
  rfl
theorem kp_RW {x y : XS} {a : AS} {l : List ST} {s : Nat} {t : Nat} (hC : RC y a) (hs : s < 16) (hw : WS3 (xu (xu (xu (xu x 39 3 (nI 0)) 39 4 (nI 0)) 39 5 (nI 0)) 39 6 (nI 0)) y 0 l) (ht : aR a 40 = nI t) (ht2 : t ≤ 240) : RW (aE a) (lK l) (lO l) (lT l) l.length (kpX y s) (kpX y s) (aR a, 0, nI 0, nI 0) := by
  have e39 : kpX y s 39 = y 39 := kpX_n (by decide) (by omega)
  have hz := hC.1.sz
  refine ⟨⟨?_, ?_, ?_, ⟨t, ht2, ?_⟩, ⟨0, by decide, ?_⟩, fun i hi => ?_⟩, ?_, ?_, Nat.zero_le _, ?_, ?_, fun _ _ _ _ _ _ _ _ => rfl⟩
  · rw [kpX_n (by decide) (by omega)]; exact hC.1.1
  · rw [kpX_n (by decide) (by omega)]; exact hz.1
  · rw [kpX_n (by decide) (by omega)]; exact hz.2.2.1
  · rw [kpX_n (by decide) (by omega), hC.2.1.1]; exact ht
  · rw [e39, hw.2.2.2.2 4 (by decide)]; rfl
  · rw [kpX_n (by decide) (by omega), kpX_n (by decide) (by omega), kpX_n (by decide) (by omega), hw.2.1, hw.2.2.1, hw.2.2.2.1]
    exact ⟨wrL_get _ _ (map_get (d := (0, 0, 0)) hi), wrL_get _ _ (map_get (d := (0, 0, 0)) hi), wrL_get _ _ (map_get (d := (0, 0, 0)) hi)⟩
  · rw [kpX_n (by decide) (by omega)]; exact hC.2.1.1
  · rw [e39, hw.2.2.2.2 4 (by decide)]; rfl
  · rw [e39, hw.2.2.2.2 5 (by decide)]; rfl
  · rw [e39, hw.2.2.2.2 6 (by decide)]; rfl
theorem work_RC {y w : XS} {a : AS} {E : NE} {K O T : Nat → Nat} {z : Nat} {s : WK} (hC : RC y (setT a (aT a) 0 (-1))) (hn : aWn a < 16) (hE : E = aE a) (h : RW E K O T z (kpX y (aWn a)) w s) : RC (xu w 0 14 (w 39 6)) (a.1, s.1, (aT a, 0, -1), a.2.2.2.1, (aWn a + 1, (fun i => if i = aWn a then aR a else aW a i)), a.2.2.2.2.2.1, s.2.2.2, aU a, aX a) := by
  obtain ⟨k1, k2, k3, k4, k5, k6, k7⟩ := hC
  obtain ⟨c, h44, h4, hb, h5, h6, fr⟩ := h
  have e0 : ∀ c, c ≠ 44 → c ≠ 46 → c ≠ 47 → c ≠ 48 → c ≠ 26 → c ≠ 29 → c ≠ 39 → c ≠ 0 → xu w 0 14 (w 39 6) c = kpX y (aWn a) c := fun c h1 h2 h3 h4 h5 h6 h7 h8 => (xu_n h8).trans (fr c h1 h2 h3 h4 h5 h6 h7)
  have e : ∀ c, c ≠ 44 → c ≠ 46 → c ≠ 47 → c ≠ 48 → c ≠ 26 → c ≠ 29 → c ≠ 39 → c ≠ 0 → c ≠ 55 → c ≠ 57 + aWn a → xu w 0 14 (w 39 6) c = y c := fun c h1 h2 h3 h4 h5 h6 h7 h8 h9 h10 => (e0 c h1 h2 h3 h4 h5 h6 h7 h8).trans (kpX_n h9 h10)
  refine ⟨k1.fr (fun c hc => e c (by omega) (by omega) (by omega) (by omega) (by omega) (by omega) (by omega) (by omega) (by omega) (by omega)), ⟨?_, ?_, ?_⟩, ?_, ?_, ⟨?_, by show aWn a + 1 ≤ 16; omega, fun i hi => ?_⟩, k6.fr (fun c h1 h2 => e c (by omega) (by omega) (by omega) (by omega) (by omega) (by omega) (by omega) (by omega) (by omega) (by omega)), ?_, ?_, ?_⟩
  · rw [xu_n (by decide)]; exact h44
  · rw [e 43 (by omega) (by omega) (by omega) (by omega) (by omega) (by omega) (by omega) (by omega) (by omega) (by omega)]; exact k2.2.1
  · rw [e 45 (by omega) (by omega) (by omega) (by omega) (by omega) (by omega) (by omega) (by omega) (by omega) (by omega)]; exact k2.2.2
  · show RCt _ (setT a (aT a) 0 (-1))
    unfold RCt
    rw [e 1 (by omega) (by omega) (by omega) (by omega) (by omega) (by omega) (by omega) (by omega) (by omega) (by omega), e 2 (by omega) (by omega) (by omega) (by omega) (by omega) (by omega) (by omega) (by omega) (by omega) (by omega)]
    exact k3
  · show RCb _ a
    unfold RCb
    rw [e 33 (by omega) (by omega) (by omega) (by omega) (by omega) (by omega) (by omega) (by omega) (by omega) (by omega), e 34 (by omega) (by omega) (by omega) (by omega) (by omega) (by omega) (by omega) (by omega) (by omega) (by omega), e 35 (by omega) (by omega) (by omega) (by omega) (by omega) (by omega) (by omega) (by omega) (by omega) (by omega)]
    exact k4
  · rw [e0 55 (by omega) (by omega) (by omega) (by omega) (by omega) (by omega) (by omega) (by omega)]
    rfl
  · have hi : i < aWn a + 1 := hi
    show xu w 0 14 (w 39 6) (57 + i) = if i = aWn a then aR a else aW a i
    by_cases ei : i = aWn a
    · rw [if_pos ei, e0 (57 + i) (by omega) (by omega) (by omega) (by omega) (by omega) (by omega) (by omega) (by omega), ei]
      unfold kpX cpX
      rw [xu_n (by omega), xr_s]
      exact k2.1
    · rw [if_neg ei, e (57 + i) (by omega) (by omega) (by omega) (by omega) (by omega) (by omega) (by omega) (by omega) (by omega) (by omega)]
      exact k5.2.2 i (show i < aWn a by omega)
  · show w 39 6 = s.2.2.2
    exact h6
  · show xu w 0 14 (w 39 6) 0 15 = aU a
    rw [xu_k (by decide), fr 0 (by omega) (by omega) (by omega) (by omega) (by omega) (by omega) (by omega), kpX_n (by omega) (by omega)]
    exact k7.2.1
  · show xu w 0 14 (w 39 6) 0 16 = aX a
    rw [xu_k (by decide), fr 0 (by omega) (by omega) (by omega) (by omega) (by omega) (by omega) (by omega), kpX_n (by omega) (by omega)]
    exact k7.2.2
set_option maxHeartbeats 8000000 in
set_option maxRecDepth 20000 in
theorem f_work {a : AS} {x : XS} {v : Int32} (hC : RC x a) (hA : AI a) : CHG mX9_work [.ref 0, .int v] x (oWork a v) := by
  refine MM.of (by decide) (Nat.le_of_ble_eq_true rfl) ?_
  have y0 := lay_0
  have y1 := lay_1
  have y3 := lay_3
  have y39 := lay_39
  have y43 := lay_43
  have y55 := lay_55
  obtain ⟨t, ht2, ht⟩ := hA.t
  have hw := hC.2.2.2.2.1.1
  have h16 := hC.2.2.2.2.1.2.1
  refine r_aload_n dX9_work_0 rfl (by rfl) ?_
  refine r_iload_n dX9_work_1 rfl (by rfl) ?_
  refine r_sipush (v := nI 150) dX9_work_2 (by decide) ?_
  by_cases qo : inB v (nI 0) (nI (min 150 (aH a))) = true
  case neg => exact r_callVT (c_open_f hC (by decide) (Bool.eq_false_iff.mpr qo)) mv_X9_openText ml_X9_121 ⟨by decide, by decide⟩ dX9_work_5 lay_0 rfl rfl rfl (Nat.le_of_ble_eq_true rfl) ⟨by decide, by decide⟩ (fun E y h => by obtain ⟨rfl, e⟩ := h; exact chg_er (by unfold oWork; rw [if_neg qo]) hC e)
  have h6 := hC.2.2.1.2.1
  obtain ⟨k, _, hk, rfl⟩ := inB_is qo (by omega) (Nat.zero_le _)
  refine r_callV (c_open_t hC (by omega) (by decide) (by omega)) mv_X9_openText ml_X9_121 ⟨by decide, by decide⟩ dX9_work_5 lay_0 rfl rfl rfl (Nat.le_of_ble_eq_true rfl) (fun v9 x9 h9 => ?_)
  obtain ⟨rfl, h9⟩ := h9
  refine PW.xeq h9 ?_
  clear h9 x9
  have hT := op_TP (n := k) hC (by omega)
  refine r_aload_n dX9_work_8 rfl (by rfl) ?_
  refine gf_X9_69 rfl dX9_work_9 (by first | assumption | rfl) (by rfl) ?_
  refine r_callV (c_X2_isFull (Or.inl rfl) (show opX x k 55 1 = nI (aWn a) from (by rw [opX_n (by decide)]; exact hw)) h16) mv_X2_isFull ml_X9_156 ⟨by decide, by decide⟩ dX9_work_12 (by first | assumption | rfl) rfl rfl rfl (Nat.le_of_ble_eq_true rfl) (fun v9 x9 h9 => ?_)
  obtain ⟨rfl, h9⟩ := h9
  refine PW.xeq h9 ?_
  clear h9 x9
  refine r_if_eqB (tgt := 21) dX9_work_15 (by decide) (fun h15 => ?_) (fun h15 => ?_)
  · refine r_aload_n dX9_work_21 rfl (by rfl) ?_
    refine gf_X9_50 rfl dX9_work_22 (by first | assumption | rfl) (by rfl) ?_
    refine r_aload_n dX9_work_25 rfl (by rfl) ?_
    refine gf_X9_10 rfl dX9_work_26 (by first | assumption | rfl) (by rfl) ?_
    refine r_aload_n dX9_work_29 rfl (by rfl) ?_
    refine gf_X9_19 rfl dX9_work_30 (by first | assumption | rfl) (by rfl) ?_
    refine gf_X9_141 rfl dX9_work_33 (by first | assumption | rfl) (by rfl) ?_
    refine PW.topi (show _ = nI (eN (aE a)) from hC.1.1) ?_
    refine r_callV (c_X7_read (by omega) hC.1.2.1 hT) mv_X7_read ml_X9_159 ⟨by decide, by decide⟩ dX9_work_36 (by first | assumption | rfl) rfl rfl rfl (Nat.le_of_ble_eq_true rfl) (fun v9 y h9 => ?_)
    obtain ⟨rfl, hP, hB⟩ := h9
    refine r_if_neB (tgt := 53) dX9_work_39 (by decide) (fun h39 => ?_) (fun h39 => ?_)
    · obtain ⟨q, e1⟩ := okB_t h39
      have I1 := hB q e1
      obtain ⟨r1, r2⟩ := txt_ok hC hP e1 sup_S
      have h15 := of_decide_eq_false h15
      have ok := pWork_ok hC.1.2.1 (by omega) ((hP.ok e1).1.2.2.2.1) e1
      have RW0 := kp_RW (s := aWn a) r1 (by omega) I1 ht ht2
      have RW0r : RE (kpX y (aWn a)) (aE a) ∧ kpX y (aWn a) 43 7 = eW (aE a) ∧ kpX y (aWn a) 45 = rd0 := ⟨r1.1.fr (fun c hc => kpX_n (by omega) (by omega)), by rw [kpX_n (by decide) (by omega)]; exact r1.2.1.2.1, by rw [kpX_n (by decide) (by omega)]; exact r1.2.1.2.2⟩
      refine r_aload_n dX9_work_53 rfl (by rfl) ?_
      refine gf_X9_69 rfl dX9_work_54 (by first | assumption | rfl) (by rfl) ?_
      refine r_aload_n dX9_work_57 rfl (by rfl) ?_
      refine gf_X9_59 rfl dX9_work_58 (by first | assumption | rfl) (by rfl) ?_
      refine gf_X9_162 rfl dX9_work_61 (by first | assumption | rfl) (by rfl) ?_
      refine r_callV (c_X2_keep (s := aWn a) r1.2.2.2.2.1.1 (by omega)) mv_X2_keep ml_X9_165 ⟨by decide, by decide⟩ dX9_work_64 (by first | assumption | rfl) rfl rfl rfl (Nat.le_of_ble_eq_true rfl) (fun v9 x9 h9 => ?_)
      obtain ⟨rfl, h9⟩ := h9
      refine PW.xeq h9 ?_
      clear h9 x9
      refine PW.agr (kp_agr (by omega) r1.2.2.2.2.1.1) ?_
      refine r_aload_n dX9_work_67 rfl (by rfl) ?_
      refine gf_X9_50 rfl dX9_work_68 (by first | assumption | rfl) (by rfl) ?_
      refine r_aload_n dX9_work_71 rfl (by rfl) ?_
      refine gf_X9_59 rfl dX9_work_72 (by first | assumption | rfl) (by rfl) ?_
      refine r_iconst (v := nI 0) dX9_work_75 (by decide) ?_
      refine r_aload_n dX9_work_76 rfl (by rfl) ?_
      refine gf_X9_50 rfl dX9_work_77 (by first | assumption | rfl) (by rfl) ?_
      refine gf_X9_169 rfl dX9_work_80 (by first | assumption | rfl) (by rfl) ?_
      refine PW.topi (show _ = nI q.1.length from (by rw [kpX_n (by decide) (by omega), I1.1, Nat.zero_add])) ?_
      refine r_iconst (v := nI 0) dX9_work_83 (by decide) ?_
      refine r_callV (carry_all hC.1.2.1 hC.1.sz.2.1 hC.1.sz.2.2.2 ok.1 6 0 rfl 0 q.1.length _ RW0.1 (Nat.le_refl _) (Nat.zero_le _)) mv_X7_carryOut ml_X9_170 ⟨by decide, by decide⟩ dX9_work_84 (by first | assumption | rfl) rfl rfl rfl (Nat.le_of_ble_eq_true rfl) (fun v9 w h9 => ?_)
      obtain ⟨rfl, ew⟩ := h9
      have RW1 := work_sim (RW0r).1 RW0r.2.1 RW0r.2.2 ok.1 6 0 q.1.length _ _ (Nat.le_refl _) RW0
      rw [← ew] at RW1
      refine r_aload_n dX9_work_87 rfl (by rfl) ?_
      refine r_aload_n dX9_work_88 rfl (by rfl) ?_
      refine gf_X9_50 rfl dX9_work_89 (by first | assumption | rfl) (by rfl) ?_
      refine gf_X9_174 rfl dX9_work_92 (by first | assumption | rfl) (by rfl) ?_
      refine pf_X9_91 rfl dX9_work_95 (by first | assumption | rfl) (by rfl) ?_
      refine r_aload_n dX9_work_98 rfl (by rfl) ?_
      refine gf_X9_50 rfl dX9_work_99 (by first | assumption | rfl) (by rfl) ?_
      refine gf_X9_177 rfl dX9_work_102 (by first | assumption | rfl) (by rfl) ?_
      refine r_iretW rfl dX9_work_105 ?_
      refine chg_ok (w := _) ?_ (work_RC r1 (by omega) rfl RW1) (fun c hc => ?_)
      · unfold oWork
        rw [if_pos qo, if_neg (by omega), nN_nI (by omega), e1]
        show (Except.ok (wRun (aE a) q.1 (aR a)).2.2.1, _) = _
        rw [show (wRun (aE a) q.1 (aR a)).2.2.1 = xu w 0 14 (w 39 6) 39 5 from RW1.2.2.2.2.1.symm]
        rfl
      · rw [xu_n (by omega), RW1.2.2.2.2.2.2 c (by omega) (by omega) (by omega) (by omega) (by omega) (by omega) (by omega), kpX_n (by omega) (by omega)]
        exact r2 c hc
    · refine r_aload_n dX9_work_42 rfl (by rfl) ?_
      refine gf_X9_10 rfl dX9_work_43 (by first | assumption | rfl) (by rfl) ?_
      refine gf_X9_129 rfl dX9_work_46 (by first | assumption | rfl) (by rfl) ?_
      refine r_bipush (v := nI 10) dX9_work_49 (by decide) ?_
      refine r_isub dX9_work_51 ?_
      refine r_iretW rfl dX9_work_52 ?_
      obtain ⟨er, e1⟩ := okB_f h39
      obtain ⟨r1, r2, r3⟩ := txt_err hC hP e1 sup_S
      exact chg_ok (by unfold oWork; rw [if_pos qo, if_neg (of_decide_eq_false h15), nN_nI (by omega), e1]; show txtE a er = _; unfold txtE; rw [r3]) r1 r2
  · refine r_bipush (v := -20) dX9_work_18 (by decide) ?_
    refine r_iretW rfl dX9_work_20 ?_
    have h15 := of_decide_eq_true h15
    exact chg_ok (by unfold oWork; rw [if_pos qo, if_pos h15]) (hC.tape (p := -1) (fun c h2 hs => opX_n (by unfold RSup at hs; omega)) rfl (by omega) rfl (fun j hj => hC.tp j hj)) (fun c hc => opX_n (by omega))
