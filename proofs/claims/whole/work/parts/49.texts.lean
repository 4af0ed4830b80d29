/-! THE FACE: texts -/
def opX (x : XS) (n : Nat) : XS := xu (xu (xu (xu (xu x 1 2 (nI n)) 1 3 (nI 0)) 1 1 (nI 0)) 1 4 (nI 0)) 1 5 (-1)
theorem opX_n {x : XS} {n c : Nat} (h : c ≠ 1) : opX x n c = x c := by unfold opX; rw [xu_n h, xu_n h, xu_n h, xu_n h, xu_n h]
theorem op_TP {x : XS} {a : AS} {n : Nat} (hC : RC x a) (h : n ≤ 600) : TP (opX x n) (aT a) n 0 := ⟨rfl, h, rfl, Nat.zero_le _, fun j hj => hC.tp j hj⟩
def txtE (a : AS) (e : PE) : Except Nat Int32 × AS := (.ok (nI e.1 - nI 10), setT a (aT a) 0 (nI e.2))
/-- a text was read, and it has a fault -/
theorem txt_err {α : Type} {S : Nat → Prop} {x y : XS} {a : AS} {n : Nat} {r : Except PE α} {pos : α → Nat} {e : PE} (hC : RC x a) (hP : PO S (opX x n) y (aT a) n r pos) (he : r = .error e) (hS : ∀ c, S c → ¬ RSup c ∧ c < 137) : RC y (txtE a e).2 ∧ HI x y ∧ y 1 4 = nI e.1 := by
  have w := hP.err he
  have fr : ∀ c, c ≠ 1 → ¬ S c → y c = x c := fun c h1 h2 => (hP.2.1 c h1 h2).trans (opX_n h1)
  refine ⟨hC.tape (fun c h2 hs => fr c (by unfold RSup at hs; omega) (fun q => (hS c q).1 hs)) (hP.1.trans rfl) (by omega) w.2 (fun j hj => ?_), fun c hc => fr c (by omega) (fun q => by have := (hS c q).2; omega), w.1⟩
  rw [fr 2 (by decide) (fun q => (hS 2 q).1 (by unfold RSup; omega))]
  exact hC.tp j hj
theorem txt_ok {α : Type} {S : Nat → Prop} {x y : XS} {a : AS} {n : Nat} {r : Except PE α} {pos : α → Nat} {q : α} (hC : RC x a) (hP : PO S (opX x n) y (aT a) n r pos) (he : r = .ok q) (hS : ∀ c, S c → ¬ RSup c ∧ c < 137) : RC y (setT a (aT a) 0 (-1)) ∧ HI x y := by
  have w := hP.ok he
  have fr : ∀ c, c ≠ 1 → ¬ S c → y c = x c := fun c h1 h2 => (hP.2.1 c h1 h2).trans (opX_n h1)
  refine ⟨hC.tape (fun c h2 hs => fr c (by unfold RSup at hs; omega) (fun q => (hS c q).1 hs)) (hP.1.trans rfl) (by omega) (w.2.2.trans rfl) (fun j hj => ?_), fun c hc => fr c (by omega) (fun q => by have := (hS c q).2; omega)⟩
  rw [fr 2 (by decide) (fun q => (hS 2 q).1 (by unfold RSup; omega))]
  exact hC.tp j hj
theorem sup_H : ∀ c, SH c → ¬ RSup c ∧ c < 137 := fun c h => by unfold SH at h; unfold RSup; omega
theorem sup_L : ∀ c, SL c → ¬ RSup c ∧ c < 137 := fun c h => by unfold SL at h; unfold RSup; omega
theorem sup_S : ∀ c, SS c → ¬ RSup c ∧ c < 137 := fun c h => by unfold SS at h; unfold RSup; omega
theorem sup_B : ∀ c, SB c → ¬ RSup c ∧ c < 137 := fun c h => by unfold SB at h; unfold RSup; omega
set_option maxHeartbeats 8000000 in
set_option maxRecDepth 20000 in
theorem c_open_t {a : AS} {x : XS} {k lg : Nat} (hC : RC x a) (hk : k ≤ lg) (hl : lg ≤ 600) (hk2 : k ≤ aH a) : MM mX9_openText 2 0 0 [.ref 0, .int (nI k), .int (nI lg)] x (fun v y => v = none ∧ y = opX x k) NoT := by
  refine MM.of (by decide) (Nat.le_of_ble_eq_true rfl) ?_
  have y0 := lay_0
  have y1 := lay_1
  have h6 := hC.2.2.1.2.1
  refine r_aload_n dX9_openText_0 rfl (by rfl) ?_
  refine r_iload_n dX9_openText_1 rfl (by rfl) ?_
  refine r_iconst (v := nI 0) dX9_openText_2 (by decide) ?_
  refine r_iload_n dX9_openText_3 rfl (by rfl) ?_
  refine r_aload_n dX9_openText_4 rfl (by rfl) ?_
  refine gf_X9_10 rfl dX9_openText_5 (by first | assumption | rfl) (by rfl) ?_
  refine gf_X9_118 rfl dX9_openText_8 (by first | assumption | rfl) (by rfl) ?_
  refine PW.topi hC.2.2.1.1 ?_
  refine r_callS c_min ms_J9_min_7cf53 ml_X9_332 ⟨by decide, by decide⟩ dX9_openText_11 rfl (Nat.le_of_ble_eq_true rfl) (fun v9 x9 h9 => ?_)
  obtain ⟨rfl, h9⟩ := h9
  refine PW.xeq h9 ?_
  clear h9 x9
  refine PW.topi (imin_N (by omega) (by omega)) ?_
  refine r_callS (c_within_t (inB_N (Nat.zero_le _) (show k ≤ min lg (aH a) by omega) (by omega))) ms_X9_within ml_X9_144 ⟨by decide, by decide⟩ dX9_openText_14 rfl (Nat.le_of_ble_eq_true rfl) (fun v9 x9 h9 => ?_)
  obtain ⟨rfl, h9⟩ := h9
  refine PW.xeq h9 ?_
  clear h9 x9
  refine r_callV c_require_t mv_X9_require ml_X9_148 ⟨by decide, by decide⟩ dX9_openText_17 (by first | assumption | rfl) rfl rfl rfl (Nat.le_of_ble_eq_true rfl) (fun v9 x9 h9 => ?_)
  obtain ⟨rfl, h9⟩ := h9
  refine PW.xeq h9 ?_
  clear h9 x9
  refine r_aload_n dX9_openText_20 rfl (by rfl) ?_
  refine gf_X9_10 rfl dX9_openText_21 (by first | assumption | rfl) (by rfl) ?_
  refine r_iload_n dX9_openText_24 rfl (by rfl) ?_
  refine r_callV (c_X8_open (by omega)) mv_X8_open ml_X9_346 ⟨by decide, by decide⟩ dX9_openText_25 (by first | assumption | rfl) rfl rfl rfl (Nat.le_of_ble_eq_true rfl) (fun v9 x9 h9 => ?_)
  obtain ⟨rfl, h9⟩ := h9
  refine PW.xeq h9 ?_
  clear h9 x9
  refine r_ret rfl dX9_openText_28 ?_
  exact ⟨rfl, rfl⟩
set_option maxHeartbeats 8000000 in
set_option maxRecDepth 20000 in
theorem c_open_f {a : AS} {x : XS} {v : Int32} {lg : Nat} (hC : RC x a) (hl : lg ≤ 600) (hv : inB v (nI 0) (nI (min lg (aH a))) = false) : MM mX9_openText 7 1 6 [.ref 0, .int v, .int (nI lg)] x (fun _ _ => False) (fun E y => E = thI ∧ y = badX x) := by
  refine MM.of (by decide) (Nat.le_of_ble_eq_true rfl) ?_
  have y0 := lay_0
  have y1 := lay_1
  have h6 := hC.2.2.1.2.1
  refine r_aload_n dX9_openText_0 rfl (by rfl) ?_
  refine r_iload_n dX9_openText_1 rfl (by rfl) ?_
  refine r_iconst (v := nI 0) dX9_openText_2 (by decide) ?_
  refine r_iload_n dX9_openText_3 rfl (by rfl) ?_
  refine r_aload_n dX9_openText_4 rfl (by rfl) ?_
  refine gf_X9_10 rfl dX9_openText_5 (by first | assumption | rfl) (by rfl) ?_
  refine gf_X9_118 rfl dX9_openText_8 (by first | assumption | rfl) (by rfl) ?_
  refine PW.topi hC.2.2.1.1 ?_
  refine r_callS c_min ms_J9_min_7cf53 ml_X9_332 ⟨by decide, by decide⟩ dX9_openText_11 rfl (Nat.le_of_ble_eq_true rfl) (fun v9 x9 h9 => ?_)
  obtain ⟨rfl, h9⟩ := h9
  refine PW.xeq h9 ?_
  clear h9 x9
  refine PW.topi (imin_N (by omega) (by omega)) ?_
  refine r_callS c_X9_within ms_X9_within ml_X9_144 ⟨by decide, by decide⟩ dX9_openText_14 rfl (Nat.le_of_ble_eq_true rfl) (fun v9 x9 h9 => ?_)
  obtain ⟨rfl, h9⟩ := h9
  refine PW.xeq h9 ?_
  clear h9 x9
  refine PW.topB hv ?_
  exact r_callVT c_require_f mv_X9_require ml_X9_148 ⟨by decide, by decide⟩ dX9_openText_17 lay_0 rfl rfl rfl (Nat.le_of_ble_eq_true rfl) ⟨by decide, by decide⟩ (fun E y h => h)
def oBook (a : AS) (v : Int32) : Except Nat Int32 × AS := if inB v (nI 0) (nI (min 100 (aH a))) then (match pBook (aT a) (nN v) 9 [] 0 with
  | .error e => txtE a e
  | .ok q => (.ok (nI q.1.length), (a.1, a.2.1, (aT a, 0, -1), q.1, a.2.2.2.2))) else (.error 1, bmX a)
theorem bookX_n {x : XS} {c : Nat} (h1 : c ≠ 33) (h2 : c ≠ 34) (h3 : c ≠ 35) : bookX x 8 c = x c := by
  unfold bookX
  rw [xr_n h3, xr_n h2, xu_n h1]
theorem book_RC {y : XS} {a : AS} {l : List (Nat × Nat)} (hC : RC y (setT a (aT a) 0 (-1))) (hB : BI y l) : RC (bookX y 8) (a.1, a.2.1, (aT a, 0, -1), l, a.2.2.2.2) := by
  obtain ⟨k1, k2, k3, k4, k5, k6, k7⟩ := hC
  refine ⟨k1.fr (fun c hc => bookX_n (by omega) (by omega) (by omega)), k2, k3, ⟨hB.1, hB.2.1, fun j q hq => ?_, hB.2.2.2⟩, k5.fr (fun c h1 h2 => bookX_n (by omega) (by omega) (by omega)), k6.fr (fun c h1 h2 => bookX_n (by omega) (by omega) (by omega)), k7⟩
  have hj : j < l.length := (List.getElem?_eq_some_iff.mp hq).1
  have h8 := hB.2.1
  have w := hB.2.2.1 j q hq
  show cpR (y 34) (y 37) 8 j = _ ∧ cpR (y 35) (y 38) 8 j = _
  rw [cpR_lt 8 (by omega), cpR_lt 8 (by omega)]
  exact w
set_option maxHeartbeats 8000000 in
set_option maxRecDepth 20000 in
theorem f_book {a : AS} {x : XS} {v : Int32} (hC : RC x a) (hA : AI a) : CHG mX9_book [.ref 0, .int v] x (oBook a v) := by
  refine MM.of (by decide) (Nat.le_of_ble_eq_true rfl) ?_
  have y0 := lay_0
  have y1 := lay_1
  have y33 := lay_33
  have y36 := lay_36
  refine r_aload_n dX9_book_0 rfl (by rfl) ?_
  refine r_iload_n dX9_book_1 rfl (by rfl) ?_
  refine r_bipush (v := nI 100) dX9_book_2 (by decide) ?_
  by_cases qo : inB v (nI 0) (nI (min 100 (aH a))) = true
  case neg => exact r_callVT (c_open_f hC (by decide) (Bool.eq_false_iff.mpr qo)) mv_X9_openText ml_X9_121 ⟨by decide, by decide⟩ dX9_book_4 lay_0 rfl rfl rfl (Nat.le_of_ble_eq_true rfl) ⟨by decide, by decide⟩ (fun E y h => by obtain ⟨rfl, e⟩ := h; exact chg_er (by unfold oBook; rw [if_neg qo]) hC e)
  have h6 := hC.2.2.1.2.1
  obtain ⟨k, _, hk, rfl⟩ := inB_is qo (by omega) (Nat.zero_le _)
  refine r_callV (c_open_t hC (by omega) (by decide) (by omega)) mv_X9_openText ml_X9_121 ⟨by decide, by decide⟩ dX9_book_4 lay_0 rfl rfl rfl (Nat.le_of_ble_eq_true rfl) (fun v9 x9 h9 => ?_)
  obtain ⟨rfl, h9⟩ := h9
  refine PW.xeq h9 ?_
  clear h9 x9
  have hT := op_TP (n := k) hC (by omega)
  refine r_aload_n dX9_book_7 rfl (by rfl) ?_
  refine gf_X9_44 rfl dX9_book_8 (by first | assumption | rfl) (by rfl) ?_
  refine r_aload_n dX9_book_11 rfl (by rfl) ?_
  refine gf_X9_10 rfl dX9_book_12 (by first | assumption | rfl) (by rfl) ?_
  refine r_callV (c_X1_read hT) mv_X1_read ml_X9_180 ⟨by decide, by decide⟩ dX9_book_15 (by first | assumption | rfl) rfl rfl rfl (Nat.le_of_ble_eq_true rfl) (fun v9 y h9 => ?_)
  obtain ⟨rfl, hP, hB⟩ := h9
  refine r_if_neB (tgt := 32) dX9_book_18 (by decide) (fun h18 => ?_) (fun h18 => ?_)
  · obtain ⟨q, e1⟩ := okB_t h18
    have I1 := hB q e1
    obtain ⟨r1, r2⟩ := txt_ok hC hP e1 sup_B
    refine r_aload_n dX9_book_32 rfl (by rfl) ?_
    refine gf_X9_40 rfl dX9_book_33 (by first | assumption | rfl) (by rfl) ?_
    refine r_aload_n dX9_book_36 rfl (by rfl) ?_
    refine gf_X9_44 rfl dX9_book_37 (by first | assumption | rfl) (by rfl) ?_
    refine r_callV c_X1_copy mv_X1_copy ml_X9_181 ⟨by decide, by decide⟩ dX9_book_40 (by first | assumption | rfl) rfl rfl rfl (Nat.le_of_ble_eq_true rfl) (fun v9 x9 h9 => ?_)
    obtain ⟨rfl, h9⟩ := h9
    refine PW.xeq h9 ?_
    clear h9 x9
    refine r_aload_n dX9_book_43 rfl (by rfl) ?_
    refine gf_X9_40 rfl dX9_book_44 (by first | assumption | rfl) (by rfl) ?_
    refine gf_X9_136 rfl dX9_book_47 (by first | assumption | rfl) (by rfl) ?_
    refine r_iretW rfl dX9_book_50 ?_
    exact chg_ok (by unfold oBook; rw [if_pos qo, nN_nI (by omega), e1]; show (Except.ok (nI q.1.length), _) = _; rw [← I1.1]; rfl) (book_RC r1 I1) (fun c hc => (bookX_n (by omega) (by omega) (by omega)).trans (r2 c hc))
  · refine r_aload_n dX9_book_21 rfl (by rfl) ?_
    refine gf_X9_10 rfl dX9_book_22 (by first | assumption | rfl) (by rfl) ?_
    refine gf_X9_129 rfl dX9_book_25 (by first | assumption | rfl) (by rfl) ?_
    refine r_bipush (v := nI 10) dX9_book_28 (by decide) ?_
    refine r_isub dX9_book_30 ?_
    refine r_iretW rfl dX9_book_31 ?_
    obtain ⟨er, e1⟩ := okB_f h18
    obtain ⟨r1, r2, r3⟩ := txt_err hC hP e1 sup_B
    exact chg_ok (by unfold oBook; rw [if_pos qo, nN_nI (by omega), e1]; show txtE a er = _; unfold txtE; rw [r3]) r1 r2
def oLaw (a : AS) (w v : Int32) : Except Nat Int32 × AS := if inB w (nI 0) (nI 1) then (if inB v (nI 0) (nI (min 150 (aH a))) then (match pLaw (aT a) (nN v) 0 with
  | .error e => txtE a e
  | .ok q => (.ok (nI 1), ((eN (aE a), eH (aE a), eC (aE a), eO (aE a), eW (aE a), (if w = nI 0 then q.1 else eL (aE a)), (if w = nI 0 then eF (aE a) else q.1)), a.2.1, (aT a, 0, -1), a.2.2.2))) else (.error 1, bmX a)) else (.error 1, bmX a)
theorem tkX_n {x : XS} {c0 c s : Nat} {g : Nat → Int32} (h1 : c ≠ c0) (h2 : c ≠ c0 + 1) : tkX x c0 g s c = x c := by
  unfold tkX
  rw [xr_n h2, xu_n h1]
theorem tkX_LC {x : XS} {c0 : Nat} {g : Nat → Int32} {l : List Nat} (hl : LW l) (h : ∀ i q, l[i]? = some q → g i = nI q) : LCo (tkX x c0 g l.length) c0 l := by
  refine ⟨hl, ?_, fun i q hq => ?_⟩
  · unfold tkX
    rw [xr_n (by omega), xu_s]
  · unfold tkX
    rw [xr_s, cpR_lt _ ((List.getElem?_eq_some_iff.mp hq).1)]
    exact h i q hq
theorem LCo.fr {x y : XS} {c : Nat} {l : List Nat} (h : LCo x c l) (h1 : y c = x c) (h2 : y (c + 1) = x (c + 1)) : LCo y c l := ⟨h.1, by rw [h1]; exact h.2.1, fun i q hq => by rw [h2]; exact h.2.2 i q hq⟩
theorem law_RC {y : XS} {a : AS} {l : List Nat} {g : Nat → Int32} {w : Nat} (hw : w < 2) (hC : RC y (setT a (aT a) 0 (-1))) (hl : LW l) (h : ∀ i q, l[i]? = some q → g i = nI q) : RC (tkX y (24 + 3 * w) g l.length) ((eN (aE a), eH (aE a), eC (aE a), eO (aE a), eW (aE a), (if nI w = nI 0 then l else eL (aE a)), (if nI w = nI 0 then eF (aE a) else l)), a.2.1, (aT a, 0, -1), a.2.2.2) := by
  obtain ⟨k1, k2, k3, k4, k5, k6, k7⟩ := hC
  obtain ⟨p1, p2, p3, p4, p5, p6, p7, p8⟩ := k1
  have e : ∀ c, c ≠ 24 + 3 * w → c ≠ 25 + 3 * w → tkX y (24 + 3 * w) g l.length c = y c := fun c h1 h2 => tkX_n h1 (by omega)
  refine ⟨⟨?_, p2, fun k hk p hp => ?_, fun m hm => ?_, ?_, ?_, ?_, ?_⟩, ?_, ?_, ?_, k5.fr (fun c h1 h2 => e c (by omega) (by omega)), k6.fr (fun c h1 h2 => e c (by omega) (by omega)), ?_⟩
  · rw [e 3 (by omega) (by omega)]; exact p1
  · rw [e (4 + k) (by omega) (by omega)]; exact p3 k hk p hp
  · rw [e 12 (by omega) (by omega)]; exact p4 m hm
  · rw [e 3 (by omega) (by omega)]; exact p5
  · rw [e 3 (by omega) (by omega)]; exact p6
  · show LCo _ 24 (if nI w = nI 0 then l else eL (aE a))
    rcases (show w = 0 ∨ w = 1 by omega) with rfl | rfl
    · rw [if_pos rfl]
      exact tkX_LC hl h
    · rw [if_neg (by decide +kernel)]
      exact LCo.fr p7 (e 24 (by omega) (by omega)) (e 25 (by omega) (by omega))
  · show LCo _ 27 (if nI w = nI 0 then eF (aE a) else l)
    rcases (show w = 0 ∨ w = 1 by omega) with rfl | rfl
    · rw [if_pos rfl]
      exact LCo.fr p8 (e 27 (by omega) (by omega)) (e 28 (by omega) (by omega))
    · rw [if_neg (by decide +kernel)]
      exact tkX_LC hl h
  · unfold RCn
    rw [e 44 (by omega) (by omega), e 43 (by omega) (by omega), e 45 (by omega) (by omega)]
    exact k2
  · unfold RCt
    rw [e 1 (by omega) (by omega), e 2 (by omega) (by omega)]
    exact k3
  · unfold RCb
    rw [e 33 (by omega) (by omega), e 34 (by omega) (by omega), e 35 (by omega) (by omega)]
    exact k4
  · unfold RCc
    rw [e 0 (by omega) (by omega)]
    exact k7
set_option maxHeartbeats 8000000 in
set_option maxRecDepth 20000 in
theorem f_law {a : AS} {x : XS} {w9 v : Int32} (hC : RC x a) (hA : AI a) : CHG mX9_law [.ref 0, .int w9, .int v] x (oLaw a w9 v) := by
  refine MM.of (by decide) (Nat.le_of_ble_eq_true rfl) ?_
  have y0 := lay_0
  have y1 := lay_1
  have y23 := lay_23
  have y30 := lay_30
  refine r_aload_n dX9_law_0 rfl (by rfl) ?_
  refine r_iload_n dX9_law_1 rfl (by rfl) ?_
  refine r_iconst (v := nI 0) dX9_law_2 (by decide) ?_
  refine r_iconst (v := nI 1) dX9_law_3 (by decide) ?_
  refine r_callS c_X9_within ms_X9_within ml_X9_144 ⟨by decide, by decide⟩ dX9_law_4 rfl (Nat.le_of_ble_eq_true rfl) (fun v9 x9 h9 => ?_)
  obtain ⟨rfl, h9⟩ := h9
  refine PW.xeq h9 ?_
  clear h9 x9
  refine PW.caseB (fun q7 => ?_) (fun q7 => ?_)
  · refine r_callV c_require_t mv_X9_require ml_X9_148 ⟨by decide, by decide⟩ dX9_law_7 lay_0 rfl rfl rfl (Nat.le_of_ble_eq_true rfl) (fun v9 x9 h9 => ?_)
    obtain ⟨rfl, h9⟩ := h9
    refine PW.xeq h9 ?_
    clear h9 x9
    obtain ⟨w, _, hw, rfl⟩ := inB_is (lo := 0) (hi := 1) q7 (by decide) (by decide)
    refine r_aload_n dX9_law_10 rfl (by rfl) ?_
    refine r_iload_n dX9_law_11 rfl (by rfl) ?_
    refine r_sipush (v := nI 150) dX9_law_12 (by decide) ?_
    by_cases qo : inB v (nI 0) (nI (min 150 (aH a))) = true
    case neg => exact r_callVT (c_open_f hC (by decide) (Bool.eq_false_iff.mpr qo)) mv_X9_openText ml_X9_121 ⟨by decide, by decide⟩ dX9_law_15 lay_0 rfl rfl rfl (Nat.le_of_ble_eq_true rfl) ⟨by decide, by decide⟩ (fun E y h => by obtain ⟨rfl, e⟩ := h; exact chg_er (by unfold oLaw; rw [if_pos q7]; rw [if_neg qo]) hC e)
    have h6 := hC.2.2.1.2.1
    obtain ⟨k, _, hk, rfl⟩ := inB_is qo (by omega) (Nat.zero_le _)
    refine r_callV (c_open_t hC (by omega) (by decide) (by omega)) mv_X9_openText ml_X9_121 ⟨by decide, by decide⟩ dX9_law_15 lay_0 rfl rfl rfl (Nat.le_of_ble_eq_true rfl) (fun v9 x9 h9 => ?_)
    obtain ⟨rfl, h9⟩ := h9
    refine PW.xeq h9 ?_
    clear h9 x9
    have hT := op_TP (n := k) hC (by omega)
    refine r_aload_n dX9_law_18 rfl (by rfl) ?_
    refine gf_X9_33 rfl dX9_law_19 (by first | assumption | rfl) (by rfl) ?_
    refine r_aload_n dX9_law_22 rfl (by rfl) ?_
    refine gf_X9_10 rfl dX9_law_23 (by first | assumption | rfl) (by rfl) ?_
    refine r_callV (c_X5_read (by omega) hT) mv_X5_read ml_X9_152 ⟨by decide, by decide⟩ dX9_law_26 (by first | assumption | rfl) rfl rfl rfl (Nat.le_of_ble_eq_true rfl) (fun v9 y h9 => ?_)
    obtain ⟨rfl, hP, hB⟩ := h9
    refine r_if_neB (tgt := 43) dX9_law_29 (by decide) (fun h29 => ?_) (fun h29 => ?_)
    · obtain ⟨q, e1⟩ := okB_t h29
      obtain ⟨r1, r2⟩ := txt_ok hC hP e1 sup_L
      have LL : LW q.1 := pLaw_LW (fun j hj => (hC.tp j hj).2) (by omega) ((hP.ok e1).1.2.2.2.1) e1
      refine r_aload_n dX9_law_43 rfl (by rfl) ?_
      refine gf_X9_29 rfl dX9_law_44 (by first | assumption | rfl) (by rfl) ?_
      refine r_iload_n dX9_law_47 rfl (by rfl) ?_
      refine r_aaldLN (d9 := 24 + 3 * w) dX9_law_48 lay_23 (by rcases (show w = 0 ∨ w = 1 by omega) with rfl | rfl <;> rfl) (by decide) ?_
      have iL : IsL (24 + 3 * w) := by rcases (show w = 0 ∨ w = 1 by omega) with rfl | rfl <;> simp [IsL]
      have yL := l_o iL
      refine r_aload_n dX9_law_49 rfl (by rfl) ?_
      refine gf_X9_33 rfl dX9_law_50 (by first | assumption | rfl) (by rfl) ?_
      refine r_callV (c_X5_copy iL (by omega) (hB q e1).1 (by have := LL.1; omega)) mv_X5_copy ml_X9_153 ⟨by decide, by decide⟩ dX9_law_53 (by first | assumption | rfl) rfl rfl rfl (Nat.le_of_ble_eq_true rfl) (fun v9 x9 h9 => ?_)
      obtain ⟨rfl, h9⟩ := h9
      refine PW.xeq h9 ?_
      clear h9 x9
      refine r_iconst (v := nI 1) dX9_law_56 (by decide) ?_
      refine r_iretW rfl dX9_law_57 ?_
      refine chg_ok (by unfold oLaw; rw [if_pos q7, if_pos qo, nN_nI (by omega), e1]) ?_ (fun c hc => (tkX_n (by omega) (by omega)).trans (r2 c hc))
      rw [Nat.zero_add]
      exact law_RC (by omega) r1 LL (fun i q9 hq9 => by rw [(hB q e1).2]; exact wrL_get _ _ hq9)
    · refine r_aload_n dX9_law_32 rfl (by rfl) ?_
      refine gf_X9_10 rfl dX9_law_33 (by first | assumption | rfl) (by rfl) ?_
      refine gf_X9_129 rfl dX9_law_36 (by first | assumption | rfl) (by rfl) ?_
      refine r_bipush (v := nI 10) dX9_law_39 (by decide) ?_
      refine r_isub dX9_law_41 ?_
      refine r_iretW rfl dX9_law_42 ?_
      obtain ⟨er, e1⟩ := okB_f h29
      obtain ⟨r1, r2, r3⟩ := txt_err hC hP e1 sup_L
      exact chg_ok (by unfold oLaw; rw [if_pos q7]; rw [if_pos qo, nN_nI (by omega), e1]; show txtE a er = _; unfold txtE; rw [r3]) r1 r2
  · exact r_callVT c_require_f mv_X9_require ml_X9_148 ⟨by decide, by decide⟩ dX9_law_7 lay_0 rfl rfl rfl (Nat.le_of_ble_eq_true rfl) ⟨by decide, by decide⟩ (fun E y h => by obtain ⟨rfl, e⟩ := h; exact chg_er (by unfold oLaw; rw [if_neg (by rw [q7]; decide)]) hC e)
