/-! THE REFERENCE: house -/
def KH (x y : XS) : Prop := (∀ c, c ≠ 137 → c ≠ 140 → c ≠ 141 → y c = x c) ∧ (∀ k, ¬ (2 ≤ k ∧ k ≤ 8) → ¬ (14 ≤ k ∧ k ≤ 17) → y 137 k = th0 x 137 k) ∧ y 137 2 = nI 0
theorem KH.hk {x y z : XS} (h : KH x y) (h2 : HK y z) : KH x z := ⟨fun c a b d => (h2.1 c a b d).trans (h.1 c a b d), fun k a b => (h2.2 k (by omega) b).trans (h.2.1 k a b), (h2.2 2 (by decide) (by decide)).trans h.2.2⟩
theorem KH.bg {x : XS} {n : Nat} : KH x (clX (bgX (th0 x) n)) := KH.hk (y := bgX (th0 x) n) ⟨fun c a _ _ => (bg_n a).trans (show xu x 137 0 (nI 0) c = x c from xu_n a), fun k a _ => bg_k a, rfl⟩ (clX_hk _)
theorem house_RR {x y : XS} {a : AS} {n b : Nat} {h : HS} (hR : RRf x a) (K : KH x y) (hP : PSt y (aT a) n (.ok b)) (hd : DR y h) : RRf (seX (xu y 137 8 (y 137 5)) h) (aNew a h) ∧ LO x (seX (xu y 137 8 (y 137 5)) h) ∧ seX (xu y 137 8 (y 137 5)) h 137 0 = nI 0 := by
  have hd2 : DR (xu y 137 8 (y 137 5)) h := hd.fr (fun k _ _ => xu_k (by omega)) rfl rfl
  obtain ⟨r1, r2, r3⟩ := seX_RE hd2
  obtain ⟨h1, k2, h3, h4, h5, k6, h7, k8, h9, h10⟩ := hR
  have c9 : ∀ c, c ≠ 137 → c ≠ 140 → c ≠ 141 → c ≠ 142 → c ≠ 143 → c ≠ 148 → c ≠ 153 → seX (xu y 137 8 (y 137 5)) h c = x c := fun c a1 a2 a3 a4 a5 a6 a7 => by
    rw [seX_c a7, se3_n a1 a4 a5 a6, xu_n a1]
    exact K.1 c a1 a2 a3
  have e7 : seX (xu y 137 8 (y 137 5)) h 137 = se3 (xu y 137 8 (y 137 5)) h 137 := seX_c (by decide)
  refine ⟨⟨r1, r2, r3, ⟨?_, Nat.zero_le _, fun j hj => ?_, ?_⟩, ⟨?_, Nat.zero_le _, fun j q hq => by cases hq⟩, ⟨?_, Nat.zero_le _, fun i hi => absurd hi (Nat.not_lt_zero _)⟩, ⟨?_, Nat.zero_le _, fun i hi => absurd hi (Nat.not_lt_zero _)⟩, ?_, ?_, ?_⟩, fun c hc => c9 c (by omega) (by omega) (by omega) (by omega) (by omega) (by omega) (by omega), ?_⟩
  · rw [e7, se3_7 (by decide) (by decide) (by decide) (by decide) (by decide) (by decide) (by decide), xu_k (by decide)]
    exact K.2.2
  · rw [seX_c (by decide), se3_n (by decide) (by decide) (by decide) (by decide), xu_n (by decide)]
    exact hP.1.2.2 j hj
  · rw [e7, se3_7 (by decide) (by decide) (by decide) (by decide) (by decide) (by decide) (by decide), xu_s]
    exact hP.2.2.2
  · rw [e7]; rfl
  · rw [e7]; rfl
  · rw [e7]; rfl
  · rw [e7]; rfl
  · rw [c9 138 (by decide) (by decide) (by decide) (by decide) (by decide) (by decide) (by decide)]
    exact h9
  · rw [c9 138 (by decide) (by decide) (by decide) (by decide) (by decide) (by decide) (by decide)]
    exact h10
  · rw [e7, se3_7 (by decide) (by decide) (by decide) (by decide) (by decide) (by decide) (by decide), xu_k (by decide)]
    exact (K.2.1 0 (by decide) (by decide)).trans xu_s
set_option maxHeartbeats 8000000 in
set_option maxRecDepth 20000 in
theorem house_tail_b {a : AS} {x y : XS} {n : Nat} (hR : RRf x a) (hin : inB (nI n) (nI 0) (nI (min 600 (aH a))) = true) (hn : n ≤ 600) (K : KH x y) {e : PE} (hr : pHouse (aT a) n 61 h0 0 = .error e) (hP : PSt y (aT a) n (.error e)) : PW mX10_house (RM 40 0 0) 0 0 (RP x (oHouse a (nI n)).1 (oHouse a (nI n)).2 1) NoT 202 [(0, .ref 137)] [] y := by
  have y137 := lay_137
  refine r_aload_n dX10_house_202 rfl (by rfl) ?_
  refine r_aload_n dX10_house_203 rfl (by rfl) ?_
  refine gf_X10_144 rfl dX10_house_204 (by first | assumption | rfl) (by rfl) ?_
  refine r_callV n_result mv_X10_result ml_X10_237 ⟨by decide, by decide⟩ dX10_house_207 (by first | assumption | rfl) rfl rfl rfl (Nat.le_of_ble_eq_true rfl) (fun v9 x9 h9 => ?_)
  obtain ⟨rfl, h9⟩ := h9
  refine PW.xeq h9 ?_
  clear h9 x9
  refine r_istore_n dX10_house_210 rfl (by decide) ?_
  refine r_aload_n dX10_house_211 rfl (by rfl) ?_
  refine gf_X10_101 rfl dX10_house_212 (by first | assumption | rfl) (by rfl) ?_
  refine r_iconst (v := -1) dX10_house_215 (by decide) ?_
  refine r_icmp_ne (tgt := 223) dX10_house_216 (by decide) (fun h216 => ?_) (fun h216 => ?_)
  · refine r_iload_n dX10_house_223 rfl (by rfl) ?_
    refine r_iret rfl dX10_house_224 ?_
    refine rchg_ok (b := setT a (aT a) 0 (nI e.2)) (by unfold oHouse; rw [if_pos hin, nN_nI (by omega), hr, if_neg hP.bad, hP.2.2.1]; rfl) (txt_RR2 hR (fun c a1 a2 => K.1 c a1 (by omega) (by omega)) (fun k a1 => (K.2.1 k (by omega) (by omega)).trans (xu_k (by omega))) K.2.2 hP) (fun c hc => (xu_n (by omega)).trans (K.1 c (by omega) (by omega) (by omega))) ((xu_k (by decide)).trans ((K.2.1 0 (by omega) (by omega)).trans xu_s))
  · exact absurd (show y 137 5 = -1 from h216) hP.bad
set_option maxHeartbeats 8000000 in
set_option maxRecDepth 20000 in
theorem house_tail_g {a : AS} {x y : XS} {n : Nat} (hR : RRf x a) (hin : inB (nI n) (nI 0) (nI (min 600 (aH a))) = true) (hn : n ≤ 600) (K : KH x y) {h : HS} {b : Nat} (hr : pHouse (aT a) n 61 h0 0 = .ok (h, b)) (hP : PSt y (aT a) n (.ok b)) (hd : DR y h) : PW mX10_house (RM 40 0 0) 0 0 (RP x (oHouse a (nI n)).1 (oHouse a (nI n)).2 1) NoT 202 [(0, .ref 137)] [] y := by
  have y137 := lay_137
  obtain ⟨q1, q2, q3⟩ := house_RR hR K hP hd
  have hd2 : DR (xu y 137 8 (y 137 5)) h := hd.fr (fun k _ _ => xu_k (by omega)) rfl rfl
  refine r_aload_n dX10_house_202 rfl (by rfl) ?_
  refine r_aload_n dX10_house_203 rfl (by rfl) ?_
  refine gf_X10_144 rfl dX10_house_204 (by first | assumption | rfl) (by rfl) ?_
  refine PW.topi hd.1 ?_
  refine r_callV n_result mv_X10_result ml_X10_237 ⟨by decide, by decide⟩ dX10_house_207 (by first | assumption | rfl) rfl rfl rfl (Nat.le_of_ble_eq_true rfl) (fun v9 x9 h9 => ?_)
  obtain ⟨rfl, h9⟩ := h9
  refine PW.xeq h9 ?_
  clear h9 x9
  refine PW.topi (if_pos hP.2.2.2) ?_
  refine r_istore_n dX10_house_210 rfl (by decide) ?_
  refine r_aload_n dX10_house_211 rfl (by rfl) ?_
  refine gf_X10_101 rfl dX10_house_212 (by first | assumption | rfl) (by rfl) ?_
  refine r_iconst (v := -1) dX10_house_215 (by decide) ?_
  refine r_icmp_ne (tgt := 223) dX10_house_216 (by decide) (fun h216 => absurd (show y 137 5 = -1 from hP.2.2.2) h216) (fun h216 => ?_)
  refine r_aload_n dX10_house_219 rfl (by rfl) ?_
  refine r_callV (n_sets hd2) mv_X10_sets ml_X10_95 ⟨by decide, by decide⟩ dX10_house_220 (by first | assumption | rfl) rfl rfl rfl (Nat.le_of_ble_eq_true rfl) (fun v9 x9 h9 => ?_)
  obtain ⟨rfl, h9⟩ := h9
  refine PW.xeq h9 ?_
  clear h9 x9
  refine r_iload_n dX10_house_223 rfl (by rfl) ?_
  refine r_iret rfl dX10_house_224 ?_
  exact rchg_ok (b := aNew a h) (by unfold oHouse; rw [if_pos hin, nN_nI (by omega), hr]) q1 q2 q3
set_option maxHeartbeats 8000000 in
set_option maxRecDepth 20000 in
theorem house_bad {a : AS} {x y : XS} {n : Nat} (hR : RRf x a) (hin : inB (nI n) (nI 0) (nI (min 600 (aH a))) = true) (hn : n ≤ 600) (K : KH x y) {e : PE} (hr : pHouse (aT a) n 61 h0 0 = .error e) (hP : PSt y (aT a) n (.error e)) : PW mX10_house (RM 40 0 0) 0 0 (RP x (oHouse a (nI n)).1 (oHouse a (nI n)).2 1) NoT 141 [(0, .ref 137)] [] y := by
  have y137 := lay_137
  refine r_aload_n dX10_house_141 rfl (by rfl) ?_
  refine r_callV (n_fine_f hP.bad) mv_X10_fine ml_X10_130 ⟨by decide, by decide⟩ dX10_house_142 (by first | assumption | rfl) rfl rfl rfl (Nat.le_of_ble_eq_true rfl) (fun v9 x9 h9 => ?_)
  obtain ⟨rfl, h9⟩ := h9
  refine PW.xeq h9 ?_
  clear h9 x9
  refine r_if_neB (tgt := 151) dX10_house_145 (by decide) (fun h145 => ?_) (fun h145 => ?_)
  · exact absurd (show false = true from h145) (by decide)
  · refine r_goto (tgt := 202) dX10_house_148 (by decide) ?_
    exact house_tail_b hR hin hn K hr hP
def stp (g : Nat → Nat) (len : Nat) (r : Except PE (HS × Nat)) : Except PE (HS × Nat) := match r with
  | .error e => .error e
  | .ok q => (match pTake g len 59 q.2 with
    | .error e => .error e
    | .ok a2 => .ok (q.1, a2))
theorem stp_HL {x y : XS} {g : Nat → Nat} {len : Nat} {r : Except PE (HS × Nat)} (hL : HL x g len r) (C : CH x y) (hP : PSt y g len (xbn (xph r) (pTake g len 59))) : HL y g len (stp g len r) := by
  unfold stp
  cases r with
  | error e => exact ⟨hP, fun q hq => by cases hq⟩
  | ok q =>
    have hP : PSt y g len (pTake g len 59 q.2) := hP
    have hd := (hL.2 q rfl).ch C
    show HL y g len (match pTake g len 59 q.2 with | .error e => .error e | .ok a2 => .ok (q.1, a2))
    cases ht : pTake g len 59 q.2 with
    | error e => rw [ht] at hP; exact ⟨hP, fun q hq => by cases hq⟩
    | ok a2 =>
      rw [ht] at hP
      refine ⟨hP, fun q9 hq => ?_⟩
      injection hq with hq
      subst hq
      exact hd
theorem stp_pH {g : Nat → Nat} {len m a : Nat} {h : HS} {q : Nat × Nat} {r : Except PE (HS × Nat)} (h1 : ¬ nxV g len a = -1) (h2 : pWord g len 0 a = .ok q) (hm : m ≠ 0) (h3 : pClause g len q.1 h (skip g len a) q.2 = r) : pHouse g len (m + 1) h a = xbn (stp g len r) (fun q => pHouse g len m q.1 q.2) := by
  cases r with
  | error e => exact pH_cl h1 h2 hm h3
  | ok w =>
    unfold stp
    show _ = xbn (match pTake g len 59 w.2 with | .error e => .error e | .ok a2 => .ok (w.1, a2)) _
    cases ht : pTake g len 59 w.2 with
    | error e => exact pH_tk h1 h2 hm h3 ht
    | ok a2 => exact (pH_go (r := w) h1 h2 hm h3 ht).trans rfl
theorem cl_sl {g : Nat → Nat} {len b c : Nat} {h : HS} (hn : HS.n h < 5) : pClause g len 0 h b c = pNew g len h c := by
  unfold pClause pSleeper pNew
  rw [if_pos rfl, if_neg (by omega)]
  cases pFour g len c <;> rfl
theorem pH_gen (g : Nat → Nat) (len : Nat) : ∀ N h b, pHouse g len N h b = xbn (.ok (h, b)) (fun q => pHouse g len N q.1 q.2) := fun _ _ _ => rfl
theorem pH_st (g : Nat → Nat) (len : Nat) : pHouse g len 61 h0 0 = xbn (.ok (h0, 0)) (fun q => pHouse g len (61 - 0) q.1 q.2) := pH_gen g len 61 h0 0
theorem clX_7 {x : XS} {k : Nat} (h : ¬ (14 ≤ k ∧ k ≤ 17)) : clX x 137 k = x 137 k := by
  rw [show clX x 137 = cl0 x 137 from cz_n (by decide) 60]
  unfold cl0
  rw [xu_k (by omega), xu_k (by omega), xu_k (by omega), xu_k (by omega)]
set_option maxHeartbeats 8000000 in
set_option maxRecDepth 20000 in
theorem house_goS {Post : Option Value → XS → Prop} {a : AS} {y : XS} {n cl b w : Nat} {h : HS} (hP : PSt y (aT a) n (.ok b)) (hd : DR y h) (hn5 : HS.n h < 5) (hb7 : b + 7 ≤ n) (k : ∀ z, HL z (aT a) n (stp (aT a) n (pNew (aT a) n h (b + 7))) → HK y z → PW mX10_house (RM 40 0 0) 0 0 Post NoT 44 [(0, .ref 137), (2, .int (nI (cl + 1)))] [] z) : PW mX10_house (RM 40 0 0) 0 0 Post NoT 141 [(0, .ref 137), (2, .int (nI cl)), (3, .int (bI true)), (4, .int (nI w))] [] y := by
  have y137 := lay_137
  have hbn : b ≤ n := hP.2.2.1
  refine r_aload_n dX10_house_141 rfl (by rfl) ?_
  refine r_callV (n_fine_t hP.2.2.2) mv_X10_fine ml_X10_130 ⟨by decide, by decide⟩ dX10_house_142 (by first | assumption | rfl) rfl rfl rfl (Nat.le_of_ble_eq_true rfl) (fun v9 x9 h9 => ?_)
  obtain ⟨rfl, h9⟩ := h9
  refine PW.xeq h9 ?_
  clear h9 x9
  refine r_if_neB (tgt := 151) dX10_house_145 (by decide) (fun h145 => ?_) (fun h145 => absurd (show true = false from h145) (by decide))
  refine r_iload_n dX10_house_151 rfl (by rfl) ?_
  refine r_if_eqB (tgt := 169) dX10_house_152 (by decide) (fun h => by cases h) (fun _ => ?_)
  refine r_aload_n dX10_house_155 rfl (by rfl) ?_
  refine r_dup dX10_house_156 rfl ?_
  refine gf_X10_107 rfl dX10_house_157 (by first | assumption | rfl) (by rfl) ?_
  refine PW.topi hP.2.1 ?_
  refine r_bipush (v := nI 7) dX10_house_160 (by decide) ?_
  refine r_iaddN dX10_house_162 ?_
  refine pf_X10_107 rfl dX10_house_163 (by first | assumption | rfl) (by rfl) ?_
  refine r_goto (tgt := 173) dX10_house_166 (by decide) ?_
  have P1 : PSt (gdX y (b + 7)) (aT a) n (.ok (b + 7)) := hP.gd hb7
  have D1 : DR (gdX y (b + 7)) h := hd.fr (fun k _ _ => xu_k (by omega)) rfl rfl
  refine r_iload_n dX10_house_173 rfl (by rfl) ?_
  refine r_if_eqB (tgt := 184) dX10_house_174 (by decide) (fun h => by cases h) (fun _ => ?_)
  refine r_aload_n dX10_house_177 rfl (by rfl) ?_
  refine r_callV (n_readSleeper P1 D1 hn5) mv_X10_readSleeper ml_X10_228 ⟨by decide, by decide⟩ dX10_house_178 (by first | assumption | rfl) rfl rfl rfl (Nat.le_of_ble_eq_true rfl) (fun v9 z2 h9 => ?_)
  obtain ⟨rfl, L2, K2⟩ := h9
  refine r_goto (tgt := 190) dX10_house_181 (by decide) ?_
  refine r_aload_n dX10_house_190 rfl (by rfl) ?_
  refine r_bipush (v := nI 59) dX10_house_191 (by decide) ?_
  refine r_callV (t_sign (c := 59) L2.1 (by decide) (by decide)) mv_X10_sign ml_X10_234 ⟨by decide, by decide⟩ dX10_house_193 (by first | assumption | rfl) rfl rfl rfl (Nat.le_of_ble_eq_true rfl) (fun v9 z3 h9 => ?_)
  obtain ⟨rfl, P3, C3⟩ := h9
  refine r_iincN dX10_house_196 (by rfl) (by decide) ?_
  refine r_goto (tgt := 44) dX10_house_199 (by decide) ?_
  exact PW.lc (by rfl) rfl (k z3 (stp_HL L2 C3 P3) (((CH.gd (b := (b + 7))).hk.trans K2).trans C3.hk))
set_option maxHeartbeats 8000000 in
set_option maxRecDepth 20000 in
theorem house_goR {Post : Option Value → XS → Prop} {a : AS} {y : XS} {n cl b w : Nat} {h : HS} (hP : PSt y (aT a) n (.ok b)) (hd : DR y h) (hw : w < 2 ^ 30) (hck : ¬ w = ofW 4 → ¬ w = ofW 5 → ¬ w = ofW 6 → ¬ w = ofW 7 → ¬ w = ofW 8 → ¬ w = ofW 9 → HS.ck h < 6) (k : ∀ z, HL z (aT a) n (stp (aT a) n (rwP (aT a) n w h (smE (aT a) n b))) → HK y z → PW mX10_house (RM 40 0 0) 0 0 Post NoT 44 [(0, .ref 137), (2, .int (nI (cl + 1)))] [] z) : PW mX10_house (RM 40 0 0) 0 0 Post NoT 141 [(0, .ref 137), (2, .int (nI cl)), (3, .int (bI false)), (4, .int (nI w))] [] y := by
  have y137 := lay_137
  have hbn : b ≤ n := hP.2.2.1
  refine r_aload_n dX10_house_141 rfl (by rfl) ?_
  refine r_callV (n_fine_t hP.2.2.2) mv_X10_fine ml_X10_130 ⟨by decide, by decide⟩ dX10_house_142 (by first | assumption | rfl) rfl rfl rfl (Nat.le_of_ble_eq_true rfl) (fun v9 x9 h9 => ?_)
  obtain ⟨rfl, h9⟩ := h9
  refine PW.xeq h9 ?_
  clear h9 x9
  refine r_if_neB (tgt := 151) dX10_house_145 (by decide) (fun h145 => ?_) (fun h145 => absurd (show true = false from h145) (by decide))
  refine r_iload_n dX10_house_151 rfl (by rfl) ?_
  refine r_if_eqB (tgt := 169) dX10_house_152 (by decide) (fun _ => ?_) (fun h => by cases h)
  refine r_aload_n dX10_house_169 rfl (by rfl) ?_
  refine r_callV (n_pass hP.rp) mv_X10_pass ml_X10_225 ⟨by decide, by decide⟩ dX10_house_170 (by first | assumption | rfl) rfl rfl rfl (Nat.le_of_ble_eq_true rfl) (fun v9 x9 h9 => ?_)
  obtain ⟨rfl, h9⟩ := h9
  refine PW.xeq h9 ?_
  clear h9 x9
  have P1 : PSt (gdX y (smE (aT a) n b)) (aT a) n (.ok (smE (aT a) n b)) := hP.gd (smE_le hbn)
  have D1 : DR (gdX y (smE (aT a) n b)) h := hd.fr (fun k _ _ => xu_k (by omega)) rfl rfl
  refine r_iload_n dX10_house_173 rfl (by rfl) ?_
  refine r_if_eqB (tgt := 184) dX10_house_174 (by decide) (fun _ => ?_) (fun h => by cases h)
  refine r_aload_n dX10_house_184 rfl (by rfl) ?_
  refine r_iload dX10_house_185 (by rfl) ?_
  refine r_callV (n_readRow P1 D1 hw hck) mv_X10_readRow ml_X10_231 ⟨by decide, by decide⟩ dX10_house_187 (by first | assumption | rfl) rfl rfl rfl (Nat.le_of_ble_eq_true rfl) (fun v9 z2 h9 => ?_)
  obtain ⟨rfl, L2, K2⟩ := h9
  refine r_aload_n dX10_house_190 rfl (by rfl) ?_
  refine r_bipush (v := nI 59) dX10_house_191 (by decide) ?_
  refine r_callV (t_sign (c := 59) L2.1 (by decide) (by decide)) mv_X10_sign ml_X10_234 ⟨by decide, by decide⟩ dX10_house_193 (by first | assumption | rfl) rfl rfl rfl (Nat.le_of_ble_eq_true rfl) (fun v9 z3 h9 => ?_)
  obtain ⟨rfl, P3, C3⟩ := h9
  refine r_iincN dX10_house_196 (by rfl) (by decide) ?_
  refine r_goto (tgt := 44) dX10_house_199 (by decide) ?_
  exact PW.lc (by rfl) rfl (k z3 (stp_HL L2 C3 P3) (((CH.gd (b := (smE (aT a) n b))).hk.trans K2).trans C3.hk))
theorem house_init {a : AS} {x : XS} {n : Nat} (hR : RRf x a) (hn : n ≤ 600) : (0 : Nat) ≤ 60 ∧ HL (clX (bgX (th0 x) n)) (aT a) n (.ok (h0, 0)) ∧ KH x (clX (bgX (th0 x) n)) ∧ pHouse (aT a) n 61 h0 0 = xbn (.ok (h0, 0)) (fun q => pHouse (aT a) n (61 - 0) q.1 q.2) := ⟨Nat.zero_le _, ⟨(bg_st hR.th (by omega)).ch (fun k hk => clX_7 (by omega)) ((clX_hk _).1 139 (by decide) (by decide) (by decide)), fun q hq => by injection hq with hq; subst hq; exact clX_DR _⟩, KH.bg, pH_st _ _⟩
theorem okH {r : Except PE (HS × Nat)} (h : okB (xph r) = true) : ∃ p, r = .ok p := by
  cases r with
  | ok p => exact ⟨p, rfl⟩
  | error e => cases h
theorem okH_f {r : Except PE (HS × Nat)} (h : okB (xph r) = false) : ∃ e, r = .error e := by
  cases r with
  | ok p => cases h
  | error e => exact ⟨e, rfl⟩
set_option maxHeartbeats 8000000 in
set_option maxRecDepth 20000 in
theorem g_house {a : AS} {x : XS} {v : Int32} (hR : RRf x a) (hA : AI a) : RCHG mX10_house [.ref 137, .int v] x (oHouse a v) 1 := by
  refine MM.of (by decide) (Nat.le_of_ble_eq_true rfl) ?_
  have y137 := lay_137
  have hH := hR.2.2.2.1.2.1
  refine r_aload_n dX10_house_0 rfl (by rfl) ?_
  refine r_iconst (v := nI 0) dX10_house_1 (by decide) ?_
  refine pf_X10_3 rfl dX10_house_2 (by first | assumption | rfl) (by rfl) ?_
  refine r_aload_n dX10_house_5 rfl (by rfl) ?_
  refine r_iload_n dX10_house_6 rfl (by rfl) ?_
  refine r_if_lt (tgt := 22) dX10_house_7 (by decide) (fun h7 => ?_) (fun h7 => ?_)
  · refine r_iconst (v := nI 0) dX10_house_22 (by decide) ?_
    refine r_iconst (v := nI 1) dX10_house_23 (by decide) ?_
    refine r_iconst (v := nI 1) dX10_house_24 (by decide) ?_
    refine r_callV (c_may_0 xu_s (by decide) (by decide)) mv_X10_may ml_X10_203 ⟨by decide, by decide⟩ dX10_house_25 lay_137 rfl rfl rfl (Nat.le_of_ble_eq_true rfl) (fun v9 x9 h9 => ?_)
    obtain ⟨rfl, h9⟩ := h9
    refine PW.xeq h9 ?_
    clear h9 x9
    refine r_if_neB (tgt := 33) dX10_house_28 (by decide) (fun h => by cases h) (fun _ => ?_)
    refine r_iconst (v := nI 0) dX10_house_31 (by decide) ?_
    refine r_iret rfl dX10_house_32 ?_
    first
      | exact rchg_er hR rfl (by rw [oHouse, if_neg (tx_n hH (by decide) (Or.inl h7))])
      | exact rchg_er hR rfl (by rw [oHouse, if_neg (tx_n hH (by decide) (Or.inr (Or.inl (by first | exact h15 | exact Int32.not_le.mp h15))))])
  · refine r_iload_n dX10_house_10 rfl (by rfl) ?_
    refine r_aload_n dX10_house_11 rfl (by rfl) ?_
    refine gf_X10_98 rfl dX10_house_12 (by first | assumption | rfl) (by rfl) ?_
    refine PW.topi (show _ = nI (aH a) from hR.2.2.2.1.1) ?_
    refine r_icmp_gt (tgt := 22) dX10_house_15 (by decide) (fun h15 => ?_) (fun h15 => ?_)
    · refine r_iconst (v := nI 0) dX10_house_22 (by decide) ?_
      refine r_iconst (v := nI 1) dX10_house_23 (by decide) ?_
      refine r_iconst (v := nI 1) dX10_house_24 (by decide) ?_
      refine r_callV (c_may_0 xu_s (by decide) (by decide)) mv_X10_may ml_X10_203 ⟨by decide, by decide⟩ dX10_house_25 lay_137 rfl rfl rfl (Nat.le_of_ble_eq_true rfl) (fun v9 x9 h9 => ?_)
      obtain ⟨rfl, h9⟩ := h9
      refine PW.xeq h9 ?_
      clear h9 x9
      refine r_if_neB (tgt := 33) dX10_house_28 (by decide) (fun h => by cases h) (fun _ => ?_)
      refine r_iconst (v := nI 0) dX10_house_31 (by decide) ?_
      refine r_iret rfl dX10_house_32 ?_
      first
        | exact rchg_er hR rfl (by rw [oHouse, if_neg (tx_n hH (by decide) (Or.inl h7))])
        | exact rchg_er hR rfl (by rw [oHouse, if_neg (tx_n hH (by decide) (Or.inr (Or.inl (by first | exact h15 | exact Int32.not_le.mp h15))))])
    · refine r_iconst (v := nI 1) dX10_house_18 (by decide) ?_
      refine r_goto (tgt := 23) dX10_house_19 (by decide) ?_
      refine r_iconst (v := nI 1) dX10_house_23 (by decide) ?_
      refine r_iconst (v := nI 1) dX10_house_24 (by decide) ?_
      refine r_callV (c_may_1 xu_s) mv_X10_may ml_X10_203 ⟨by decide, by decide⟩ dX10_house_25 lay_137 rfl rfl rfl (Nat.le_of_ble_eq_true rfl) (fun v9 x9 h9 => ?_)
      obtain ⟨rfl, h9⟩ := h9
      refine PW.xeq h9 ?_
      clear h9 x9
      refine r_if_neB (tgt := 33) dX10_house_28 (by decide) (fun _ => ?_) (fun h => by cases h)
      obtain ⟨n, hn1, hn2, rfl, hin⟩ := tx_y hH (show 600 ≤ 600 by decide) h7 (by first | exact h15 | exact Int32.not_lt.mpr h15) (fun q => absurd (Int32.lt_of_le_of_lt (nI_le hH (by decide)) q) (by first | exact h15 | exact Int32.not_lt.mpr h15))
      refine r_aload_n dX10_house_33 rfl (by rfl) ?_
      refine r_iload_n dX10_house_34 rfl (by rfl) ?_
      refine r_callV n_begins mv_X10_begins ml_X10_207 ⟨by decide, by decide⟩ dX10_house_35 (by first | assumption | rfl) rfl rfl rfl (Nat.le_of_ble_eq_true rfl) (fun v9 x9 h9 => ?_)
      obtain ⟨rfl, h9⟩ := h9
      refine PW.xeq h9 ?_
      clear h9 x9
      refine r_aload_n dX10_house_38 rfl (by rfl) ?_
      refine r_callV n_clears mv_X10_clears ml_X10_92 ⟨by decide, by decide⟩ dX10_house_39 (by first | assumption | rfl) rfl rfl rfl (Nat.le_of_ble_eq_true rfl) (fun v9 x9 h9 => ?_)
      obtain ⟨rfl, h9⟩ := h9
      refine PW.xeq h9 ?_
      clear h9 x9
      refine r_iconst (v := nI 0) dX10_house_42 (by decide) ?_
      refine r_istore_n dX10_house_43 rfl (by decide) ?_
      refine PW.loop (σ := Nat × Except PE (HS × Nat) × XS) (fun s => 61 - s.1) (fun s => s.1 ≤ 60 ∧ HL s.2.2 (aT a) n s.2.1 ∧ KH x s.2.2 ∧ pHouse (aT a) n 61 h0 0 = xbn s.2.1 (fun q => pHouse (aT a) n (61 - s.1) q.1 q.2)) (fun s => [(0, .ref 137), (2, .int (nI s.1))]) (fun s => s.2.2) ((0, .ok (h0, 0), clX (bgX (th0 x) n))) (house_init hR hn1) rfl rfl (fun s hs0 ih => ?_)
      obtain ⟨hs8, hHL, hK, hq⟩ := hs0
      refine r_aload_n dX10_house_44 rfl (by rfl) ?_
      refine r_callV (t_fine hHL.1) mv_X10_fine ml_X10_130 ⟨by decide, by decide⟩ dX10_house_45 (by first | assumption | rfl) rfl rfl rfl (Nat.le_of_ble_eq_true rfl) (fun v9 x9 h9 => ?_)
      obtain ⟨rfl, h9⟩ := h9
      refine PW.xeq h9 ?_
      clear h9 x9
      refine r_if_eqB (tgt := 202) dX10_house_48 (by decide) (fun h48 => ?_) (fun h48 => ?_)
      · first
          | (obtain ⟨e, he⟩ := okH_f h48
             have H3 := hHL
             rw [he] at H3
             exact PW.lc (by rfl) rfl (house_tail_b (e := e) hR hin hn1 hK (by rw [hq, he]; rfl) H3.1))
          | (exact PW.lc (by rfl) rfl (house_tail_g (h := p.1) (b := (skip (aT a) n p.2)) hR hin hn1 (hK.hk CH.gd.hk) (by rw [hq9]; exact pH_end ((nx_end S3.gg (by omega)).mpr (of_decide_eq_false h55))) P1 hd2))
      · obtain ⟨p, hp⟩ := okH h48
        have HL2 := hHL
        rw [hp] at HL2
        have S3 : PSt s.2.2 (aT a) n (.ok p.2) := HL2.1
        have hd : DR s.2.2 p.1 := HL2.2 p rfl
        have hp2 : p.2 ≤ n := S3.2.2.1
        have hsl := skip_le (g := aT a) hp2
        have hsk := skip_ge (aT a) n p.2
        have hq9 : pHouse (aT a) n 61 h0 0 = pHouse (aT a) n ((60 - s.1) + 1) p.1 p.2 := by rw [hq, hp, xbn_ok, show 61 - s.1 = (60 - s.1) + 1 by omega]
        have hwd := wd_lt (aT a) n p.2
        have b10 := of_lt 10 (by decide) (by decide)
        have hd2 : DR (gdX s.2.2 (skip (aT a) n p.2)) p.1 := hd.fr (fun k _ _ => xu_k (by omega)) rfl rfl
        have hn5 := hd.2.2.2.2.1
        have hc6 := hd.2.2.2.2.2.1
        refine r_aload_n dX10_house_51 rfl (by rfl) ?_
        refine r_callV (t_isMore S3) mv_X10_isMore ml_X10_211 ⟨by decide, by decide⟩ dX10_house_52 (by first | assumption | rfl) rfl rfl rfl (Nat.le_of_ble_eq_true rfl) (fun v9 y h9 => ?_)
        obtain ⟨rfl, P1, rfl⟩ := h9
        refine r_if_eqB (tgt := 202) dX10_house_55 (by decide) (fun h55 => ?_) (fun h55 => ?_)
        · first
            | (obtain ⟨e, he⟩ := okH_f h48
               have H3 := hHL
               rw [he] at H3
               exact PW.lc (by rfl) rfl (house_tail_b (e := e) hR hin hn1 hK (by rw [hq, he]; rfl) H3.1))
            | (exact PW.lc (by rfl) rfl (house_tail_g (h := p.1) (b := (skip (aT a) n p.2)) hR hin hn1 (hK.hk CH.gd.hk) (by rw [hq9]; exact pH_end ((nx_end S3.gg (by omega)).mpr (of_decide_eq_false h55))) P1 hd2))
        · have hnx : ¬ nxV (aT a) n p.2 = -1 := fun q => (nx_end S3.gg (by omega)).mp q (of_decide_eq_true h55)
          refine r_aload_n dX10_house_58 rfl (by rfl) ?_
          refine r_ldcS (i := 3) rfl dX10_house_59 ?_
          refine r_callV (n_stands2 S3.rp) mv_X10_standsHere ml_X10_215 ⟨by decide, by decide⟩ dX10_house_61 (by first | assumption | rfl) rfl rfl rfl (Nat.le_of_ble_eq_true rfl) (fun v9 x9 h9 => ?_)
          obtain ⟨rfl, h9⟩ := h9
          refine PW.xeq h9 ?_
          clear h9 x9
          refine PW.caseB (fun hs => ?_) (fun hs => ?_)
          · have hw9 := wd0_sl hs
            have hb7 : (skip (aT a) n p.2) + 7 ≤ n := by
              have w9 := smE_le (g := aT a) (len := n) hsl
              rw [(sl_t hs).1] at w9
              exact w9
            refine r_istore_n dX10_house_64 rfl (by decide) ?_
            refine r_aload_n dX10_house_65 rfl (by rfl) ?_
            refine r_callV (n_word2 S3.rp) mv_X10_word ml_X10_219 ⟨by decide, by decide⟩ dX10_house_66 (by first | assumption | rfl) rfl rfl rfl (Nat.le_of_ble_eq_true rfl) (fun v9 x9 h9 => ?_)
            obtain ⟨rfl, h9⟩ := h9
            refine PW.xeq h9 ?_
            clear h9 x9
            refine r_istore dX10_house_69 (by decide) ?_
            refine r_iload_n dX10_house_71 rfl (by rfl) ?_
            refine r_if_neB (tgt := 95) dX10_house_72 (by decide) (fun _ => ?_) (fun h => by cases h)
            refine r_iload_n dX10_house_95 rfl (by rfl) ?_
            refine r_bipush (v := nI 60) dX10_house_96 (by decide) ?_
            refine r_icmp_eqN (tgt := 132) dX10_house_98 (by decide) (by omega) (by omega) (fun h98 => ?_) (fun h98 => ?_)
            · refine r_aload_n dX10_house_132 rfl (by rfl) ?_
              refine r_iconst (v := nI 3) dX10_house_133 (by decide) ?_
              refine r_aload_n dX10_house_134 rfl (by rfl) ?_
              refine gf_X10_107 rfl dX10_house_135 (by first | assumption | rfl) (by rfl) ?_
              refine PW.topi (show _ = nI (skip (aT a) n p.2) from xu_s) ?_
              refine r_callV (t_wrong P1 rfl (by omega)) mv_X10_wrong ml_X10_137 ⟨by decide, by decide⟩ dX10_house_138 (by first | assumption | rfl) rfl rfl rfl (Nat.le_of_ble_eq_true rfl) (fun v9 y3 h9 => ?_)
              obtain ⟨rfl, P3, C3⟩ := h9
              first
                | (exact PW.lc (by rfl) rfl (house_bad hR hin hn1 (hK.hk (CH.gd.hk.trans C3.hk)) (by rw [hq9, show 60 - s.1 = 0 by omega]; exact pH_many hnx hw9 rfl) P3))
                | (exact PW.lc (by rfl) rfl (house_bad hR hin hn1 (hK.hk (CH.gd.hk.trans C3.hk)) (by rw [hq9]; exact pH_cl hnx hw9 (by omega) (by show (if 5 ≤ HS.n p.1 then _ else _) = _; rw [if_pos (by omega)])) P3))
                | (exact PW.lc (by rfl) rfl (house_goS P1 hd2 (by omega) hb7 (fun z z1 z2 => ih (s.1 + 1, stp (aT a) n (pNew (aT a) n p.1 ((skip (aT a) n p.2) + 7)), z) ⟨show s.1 + 1 ≤ 60 by omega, z1, hK.hk (CH.gd.hk.trans z2), (by rw [hq9, stp_pH (q := (0, smE (aT a) n (skip (aT a) n p.2))) (r := (pNew (aT a) n p.1 ((skip (aT a) n p.2) + 7))) hnx hw9 (by omega) ((cl_sl (by omega)).trans (congrArg (pNew (aT a) n p.1) (sl_t hs).1)), show 60 - s.1 = 61 - (s.1 + 1) by omega])⟩ (show 61 - (s.1 + 1) < 61 - s.1 by omega))))
            · refine r_iload_n dX10_house_101 rfl (by rfl) ?_
              refine r_if_eqB (tgt := 113) dX10_house_102 (by decide) (fun h => by cases h) (fun _ => ?_)
              refine r_aload_n dX10_house_105 rfl (by rfl) ?_
              refine gf_X10_144 rfl dX10_house_106 (by first | assumption | rfl) (by rfl) ?_
              refine PW.topi (show _ = nI (HS.n p.1) from hd.1) ?_
              refine r_iconst (v := nI 5) dX10_house_109 (by decide) ?_
              refine r_icmp_eqN (tgt := 132) dX10_house_110 (by decide) (by omega) (by omega) (fun h110 => ?_) (fun h110 => ?_)
              · refine r_aload_n dX10_house_132 rfl (by rfl) ?_
                refine r_iconst (v := nI 3) dX10_house_133 (by decide) ?_
                refine r_aload_n dX10_house_134 rfl (by rfl) ?_
                refine gf_X10_107 rfl dX10_house_135 (by first | assumption | rfl) (by rfl) ?_
                refine PW.topi (show _ = nI (skip (aT a) n p.2) from xu_s) ?_
                refine r_callV (t_wrong P1 rfl (by omega)) mv_X10_wrong ml_X10_137 ⟨by decide, by decide⟩ dX10_house_138 (by first | assumption | rfl) rfl rfl rfl (Nat.le_of_ble_eq_true rfl) (fun v9 y3 h9 => ?_)
                obtain ⟨rfl, P3, C3⟩ := h9
                first
                  | (exact PW.lc (by rfl) rfl (house_bad hR hin hn1 (hK.hk (CH.gd.hk.trans C3.hk)) (by rw [hq9, show 60 - s.1 = 0 by omega]; exact pH_many hnx hw9 rfl) P3))
                  | (exact PW.lc (by rfl) rfl (house_bad hR hin hn1 (hK.hk (CH.gd.hk.trans C3.hk)) (by rw [hq9]; exact pH_cl hnx hw9 (by omega) (by show (if 5 ≤ HS.n p.1 then _ else _) = _; rw [if_pos (by omega)])) P3))
                  | (exact PW.lc (by rfl) rfl (house_goS P1 hd2 (by omega) hb7 (fun z z1 z2 => ih (s.1 + 1, stp (aT a) n (pNew (aT a) n p.1 ((skip (aT a) n p.2) + 7)), z) ⟨show s.1 + 1 ≤ 60 by omega, z1, hK.hk (CH.gd.hk.trans z2), (by rw [hq9, stp_pH (q := (0, smE (aT a) n (skip (aT a) n p.2))) (r := (pNew (aT a) n p.1 ((skip (aT a) n p.2) + 7))) hnx hw9 (by omega) ((cl_sl (by omega)).trans (congrArg (pNew (aT a) n p.1) (sl_t hs).1)), show 60 - s.1 = 61 - (s.1 + 1) by omega])⟩ (show 61 - (s.1 + 1) < 61 - s.1 by omega))))
              · refine r_iload dX10_house_113 (by rfl) ?_
                refine r_ldcS (i := 10) rfl dX10_house_115 ?_
                refine r_callS (n_of (i := 10) (by decide) (by decide)) ms_X10_of ml_X10_187 ⟨by decide, by decide⟩ dX10_house_117 rfl (Nat.le_of_ble_eq_true rfl) (fun v9 x9 h9 => ?_)
                obtain ⟨rfl, h9⟩ := h9
                refine PW.xeq h9 ?_
                clear h9 x9
                refine r_icmp_neN (tgt := 141) dX10_house_120 (by decide) (by omega) (by omega) (fun h120 => ?_) (fun h120 => ?_)
                · first
                    | (exact PW.lc (by rfl) rfl (house_bad hR hin hn1 (hK.hk (CH.gd.hk.trans C3.hk)) (by rw [hq9, show 60 - s.1 = 0 by omega]; exact pH_many hnx hw9 rfl) P3))
                    | (exact PW.lc (by rfl) rfl (house_bad hR hin hn1 (hK.hk (CH.gd.hk.trans C3.hk)) (by rw [hq9]; exact pH_cl hnx hw9 (by omega) (by show (if 5 ≤ HS.n p.1 then _ else _) = _; rw [if_pos (by omega)])) P3))
                    | (exact PW.lc (by rfl) rfl (house_goS P1 hd2 (by omega) hb7 (fun z z1 z2 => ih (s.1 + 1, stp (aT a) n (pNew (aT a) n p.1 ((skip (aT a) n p.2) + 7)), z) ⟨show s.1 + 1 ≤ 60 by omega, z1, hK.hk (CH.gd.hk.trans z2), (by rw [hq9, stp_pH (q := (0, smE (aT a) n (skip (aT a) n p.2))) (r := (pNew (aT a) n p.1 ((skip (aT a) n p.2) + 7))) hnx hw9 (by omega) ((cl_sl (by omega)).trans (congrArg (pNew (aT a) n p.1) (sl_t hs).1)), show 60 - s.1 = 61 - (s.1 + 1) by omega])⟩ (show 61 - (s.1 + 1) < 61 - s.1 by omega))))
                · exact absurd h120 (wd0_no hs)
          · refine r_istore_n dX10_house_64 rfl (by decide) ?_
            refine r_aload_n dX10_house_65 rfl (by rfl) ?_
            refine r_callV (n_word2 S3.rp) mv_X10_word ml_X10_219 ⟨by decide, by decide⟩ dX10_house_66 (by first | assumption | rfl) rfl rfl rfl (Nat.le_of_ble_eq_true rfl) (fun v9 x9 h9 => ?_)
            obtain ⟨rfl, h9⟩ := h9
            refine PW.xeq h9 ?_
            clear h9 x9
            refine r_istore dX10_house_69 (by decide) ?_
            refine r_iload_n dX10_house_71 rfl (by rfl) ?_
            refine r_if_neB (tgt := 95) dX10_house_72 (by decide) (fun h => by cases h) (fun _ => ?_)
            refine r_iload dX10_house_75 (by rfl) ?_
            refine r_callS (n_isRow hwd) ms_X10_isRow ml_X10_222 ⟨by decide, by decide⟩ dX10_house_77 rfl (Nat.le_of_ble_eq_true rfl) (fun v9 x9 h9 => ?_)
            obtain ⟨rfl, h9⟩ := h9
            refine PW.xeq h9 ?_
            clear h9 x9
            refine r_if_neB (tgt := 95) dX10_house_80 (by decide) (fun h80 => ?_) (fun h80 => ?_)
            · refine r_iload_n dX10_house_95 rfl (by rfl) ?_
              refine r_bipush (v := nI 60) dX10_house_96 (by decide) ?_
              refine r_icmp_eqN (tgt := 132) dX10_house_98 (by decide) (by omega) (by omega) (fun h98 => ?_) (fun h98 => ?_)
              · refine r_aload_n dX10_house_132 rfl (by rfl) ?_
                refine r_iconst (v := nI 3) dX10_house_133 (by decide) ?_
                refine r_aload_n dX10_house_134 rfl (by rfl) ?_
                refine gf_X10_107 rfl dX10_house_135 (by first | assumption | rfl) (by rfl) ?_
                refine PW.topi (show _ = nI (skip (aT a) n p.2) from xu_s) ?_
                refine r_callV (t_wrong P1 rfl (by omega)) mv_X10_wrong ml_X10_137 ⟨by decide, by decide⟩ dX10_house_138 (by first | assumption | rfl) rfl rfl rfl (Nat.le_of_ble_eq_true rfl) (fun v9 y3 h9 => ?_)
                obtain ⟨rfl, P3, C3⟩ := h9
                first
                  | (exact PW.lc (by rfl) rfl (house_bad hR hin hn1 (hK.hk (CH.gd.hk.trans C3.hk)) (by rw [hq9]; exact pH_word hnx (wd0_none hs h80)) P3))
                  | (obtain ⟨wk, hw9, hw8, hw7⟩ := wd0_row hs h80
                     exact PW.lc (by rfl) rfl (house_bad hR hin hn1 (hK.hk (CH.gd.hk.trans C3.hk)) (by rw [hq9, show 60 - s.1 = 0 by omega]; exact pH_many hnx hw9 rfl) P3))
                  | (obtain ⟨wk, hw9, hw8, hw7⟩ := wd0_row hs h80
                     exact PW.lc (by rfl) rfl (house_bad hR hin hn1 (hK.hk (CH.gd.hk.trans C3.hk)) (by rw [hq9]; exact pH_cl hnx hw9 (by omega) (hw7 h120 _ _ _ (by omega))) P3))
                  | (obtain ⟨wk, hw9, hw8, hw7⟩ := wd0_row hs h80
                     have hcc : ¬ ((wdN (aT a) n p.2) = ofW 10 ∧ 6 ≤ HS.ck p.1) := fun q => by
                       first
                         | (exact h120 q.1)
                         | omega
                     exact PW.lc (by rfl) rfl (house_goR P1 hd2 hwd (fun q4 q5 q6 q7 q8 q9 => by
                       have q0 := of_decide_eq_true h80
                       have q0 : (wdN (aT a) n p.2) = ofW 10 := q0.elim (fun q => absurd q q4) (fun q => q.elim (fun q => absurd q q5) (fun q => q.elim (fun q => absurd q q6) (fun q => q.elim (fun q => absurd q q7) (fun q => q.elim (fun q => absurd q q8) (fun q => q.elim (fun q => absurd q q9) id)))))
                       by_cases q6 : 6 ≤ HS.ck p.1
                       · exact absurd ⟨q0, q6⟩ hcc
                       · omega) (fun z z1 z2 => ih (s.1 + 1, stp (aT a) n (rwP (aT a) n (wdN (aT a) n p.2) p.1 (smE (aT a) n (skip (aT a) n p.2))), z) ⟨show s.1 + 1 ≤ 60 by omega, z1, hK.hk (CH.gd.hk.trans z2), (by rw [hq9, stp_pH (q := (wk, smE (aT a) n (skip (aT a) n p.2))) (r := (rwP (aT a) n (wdN (aT a) n p.2) p.1 (smE (aT a) n (skip (aT a) n p.2)))) hnx hw9 (by omega) (hw8 _ _ _ hcc), show 60 - s.1 = 61 - (s.1 + 1) by omega])⟩ (show 61 - (s.1 + 1) < 61 - s.1 by omega))))
              · refine r_iload_n dX10_house_101 rfl (by rfl) ?_
                refine r_if_eqB (tgt := 113) dX10_house_102 (by decide) (fun _ => ?_) (fun h => by cases h)
                refine r_iload dX10_house_113 (by rfl) ?_
                refine r_ldcS (i := 10) rfl dX10_house_115 ?_
                refine r_callS (n_of (i := 10) (by decide) (by decide)) ms_X10_of ml_X10_187 ⟨by decide, by decide⟩ dX10_house_117 rfl (Nat.le_of_ble_eq_true rfl) (fun v9 x9 h9 => ?_)
                obtain ⟨rfl, h9⟩ := h9
                refine PW.xeq h9 ?_
                clear h9 x9
                refine r_icmp_neN (tgt := 141) dX10_house_120 (by decide) (by omega) (by omega) (fun h120 => ?_) (fun h120 => ?_)
                · first
                    | (exact PW.lc (by rfl) rfl (house_bad hR hin hn1 (hK.hk (CH.gd.hk.trans C3.hk)) (by rw [hq9]; exact pH_word hnx (wd0_none hs h80)) P3))
                    | (obtain ⟨wk, hw9, hw8, hw7⟩ := wd0_row hs h80
                       exact PW.lc (by rfl) rfl (house_bad hR hin hn1 (hK.hk (CH.gd.hk.trans C3.hk)) (by rw [hq9, show 60 - s.1 = 0 by omega]; exact pH_many hnx hw9 rfl) P3))
                    | (obtain ⟨wk, hw9, hw8, hw7⟩ := wd0_row hs h80
                       exact PW.lc (by rfl) rfl (house_bad hR hin hn1 (hK.hk (CH.gd.hk.trans C3.hk)) (by rw [hq9]; exact pH_cl hnx hw9 (by omega) (hw7 h120 _ _ _ (by omega))) P3))
                    | (obtain ⟨wk, hw9, hw8, hw7⟩ := wd0_row hs h80
                       have hcc : ¬ ((wdN (aT a) n p.2) = ofW 10 ∧ 6 ≤ HS.ck p.1) := fun q => by
                         first
                           | (exact h120 q.1)
                           | omega
                       exact PW.lc (by rfl) rfl (house_goR P1 hd2 hwd (fun q4 q5 q6 q7 q8 q9 => by
                         have q0 := of_decide_eq_true h80
                         have q0 : (wdN (aT a) n p.2) = ofW 10 := q0.elim (fun q => absurd q q4) (fun q => q.elim (fun q => absurd q q5) (fun q => q.elim (fun q => absurd q q6) (fun q => q.elim (fun q => absurd q q7) (fun q => q.elim (fun q => absurd q q8) (fun q => q.elim (fun q => absurd q q9) id)))))
                         by_cases q6 : 6 ≤ HS.ck p.1
                         · exact absurd ⟨q0, q6⟩ hcc
                         · omega) (fun z z1 z2 => ih (s.1 + 1, stp (aT a) n (rwP (aT a) n (wdN (aT a) n p.2) p.1 (smE (aT a) n (skip (aT a) n p.2))), z) ⟨show s.1 + 1 ≤ 60 by omega, z1, hK.hk (CH.gd.hk.trans z2), (by rw [hq9, stp_pH (q := (wk, smE (aT a) n (skip (aT a) n p.2))) (r := (rwP (aT a) n (wdN (aT a) n p.2) p.1 (smE (aT a) n (skip (aT a) n p.2)))) hnx hw9 (by omega) (hw8 _ _ _ hcc), show 60 - s.1 = 61 - (s.1 + 1) by omega])⟩ (show 61 - (s.1 + 1) < 61 - s.1 by omega))))
                · refine r_aload_n dX10_house_123 rfl (by rfl) ?_
                  refine gf_X10_147 rfl dX10_house_124 (by first | assumption | rfl) (by rfl) ?_
                  refine PW.topi (show _ = nI (HS.ck p.1) from hd.2.1) ?_
                  refine r_bipush (v := nI 6) dX10_house_127 (by decide) ?_
                  refine r_icmp_neN (tgt := 141) dX10_house_129 (by decide) (by omega) (by omega) (fun h129 => ?_) (fun h129 => ?_)
                  · first
                      | (exact PW.lc (by rfl) rfl (house_bad hR hin hn1 (hK.hk (CH.gd.hk.trans C3.hk)) (by rw [hq9]; exact pH_word hnx (wd0_none hs h80)) P3))
                      | (obtain ⟨wk, hw9, hw8, hw7⟩ := wd0_row hs h80
                         exact PW.lc (by rfl) rfl (house_bad hR hin hn1 (hK.hk (CH.gd.hk.trans C3.hk)) (by rw [hq9, show 60 - s.1 = 0 by omega]; exact pH_many hnx hw9 rfl) P3))
                      | (obtain ⟨wk, hw9, hw8, hw7⟩ := wd0_row hs h80
                         exact PW.lc (by rfl) rfl (house_bad hR hin hn1 (hK.hk (CH.gd.hk.trans C3.hk)) (by rw [hq9]; exact pH_cl hnx hw9 (by omega) (hw7 h120 _ _ _ (by omega))) P3))
                      | (obtain ⟨wk, hw9, hw8, hw7⟩ := wd0_row hs h80
                         have hcc : ¬ ((wdN (aT a) n p.2) = ofW 10 ∧ 6 ≤ HS.ck p.1) := fun q => by
                           first
                             | (exact h120 q.1)
                             | omega
                         exact PW.lc (by rfl) rfl (house_goR P1 hd2 hwd (fun q4 q5 q6 q7 q8 q9 => by
                           have q0 := of_decide_eq_true h80
                           have q0 : (wdN (aT a) n p.2) = ofW 10 := q0.elim (fun q => absurd q q4) (fun q => q.elim (fun q => absurd q q5) (fun q => q.elim (fun q => absurd q q6) (fun q => q.elim (fun q => absurd q q7) (fun q => q.elim (fun q => absurd q q8) (fun q => q.elim (fun q => absurd q q9) id)))))
                           by_cases q6 : 6 ≤ HS.ck p.1
                           · exact absurd ⟨q0, q6⟩ hcc
                           · omega) (fun z z1 z2 => ih (s.1 + 1, stp (aT a) n (rwP (aT a) n (wdN (aT a) n p.2) p.1 (smE (aT a) n (skip (aT a) n p.2))), z) ⟨show s.1 + 1 ≤ 60 by omega, z1, hK.hk (CH.gd.hk.trans z2), (by rw [hq9, stp_pH (q := (wk, smE (aT a) n (skip (aT a) n p.2))) (r := (rwP (aT a) n (wdN (aT a) n p.2) p.1 (smE (aT a) n (skip (aT a) n p.2)))) hnx hw9 (by omega) (hw8 _ _ _ hcc), show 60 - s.1 = 61 - (s.1 + 1) by omega])⟩ (show 61 - (s.1 + 1) < 61 - s.1 by omega))))
                  · refine r_aload_n dX10_house_132 rfl (by rfl) ?_
                    refine r_iconst (v := nI 3) dX10_house_133 (by decide) ?_
                    refine r_aload_n dX10_house_134 rfl (by rfl) ?_
                    refine gf_X10_107 rfl dX10_house_135 (by first | assumption | rfl) (by rfl) ?_
                    refine PW.topi (show _ = nI (skip (aT a) n p.2) from xu_s) ?_
                    refine r_callV (t_wrong P1 rfl (by omega)) mv_X10_wrong ml_X10_137 ⟨by decide, by decide⟩ dX10_house_138 (by first | assumption | rfl) rfl rfl rfl (Nat.le_of_ble_eq_true rfl) (fun v9 y3 h9 => ?_)
                    obtain ⟨rfl, P3, C3⟩ := h9
                    first
                      | (exact PW.lc (by rfl) rfl (house_bad hR hin hn1 (hK.hk (CH.gd.hk.trans C3.hk)) (by rw [hq9]; exact pH_word hnx (wd0_none hs h80)) P3))
                      | (obtain ⟨wk, hw9, hw8, hw7⟩ := wd0_row hs h80
                         exact PW.lc (by rfl) rfl (house_bad hR hin hn1 (hK.hk (CH.gd.hk.trans C3.hk)) (by rw [hq9, show 60 - s.1 = 0 by omega]; exact pH_many hnx hw9 rfl) P3))
                      | (obtain ⟨wk, hw9, hw8, hw7⟩ := wd0_row hs h80
                         exact PW.lc (by rfl) rfl (house_bad hR hin hn1 (hK.hk (CH.gd.hk.trans C3.hk)) (by rw [hq9]; exact pH_cl hnx hw9 (by omega) (hw7 h120 _ _ _ (by omega))) P3))
                      | (obtain ⟨wk, hw9, hw8, hw7⟩ := wd0_row hs h80
                         have hcc : ¬ ((wdN (aT a) n p.2) = ofW 10 ∧ 6 ≤ HS.ck p.1) := fun q => by
                           first
                             | (exact h120 q.1)
                             | omega
                         exact PW.lc (by rfl) rfl (house_goR P1 hd2 hwd (fun q4 q5 q6 q7 q8 q9 => by
                           have q0 := of_decide_eq_true h80
                           have q0 : (wdN (aT a) n p.2) = ofW 10 := q0.elim (fun q => absurd q q4) (fun q => q.elim (fun q => absurd q q5) (fun q => q.elim (fun q => absurd q q6) (fun q => q.elim (fun q => absurd q q7) (fun q => q.elim (fun q => absurd q q8) (fun q => q.elim (fun q => absurd q q9) id)))))
                           by_cases q6 : 6 ≤ HS.ck p.1
                           · exact absurd ⟨q0, q6⟩ hcc
                           · omega) (fun z z1 z2 => ih (s.1 + 1, stp (aT a) n (rwP (aT a) n (wdN (aT a) n p.2) p.1 (smE (aT a) n (skip (aT a) n p.2))), z) ⟨show s.1 + 1 ≤ 60 by omega, z1, hK.hk (CH.gd.hk.trans z2), (by rw [hq9, stp_pH (q := (wk, smE (aT a) n (skip (aT a) n p.2))) (r := (rwP (aT a) n (wdN (aT a) n p.2) p.1 (smE (aT a) n (skip (aT a) n p.2)))) hnx hw9 (by omega) (hw8 _ _ _ hcc), show 60 - s.1 = 61 - (s.1 + 1) by omega])⟩ (show 61 - (s.1 + 1) < 61 - s.1 by omega))))
            · refine r_aload_n dX10_house_83 rfl (by rfl) ?_
              refine r_iconst (v := nI 1) dX10_house_84 (by decide) ?_
              refine r_aload_n dX10_house_85 rfl (by rfl) ?_
              refine gf_X10_107 rfl dX10_house_86 (by first | assumption | rfl) (by rfl) ?_
              refine PW.topi (show _ = nI (skip (aT a) n p.2) from xu_s) ?_
              refine r_callV (t_wrong P1 rfl (by omega)) mv_X10_wrong ml_X10_137 ⟨by decide, by decide⟩ dX10_house_89 (by first | assumption | rfl) rfl rfl rfl (Nat.le_of_ble_eq_true rfl) (fun v9 y3 h9 => ?_)
              obtain ⟨rfl, P3, C3⟩ := h9
              refine r_goto (tgt := 141) dX10_house_92 (by decide) ?_
              first
                | (exact PW.lc (by rfl) rfl (house_bad hR hin hn1 (hK.hk (CH.gd.hk.trans C3.hk)) (by rw [hq9]; exact pH_word hnx (wd0_none hs h80)) P3))
                | (obtain ⟨wk, hw9, hw8, hw7⟩ := wd0_row hs h80
                   exact PW.lc (by rfl) rfl (house_bad hR hin hn1 (hK.hk (CH.gd.hk.trans C3.hk)) (by rw [hq9, show 60 - s.1 = 0 by omega]; exact pH_many hnx hw9 rfl) P3))
                | (obtain ⟨wk, hw9, hw8, hw7⟩ := wd0_row hs h80
                   exact PW.lc (by rfl) rfl (house_bad hR hin hn1 (hK.hk (CH.gd.hk.trans C3.hk)) (by rw [hq9]; exact pH_cl hnx hw9 (by omega) (hw7 h120 _ _ _ (by omega))) P3))
                | (obtain ⟨wk, hw9, hw8, hw7⟩ := wd0_row hs h80
                   have hcc : ¬ ((wdN (aT a) n p.2) = ofW 10 ∧ 6 ≤ HS.ck p.1) := fun q => by
                     first
                       | (exact h120 q.1)
                       | omega
                   exact PW.lc (by rfl) rfl (house_goR P1 hd2 hwd (fun q4 q5 q6 q7 q8 q9 => by
                     have q0 := of_decide_eq_true h80
                     have q0 : (wdN (aT a) n p.2) = ofW 10 := q0.elim (fun q => absurd q q4) (fun q => q.elim (fun q => absurd q q5) (fun q => q.elim (fun q => absurd q q6) (fun q => q.elim (fun q => absurd q q7) (fun q => q.elim (fun q => absurd q q8) (fun q => q.elim (fun q => absurd q q9) id)))))
                     by_cases q6 : 6 ≤ HS.ck p.1
                     · exact absurd ⟨q0, q6⟩ hcc
                     · omega) (fun z z1 z2 => ih (s.1 + 1, stp (aT a) n (rwP (aT a) n (wdN (aT a) n p.2) p.1 (smE (aT a) n (skip (aT a) n p.2))), z) ⟨show s.1 + 1 ≤ 60 by omega, z1, hK.hk (CH.gd.hk.trans z2), (by rw [hq9, stp_pH (q := (wk, smE (aT a) n (skip (aT a) n p.2))) (r := (rwP (aT a) n (wdN (aT a) n p.2) p.1 (smE (aT a) n (skip (aT a) n p.2)))) hnx hw9 (by omega) (hw8 _ _ _ hcc), show 60 - s.1 = 61 - (s.1 + 1) by omega])⟩ (show 61 - (s.1 + 1) < 61 - s.1 by omega))))
