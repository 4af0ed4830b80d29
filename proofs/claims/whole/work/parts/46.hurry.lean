/-! THE FACE: both who hurry -/
def rsP (T1 T2 : Nat → Nat → Int32) (a b : Nat) : Nat → Bool
  | 0 => true
  | c + 1 => rsP T1 T2 a b c && (decide (T1 c b ≤ T1 a b) && decide (T2 a c ≤ T2 a b))
def huS (T1 T2 : Nat → Nat → Int32) (k a b : Nat) (s : Nat × Int32 × Int32) : Nat × Int32 × Int32 := if rsP T1 T2 a b (k + 1) then (if s.1 = 0 then (s.1 + 1, nI (100 * a + b), T1 a b + T2 a b) else (s.1 + 1, s.2.1, s.2.2)) else s
def huI (T1 T2 : Nat → Nat → Int32) (k a : Nat) (s : Nat × Int32 × Int32) : Nat → Nat × Int32 × Int32
  | 0 => s
  | b + 1 => huS T1 T2 k a b (huI T1 T2 k a s b)
def huO (T1 T2 : Nat → Nat → Int32) (k : Nat) : Nat → Nat × Int32 × Int32
  | 0 => (0, -1, nI 0)
  | a + 1 => huI T1 T2 k a (huO T1 T2 k a) (k + 1)
def hT1 (E : NE) (f : Nat → Int32) (p q n : Nat) (own its : Nat) : Int32 := oneS E (rdPQ f p q own its) f p n
def hT2 (E : NE) (f : Nat → Int32) (p q n : Nat) (own its : Nat) : Int32 := oneS E (rdPQ f p q own its) f q n
def oHurry (a : AS) (v w k n u : Int32) : Except Nat Int32 := rqS (eN (aE a)) v (rqS (eN (aE a)) w (rq (!decide (v = w)) (rq (inB k (nI 0) (nI 8)) (rq (inB n (nI 0) (nI 120)) (rq (inB u (nI 0) (nI 2)) (.ok (
  let r := huO (hT1 (aE a) (aR a) (nN v) (nN w) (nN n)) (hT2 (aE a) (aR a) (nN v) (nN w) (nN n)) (nN k) (nN k + 1)
  if u = nI 0 then nI r.1 else if u = nI 1 then r.2.1 else r.2.2)))))))
/-- the tables of choices, as far as k -/
def HT (z : XS) (T1 T2 : Nat → Nat → Int32) (k : Nat) : Prop := ∀ a b, a ≤ k → b ≤ k → z 134 (a * 9 + b) = T1 a b ∧ z 135 (a * 9 + b) = T2 a b
theorem restL_P {z : XS} {T1 T2 : Nat → Nat → Int32} {k a b : Nat} (h : HT z T1 T2 k) (ha : a ≤ k) (hb : b ≤ k) : ∀ c, c ≤ k + 1 → restL z a b c = rsP T1 T2 a b c
  | 0, _ => rfl
  | c + 1, hc => by
    show (restL z a b c && (decide (z 134 (c * 9 + b) ≤ z 134 (a * 9 + b)) && decide (z 135 (a * 9 + c) ≤ z 135 (a * 9 + b)))) = _
    rw [restL_P h ha hb c (by omega), (h c b (by omega) hb).1, (h a b ha hb).1, (h a c ha (by omega)).2, (h a b ha hb).2]
    rfl
def HR (y z : XS) (s : Nat × Int32 × Int32) (m : Nat) : Prop := y 133 2 = nI s.1 ∧ y 133 3 = s.2.1 ∧ y 133 4 = s.2.2 ∧ s.1 ≤ m ∧ ∀ c, c ≠ 133 → y c = z c
theorem frS_P {y z : XS} {T1 T2 : Nat → Nat → Int32} {k a b m : Nat} {s : Nat × Int32 × Int32} (h : HT z T1 T2 k) (ha : a ≤ k) (hb : b ≤ k) (hm : m < 1000) (hr : HR y z s m) : HR (frS y a b k) z (huS T1 T2 k a b s) (m + 1) := by
  obtain ⟨h2, h3, h4, h5, h6⟩ := hr
  have hy : HT y T1 T2 k := fun a b ha hb => by rw [h6 134 (by decide), h6 135 (by decide)]; exact h a b ha hb
  unfold frS huS
  rw [restL_P hy ha hb (k + 1) (Nat.le_refl _)]
  by_cases hR : rsP T1 T2 a b (k + 1) = true
  · rw [if_pos hR, if_pos hR]
    by_cases h0 : s.1 = 0
    · rw [if_pos h0, if_pos (by rw [h2, h0]; rfl)]
      dsimp only
      refine ⟨?_, ?_, ?_, by omega, fun c hc => ?_⟩
      · rw [xu_s, h2, nI_1']
      · rw [xu_k (by decide), xu_k (by decide), xu_s]
      · rw [xu_k (by decide), xu_s, (hy a b ha hb).1, (hy a b ha hb).2]
      · rw [xu_n hc, xu_n hc, xu_n hc]; exact h6 c hc
    · rw [if_neg h0, if_neg (by rw [h2]; exact nI_ne0 (by omega) (by omega))]
      refine ⟨?_, ?_, ?_, by show s.1 + 1 ≤ m + 1; omega, fun c hc => ?_⟩
      · rw [xu_s, h2, nI_1']
      · rw [xu_k (by decide)]; exact h3
      · rw [xu_k (by decide)]; exact h4
      · rw [xu_n hc]; exact h6 c hc
  · rw [if_neg hR, if_neg hR]
    exact ⟨h2, h3, h4, by omega, h6⟩
theorem frI_P {y z : XS} {T1 T2 : Nat → Nat → Int32} {k a m : Nat} {s : Nat × Int32 × Int32} (h : HT z T1 T2 k) (ha : a ≤ k) (hm : m + k < 900) (hr : HR y z s m) : ∀ b, b ≤ k + 1 → HR (frI y a k b) z (huI T1 T2 k a s b) (m + b)
  | 0, _ => hr
  | b + 1, hb => frS_P h ha (by omega) (show m + b < 1000 by omega) (frI_P h ha hm hr b (by omega))
theorem frO_P {z : XS} {T1 T2 : Nat → Nat → Int32} {k : Nat} (h : HT z T1 T2 k) (hk : k ≤ 8) : ∀ a, a ≤ k + 1 → HR (frO z k a) z (huO T1 T2 k a) (a * (k + 1))
  | 0, _ => by
    refine ⟨rfl, rfl, rfl, Nat.zero_le _, fun c hc => ?_⟩
    show xu (xu (xu z 133 2 (nI 0)) 133 3 (-1)) 133 4 (nI 0) c = z c
    rw [xu_n hc, xu_n hc, xu_n hc]
  | a + 1, ha => by
    have ih := frO_P h hk a (by omega)
    have hb : a * (k + 1) ≤ 8 * 9 := Nat.mul_le_mul (by omega) (by omega)
    have w := frI_P h (show a ≤ k by omega) (by omega) ih (k + 1) (Nat.le_refl _)
    rw [Nat.succ_mul]
    exact w
set_option maxHeartbeats 8000000 in
set_option maxRecDepth 20000 in
theorem f_hurry {a : AS} {x : XS} {v w k9 n9 u9 : Int32} (hC : RC x a) (hA : AI a) : ASK mX9_hurry [.ref 0, .int v, .int w, .int k9, .int n9, .int u9] x a (oHurry a v w k9 n9 u9) := by
  refine MM.of (by decide) (Nat.le_of_ble_eq_true rfl) ?_
  have y0 := lay_0
  have y43 := lay_43
  have y44 := lay_44
  have y49 := lay_49
  have y50 := lay_50
  have y133 := lay_133
  have y134 := lay_134
  have y135 := lay_135
  obtain ⟨t, ht2, ht⟩ := hA.t
  refine r_aload_n dX9_hurry_0 rfl (by rfl) ?_
  refine r_iload_n dX9_hurry_1 rfl (by rfl) ?_
  by_cases q2 : nobody v (eN (aE a)) = true
  · exact r_callVT (c_rS_f hC.1.1 q2) mv_X9_requireSleeper ml_X9_200 ⟨by decide, by decide⟩ dX9_hurry_2 lay_0 rfl rfl rfl (Nat.le_of_ble_eq_true rfl) ⟨by decide, by decide⟩ (fun E y h => by obtain ⟨rfl, e⟩ := h; exact ask_nob hC e (by rw [oHurry, rqS_t q2]))
  · have q2 := Bool.eq_false_iff.mpr q2
    obtain ⟨p, hp, rfl⟩ := nobody_f hC.1.2.1 q2
    have hp5 : p < 5 := Nat.lt_of_lt_of_le hp hC.1.2.1
    refine r_callV (c_rS_t hC.1.1 hC.1.2.1 hp) mv_X9_requireSleeper ml_X9_200 ⟨by decide, by decide⟩ dX9_hurry_2 lay_0 rfl rfl rfl (Nat.le_of_ble_eq_true rfl) (fun v9 x9 h9 => ?_)
    obtain ⟨rfl, h9⟩ := h9
    refine PW.xeq h9 ?_
    clear h9 x9
    refine r_aload_n dX9_hurry_5 rfl (by rfl) ?_
    refine r_iload_n dX9_hurry_6 rfl (by rfl) ?_
    by_cases q7 : nobody w (eN (aE a)) = true
    · exact r_callVT (c_rS_f hC.1.1 q7) mv_X9_requireSleeper ml_X9_200 ⟨by decide, by decide⟩ dX9_hurry_7 lay_0 rfl rfl rfl (Nat.le_of_ble_eq_true rfl) ⟨by decide, by decide⟩ (fun E y h => by obtain ⟨rfl, e⟩ := h; exact ask_nob hC e (by rw [oHurry, rqS_f q2, rqS_t q7]))
    · have q7 := Bool.eq_false_iff.mpr q7
      obtain ⟨q, hq, rfl⟩ := nobody_f hC.1.2.1 q7
      have hq5 : q < 5 := Nat.lt_of_lt_of_le hq hC.1.2.1
      refine r_callV (c_rS_t hC.1.1 hC.1.2.1 hq) mv_X9_requireSleeper ml_X9_200 ⟨by decide, by decide⟩ dX9_hurry_7 lay_0 rfl rfl rfl (Nat.le_of_ble_eq_true rfl) (fun v9 x9 h9 => ?_)
      obtain ⟨rfl, h9⟩ := h9
      refine PW.xeq h9 ?_
      clear h9 x9
      refine r_aload_n dX9_hurry_10 rfl (by rfl) ?_
      refine r_iload_n dX9_hurry_11 rfl (by rfl) ?_
      refine r_iload_n dX9_hurry_12 rfl (by rfl) ?_
      refine r_icmp_eqN (tgt := 30) dX9_hurry_13 (by decide) (by omega) (by omega) (fun h13 => ?_) (fun h13 => ?_)
      · refine r_iconst (v := nI 0) dX9_hurry_30 (by decide) ?_
        refine PW.topi bI_f.symm ?_
        exact r_callVT c_require_f mv_X9_require ml_X9_148 ⟨by decide, by decide⟩ dX9_hurry_31 lay_0 rfl rfl rfl (Nat.le_of_ble_eq_true rfl) ⟨by decide, by decide⟩ (fun E y h => by obtain ⟨rfl, e⟩ := h; exact ask_bad hC e (by rw [oHurry, rqS_f q2, rqS_f q7, rqN_f h13]))
      · refine r_iload_n dX9_hurry_16 rfl (by rfl) ?_
        refine r_iconst (v := nI 0) dX9_hurry_17 (by decide) ?_
        refine r_bipush (v := nI 8) dX9_hurry_18 (by decide) ?_
        refine r_callS c_X9_within ms_X9_within ml_X9_144 ⟨by decide, by decide⟩ dX9_hurry_20 rfl (Nat.le_of_ble_eq_true rfl) (fun v9 x9 h9 => ?_)
        obtain ⟨rfl, h9⟩ := h9
        refine PW.xeq h9 ?_
        clear h9 x9
        refine r_if_eqB (tgt := 30) dX9_hurry_23 (by decide) (fun h23 => ?_) (fun h23 => ?_)
        · refine r_iconst (v := nI 0) dX9_hurry_30 (by decide) ?_
          refine PW.topi bI_f.symm ?_
          exact r_callVT c_require_f mv_X9_require ml_X9_148 ⟨by decide, by decide⟩ dX9_hurry_31 lay_0 rfl rfl rfl (Nat.le_of_ble_eq_true rfl) ⟨by decide, by decide⟩ (fun E y h => by obtain ⟨rfl, e⟩ := h; exact ask_bad hC e (by rw [oHurry, rqS_f q2, rqS_f q7, rqN_t hp5 hq5 h13, rq_f h23]))
        · refine r_iconst (v := nI 1) dX9_hurry_26 (by decide) ?_
          refine r_goto (tgt := 31) dX9_hurry_27 (by decide) ?_
          refine PW.topi bI_t.symm ?_
          refine r_callV c_require_t mv_X9_require ml_X9_148 ⟨by decide, by decide⟩ dX9_hurry_31 lay_0 rfl rfl rfl (Nat.le_of_ble_eq_true rfl) (fun v9 x9 h9 => ?_)
          obtain ⟨rfl, h9⟩ := h9
          refine PW.xeq h9 ?_
          clear h9 x9
          refine r_aload_n dX9_hurry_34 rfl (by rfl) ?_
          refine r_iload dX9_hurry_35 (by rfl) ?_
          refine r_iconst (v := nI 0) dX9_hurry_37 (by decide) ?_
          refine r_bipush (v := nI 120) dX9_hurry_38 (by decide) ?_
          refine r_callS c_X9_within ms_X9_within ml_X9_144 ⟨by decide, by decide⟩ dX9_hurry_40 rfl (Nat.le_of_ble_eq_true rfl) (fun v9 x9 h9 => ?_)
          obtain ⟨rfl, h9⟩ := h9
          refine PW.xeq h9 ?_
          clear h9 x9
          refine r_if_eqB (tgt := 60) dX9_hurry_43 (by decide) (fun h43 => ?_) (fun h43 => ?_)
          · refine r_iconst (v := nI 0) dX9_hurry_60 (by decide) ?_
            refine PW.topi bI_f.symm ?_
            exact r_callVT c_require_f mv_X9_require ml_X9_148 ⟨by decide, by decide⟩ dX9_hurry_61 lay_0 rfl rfl rfl (Nat.le_of_ble_eq_true rfl) ⟨by decide, by decide⟩ (fun E y h => by obtain ⟨rfl, e⟩ := h; exact ask_bad hC e (by rw [oHurry, rqS_f q2, rqS_f q7, rqN_t hp5 hq5 h13, rq_t h23, rq_f h43]))
          · refine r_iload dX9_hurry_46 (by rfl) ?_
            refine r_iconst (v := nI 0) dX9_hurry_48 (by decide) ?_
            refine r_iconst (v := nI 2) dX9_hurry_49 (by decide) ?_
            refine r_callS c_X9_within ms_X9_within ml_X9_144 ⟨by decide, by decide⟩ dX9_hurry_50 rfl (Nat.le_of_ble_eq_true rfl) (fun v9 x9 h9 => ?_)
            obtain ⟨rfl, h9⟩ := h9
            refine PW.xeq h9 ?_
            clear h9 x9
            refine r_if_eqB (tgt := 60) dX9_hurry_53 (by decide) (fun h53 => ?_) (fun h53 => ?_)
            · refine r_iconst (v := nI 0) dX9_hurry_60 (by decide) ?_
              refine PW.topi bI_f.symm ?_
              exact r_callVT c_require_f mv_X9_require ml_X9_148 ⟨by decide, by decide⟩ dX9_hurry_61 lay_0 rfl rfl rfl (Nat.le_of_ble_eq_true rfl) ⟨by decide, by decide⟩ (fun E y h => by obtain ⟨rfl, e⟩ := h; exact ask_bad hC e (by rw [oHurry, rqS_f q2, rqS_f q7, rqN_t hp5 hq5 h13, rq_t h23, rq_t h43, rq_f h53]))
            · refine r_iconst (v := nI 1) dX9_hurry_56 (by decide) ?_
              refine r_goto (tgt := 61) dX9_hurry_57 (by decide) ?_
              refine PW.topi bI_t.symm ?_
              refine r_callV c_require_t mv_X9_require ml_X9_148 ⟨by decide, by decide⟩ dX9_hurry_61 lay_0 rfl rfl rfl (Nat.le_of_ble_eq_true rfl) (fun v9 x9 h9 => ?_)
              obtain ⟨rfl, h9⟩ := h9
              refine PW.xeq h9 ?_
              clear h9 x9
              obtain ⟨k, _, hk, rfl⟩ := inB_is (lo := 0) (hi := 8) h23 (by decide) (by decide)
              obtain ⟨n, _, hn, rfl⟩ := inB_is (lo := 0) (hi := 120) h43 (by decide) (by decide)
              obtain ⟨u, _, hu, rfl⟩ := inB_is (lo := 0) (hi := 2) h53 (by decide) (by decide)
              refine r_iconst (v := nI 0) dX9_hurry_64 (by decide) ?_
              refine r_istore dX9_hurry_65 (by decide) ?_
              refine PW.loop (σ := Nat × XS) (fun o => k + 1 - o.1) (fun o => o.1 ≤ k + 1 ∧ TG x o.2 ∧ (∀ a9 b9, a9 < o.1 → b9 ≤ k → o.2 134 (a9 * 9 + b9) = (hT1 (aE a) (aR a) p q n) a9 b9 ∧ o.2 135 (a9 * 9 + b9) = (hT2 (aE a) (aR a) p q n) a9 b9)) (fun o => [(0, .ref 0), (1, .int (nI p)), (2, .int (nI q)), (3, .int (nI k)), (4, .int (nI n)), (5, .int (nI u)), (6, .int (nI o.1))]) (fun o => o.2) ((0, x)) (⟨Nat.zero_le _, TG.rfl, fun a9 b9 h9 => absurd h9 (Nat.not_lt_zero _)⟩) rfl rfl (fun o ho oh => ?_)
              obtain ⟨ho1, hF, hL⟩ := ho
              refine r_iload dX9_hurry_67 (by rfl) ?_
              refine r_iload_n dX9_hurry_69 rfl (by rfl) ?_
              refine r_icmp_gtN (tgt := 145) dX9_hurry_70 (by decide) (by omega) (by omega) (fun h70 => ?_) (fun h70 => ?_)
              · refine r_aload_n dX9_hurry_145 rfl (by rfl) ?_
                refine gf_X9_83 rfl dX9_hurry_146 (by first | assumption | rfl) (by rfl) ?_
                refine r_iload_n dX9_hurry_149 rfl (by rfl) ?_
                refine r_callV (c_X4_findRests (by omega)) mv_X4_findRests ml_X9_271 ⟨by decide, by decide⟩ dX9_hurry_150 (by first | assumption | rfl) rfl rfl rfl (Nat.le_of_ble_eq_true rfl) (fun v9 x9 h9 => ?_)
                obtain ⟨rfl, h9⟩ := h9
                refine PW.xeq h9 ?_
                clear h9 x9
                refine r_iload dX9_hurry_153 (by rfl) ?_
                rcases (show u = 0 ∨ u = 1 ∨ u = 2 by omega) with rfl | rfl | rfl
                · refine r_lookup (tgt := 180) (off := 25) dX9_hurry_155 (by decide +kernel) (by decide +kernel) (by decide) ?_
                  refine r_aload_n dX9_hurry_180 rfl (by rfl) ?_
                  refine gf_X9_83 rfl dX9_hurry_181 (by first | assumption | rfl) (by rfl) ?_
                  refine gf_X9_274 rfl dX9_hurry_184 (by first | assumption | rfl) (by rfl) ?_
                  refine r_iretW rfl dX9_hurry_187 ?_
                  have w := frO_P (z := o.2) (fun a9 b9 h1 h2 => hL a9 b9 (by omega) h2) hk (k + 1) (Nat.le_refl _)
                  refine ask_okG hC (fun c hc h9 => ?_) ?_
                  · rw [w.2.2.2.2 c (by omega)]
                    exact hF c hc h9
                  rw [oHurry, rqS_f q2, rqS_f q7, rqN_t hp5 hq5 h13, rq_t h23, rq_t h43, rq_t h53, nN_nI (by omega), nN_nI (by omega), nN_nI (by omega), nN_nI (by omega)]
                  first
                    | exact congrArg Except.ok w.1.symm
                    | exact congrArg Except.ok w.2.1.symm
                    | exact congrArg Except.ok w.2.2.1.symm
                · refine r_lookup (tgt := 188) (off := 33) dX9_hurry_155 (by decide +kernel) (by decide +kernel) (by decide) ?_
                  refine r_aload_n dX9_hurry_188 rfl (by rfl) ?_
                  refine gf_X9_83 rfl dX9_hurry_189 (by first | assumption | rfl) (by rfl) ?_
                  refine gf_X9_277 rfl dX9_hurry_192 (by first | assumption | rfl) (by rfl) ?_
                  refine r_iretW rfl dX9_hurry_195 ?_
                  have w := frO_P (z := o.2) (fun a9 b9 h1 h2 => hL a9 b9 (by omega) h2) hk (k + 1) (Nat.le_refl _)
                  refine ask_okG hC (fun c hc h9 => ?_) ?_
                  · rw [w.2.2.2.2 c (by omega)]
                    exact hF c hc h9
                  rw [oHurry, rqS_f q2, rqS_f q7, rqN_t hp5 hq5 h13, rq_t h23, rq_t h43, rq_t h53, nN_nI (by omega), nN_nI (by omega), nN_nI (by omega), nN_nI (by omega)]
                  first
                    | exact congrArg Except.ok w.1.symm
                    | exact congrArg Except.ok w.2.1.symm
                    | exact congrArg Except.ok w.2.2.1.symm
                · refine r_lookup (tgt := 196) (off := 41) dX9_hurry_155 (by decide +kernel) (by decide +kernel) (by decide) ?_
                  refine r_aload_n dX9_hurry_196 rfl (by rfl) ?_
                  refine gf_X9_83 rfl dX9_hurry_197 (by first | assumption | rfl) (by rfl) ?_
                  refine gf_X9_280 rfl dX9_hurry_200 (by first | assumption | rfl) (by rfl) ?_
                  refine r_iretW rfl dX9_hurry_203 ?_
                  have w := frO_P (z := o.2) (fun a9 b9 h1 h2 => hL a9 b9 (by omega) h2) hk (k + 1) (Nat.le_refl _)
                  refine ask_okG hC (fun c hc h9 => ?_) ?_
                  · rw [w.2.2.2.2 c (by omega)]
                    exact hF c hc h9
                  rw [oHurry, rqS_f q2, rqS_f q7, rqN_t hp5 hq5 h13, rq_t h23, rq_t h43, rq_t h53, nN_nI (by omega), nN_nI (by omega), nN_nI (by omega), nN_nI (by omega)]
                  first
                    | exact congrArg Except.ok w.1.symm
                    | exact congrArg Except.ok w.2.1.symm
                    | exact congrArg Except.ok w.2.2.1.symm
              · refine r_iconst (v := nI 0) dX9_hurry_73 (by decide) ?_
                refine r_istore dX9_hurry_74 (by decide) ?_
                refine PW.loop (σ := Nat × XS) (fun s => k + 1 - s.1) (fun s => s.1 ≤ k + 1 ∧ TG x s.2 ∧ (∀ a9 b9, ((a9 < o.1 ∧ b9 ≤ k) ∨ (a9 = o.1 ∧ b9 < s.1)) → s.2 134 (a9 * 9 + b9) = (hT1 (aE a) (aR a) p q n) a9 b9 ∧ s.2 135 (a9 * 9 + b9) = (hT2 (aE a) (aR a) p q n) a9 b9)) (fun s => [(0, .ref 0), (1, .int (nI p)), (2, .int (nI q)), (3, .int (nI k)), (4, .int (nI n)), (5, .int (nI u)), (6, .int (nI o.1)), (7, .int (nI s.1))]) (fun s => s.2) ((0, o.2)) (⟨Nat.zero_le _, hF, fun a9 b9 h9 => hL a9 b9 (by omega) (by omega)⟩) rfl rfl (fun s hs ih => ?_)
                obtain ⟨hs1, hG, hL⟩ := hs
                refine r_iload dX9_hurry_76 (by rfl) ?_
                refine r_iload_n dX9_hurry_78 rfl (by rfl) ?_
                refine r_icmp_gtN (tgt := 139) dX9_hurry_79 (by decide) (by omega) (by omega) (fun h79 => ?_) (fun h79 => ?_)
                · refine r_iincN dX9_hurry_139 (by rfl) (by decide) ?_
                  refine r_goto (tgt := 67) dX9_hurry_142 (by decide) ?_
                  exact PW.lc (by rfl) rfl (oh (o.1 + 1, s.2) ⟨(show o.1 + 1 ≤ k + 1 by omega), hG, (fun a9 b9 h1 h2 => hL a9 b9 (by have h1 : a9 < o.1 + 1 := h1; omega))⟩ (show k + 1 - (o.1 + 1) < k + 1 - o.1 by omega))
                · refine r_aload_n dX9_hurry_82 rfl (by rfl) ?_
                  refine r_iload_n dX9_hurry_83 rfl (by rfl) ?_
                  refine r_iload_n dX9_hurry_84 rfl (by rfl) ?_
                  refine r_iload dX9_hurry_85 (by rfl) ?_
                  refine r_iload dX9_hurry_87 (by rfl) ?_
                  refine r_callV (c_askedReading (hC.tg hG) hp5 hq5) mv_X9_askedWhileReading ml_X9_259 ⟨by decide, by decide⟩ dX9_hurry_89 (by first | assumption | rfl) rfl rfl rfl (Nat.le_of_ble_eq_true rfl) (fun v9 y h9 => ?_)
                  obtain ⟨rfl, U0, F0⟩ := h9
                  refine r_astore dX9_hurry_92 (by decide) ?_
                  refine r_aload dX9_hurry_94 (by rfl) ?_
                  refine r_iload dX9_hurry_96 (by rfl) ?_
                  refine r_callV (t_sleptInNext U0 ht ht2 (by omega)) mv_X6_sleptInNext ml_X9_249 ⟨by decide, by decide⟩ dX9_hurry_98 (by first | assumption | rfl) rfl rfl rfl (Nat.le_of_ble_eq_true rfl) (fun v9 z h9 => ?_)
                  obtain ⟨rfl, U1, F1⟩ := h9
                  have r44 : z 44 = aR a := by rw [(hG.trans (F0.trans F1).g) 44 (by unfold TS; omega) (by omega)]; exact hC.2.1.1
                  refine r_pop dX9_hurry_101 rfl ?_
                  refine r_aload_n dX9_hurry_102 rfl (by rfl) ?_
                  refine gf_X9_83 rfl dX9_hurry_103 (by first | assumption | rfl) (by rfl) ?_
                  refine r_iload dX9_hurry_106 (by rfl) ?_
                  refine r_iload dX9_hurry_108 (by rfl) ?_
                  refine r_aload dX9_hurry_110 (by rfl) ?_
                  refine r_aload_n dX9_hurry_112 rfl (by rfl) ?_
                  refine gf_X9_59 rfl dX9_hurry_113 (by first | assumption | rfl) (by rfl) ?_
                  refine r_iload_n dX9_hurry_116 rfl (by rfl) ?_
                  refine r_callV (t_sleptSince U1 r44 hp5) mv_X6_sleptSince ml_X9_263 ⟨by decide, by decide⟩ dX9_hurry_117 (by first | assumption | rfl) rfl rfl rfl (Nat.le_of_ble_eq_true rfl) (fun v9 x9 h9 => ?_)
                  obtain ⟨rfl, h9⟩ := h9
                  refine PW.xeq h9 ?_
                  clear h9 x9
                  refine r_aload dX9_hurry_120 (by rfl) ?_
                  refine r_aload_n dX9_hurry_122 rfl (by rfl) ?_
                  refine gf_X9_59 rfl dX9_hurry_123 (by first | assumption | rfl) (by rfl) ?_
                  refine r_iload_n dX9_hurry_126 rfl (by rfl) ?_
                  refine r_callV (t_sleptSince U1 r44 hq5) mv_X6_sleptSince ml_X9_263 ⟨by decide, by decide⟩ dX9_hurry_127 (by first | assumption | rfl) rfl rfl rfl (Nat.le_of_ble_eq_true rfl) (fun v9 x9 h9 => ?_)
                  obtain ⟨rfl, h9⟩ := h9
                  refine PW.xeq h9 ?_
                  clear h9 x9
                  refine r_callV (c_X4_put (by omega) (by omega)) mv_X4_put ml_X9_267 ⟨by decide, by decide⟩ dX9_hurry_130 (by first | assumption | rfl) rfl rfl rfl (Nat.le_of_ble_eq_true rfl) (fun v9 x9 h9 => ?_)
                  obtain ⟨rfl, h9⟩ := h9
                  refine PW.xeq h9 ?_
                  clear h9 x9
                  refine r_iincN dX9_hurry_133 (by rfl) (by decide) ?_
                  refine r_goto (tgt := 76) dX9_hurry_136 (by decide) ?_
                  exact PW.lc (by rfl) rfl (ih (s.1 + 1, (xu (xu z 134 (o.1 * 9 + s.1) (itP (aE a) (eW (aE a)) (rdPQ (aR a) p q o.1 s.1) (aR a) n (25 + p) - aR a (25 + p))) 135 (o.1 * 9 + s.1) (itP (aE a) (eW (aE a)) (rdPQ (aR a) p q o.1 s.1) (aR a) n (25 + q) - aR a (25 + q)))) ⟨(show s.1 + 1 ≤ k + 1 by omega), (fun c hc h9 => (show (xu (xu z 134 (o.1 * 9 + s.1) (itP (aE a) (eW (aE a)) (rdPQ (aR a) p q o.1 s.1) (aR a) n (25 + p) - aR a (25 + p))) 135 (o.1 * 9 + s.1) (itP (aE a) (eW (aE a)) (rdPQ (aR a) p q o.1 s.1) (aR a) n (25 + q) - aR a (25 + q))) c = x c from (by rw [xu_n (by omega), xu_n (by omega)]; exact (hG.trans (F0.trans F1).g) c hc h9))), (fun a9 b9 h9 => by
                    show upd (z 134) _ _ _ = _ ∧ upd (z 135) _ _ _ = _
                    have e134 : z 134 = s.2 134 := (F0.trans F1) 134 (by unfold TS; omega)
                    have e135 : z 135 = s.2 135 := (F0.trans F1) 135 (by unfold TS; omega)
                    by_cases e9 : a9 = o.1 ∧ b9 = s.1
                    · obtain ⟨rfl, rfl⟩ := e9
                      exact ⟨pk_us, pk_us⟩
                    · rw [pk_un (by omega), pk_un (by omega), e134, e135]
                      exact hL a9 b9 (by omega))⟩ (show k + 1 - (s.1 + 1) < k + 1 - s.1 by omega))
