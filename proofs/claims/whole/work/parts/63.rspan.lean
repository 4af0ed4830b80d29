/-! THE REFERENCE: spans of nights; whose plugs by turns -/
theorem one_sl {E : NE} {he rd f : Nat → Int32} {p i : Nat} (hp : p < 5) (hi : i < 5) : ∃ j, j ≤ (if p = i then 1 else 0) ∧ oneP E he rd f i (25 + p) = f (25 + p) + nI j := by
  have z : ∀ v : Int32, v = v + nI 0 := fun v => (Int32.add_zero v).symm
  unfold oneP
  by_cases e : p = i
  · subst e
    rw [if_pos rfl]
    split
    · unfold slpR wakeR
      dsimp only
      split
      · refine ⟨1, Nat.le_refl _, ?_⟩
        split
        · split
          · rw [pk_un (by omega), pk_us, pk_un (by omega), pk_un (by omega)]
          · rw [pk_un (by omega), pk_un (by omega), pk_us, pk_un (by omega), pk_un (by omega)]
        · rw [pk_us, pk_un (by omega), pk_un (by omega)]
      · exact ⟨0, by decide, by rw [pk_un (by omega), pk_un (by omega), pk_un (by omega), pk_un (by omega)]; exact z _⟩
    · generalize (if f 40 < rd p then false else falP E f p (he p)) = b
      unfold stayR
      dsimp only
      refine ⟨0, by decide, ?_⟩
      split
      · rw [pk_un (by omega), pk_un (by omega), pk_un (by omega)]; exact z _
      · rw [pk_un (by omega), pk_un (by omega)]; exact z _
  · rw [if_neg e]
    refine ⟨0, Nat.le_refl _, ?_⟩
    split
    · unfold slpR wakeR
      dsimp only
      split
      · split
        · split
          · rw [pk_un (by omega), pk_un (by omega), pk_un (by omega), pk_un (by omega)]; exact z _
          · rw [pk_un (by omega), pk_un (by omega), pk_un (by omega), pk_un (by omega), pk_un (by omega)]; exact z _
        · rw [pk_un (by omega), pk_un (by omega), pk_un (by omega)]; exact z _
      · rw [pk_un (by omega), pk_un (by omega), pk_un (by omega), pk_un (by omega)]; exact z _
    · generalize (if f 40 < rd i then false else falP E f i (he i)) = b
      unfold stayR
      dsimp only
      split
      · rw [pk_un (by omega), pk_un (by omega), pk_un (by omega)]; exact z _
      · rw [pk_un (by omega), pk_un (by omega)]; exact z _
theorem mn_sl {E : NE} {he rd f : Nat → Int32} {p : Nat} (hp : p < 5) : ∀ i, i ≤ 5 → ∃ j, j ≤ (if p < i then 1 else 0) ∧ mnP E he rd f i (25 + p) = f (25 + p) + nI j
  | 0, _ => ⟨0, Nat.zero_le _, (Int32.add_zero _).symm⟩
  | i + 1, hi => by
    obtain ⟨j, hj, ej⟩ := mn_sl (E := E) (he := he) (rd := rd) (f := f) hp i (by omega)
    obtain ⟨j2, hj2, ej2⟩ := one_sl (E := E) (he := he) (rd := rd) (f := mnP E he rd f i) (p := p) (i := i) hp (by omega)
    refine ⟨j + j2, ?_, ?_⟩
    · by_cases q : p = i
      · rw [if_pos q] at hj2
        rw [if_neg (by omega)] at hj
        rw [if_pos (by omega)]
        omega
      · rw [if_neg q] at hj2
        by_cases q2 : p < i
        · rw [if_pos q2] at hj
          rw [if_pos (by omega)]
          omega
        · rw [if_neg q2] at hj
          omega
    · show oneP E he rd (mnP E he rd f i) i (25 + p) = _
      rw [ej2, ej, Int32.add_assoc, nI_add]
theorem min_sl {E : NE} {w k : Int32} {rd f : Nat → Int32} {p : Nat} (hp : p < 5) (hn : eN E ≤ 5) : ∃ j, j ≤ 1 ∧ minP E w rd k f (25 + p) = f (25 + p) + nI j := by
  unfold minP
  split
  · obtain ⟨j, hj, ej⟩ := mn_sl (E := E) (he := heaP E w k f) (rd := rd) (f := f) hp (eN E) hn
    refine ⟨j, by split at hj <;> omega, ?_⟩
    rw [pk_un (by omega)]
    exact ej
  · exact ⟨0, by decide, (Int32.add_zero _).symm⟩
theorem sum_sl {f g : Nat → Int32} : ∀ n, (∀ p, p < n → ∃ j, j ≤ 1 ∧ g (25 + p) = f (25 + p) + nI j) → ∃ J, J ≤ n ∧ sumR g 25 n = sumR f 25 n + nI J
  | 0, _ => ⟨0, Nat.le_refl _, (Int32.add_zero _).symm⟩
  | n + 1, h => by
    obtain ⟨J, hJ, eJ⟩ := sum_sl (f := f) (g := g) n (fun p hp => h p (by omega))
    obtain ⟨j, hj, ej⟩ := h n (by omega)
    refine ⟨J + j, by omega, ?_⟩
    show sumR g 25 n + g (25 + n) = sumR f 25 n + f (25 + n) + nI (J + j)
    rw [eJ, ej, ← nI_add]
    grind
theorem pc_sl {E : NE} {w s q l : Int32} {rd f : Nat → Int32} (hn : eN E ≤ 5) : ∀ i, ∃ J, J ≤ 5 * i ∧ sumR (pcP E w rd s q l f i) 25 (eN E) = sumR f 25 (eN E) + nI J
  | 0 => ⟨0, Nat.zero_le _, (Int32.add_zero _).symm⟩
  | i + 1 => by
    obtain ⟨J, hJ, eJ⟩ := pc_sl (w := w) (s := s) (q := q) (l := l) (rd := rd) (f := f) hn i
    obtain ⟨j, hj, ej⟩ := sum_sl (f := pcP E w rd s q l f i) (g := pcP E w rd s q l f (i + 1)) (eN E) (fun p hp => min_sl (by omega) hn)
    refine ⟨J + j, by omega, ?_⟩
    rw [ej, eJ, Int32.add_assoc, nI_add]
theorem pc_diff {E : NE} {w s q l : Int32} {rd f : Nat → Int32} {n : Nat} (hn : eN E ≤ 5) (h : n ≤ 240) : ∃ J, J ≤ 1200 ∧ sumR (pcP E w rd s q l f n) 25 (eN E) - sumR f 25 (eN E) = nI J := by
  obtain ⟨J, hJ, eJ⟩ := pc_sl (w := w) (s := s) (q := q) (l := l) (rd := rd) (f := f) hn n
  refine ⟨J, by omega, ?_⟩
  rw [eJ]
  grind
theorem spa_is {E : NE} {f : Nat → Int32} {sd q l : Int32} {n : Nat} (hn : eN E ≤ 5) (h : n ≤ 240) : ∀ i, ∃ k, k ≤ 1200 ∧ (spaF E f sd q l n i).1 = nI k
  | 0 => ⟨1200, Nat.le_refl _, rfl⟩
  | i + 1 => by
    obtain ⟨k, hk, ek⟩ := spa_is (f := f) (sd := sd) (q := q) (l := l) hn h i
    obtain ⟨J, hJ, eJ⟩ := pc_diff (E := E) (w := eW E) (s := sd + nI i) (q := q) (l := l) (rd := rd0) (f := f) hn h
    show ∃ k, k ≤ 1200 ∧ imin (spaF E f sd q l n i).1 _ = nI k
    rw [ek, eJ, imin_N (by omega) (by omega)]
    exact ⟨_, by omega, rfl⟩
def lsS (E : NE) (f : Nat → Int32) (sd q l : Int32) (n i : Nat) : Int32 := if i = 0 then -1 else (spaF E f sd q l n i).1
def oSpanR (a : AS) (sd mn q l n k : Int32) : Except Nat Int32 := rq (inB mn (nI 1) (nI 20)) (rq (carOK q l n) (rq (inB k (nI 0) (nI 2)) (.ok (
  let r := spaF (aE a) (aR a) sd q l (nN n) (nN mn)
  if k = nI 0 then r.1 else if k = nI 1 then r.2.1 else r.2.2))))
theorem rq_swap (b c : Bool) (r : Except Nat Int32) : rq b (rq c r) = rq c (rq b r) := by
  cases b <;> cases c <;> rfl
theorem oSpan_R (a : AS) (sd mn q l n k : Int32) : oSpan a sd mn q l n k = oSpanR a sd mn q l n k := by
  unfold oSpan oSpanR
  rw [rq_swap (inB k (nI 0) (nI 2))]
set_option maxHeartbeats 8000000 in
set_option maxRecDepth 20000 in
theorem g_span {a : AS} {x : XS} {sd mn9 q l n9 u9 : Int32} (hR : RRf x a) (hA : AI a) : RASK mX10_span [.ref 137, .int sd, .int mn9, .int q, .int l, .int n9, .int u9] x a (oSpanR a sd mn9 q l n9 u9) 1 := by
  refine MM.of (by decide) (Nat.le_of_ble_eq_true rfl) ?_
  have y137 := lay_137
  have y153 := lay_153
  have y154 := lay_154
  obtain ⟨t, ht2, ht⟩ := hA.t
  refine r_aload_n dX10_span_0 rfl (by rfl) ?_
  refine r_iconst (v := nI 0) dX10_span_1 (by decide) ?_
  refine pf_X10_3 rfl dX10_span_2 (by first | assumption | rfl) (by rfl) ?_
  refine r_aload_n dX10_span_5 rfl (by rfl) ?_
  refine r_iload_n dX10_span_6 rfl (by rfl) ?_
  refine r_iconst (v := nI 1) dX10_span_7 (by decide) ?_
  refine r_bipush (v := nI 20) dX10_span_8 (by decide) ?_
  refine r_callS c_within10 ms_X10_within ml_X10_282 ⟨by decide, by decide⟩ dX10_span_10 rfl (Nat.le_of_ble_eq_true rfl) (fun v9 x9 h9 => ?_)
  obtain ⟨rfl, h9⟩ := h9
  refine PW.xeq h9 ?_
  clear h9 x9
  refine r_if_eqB (tgt := 41) dX10_span_13 (by decide) (fun h13 => ?_) (fun h13 => ?_)
  · refine r_iconst (v := nI 0) dX10_span_41 (by decide) ?_
    refine r_iconst (v := nI 1) dX10_span_42 (by decide) ?_
    refine r_iconst (v := nI 1) dX10_span_43 (by decide) ?_
    refine r_callV (c_may_0 xu_s (by decide) (by decide)) mv_X10_may ml_X10_203 ⟨by decide, by decide⟩ dX10_span_44 lay_137 rfl rfl rfl (Nat.le_of_ble_eq_true rfl) (fun v9 x9 h9 => ?_)
    obtain ⟨rfl, h9⟩ := h9
    refine PW.xeq h9 ?_
    clear h9 x9
    refine r_if_neB (tgt := 52) dX10_span_47 (by decide) (fun h => by cases h) (fun _ => ?_)
    refine r_iconst (v := nI 0) dX10_span_50 (by decide) ?_
    refine r_iret rfl dX10_span_51 ?_
    exact ref_bad hR rfl (by rw [oSpanR, rq_f h13])
  · refine r_iload_n dX10_span_16 rfl (by rfl) ?_
    refine r_iload dX10_span_17 (by rfl) ?_
    refine r_iload dX10_span_19 (by rfl) ?_
    refine r_callS n_isNight ms_X10_isNight ml_X10_455 ⟨by decide, by decide⟩ dX10_span_21 rfl (Nat.le_of_ble_eq_true rfl) (fun v9 x9 h9 => ?_)
    obtain ⟨rfl, h9⟩ := h9
    refine PW.xeq h9 ?_
    clear h9 x9
    refine r_if_eqB (tgt := 41) dX10_span_24 (by decide) (fun h24 => ?_) (fun h24 => ?_)
    · refine r_iconst (v := nI 0) dX10_span_41 (by decide) ?_
      refine r_iconst (v := nI 1) dX10_span_42 (by decide) ?_
      refine r_iconst (v := nI 1) dX10_span_43 (by decide) ?_
      refine r_callV (c_may_0 xu_s (by decide) (by decide)) mv_X10_may ml_X10_203 ⟨by decide, by decide⟩ dX10_span_44 lay_137 rfl rfl rfl (Nat.le_of_ble_eq_true rfl) (fun v9 x9 h9 => ?_)
      obtain ⟨rfl, h9⟩ := h9
      refine PW.xeq h9 ?_
      clear h9 x9
      refine r_if_neB (tgt := 52) dX10_span_47 (by decide) (fun h => by cases h) (fun _ => ?_)
      refine r_iconst (v := nI 0) dX10_span_50 (by decide) ?_
      refine r_iret rfl dX10_span_51 ?_
      exact ref_bad hR rfl (by rw [oSpanR, rq_t h13, rq_f h24])
    · refine r_iload dX10_span_27 (by rfl) ?_
      refine r_iconst (v := nI 0) dX10_span_29 (by decide) ?_
      refine r_iconst (v := nI 2) dX10_span_30 (by decide) ?_
      refine r_callS c_within10 ms_X10_within ml_X10_282 ⟨by decide, by decide⟩ dX10_span_31 rfl (Nat.le_of_ble_eq_true rfl) (fun v9 x9 h9 => ?_)
      obtain ⟨rfl, h9⟩ := h9
      refine PW.xeq h9 ?_
      clear h9 x9
      refine r_if_eqB (tgt := 41) dX10_span_34 (by decide) (fun h34 => ?_) (fun h34 => ?_)
      · refine r_iconst (v := nI 0) dX10_span_41 (by decide) ?_
        refine r_iconst (v := nI 1) dX10_span_42 (by decide) ?_
        refine r_iconst (v := nI 1) dX10_span_43 (by decide) ?_
        refine r_callV (c_may_0 xu_s (by decide) (by decide)) mv_X10_may ml_X10_203 ⟨by decide, by decide⟩ dX10_span_44 lay_137 rfl rfl rfl (Nat.le_of_ble_eq_true rfl) (fun v9 x9 h9 => ?_)
        obtain ⟨rfl, h9⟩ := h9
        refine PW.xeq h9 ?_
        clear h9 x9
        refine r_if_neB (tgt := 52) dX10_span_47 (by decide) (fun h => by cases h) (fun _ => ?_)
        refine r_iconst (v := nI 0) dX10_span_50 (by decide) ?_
        refine r_iret rfl dX10_span_51 ?_
        exact ref_bad hR rfl (by rw [oSpanR, rq_t h13, rq_t h24, rq_f h34])
      · refine r_iconst (v := nI 1) dX10_span_37 (by decide) ?_
        refine r_goto (tgt := 42) dX10_span_38 (by decide) ?_
        refine r_iconst (v := nI 1) dX10_span_42 (by decide) ?_
        refine r_iconst (v := nI 1) dX10_span_43 (by decide) ?_
        refine r_callV (c_may_1 xu_s) mv_X10_may ml_X10_203 ⟨by decide, by decide⟩ dX10_span_44 lay_137 rfl rfl rfl (Nat.le_of_ble_eq_true rfl) (fun v9 x9 h9 => ?_)
        obtain ⟨rfl, h9⟩ := h9
        refine PW.xeq h9 ?_
        clear h9 x9
        refine r_if_neB (tgt := 52) dX10_span_47 (by decide) (fun _ => ?_) (fun h => by cases h)
        obtain ⟨mn, _, hmn, rfl⟩ := inB_is (lo := 1) (hi := 20) h13 (by decide) (by decide)
        obtain ⟨n, _, hn, rfl⟩ := inB_is (lo := 1) (hi := 240) (carOK_n h24) (by decide) (by decide)
        obtain ⟨k, _, hk, rfl⟩ := inB_is (lo := 0) (hi := 2) h34 (by decide) (by decide)
        refine r_iconst (v := -1) dX10_span_52 (by decide) ?_
        refine r_istore dX10_span_53 (by decide) ?_
        refine r_iconst (v := nI 0) dX10_span_55 (by decide) ?_
        refine r_istore dX10_span_56 (by decide) ?_
        refine r_iconst (v := nI 0) dX10_span_58 (by decide) ?_
        refine r_istore dX10_span_59 (by decide) ?_
        refine r_iconst (v := nI 0) dX10_span_61 (by decide) ?_
        refine r_istore dX10_span_62 (by decide) ?_
        refine PW.loop (σ := Nat × XS) (fun s => mn - s.1) (fun s => s.1 ≤ mn ∧ QF x s.2 ∧ s.2 137 0 = nI 0) (fun s => [(0, .ref 137), (1, .int sd), (2, .int (nI mn)), (3, .int q), (4, .int l), (5, .int (nI n)), (6, .int (nI k)), (7, .int (lsS (aE a) (aR a) sd q l n s.1)), (8, .int (spaF (aE a) (aR a) sd q l n s.1).2.1), (9, .int (spaF (aE a) (aR a) sd q l n s.1).2.2), (10, .int (nI s.1))]) (fun s => s.2) ((0, th0 x)) (⟨Nat.zero_le _, th0_qf x, rfl⟩) rfl rfl (fun s hs ih => ?_)
        obtain ⟨hs1, hF, z0⟩ := hs
        refine r_iload dX10_span_64 (by rfl) ?_
        refine r_iload_n dX10_span_66 rfl (by rfl) ?_
        refine r_icmp_geN (tgt := 160) dX10_span_67 (by decide) (by omega) (by omega) (fun h67 => ?_) (fun h67 => ?_)
        · refine r_iload dX10_span_160 (by rfl) ?_
          refine r_if_ne (tgt := 170) dX10_span_162 (by decide) (fun h162 => ?_) (fun h162 => ?_)
          · refine r_iload dX10_span_170 (by rfl) ?_
            refine r_iconst (v := nI 1) dX10_span_172 (by decide) ?_
            refine r_icmp_neN (tgt := 181) dX10_span_173 (by decide) (by omega) (by omega) (fun h173 => ?_) (fun h173 => ?_)
            · refine r_iload dX10_span_181 (by rfl) ?_
              refine r_iret rfl dX10_span_183 ?_
              refine ref_ok hR hF z0 ?_
              have es : s.1 = mn := by omega
              have el : lsS (aE a) (aR a) sd q l n s.1 = (spaF (aE a) (aR a) sd q l n mn).1 := by
                unfold lsS
                rw [es, if_neg (by omega)]
              rw [oSpanR, rq_t h13, rq_t h24, rq_t h34, nN_nI (by omega), nN_nI (by omega)]
              dsimp only
              first
                | (have hk0 : k = 0 := by
                     by_cases e : k = 0
                     · exact e
                     · exact absurd h162 (nI_ne0 (by omega) (by omega))
                   subst hk0
                   rw [el]
                   rfl)
                | (rw [if_neg (show ¬ nI k = nI 0 from h162)]
                   have k9 : k = 1 := by omega
                   subst k9
                   rw [es]
                   rfl)
                | (rw [if_neg (show ¬ nI k = nI 0 from h162)]
                   have k9 : k = 2 := by
                     have : k ≠ 0 := fun e => h162 (by rw [e]; rfl)
                     omega
                   subst k9
                   rw [es]
                   rfl)
            · refine r_iload dX10_span_176 (by rfl) ?_
              refine r_goto (tgt := 183) dX10_span_178 (by decide) ?_
              refine r_iret rfl dX10_span_183 ?_
              refine ref_ok hR hF z0 ?_
              have es : s.1 = mn := by omega
              have el : lsS (aE a) (aR a) sd q l n s.1 = (spaF (aE a) (aR a) sd q l n mn).1 := by
                unfold lsS
                rw [es, if_neg (by omega)]
              rw [oSpanR, rq_t h13, rq_t h24, rq_t h34, nN_nI (by omega), nN_nI (by omega)]
              dsimp only
              first
                | (have hk0 : k = 0 := by
                     by_cases e : k = 0
                     · exact e
                     · exact absurd h162 (nI_ne0 (by omega) (by omega))
                   subst hk0
                   rw [el]
                   rfl)
                | (rw [if_neg (show ¬ nI k = nI 0 from h162)]
                   have k9 : k = 1 := by omega
                   subst k9
                   rw [es]
                   rfl)
                | (rw [if_neg (show ¬ nI k = nI 0 from h162)]
                   have k9 : k = 2 := by
                     have : k ≠ 0 := fun e => h162 (by rw [e]; rfl)
                     omega
                   subst k9
                   rw [es]
                   rfl)
          · refine r_iload dX10_span_165 (by rfl) ?_
            refine r_goto (tgt := 183) dX10_span_167 (by decide) ?_
            refine r_iret rfl dX10_span_183 ?_
            refine ref_ok hR hF z0 ?_
            have es : s.1 = mn := by omega
            have el : lsS (aE a) (aR a) sd q l n s.1 = (spaF (aE a) (aR a) sd q l n mn).1 := by
              unfold lsS
              rw [es, if_neg (by omega)]
            rw [oSpanR, rq_t h13, rq_t h24, rq_t h34, nN_nI (by omega), nN_nI (by omega)]
            dsimp only
            first
              | (have hk0 : k = 0 := by
                   by_cases e : k = 0
                   · exact e
                   · exact absurd h162 (nI_ne0 (by omega) (by omega))
                 subst hk0
                 rw [el]
                 rfl)
              | (rw [if_neg (show ¬ nI k = nI 0 from h162)]
                 have k9 : k = 1 := by omega
                 subst k9
                 rw [es]
                 rfl)
              | (rw [if_neg (show ¬ nI k = nI 0 from h162)]
                 have k9 : k = 2 := by
                   have : k ≠ 0 := fun e => h162 (by rw [e]; rfl)
                   omega
                 subst k9
                 rw [es]
                 rfl)
        · refine r_aload_n dX10_span_70 rfl (by rfl) ?_
          refine r_iload_n dX10_span_71 rfl (by rfl) ?_
          refine r_iload dX10_span_72 (by rfl) ?_
          refine r_iadd dX10_span_74 ?_
          refine r_iload_n dX10_span_75 rfl (by rfl) ?_
          refine r_iload dX10_span_76 (by rfl) ?_
          refine r_iload dX10_span_78 (by rfl) ?_
          refine r_callV (n_drives (hR.qf hF) hA ht ht2 (by omega)) mv_X10_drives ml_X10_458 ⟨by decide, by decide⟩ dX10_span_80 (by first | assumption | rfl) rfl rfl rfl (Nat.le_of_ble_eq_true rfl) (fun v9 y h9 => ?_)
          obtain ⟨rfl, T1, c1, F1, z1⟩ := h9
          have R1 := (hR.qf hF).qf F1
          refine r_aload_n dX10_span_83 rfl (by rfl) ?_
          refine r_callV (n_sleptNow R1.1.1 R1.1.2.1 T1 R1.2.2.1) mv_X10_sleptNow ml_X10_462 ⟨by decide, by decide⟩ dX10_span_84 (by first | assumption | rfl) rfl rfl rfl (Nat.le_of_ble_eq_true rfl) (fun v9 x9 h9 => ?_)
          obtain ⟨rfl, h9⟩ := h9
          refine PW.xeq h9 ?_
          clear h9 x9
          refine r_istore dX10_span_87 (by decide) ?_
          obtain ⟨J, hJ, eJ⟩ := pc_diff (E := aE a) (w := eW (aE a)) (s := sd + nI s.1) (q := q) (l := l) (rd := rd0) (f := aR a) (n := n) hR.1.2.1 hn
          obtain ⟨kp, hkp, ekp⟩ := spa_is (E := aE a) (f := aR a) (sd := sd) (q := q) (l := l) (n := n) hR.1.2.1 hn s.1
          have e1 : (spaF (aE a) (aR a) sd q l n (s.1 + 1)).1 = imin (spaF (aE a) (aR a) sd q l n s.1).1 (sumR (pcP (aE a) (eW (aE a)) rd0 (sd + nI s.1) q l (aR a) n) 25 (eN (aE a)) - sumR (aR a) 25 (eN (aE a))) := rfl
          have e2 : (spaF (aE a) (aR a) sd q l n (s.1 + 1)).2.1 = imax (spaF (aE a) (aR a) sd q l n s.1).2.1 (sumR (pcP (aE a) (eW (aE a)) rd0 (sd + nI s.1) q l (aR a) n) 25 (eN (aE a)) - sumR (aR a) 25 (eN (aE a))) := rfl
          have e3 : (spaF (aE a) (aR a) sd q l n (s.1 + 1)).2.2 = if pcP (aE a) (eW (aE a)) rd0 (sd + nI s.1) q l (aR a) n 41 = aR a 41 then (spaF (aE a) (aR a) sd q l n s.1).2.2 + nI 1 else (spaF (aE a) (aR a) sd q l n s.1).2.2 := rfl
          unfold imin at e1
          unfold imax at e2
          refine r_iload dX10_span_89 (by rfl) ?_
          refine r_iconst (v := -1) dX10_span_91 (by decide) ?_
          refine r_icmp_eq (tgt := 102) dX10_span_92 (by decide) (fun h92 => ?_) (fun h92 => ?_)
          · refine r_iload dX10_span_102 (by rfl) ?_
            refine r_goto (tgt := 109) dX10_span_104 (by decide) ?_
            refine PW.topi (show _ = (spaF (aE a) (aR a) sd q l n (s.1 + 1)).1 from (by
              rw [e1]
              unfold lsS at *
              by_cases i0 : s.1 = 0
              · have k12 : (spaF (aE a) (aR a) sd q l n s.1).1 = nI 1200 := by rw [i0]; rfl
                first
                  | (rw [k12, eJ]
                     by_cases q9 : J < 1200
                     · rw [if_pos (nI_lt q9 (by decide))]
                     · rw [if_neg (nI_nlt (by omega) (by omega)), show J = 1200 by omega])
                  | (exact absurd (show (if s.1 = 0 then (-1 : Int32) else (spaF (aE a) (aR a) sd q l n s.1).1) = -1 from if_pos i0) h92)
              · rw [if_neg i0] at *
                first
                  | (rw [if_neg (Int32.not_lt.mpr h99)]; done)
                  | (rw [if_pos (Int32.not_le.mp h99)]; done)
                  | (rw [if_pos h99]; done)
                  | (rw [if_neg h99]; done)
                  | (exact absurd (ekp.symm.trans h92) (nI_ne1 (by omega))))) ?_
            refine r_istore dX10_span_109 (by decide) ?_
            refine r_iload dX10_span_111 (by rfl) ?_
            refine r_iload dX10_span_113 (by rfl) ?_
            refine r_icmp_le (tgt := 123) dX10_span_115 (by decide) (fun h115 => ?_) (fun h115 => ?_)
            · refine r_iload dX10_span_123 (by rfl) ?_
              refine PW.topi (show _ = (spaF (aE a) (aR a) sd q l n (s.1 + 1)).2.1 from (by rw [e2]; first | (rw [if_neg (Int32.not_lt.mpr h115)]; done) | (rw [if_pos (Int32.not_le.mp h115)]; done))) ?_
              refine r_istore dX10_span_125 (by decide) ?_
              refine r_iload dX10_span_127 (by rfl) ?_
              refine r_aload_n dX10_span_129 rfl (by rfl) ?_
              refine gf_X10_65 rfl dX10_span_130 (by first | assumption | rfl) (by rfl) ?_
              refine r_bipush (v := nI 41) dX10_span_133 (by decide) ?_
              refine r_ialdN dX10_span_135 (by first | assumption | rfl) (by omega) (by decide) ?_
              refine PW.topi T1.2.2 ?_
              refine r_aload_n dX10_span_136 rfl (by rfl) ?_
              refine gf_X10_62 rfl dX10_span_137 (by first | assumption | rfl) (by rfl) ?_
              refine r_bipush (v := nI 41) dX10_span_140 (by decide) ?_
              refine r_ialdN dX10_span_142 (by first | assumption | rfl) (by omega) (by decide) ?_
              refine PW.topi R1.2.2.1.2.2 ?_
              refine r_icmp_ne (tgt := 150) dX10_span_143 (by decide) (fun h143 => ?_) (fun h143 => ?_)
              · refine r_iconst (v := nI 0) dX10_span_150 (by decide) ?_
                refine r_iadd dX10_span_151 ?_
                refine PW.topi (show _ = (spaF (aE a) (aR a) sd q l n (s.1 + 1)).2.2 from (by rw [e3]; first | (rw [if_pos h143]; done) | (rw [if_neg h143, nI_0, Int32.add_zero]; done))) ?_
                refine r_istore dX10_span_152 (by decide) ?_
                refine r_iincN dX10_span_154 (by rfl) (by decide) ?_
                refine r_goto (tgt := 64) dX10_span_157 (by decide) ?_
                refine PW.lc ?_ rfl (ih (s.1 + 1, y) ⟨(show s.1 + 1 ≤ mn by omega), hF.trans F1, z1.trans z0⟩ (show mn - (s.1 + 1) < mn - s.1 by omega))
                dsimp only
                rw [show lsS (aE a) (aR a) sd q l n (s.1 + 1) = (spaF (aE a) (aR a) sd q l n (s.1 + 1)).1 from if_neg (by omega)]
                rfl
              · refine r_iconst (v := nI 1) dX10_span_146 (by decide) ?_
                refine r_goto (tgt := 151) dX10_span_147 (by decide) ?_
                refine r_iadd dX10_span_151 ?_
                refine PW.topi (show _ = (spaF (aE a) (aR a) sd q l n (s.1 + 1)).2.2 from (by rw [e3]; first | (rw [if_pos h143]; done) | (rw [if_neg h143, nI_0, Int32.add_zero]; done))) ?_
                refine r_istore dX10_span_152 (by decide) ?_
                refine r_iincN dX10_span_154 (by rfl) (by decide) ?_
                refine r_goto (tgt := 64) dX10_span_157 (by decide) ?_
                refine PW.lc ?_ rfl (ih (s.1 + 1, y) ⟨(show s.1 + 1 ≤ mn by omega), hF.trans F1, z1.trans z0⟩ (show mn - (s.1 + 1) < mn - s.1 by omega))
                dsimp only
                rw [show lsS (aE a) (aR a) sd q l n (s.1 + 1) = (spaF (aE a) (aR a) sd q l n (s.1 + 1)).1 from if_neg (by omega)]
                rfl
            · refine r_iload dX10_span_118 (by rfl) ?_
              refine r_goto (tgt := 125) dX10_span_120 (by decide) ?_
              refine PW.topi (show _ = (spaF (aE a) (aR a) sd q l n (s.1 + 1)).2.1 from (by rw [e2]; first | (rw [if_neg (Int32.not_lt.mpr h115)]; done) | (rw [if_pos (Int32.not_le.mp h115)]; done))) ?_
              refine r_istore dX10_span_125 (by decide) ?_
              refine r_iload dX10_span_127 (by rfl) ?_
              refine r_aload_n dX10_span_129 rfl (by rfl) ?_
              refine gf_X10_65 rfl dX10_span_130 (by first | assumption | rfl) (by rfl) ?_
              refine r_bipush (v := nI 41) dX10_span_133 (by decide) ?_
              refine r_ialdN dX10_span_135 (by first | assumption | rfl) (by omega) (by decide) ?_
              refine PW.topi T1.2.2 ?_
              refine r_aload_n dX10_span_136 rfl (by rfl) ?_
              refine gf_X10_62 rfl dX10_span_137 (by first | assumption | rfl) (by rfl) ?_
              refine r_bipush (v := nI 41) dX10_span_140 (by decide) ?_
              refine r_ialdN dX10_span_142 (by first | assumption | rfl) (by omega) (by decide) ?_
              refine PW.topi R1.2.2.1.2.2 ?_
              refine r_icmp_ne (tgt := 150) dX10_span_143 (by decide) (fun h143 => ?_) (fun h143 => ?_)
              · refine r_iconst (v := nI 0) dX10_span_150 (by decide) ?_
                refine r_iadd dX10_span_151 ?_
                refine PW.topi (show _ = (spaF (aE a) (aR a) sd q l n (s.1 + 1)).2.2 from (by rw [e3]; first | (rw [if_pos h143]; done) | (rw [if_neg h143, nI_0, Int32.add_zero]; done))) ?_
                refine r_istore dX10_span_152 (by decide) ?_
                refine r_iincN dX10_span_154 (by rfl) (by decide) ?_
                refine r_goto (tgt := 64) dX10_span_157 (by decide) ?_
                refine PW.lc ?_ rfl (ih (s.1 + 1, y) ⟨(show s.1 + 1 ≤ mn by omega), hF.trans F1, z1.trans z0⟩ (show mn - (s.1 + 1) < mn - s.1 by omega))
                dsimp only
                rw [show lsS (aE a) (aR a) sd q l n (s.1 + 1) = (spaF (aE a) (aR a) sd q l n (s.1 + 1)).1 from if_neg (by omega)]
                rfl
              · refine r_iconst (v := nI 1) dX10_span_146 (by decide) ?_
                refine r_goto (tgt := 151) dX10_span_147 (by decide) ?_
                refine r_iadd dX10_span_151 ?_
                refine PW.topi (show _ = (spaF (aE a) (aR a) sd q l n (s.1 + 1)).2.2 from (by rw [e3]; first | (rw [if_pos h143]; done) | (rw [if_neg h143, nI_0, Int32.add_zero]; done))) ?_
                refine r_istore dX10_span_152 (by decide) ?_
                refine r_iincN dX10_span_154 (by rfl) (by decide) ?_
                refine r_goto (tgt := 64) dX10_span_157 (by decide) ?_
                refine PW.lc ?_ rfl (ih (s.1 + 1, y) ⟨(show s.1 + 1 ≤ mn by omega), hF.trans F1, z1.trans z0⟩ (show mn - (s.1 + 1) < mn - s.1 by omega))
                dsimp only
                rw [show lsS (aE a) (aR a) sd q l n (s.1 + 1) = (spaF (aE a) (aR a) sd q l n (s.1 + 1)).1 from if_neg (by omega)]
                rfl
          · refine r_iload dX10_span_95 (by rfl) ?_
            refine r_iload dX10_span_97 (by rfl) ?_
            refine r_icmp_ge (tgt := 107) dX10_span_99 (by decide) (fun h99 => ?_) (fun h99 => ?_)
            · refine r_iload dX10_span_107 (by rfl) ?_
              refine PW.topi (show _ = (spaF (aE a) (aR a) sd q l n (s.1 + 1)).1 from (by
                rw [e1]
                unfold lsS at *
                by_cases i0 : s.1 = 0
                · have k12 : (spaF (aE a) (aR a) sd q l n s.1).1 = nI 1200 := by rw [i0]; rfl
                  first
                    | (rw [k12, eJ]
                       by_cases q9 : J < 1200
                       · rw [if_pos (nI_lt q9 (by decide))]
                       · rw [if_neg (nI_nlt (by omega) (by omega)), show J = 1200 by omega])
                    | (exact absurd (show (if s.1 = 0 then (-1 : Int32) else (spaF (aE a) (aR a) sd q l n s.1).1) = -1 from if_pos i0) h92)
                · rw [if_neg i0] at *
                  first
                    | (rw [if_neg (Int32.not_lt.mpr h99)]; done)
                    | (rw [if_pos (Int32.not_le.mp h99)]; done)
                    | (rw [if_pos h99]; done)
                    | (rw [if_neg h99]; done)
                    | (exact absurd (ekp.symm.trans h92) (nI_ne1 (by omega))))) ?_
              refine r_istore dX10_span_109 (by decide) ?_
              refine r_iload dX10_span_111 (by rfl) ?_
              refine r_iload dX10_span_113 (by rfl) ?_
              refine r_icmp_le (tgt := 123) dX10_span_115 (by decide) (fun h115 => ?_) (fun h115 => ?_)
              · refine r_iload dX10_span_123 (by rfl) ?_
                refine PW.topi (show _ = (spaF (aE a) (aR a) sd q l n (s.1 + 1)).2.1 from (by rw [e2]; first | (rw [if_neg (Int32.not_lt.mpr h115)]; done) | (rw [if_pos (Int32.not_le.mp h115)]; done))) ?_
                refine r_istore dX10_span_125 (by decide) ?_
                refine r_iload dX10_span_127 (by rfl) ?_
                refine r_aload_n dX10_span_129 rfl (by rfl) ?_
                refine gf_X10_65 rfl dX10_span_130 (by first | assumption | rfl) (by rfl) ?_
                refine r_bipush (v := nI 41) dX10_span_133 (by decide) ?_
                refine r_ialdN dX10_span_135 (by first | assumption | rfl) (by omega) (by decide) ?_
                refine PW.topi T1.2.2 ?_
                refine r_aload_n dX10_span_136 rfl (by rfl) ?_
                refine gf_X10_62 rfl dX10_span_137 (by first | assumption | rfl) (by rfl) ?_
                refine r_bipush (v := nI 41) dX10_span_140 (by decide) ?_
                refine r_ialdN dX10_span_142 (by first | assumption | rfl) (by omega) (by decide) ?_
                refine PW.topi R1.2.2.1.2.2 ?_
                refine r_icmp_ne (tgt := 150) dX10_span_143 (by decide) (fun h143 => ?_) (fun h143 => ?_)
                · refine r_iconst (v := nI 0) dX10_span_150 (by decide) ?_
                  refine r_iadd dX10_span_151 ?_
                  refine PW.topi (show _ = (spaF (aE a) (aR a) sd q l n (s.1 + 1)).2.2 from (by rw [e3]; first | (rw [if_pos h143]; done) | (rw [if_neg h143, nI_0, Int32.add_zero]; done))) ?_
                  refine r_istore dX10_span_152 (by decide) ?_
                  refine r_iincN dX10_span_154 (by rfl) (by decide) ?_
                  refine r_goto (tgt := 64) dX10_span_157 (by decide) ?_
                  refine PW.lc ?_ rfl (ih (s.1 + 1, y) ⟨(show s.1 + 1 ≤ mn by omega), hF.trans F1, z1.trans z0⟩ (show mn - (s.1 + 1) < mn - s.1 by omega))
                  dsimp only
                  rw [show lsS (aE a) (aR a) sd q l n (s.1 + 1) = (spaF (aE a) (aR a) sd q l n (s.1 + 1)).1 from if_neg (by omega)]
                  rfl
                · refine r_iconst (v := nI 1) dX10_span_146 (by decide) ?_
                  refine r_goto (tgt := 151) dX10_span_147 (by decide) ?_
                  refine r_iadd dX10_span_151 ?_
                  refine PW.topi (show _ = (spaF (aE a) (aR a) sd q l n (s.1 + 1)).2.2 from (by rw [e3]; first | (rw [if_pos h143]; done) | (rw [if_neg h143, nI_0, Int32.add_zero]; done))) ?_
                  refine r_istore dX10_span_152 (by decide) ?_
                  refine r_iincN dX10_span_154 (by rfl) (by decide) ?_
                  refine r_goto (tgt := 64) dX10_span_157 (by decide) ?_
                  refine PW.lc ?_ rfl (ih (s.1 + 1, y) ⟨(show s.1 + 1 ≤ mn by omega), hF.trans F1, z1.trans z0⟩ (show mn - (s.1 + 1) < mn - s.1 by omega))
                  dsimp only
                  rw [show lsS (aE a) (aR a) sd q l n (s.1 + 1) = (spaF (aE a) (aR a) sd q l n (s.1 + 1)).1 from if_neg (by omega)]
                  rfl
              · refine r_iload dX10_span_118 (by rfl) ?_
                refine r_goto (tgt := 125) dX10_span_120 (by decide) ?_
                refine PW.topi (show _ = (spaF (aE a) (aR a) sd q l n (s.1 + 1)).2.1 from (by rw [e2]; first | (rw [if_neg (Int32.not_lt.mpr h115)]; done) | (rw [if_pos (Int32.not_le.mp h115)]; done))) ?_
                refine r_istore dX10_span_125 (by decide) ?_
                refine r_iload dX10_span_127 (by rfl) ?_
                refine r_aload_n dX10_span_129 rfl (by rfl) ?_
                refine gf_X10_65 rfl dX10_span_130 (by first | assumption | rfl) (by rfl) ?_
                refine r_bipush (v := nI 41) dX10_span_133 (by decide) ?_
                refine r_ialdN dX10_span_135 (by first | assumption | rfl) (by omega) (by decide) ?_
                refine PW.topi T1.2.2 ?_
                refine r_aload_n dX10_span_136 rfl (by rfl) ?_
                refine gf_X10_62 rfl dX10_span_137 (by first | assumption | rfl) (by rfl) ?_
                refine r_bipush (v := nI 41) dX10_span_140 (by decide) ?_
                refine r_ialdN dX10_span_142 (by first | assumption | rfl) (by omega) (by decide) ?_
                refine PW.topi R1.2.2.1.2.2 ?_
                refine r_icmp_ne (tgt := 150) dX10_span_143 (by decide) (fun h143 => ?_) (fun h143 => ?_)
                · refine r_iconst (v := nI 0) dX10_span_150 (by decide) ?_
                  refine r_iadd dX10_span_151 ?_
                  refine PW.topi (show _ = (spaF (aE a) (aR a) sd q l n (s.1 + 1)).2.2 from (by rw [e3]; first | (rw [if_pos h143]; done) | (rw [if_neg h143, nI_0, Int32.add_zero]; done))) ?_
                  refine r_istore dX10_span_152 (by decide) ?_
                  refine r_iincN dX10_span_154 (by rfl) (by decide) ?_
                  refine r_goto (tgt := 64) dX10_span_157 (by decide) ?_
                  refine PW.lc ?_ rfl (ih (s.1 + 1, y) ⟨(show s.1 + 1 ≤ mn by omega), hF.trans F1, z1.trans z0⟩ (show mn - (s.1 + 1) < mn - s.1 by omega))
                  dsimp only
                  rw [show lsS (aE a) (aR a) sd q l n (s.1 + 1) = (spaF (aE a) (aR a) sd q l n (s.1 + 1)).1 from if_neg (by omega)]
                  rfl
                · refine r_iconst (v := nI 1) dX10_span_146 (by decide) ?_
                  refine r_goto (tgt := 151) dX10_span_147 (by decide) ?_
                  refine r_iadd dX10_span_151 ?_
                  refine PW.topi (show _ = (spaF (aE a) (aR a) sd q l n (s.1 + 1)).2.2 from (by rw [e3]; first | (rw [if_pos h143]; done) | (rw [if_neg h143, nI_0, Int32.add_zero]; done))) ?_
                  refine r_istore dX10_span_152 (by decide) ?_
                  refine r_iincN dX10_span_154 (by rfl) (by decide) ?_
                  refine r_goto (tgt := 64) dX10_span_157 (by decide) ?_
                  refine PW.lc ?_ rfl (ih (s.1 + 1, y) ⟨(show s.1 + 1 ≤ mn by omega), hF.trans F1, z1.trans z0⟩ (show mn - (s.1 + 1) < mn - s.1 by omega))
                  dsimp only
                  rw [show lsS (aE a) (aR a) sd q l n (s.1 + 1) = (spaF (aE a) (aR a) sd q l n (s.1 + 1)).1 from if_neg (by omega)]
                  rfl
            · refine r_iload dX10_span_102 (by rfl) ?_
              refine r_goto (tgt := 109) dX10_span_104 (by decide) ?_
              refine PW.topi (show _ = (spaF (aE a) (aR a) sd q l n (s.1 + 1)).1 from (by
                rw [e1]
                unfold lsS at *
                by_cases i0 : s.1 = 0
                · have k12 : (spaF (aE a) (aR a) sd q l n s.1).1 = nI 1200 := by rw [i0]; rfl
                  first
                    | (rw [k12, eJ]
                       by_cases q9 : J < 1200
                       · rw [if_pos (nI_lt q9 (by decide))]
                       · rw [if_neg (nI_nlt (by omega) (by omega)), show J = 1200 by omega])
                    | (exact absurd (show (if s.1 = 0 then (-1 : Int32) else (spaF (aE a) (aR a) sd q l n s.1).1) = -1 from if_pos i0) h92)
                · rw [if_neg i0] at *
                  first
                    | (rw [if_neg (Int32.not_lt.mpr h99)]; done)
                    | (rw [if_pos (Int32.not_le.mp h99)]; done)
                    | (rw [if_pos h99]; done)
                    | (rw [if_neg h99]; done)
                    | (exact absurd (ekp.symm.trans h92) (nI_ne1 (by omega))))) ?_
              refine r_istore dX10_span_109 (by decide) ?_
              refine r_iload dX10_span_111 (by rfl) ?_
              refine r_iload dX10_span_113 (by rfl) ?_
              refine r_icmp_le (tgt := 123) dX10_span_115 (by decide) (fun h115 => ?_) (fun h115 => ?_)
              · refine r_iload dX10_span_123 (by rfl) ?_
                refine PW.topi (show _ = (spaF (aE a) (aR a) sd q l n (s.1 + 1)).2.1 from (by rw [e2]; first | (rw [if_neg (Int32.not_lt.mpr h115)]; done) | (rw [if_pos (Int32.not_le.mp h115)]; done))) ?_
                refine r_istore dX10_span_125 (by decide) ?_
                refine r_iload dX10_span_127 (by rfl) ?_
                refine r_aload_n dX10_span_129 rfl (by rfl) ?_
                refine gf_X10_65 rfl dX10_span_130 (by first | assumption | rfl) (by rfl) ?_
                refine r_bipush (v := nI 41) dX10_span_133 (by decide) ?_
                refine r_ialdN dX10_span_135 (by first | assumption | rfl) (by omega) (by decide) ?_
                refine PW.topi T1.2.2 ?_
                refine r_aload_n dX10_span_136 rfl (by rfl) ?_
                refine gf_X10_62 rfl dX10_span_137 (by first | assumption | rfl) (by rfl) ?_
                refine r_bipush (v := nI 41) dX10_span_140 (by decide) ?_
                refine r_ialdN dX10_span_142 (by first | assumption | rfl) (by omega) (by decide) ?_
                refine PW.topi R1.2.2.1.2.2 ?_
                refine r_icmp_ne (tgt := 150) dX10_span_143 (by decide) (fun h143 => ?_) (fun h143 => ?_)
                · refine r_iconst (v := nI 0) dX10_span_150 (by decide) ?_
                  refine r_iadd dX10_span_151 ?_
                  refine PW.topi (show _ = (spaF (aE a) (aR a) sd q l n (s.1 + 1)).2.2 from (by rw [e3]; first | (rw [if_pos h143]; done) | (rw [if_neg h143, nI_0, Int32.add_zero]; done))) ?_
                  refine r_istore dX10_span_152 (by decide) ?_
                  refine r_iincN dX10_span_154 (by rfl) (by decide) ?_
                  refine r_goto (tgt := 64) dX10_span_157 (by decide) ?_
                  refine PW.lc ?_ rfl (ih (s.1 + 1, y) ⟨(show s.1 + 1 ≤ mn by omega), hF.trans F1, z1.trans z0⟩ (show mn - (s.1 + 1) < mn - s.1 by omega))
                  dsimp only
                  rw [show lsS (aE a) (aR a) sd q l n (s.1 + 1) = (spaF (aE a) (aR a) sd q l n (s.1 + 1)).1 from if_neg (by omega)]
                  rfl
                · refine r_iconst (v := nI 1) dX10_span_146 (by decide) ?_
                  refine r_goto (tgt := 151) dX10_span_147 (by decide) ?_
                  refine r_iadd dX10_span_151 ?_
                  refine PW.topi (show _ = (spaF (aE a) (aR a) sd q l n (s.1 + 1)).2.2 from (by rw [e3]; first | (rw [if_pos h143]; done) | (rw [if_neg h143, nI_0, Int32.add_zero]; done))) ?_
                  refine r_istore dX10_span_152 (by decide) ?_
                  refine r_iincN dX10_span_154 (by rfl) (by decide) ?_
                  refine r_goto (tgt := 64) dX10_span_157 (by decide) ?_
                  refine PW.lc ?_ rfl (ih (s.1 + 1, y) ⟨(show s.1 + 1 ≤ mn by omega), hF.trans F1, z1.trans z0⟩ (show mn - (s.1 + 1) < mn - s.1 by omega))
                  dsimp only
                  rw [show lsS (aE a) (aR a) sd q l n (s.1 + 1) = (spaF (aE a) (aR a) sd q l n (s.1 + 1)).1 from if_neg (by omega)]
                  rfl
              · refine r_iload dX10_span_118 (by rfl) ?_
                refine r_goto (tgt := 125) dX10_span_120 (by decide) ?_
                refine PW.topi (show _ = (spaF (aE a) (aR a) sd q l n (s.1 + 1)).2.1 from (by rw [e2]; first | (rw [if_neg (Int32.not_lt.mpr h115)]; done) | (rw [if_pos (Int32.not_le.mp h115)]; done))) ?_
                refine r_istore dX10_span_125 (by decide) ?_
                refine r_iload dX10_span_127 (by rfl) ?_
                refine r_aload_n dX10_span_129 rfl (by rfl) ?_
                refine gf_X10_65 rfl dX10_span_130 (by first | assumption | rfl) (by rfl) ?_
                refine r_bipush (v := nI 41) dX10_span_133 (by decide) ?_
                refine r_ialdN dX10_span_135 (by first | assumption | rfl) (by omega) (by decide) ?_
                refine PW.topi T1.2.2 ?_
                refine r_aload_n dX10_span_136 rfl (by rfl) ?_
                refine gf_X10_62 rfl dX10_span_137 (by first | assumption | rfl) (by rfl) ?_
                refine r_bipush (v := nI 41) dX10_span_140 (by decide) ?_
                refine r_ialdN dX10_span_142 (by first | assumption | rfl) (by omega) (by decide) ?_
                refine PW.topi R1.2.2.1.2.2 ?_
                refine r_icmp_ne (tgt := 150) dX10_span_143 (by decide) (fun h143 => ?_) (fun h143 => ?_)
                · refine r_iconst (v := nI 0) dX10_span_150 (by decide) ?_
                  refine r_iadd dX10_span_151 ?_
                  refine PW.topi (show _ = (spaF (aE a) (aR a) sd q l n (s.1 + 1)).2.2 from (by rw [e3]; first | (rw [if_pos h143]; done) | (rw [if_neg h143, nI_0, Int32.add_zero]; done))) ?_
                  refine r_istore dX10_span_152 (by decide) ?_
                  refine r_iincN dX10_span_154 (by rfl) (by decide) ?_
                  refine r_goto (tgt := 64) dX10_span_157 (by decide) ?_
                  refine PW.lc ?_ rfl (ih (s.1 + 1, y) ⟨(show s.1 + 1 ≤ mn by omega), hF.trans F1, z1.trans z0⟩ (show mn - (s.1 + 1) < mn - s.1 by omega))
                  dsimp only
                  rw [show lsS (aE a) (aR a) sd q l n (s.1 + 1) = (spaF (aE a) (aR a) sd q l n (s.1 + 1)).1 from if_neg (by omega)]
                  rfl
                · refine r_iconst (v := nI 1) dX10_span_146 (by decide) ?_
                  refine r_goto (tgt := 151) dX10_span_147 (by decide) ?_
                  refine r_iadd dX10_span_151 ?_
                  refine PW.topi (show _ = (spaF (aE a) (aR a) sd q l n (s.1 + 1)).2.2 from (by rw [e3]; first | (rw [if_pos h143]; done) | (rw [if_neg h143, nI_0, Int32.add_zero]; done))) ?_
                  refine r_istore dX10_span_152 (by decide) ?_
                  refine r_iincN dX10_span_154 (by rfl) (by decide) ?_
                  refine r_goto (tgt := 64) dX10_span_157 (by decide) ?_
                  refine PW.lc ?_ rfl (ih (s.1 + 1, y) ⟨(show s.1 + 1 ≤ mn by omega), hF.trans F1, z1.trans z0⟩ (show mn - (s.1 + 1) < mn - s.1 by omega))
                  dsimp only
                  rw [show lsS (aE a) (aR a) sd q l n (s.1 + 1) = (spaF (aE a) (aR a) sd q l n (s.1 + 1)).1 from if_neg (by omega)]
                  rfl
