/-! THE REFERENCE: steps, level by level -/
theorem isW_0 {g : Nat → Nat} {b f t : Nat} (h : t - f ≠ 0) : ¬ isW g 2 b b f t = true := by
  unfold isW
  rw [Nat.sub_self, decide_eq_false h]
  exact Bool.false_ne_true
theorem p2_empty {g : Nat → Nat} {len a : Nat} (h : smE g len (skip g len a) = skip g len a) : pWord g len 2 a = .error (1, skip g len a) := by
  unfold pWord wrd
  rw [h, wkey2, if_neg (isW_0 (by decide)), if_neg (isW_0 (by decide)), if_neg (isW_0 (by decide)), if_neg (isW_0 (by decide)), if_neg (isW_0 (by decide)), if_neg (isW_0 (by decide)), if_neg (isW_0 (by decide))]
theorem ps_end {g : Nat → Nat} {len ns n a : Nat} {s : Option (Nat → Nat → SR)} (hg : ∀ j, j < 600 → g j < 256) (hl : len ≤ 600) (h : nxV g len a = -1 ∨ nxV g len a = nI 93) : pStep g len ns s n a = .error (1, skip g len a) := by
  unfold pStep
  rw [p2_empty (smE_e (fun q => ?_))]
  · rfl
  · rcases h with h | h
    · exact (nx_end hg hl).mp h q.1
    · have h9 := (hrN_nx hg hl (by decide) (by decide)).mp h
      unfold hrN at h9
      rw [if_pos q.1] at h9
      rw [h9] at q
      exact absurd q.2 (by decide)
theorem ust_all {g : Nat → Nat} {len ns : Nat} (hg : ∀ j, j < 600 → g j < 256) (hl : len ≤ 600) (lev : Nat) : USt g len (pStepL g len ns lev) := by
  refine ⟨LenS.all lev, fun n a => pStepL_skip g len ns lev n a, fun n a h => ?_, fun n a h => ?_⟩
  · cases lev with
    | zero => exact ps_end hg hl (Or.inl h)
    | succ k => exact ps_end hg hl (Or.inl h)
  · cases lev with
    | zero => exact ps_end hg hl (Or.inr h)
    | succ k => exact ps_end hg hl (Or.inr h)
theorem pStep_w {g : Nat → Nat} {len ns n a w e : Nat} {s : Option (Nat → Nat → SR)} (h : pWord g len 2 a = .ok (w, e)) : pStep g len ns s n a = pOne g len ns s n (skip g len a) w e := by
  unfold pStep
  rw [h]
  rfl
theorem ap_w {g : Nat → Nat} {len ns a : Nat} {l : List ST} {s : Option (Nat → Nat → SR)} {r : SR} (h : pStep g len ns s l.length a = r) : apS (.ok (l, a)) (pStep g len ns s) = xbn r (fun q => .ok (l ++ q.1, q.2)) := by
  show xbn (pStep g len ns s l.length a) _ = _
  rw [h]
theorem WSt.fix {x : XS} {g : Nat → Nat} {len o a t : Nat} {l m : List ST} (h : WSt x g len o (.ok (l ++ (6, t, 0) :: m, a))) : WSt (xu x 151 (3 * l.length + 2) (nI (3 * (l.length + 1 + m.length)))) g len o (.ok (l ++ (6, t, l.length + 1 + m.length) :: m, a)) := by
  obtain ⟨h1, h2, h3, h4⟩ := h
  obtain ⟨q1, q2, q3⟩ := h4 _ rfl
  refine ⟨PSt.ch (r := .ok a) h1 (fun k hk => by rw [xu_n (by decide)]) (by rw [xu_n (by decide)]), by rw [xu_n (by decide)]; exact h2, h3, fun p e => ?_⟩
  injection e with e
  subst e
  have hl : (l ++ (6, t, l.length + 1 + m.length) :: m).length = (l ++ (6, t, 0) :: m).length := by rw [List.length_append, List.length_append]; rfl
  refine ⟨by rw [xu_n (by decide), hl]; exact q1, by rw [hl]; exact q2, fun i q hq => ?_⟩
  show upd (x 151) _ _ (3 * i) = _ ∧ upd (x 151) _ _ (3 * i + 1) = _ ∧ upd (x 151) _ _ (3 * i + 2) = _
  by_cases hi : i < l.length
  · rw [List.getElem?_append_left hi] at hq
    rw [pk_un (by omega), pk_un (by omega), pk_un (by omega)]
    exact q3 i q (by rw [List.getElem?_append_left hi]; exact hq)
  · rw [List.getElem?_append_right (by omega)] at hq
    by_cases e : i = l.length
    · subst e
      rw [Nat.sub_self] at hq
      injection hq with hq
      subst hq
      have w := q3 l.length (6, t, 0) (by rw [List.getElem?_append_right (Nat.le_refl _), Nat.sub_self]; rfl)
      refine ⟨by rw [pk_un (by omega)]; exact w.1, by rw [pk_un (by omega)]; exact w.2.1, pk_us⟩
    · rw [pk_un (by omega), pk_un (by omega), pk_un (by omega)]
      refine q3 i q ?_
      rw [List.getElem?_append_right (by omega)]
      rw [show i - l.length = (i - l.length - 1) + 1 by omega] at hq ⊢
      exact hq
/-- again, as it is read -/
theorem ag_ok {g : Nat → Nat} {len b : Nat} {l : List ST} {F : Nat → Nat → SR} {p : List ST × Nat} (h : sgS g len 93 (apS (emS (sgS g len 91 (onL l (pNum g len 0 61 b))) (onC 6 (pNum g len 0 61 b))) F) = .ok p) : ∃ t a1 q a2, pNum g len 0 61 b = .ok t ∧ pTake g len 91 t.2 = .ok a1 ∧ F (l.length + 1) a1 = .ok q ∧ pTake g len 93 q.2 = .ok a2 ∧ p = (l ++ (6, t.1, 0) :: q.1, a2) := by
  obtain ⟨w, h1, h2⟩ := xbn_is h
  obtain ⟨a2, h3, h4⟩ := xbn_is h2
  obtain ⟨w2, h5, h6⟩ := xbn_is h1
  obtain ⟨q, h7, h8⟩ := xbn_is h6
  obtain ⟨w3, h9, h10⟩ := xbn_is h5
  obtain ⟨w4, h11, h12⟩ := xbn_is h9
  obtain ⟨a1, h13, h14⟩ := xbn_is h12
  obtain ⟨t, h15, h16⟩ := xbn_is h11
  injection h16 with h16
  subst h16
  injection h14 with h14
  subst h14
  injection h10 with h10
  subst h10
  injection h8 with h8
  subst h8
  injection h4 with h4
  subst h4
  rw [h15] at h7 ⊢
  have h7 : F (l ++ [(6, t.1, 0)]).length a1 = .ok q := h7
  rw [List.length_append] at h7
  refine ⟨t, a1, q, a2, rfl, h13, h7, h3, ?_⟩
  show ((l ++ [(6, t.1, 0)]) ++ q.1, a2) = _
  rw [List.append_assoc]
  rfl
theorem ag_e {g : Nat → Nat} {len b n a0 : Nat} {l : List ST} {F : Nat → Nat → SR} {e : PE} (hn : n = l.length) (h : sgS g len 93 (apS (emS (sgS g len 91 (onL l (pNum g len 0 61 b))) (onC 6 (pNum g len 0 61 b))) F) = .error e) : pAgain g len (some F) n a0 b = .error e := by
  subst hn
  show xbn (pNum g len 0 61 b) _ = _
  cases h1 : pNum g len 0 61 b with
  | error e1 => rw [h1] at h; exact h
  | ok t =>
    rw [h1] at h
    rw [xbn_ok]
    have h : sgS g len 93 (apS (emS (xbn (pTake g len 91 t.2) (fun b => .ok (l, b))) (6, t.1, 0)) F) = .error e := h
    cases h2 : pTake g len 91 t.2 with
    | error e1 => rw [h2] at h; exact h
    | ok a1 =>
      rw [h2] at h
      rw [xbn_ok]
      have h : sgS g len 93 (xbn (F (l ++ [(6, t.1, 0)]).length a1) (fun q => .ok ((l ++ [(6, t.1, 0)]) ++ q.1, q.2))) = .error e := h
      rw [List.length_append] at h
      have h : sgS g len 93 (xbn (F (l.length + 1) a1) (fun q => .ok ((l ++ [(6, t.1, 0)]) ++ q.1, q.2))) = .error e := h
      cases h3 : F (l.length + 1) a1 with
      | error e1 => rw [h3] at h; exact h
      | ok q =>
        rw [h3] at h
        rw [xbn_ok]
        have h : xbn (pTake g len 93 q.2) (fun b => .ok ((l ++ [(6, t.1, 0)]) ++ q.1, b)) = (.error e : SR) := h
        cases h4 : pTake g len 93 q.2 with
        | error e1 => rw [h4] at h; exact h
        | ok a2 => rw [h4] at h; cases h
theorem ag_g {g : Nat → Nat} {len b n a0 a1 a2 : Nat} {F : Nat → Nat → SR} {t : Nat × Nat} {q : List ST × Nat} (h1 : pNum g len 0 61 b = .ok t) (h2 : pTake g len 91 t.2 = .ok a1) (h3 : F (n + 1) a1 = .ok q) (h4 : pTake g len 93 q.2 = .ok a2) : pAgain g len (some F) n a0 b = .ok ((6, t.1, n + 1 + q.1.length) :: q.1, a2) := by
  show xbn (pNum g len 0 61 b) _ = _
  rw [h1, xbn_ok, h2, xbn_ok, h3, xbn_ok, h4, xbn_ok]
set_option maxHeartbeats 8000000 in
set_option maxRecDepth 20000 in
theorem n_stepS {g : Nat → Nat} {len d ns o a : Nat} {l : List ST} {u : Nat → Nat → SR} {x : XS} (hd : 4 ≤ d) (hns : ns ≤ 5) (hu : SRC g len ns d (o + 1) u) (hU : USt g len u) (ho : o < 6) (hs : x 137 18 = nI ns) (hL : WSt x g len o (.ok (l, a))) : MM mX10_readStep (d + 1) 0 0 [.ref 137] x (fun v y => v = none ∧ WSt y g len o (sgS g len 59 (apS (.ok (l, a)) (pStep g len ns (some (pSteps g len u 151))))) ∧ VK x y) NoT := by
  refine MM.of (by decide) (Nat.le_of_ble_eq_true rfl) ?_
  have y137 := lay_137
  have y151 := lay_151
  have S : PSt x g len (.ok a) := hL.1
  have hsk := skip_ge g len a
  have hal : a ≤ len := S.2.2.1
  have hsl := skip_le (g := g) hal
  have h15 : len ≤ 150 := hL.2.2.1
  have hl : 4 * l.length ≤ a := (hL.2.2.2 _ rfl).2.1
  have G : WSt (gdX x (skip g len a)) g len o (.ok (l, (skip g len a))) := hL.mv CH.gd (S.gd hsl) hsk
  have hwd := wd_lt g len a
  have hse := smE_le (g := g) hsl
  have hsg := smE_ge g len (skip g len a)
  have hsx : gdX x (skip g len a) 137 18 = nI ns := (xu_k (by decide)).trans hs
  have hsy : gdX (gdX x (skip g len a)) (smE g len (skip g len a)) 137 18 = nI ns := (xu_k (by decide)).trans hsx
  have G2 : WSt (gdX (gdX x (skip g len a)) (smE g len (skip g len a))) g len o (.ok (l, (smE g len (skip g len a)))) := G.mv CH.gd (PSt.gd (a := (skip g len a)) G.1 hse) hsg
  have K0 : VK x (gdX x (skip g len a)) := CH.gd.vk
  have K1 : VK x (gdX (gdX x (skip g len a)) (smE g len (skip g len a))) := K0.trans CH.gd.vk
  have b20 := of_lt 20 (by decide) (by decide)
  have b21 := of_lt 21 (by decide) (by decide)
  have b22 := of_lt 22 (by decide) (by decide)
  have b23 := of_lt 23 (by decide) (by decide)
  have b6 := of_lt 6 (by decide) (by decide)
  have b18 := of_lt 18 (by decide) (by decide)
  have b24 := of_lt 24 (by decide) (by decide)
  refine r_aload_n dX10_readStep_0 rfl (by rfl) ?_
  refine r_callV (n_word S.rp) mv_X10_word ml_X10_219 ⟨by omega, by decide⟩ dX10_readStep_1 (by first | assumption | rfl) rfl rfl rfl (Nat.le_of_ble_eq_true rfl) (fun v9 x9 h9 => ?_)
  obtain ⟨rfl, h9⟩ := h9
  refine PW.xeq h9 ?_
  clear h9 x9
  refine r_istore_n dX10_readStep_4 rfl (by decide) ?_
  refine r_iload_n dX10_readStep_5 rfl (by rfl) ?_
  refine r_ldcwS (i := 20) rfl dX10_readStep_6 ?_
  refine r_callS (n_of (i := 20) (by decide) (by decide)) ms_X10_of ml_X10_187 ⟨by omega, by decide⟩ dX10_readStep_9 rfl (Nat.le_of_ble_eq_true rfl) (fun v9 x9 h9 => ?_)
  obtain ⟨rfl, h9⟩ := h9
  refine PW.xeq h9 ?_
  clear h9 x9
  refine r_icmp_neN (tgt := 37) dX10_readStep_12 (by decide) (by omega) (by omega) (fun h12 => ?_) (fun h12 => ?_)
  · refine r_iload_n dX10_readStep_37 rfl (by rfl) ?_
    refine r_ldcwS (i := 21) rfl dX10_readStep_38 ?_
    refine r_callS (n_of (i := 21) (by decide) (by decide)) ms_X10_of ml_X10_187 ⟨by omega, by decide⟩ dX10_readStep_41 rfl (Nat.le_of_ble_eq_true rfl) (fun v9 x9 h9 => ?_)
    obtain ⟨rfl, h9⟩ := h9
    refine PW.xeq h9 ?_
    clear h9 x9
    refine r_icmp_eqN (tgt := 67) dX10_readStep_44 (by decide) (by omega) (by omega) (fun h44 => ?_) (fun h44 => ?_)
    · first
        | (obtain ⟨w9, w8⟩ := p2_turn h44
           exact PW.lc (by rfl) rfl (one_step (by omega) hns hsx G (by omega) (Or.inl ⟨h44, rfl⟩) (fun z z1 z2 => step_end (x0 := x) (by omega) z1 (congrArg (sgS g len 59) ((on_eq l 1 _).trans (ap_w ((pStep_w w9).trans rfl)).symm)) (K0.trans z2))))
        | (obtain ⟨w9, w8⟩ := p2_room h54
           exact PW.lc (by rfl) rfl (one_step (by omega) hns hsx G (by omega) (Or.inr (Or.inl ⟨h54, rfl⟩)) (fun z z1 z2 => step_end (x0 := x) (by omega) z1 (congrArg (sgS g len 59) ((on_eq l 2 _).trans (ap_w ((pStep_w w9).trans rfl)).symm)) (K0.trans z2))))
        | (obtain ⟨w9, w8⟩ := p2_call h64
           exact PW.lc (by rfl) rfl (one_step (by omega) hns hsx G (by omega) (Or.inr (Or.inr ⟨h64, rfl⟩)) (fun z z1 z2 => step_end (x0 := x) (by omega) z1 (congrArg (sgS g len 59) ((on_eq l 4 _).trans (ap_w ((pStep_w w9).trans rfl)).symm)) (K0.trans z2))))
    · refine r_iload_n dX10_readStep_47 rfl (by rfl) ?_
      refine r_ldcwS (i := 22) rfl dX10_readStep_48 ?_
      refine r_callS (n_of (i := 22) (by decide) (by decide)) ms_X10_of ml_X10_187 ⟨by omega, by decide⟩ dX10_readStep_51 rfl (Nat.le_of_ble_eq_true rfl) (fun v9 x9 h9 => ?_)
      obtain ⟨rfl, h9⟩ := h9
      refine PW.xeq h9 ?_
      clear h9 x9
      refine r_icmp_eqN (tgt := 67) dX10_readStep_54 (by decide) (by omega) (by omega) (fun h54 => ?_) (fun h54 => ?_)
      · first
          | (obtain ⟨w9, w8⟩ := p2_turn h44
             exact PW.lc (by rfl) rfl (one_step (by omega) hns hsx G (by omega) (Or.inl ⟨h44, rfl⟩) (fun z z1 z2 => step_end (x0 := x) (by omega) z1 (congrArg (sgS g len 59) ((on_eq l 1 _).trans (ap_w ((pStep_w w9).trans rfl)).symm)) (K0.trans z2))))
          | (obtain ⟨w9, w8⟩ := p2_room h54
             exact PW.lc (by rfl) rfl (one_step (by omega) hns hsx G (by omega) (Or.inr (Or.inl ⟨h54, rfl⟩)) (fun z z1 z2 => step_end (x0 := x) (by omega) z1 (congrArg (sgS g len 59) ((on_eq l 2 _).trans (ap_w ((pStep_w w9).trans rfl)).symm)) (K0.trans z2))))
          | (obtain ⟨w9, w8⟩ := p2_call h64
             exact PW.lc (by rfl) rfl (one_step (by omega) hns hsx G (by omega) (Or.inr (Or.inr ⟨h64, rfl⟩)) (fun z z1 z2 => step_end (x0 := x) (by omega) z1 (congrArg (sgS g len 59) ((on_eq l 4 _).trans (ap_w ((pStep_w w9).trans rfl)).symm)) (K0.trans z2))))
      · refine r_iload_n dX10_readStep_57 rfl (by rfl) ?_
        refine r_ldcwS (i := 23) rfl dX10_readStep_58 ?_
        refine r_callS (n_of (i := 23) (by decide) (by decide)) ms_X10_of ml_X10_187 ⟨by omega, by decide⟩ dX10_readStep_61 rfl (Nat.le_of_ble_eq_true rfl) (fun v9 x9 h9 => ?_)
        obtain ⟨rfl, h9⟩ := h9
        refine PW.xeq h9 ?_
        clear h9 x9
        refine r_icmp_neN (tgt := 112) dX10_readStep_64 (by decide) (by omega) (by omega) (fun h64 => ?_) (fun h64 => ?_)
        · refine r_iload_n dX10_readStep_112 rfl (by rfl) ?_
          refine r_ldcS (i := 6) rfl dX10_readStep_113 ?_
          refine r_callS (n_of (i := 6) (by decide) (by decide)) ms_X10_of ml_X10_187 ⟨by omega, by decide⟩ dX10_readStep_115 rfl (Nat.le_of_ble_eq_true rfl) (fun v9 x9 h9 => ?_)
          obtain ⟨rfl, h9⟩ := h9
          refine PW.xeq h9 ?_
          clear h9 x9
          refine r_icmp_neN (tgt := 146) dX10_readStep_118 (by decide) (by omega) (by omega) (fun h118 => ?_) (fun h118 => ?_)
          · refine r_iload_n dX10_readStep_146 rfl (by rfl) ?_
            refine r_ldcwS (i := 18) rfl dX10_readStep_147 ?_
            refine r_callS (n_of (i := 18) (by decide) (by decide)) ms_X10_of ml_X10_187 ⟨by omega, by decide⟩ dX10_readStep_150 rfl (Nat.le_of_ble_eq_true rfl) (fun v9 x9 h9 => ?_)
            obtain ⟨rfl, h9⟩ := h9
            refine PW.xeq h9 ?_
            clear h9 x9
            refine r_icmp_neN (tgt := 170) dX10_readStep_153 (by decide) (by omega) (by omega) (fun h153 => ?_) (fun h153 => ?_)
            · refine r_iload_n dX10_readStep_170 rfl (by rfl) ?_
              refine r_ldcwS (i := 24) rfl dX10_readStep_171 ?_
              refine r_callS (n_of (i := 24) (by decide) (by decide)) ms_X10_of ml_X10_187 ⟨by omega, by decide⟩ dX10_readStep_174 rfl (Nat.le_of_ble_eq_true rfl) (fun v9 x9 h9 => ?_)
              obtain ⟨rfl, h9⟩ := h9
              refine PW.xeq h9 ?_
              clear h9 x9
              refine r_icmp_neN (tgt := 273) dX10_readStep_177 (by decide) (by omega) (by omega) (fun h177 => ?_) (fun h177 => ?_)
              · refine r_aload_n dX10_readStep_273 rfl (by rfl) ?_
                refine r_iconst (v := nI 1) dX10_readStep_274 (by decide) ?_
                refine r_aload_n dX10_readStep_275 rfl (by rfl) ?_
                refine gf_X10_107 rfl dX10_readStep_276 (by first | assumption | rfl) (by rfl) ?_
                refine PW.topi (show _ = nI (skip g len a) from xu_s) ?_
                refine r_callV (t_wrong (r := .ok (skip g len a)) (k := 1) (p := (skip g len a)) G.1 rfl (by omega)) mv_X10_wrong ml_X10_137 ⟨by omega, by decide⟩ dX10_readStep_279 (by first | assumption | rfl) rfl rfl rfl (Nat.le_of_ble_eq_true rfl) (fun v9 y9 h9 => ?_)
                obtain ⟨rfl, P9, C9⟩ := h9
                have L9 := G.er C9 P9
                first
                  | (exact PW.lc (by rfl) rfl (step_end (x0 := x) (by omega) L3 (congrArg (sgS g len 59) ((tw_eq l 0 _).trans (ap_w ((pStep_w w9).trans rfl)).symm)) ((K1.trans (C1.trans C2).vk).trans K3)))
                  | (exact PW.lc (by rfl) rfl (step_end (x0 := x) (by omega) L3 (congrArg (sgS g len 59) ((tw_eq l 3 _).trans (ap_w ((pStep_w w9).trans rfl)).symm)) ((K1.trans (C1.trans C2).vk).trans K3)))
                  | (exact PW.lc (by rfl) rfl (step_end (x0 := x) (by omega) L3 (congrArg (sgS g len 59) ((ap_w ((pStep_w w9).trans rfl)).symm)) (K1.trans K3)))
                  | (have w9 := p2_none h12 h44 h54 h118 h64 h153 h177
                     exact PW.lc (by rfl) rfl (step_end (x0 := x) (by omega) L9 (congrArg (sgS g len 59) ((ap_w (r := .error (1, skip g len a)) (by unfold pStep; rw [w9]; rfl)).symm)) (K0.trans C9.vk)))
              · obtain ⟨w9, w8⟩ := p2_again h177
                refine r_aload_n dX10_readStep_180 rfl (by rfl) ?_
                refine r_iconst (v := nI 5) dX10_readStep_181 (by decide) ?_
                refine r_callV (n_open (x := gdX x (skip g len a)) (a := (skip g len a)) (b := 5) (o := o) G.1.2.2.2 G.1.2.1 G.2.1 ho) mv_X10_opensOne ml_X10_253 ⟨by omega, by decide⟩ dX10_readStep_182 (by first | assumption | rfl) rfl rfl rfl (Nat.le_of_ble_eq_true rfl) (fun v9 y0 h9 => ?_)
                obtain ⟨rfl, rfl⟩ := h9
                have L1 : WSt (xu (gdX (gdX x (skip g len a)) ((skip g len a) + 5)) 137 7 (nI (o + 1))) g len (o + 1) (.ok (l, ((skip g len a) + 5))) := (G.mv CH.gd (PSt.gd (a := (skip g len a)) G.1 (by omega)) (by omega)).op
                have KA : VK x (xu (gdX (gdX x (skip g len a)) ((skip g len a) + 5)) 137 7 (nI (o + 1))) := K0.trans (CH.gd.vk.trans VK.op)
                refine r_aload_n dX10_readStep_185 rfl (by rfl) ?_
                refine r_iconst (v := nI 0) dX10_readStep_186 (by decide) ?_
                refine r_bipush (v := nI 60) dX10_readStep_187 (by decide) ?_
                refine r_callV (t_num (r := .ok ((skip g len a) + 5)) (lo := 0) (n := 61) (hv := nI 60) L1.1 (by decide) (by decide) (fun v hv => hv_C (by decide) hv)) mv_X10_readNumber ml_X10_181 ⟨by omega, by decide⟩ dX10_readStep_189 (by first | assumption | rfl) rfl rfl rfl (Nat.le_of_ble_eq_true rfl) (fun v9 y1 h9 => ?_)
                obtain ⟨rfl, P1, C1⟩ := h9
                have L2 := on_st L1 C1 P1
                refine r_istore_n dX10_readStep_192 rfl (by decide) ?_
                refine r_aload_n dX10_readStep_193 rfl (by rfl) ?_
                refine r_bipush (v := nI 91) dX10_readStep_194 (by decide) ?_
                refine r_callV (t_signS L2 (by decide) (by decide)) mv_X10_sign ml_X10_234 ⟨by omega, by decide⟩ dX10_readStep_196 (by first | assumption | rfl) rfl rfl rfl (Nat.le_of_ble_eq_true rfl) (fun v9 y2 h9 => ?_)
                obtain ⟨rfl, L3, C2⟩ := h9
                refine r_aload_n dX10_readStep_199 rfl (by rfl) ?_
                refine gf_X10_293 rfl dX10_readStep_200 (by first | assumption | rfl) (by rfl) ?_
                refine r_istore_n dX10_readStep_203 rfl (by decide) ?_
                refine r_aload_n dX10_readStep_204 rfl (by rfl) ?_
                refine r_bipush (v := nI 6) dX10_readStep_205 (by decide) ?_
                refine r_iload_n dX10_readStep_207 rfl (by rfl) ?_
                refine r_iconst (v := nI 0) dX10_readStep_208 (by decide) ?_
                have TT : ∀ p, sgS g len 91 (onL l (pNum g len 0 61 ((skip g len a) + 5))) = .ok p → 4 * (p.1.length + 1) ≤ p.2 := fun p9 e9 => by
                  obtain ⟨w1, e1, e2⟩ := xbn_is e9
                  obtain ⟨w2, e3, e4⟩ := xbn_is e2
                  injection e4 with e4
                  subst e4
                  obtain ⟨w3, e5, e6⟩ := xbn_is e1
                  injection e6 with e6
                  subst e6
                  have q1 := pNum_ge0 e5
                  have q2 := (pTake_ge e3).1
                  have q2 : w3.2 + 1 ≤ w2 := q2
                  show 4 * (l.length + 1) ≤ w2
                  omega
                refine r_callV (t_tell (c := onC 6 (pNum g len 0 61 ((skip g len a) + 5))) L3 TT (fun p9 e9 => on_v _ (xbn_is e9).choose_spec.1)) mv_X10_tellsStep ml_X10_301 ⟨by omega, by decide⟩ dX10_readStep_209 (by first | assumption | rfl) rfl rfl rfl (Nat.le_of_ble_eq_true rfl) (fun v9 y3 h9 => ?_)
                obtain ⟨rfl, L4, K4⟩ := h9
                have KZ : VK x y3 := ((KA.trans C1.vk).trans C2.vk).trans K4
                refine PW.lc (L' := [(0, .ref 137), (2, .int (vI (xbn (.ok ((skip g len a) + 5)) (pNum g len 0 61)))), (3, .int (y2 137 31))]) (by rfl) rfl ?_
                refine again_loop (N := 151) (by omega) hu hU ((KZ.2 18 (by omega) (by decide)).trans hs) L4 (fun p9 e9 => Nat.le_add_right _ _) (fun z r Z1 Z2 Z3 => ?_)
                refine r_aload_n dX10_readStep_235 rfl (by rfl) ?_
                refine r_bipush (v := nI 93) dX10_readStep_236 (by decide) ?_
                refine r_callV (t_signS Z1 (by decide) (by decide)) mv_X10_sign ml_X10_234 ⟨by omega, by decide⟩ dX10_readStep_238 (by first | assumption | rfl) rfl rfl rfl (Nat.le_of_ble_eq_true rfl) (fun v9 z2 h9 => ?_)
                obtain ⟨rfl, L5, C5⟩ := h9
                rw [Z2] at L5
                have L6 : WSt (xu z2 137 7 (nI o)) g len o (sgS g len 93 (apS (emS (sgS g len 91 (onL l (pNum g len 0 61 ((skip g len a) + 5)))) (onC 6 (pNum g len 0 61 ((skip g len a) + 5)))) (pSteps g len u 151))) := L5.op
                refine r_aload_n dX10_readStep_241 rfl (by rfl) ?_
                refine r_dup dX10_readStep_242 rfl ?_
                refine gf_X10_141 rfl dX10_readStep_243 (by first | assumption | rfl) (by rfl) ?_
                refine PW.topi L5.2.1 ?_
                refine r_iconst (v := nI 1) dX10_readStep_246 (by decide) ?_
                refine r_isubN dX10_readStep_247 (by omega) ?_
                refine pf_X10_141 rfl dX10_readStep_248 (by first | assumption | rfl) (by rfl) ?_
                refine r_aload_n dX10_readStep_251 rfl (by rfl) ?_
                refine r_callV (t_fine L6.1) mv_X10_fine ml_X10_130 ⟨by omega, by decide⟩ dX10_readStep_252 (by first | assumption | rfl) rfl rfl rfl (Nat.le_of_ble_eq_true rfl) (fun v9 x9 h9 => ?_)
                obtain ⟨rfl, h9⟩ := h9
                refine PW.xeq h9 ?_
                clear h9 x9
                refine r_if_eqB (tgt := 270) dX10_readStep_255 (by decide) (fun h255 => ?_) (fun h255 => ?_)
                · refine r_goto (tgt := 282) dX10_readStep_270 (by decide) ?_
                  first
                    | (obtain ⟨e, he⟩ := okS_f h255
                       exact PW.lc (by rfl) rfl (step_end (x0 := x) (by omega) L6 (congrArg (sgS g len 59) (by rw [ap_w (r := .error e) ((pStep_w w9).trans (by rw [w8]; exact ag_e (a0 := skip g len a) rfl he)), he]; rfl)) (KZ.trans (Z3.trans (C5.vk.trans VK.op)))))
                    | (have L8 := L7.fix
                       exact PW.lc (by rfl) rfl (step_end (x0 := x) (by omega) L8 (congrArg (sgS g len 59) (by rw [ap_w (r := .ok ((6, t.1, l.length + 1 + q.1.length) :: q.1, a2)) ((pStep_w w9).trans (by rw [w8]; exact ag_g (a0 := skip g len a) f1 f2 f3 f4))]; rfl)) ((KZ.trans (Z3.trans (C5.vk.trans VK.op))).trans VK.p1)))
                · obtain ⟨p, hp⟩ := okS h255
                  have L7 := L6
                  rw [hp] at L7
                  obtain ⟨t, a1, q, a2, f1, f2, f3, f4, f5⟩ := ag_ok hp
                  subst f5
                  have e31 : y2 137 31 = nI (3 * l.length) := by
                    have L8 := L3
                    rw [f1] at L8
                    have L8 : WSt y2 g len (o + 1) (xbn (pTake g len 91 t.2) (fun b => .ok (l, b))) := L8
                    rw [f2] at L8
                    exact (L8.2.2.2 _ rfl).1
                  have p31 := (L7.2.2.2 _ rfl).1
                  have p4 := (L7.2.2.2 _ rfl).2.1
                  have p5 : a2 ≤ len := L7.1.2.2.1
                  have hlq : (l ++ (6, t.1, 0) :: q.1).length = l.length + 1 + q.1.length := by rw [List.length_append, List.length_cons]; omega
                  rw [hlq] at p31 p4
                  have p4 : 4 * (l.length + 1 + q.1.length) ≤ a2 := p4
                  refine PW.lc (L' := [(0, .ref 137), (3, .int (nI (3 * l.length)))]) (by show [some _, some _] = [some _, some _]; rw [e31]) rfl ?_
                  refine r_aload_n dX10_readStep_258 rfl (by rfl) ?_
                  refine gf_X10_56 rfl dX10_readStep_259 (by first | assumption | rfl) (by rfl) ?_
                  refine r_iload_n dX10_readStep_262 rfl (by rfl) ?_
                  refine r_iconst (v := nI 2) dX10_readStep_263 (by decide) ?_
                  refine r_iaddN dX10_readStep_264 ?_
                  refine r_aload_n dX10_readStep_265 rfl (by rfl) ?_
                  refine gf_X10_293 rfl dX10_readStep_266 (by first | assumption | rfl) (by rfl) ?_
                  refine PW.topi (show _ = nI (3 * (l.length + 1 + q.1.length)) from p31) ?_
                  refine r_iastN dX10_readStep_269 (by first | assumption | rfl) (by omega) (by decide) ?_
                  refine r_goto (tgt := 282) dX10_readStep_270 (by decide) ?_
                  first
                    | (obtain ⟨e, he⟩ := okS_f h255
                       exact PW.lc (by rfl) rfl (step_end (x0 := x) (by omega) L6 (congrArg (sgS g len 59) (by rw [ap_w (r := .error e) ((pStep_w w9).trans (by rw [w8]; exact ag_e (a0 := skip g len a) rfl he)), he]; rfl)) (KZ.trans (Z3.trans (C5.vk.trans VK.op)))))
                    | (have L8 := L7.fix
                       exact PW.lc (by rfl) rfl (step_end (x0 := x) (by omega) L8 (congrArg (sgS g len 59) (by rw [ap_w (r := .ok ((6, t.1, l.length + 1 + q.1.length) :: q.1, a2)) ((pStep_w w9).trans (by rw [w8]; exact ag_g (a0 := skip g len a) f1 f2 f3 f4))]; rfl)) ((KZ.trans (Z3.trans (C5.vk.trans VK.op))).trans VK.p1)))
            · obtain ⟨w9, w8⟩ := p2_minute h153
              refine r_aload_n dX10_readStep_156 rfl (by rfl) ?_
              refine r_callV (n_pass (g := g) (len := len) (a := (skip g len a)) (PSt.rp (a := (skip g len a)) G.1)) mv_X10_pass ml_X10_225 ⟨by omega, by decide⟩ dX10_readStep_157 (by first | assumption | rfl) rfl rfl rfl (Nat.le_of_ble_eq_true rfl) (fun v9 x9 h9 => ?_)
              obtain ⟨rfl, h9⟩ := h9
              refine PW.xeq h9 ?_
              clear h9 x9
              refine r_aload_n dX10_readStep_160 rfl (by rfl) ?_
              refine r_iconst (v := nI 5) dX10_readStep_161 (by decide) ?_
              refine r_iconst (v := nI 0) dX10_readStep_162 (by decide) ?_
              refine r_iconst (v := nI 0) dX10_readStep_163 (by decide) ?_
              refine r_callV (t_tell (c := (5, 0, 0)) G2 (fun p9 e9 => by injection e9 with e9; subst e9; show 4 * (l.length + 1) ≤ smE g len (skip g len a); omega) (fun _ _ => ⟨rfl, rfl, rfl⟩)) mv_X10_tellsStep ml_X10_301 ⟨by omega, by decide⟩ dX10_readStep_164 (by first | assumption | rfl) rfl rfl rfl (Nat.le_of_ble_eq_true rfl) (fun v9 y3 h9 => ?_)
              obtain ⟨rfl, L3, K3⟩ := h9
              refine r_goto (tgt := 282) dX10_readStep_167 (by decide) ?_
              first
                | (exact PW.lc (by rfl) rfl (step_end (x0 := x) (by omega) L3 (congrArg (sgS g len 59) ((tw_eq l 0 _).trans (ap_w ((pStep_w w9).trans rfl)).symm)) ((K1.trans (C1.trans C2).vk).trans K3)))
                | (exact PW.lc (by rfl) rfl (step_end (x0 := x) (by omega) L3 (congrArg (sgS g len 59) ((tw_eq l 3 _).trans (ap_w ((pStep_w w9).trans rfl)).symm)) ((K1.trans (C1.trans C2).vk).trans K3)))
                | (exact PW.lc (by rfl) rfl (step_end (x0 := x) (by omega) L3 (congrArg (sgS g len 59) ((ap_w ((pStep_w w9).trans rfl)).symm)) (K1.trans K3)))
                | (have w9 := p2_none h12 h44 h54 h118 h64 h153 h177
                   exact PW.lc (by rfl) rfl (step_end (x0 := x) (by omega) L9 (congrArg (sgS g len 59) ((ap_w (r := .error (1, skip g len a)) (by unfold pStep; rw [w9]; rfl)).symm)) (K0.trans C9.vk)))
          · obtain ⟨w9, w8⟩ := p2_plug h118
            refine r_aload_n dX10_readStep_121 rfl (by rfl) ?_
            refine r_callV (n_pass (g := g) (len := len) (a := (skip g len a)) (PSt.rp (a := (skip g len a)) G.1)) mv_X10_pass ml_X10_225 ⟨by omega, by decide⟩ dX10_readStep_122 (by first | assumption | rfl) rfl rfl rfl (Nat.le_of_ble_eq_true rfl) (fun v9 x9 h9 => ?_)
            obtain ⟨rfl, h9⟩ := h9
            refine PW.xeq h9 ?_
            clear h9 x9
            refine r_aload_n dX10_readStep_125 rfl (by rfl) ?_
            refine r_callV (t_one (r := .ok (smE g len (skip g len a))) G2.1 hsy hns) mv_X10_readOne ml_X10_298 ⟨by omega, by decide⟩ dX10_readStep_126 (by first | assumption | rfl) rfl rfl rfl (Nat.le_of_ble_eq_true rfl) (fun v9 y1 h9 => ?_)
            obtain ⟨rfl, P1, C1⟩ := h9
            refine r_istore_n dX10_readStep_129 rfl (by decide) ?_
            refine r_aload_n dX10_readStep_130 rfl (by rfl) ?_
            refine r_iconst (v := nI 3) dX10_readStep_131 (by decide) ?_
            refine r_iload_n dX10_readStep_132 rfl (by rfl) ?_
            refine r_aload_n dX10_readStep_133 rfl (by rfl) ?_
            refine r_iconst (v := nI 0) dX10_readStep_134 (by decide) ?_
            refine r_bipush (v := nI 20) dX10_readStep_135 (by decide) ?_
            refine r_callV (t_num (lo := 0) (n := 21) (hv := nI 20) P1 (by decide) (by decide) (fun v hv => hv_C (by decide) hv)) mv_X10_readNumber ml_X10_181 ⟨by omega, by decide⟩ dX10_readStep_137 (by first | assumption | rfl) rfl rfl rfl (Nat.le_of_ble_eq_true rfl) (fun v9 y2 h9 => ?_)
            obtain ⟨rfl, P2, C2⟩ := h9
            rw [two_T] at P2
            have L2 := tw_st G2 (C1.trans C2) P2
            refine r_callV (t_tell L2 (tw_len (by omega)) (tw_v (k := 3) (by decide))) mv_X10_tellsStep ml_X10_301 ⟨by omega, by decide⟩ dX10_readStep_140 (by first | assumption | rfl) rfl rfl rfl (Nat.le_of_ble_eq_true rfl) (fun v9 y3 h9 => ?_)
            obtain ⟨rfl, L3, K3⟩ := h9
            refine r_goto (tgt := 282) dX10_readStep_143 (by decide) ?_
            first
              | (exact PW.lc (by rfl) rfl (step_end (x0 := x) (by omega) L3 (congrArg (sgS g len 59) ((tw_eq l 0 _).trans (ap_w ((pStep_w w9).trans rfl)).symm)) ((K1.trans (C1.trans C2).vk).trans K3)))
              | (exact PW.lc (by rfl) rfl (step_end (x0 := x) (by omega) L3 (congrArg (sgS g len 59) ((tw_eq l 3 _).trans (ap_w ((pStep_w w9).trans rfl)).symm)) ((K1.trans (C1.trans C2).vk).trans K3)))
              | (exact PW.lc (by rfl) rfl (step_end (x0 := x) (by omega) L3 (congrArg (sgS g len 59) ((ap_w ((pStep_w w9).trans rfl)).symm)) (K1.trans K3)))
              | (have w9 := p2_none h12 h44 h54 h118 h64 h153 h177
                 exact PW.lc (by rfl) rfl (step_end (x0 := x) (by omega) L9 (congrArg (sgS g len 59) ((ap_w (r := .error (1, skip g len a)) (by unfold pStep; rw [w9]; rfl)).symm)) (K0.trans C9.vk)))
        · first
            | (obtain ⟨w9, w8⟩ := p2_turn h44
               exact PW.lc (by rfl) rfl (one_step (by omega) hns hsx G (by omega) (Or.inl ⟨h44, rfl⟩) (fun z z1 z2 => step_end (x0 := x) (by omega) z1 (congrArg (sgS g len 59) ((on_eq l 1 _).trans (ap_w ((pStep_w w9).trans rfl)).symm)) (K0.trans z2))))
            | (obtain ⟨w9, w8⟩ := p2_room h54
               exact PW.lc (by rfl) rfl (one_step (by omega) hns hsx G (by omega) (Or.inr (Or.inl ⟨h54, rfl⟩)) (fun z z1 z2 => step_end (x0 := x) (by omega) z1 (congrArg (sgS g len 59) ((on_eq l 2 _).trans (ap_w ((pStep_w w9).trans rfl)).symm)) (K0.trans z2))))
            | (obtain ⟨w9, w8⟩ := p2_call h64
               exact PW.lc (by rfl) rfl (one_step (by omega) hns hsx G (by omega) (Or.inr (Or.inr ⟨h64, rfl⟩)) (fun z z1 z2 => step_end (x0 := x) (by omega) z1 (congrArg (sgS g len 59) ((on_eq l 4 _).trans (ap_w ((pStep_w w9).trans rfl)).symm)) (K0.trans z2))))
  · obtain ⟨w9, w8⟩ := p2_nudge h12
    refine r_aload_n dX10_readStep_15 rfl (by rfl) ?_
    refine r_callV (n_pass (g := g) (len := len) (a := (skip g len a)) (PSt.rp (a := (skip g len a)) G.1)) mv_X10_pass ml_X10_225 ⟨by omega, by decide⟩ dX10_readStep_16 (by first | assumption | rfl) rfl rfl rfl (Nat.le_of_ble_eq_true rfl) (fun v9 x9 h9 => ?_)
    obtain ⟨rfl, h9⟩ := h9
    refine PW.xeq h9 ?_
    clear h9 x9
    refine r_aload_n dX10_readStep_19 rfl (by rfl) ?_
    refine r_callV (t_one (r := .ok (smE g len (skip g len a))) G2.1 hsy hns) mv_X10_readOne ml_X10_298 ⟨by omega, by decide⟩ dX10_readStep_20 (by first | assumption | rfl) rfl rfl rfl (Nat.le_of_ble_eq_true rfl) (fun v9 y1 h9 => ?_)
    obtain ⟨rfl, P1, C1⟩ := h9
    refine r_istore_n dX10_readStep_23 rfl (by decide) ?_
    refine r_aload_n dX10_readStep_24 rfl (by rfl) ?_
    refine r_iconst (v := nI 0) dX10_readStep_25 (by decide) ?_
    refine r_iload_n dX10_readStep_26 rfl (by rfl) ?_
    refine r_aload_n dX10_readStep_27 rfl (by rfl) ?_
    refine r_callV (t_one P1 ((C1.2 18 (by decide) (by decide) (by decide)).trans hsy) hns) mv_X10_readOne ml_X10_298 ⟨by omega, by decide⟩ dX10_readStep_28 (by first | assumption | rfl) rfl rfl rfl (Nat.le_of_ble_eq_true rfl) (fun v9 y2 h9 => ?_)
    obtain ⟨rfl, P2, C2⟩ := h9
    rw [two_T] at P2
    have L2 := tw_st G2 (C1.trans C2) P2
    refine r_callV (t_tell L2 (tw_len (by omega)) (tw_v (k := 0) (by decide))) mv_X10_tellsStep ml_X10_301 ⟨by omega, by decide⟩ dX10_readStep_31 (by first | assumption | rfl) rfl rfl rfl (Nat.le_of_ble_eq_true rfl) (fun v9 y3 h9 => ?_)
    obtain ⟨rfl, L3, K3⟩ := h9
    refine r_goto (tgt := 282) dX10_readStep_34 (by decide) ?_
    first
      | (exact PW.lc (by rfl) rfl (step_end (x0 := x) (by omega) L3 (congrArg (sgS g len 59) ((tw_eq l 0 _).trans (ap_w ((pStep_w w9).trans rfl)).symm)) ((K1.trans (C1.trans C2).vk).trans K3)))
      | (exact PW.lc (by rfl) rfl (step_end (x0 := x) (by omega) L3 (congrArg (sgS g len 59) ((tw_eq l 3 _).trans (ap_w ((pStep_w w9).trans rfl)).symm)) ((K1.trans (C1.trans C2).vk).trans K3)))
      | (exact PW.lc (by rfl) rfl (step_end (x0 := x) (by omega) L3 (congrArg (sgS g len 59) ((ap_w ((pStep_w w9).trans rfl)).symm)) (K1.trans K3)))
      | (have w9 := p2_none h12 h44 h54 h118 h64 h153 h177
         exact PW.lc (by rfl) rfl (step_end (x0 := x) (by omega) L9 (congrArg (sgS g len 59) ((ap_w (r := .error (1, skip g len a)) (by unfold pStep; rw [w9]; rfl)).symm)) (K0.trans C9.vk)))
set_option maxHeartbeats 8000000 in
set_option maxRecDepth 20000 in
theorem n_step0 {g : Nat → Nat} {len d ns a : Nat} {l : List ST} {x : XS} (hd : 4 ≤ d) (hns : ns ≤ 5) (hs : x 137 18 = nI ns) (hL : WSt x g len 6 (.ok (l, a))) : MM mX10_readStep (d + 1) 0 0 [.ref 137] x (fun v y => v = none ∧ WSt y g len 6 (sgS g len 59 (apS (.ok (l, a)) (pStep g len ns none))) ∧ VK x y) NoT := by
  refine MM.of (by decide) (Nat.le_of_ble_eq_true rfl) ?_
  have y137 := lay_137
  have y151 := lay_151
  have S : PSt x g len (.ok a) := hL.1
  have hsk := skip_ge g len a
  have hal : a ≤ len := S.2.2.1
  have hsl := skip_le (g := g) hal
  have h15 : len ≤ 150 := hL.2.2.1
  have hl : 4 * l.length ≤ a := (hL.2.2.2 _ rfl).2.1
  have G : WSt (gdX x (skip g len a)) g len 6 (.ok (l, (skip g len a))) := hL.mv CH.gd (S.gd hsl) hsk
  have hwd := wd_lt g len a
  have hse := smE_le (g := g) hsl
  have hsg := smE_ge g len (skip g len a)
  have hsx : gdX x (skip g len a) 137 18 = nI ns := (xu_k (by decide)).trans hs
  have hsy : gdX (gdX x (skip g len a)) (smE g len (skip g len a)) 137 18 = nI ns := (xu_k (by decide)).trans hsx
  have G2 : WSt (gdX (gdX x (skip g len a)) (smE g len (skip g len a))) g len 6 (.ok (l, (smE g len (skip g len a)))) := G.mv CH.gd (PSt.gd (a := (skip g len a)) G.1 hse) hsg
  have K0 : VK x (gdX x (skip g len a)) := CH.gd.vk
  have K1 : VK x (gdX (gdX x (skip g len a)) (smE g len (skip g len a))) := K0.trans CH.gd.vk
  have b20 := of_lt 20 (by decide) (by decide)
  have b21 := of_lt 21 (by decide) (by decide)
  have b22 := of_lt 22 (by decide) (by decide)
  have b23 := of_lt 23 (by decide) (by decide)
  have b6 := of_lt 6 (by decide) (by decide)
  have b18 := of_lt 18 (by decide) (by decide)
  have b24 := of_lt 24 (by decide) (by decide)
  refine r_aload_n dX10_readStep_0 rfl (by rfl) ?_
  refine r_callV (n_word S.rp) mv_X10_word ml_X10_219 ⟨by omega, by decide⟩ dX10_readStep_1 (by first | assumption | rfl) rfl rfl rfl (Nat.le_of_ble_eq_true rfl) (fun v9 x9 h9 => ?_)
  obtain ⟨rfl, h9⟩ := h9
  refine PW.xeq h9 ?_
  clear h9 x9
  refine r_istore_n dX10_readStep_4 rfl (by decide) ?_
  refine r_iload_n dX10_readStep_5 rfl (by rfl) ?_
  refine r_ldcwS (i := 20) rfl dX10_readStep_6 ?_
  refine r_callS (n_of (i := 20) (by decide) (by decide)) ms_X10_of ml_X10_187 ⟨by omega, by decide⟩ dX10_readStep_9 rfl (Nat.le_of_ble_eq_true rfl) (fun v9 x9 h9 => ?_)
  obtain ⟨rfl, h9⟩ := h9
  refine PW.xeq h9 ?_
  clear h9 x9
  refine r_icmp_neN (tgt := 37) dX10_readStep_12 (by decide) (by omega) (by omega) (fun h12 => ?_) (fun h12 => ?_)
  · refine r_iload_n dX10_readStep_37 rfl (by rfl) ?_
    refine r_ldcwS (i := 21) rfl dX10_readStep_38 ?_
    refine r_callS (n_of (i := 21) (by decide) (by decide)) ms_X10_of ml_X10_187 ⟨by omega, by decide⟩ dX10_readStep_41 rfl (Nat.le_of_ble_eq_true rfl) (fun v9 x9 h9 => ?_)
    obtain ⟨rfl, h9⟩ := h9
    refine PW.xeq h9 ?_
    clear h9 x9
    refine r_icmp_eqN (tgt := 67) dX10_readStep_44 (by decide) (by omega) (by omega) (fun h44 => ?_) (fun h44 => ?_)
    · first
        | (obtain ⟨w9, w8⟩ := p2_turn h44
           exact PW.lc (by rfl) rfl (one_step (by omega) hns hsx G (by omega) (Or.inl ⟨h44, rfl⟩) (fun z z1 z2 => step_end (x0 := x) (by omega) z1 (congrArg (sgS g len 59) ((on_eq l 1 _).trans (ap_w ((pStep_w w9).trans rfl)).symm)) (K0.trans z2))))
        | (obtain ⟨w9, w8⟩ := p2_room h54
           exact PW.lc (by rfl) rfl (one_step (by omega) hns hsx G (by omega) (Or.inr (Or.inl ⟨h54, rfl⟩)) (fun z z1 z2 => step_end (x0 := x) (by omega) z1 (congrArg (sgS g len 59) ((on_eq l 2 _).trans (ap_w ((pStep_w w9).trans rfl)).symm)) (K0.trans z2))))
        | (obtain ⟨w9, w8⟩ := p2_call h64
           exact PW.lc (by rfl) rfl (one_step (by omega) hns hsx G (by omega) (Or.inr (Or.inr ⟨h64, rfl⟩)) (fun z z1 z2 => step_end (x0 := x) (by omega) z1 (congrArg (sgS g len 59) ((on_eq l 4 _).trans (ap_w ((pStep_w w9).trans rfl)).symm)) (K0.trans z2))))
    · refine r_iload_n dX10_readStep_47 rfl (by rfl) ?_
      refine r_ldcwS (i := 22) rfl dX10_readStep_48 ?_
      refine r_callS (n_of (i := 22) (by decide) (by decide)) ms_X10_of ml_X10_187 ⟨by omega, by decide⟩ dX10_readStep_51 rfl (Nat.le_of_ble_eq_true rfl) (fun v9 x9 h9 => ?_)
      obtain ⟨rfl, h9⟩ := h9
      refine PW.xeq h9 ?_
      clear h9 x9
      refine r_icmp_eqN (tgt := 67) dX10_readStep_54 (by decide) (by omega) (by omega) (fun h54 => ?_) (fun h54 => ?_)
      · first
          | (obtain ⟨w9, w8⟩ := p2_turn h44
             exact PW.lc (by rfl) rfl (one_step (by omega) hns hsx G (by omega) (Or.inl ⟨h44, rfl⟩) (fun z z1 z2 => step_end (x0 := x) (by omega) z1 (congrArg (sgS g len 59) ((on_eq l 1 _).trans (ap_w ((pStep_w w9).trans rfl)).symm)) (K0.trans z2))))
          | (obtain ⟨w9, w8⟩ := p2_room h54
             exact PW.lc (by rfl) rfl (one_step (by omega) hns hsx G (by omega) (Or.inr (Or.inl ⟨h54, rfl⟩)) (fun z z1 z2 => step_end (x0 := x) (by omega) z1 (congrArg (sgS g len 59) ((on_eq l 2 _).trans (ap_w ((pStep_w w9).trans rfl)).symm)) (K0.trans z2))))
          | (obtain ⟨w9, w8⟩ := p2_call h64
             exact PW.lc (by rfl) rfl (one_step (by omega) hns hsx G (by omega) (Or.inr (Or.inr ⟨h64, rfl⟩)) (fun z z1 z2 => step_end (x0 := x) (by omega) z1 (congrArg (sgS g len 59) ((on_eq l 4 _).trans (ap_w ((pStep_w w9).trans rfl)).symm)) (K0.trans z2))))
      · refine r_iload_n dX10_readStep_57 rfl (by rfl) ?_
        refine r_ldcwS (i := 23) rfl dX10_readStep_58 ?_
        refine r_callS (n_of (i := 23) (by decide) (by decide)) ms_X10_of ml_X10_187 ⟨by omega, by decide⟩ dX10_readStep_61 rfl (Nat.le_of_ble_eq_true rfl) (fun v9 x9 h9 => ?_)
        obtain ⟨rfl, h9⟩ := h9
        refine PW.xeq h9 ?_
        clear h9 x9
        refine r_icmp_neN (tgt := 112) dX10_readStep_64 (by decide) (by omega) (by omega) (fun h64 => ?_) (fun h64 => ?_)
        · refine r_iload_n dX10_readStep_112 rfl (by rfl) ?_
          refine r_ldcS (i := 6) rfl dX10_readStep_113 ?_
          refine r_callS (n_of (i := 6) (by decide) (by decide)) ms_X10_of ml_X10_187 ⟨by omega, by decide⟩ dX10_readStep_115 rfl (Nat.le_of_ble_eq_true rfl) (fun v9 x9 h9 => ?_)
          obtain ⟨rfl, h9⟩ := h9
          refine PW.xeq h9 ?_
          clear h9 x9
          refine r_icmp_neN (tgt := 146) dX10_readStep_118 (by decide) (by omega) (by omega) (fun h118 => ?_) (fun h118 => ?_)
          · refine r_iload_n dX10_readStep_146 rfl (by rfl) ?_
            refine r_ldcwS (i := 18) rfl dX10_readStep_147 ?_
            refine r_callS (n_of (i := 18) (by decide) (by decide)) ms_X10_of ml_X10_187 ⟨by omega, by decide⟩ dX10_readStep_150 rfl (Nat.le_of_ble_eq_true rfl) (fun v9 x9 h9 => ?_)
            obtain ⟨rfl, h9⟩ := h9
            refine PW.xeq h9 ?_
            clear h9 x9
            refine r_icmp_neN (tgt := 170) dX10_readStep_153 (by decide) (by omega) (by omega) (fun h153 => ?_) (fun h153 => ?_)
            · refine r_iload_n dX10_readStep_170 rfl (by rfl) ?_
              refine r_ldcwS (i := 24) rfl dX10_readStep_171 ?_
              refine r_callS (n_of (i := 24) (by decide) (by decide)) ms_X10_of ml_X10_187 ⟨by omega, by decide⟩ dX10_readStep_174 rfl (Nat.le_of_ble_eq_true rfl) (fun v9 x9 h9 => ?_)
              obtain ⟨rfl, h9⟩ := h9
              refine PW.xeq h9 ?_
              clear h9 x9
              refine r_icmp_neN (tgt := 273) dX10_readStep_177 (by decide) (by omega) (by omega) (fun h177 => ?_) (fun h177 => ?_)
              · refine r_aload_n dX10_readStep_273 rfl (by rfl) ?_
                refine r_iconst (v := nI 1) dX10_readStep_274 (by decide) ?_
                refine r_aload_n dX10_readStep_275 rfl (by rfl) ?_
                refine gf_X10_107 rfl dX10_readStep_276 (by first | assumption | rfl) (by rfl) ?_
                refine PW.topi (show _ = nI (skip g len a) from xu_s) ?_
                refine r_callV (t_wrong (r := .ok (skip g len a)) (k := 1) (p := (skip g len a)) G.1 rfl (by omega)) mv_X10_wrong ml_X10_137 ⟨by omega, by decide⟩ dX10_readStep_279 (by first | assumption | rfl) rfl rfl rfl (Nat.le_of_ble_eq_true rfl) (fun v9 y9 h9 => ?_)
                obtain ⟨rfl, P9, C9⟩ := h9
                have L9 := G.er C9 P9
                first
                  | (exact PW.lc (by rfl) rfl (step_end (x0 := x) (by omega) L3 (congrArg (sgS g len 59) ((tw_eq l 0 _).trans (ap_w ((pStep_w w9).trans rfl)).symm)) ((K1.trans (C1.trans C2).vk).trans K3)))
                  | (exact PW.lc (by rfl) rfl (step_end (x0 := x) (by omega) L3 (congrArg (sgS g len 59) ((tw_eq l 3 _).trans (ap_w ((pStep_w w9).trans rfl)).symm)) ((K1.trans (C1.trans C2).vk).trans K3)))
                  | (exact PW.lc (by rfl) rfl (step_end (x0 := x) (by omega) L3 (congrArg (sgS g len 59) ((ap_w ((pStep_w w9).trans rfl)).symm)) (K1.trans K3)))
                  | (have w9 := p2_none h12 h44 h54 h118 h64 h153 h177
                     exact PW.lc (by rfl) rfl (step_end (x0 := x) (by omega) L9 (congrArg (sgS g len 59) ((ap_w (r := .error (1, skip g len a)) (by unfold pStep; rw [w9]; rfl)).symm)) (K0.trans C9.vk)))
                  | (exact PW.lc (by rfl) rfl (step_end (x0 := x) (by omega) L9 (congrArg (sgS g len 59) ((ap_w (r := .error (3, (skip g len a))) ((pStep_w w9).trans rfl)).symm)) (K0.trans (CH.wr.vk.trans (VK.op.trans VK.op)))))
              · obtain ⟨w9, w8⟩ := p2_again h177
                have hb5 : ¬ xu (wrX (gdX x (skip g len a)) 3 (skip g len a)) 137 7 (nI 7) 137 5 = -1 := nI_ne1 (show (skip g len a) < 2 ^ 31 by omega)
                have hb6 : ¬ xu (xu (wrX (gdX x (skip g len a)) 3 (skip g len a)) 137 7 (nI 7)) 137 7 (nI (7 - 1)) 137 5 = -1 := nI_ne1 (show (skip g len a) < 2 ^ 31 by omega)
                have L9 : WSt (xu (xu (wrX (gdX x (skip g len a)) 3 (skip g len a)) 137 7 (nI 7)) 137 7 (nI 6)) g len 6 (.error (3, (skip g len a))) := (G.er CH.wr (PSt.wr (b := (skip g len a)) (k := 3) (p := (skip g len a)) S hsl (by omega))).op.op
                refine r_aload_n dX10_readStep_180 rfl (by rfl) ?_
                refine r_iconst (v := nI 5) dX10_readStep_181 (by decide) ?_
                refine r_callV (n_open6 (x := gdX x (skip g len a)) (a := (skip g len a)) (b := 5) G.1.2.2.2 G.1.2.1 (by omega) G.2.1) mv_X10_opensOne ml_X10_253 ⟨by omega, by decide⟩ dX10_readStep_182 (by first | assumption | rfl) rfl rfl rfl (Nat.le_of_ble_eq_true rfl) (fun v9 x9 h9 => ?_)
                obtain ⟨rfl, h9⟩ := h9
                refine PW.xeq h9 ?_
                clear h9 x9
                refine r_aload_n dX10_readStep_185 rfl (by rfl) ?_
                refine r_iconst (v := nI 0) dX10_readStep_186 (by decide) ?_
                refine r_bipush (v := nI 60) dX10_readStep_187 (by decide) ?_
                refine r_callV (n_num_b hb5) mv_X10_readNumber ml_X10_181 ⟨by omega, by decide⟩ dX10_readStep_189 (by first | assumption | rfl) rfl rfl rfl (Nat.le_of_ble_eq_true rfl) (fun v9 x9 h9 => ?_)
                obtain ⟨rfl, h9⟩ := h9
                refine PW.xeq h9 ?_
                clear h9 x9
                refine r_istore_n dX10_readStep_192 rfl (by decide) ?_
                refine r_aload_n dX10_readStep_193 rfl (by rfl) ?_
                refine r_bipush (v := nI 91) dX10_readStep_194 (by decide) ?_
                refine r_callV (n_sign_b hb5) mv_X10_sign ml_X10_234 ⟨by omega, by decide⟩ dX10_readStep_196 (by first | assumption | rfl) rfl rfl rfl (Nat.le_of_ble_eq_true rfl) (fun v9 x9 h9 => ?_)
                obtain ⟨rfl, h9⟩ := h9
                refine PW.xeq h9 ?_
                clear h9 x9
                refine r_aload_n dX10_readStep_199 rfl (by rfl) ?_
                refine gf_X10_293 rfl dX10_readStep_200 (by first | assumption | rfl) (by rfl) ?_
                refine r_istore_n dX10_readStep_203 rfl (by decide) ?_
                refine r_aload_n dX10_readStep_204 rfl (by rfl) ?_
                refine r_bipush (v := nI 6) dX10_readStep_205 (by decide) ?_
                refine r_iload_n dX10_readStep_207 rfl (by rfl) ?_
                refine r_iconst (v := nI 0) dX10_readStep_208 (by decide) ?_
                refine r_callV (n_tell_b hb5) mv_X10_tellsStep ml_X10_301 ⟨by omega, by decide⟩ dX10_readStep_209 (by first | assumption | rfl) rfl rfl rfl (Nat.le_of_ble_eq_true rfl) (fun v9 x9 h9 => ?_)
                obtain ⟨rfl, h9⟩ := h9
                refine PW.xeq h9 ?_
                clear h9 x9
                refine r_aload_n dX10_readStep_212 rfl (by rfl) ?_
                refine r_callV (n_fine_f hb5) mv_X10_fine ml_X10_130 ⟨by omega, by decide⟩ dX10_readStep_213 (by first | assumption | rfl) rfl rfl rfl (Nat.le_of_ble_eq_true rfl) (fun v9 x9 h9 => ?_)
                obtain ⟨rfl, h9⟩ := h9
                refine PW.xeq h9 ?_
                clear h9 x9
                refine r_if_eqB (tgt := 235) dX10_readStep_216 (by decide) (fun h216 => ?_) (fun h216 => absurd (show false = true from h216) (by decide))
                refine r_aload_n dX10_readStep_235 rfl (by rfl) ?_
                refine r_bipush (v := nI 93) dX10_readStep_236 (by decide) ?_
                refine r_callV (n_sign_b hb5) mv_X10_sign ml_X10_234 ⟨by omega, by decide⟩ dX10_readStep_238 (by first | assumption | rfl) rfl rfl rfl (Nat.le_of_ble_eq_true rfl) (fun v9 x9 h9 => ?_)
                obtain ⟨rfl, h9⟩ := h9
                refine PW.xeq h9 ?_
                clear h9 x9
                refine r_aload_n dX10_readStep_241 rfl (by rfl) ?_
                refine r_dup dX10_readStep_242 rfl ?_
                refine gf_X10_141 rfl dX10_readStep_243 (by first | assumption | rfl) (by rfl) ?_
                refine PW.topi (show _ = nI 7 from rfl) ?_
                refine r_iconst (v := nI 1) dX10_readStep_246 (by decide) ?_
                refine r_isubN dX10_readStep_247 (by omega) ?_
                refine pf_X10_141 rfl dX10_readStep_248 (by first | assumption | rfl) (by rfl) ?_
                refine r_aload_n dX10_readStep_251 rfl (by rfl) ?_
                refine r_callV (n_fine_f hb6) mv_X10_fine ml_X10_130 ⟨by omega, by decide⟩ dX10_readStep_252 (by first | assumption | rfl) rfl rfl rfl (Nat.le_of_ble_eq_true rfl) (fun v9 x9 h9 => ?_)
                obtain ⟨rfl, h9⟩ := h9
                refine PW.xeq h9 ?_
                clear h9 x9
                refine r_if_eqB (tgt := 270) dX10_readStep_255 (by decide) (fun h255 => ?_) (fun h255 => absurd (show false = true from h255) (by decide))
                refine r_goto (tgt := 282) dX10_readStep_270 (by decide) ?_
                first
                  | (exact PW.lc (by rfl) rfl (step_end (x0 := x) (by omega) L3 (congrArg (sgS g len 59) ((tw_eq l 0 _).trans (ap_w ((pStep_w w9).trans rfl)).symm)) ((K1.trans (C1.trans C2).vk).trans K3)))
                  | (exact PW.lc (by rfl) rfl (step_end (x0 := x) (by omega) L3 (congrArg (sgS g len 59) ((tw_eq l 3 _).trans (ap_w ((pStep_w w9).trans rfl)).symm)) ((K1.trans (C1.trans C2).vk).trans K3)))
                  | (exact PW.lc (by rfl) rfl (step_end (x0 := x) (by omega) L3 (congrArg (sgS g len 59) ((ap_w ((pStep_w w9).trans rfl)).symm)) (K1.trans K3)))
                  | (have w9 := p2_none h12 h44 h54 h118 h64 h153 h177
                     exact PW.lc (by rfl) rfl (step_end (x0 := x) (by omega) L9 (congrArg (sgS g len 59) ((ap_w (r := .error (1, skip g len a)) (by unfold pStep; rw [w9]; rfl)).symm)) (K0.trans C9.vk)))
                  | (exact PW.lc (by rfl) rfl (step_end (x0 := x) (by omega) L9 (congrArg (sgS g len 59) ((ap_w (r := .error (3, (skip g len a))) ((pStep_w w9).trans rfl)).symm)) (K0.trans (CH.wr.vk.trans (VK.op.trans VK.op)))))
            · obtain ⟨w9, w8⟩ := p2_minute h153
              refine r_aload_n dX10_readStep_156 rfl (by rfl) ?_
              refine r_callV (n_pass (g := g) (len := len) (a := (skip g len a)) (PSt.rp (a := (skip g len a)) G.1)) mv_X10_pass ml_X10_225 ⟨by omega, by decide⟩ dX10_readStep_157 (by first | assumption | rfl) rfl rfl rfl (Nat.le_of_ble_eq_true rfl) (fun v9 x9 h9 => ?_)
              obtain ⟨rfl, h9⟩ := h9
              refine PW.xeq h9 ?_
              clear h9 x9
              refine r_aload_n dX10_readStep_160 rfl (by rfl) ?_
              refine r_iconst (v := nI 5) dX10_readStep_161 (by decide) ?_
              refine r_iconst (v := nI 0) dX10_readStep_162 (by decide) ?_
              refine r_iconst (v := nI 0) dX10_readStep_163 (by decide) ?_
              refine r_callV (t_tell (c := (5, 0, 0)) G2 (fun p9 e9 => by injection e9 with e9; subst e9; show 4 * (l.length + 1) ≤ smE g len (skip g len a); omega) (fun _ _ => ⟨rfl, rfl, rfl⟩)) mv_X10_tellsStep ml_X10_301 ⟨by omega, by decide⟩ dX10_readStep_164 (by first | assumption | rfl) rfl rfl rfl (Nat.le_of_ble_eq_true rfl) (fun v9 y3 h9 => ?_)
              obtain ⟨rfl, L3, K3⟩ := h9
              refine r_goto (tgt := 282) dX10_readStep_167 (by decide) ?_
              first
                | (exact PW.lc (by rfl) rfl (step_end (x0 := x) (by omega) L3 (congrArg (sgS g len 59) ((tw_eq l 0 _).trans (ap_w ((pStep_w w9).trans rfl)).symm)) ((K1.trans (C1.trans C2).vk).trans K3)))
                | (exact PW.lc (by rfl) rfl (step_end (x0 := x) (by omega) L3 (congrArg (sgS g len 59) ((tw_eq l 3 _).trans (ap_w ((pStep_w w9).trans rfl)).symm)) ((K1.trans (C1.trans C2).vk).trans K3)))
                | (exact PW.lc (by rfl) rfl (step_end (x0 := x) (by omega) L3 (congrArg (sgS g len 59) ((ap_w ((pStep_w w9).trans rfl)).symm)) (K1.trans K3)))
                | (have w9 := p2_none h12 h44 h54 h118 h64 h153 h177
                   exact PW.lc (by rfl) rfl (step_end (x0 := x) (by omega) L9 (congrArg (sgS g len 59) ((ap_w (r := .error (1, skip g len a)) (by unfold pStep; rw [w9]; rfl)).symm)) (K0.trans C9.vk)))
                | (exact PW.lc (by rfl) rfl (step_end (x0 := x) (by omega) L9 (congrArg (sgS g len 59) ((ap_w (r := .error (3, (skip g len a))) ((pStep_w w9).trans rfl)).symm)) (K0.trans (CH.wr.vk.trans (VK.op.trans VK.op)))))
          · obtain ⟨w9, w8⟩ := p2_plug h118
            refine r_aload_n dX10_readStep_121 rfl (by rfl) ?_
            refine r_callV (n_pass (g := g) (len := len) (a := (skip g len a)) (PSt.rp (a := (skip g len a)) G.1)) mv_X10_pass ml_X10_225 ⟨by omega, by decide⟩ dX10_readStep_122 (by first | assumption | rfl) rfl rfl rfl (Nat.le_of_ble_eq_true rfl) (fun v9 x9 h9 => ?_)
            obtain ⟨rfl, h9⟩ := h9
            refine PW.xeq h9 ?_
            clear h9 x9
            refine r_aload_n dX10_readStep_125 rfl (by rfl) ?_
            refine r_callV (t_one (r := .ok (smE g len (skip g len a))) G2.1 hsy hns) mv_X10_readOne ml_X10_298 ⟨by omega, by decide⟩ dX10_readStep_126 (by first | assumption | rfl) rfl rfl rfl (Nat.le_of_ble_eq_true rfl) (fun v9 y1 h9 => ?_)
            obtain ⟨rfl, P1, C1⟩ := h9
            refine r_istore_n dX10_readStep_129 rfl (by decide) ?_
            refine r_aload_n dX10_readStep_130 rfl (by rfl) ?_
            refine r_iconst (v := nI 3) dX10_readStep_131 (by decide) ?_
            refine r_iload_n dX10_readStep_132 rfl (by rfl) ?_
            refine r_aload_n dX10_readStep_133 rfl (by rfl) ?_
            refine r_iconst (v := nI 0) dX10_readStep_134 (by decide) ?_
            refine r_bipush (v := nI 20) dX10_readStep_135 (by decide) ?_
            refine r_callV (t_num (lo := 0) (n := 21) (hv := nI 20) P1 (by decide) (by decide) (fun v hv => hv_C (by decide) hv)) mv_X10_readNumber ml_X10_181 ⟨by omega, by decide⟩ dX10_readStep_137 (by first | assumption | rfl) rfl rfl rfl (Nat.le_of_ble_eq_true rfl) (fun v9 y2 h9 => ?_)
            obtain ⟨rfl, P2, C2⟩ := h9
            rw [two_T] at P2
            have L2 := tw_st G2 (C1.trans C2) P2
            refine r_callV (t_tell L2 (tw_len (by omega)) (tw_v (k := 3) (by decide))) mv_X10_tellsStep ml_X10_301 ⟨by omega, by decide⟩ dX10_readStep_140 (by first | assumption | rfl) rfl rfl rfl (Nat.le_of_ble_eq_true rfl) (fun v9 y3 h9 => ?_)
            obtain ⟨rfl, L3, K3⟩ := h9
            refine r_goto (tgt := 282) dX10_readStep_143 (by decide) ?_
            first
              | (exact PW.lc (by rfl) rfl (step_end (x0 := x) (by omega) L3 (congrArg (sgS g len 59) ((tw_eq l 0 _).trans (ap_w ((pStep_w w9).trans rfl)).symm)) ((K1.trans (C1.trans C2).vk).trans K3)))
              | (exact PW.lc (by rfl) rfl (step_end (x0 := x) (by omega) L3 (congrArg (sgS g len 59) ((tw_eq l 3 _).trans (ap_w ((pStep_w w9).trans rfl)).symm)) ((K1.trans (C1.trans C2).vk).trans K3)))
              | (exact PW.lc (by rfl) rfl (step_end (x0 := x) (by omega) L3 (congrArg (sgS g len 59) ((ap_w ((pStep_w w9).trans rfl)).symm)) (K1.trans K3)))
              | (have w9 := p2_none h12 h44 h54 h118 h64 h153 h177
                 exact PW.lc (by rfl) rfl (step_end (x0 := x) (by omega) L9 (congrArg (sgS g len 59) ((ap_w (r := .error (1, skip g len a)) (by unfold pStep; rw [w9]; rfl)).symm)) (K0.trans C9.vk)))
              | (exact PW.lc (by rfl) rfl (step_end (x0 := x) (by omega) L9 (congrArg (sgS g len 59) ((ap_w (r := .error (3, (skip g len a))) ((pStep_w w9).trans rfl)).symm)) (K0.trans (CH.wr.vk.trans (VK.op.trans VK.op)))))
        · first
            | (obtain ⟨w9, w8⟩ := p2_turn h44
               exact PW.lc (by rfl) rfl (one_step (by omega) hns hsx G (by omega) (Or.inl ⟨h44, rfl⟩) (fun z z1 z2 => step_end (x0 := x) (by omega) z1 (congrArg (sgS g len 59) ((on_eq l 1 _).trans (ap_w ((pStep_w w9).trans rfl)).symm)) (K0.trans z2))))
            | (obtain ⟨w9, w8⟩ := p2_room h54
               exact PW.lc (by rfl) rfl (one_step (by omega) hns hsx G (by omega) (Or.inr (Or.inl ⟨h54, rfl⟩)) (fun z z1 z2 => step_end (x0 := x) (by omega) z1 (congrArg (sgS g len 59) ((on_eq l 2 _).trans (ap_w ((pStep_w w9).trans rfl)).symm)) (K0.trans z2))))
            | (obtain ⟨w9, w8⟩ := p2_call h64
               exact PW.lc (by rfl) rfl (one_step (by omega) hns hsx G (by omega) (Or.inr (Or.inr ⟨h64, rfl⟩)) (fun z z1 z2 => step_end (x0 := x) (by omega) z1 (congrArg (sgS g len 59) ((on_eq l 4 _).trans (ap_w ((pStep_w w9).trans rfl)).symm)) (K0.trans z2))))
  · obtain ⟨w9, w8⟩ := p2_nudge h12
    refine r_aload_n dX10_readStep_15 rfl (by rfl) ?_
    refine r_callV (n_pass (g := g) (len := len) (a := (skip g len a)) (PSt.rp (a := (skip g len a)) G.1)) mv_X10_pass ml_X10_225 ⟨by omega, by decide⟩ dX10_readStep_16 (by first | assumption | rfl) rfl rfl rfl (Nat.le_of_ble_eq_true rfl) (fun v9 x9 h9 => ?_)
    obtain ⟨rfl, h9⟩ := h9
    refine PW.xeq h9 ?_
    clear h9 x9
    refine r_aload_n dX10_readStep_19 rfl (by rfl) ?_
    refine r_callV (t_one (r := .ok (smE g len (skip g len a))) G2.1 hsy hns) mv_X10_readOne ml_X10_298 ⟨by omega, by decide⟩ dX10_readStep_20 (by first | assumption | rfl) rfl rfl rfl (Nat.le_of_ble_eq_true rfl) (fun v9 y1 h9 => ?_)
    obtain ⟨rfl, P1, C1⟩ := h9
    refine r_istore_n dX10_readStep_23 rfl (by decide) ?_
    refine r_aload_n dX10_readStep_24 rfl (by rfl) ?_
    refine r_iconst (v := nI 0) dX10_readStep_25 (by decide) ?_
    refine r_iload_n dX10_readStep_26 rfl (by rfl) ?_
    refine r_aload_n dX10_readStep_27 rfl (by rfl) ?_
    refine r_callV (t_one P1 ((C1.2 18 (by decide) (by decide) (by decide)).trans hsy) hns) mv_X10_readOne ml_X10_298 ⟨by omega, by decide⟩ dX10_readStep_28 (by first | assumption | rfl) rfl rfl rfl (Nat.le_of_ble_eq_true rfl) (fun v9 y2 h9 => ?_)
    obtain ⟨rfl, P2, C2⟩ := h9
    rw [two_T] at P2
    have L2 := tw_st G2 (C1.trans C2) P2
    refine r_callV (t_tell L2 (tw_len (by omega)) (tw_v (k := 0) (by decide))) mv_X10_tellsStep ml_X10_301 ⟨by omega, by decide⟩ dX10_readStep_31 (by first | assumption | rfl) rfl rfl rfl (Nat.le_of_ble_eq_true rfl) (fun v9 y3 h9 => ?_)
    obtain ⟨rfl, L3, K3⟩ := h9
    refine r_goto (tgt := 282) dX10_readStep_34 (by decide) ?_
    first
      | (exact PW.lc (by rfl) rfl (step_end (x0 := x) (by omega) L3 (congrArg (sgS g len 59) ((tw_eq l 0 _).trans (ap_w ((pStep_w w9).trans rfl)).symm)) ((K1.trans (C1.trans C2).vk).trans K3)))
      | (exact PW.lc (by rfl) rfl (step_end (x0 := x) (by omega) L3 (congrArg (sgS g len 59) ((tw_eq l 3 _).trans (ap_w ((pStep_w w9).trans rfl)).symm)) ((K1.trans (C1.trans C2).vk).trans K3)))
      | (exact PW.lc (by rfl) rfl (step_end (x0 := x) (by omega) L3 (congrArg (sgS g len 59) ((ap_w ((pStep_w w9).trans rfl)).symm)) (K1.trans K3)))
      | (have w9 := p2_none h12 h44 h54 h118 h64 h153 h177
         exact PW.lc (by rfl) rfl (step_end (x0 := x) (by omega) L9 (congrArg (sgS g len 59) ((ap_w (r := .error (1, skip g len a)) (by unfold pStep; rw [w9]; rfl)).symm)) (K0.trans C9.vk)))
      | (exact PW.lc (by rfl) rfl (step_end (x0 := x) (by omega) L9 (congrArg (sgS g len 59) ((ap_w (r := .error (3, (skip g len a))) ((pStep_w w9).trans rfl)).symm)) (K0.trans (CH.wr.vk.trans (VK.op.trans VK.op)))))
theorem step_all {g : Nat → Nat} {len ns : Nat} (hg : ∀ j, j < 600 → g j < 256) (hl : len ≤ 600) (hns : ns ≤ 5) : ∀ lev, lev ≤ 6 → SRC g len ns (5 + lev) (6 - lev) (pStepL g len ns lev)
  | 0, _ => fun l a x hs hL => n_step0 (d := 4) (by decide) hns hs hL
  | lev + 1, h => fun l a x hs hL => by
    have ih := step_all hg hl hns lev (by omega)
    exact n_stepS (d := 5 + lev) (o := 6 - (lev + 1)) (by omega) hns (by rw [show 6 - (lev + 1) + 1 = 6 - lev by omega]; exact ih) (ust_all hg hl lev) (by omega) hs hL
