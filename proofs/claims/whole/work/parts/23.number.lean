/-! TAPE: numbers -/
theorem xu_comm {x : XS} {c k k2 : Nat} {v w : Int32} (h : k ≠ k2) : xu (xu x c k v) c k2 w = xu (xu x c k2 w) c k v := by
  unfold xu
  rw [xr_s, xr_s, xr_xr, xr_xr]
  congr 1
  funext i
  by_cases e : i = k
  · subst e; rw [pk_un h, pk_us, pk_us]
  · rw [pk_un (f := upd (x c) k2 w) e]
    by_cases e2 : i = k2
    · subst e2; rw [pk_us, pk_us]
    · rw [pk_un e2, pk_un e2, pk_un e]
def isD (b : Nat) : Bool := decide (48 ≤ b) && decide (b ≤ 57)
theorem digN {b : Nat} (h : b < 2 ^ 31) : digB (nI b) = isD b := by
  unfold digB isD
  congr 1
  · exact decide_eq_decide.mpr (nI_leI (by omega) h)
  · exact decide_eq_decide.mpr (nI_leI h (by omega))
theorem isD_iff {b : Nat} : isD b = true ↔ 48 ≤ b ∧ b ≤ 57 := by unfold isD; simp
/-- the digits from b on: where they end, their number (as far as it matters) -/
def dgs (g : Nat → Nat) (len : Nat) : Nat → Nat → Nat → Nat × Nat
  | 0, b, v => (b, v)
  | n + 1, b, v => if b < len ∧ isD (g b) = true then dgs g len n (b + 1) (if v < 100000 then v * 10 + g b - 48 else v) else (b, v)
def dg (g : Nat → Nat) (len b v : Nat) : Nat × Nat := dgs g len (len - b) b v
theorem dg_s {g : Nat → Nat} {len b v : Nat} (h : b < len) (h2 : isD (g b) = true) : dg g len b v = dg g len (b + 1) (if v < 100000 then v * 10 + g b - 48 else v) := by
  unfold dg
  rw [show len - b = (len - (b + 1)) + 1 by omega]
  show (if _ then _ else _) = _
  rw [if_pos ⟨h, h2⟩]
theorem dg_e {g : Nat → Nat} {len b v : Nat} (h : ¬ (b < len ∧ isD (g b) = true)) : dg g len b v = (b, v) := by
  unfold dg
  cases len - b with
  | zero => rfl
  | succ n =>
    show (if _ then _ else _) = _
    rw [if_neg h]
theorem dgs_le (g : Nat → Nat) (len : Nat) : ∀ n b v, b ≤ len → v < 1000010 → (dgs g len n b v).1 ≤ len ∧ (dgs g len n b v).2 < 1000010
  | 0, _, _, h, h2 => ⟨h, h2⟩
  | n + 1, b, v, h, h2 => by
    unfold dgs
    split
    · rename_i q
      have := isD_iff.mp q.2
      exact dgs_le g len n (b + 1) _ (by omega) (by split <;> omega)
    · exact ⟨h, h2⟩
/-- the tape behind a number's digits: it began at a1, is read to b -/
def nuS (x : XS) (a1 b : Nat) : XS := xu (xu x 1 6 (nI a1)) 1 3 (nI b)
def numOK (g : Nat → Nat) (len a lo : Nat) (hv : Int32) : Bool := digB (nxV g len a) && !(decide (nI (dg g len (skip g len a) 0).2 < nI lo) || !decide (nI (dg g len (skip g len a) 0).2 ≤ hv))
def numV (g : Nat → Nat) (len a : Nat) : Nat := (dg g len (skip g len a) 0).2
def numX (x : XS) (g : Nat → Nat) (len a lo : Nat) (hv : Int32) : XS :=
  if digB (nxV g len a) then (if numOK g len a lo hv then nuS x (skip g len a) (dg g len (skip g len a) 0).1 else failX (nuS x (skip g len a) (dg g len (skip g len a) 0).1) 2 (skip g len a))
  else failX (atX x (skip g len a)) 1 (skip g len a)
theorem nxV_dig {g : Nat → Nat} {len a : Nat} (hg : ∀ j, j < 600 → g j < 256) (hl : len ≤ 600) (h : digB (nxV g len a) = true) : skip g len a < len ∧ isD (g (skip g len a)) = true := by
  unfold nxV at h
  by_cases q : skip g len a < len
  · rw [if_pos q, digN (by have := hg (skip g len a) (by omega); omega)] at h
    exact ⟨q, h⟩
  · rw [if_neg q] at h
    exact absurd h (by decide +kernel)
set_option maxHeartbeats 8000000 in
set_option maxRecDepth 20000 in
theorem c_X8_number {g : Nat → Nat} {len a lo : Nat} {hv : Int32} {x : XS} (hT : TP x g len a) (hlo : lo < 2 ^ 31) : MM mX8_number 1 0 0 [.ref 1, .int (nI lo), .int hv] x (fun v x1 => v = some (.int (if numOK g len a lo hv then nI (numV g len a) else -1)) ∧ x1 = numX x g len a lo hv) NoT := by
  refine MM.of (by decide) (Nat.le_of_ble_eq_true rfl) ?_
  have y1 := lay_1
  have y2 := lay_2
  have hl := hT.2.1
  have ha1 : skip g len a ≤ len := skip_le hT.2.2.2.1
  have hgg : ∀ j, j < 600 → g j < 256 := fun j hj => (hT.2.2.2.2 j hj).2
  refine r_aload_n dX8_number_0 rfl (by rfl) ?_
  refine r_callV (c_X8_next hT) mv_X8_next ml_X8_44 ⟨by decide, by decide⟩ dX8_number_1 (by first | assumption | rfl) rfl rfl rfl (Nat.le_of_ble_eq_true rfl) (fun v9 x9 h9 => ?_)
  obtain ⟨rfl, h9⟩ := h9
  refine PW.xeq h9 ?_
  clear h9 x9
  refine r_callS c_X8_isDigit ms_X8_isDigit ml_X8_48 ⟨by decide, by decide⟩ dX8_number_4 rfl (Nat.le_of_ble_eq_true rfl) (fun v9 x9 h9 => ?_)
  obtain ⟨rfl, h9⟩ := h9
  refine PW.xeq h9 ?_
  clear h9 x9
  refine r_if_neB (tgt := 22) dX8_number_7 (by decide) (fun h7 => ?_) (fun h7 => ?_)
  · refine r_aload_n dX8_number_22 rfl (by rfl) ?_
    refine r_aload_n dX8_number_23 rfl (by rfl) ?_
    refine gf_X8_22 rfl dX8_number_24 (by first | assumption | rfl) (by rfl) ?_
    refine PW.topi (show _ = nI (skip g len a) from xu_s) ?_
    refine pf_X8_31 rfl dX8_number_27 (by first | assumption | rfl) (by rfl) ?_
    refine r_iconst (v := nI 0) dX8_number_30 (by decide) ?_
    refine r_istore_n dX8_number_31 rfl (by decide) ?_
    refine PW.loop (σ := Nat × Nat) (fun b => len - b.1) (fun b => b.1 ≤ len ∧ skip g len a ≤ b.1 ∧ b.2 < 1000010 ∧ dg g len b.1 b.2 = (dg g len (skip g len a) 0)) (fun b => [(0, .ref 1), (1, .int (nI lo)), (2, .int hv), (3, .int (nI b.2))]) (fun b => nuS x (skip g len a) b.1) ((skip g len a, 0)) (⟨ha1, Nat.le_refl _, (by show 0 < 1000010; decide), rfl⟩) rfl (xu_comm (by decide)) (fun b hb bh => ?_)
    have hbl := hb.1
    have hbv := hb.2.2.1
    refine r_aload_n dX8_number_32 rfl (by rfl) ?_
    refine gf_X8_22 rfl dX8_number_33 (by first | assumption | rfl) (by rfl) ?_
    refine PW.topi (show _ = nI b.1 from xu_s) ?_
    refine r_aload_n dX8_number_36 rfl (by rfl) ?_
    refine gf_X8_19 rfl dX8_number_37 (by first | assumption | rfl) (by rfl) ?_
    refine PW.topi (show _ = nI len by unfold nuS; rw [xu_k (by decide), xu_k (by decide)]; exact hT.1) ?_
    refine r_icmp_geN (tgt := 99) dX8_number_40 (by decide) (by omega) (by omega) (fun h40 => ?_) (fun h40 => ?_)
    · have hq : (dg g len (skip g len a) 0) = (b.1, b.2) := by
        rw [← hb.2.2.2]
        exact dg_e (by first | (intro q; rw [h55] at q; exact absurd q.2 (by decide)) | omega)
      have hb1 := hb.2.2.1
      refine r_iload_n dX8_number_99 rfl (by rfl) ?_
      refine r_iload_n dX8_number_100 rfl (by rfl) ?_
      refine r_icmp_ltN (tgt := 109) dX8_number_101 (by decide) (by omega) (by omega) (fun h101 => ?_) (fun h101 => ?_)
      · refine r_aload_n dX8_number_109 rfl (by rfl) ?_
        refine r_iconst (v := nI 2) dX8_number_110 (by decide) ?_
        refine r_aload_n dX8_number_111 rfl (by rfl) ?_
        refine gf_X8_31 rfl dX8_number_112 (by first | assumption | rfl) (by rfl) ?_
        refine PW.topi (show _ = nI (skip g len a) by unfold nuS; rw [xu_k (by decide), xu_s]) ?_
        refine r_callV c_X8_fail mv_X8_fail ml_X8_40 ⟨by decide, by decide⟩ dX8_number_115 (by first | assumption | rfl) rfl rfl rfl (Nat.le_of_ble_eq_true rfl) (fun v9 x9 h9 => ?_)
        obtain ⟨rfl, h9⟩ := h9
        refine PW.xeq h9 ?_
        clear h9 x9
        refine r_pop dX8_number_118 rfl ?_
        refine r_iconst (v := -1) dX8_number_119 (by decide) ?_
        refine r_iret rfl dX8_number_120 ?_
        refine ⟨?_, ?_⟩
        · unfold numOK
          rw [h7, hq]
          first
            | (rw [decide_eq_true (nI_lt h101 (by omega))]; rfl)
            | (rw [decide_eq_false (nI_nlt h101 (by omega)), decide_eq_false h106]; rfl)
        · unfold numX
          rw [if_pos h7]
          have e : numOK g len a lo hv = false := by
            unfold numOK
            rw [h7, hq]
            first
              | (rw [decide_eq_true (nI_lt h101 (by omega))]; rfl)
              | (rw [decide_eq_false (nI_nlt h101 (by omega)), decide_eq_false h106]; rfl)
          rw [e, hq]
          rfl
      · refine r_iload_n dX8_number_104 rfl (by rfl) ?_
        refine r_iload_n dX8_number_105 rfl (by rfl) ?_
        refine r_icmp_le (tgt := 121) dX8_number_106 (by decide) (fun h106 => ?_) (fun h106 => ?_)
        · refine r_iload_n dX8_number_121 rfl (by rfl) ?_
          refine r_iret rfl dX8_number_122 ?_
          have e : numOK g len a lo hv = true := by
            unfold numOK
            rw [h7, hq, decide_eq_false (nI_nlt h101 (by omega)), decide_eq_true h106]
            rfl
          refine ⟨?_, ?_⟩
          · rw [e]
            show _ = some (Value.int (nI (numV g len a)))
            unfold numV
            rw [hq]
          · unfold numX
            rw [if_pos h7, e, hq]
            rfl
        · refine r_aload_n dX8_number_109 rfl (by rfl) ?_
          refine r_iconst (v := nI 2) dX8_number_110 (by decide) ?_
          refine r_aload_n dX8_number_111 rfl (by rfl) ?_
          refine gf_X8_31 rfl dX8_number_112 (by first | assumption | rfl) (by rfl) ?_
          refine PW.topi (show _ = nI (skip g len a) by unfold nuS; rw [xu_k (by decide), xu_s]) ?_
          refine r_callV c_X8_fail mv_X8_fail ml_X8_40 ⟨by decide, by decide⟩ dX8_number_115 (by first | assumption | rfl) rfl rfl rfl (Nat.le_of_ble_eq_true rfl) (fun v9 x9 h9 => ?_)
          obtain ⟨rfl, h9⟩ := h9
          refine PW.xeq h9 ?_
          clear h9 x9
          refine r_pop dX8_number_118 rfl ?_
          refine r_iconst (v := -1) dX8_number_119 (by decide) ?_
          refine r_iret rfl dX8_number_120 ?_
          refine ⟨?_, ?_⟩
          · unfold numOK
            rw [h7, hq]
            first
              | (rw [decide_eq_true (nI_lt h101 (by omega))]; rfl)
              | (rw [decide_eq_false (nI_nlt h101 (by omega)), decide_eq_false h106]; rfl)
          · unfold numX
            rw [if_pos h7]
            have e : numOK g len a lo hv = false := by
              unfold numOK
              rw [h7, hq]
              first
                | (rw [decide_eq_true (nI_lt h101 (by omega))]; rfl)
                | (rw [decide_eq_false (nI_nlt h101 (by omega)), decide_eq_false h106]; rfl)
            rw [e, hq]
            rfl
    · refine r_aload_n dX8_number_43 rfl (by rfl) ?_
      refine gf_X8_9 rfl dX8_number_44 (by first | assumption | rfl) (by rfl) ?_
      refine r_aload_n dX8_number_47 rfl (by rfl) ?_
      refine gf_X8_22 rfl dX8_number_48 (by first | assumption | rfl) (by rfl) ?_
      refine PW.topi (show _ = nI b.1 from xu_s) ?_
      refine r_ialdN dX8_number_51 (by first | assumption | rfl) (by omega) (by decide) ?_
      refine PW.topi (show _ = nI (g b.1) by unfold nuS; rw [xu_n (by decide), xu_n (by decide)]; exact (hT.2.2.2.2 b.1 (by omega)).1) ?_
      have g6 := hgg b.1 (by omega)
      refine r_callS c_X8_isDigit ms_X8_isDigit ml_X8_48 ⟨by decide, by decide⟩ dX8_number_52 rfl (Nat.le_of_ble_eq_true rfl) (fun v9 x9 h9 => ?_)
      obtain ⟨rfl, h9⟩ := h9
      refine PW.xeq h9 ?_
      clear h9 x9
      rw [digN (by omega)]
      refine r_if_eqB (tgt := 99) dX8_number_55 (by decide) (fun h55 => ?_) (fun h55 => ?_)
      · have hq : (dg g len (skip g len a) 0) = (b.1, b.2) := by
          rw [← hb.2.2.2]
          exact dg_e (by first | (intro q; rw [h55] at q; exact absurd q.2 (by decide)) | omega)
        have hb1 := hb.2.2.1
        refine r_iload_n dX8_number_99 rfl (by rfl) ?_
        refine r_iload_n dX8_number_100 rfl (by rfl) ?_
        refine r_icmp_ltN (tgt := 109) dX8_number_101 (by decide) (by omega) (by omega) (fun h101 => ?_) (fun h101 => ?_)
        · refine r_aload_n dX8_number_109 rfl (by rfl) ?_
          refine r_iconst (v := nI 2) dX8_number_110 (by decide) ?_
          refine r_aload_n dX8_number_111 rfl (by rfl) ?_
          refine gf_X8_31 rfl dX8_number_112 (by first | assumption | rfl) (by rfl) ?_
          refine PW.topi (show _ = nI (skip g len a) by unfold nuS; rw [xu_k (by decide), xu_s]) ?_
          refine r_callV c_X8_fail mv_X8_fail ml_X8_40 ⟨by decide, by decide⟩ dX8_number_115 (by first | assumption | rfl) rfl rfl rfl (Nat.le_of_ble_eq_true rfl) (fun v9 x9 h9 => ?_)
          obtain ⟨rfl, h9⟩ := h9
          refine PW.xeq h9 ?_
          clear h9 x9
          refine r_pop dX8_number_118 rfl ?_
          refine r_iconst (v := -1) dX8_number_119 (by decide) ?_
          refine r_iret rfl dX8_number_120 ?_
          refine ⟨?_, ?_⟩
          · unfold numOK
            rw [h7, hq]
            first
              | (rw [decide_eq_true (nI_lt h101 (by omega))]; rfl)
              | (rw [decide_eq_false (nI_nlt h101 (by omega)), decide_eq_false h106]; rfl)
          · unfold numX
            rw [if_pos h7]
            have e : numOK g len a lo hv = false := by
              unfold numOK
              rw [h7, hq]
              first
                | (rw [decide_eq_true (nI_lt h101 (by omega))]; rfl)
                | (rw [decide_eq_false (nI_nlt h101 (by omega)), decide_eq_false h106]; rfl)
            rw [e, hq]
            rfl
        · refine r_iload_n dX8_number_104 rfl (by rfl) ?_
          refine r_iload_n dX8_number_105 rfl (by rfl) ?_
          refine r_icmp_le (tgt := 121) dX8_number_106 (by decide) (fun h106 => ?_) (fun h106 => ?_)
          · refine r_iload_n dX8_number_121 rfl (by rfl) ?_
            refine r_iret rfl dX8_number_122 ?_
            have e : numOK g len a lo hv = true := by
              unfold numOK
              rw [h7, hq, decide_eq_false (nI_nlt h101 (by omega)), decide_eq_true h106]
              rfl
            refine ⟨?_, ?_⟩
            · rw [e]
              show _ = some (Value.int (nI (numV g len a)))
              unfold numV
              rw [hq]
            · unfold numX
              rw [if_pos h7, e, hq]
              rfl
          · refine r_aload_n dX8_number_109 rfl (by rfl) ?_
            refine r_iconst (v := nI 2) dX8_number_110 (by decide) ?_
            refine r_aload_n dX8_number_111 rfl (by rfl) ?_
            refine gf_X8_31 rfl dX8_number_112 (by first | assumption | rfl) (by rfl) ?_
            refine PW.topi (show _ = nI (skip g len a) by unfold nuS; rw [xu_k (by decide), xu_s]) ?_
            refine r_callV c_X8_fail mv_X8_fail ml_X8_40 ⟨by decide, by decide⟩ dX8_number_115 (by first | assumption | rfl) rfl rfl rfl (Nat.le_of_ble_eq_true rfl) (fun v9 x9 h9 => ?_)
            obtain ⟨rfl, h9⟩ := h9
            refine PW.xeq h9 ?_
            clear h9 x9
            refine r_pop dX8_number_118 rfl ?_
            refine r_iconst (v := -1) dX8_number_119 (by decide) ?_
            refine r_iret rfl dX8_number_120 ?_
            refine ⟨?_, ?_⟩
            · unfold numOK
              rw [h7, hq]
              first
                | (rw [decide_eq_true (nI_lt h101 (by omega))]; rfl)
                | (rw [decide_eq_false (nI_nlt h101 (by omega)), decide_eq_false h106]; rfl)
            · unfold numX
              rw [if_pos h7]
              have e : numOK g len a lo hv = false := by
                unfold numOK
                rw [h7, hq]
                first
                  | (rw [decide_eq_true (nI_lt h101 (by omega))]; rfl)
                  | (rw [decide_eq_false (nI_nlt h101 (by omega)), decide_eq_false h106]; rfl)
              rw [e, hq]
              rfl
      · refine r_iload_n dX8_number_58 rfl (by rfl) ?_
        refine r_ldc kc_X8_52 dX8_number_59 ?_
        refine PW.topi (show (100000 : Int32) = nI 100000 from rfl) ?_
        have hd9 := isD_iff.mp h55
        refine r_icmp_geN (tgt := 84) dX8_number_61 (by decide) (by omega) (by omega) (fun h61 => ?_) (fun h61 => ?_)
        · refine r_iload_n dX8_number_84 rfl (by rfl) ?_
          refine r_istore_n dX8_number_85 rfl (by decide) ?_
          refine r_aload_n dX8_number_86 rfl (by rfl) ?_
          refine r_dup dX8_number_87 rfl ?_
          refine gf_X8_22 rfl dX8_number_88 (by first | assumption | rfl) (by rfl) ?_
          refine PW.topi (show _ = nI b.1 from xu_s) ?_
          refine r_iconst (v := nI 1) dX8_number_91 (by decide) ?_
          refine r_iaddN dX8_number_92 ?_
          refine pf_X8_22 rfl dX8_number_93 (by first | assumption | rfl) (by rfl) ?_
          refine r_goto (tgt := 32) dX8_number_96 (by decide) ?_
          have hv9 : (if b.2 < 100000 then b.2 * 10 + g b.1 - 48 else b.2) < 1000010 := by
            by_cases q : b.2 < 100000
            · rw [if_pos q]; omega
            · rw [if_neg q]; omega
          have e9 := dg_s (v := b.2) (show b.1 < len by omega) h55
          exact PW.lc (by first | (rw [show (if b.2 < 100000 then b.2 * 10 + g b.1 - 48 else b.2) = b.2 * 10 + g b.1 - 48 from if_pos h61]; rfl) | (rw [show (if b.2 < 100000 then b.2 * 10 + g b.1 - 48 else b.2) = b.2 from if_neg (by omega)]; rfl)) (by unfold nuS; rw [xu_xu]) (bh (b.1 + 1, if b.2 < 100000 then b.2 * 10 + g b.1 - 48 else b.2) ⟨by omega, by omega, hv9, by rw [← e9]; exact hb.2.2.2⟩ (by show len - (b.1 + 1) < len - b.1; omega))
        · refine r_iload_n dX8_number_64 rfl (by rfl) ?_
          refine r_bipush (v := nI 10) dX8_number_65 (by decide) ?_
          refine r_imulN dX8_number_67 ?_
          refine r_aload_n dX8_number_68 rfl (by rfl) ?_
          refine gf_X8_9 rfl dX8_number_69 (by first | assumption | rfl) (by rfl) ?_
          refine r_aload_n dX8_number_72 rfl (by rfl) ?_
          refine gf_X8_22 rfl dX8_number_73 (by first | assumption | rfl) (by rfl) ?_
          refine PW.topi (show _ = nI b.1 from xu_s) ?_
          refine r_ialdN dX8_number_76 (by first | assumption | rfl) (by omega) (by decide) ?_
          refine PW.topi (show _ = nI (g b.1) by unfold nuS; rw [xu_n (by decide), xu_n (by decide)]; exact (hT.2.2.2.2 b.1 (by omega)).1) ?_
          refine r_iaddN dX8_number_77 ?_
          refine r_bipush (v := nI 48) dX8_number_78 (by decide) ?_
          refine r_isubN dX8_number_80 (by omega) ?_
          refine r_goto (tgt := 85) dX8_number_81 (by decide) ?_
          refine r_istore_n dX8_number_85 rfl (by decide) ?_
          refine r_aload_n dX8_number_86 rfl (by rfl) ?_
          refine r_dup dX8_number_87 rfl ?_
          refine gf_X8_22 rfl dX8_number_88 (by first | assumption | rfl) (by rfl) ?_
          refine PW.topi (show _ = nI b.1 from xu_s) ?_
          refine r_iconst (v := nI 1) dX8_number_91 (by decide) ?_
          refine r_iaddN dX8_number_92 ?_
          refine pf_X8_22 rfl dX8_number_93 (by first | assumption | rfl) (by rfl) ?_
          refine r_goto (tgt := 32) dX8_number_96 (by decide) ?_
          have hv9 : (if b.2 < 100000 then b.2 * 10 + g b.1 - 48 else b.2) < 1000010 := by
            by_cases q : b.2 < 100000
            · rw [if_pos q]; omega
            · rw [if_neg q]; omega
          have e9 := dg_s (v := b.2) (show b.1 < len by omega) h55
          exact PW.lc (by first | (rw [show (if b.2 < 100000 then b.2 * 10 + g b.1 - 48 else b.2) = b.2 * 10 + g b.1 - 48 from if_pos h61]; rfl) | (rw [show (if b.2 < 100000 then b.2 * 10 + g b.1 - 48 else b.2) = b.2 from if_neg (by omega)]; rfl)) (by unfold nuS; rw [xu_xu]) (bh (b.1 + 1, if b.2 < 100000 then b.2 * 10 + g b.1 - 48 else b.2) ⟨by omega, by omega, hv9, by rw [← e9]; exact hb.2.2.2⟩ (by show len - (b.1 + 1) < len - b.1; omega))
  · refine r_aload_n dX8_number_10 rfl (by rfl) ?_
    refine r_iconst (v := nI 1) dX8_number_11 (by decide) ?_
    refine r_aload_n dX8_number_12 rfl (by rfl) ?_
    refine gf_X8_22 rfl dX8_number_13 (by first | assumption | rfl) (by rfl) ?_
    refine PW.topi (show _ = nI (skip g len a) from xu_s) ?_
    refine r_callV c_X8_fail mv_X8_fail ml_X8_40 ⟨by decide, by decide⟩ dX8_number_16 (by first | assumption | rfl) rfl rfl rfl (Nat.le_of_ble_eq_true rfl) (fun v9 x9 h9 => ?_)
    obtain ⟨rfl, h9⟩ := h9
    refine PW.xeq h9 ?_
    clear h9 x9
    refine r_pop dX8_number_19 rfl ?_
    refine r_iconst (v := -1) dX8_number_20 (by decide) ?_
    refine r_iret rfl dX8_number_21 ?_
    refine ⟨?_, ?_⟩
    · unfold numOK
      rw [h7]
      rfl
    · unfold numX
      rw [h7]
      rfl
