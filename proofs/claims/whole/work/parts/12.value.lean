/-! LAW: value -/
theorem xu_xr (x : XS) (c k : Nat) (s : Nat → Int32) (v : Int32) : xu (xr x c s) c k v = xr x c (upd s k v) := by
  funext j
  by_cases h : j = c
  · subst h
    unfold xu
    rw [xr_s, xr_s, xr_s]
  · unfold xu
    rw [xr_n h, xr_n h, xr_n h]
theorem xr_id (x : XS) (c : Nat) : xr x c (x c) = x := by
  funext j
  by_cases h : j = c
  · subst h; rw [xr_s]
  · rw [xr_n h]
theorem nI_dec {n : Nat} (h : 0 < n) : nI n + Int32.ofInt (-1) = nI (n - 1) := by
  obtain ⟨k, rfl⟩ : ∃ k, n = k + 1 := ⟨n - 1, by omega⟩
  exact pk_m1 k
theorem vp_of {w : Int32} {n : Nat} (h0 : ¬ w < 0) (h1 : ¬ nI n ≤ w) (hn : n < 2 ^ 31) : vp_in w n := by
  rcases pk_ix w hn with h | h | ⟨j, hj, rfl⟩
  · exact absurd h h0
  · exact absurd h h1
  · exact vp_in_nI hj hn
def pushC (g : Nat → Int32) (c : Int32) : Int32 := if c - nI 1000 < 0 then c else if nI 9 ≤ c - nI 1000 then c else g (c - nI 1000).toNatClampNeg
def stepC (g : Nat → Int32) (c : Int32) (s : Nat × (Nat → Int32)) : Nat × (Nat → Int32) :=
  if c < nI 2000 then (if 32 ≤ s.1 then s else (s.1 + 1, upd s.2 s.1 (pushC g c)))
  else if s.1 < 2 then s else (s.1 - 1, upd s.2 (s.1 - 1 - 1) (joinC c (s.2 (s.1 - 1 - 1)) (s.2 (s.1 - 1))))
/-- the stack behind i codes -/
def runC (code g s0 : Nat → Int32) : Nat → Nat × (Nat → Int32)
  | 0 => (0, s0)
  | i + 1 => stepC g (code i) (runC code g s0 i)
theorem runC_le (code g s0 : Nat → Int32) : ∀ i, (runC code g s0 i).1 ≤ 32
  | 0 => Nat.zero_le _
  | i + 1 => by
    have h := runC_le code g s0 i
    show (stepC g (code i) (runC code g s0 i)).1 ≤ 32
    unfold stepC
    split
    · split
      · exact h
      · show _ + 1 ≤ 32
        omega
    · split
      · exact h
      · show _ - 1 ≤ 32
        omega
def valC (code g s0 : Nat → Int32) (n : Nat) : Int32 := if 0 < (runC code g s0 n).1 then (runC code g s0 n).2 0 else 0

set_option maxHeartbeats 8000000 in
set_option maxRecDepth 20000 in
theorem c_X5_value {c0 cg sz : Nat} {x : XS} (hL : IsL c0) (hg : lay cg = .inr (.inl 9)) (hg2 : cg ≠ c0 + 2) (hz : x c0 1 = nI sz) (hs : sz ≤ 150) : MM mX5_value 1 0 0 [.ref c0, .ref cg] x (fun v x1 => v = some (.int (valC (x (c0 + 1)) (x cg) (x (c0 + 2)) sz)) ∧ x1 = xr x (c0 + 2) (runC (x (c0 + 1)) (x cg) (x (c0 + 2)) sz).2) NoT := by
  refine MM.of (by decide) (Nat.le_of_ble_eq_true rfl) ?_
  have l0 := l_o hL
  have l1 := l_1 hL
  have l2 := l_2 hL
  refine r_iconst (v := nI 0) dX5_value_0 (by decide) ?_
  refine r_istore_n dX5_value_1 rfl (by decide) ?_
  refine r_iconst (v := nI 0) dX5_value_2 (by decide) ?_
  refine r_istore_n dX5_value_3 rfl (by decide) ?_
  refine PW.loop (σ := Nat) (fun i => sz - i) (fun i => i ≤ sz) (fun i => [(0, .ref c0), (1, .ref cg), (2, .int (nI (runC (x (c0 + 1)) (x cg) (x (c0 + 2)) i).1)), (3, .int (nI i))]) (fun i => xr x (c0 + 2) (runC (x (c0 + 1)) (x cg) (x (c0 + 2)) i).2) (0) (Nat.zero_le sz) rfl (xr_id x (c0 + 2)).symm (fun i hi ih => ?_)
  have hle := runC_le (x (c0 + 1)) (x cg) (x (c0 + 2)) i
  refine r_iload_n dX5_value_4 rfl (by rfl) ?_
  refine r_aload_n dX5_value_5 rfl (by rfl) ?_
  refine gf_X5_15 rfl dX5_value_6 (by first | assumption | rfl) (by rfl) ?_
  refine PW.topi (show xr x (c0 + 2) (runC (x (c0 + 1)) (x cg) (x (c0 + 2)) i).2 c0 1 = nI sz by rw [xr_n (by omega)]; exact hz) ?_
  refine r_icmp_geN (tgt := 119) dX5_value_9 (by decide) (by omega) (by omega) (fun h9 => ?_) (fun h9 => ?_)
  · refine r_iload_n dX5_value_119 rfl (by rfl) ?_
    refine r_if_le (tgt := 132) dX5_value_120 (by decide) (fun h120 => ?_) (fun h120 => ?_)
    · refine r_iconst (v := nI 0) dX5_value_132 (by decide) ?_
      refine r_iret rfl dX5_value_133 ?_
      have e : i = sz := by omega
      subst e
      refine ⟨?_, rfl⟩
      unfold valC
      first
        | rw [if_pos (by have := nI_pos' (n := (runC (x (c0 + 1)) (x cg) (x (c0 + 2)) i).1) (by have := runC_le (x (c0 + 1)) (x cg) (x (c0 + 2)) i; omega); rcases Nat.eq_zero_or_pos (runC (x (c0 + 1)) (x cg) (x (c0 + 2)) i).1 with z | z; (rw [z] at h120; exact absurd (by decide) h120); exact z)]
        | (rw [if_neg (by intro z; exact absurd h120 (nI_nle z (by have := runC_le (x (c0 + 1)) (x cg) (x (c0 + 2)) i; omega)))]; rfl)
    · refine r_aload_n dX5_value_123 rfl (by rfl) ?_
      refine gf_X5_19 rfl dX5_value_124 (by first | assumption | rfl) (by rfl) ?_
      refine r_iconst (v := nI 0) dX5_value_127 (by decide) ?_
      refine r_ialdN dX5_value_128 (by first | assumption | rfl) (by omega) (by decide) ?_
      refine PW.topi (show _ = (runC (x (c0 + 1)) (x cg) (x (c0 + 2)) i).2 0 by rw [xr_s]) ?_
      refine r_goto (tgt := 133) dX5_value_129 (by decide) ?_
      refine r_iret rfl dX5_value_133 ?_
      have e : i = sz := by omega
      subst e
      refine ⟨?_, rfl⟩
      unfold valC
      first
        | rw [if_pos (by have := nI_pos' (n := (runC (x (c0 + 1)) (x cg) (x (c0 + 2)) i).1) (by have := runC_le (x (c0 + 1)) (x cg) (x (c0 + 2)) i; omega); rcases Nat.eq_zero_or_pos (runC (x (c0 + 1)) (x cg) (x (c0 + 2)) i).1 with z | z; (rw [z] at h120; exact absurd (by decide) h120); exact z)]
        | (rw [if_neg (by intro z; exact absurd h120 (nI_nle z (by have := runC_le (x (c0 + 1)) (x cg) (x (c0 + 2)) i; omega)))]; rfl)
  · refine r_aload_n dX5_value_12 rfl (by rfl) ?_
    refine gf_X5_9 rfl dX5_value_13 (by first | assumption | rfl) (by rfl) ?_
    refine r_iload_n dX5_value_16 rfl (by rfl) ?_
    refine r_ialdN dX5_value_17 (by first | assumption | rfl) (by omega) (by decide) ?_
    refine PW.topi (show _ = x (c0 + 1) i by rw [xr_n (by omega)]) ?_
    refine r_istore dX5_value_18 (by decide) ?_
    refine r_iload dX5_value_20 (by rfl) ?_
    refine r_sipush (v := nI 2000) dX5_value_22 (by decide) ?_
    refine r_icmp_lt (tgt := 66) dX5_value_25 (by decide) (fun h25 => ?_) (fun h25 => ?_)
    · refine r_iload_n dX5_value_66 rfl (by rfl) ?_
      refine r_aload_n dX5_value_67 rfl (by rfl) ?_
      refine gf_X5_19 rfl dX5_value_68 (by first | assumption | rfl) (by rfl) ?_
      refine r_alen dX5_value_71 (by first | assumption | rfl) (by decide) rfl ?_
      refine r_icmp_geN (tgt := 113) dX5_value_72 (by decide) (by omega) (by omega) (fun h72 => ?_) (fun h72 => ?_)
      · have e : runC (x (c0 + 1)) (x cg) (x (c0 + 2)) (i + 1) = stepC (x cg) (x (c0 + 1) i) (runC (x (c0 + 1)) (x cg) (x (c0 + 2)) i) := rfl
        unfold stepC at e
        first
          | (rw [if_neg h25, if_pos h30] at e)
          | (rw [if_neg h25, if_neg (by omega)] at e)
          | (rw [if_pos h25, if_pos h72] at e)
          | (rw [if_pos h25, if_neg (by omega)] at e)
        refine PW.lc (L' := [(0, .ref c0), (1, .ref cg), (2, .int (nI (runC (x (c0 + 1)) (x cg) (x (c0 + 2)) (i + 1)).1)), (3, .int (nI i))]) (x' := xr x (c0 + 2) (runC (x (c0 + 1)) (x cg) (x (c0 + 2)) (i + 1)).2) (by first | (rw [e]; done) | (rw [e]; rfl)) (by first | (rw [e]; done) | (rw [e]; rfl) | (rw [e, xu_xr]; done) | (rw [e, xu_xr]; unfold pushC; first | (rw [if_pos h90]; done) | (rw [if_neg h90, if_pos h97]; done) | (rw [if_neg h90, if_neg h97]; done))) ?_
        refine r_iincN dX5_value_113 (by rfl) (by decide) ?_
        refine r_goto (tgt := 4) dX5_value_116 (by decide) ?_
        exact PW.lc (by rfl) rfl (ih (i + 1) (by omega) (by omega))
      · refine r_iload dX5_value_75 (by rfl) ?_
        refine r_sipush (v := nI 1000) dX5_value_77 (by decide) ?_
        refine r_isub dX5_value_80 ?_
        refine r_istore dX5_value_81 (by decide) ?_
        refine r_aload_n dX5_value_83 rfl (by rfl) ?_
        refine gf_X5_19 rfl dX5_value_84 (by first | assumption | rfl) (by rfl) ?_
        refine r_iload_n dX5_value_87 rfl (by rfl) ?_
        refine r_iload dX5_value_88 (by rfl) ?_
        refine r_if_lt (tgt := 107) dX5_value_90 (by decide) (fun h90 => ?_) (fun h90 => ?_)
        · refine r_iload dX5_value_107 (by rfl) ?_
          refine r_iastN dX5_value_109 (by first | assumption | rfl) (by omega) (by decide) ?_
          refine r_iincN dX5_value_110 (by rfl) (by decide) ?_
          have e : runC (x (c0 + 1)) (x cg) (x (c0 + 2)) (i + 1) = stepC (x cg) (x (c0 + 1) i) (runC (x (c0 + 1)) (x cg) (x (c0 + 2)) i) := rfl
          unfold stepC at e
          first
            | (rw [if_neg h25, if_pos h30] at e)
            | (rw [if_neg h25, if_neg (by omega)] at e)
            | (rw [if_pos h25, if_pos h72] at e)
            | (rw [if_pos h25, if_neg (by omega)] at e)
          refine PW.lc (L' := [(0, .ref c0), (1, .ref cg), (2, .int (nI (runC (x (c0 + 1)) (x cg) (x (c0 + 2)) (i + 1)).1)), (3, .int (nI i))]) (x' := xr x (c0 + 2) (runC (x (c0 + 1)) (x cg) (x (c0 + 2)) (i + 1)).2) (by first | (rw [e]; done) | (rw [e]; rfl)) (by first | (rw [e]; done) | (rw [e]; rfl) | (rw [e, xu_xr]; done) | (rw [e, xu_xr]; unfold pushC; first | (rw [if_pos h90]; done) | (rw [if_neg h90, if_pos h97]; done) | (rw [if_neg h90, if_neg h97]; done))) ?_
          refine r_iincN dX5_value_113 (by rfl) (by decide) ?_
          refine r_goto (tgt := 4) dX5_value_116 (by decide) ?_
          exact PW.lc (by rfl) rfl (ih (i + 1) (by omega) (by omega))
        · refine r_iload dX5_value_93 (by rfl) ?_
          refine r_aload_n dX5_value_95 rfl (by rfl) ?_
          refine r_alen dX5_value_96 (by first | assumption | rfl) (by decide) rfl ?_
          refine r_icmp_ge (tgt := 107) dX5_value_97 (by decide) (fun h97 => ?_) (fun h97 => ?_)
          · refine r_iload dX5_value_107 (by rfl) ?_
            refine r_iastN dX5_value_109 (by first | assumption | rfl) (by omega) (by decide) ?_
            refine r_iincN dX5_value_110 (by rfl) (by decide) ?_
            have e : runC (x (c0 + 1)) (x cg) (x (c0 + 2)) (i + 1) = stepC (x cg) (x (c0 + 1) i) (runC (x (c0 + 1)) (x cg) (x (c0 + 2)) i) := rfl
            unfold stepC at e
            first
              | (rw [if_neg h25, if_pos h30] at e)
              | (rw [if_neg h25, if_neg (by omega)] at e)
              | (rw [if_pos h25, if_pos h72] at e)
              | (rw [if_pos h25, if_neg (by omega)] at e)
            refine PW.lc (L' := [(0, .ref c0), (1, .ref cg), (2, .int (nI (runC (x (c0 + 1)) (x cg) (x (c0 + 2)) (i + 1)).1)), (3, .int (nI i))]) (x' := xr x (c0 + 2) (runC (x (c0 + 1)) (x cg) (x (c0 + 2)) (i + 1)).2) (by first | (rw [e]; done) | (rw [e]; rfl)) (by first | (rw [e]; done) | (rw [e]; rfl) | (rw [e, xu_xr]; done) | (rw [e, xu_xr]; unfold pushC; first | (rw [if_pos h90]; done) | (rw [if_neg h90, if_pos h97]; done) | (rw [if_neg h90, if_neg h97]; done))) ?_
            refine r_iincN dX5_value_113 (by rfl) (by decide) ?_
            refine r_goto (tgt := 4) dX5_value_116 (by decide) ?_
            exact PW.lc (by rfl) rfl (ih (i + 1) (by omega) (by omega))
          · refine r_aload_n dX5_value_100 rfl (by rfl) ?_
            refine r_iload dX5_value_101 (by rfl) ?_
            refine r_iald dX5_value_103 (by assumption) (vp_of h90 h97 (by decide)) ?_
            refine PW.topi (show _ = x cg (x (c0 + 1) i - nI 1000).toNatClampNeg by rw [xr_n hg2]) ?_
            refine r_goto (tgt := 109) dX5_value_104 (by decide) ?_
            refine r_iastN dX5_value_109 (by first | assumption | rfl) (by omega) (by decide) ?_
            refine r_iincN dX5_value_110 (by rfl) (by decide) ?_
            have e : runC (x (c0 + 1)) (x cg) (x (c0 + 2)) (i + 1) = stepC (x cg) (x (c0 + 1) i) (runC (x (c0 + 1)) (x cg) (x (c0 + 2)) i) := rfl
            unfold stepC at e
            first
              | (rw [if_neg h25, if_pos h30] at e)
              | (rw [if_neg h25, if_neg (by omega)] at e)
              | (rw [if_pos h25, if_pos h72] at e)
              | (rw [if_pos h25, if_neg (by omega)] at e)
            refine PW.lc (L' := [(0, .ref c0), (1, .ref cg), (2, .int (nI (runC (x (c0 + 1)) (x cg) (x (c0 + 2)) (i + 1)).1)), (3, .int (nI i))]) (x' := xr x (c0 + 2) (runC (x (c0 + 1)) (x cg) (x (c0 + 2)) (i + 1)).2) (by first | (rw [e]; done) | (rw [e]; rfl)) (by first | (rw [e]; done) | (rw [e]; rfl) | (rw [e, xu_xr]; done) | (rw [e, xu_xr]; unfold pushC; first | (rw [if_pos h90]; done) | (rw [if_neg h90, if_pos h97]; done) | (rw [if_neg h90, if_neg h97]; done))) ?_
            refine r_iincN dX5_value_113 (by rfl) (by decide) ?_
            refine r_goto (tgt := 4) dX5_value_116 (by decide) ?_
            exact PW.lc (by rfl) rfl (ih (i + 1) (by omega) (by omega))
    · refine r_iload_n dX5_value_28 rfl (by rfl) ?_
      refine r_iconst (v := nI 2) dX5_value_29 (by decide) ?_
      refine r_icmp_ltN (tgt := 113) dX5_value_30 (by decide) (by omega) (by omega) (fun h30 => ?_) (fun h30 => ?_)
      · have e : runC (x (c0 + 1)) (x cg) (x (c0 + 2)) (i + 1) = stepC (x cg) (x (c0 + 1) i) (runC (x (c0 + 1)) (x cg) (x (c0 + 2)) i) := rfl
        unfold stepC at e
        first
          | (rw [if_neg h25, if_pos h30] at e)
          | (rw [if_neg h25, if_neg (by omega)] at e)
          | (rw [if_pos h25, if_pos h72] at e)
          | (rw [if_pos h25, if_neg (by omega)] at e)
        refine PW.lc (L' := [(0, .ref c0), (1, .ref cg), (2, .int (nI (runC (x (c0 + 1)) (x cg) (x (c0 + 2)) (i + 1)).1)), (3, .int (nI i))]) (x' := xr x (c0 + 2) (runC (x (c0 + 1)) (x cg) (x (c0 + 2)) (i + 1)).2) (by first | (rw [e]; done) | (rw [e]; rfl)) (by first | (rw [e]; done) | (rw [e]; rfl) | (rw [e, xu_xr]; done) | (rw [e, xu_xr]; unfold pushC; first | (rw [if_pos h90]; done) | (rw [if_neg h90, if_pos h97]; done) | (rw [if_neg h90, if_neg h97]; done))) ?_
        refine r_iincN dX5_value_113 (by rfl) (by decide) ?_
        refine r_goto (tgt := 4) dX5_value_116 (by decide) ?_
        exact PW.lc (by rfl) rfl (ih (i + 1) (by omega) (by omega))
      · refine r_iinc (w := nI ((runC (x (c0 + 1)) (x cg) (x (c0 + 2)) i).1 - 1)) dX5_value_33 (by rfl) (nI_dec (by omega)) (by decide) ?_
        refine r_aload_n dX5_value_36 rfl (by rfl) ?_
        refine gf_X5_19 rfl dX5_value_37 (by first | assumption | rfl) (by rfl) ?_
        refine r_iload_n dX5_value_40 rfl (by rfl) ?_
        refine r_iconst (v := nI 1) dX5_value_41 (by decide) ?_
        refine r_isubN dX5_value_42 (by omega) ?_
        refine r_iload dX5_value_43 (by rfl) ?_
        refine r_aload_n dX5_value_45 rfl (by rfl) ?_
        refine gf_X5_19 rfl dX5_value_46 (by first | assumption | rfl) (by rfl) ?_
        refine r_iload_n dX5_value_49 rfl (by rfl) ?_
        refine r_iconst (v := nI 1) dX5_value_50 (by decide) ?_
        refine r_isubN dX5_value_51 (by omega) ?_
        refine r_ialdN dX5_value_52 (by first | assumption | rfl) (by omega) (by decide) ?_
        refine PW.topi (show _ = (runC (x (c0 + 1)) (x cg) (x (c0 + 2)) i).2 ((runC (x (c0 + 1)) (x cg) (x (c0 + 2)) i).1 - 1 - 1) by rw [xr_s]) ?_
        refine r_aload_n dX5_value_53 rfl (by rfl) ?_
        refine gf_X5_19 rfl dX5_value_54 (by first | assumption | rfl) (by rfl) ?_
        refine r_iload_n dX5_value_57 rfl (by rfl) ?_
        refine r_ialdN dX5_value_58 (by first | assumption | rfl) (by omega) (by decide) ?_
        refine PW.topi (show _ = (runC (x (c0 + 1)) (x cg) (x (c0 + 2)) i).2 ((runC (x (c0 + 1)) (x cg) (x (c0 + 2)) i).1 - 1) by rw [xr_s]) ?_
        refine r_callS c_X5_join ms_X5_join ml_X5_92 ⟨by decide, by decide⟩ dX5_value_59 rfl (Nat.le_of_ble_eq_true rfl) (fun v9 x9 h9 => ?_)
        obtain ⟨rfl, h9⟩ := h9
        refine PW.xeq h9 ?_
        clear h9 x9
        refine r_iastN dX5_value_62 (by first | assumption | rfl) (by omega) (by decide) ?_
        refine r_goto (tgt := 113) dX5_value_63 (by decide) ?_
        have e : runC (x (c0 + 1)) (x cg) (x (c0 + 2)) (i + 1) = stepC (x cg) (x (c0 + 1) i) (runC (x (c0 + 1)) (x cg) (x (c0 + 2)) i) := rfl
        unfold stepC at e
        first
          | (rw [if_neg h25, if_pos h30] at e)
          | (rw [if_neg h25, if_neg (by omega)] at e)
          | (rw [if_pos h25, if_pos h72] at e)
          | (rw [if_pos h25, if_neg (by omega)] at e)
        refine PW.lc (L' := [(0, .ref c0), (1, .ref cg), (2, .int (nI (runC (x (c0 + 1)) (x cg) (x (c0 + 2)) (i + 1)).1)), (3, .int (nI i))]) (x' := xr x (c0 + 2) (runC (x (c0 + 1)) (x cg) (x (c0 + 2)) (i + 1)).2) (by first | (rw [e]; done) | (rw [e]; rfl)) (by first | (rw [e]; done) | (rw [e]; rfl) | (rw [e, xu_xr]; done) | (rw [e, xu_xr]; unfold pushC; first | (rw [if_pos h90]; done) | (rw [if_neg h90, if_pos h97]; done) | (rw [if_neg h90, if_neg h97]; done))) ?_
        refine r_iincN dX5_value_113 (by rfl) (by decide) ?_
        refine r_goto (tgt := 4) dX5_value_116 (by decide) ?_
        exact PW.lc (by rfl) rfl (ih (i + 1) (by omega) (by omega))
